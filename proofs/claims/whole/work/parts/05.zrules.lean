def ju (x k : Int32) : Int32 := (x.toUInt32 >>> (k.toUInt32 &&& Int32.toUInt32 31)).toInt32
theorem z_iconst {M : zM} {d mc ms pc q : Nat} {ls : zL} {st : List Value} {h : zH} {k n : Nat} {X : zX} {z : Int} {v : Int32} (hd : decode M.2.1 pc = .ok (.iconst z, 1)) (hv : Int32.ofInt z = v) (hq : pc + 1 = q) (kk : ZW M d mc ms q ls (.int v :: st) h k n X) : ZW M d mc ms pc ls (st) h k n X := by
  subst hq
  intro l p e s m args below meth c Q G F E H locs arr hR hS hL
  exact lv_iconst F.1 F.2.1  hd hv (kk l p e s m args below meth c Q G F E H locs arr hR hS hL)
theorem z_bipush {M : zM} {d mc ms pc q : Nat} {ls : zL} {st : List Value} {h : zH} {k n : Nat} {X : zX} {z : Int} {v : Int32} (hd : decode M.2.1 pc = .ok (.bipush z, 2)) (hv : (Int8.ofInt z).toInt32 = v) (hq : pc + 2 = q) (kk : ZW M d mc ms q ls (.int v :: st) h k n X) : ZW M d mc ms pc ls (st) h k n X := by
  subst hq
  intro l p e s m args below meth c Q G F E H locs arr hR hS hL
  exact lv_bipush F.1 F.2.1  hd hv (kk l p e s m args below meth c Q G F E H locs arr hR hS hL)
theorem z_sipush {M : zM} {d mc ms pc q : Nat} {ls : zL} {st : List Value} {h : zH} {k n : Nat} {X : zX} {z : Int} {v : Int32} (hd : decode M.2.1 pc = .ok (.sipush z, 3)) (hv : (Int16.ofInt z).toInt32 = v) (hq : pc + 3 = q) (kk : ZW M d mc ms q ls (.int v :: st) h k n X) : ZW M d mc ms pc ls (st) h k n X := by
  subst hq
  intro l p e s m args below meth c Q G F E H locs arr hR hS hL
  exact lv_sipush F.1 F.2.1  hd hv (kk l p e s m args below meth c Q G F E H locs arr hR hS hL)
theorem z_lconst {M : zM} {d mc ms pc q : Nat} {ls : zL} {st : List Value} {h : zH} {k n : Nat} {X : zX} {z : Fin 2} {v : Int64} (hd : decode M.2.1 pc = .ok (.lconst z, 1)) (hv : Int64.ofNat (z : Nat) = v) (hq : pc + 1 = q) (kk : ZW M d mc ms q ls (.long v :: st) h k n X) : ZW M d mc ms pc ls (st) h k n X := by
  subst hq
  intro l p e s m args below meth c Q G F E H locs arr hR hS hL
  exact lv_lconst F.1 F.2.1  hd hv (kk l p e s m args below meth c Q G F E H locs arr hR hS hL)
theorem z_ldc {M : zM} {d mc ms pc q : Nat} {ls : zL} {st : List Value} {h : zH} {k n : Nat} {X : zX} {i : Nat} {v : Int32} (hd : decode M.2.1 pc = .ok (.ldc i, 2)) (hw : Cond.constant M.1.cls i v ∈ zts) (hq : pc + 2 = q) (kk : ZW M d mc ms q ls (.int v :: st) h k n X) : ZW M d mc ms pc ls st h k n X := by
  subst hq
  intro l p e s m args below meth c Q G F E H locs arr hR hS hL
  exact lv_ldc F.1 F.2.1 F.2.2.2.2.1 (F.2.2.2.2.2.1 _ hw) hd (kk l p e s m args below meth c Q G F E H locs arr hR hS hL)
theorem z_ldcw {M : zM} {d mc ms pc q : Nat} {ls : zL} {st : List Value} {h : zH} {k n : Nat} {X : zX} {i : Nat} {v : Int32} (hd : decode M.2.1 pc = .ok (.ldc_w i, 3)) (hw : Cond.constant M.1.cls i v ∈ zts) (hq : pc + 3 = q) (kk : ZW M d mc ms q ls (.int v :: st) h k n X) : ZW M d mc ms pc ls st h k n X := by
  subst hq
  intro l p e s m args below meth c Q G F E H locs arr hR hS hL
  exact lv_ldcw F.1 F.2.1 F.2.2.2.2.1 (F.2.2.2.2.2.1 _ hw) hd (kk l p e s m args below meth c Q G F E H locs arr hR hS hL)
theorem z_ldc2 {M : zM} {d mc ms pc q : Nat} {ls : zL} {st : List Value} {h : zH} {k n : Nat} {X : zX} {i : Nat} {v : Int64} (hd : decode M.2.1 pc = .ok (.ldc2_w i, 3)) (hw : Cond.constantLong M.1.cls i v ∈ zts) (hq : pc + 3 = q) (kk : ZW M d mc ms q ls (.long v :: st) h k n X) : ZW M d mc ms pc ls st h k n X := by
  subst hq
  intro l p e s m args below meth c Q G F E H locs arr hR hS hL
  exact lv_ldc2 F.1 F.2.1 F.2.2.2.2.1 (F.2.2.2.2.2.1 _ hw) hd (kk l p e s m args below meth c Q G F E H locs arr hR hS hL)
theorem z_iload_n {M : zM} {d mc ms pc q : Nat} {ls : zL} {st : List Value} {h : zH} {k n : Nat} {X : zX} {w : Fin 4} {i : Nat} {x : Int32} (hd : decode M.2.1 pc = .ok (.iload_n w, 1)) (hi : (w : Nat) = i) (hl : ls[i]? = some (some (.int x))) (hq : pc + 1 = q) (kk : ZW M d mc ms q ls (.int x :: st) h k n X) : ZW M d mc ms pc ls st h k n X := by
  subst hq
  intro l p e s m args below meth c Q G F E H locs arr hR hS hL
  exact lv_iload_n F.1 F.2.1 hd hi (hL.at hl) (kk l p e s m args below meth c Q G F E H locs arr hR hS hL)
theorem z_iload {M : zM} {d mc ms pc q : Nat} {ls : zL} {st : List Value} {h : zH} {k n : Nat} {X : zX} {i : Nat} {x : Int32} (hd : decode M.2.1 pc = .ok (.iload i, 2)) (hl : ls[i]? = some (some (.int x))) (hq : pc + 2 = q) (kk : ZW M d mc ms q ls (.int x :: st) h k n X) : ZW M d mc ms pc ls st h k n X := by
  subst hq
  intro l p e s m args below meth c Q G F E H locs arr hR hS hL
  exact lv_iload F.1 F.2.1 hd (hL.at hl) (kk l p e s m args below meth c Q G F E H locs arr hR hS hL)
theorem z_lload_n {M : zM} {d mc ms pc q : Nat} {ls : zL} {st : List Value} {h : zH} {k n : Nat} {X : zX} {w : Fin 4} {i : Nat} {x : Int64} (hd : decode M.2.1 pc = .ok (.lload_n w, 1)) (hi : (w : Nat) = i) (hl : ls[i]? = some (some (.long x))) (hq : pc + 1 = q) (kk : ZW M d mc ms q ls (.long x :: st) h k n X) : ZW M d mc ms pc ls st h k n X := by
  subst hq
  intro l p e s m args below meth c Q G F E H locs arr hR hS hL
  exact lv_lload_n F.1 F.2.1 hd hi (hL.at hl) (kk l p e s m args below meth c Q G F E H locs arr hR hS hL)
theorem z_lload {M : zM} {d mc ms pc q : Nat} {ls : zL} {st : List Value} {h : zH} {k n : Nat} {X : zX} {i : Nat} {x : Int64} (hd : decode M.2.1 pc = .ok (.lload i, 2)) (hl : ls[i]? = some (some (.long x))) (hq : pc + 2 = q) (kk : ZW M d mc ms q ls (.long x :: st) h k n X) : ZW M d mc ms pc ls st h k n X := by
  subst hq
  intro l p e s m args below meth c Q G F E H locs arr hR hS hL
  exact lv_lload F.1 F.2.1 hd (hL.at hl) (kk l p e s m args below meth c Q G F E H locs arr hR hS hL)
theorem z_aload_n {M : zM} {d mc ms pc q : Nat} {ls : zL} {st : List Value} {h : zH} {k n : Nat} {X : zX} {w : Fin 4} {i : Nat} {x : Nat} (hd : decode M.2.1 pc = .ok (.aload_n w, 1)) (hi : (w : Nat) = i) (hl : ls[i]? = some (some (.ref x))) (hq : pc + 1 = q) (kk : ZW M d mc ms q ls (.ref x :: st) h k n X) : ZW M d mc ms pc ls st h k n X := by
  subst hq
  intro l p e s m args below meth c Q G F E H locs arr hR hS hL
  exact lv_aload_n F.1 F.2.1 hd hi (hL.at hl) (kk l p e s m args below meth c Q G F E H locs arr hR hS hL)
theorem z_aload {M : zM} {d mc ms pc q : Nat} {ls : zL} {st : List Value} {h : zH} {k n : Nat} {X : zX} {i : Nat} {x : Nat} (hd : decode M.2.1 pc = .ok (.aload i, 2)) (hl : ls[i]? = some (some (.ref x))) (hq : pc + 2 = q) (kk : ZW M d mc ms q ls (.ref x :: st) h k n X) : ZW M d mc ms pc ls st h k n X := by
  subst hq
  intro l p e s m args below meth c Q G F E H locs arr hR hS hL
  exact lv_aload F.1 F.2.1 hd (hL.at hl) (kk l p e s m args below meth c Q G F E H locs arr hR hS hL)
theorem z_istore_n {M : zM} {d mc ms pc q : Nat} {ls : zL} {st : List Value} {h : zH} {k n : Nat} {X : zX} {w : Fin 4} {i : Nat} {ls' : zL} {x : Int32} (hd : decode M.2.1 pc = .ok (.istore_n w, 1)) (hi : (w : Nat) = i) (hn : i < M.2.2.1) (hs : zset1 ls i (.int x) = ls') (hq : pc + 1 = q) (kk : ZW M d mc ms q ls' st h k n X) : ZW M d mc ms pc ls (.int x :: st) h k n X := by
  subst hq
  subst hs
  intro l p e s m args below meth c Q G F E H locs arr hR hS hL
  exact lv_istore_n F.1 F.2.1 hd hi hL hn rfl (fun arr' hL' => kk l p e s m args below meth c Q G F E H locs arr' hR hS (zLs.set1 hL'))
theorem z_istore {M : zM} {d mc ms pc q : Nat} {ls : zL} {st : List Value} {h : zH} {k n : Nat} {X : zX} {i : Nat} {ls' : zL} {x : Int32} (hd : decode M.2.1 pc = .ok (.istore i, 2)) (hn : i < M.2.2.1) (hs : zset1 ls i (.int x) = ls') (hq : pc + 2 = q) (kk : ZW M d mc ms q ls' st h k n X) : ZW M d mc ms pc ls (.int x :: st) h k n X := by
  subst hq
  subst hs
  intro l p e s m args below meth c Q G F E H locs arr hR hS hL
  exact lv_istore F.1 F.2.1 hd hL hn rfl (fun arr' hL' => kk l p e s m args below meth c Q G F E H locs arr' hR hS (zLs.set1 hL'))
theorem z_astore_n {M : zM} {d mc ms pc q : Nat} {ls : zL} {st : List Value} {h : zH} {k n : Nat} {X : zX} {w : Fin 4} {i : Nat} {ls' : zL} {x : Nat} (hd : decode M.2.1 pc = .ok (.astore_n w, 1)) (hi : (w : Nat) = i) (hn : i < M.2.2.1) (hs : zset1 ls i (.ref x) = ls') (hq : pc + 1 = q) (kk : ZW M d mc ms q ls' st h k n X) : ZW M d mc ms pc ls (.ref x :: st) h k n X := by
  subst hq
  subst hs
  intro l p e s m args below meth c Q G F E H locs arr hR hS hL
  exact lv_astore_n F.1 F.2.1 hd hi hL hn rfl (fun arr' hL' => kk l p e s m args below meth c Q G F E H locs arr' hR hS (zLs.set1 hL'))
theorem z_astore {M : zM} {d mc ms pc q : Nat} {ls : zL} {st : List Value} {h : zH} {k n : Nat} {X : zX} {i : Nat} {ls' : zL} {x : Nat} (hd : decode M.2.1 pc = .ok (.astore i, 2)) (hn : i < M.2.2.1) (hs : zset1 ls i (.ref x) = ls') (hq : pc + 2 = q) (kk : ZW M d mc ms q ls' st h k n X) : ZW M d mc ms pc ls (.ref x :: st) h k n X := by
  subst hq
  subst hs
  intro l p e s m args below meth c Q G F E H locs arr hR hS hL
  exact lv_astore F.1 F.2.1 hd hL hn rfl (fun arr' hL' => kk l p e s m args below meth c Q G F E H locs arr' hR hS (zLs.set1 hL'))
theorem z_lstore_n {M : zM} {d mc ms pc q : Nat} {ls : zL} {st : List Value} {h : zH} {k n : Nat} {X : zX} {w : Fin 4} {i : Nat} {ls' : zL} {x : Int64} (hd : decode M.2.1 pc = .ok (.lstore_n w, 1)) (hi : (w : Nat) = i) (hn : i + 1 < M.2.2.1) (hs : zset2 ls i (.long x) = ls') (hq : pc + 1 = q) (kk : ZW M d mc ms q ls' st h k n X) : ZW M d mc ms pc ls (.long x :: st) h k n X := by
  subst hq
  subst hs
  intro l p e s m args below meth c Q G F E H locs arr hR hS hL
  exact lv_lstore_n F.1 F.2.1 hd hi hL hn rfl (fun arr' hL' => kk l p e s m args below meth c Q G F E H locs arr' hR hS (zLs.set2 hL'))
theorem z_lstore {M : zM} {d mc ms pc q : Nat} {ls : zL} {st : List Value} {h : zH} {k n : Nat} {X : zX} {i : Nat} {ls' : zL} {x : Int64} (hd : decode M.2.1 pc = .ok (.lstore i, 2)) (hn : i + 1 < M.2.2.1) (hs : zset2 ls i (.long x) = ls') (hq : pc + 2 = q) (kk : ZW M d mc ms q ls' st h k n X) : ZW M d mc ms pc ls (.long x :: st) h k n X := by
  subst hq
  subst hs
  intro l p e s m args below meth c Q G F E H locs arr hR hS hL
  exact lv_lstore F.1 F.2.1 hd hL hn rfl (fun arr' hL' => kk l p e s m args below meth c Q G F E H locs arr' hR hS (zLs.set2 hL'))
theorem z_iinc {M : zM} {d mc ms pc q : Nat} {ls : zL} {st : List Value} {h : zH} {k n : Nat} {X : zX} {i : Nat} {z : Int} {ls' : zL} {x v : Int32} (hd : decode M.2.1 pc = .ok (.iinc i z, 3)) (hl : ls[i]? = some (some (.int x))) (hv : x + Int32.ofInt z = v) (hn : i < M.2.2.1) (hs : zset1 ls i (.int v) = ls') (hq : pc + 3 = q) (kk : ZW M d mc ms q ls' st h k n X) : ZW M d mc ms pc ls st h k n X := by
  subst hq
  subst hs
  intro l p e s m args below meth c Q G F E H locs arr hR hS hL
  obtain ⟨w, hw⟩ := List.getElem?_of_mem (zprs_in.mpr ⟨_, hl, rfl⟩ : (i, zv G (.int x)) ∈ zprs G ls)
  exact lv_iinc F.1 F.2.1 hd hL hw hv hn rfl (fun arr' hL' => kk l p e s m args below meth c Q G F E H locs arr' hR hS (zLs.set1 hL'))
theorem z_iadd {M : zM} {d mc ms pc q : Nat} {ls : zL} {st : List Value} {h : zH} {k n : Nat} {X : zX} {x y : Int32} (hd : decode M.2.1 pc = .ok (.iadd, 1))  (hq : pc + 1 = q) (kk : ZW M d mc ms q ls (.int (x + y) :: st) h k n X) : ZW M d mc ms pc ls (.int y :: .int x :: st) h k n X := by
  subst hq
  intro l p e s m args below meth c Q G F E H locs arr hR hS hL
  exact lv_iadd F.1 F.2.1  hd (kk l p e s m args below meth c Q G F E H locs arr hR hS hL)
theorem z_isub {M : zM} {d mc ms pc q : Nat} {ls : zL} {st : List Value} {h : zH} {k n : Nat} {X : zX} {x y : Int32} (hd : decode M.2.1 pc = .ok (.isub, 1))  (hq : pc + 1 = q) (kk : ZW M d mc ms q ls (.int (x - y) :: st) h k n X) : ZW M d mc ms pc ls (.int y :: .int x :: st) h k n X := by
  subst hq
  intro l p e s m args below meth c Q G F E H locs arr hR hS hL
  exact lv_isub F.1 F.2.1  hd (kk l p e s m args below meth c Q G F E H locs arr hR hS hL)
theorem z_imul {M : zM} {d mc ms pc q : Nat} {ls : zL} {st : List Value} {h : zH} {k n : Nat} {X : zX} {x y : Int32} (hd : decode M.2.1 pc = .ok (.imul, 1))  (hq : pc + 1 = q) (kk : ZW M d mc ms q ls (.int (x * y) :: st) h k n X) : ZW M d mc ms pc ls (.int y :: .int x :: st) h k n X := by
  subst hq
  intro l p e s m args below meth c Q G F E H locs arr hR hS hL
  exact lv_imul F.1 F.2.1  hd (kk l p e s m args below meth c Q G F E H locs arr hR hS hL)
theorem z_iand {M : zM} {d mc ms pc q : Nat} {ls : zL} {st : List Value} {h : zH} {k n : Nat} {X : zX} {x y : Int32} (hd : decode M.2.1 pc = .ok (.iand, 1))  (hq : pc + 1 = q) (kk : ZW M d mc ms q ls (.int (x &&& y) :: st) h k n X) : ZW M d mc ms pc ls (.int y :: .int x :: st) h k n X := by
  subst hq
  intro l p e s m args below meth c Q G F E H locs arr hR hS hL
  exact lv_iand F.1 F.2.1  hd (kk l p e s m args below meth c Q G F E H locs arr hR hS hL)
theorem z_ior {M : zM} {d mc ms pc q : Nat} {ls : zL} {st : List Value} {h : zH} {k n : Nat} {X : zX} {x y : Int32} (hd : decode M.2.1 pc = .ok (.ior, 1))  (hq : pc + 1 = q) (kk : ZW M d mc ms q ls (.int (x ||| y) :: st) h k n X) : ZW M d mc ms pc ls (.int y :: .int x :: st) h k n X := by
  subst hq
  intro l p e s m args below meth c Q G F E H locs arr hR hS hL
  exact lv_ior F.1 F.2.1  hd (kk l p e s m args below meth c Q G F E H locs arr hR hS hL)
theorem z_ixor {M : zM} {d mc ms pc q : Nat} {ls : zL} {st : List Value} {h : zH} {k n : Nat} {X : zX} {x y : Int32} (hd : decode M.2.1 pc = .ok (.ixor, 1))  (hq : pc + 1 = q) (kk : ZW M d mc ms q ls (.int (x ^^^ y) :: st) h k n X) : ZW M d mc ms pc ls (.int y :: .int x :: st) h k n X := by
  subst hq
  intro l p e s m args below meth c Q G F E H locs arr hR hS hL
  exact lv_ixor F.1 F.2.1  hd (kk l p e s m args below meth c Q G F E H locs arr hR hS hL)
theorem z_ishl {M : zM} {d mc ms pc q : Nat} {ls : zL} {st : List Value} {h : zH} {k n : Nat} {X : zX} {x y : Int32} (hd : decode M.2.1 pc = .ok (.ishl, 1))  (hq : pc + 1 = q) (kk : ZW M d mc ms q ls (.int (x <<< (y &&& 31)) :: st) h k n X) : ZW M d mc ms pc ls (.int y :: .int x :: st) h k n X := by
  subst hq
  intro l p e s m args below meth c Q G F E H locs arr hR hS hL
  exact lv_ishl F.1 F.2.1  hd (kk l p e s m args below meth c Q G F E H locs arr hR hS hL)
theorem z_ishr {M : zM} {d mc ms pc q : Nat} {ls : zL} {st : List Value} {h : zH} {k n : Nat} {X : zX} {x y : Int32} (hd : decode M.2.1 pc = .ok (.ishr, 1))  (hq : pc + 1 = q) (kk : ZW M d mc ms q ls (.int (x >>> (y &&& 31)) :: st) h k n X) : ZW M d mc ms pc ls (.int y :: .int x :: st) h k n X := by
  subst hq
  intro l p e s m args below meth c Q G F E H locs arr hR hS hL
  exact lv_ishr F.1 F.2.1  hd (kk l p e s m args below meth c Q G F E H locs arr hR hS hL)
theorem z_ladd {M : zM} {d mc ms pc q : Nat} {ls : zL} {st : List Value} {h : zH} {k n : Nat} {X : zX} {x y : Int64} (hd : decode M.2.1 pc = .ok (.ladd, 1))  (hq : pc + 1 = q) (kk : ZW M d mc ms q ls (.long (x + y) :: st) h k n X) : ZW M d mc ms pc ls (.long y :: .long x :: st) h k n X := by
  subst hq
  intro l p e s m args below meth c Q G F E H locs arr hR hS hL
  exact lv_ladd F.1 F.2.1  hd (kk l p e s m args below meth c Q G F E H locs arr hR hS hL)
theorem z_lsub {M : zM} {d mc ms pc q : Nat} {ls : zL} {st : List Value} {h : zH} {k n : Nat} {X : zX} {x y : Int64} (hd : decode M.2.1 pc = .ok (.lsub, 1))  (hq : pc + 1 = q) (kk : ZW M d mc ms q ls (.long (x - y) :: st) h k n X) : ZW M d mc ms pc ls (.long y :: .long x :: st) h k n X := by
  subst hq
  intro l p e s m args below meth c Q G F E H locs arr hR hS hL
  exact lv_lsub F.1 F.2.1  hd (kk l p e s m args below meth c Q G F E H locs arr hR hS hL)
theorem z_lmul {M : zM} {d mc ms pc q : Nat} {ls : zL} {st : List Value} {h : zH} {k n : Nat} {X : zX} {x y : Int64} (hd : decode M.2.1 pc = .ok (.lmul, 1))  (hq : pc + 1 = q) (kk : ZW M d mc ms q ls (.long (x * y) :: st) h k n X) : ZW M d mc ms pc ls (.long y :: .long x :: st) h k n X := by
  subst hq
  intro l p e s m args below meth c Q G F E H locs arr hR hS hL
  exact lv_lmul F.1 F.2.1  hd (kk l p e s m args below meth c Q G F E H locs arr hR hS hL)
theorem z_land {M : zM} {d mc ms pc q : Nat} {ls : zL} {st : List Value} {h : zH} {k n : Nat} {X : zX} {x y : Int64} (hd : decode M.2.1 pc = .ok (.land, 1))  (hq : pc + 1 = q) (kk : ZW M d mc ms q ls (.long (x &&& y) :: st) h k n X) : ZW M d mc ms pc ls (.long y :: .long x :: st) h k n X := by
  subst hq
  intro l p e s m args below meth c Q G F E H locs arr hR hS hL
  exact lv_land F.1 F.2.1  hd (kk l p e s m args below meth c Q G F E H locs arr hR hS hL)
theorem z_lor {M : zM} {d mc ms pc q : Nat} {ls : zL} {st : List Value} {h : zH} {k n : Nat} {X : zX} {x y : Int64} (hd : decode M.2.1 pc = .ok (.lor, 1))  (hq : pc + 1 = q) (kk : ZW M d mc ms q ls (.long (x ||| y) :: st) h k n X) : ZW M d mc ms pc ls (.long y :: .long x :: st) h k n X := by
  subst hq
  intro l p e s m args below meth c Q G F E H locs arr hR hS hL
  exact lv_lor F.1 F.2.1  hd (kk l p e s m args below meth c Q G F E H locs arr hR hS hL)
theorem z_idiv {M : zM} {d mc ms pc q : Nat} {ls : zL} {st : List Value} {h : zH} {k n : Nat} {X : zX} {x y : Int32} (hd : decode M.2.1 pc = .ok (.idiv, 1)) (hne : ¬ y = 0) (hq : pc + 1 = q) (kk : ZW M d mc ms q ls (.int (x / y) :: st) h k n X) : ZW M d mc ms pc ls (.int y :: .int x :: st) h k n X := by
  subst hq
  intro l p e s m args below meth c Q G F E H locs arr hR hS hL
  exact lv_idiv F.1 F.2.1  hd hne (kk l p e s m args below meth c Q G F E H locs arr hR hS hL)
theorem z_irem {M : zM} {d mc ms pc q : Nat} {ls : zL} {st : List Value} {h : zH} {k n : Nat} {X : zX} {x y : Int32} (hd : decode M.2.1 pc = .ok (.irem, 1)) (hne : ¬ y = 0) (hq : pc + 1 = q) (kk : ZW M d mc ms q ls (.int (x - x / y * y) :: st) h k n X) : ZW M d mc ms pc ls (.int y :: .int x :: st) h k n X := by
  subst hq
  intro l p e s m args below meth c Q G F E H locs arr hR hS hL
  exact lv_irem F.1 F.2.1  hd hne (kk l p e s m args below meth c Q G F E H locs arr hR hS hL)
theorem z_ldiv {M : zM} {d mc ms pc q : Nat} {ls : zL} {st : List Value} {h : zH} {k n : Nat} {X : zX} {x y : Int64} (hd : decode M.2.1 pc = .ok (.ldiv, 1)) (hne : ¬ y = 0) (hq : pc + 1 = q) (kk : ZW M d mc ms q ls (.long (x / y) :: st) h k n X) : ZW M d mc ms pc ls (.long y :: .long x :: st) h k n X := by
  subst hq
  intro l p e s m args below meth c Q G F E H locs arr hR hS hL
  exact lv_ldiv F.1 F.2.1  hd hne (kk l p e s m args below meth c Q G F E H locs arr hR hS hL)
theorem z_ineg {M : zM} {d mc ms pc q : Nat} {ls : zL} {st : List Value} {h : zH} {k n : Nat} {X : zX} {x : Int32} (hd : decode M.2.1 pc = .ok (.ineg, 1))  (hq : pc + 1 = q) (kk : ZW M d mc ms q ls (.int (-x) :: st) h k n X) : ZW M d mc ms pc ls (.int x :: st) h k n X := by
  subst hq
  intro l p e s m args below meth c Q G F E H locs arr hR hS hL
  exact lv_ineg F.1 F.2.1  hd (kk l p e s m args below meth c Q G F E H locs arr hR hS hL)
theorem z_i2l {M : zM} {d mc ms pc q : Nat} {ls : zL} {st : List Value} {h : zH} {k n : Nat} {X : zX} {x : Int32} (hd : decode M.2.1 pc = .ok (.i2l, 1))  (hq : pc + 1 = q) (kk : ZW M d mc ms q ls (.long (x.toInt64) :: st) h k n X) : ZW M d mc ms pc ls (.int x :: st) h k n X := by
  subst hq
  intro l p e s m args below meth c Q G F E H locs arr hR hS hL
  exact lv_i2l F.1 F.2.1  hd rfl (kk l p e s m args below meth c Q G F E H locs arr hR hS hL)
theorem z_l2i {M : zM} {d mc ms pc q : Nat} {ls : zL} {st : List Value} {h : zH} {k n : Nat} {X : zX} {x : Int64} (hd : decode M.2.1 pc = .ok (.l2i, 1))  (hq : pc + 1 = q) (kk : ZW M d mc ms q ls (.int (x.toInt32) :: st) h k n X) : ZW M d mc ms pc ls (.long x :: st) h k n X := by
  subst hq
  intro l p e s m args below meth c Q G F E H locs arr hR hS hL
  exact lv_l2i F.1 F.2.1  hd rfl (kk l p e s m args below meth c Q G F E H locs arr hR hS hL)
theorem z_i2b {M : zM} {d mc ms pc q : Nat} {ls : zL} {st : List Value} {h : zH} {k n : Nat} {X : zX} {x : Int32} (hd : decode M.2.1 pc = .ok (.i2b, 1))  (hq : pc + 1 = q) (kk : ZW M d mc ms q ls (.int (x.toInt8.toInt32) :: st) h k n X) : ZW M d mc ms pc ls (.int x :: st) h k n X := by
  subst hq
  intro l p e s m args below meth c Q G F E H locs arr hR hS hL
  exact lv_i2b F.1 F.2.1  hd rfl (kk l p e s m args below meth c Q G F E H locs arr hR hS hL)
theorem z_i2s {M : zM} {d mc ms pc q : Nat} {ls : zL} {st : List Value} {h : zH} {k n : Nat} {X : zX} {x : Int32} (hd : decode M.2.1 pc = .ok (.i2s, 1))  (hq : pc + 1 = q) (kk : ZW M d mc ms q ls (.int (x.toInt16.toInt32) :: st) h k n X) : ZW M d mc ms pc ls (.int x :: st) h k n X := by
  subst hq
  intro l p e s m args below meth c Q G F E H locs arr hR hS hL
  exact lv_i2s F.1 F.2.1  hd rfl (kk l p e s m args below meth c Q G F E H locs arr hR hS hL)
theorem z_i2c {M : zM} {d mc ms pc q : Nat} {ls : zL} {st : List Value} {h : zH} {k n : Nat} {X : zX} {x : Int32} (hd : decode M.2.1 pc = .ok (.i2c, 1))  (hq : pc + 1 = q) (kk : ZW M d mc ms q ls (.int ((x.toUInt32 % 65536).toInt32) :: st) h k n X) : ZW M d mc ms pc ls (.int x :: st) h k n X := by
  subst hq
  intro l p e s m args below meth c Q G F E H locs arr hR hS hL
  exact lv_i2c F.1 F.2.1  hd rfl (kk l p e s m args below meth c Q G F E H locs arr hR hS hL)
theorem z_lshl {M : zM} {d mc ms pc q : Nat} {ls : zL} {st : List Value} {h : zH} {k n : Nat} {X : zX} {x : Int64} {y : Int32} (hd : decode M.2.1 pc = .ok (.lshl, 1))  (hq : pc + 1 = q) (kk : ZW M d mc ms q ls (.long (x <<< (y.toInt64 &&& 63)) :: st) h k n X) : ZW M d mc ms pc ls (.int y :: .long x :: st) h k n X := by
  subst hq
  intro l p e s m args below meth c Q G F E H locs arr hR hS hL
  exact lv_lshl F.1 F.2.1  hd rfl (kk l p e s m args below meth c Q G F E H locs arr hR hS hL)
theorem z_lshr {M : zM} {d mc ms pc q : Nat} {ls : zL} {st : List Value} {h : zH} {k n : Nat} {X : zX} {x : Int64} {y : Int32} (hd : decode M.2.1 pc = .ok (.lshr, 1))  (hq : pc + 1 = q) (kk : ZW M d mc ms q ls (.long (x >>> (y.toInt64 &&& 63)) :: st) h k n X) : ZW M d mc ms pc ls (.int y :: .long x :: st) h k n X := by
  subst hq
  intro l p e s m args below meth c Q G F E H locs arr hR hS hL
  exact lv_lshr F.1 F.2.1  hd rfl (kk l p e s m args below meth c Q G F E H locs arr hR hS hL)
theorem z_lushr {M : zM} {d mc ms pc q : Nat} {ls : zL} {st : List Value} {h : zH} {k n : Nat} {X : zX} {x : Int64} {y : Int32} (hd : decode M.2.1 pc = .ok (.lushr, 1))  (hq : pc + 1 = q) (kk : ZW M d mc ms q ls (.long ((x.toUInt64 >>> (y.toInt64.toUInt64 &&& Int64.toUInt64 63)).toInt64) :: st) h k n X) : ZW M d mc ms pc ls (.int y :: .long x :: st) h k n X := by
  subst hq
  intro l p e s m args below meth c Q G F E H locs arr hR hS hL
  exact lv_lushr F.1 F.2.1  hd rfl (kk l p e s m args below meth c Q G F E H locs arr hR hS hL)
theorem z_iushr {M : zM} {d mc ms pc q : Nat} {ls : zL} {st : List Value} {h : zH} {k n : Nat} {X : zX} {x y : Int32} (hd : decode M.2.1 pc = .ok (.iushr, 1))  (hq : pc + 1 = q) (kk : ZW M d mc ms q ls (.int (ju x y) :: st) h k n X) : ZW M d mc ms pc ls (.int y :: .int x :: st) h k n X := by
  subst hq
  intro l p e s m args below meth c Q G F E H locs arr hR hS hL
  exact lv_iushr F.1 F.2.1  hd rfl (kk l p e s m args below meth c Q G F E H locs arr hR hS hL)
theorem z_lcmp {M : zM} {d mc ms pc q : Nat} {ls : zL} {st : List Value} {h : zH} {k n : Nat} {X : zX} {x y : Int64} (hd : decode M.2.1 pc = .ok (.lcmp, 1))  (hq : pc + 1 = q) (kk : ZW M d mc ms q ls (.int (lg_cmp x y) :: st) h k n X) : ZW M d mc ms pc ls (.long y :: .long x :: st) h k n X := by
  subst hq
  intro l p e s m args below meth c Q G F E H locs arr hR hS hL
  exact W.lcmp F.1 F.2.1  hd (kk l p e s m args below meth c Q G F E H locs arr hR hS hL)
theorem z_dup {M : zM} {d mc ms pc q : Nat} {ls : zL} {st : List Value} {h : zH} {k n : Nat} {X : zX} {v : Value} (hd : decode M.2.1 pc = .ok (.dup, 1)) (hc : v.category = 1) (hq : pc + 1 = q) (kk : ZW M d mc ms q ls (v :: v :: st) h k n X) : ZW M d mc ms pc ls (v :: st) h k n X := by
  subst hq
  intro l p e s m args below meth c Q G F E H locs arr hR hS hL
  exact lv_dup F.1 F.2.1  hd (by rw [zv_cat]; exact hc) (kk l p e s m args below meth c Q G F E H locs arr hR hS hL)
theorem z_dup2 {M : zM} {d mc ms pc q : Nat} {ls : zL} {st : List Value} {h : zH} {k n : Nat} {X : zX} {v w : Value} (hd : decode M.2.1 pc = .ok (.dup2, 1)) (hc : v.category = 1) (hc2 : w.category = 1) (hq : pc + 1 = q) (kk : ZW M d mc ms q ls (v :: w :: v :: w :: st) h k n X) : ZW M d mc ms pc ls (v :: w :: st) h k n X := by
  subst hq
  intro l p e s m args below meth c Q G F E H locs arr hR hS hL
  exact lv_dup2_11 F.1 F.2.1  hd (by rw [zv_cat]; exact hc) (by rw [zv_cat]; exact hc2) (kk l p e s m args below meth c Q G F E H locs arr hR hS hL)
theorem z_pop {M : zM} {d mc ms pc q : Nat} {ls : zL} {st : List Value} {h : zH} {k n : Nat} {X : zX} {v : Value} (hd : decode M.2.1 pc = .ok (.pop, 1)) (hc : v.category = 1) (hq : pc + 1 = q) (kk : ZW M d mc ms q ls (st) h k n X) : ZW M d mc ms pc ls (v :: st) h k n X := by
  subst hq
  intro l p e s m args below meth c Q G F E H locs arr hR hS hL
  exact lv_pop F.1 F.2.1  hd (by rw [zv_cat]; exact hc) (kk l p e s m args below meth c Q G F E H locs arr hR hS hL)
theorem z_icmp_eq {M : zM} {d mc ms pc q : Nat} {ls : zL} {st : List Value} {h : zH} {k n : Nat} {X : zX} {x y : Int32} {off : Int} {tgt : Nat} (hd : decode M.2.1 pc = .ok (.if_icmp .eq off, 3)) (ht : (pc : Int) + off = (tgt : Int)) (hq : pc + 3 = q) (kt : x = y → ZW M d mc ms tgt ls st h k n X) (kf : ¬ x = y → ZW M d mc ms q ls st h k n X) : ZW M d mc ms pc ls (.int y :: .int x :: st) h k n X := by
  subst hq
  intro l p e s m args below meth c Q G F E H locs arr hR hS hL
  exact lv_icmp_eq F.1 F.2.1 hd ht (fun z => kt z l p e s m args below meth c Q G F E H locs arr hR hS hL) (fun z => kf z l p e s m args below meth c Q G F E H locs arr hR hS hL)
theorem z_if_eq {M : zM} {d mc ms pc q : Nat} {ls : zL} {st : List Value} {h : zH} {k n : Nat} {X : zX} {x : Int32} {off : Int} {tgt : Nat} (hd : decode M.2.1 pc = .ok (.ifCond .eq off, 3)) (ht : (pc : Int) + off = (tgt : Int)) (hq : pc + 3 = q) (kt : x = 0 → ZW M d mc ms tgt ls st h k n X) (kf : ¬ x = 0 → ZW M d mc ms q ls st h k n X) : ZW M d mc ms pc ls (.int x :: st) h k n X := by
  subst hq
  intro l p e s m args below meth c Q G F E H locs arr hR hS hL
  exact lv_if_eq F.1 F.2.1 hd ht (fun z => kt z l p e s m args below meth c Q G F E H locs arr hR hS hL) (fun z => kf z l p e s m args below meth c Q G F E H locs arr hR hS hL)
theorem z_icmp_ne {M : zM} {d mc ms pc q : Nat} {ls : zL} {st : List Value} {h : zH} {k n : Nat} {X : zX} {x y : Int32} {off : Int} {tgt : Nat} (hd : decode M.2.1 pc = .ok (.if_icmp .ne off, 3)) (ht : (pc : Int) + off = (tgt : Int)) (hq : pc + 3 = q) (kt : ¬ x = y → ZW M d mc ms tgt ls st h k n X) (kf : x = y → ZW M d mc ms q ls st h k n X) : ZW M d mc ms pc ls (.int y :: .int x :: st) h k n X := by
  subst hq
  intro l p e s m args below meth c Q G F E H locs arr hR hS hL
  exact lv_icmp_ne F.1 F.2.1 hd ht (fun z => kt z l p e s m args below meth c Q G F E H locs arr hR hS hL) (fun z => kf z l p e s m args below meth c Q G F E H locs arr hR hS hL)
theorem z_if_ne {M : zM} {d mc ms pc q : Nat} {ls : zL} {st : List Value} {h : zH} {k n : Nat} {X : zX} {x : Int32} {off : Int} {tgt : Nat} (hd : decode M.2.1 pc = .ok (.ifCond .ne off, 3)) (ht : (pc : Int) + off = (tgt : Int)) (hq : pc + 3 = q) (kt : ¬ x = 0 → ZW M d mc ms tgt ls st h k n X) (kf : x = 0 → ZW M d mc ms q ls st h k n X) : ZW M d mc ms pc ls (.int x :: st) h k n X := by
  subst hq
  intro l p e s m args below meth c Q G F E H locs arr hR hS hL
  exact lv_if_ne F.1 F.2.1 hd ht (fun z => kt z l p e s m args below meth c Q G F E H locs arr hR hS hL) (fun z => kf z l p e s m args below meth c Q G F E H locs arr hR hS hL)
theorem z_icmp_lt {M : zM} {d mc ms pc q : Nat} {ls : zL} {st : List Value} {h : zH} {k n : Nat} {X : zX} {x y : Int32} {off : Int} {tgt : Nat} (hd : decode M.2.1 pc = .ok (.if_icmp .lt off, 3)) (ht : (pc : Int) + off = (tgt : Int)) (hq : pc + 3 = q) (kt : x < y → ZW M d mc ms tgt ls st h k n X) (kf : ¬ x < y → ZW M d mc ms q ls st h k n X) : ZW M d mc ms pc ls (.int y :: .int x :: st) h k n X := by
  subst hq
  intro l p e s m args below meth c Q G F E H locs arr hR hS hL
  exact lv_icmp_lt F.1 F.2.1 hd ht (fun z => kt z l p e s m args below meth c Q G F E H locs arr hR hS hL) (fun z => kf z l p e s m args below meth c Q G F E H locs arr hR hS hL)
theorem z_if_lt {M : zM} {d mc ms pc q : Nat} {ls : zL} {st : List Value} {h : zH} {k n : Nat} {X : zX} {x : Int32} {off : Int} {tgt : Nat} (hd : decode M.2.1 pc = .ok (.ifCond .lt off, 3)) (ht : (pc : Int) + off = (tgt : Int)) (hq : pc + 3 = q) (kt : x < 0 → ZW M d mc ms tgt ls st h k n X) (kf : ¬ x < 0 → ZW M d mc ms q ls st h k n X) : ZW M d mc ms pc ls (.int x :: st) h k n X := by
  subst hq
  intro l p e s m args below meth c Q G F E H locs arr hR hS hL
  exact lv_if_lt F.1 F.2.1 hd ht (fun z => kt z l p e s m args below meth c Q G F E H locs arr hR hS hL) (fun z => kf z l p e s m args below meth c Q G F E H locs arr hR hS hL)
theorem z_icmp_ge {M : zM} {d mc ms pc q : Nat} {ls : zL} {st : List Value} {h : zH} {k n : Nat} {X : zX} {x y : Int32} {off : Int} {tgt : Nat} (hd : decode M.2.1 pc = .ok (.if_icmp .ge off, 3)) (ht : (pc : Int) + off = (tgt : Int)) (hq : pc + 3 = q) (kt : y ≤ x → ZW M d mc ms tgt ls st h k n X) (kf : ¬ y ≤ x → ZW M d mc ms q ls st h k n X) : ZW M d mc ms pc ls (.int y :: .int x :: st) h k n X := by
  subst hq
  intro l p e s m args below meth c Q G F E H locs arr hR hS hL
  exact lv_icmp_ge F.1 F.2.1 hd ht (fun z => kt z l p e s m args below meth c Q G F E H locs arr hR hS hL) (fun z => kf z l p e s m args below meth c Q G F E H locs arr hR hS hL)
theorem z_if_ge {M : zM} {d mc ms pc q : Nat} {ls : zL} {st : List Value} {h : zH} {k n : Nat} {X : zX} {x : Int32} {off : Int} {tgt : Nat} (hd : decode M.2.1 pc = .ok (.ifCond .ge off, 3)) (ht : (pc : Int) + off = (tgt : Int)) (hq : pc + 3 = q) (kt : 0 ≤ x → ZW M d mc ms tgt ls st h k n X) (kf : ¬ 0 ≤ x → ZW M d mc ms q ls st h k n X) : ZW M d mc ms pc ls (.int x :: st) h k n X := by
  subst hq
  intro l p e s m args below meth c Q G F E H locs arr hR hS hL
  exact lv_if_ge F.1 F.2.1 hd ht (fun z => kt z l p e s m args below meth c Q G F E H locs arr hR hS hL) (fun z => kf z l p e s m args below meth c Q G F E H locs arr hR hS hL)
theorem z_icmp_gt {M : zM} {d mc ms pc q : Nat} {ls : zL} {st : List Value} {h : zH} {k n : Nat} {X : zX} {x y : Int32} {off : Int} {tgt : Nat} (hd : decode M.2.1 pc = .ok (.if_icmp .gt off, 3)) (ht : (pc : Int) + off = (tgt : Int)) (hq : pc + 3 = q) (kt : y < x → ZW M d mc ms tgt ls st h k n X) (kf : ¬ y < x → ZW M d mc ms q ls st h k n X) : ZW M d mc ms pc ls (.int y :: .int x :: st) h k n X := by
  subst hq
  intro l p e s m args below meth c Q G F E H locs arr hR hS hL
  exact lv_icmp_gt F.1 F.2.1 hd ht (fun z => kt z l p e s m args below meth c Q G F E H locs arr hR hS hL) (fun z => kf z l p e s m args below meth c Q G F E H locs arr hR hS hL)
theorem z_if_gt {M : zM} {d mc ms pc q : Nat} {ls : zL} {st : List Value} {h : zH} {k n : Nat} {X : zX} {x : Int32} {off : Int} {tgt : Nat} (hd : decode M.2.1 pc = .ok (.ifCond .gt off, 3)) (ht : (pc : Int) + off = (tgt : Int)) (hq : pc + 3 = q) (kt : 0 < x → ZW M d mc ms tgt ls st h k n X) (kf : ¬ 0 < x → ZW M d mc ms q ls st h k n X) : ZW M d mc ms pc ls (.int x :: st) h k n X := by
  subst hq
  intro l p e s m args below meth c Q G F E H locs arr hR hS hL
  exact lv_if_gt F.1 F.2.1 hd ht (fun z => kt z l p e s m args below meth c Q G F E H locs arr hR hS hL) (fun z => kf z l p e s m args below meth c Q G F E H locs arr hR hS hL)
theorem z_icmp_le {M : zM} {d mc ms pc q : Nat} {ls : zL} {st : List Value} {h : zH} {k n : Nat} {X : zX} {x y : Int32} {off : Int} {tgt : Nat} (hd : decode M.2.1 pc = .ok (.if_icmp .le off, 3)) (ht : (pc : Int) + off = (tgt : Int)) (hq : pc + 3 = q) (kt : x ≤ y → ZW M d mc ms tgt ls st h k n X) (kf : ¬ x ≤ y → ZW M d mc ms q ls st h k n X) : ZW M d mc ms pc ls (.int y :: .int x :: st) h k n X := by
  subst hq
  intro l p e s m args below meth c Q G F E H locs arr hR hS hL
  exact lv_icmp_le F.1 F.2.1 hd ht (fun z => kt z l p e s m args below meth c Q G F E H locs arr hR hS hL) (fun z => kf z l p e s m args below meth c Q G F E H locs arr hR hS hL)
theorem z_if_le {M : zM} {d mc ms pc q : Nat} {ls : zL} {st : List Value} {h : zH} {k n : Nat} {X : zX} {x : Int32} {off : Int} {tgt : Nat} (hd : decode M.2.1 pc = .ok (.ifCond .le off, 3)) (ht : (pc : Int) + off = (tgt : Int)) (hq : pc + 3 = q) (kt : x ≤ 0 → ZW M d mc ms tgt ls st h k n X) (kf : ¬ x ≤ 0 → ZW M d mc ms q ls st h k n X) : ZW M d mc ms pc ls (.int x :: st) h k n X := by
  subst hq
  intro l p e s m args below meth c Q G F E H locs arr hR hS hL
  exact lv_if_le F.1 F.2.1 hd ht (fun z => kt z l p e s m args below meth c Q G F E H locs arr hR hS hL) (fun z => kf z l p e s m args below meth c Q G F E H locs arr hR hS hL)
theorem z_goto {M : zM} {d mc ms pc : Nat} {ls : zL} {st : List Value} {h : zH} {k n : Nat} {X : zX} {off : Int} {tgt : Nat} (hd : decode M.2.1 pc = .ok (.goto off, 3)) (ht : (pc : Int) + off = (tgt : Int)) (kk : ZW M d mc ms tgt ls st h k n X) : ZW M d mc ms pc ls st h k n X := by
  intro l p e s m args below meth c Q G F E H locs arr hR hS hL
  exact lv_goto F.1 F.2.1 hd ht (kk l p e s m args below meth c Q G F E H locs arr hR hS hL)
theorem z_lookup {M : zM} {d mc ms pc : Nat} {ls : zL} {st : List Value} {h : zH} {k n : Nat} {X : zX} {x : Int32} {dflt : Int} {ps : Array (Int × Int)} {len : Nat} {off : Int} {tgt : Nat} (hd : decode M.2.1 pc = .ok (.lookupswitch dflt ps, len)) (hp : (ps.toList.zip (ps.toList.drop 1)).all (fun (a, next) => a.1 < next.1) = true) (ho : Op.lookupswitch.offset ps.toList dflt x.toInt = off) (ht : (pc : Int) + off = (tgt : Int)) (kk : ZW M d mc ms tgt ls st h k n X) : ZW M d mc ms pc ls (.int x :: st) h k n X := by
  intro l p e s m args below meth c Q G F E H locs arr hR hS hL
  exact lv_lookup F.1 F.2.1 hd hp ho ht (kk l p e s m args below meth c Q G F E H locs arr hR hS hL)
theorem z_tableOut {M : zM} {d mc ms pc : Nat} {ls : zL} {st : List Value} {h : zH} {k n : Nat} {X : zX} {x : Int32} {dflt lo hi : Int} {offs : Array Int} {len : Nat} {tgt : Nat} (hd : decode M.2.1 pc = .ok (.tableswitch dflt lo hi offs, len)) (hx : x.toInt < lo ∨ hi < x.toInt) (ht : (pc : Int) + dflt = (tgt : Int)) (kk : ZW M d mc ms tgt ls st h k n X) : ZW M d mc ms pc ls (.int x :: st) h k n X := by
  intro l p e s m args below meth c Q G F E H locs arr hR hS hL
  exact lv_tableOut F.1 F.2.1 hd hx ht (kk l p e s m args below meth c Q G F E H locs arr hR hS hL)
theorem z_tableIn {M : zM} {d mc ms pc : Nat} {ls : zL} {st : List Value} {h : zH} {k n : Nat} {X : zX} {x : Int32} {dflt lo hi : Int} {offs : Array Int} {len : Nat} {off : Int} {tgt : Nat} (hd : decode M.2.1 pc = .ok (.tableswitch dflt lo hi offs, len)) (h1 : ¬ x.toInt < lo) (h2 : ¬ hi < x.toInt) (ho : offs[(x.toInt - lo).toNat]? = some off) (ht : (pc : Int) + off = (tgt : Int)) (kk : ZW M d mc ms tgt ls st h k n X) : ZW M d mc ms pc ls (.int x :: st) h k n X := by
  intro l p e s m args below meth c Q G F E H locs arr hR hS hL
  exact lv_tableIn F.1 F.2.1 hd h1 h2 ho ht (kk l p e s m args below meth c Q G F E H locs arr hR hS hL)
theorem z_ret {M : zM} {d mc ms pc : Nat} {ls : zL} {st : List Value} {h : zH} {k n : Nat} {X : zX} {r : Option Value} (hf : zFin M pc r) (hX : X = (r, h)) (hk : k ≤ mc) (hn : n ≤ ms) (hst : st = r.toList) : ZW M d mc ms pc ls st h k n X := by
  intro l p e s m args below meth c Q G F E H locs arr hR hS hL
  subst hX
  subst hst
  refine W.widen hk hn ?_
  have := E H locs arr pc hf hR hS
  cases r <;> exact this
theorem z_ireturn {M : zM} {d mc ms pc : Nat} {ls : zL} {h : zH} {k n : Nat} {X : zX} {ty : FieldType} {v : Int32} (hd : decode M.2.1 pc = .ok (.ireturn, 1)) (hr : M.2.2.2 = some ty) (hn : narrow ty (.int v) = .int v) (hX : X = (some (.int v), h)) (hk : k ≤ mc) (hm : n ≤ ms) : ZW M d mc ms pc ls [.int v] h k n X :=
  z_ret (r := some (.int v)) (Or.inr (Or.inl ⟨ty, v, hr, rfl, hn, hd⟩)) hX hk hm rfl
theorem z_lreturn {M : zM} {d mc ms pc : Nat} {ls : zL} {h : zH} {k n : Nat} {X : zX} {v : Int64} (hd : decode M.2.1 pc = .ok (.lreturn, 1)) (hr : M.2.2.2 = some .long) (hX : X = (some (.long v), h)) (hk : k ≤ mc) (hm : n ≤ ms) : ZW M d mc ms pc ls [.long v] h k n X :=
  z_ret (r := some (.long v)) (Or.inr (Or.inr (Or.inl ⟨v, hr, rfl, hd⟩))) hX hk hm rfl
theorem z_areturn {M : zM} {d mc ms pc : Nat} {ls : zL} {h : zH} {k n : Nat} {X : zX} {nm : String} {a : Nat} (hd : decode M.2.1 pc = .ok (.areturn, 1)) (hr : M.2.2.2 = some (.object nm)) (hX : X = (some (.ref a), h)) (hk : k ≤ mc) (hm : n ≤ ms) : ZW M d mc ms pc ls [.ref a] h k n X :=
  z_ret (r := some (.ref a)) (Or.inr (Or.inr (Or.inr ⟨nm, a, hr, rfl, hd⟩))) hX hk hm rfl
theorem z_return {M : zM} {d mc ms pc : Nat} {ls : zL} {h : zH} {k n : Nat} {X : zX} (hd : decode M.2.1 pc = .ok (.return_, 1)) (hr : M.2.2.2 = none) (hX : X = (none, h)) (hk : k ≤ mc) (hm : n ≤ ms) : ZW M d mc ms pc ls [] h k n X :=
  z_ret (r := none) (Or.inl ⟨hr, rfl, hd⟩) hX hk hm rfl
