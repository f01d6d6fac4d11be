/-! ===== the Y layer: the Z layer's rules for the law, whose script is one ===== -/
def yEnd (M : zM) (d mc ms : Nat) (l : Launch) (p : Program) (e : Env) (s : State) (m : MethodId) (args : Array Value) (below : List Frame) (meth : Method) (c : Code) (Q : State → Prop) (G : zG) : Prop :=
  ∀ (h : zH) (H : Heap) (locs : List Loc) (arr : Array Slot) (pc : Nat), decode M.2.1 pc = .ok (.ireturn, 1) → zRep G h H → va_S (zA G) s.heap H locs → W p l e (zR d mc ms) s m args below meth c H locs mc ms Q (F0 m pc arr [.int 1])
def YW (P : zG → Prop) (M : zM) (d mc ms pc : Nat) (ls : zL) (st : List Value) (h : zH) (k n : Nat) (_ : zX) : Prop :=
  ∀ (l : Launch) (p : Program) (e : Env) (s : State) (m : MethodId) (args : Array Value) (below : List Frame) (meth : Method) (c : Code) (Q : State → Prop) (G : zG), P G → zF M G p s m args meth c → yEnd M d mc ms l p e s m args below meth c Q G →
    ∀ (H : Heap) (locs : List Loc) (arr : Array Slot), zRep G h H → va_S (zA G) s.heap H locs → zLs G arr M.2.2.1 ls → W p l e (zR d mc ms) s m args below meth c H locs k n Q (F0 m pc arr (st.map (zv G)))
theorem y_dup {P : zG → Prop} {M : zM} {d mc ms pc q : Nat} {ls : zL} {st : List Value} {h : zH} {k n : Nat} {X : zX} {v : Value} (hd : decode M.2.1 pc = .ok (.dup, 1)) (hc : v.category = 1) (hq : pc + 1 = q) (kk : YW P M d mc ms q ls (v :: v :: st) h k n X) : YW P M d mc ms pc ls (v :: st) h k n X := by
  subst hq
  intro l p e s m args below meth c Q G hP F E H locs arr hR hS hL
  exact lv_dup F.1 F.2.1  hd (by rw [zv_cat]; exact hc) (kk l p e s m args below meth c Q G hP F E H locs arr hR hS hL)
theorem y_iconst {P : zG → Prop} {M : zM} {d mc ms pc q : Nat} {ls : zL} {st : List Value} {h : zH} {k n : Nat} {X : zX} {z : Int} {v : Int32} (hd : decode M.2.1 pc = .ok (.iconst z, 1)) (hv : Int32.ofInt z = v) (hq : pc + 1 = q) (kk : YW P M d mc ms q ls (.int v :: st) h k n X) : YW P M d mc ms pc ls (st) h k n X := by
  subst hq
  intro l p e s m args below meth c Q G hP F E H locs arr hR hS hL
  exact lv_iconst F.1 F.2.1  hd hv (kk l p e s m args below meth c Q G hP F E H locs arr hR hS hL)
theorem y_bipush {P : zG → Prop} {M : zM} {d mc ms pc q : Nat} {ls : zL} {st : List Value} {h : zH} {k n : Nat} {X : zX} {z : Int} {v : Int32} (hd : decode M.2.1 pc = .ok (.bipush z, 2)) (hv : (Int8.ofInt z).toInt32 = v) (hq : pc + 2 = q) (kk : YW P M d mc ms q ls (.int v :: st) h k n X) : YW P M d mc ms pc ls (st) h k n X := by
  subst hq
  intro l p e s m args below meth c Q G hP F E H locs arr hR hS hL
  exact lv_bipush F.1 F.2.1  hd hv (kk l p e s m args below meth c Q G hP F E H locs arr hR hS hL)
theorem y_istore_n {P : zG → Prop} {M : zM} {d mc ms pc q : Nat} {ls : zL} {st : List Value} {h : zH} {k n : Nat} {X : zX} {w : Fin 4} {i : Nat} {ls' : zL} {x : Int32} (hd : decode M.2.1 pc = .ok (.istore_n w, 1)) (hi : (w : Nat) = i) (hn : i < M.2.2.1) (hs : zset1 ls i (.int x) = ls') (hq : pc + 1 = q) (kk : YW P M d mc ms q ls' st h k n X) : YW P M d mc ms pc ls (.int x :: st) h k n X := by
  subst hq
  subst hs
  intro l p e s m args below meth c Q G hP F E H locs arr hR hS hL
  exact lv_istore_n F.1 F.2.1 hd hi hL hn rfl (fun arr' hL' => kk l p e s m args below meth c Q G hP F E H locs arr' hR hS (zLs.set1 hL'))
theorem y_astore_n {P : zG → Prop} {M : zM} {d mc ms pc q : Nat} {ls : zL} {st : List Value} {h : zH} {k n : Nat} {X : zX} {w : Fin 4} {i : Nat} {ls' : zL} {x : Nat} (hd : decode M.2.1 pc = .ok (.astore_n w, 1)) (hi : (w : Nat) = i) (hn : i < M.2.2.1) (hs : zset1 ls i (.ref x) = ls') (hq : pc + 1 = q) (kk : YW P M d mc ms q ls' st h k n X) : YW P M d mc ms pc ls (.ref x :: st) h k n X := by
  subst hq
  subst hs
  intro l p e s m args below meth c Q G hP F E H locs arr hR hS hL
  exact lv_astore_n F.1 F.2.1 hd hi hL hn rfl (fun arr' hL' => kk l p e s m args below meth c Q G hP F E H locs arr' hR hS (zLs.set1 hL'))
theorem y_aload_n {P : zG → Prop} {M : zM} {d mc ms pc q : Nat} {ls : zL} {st : List Value} {h : zH} {k n : Nat} {X : zX} {w : Fin 4} {i : Nat} {x : Nat} (hd : decode M.2.1 pc = .ok (.aload_n w, 1)) (hi : (w : Nat) = i) (hl : ls[i]? = some (some (.ref x))) (hq : pc + 1 = q) (kk : YW P M d mc ms q ls (.ref x :: st) h k n X) : YW P M d mc ms pc ls st h k n X := by
  subst hq
  intro l p e s m args below meth c Q G hP F E H locs arr hR hS hL
  exact lv_aload_n F.1 F.2.1 hd hi (hL.at hl) (kk l p e s m args below meth c Q G hP F E H locs arr hR hS hL)
theorem y_iload_n {P : zG → Prop} {M : zM} {d mc ms pc q : Nat} {ls : zL} {st : List Value} {h : zH} {k n : Nat} {X : zX} {w : Fin 4} {i : Nat} {x : Int32} (hd : decode M.2.1 pc = .ok (.iload_n w, 1)) (hi : (w : Nat) = i) (hl : ls[i]? = some (some (.int x))) (hq : pc + 1 = q) (kk : YW P M d mc ms q ls (.int x :: st) h k n X) : YW P M d mc ms pc ls st h k n X := by
  subst hq
  intro l p e s m args below meth c Q G hP F E H locs arr hR hS hL
  exact lv_iload_n F.1 F.2.1 hd hi (hL.at hl) (kk l p e s m args below meth c Q G hP F E H locs arr hR hS hL)
theorem y_isub {P : zG → Prop} {M : zM} {d mc ms pc q : Nat} {ls : zL} {st : List Value} {h : zH} {k n : Nat} {X : zX} {x y : Int32} (hd : decode M.2.1 pc = .ok (.isub, 1))  (hq : pc + 1 = q) (kk : YW P M d mc ms q ls (.int (x - y) :: st) h k n X) : YW P M d mc ms pc ls (.int y :: .int x :: st) h k n X := by
  subst hq
  intro l p e s m args below meth c Q G hP F E H locs arr hR hS hL
  exact lv_isub F.1 F.2.1  hd (kk l p e s m args below meth c Q G hP F E H locs arr hR hS hL)
theorem y_iadd {P : zG → Prop} {M : zM} {d mc ms pc q : Nat} {ls : zL} {st : List Value} {h : zH} {k n : Nat} {X : zX} {x y : Int32} (hd : decode M.2.1 pc = .ok (.iadd, 1))  (hq : pc + 1 = q) (kk : YW P M d mc ms q ls (.int (x + y) :: st) h k n X) : YW P M d mc ms pc ls (.int y :: .int x :: st) h k n X := by
  subst hq
  intro l p e s m args below meth c Q G hP F E H locs arr hR hS hL
  exact lv_iadd F.1 F.2.1  hd (kk l p e s m args below meth c Q G hP F E H locs arr hR hS hL)
theorem y_iand {P : zG → Prop} {M : zM} {d mc ms pc q : Nat} {ls : zL} {st : List Value} {h : zH} {k n : Nat} {X : zX} {x y : Int32} (hd : decode M.2.1 pc = .ok (.iand, 1))  (hq : pc + 1 = q) (kk : YW P M d mc ms q ls (.int (x &&& y) :: st) h k n X) : YW P M d mc ms pc ls (.int y :: .int x :: st) h k n X := by
  subst hq
  intro l p e s m args below meth c Q G hP F E H locs arr hR hS hL
  exact lv_iand F.1 F.2.1  hd (kk l p e s m args below meth c Q G hP F E H locs arr hR hS hL)
theorem y_icmp_gt {P : zG → Prop} {M : zM} {d mc ms pc q : Nat} {ls : zL} {st : List Value} {h : zH} {k n : Nat} {X : zX} {x y : Int32} {off : Int} {tgt : Nat} (hd : decode M.2.1 pc = .ok (.if_icmp .gt off, 3)) (ht : (pc : Int) + off = (tgt : Int)) (hq : pc + 3 = q) (kt : y < x → YW P M d mc ms tgt ls st h k n X) (kf : ¬ y < x → YW P M d mc ms q ls st h k n X) : YW P M d mc ms pc ls (.int y :: .int x :: st) h k n X := by
  subst hq
  intro l p e s m args below meth c Q G hP F E H locs arr hR hS hL
  exact lv_icmp_gt F.1 F.2.1 hd ht (fun z => kt z l p e s m args below meth c Q G hP F E H locs arr hR hS hL) (fun z => kf z l p e s m args below meth c Q G hP F E H locs arr hR hS hL)
theorem y_icmp_eq {P : zG → Prop} {M : zM} {d mc ms pc q : Nat} {ls : zL} {st : List Value} {h : zH} {k n : Nat} {X : zX} {x y : Int32} {off : Int} {tgt : Nat} (hd : decode M.2.1 pc = .ok (.if_icmp .eq off, 3)) (ht : (pc : Int) + off = (tgt : Int)) (hq : pc + 3 = q) (kt : x = y → YW P M d mc ms tgt ls st h k n X) (kf : ¬ x = y → YW P M d mc ms q ls st h k n X) : YW P M d mc ms pc ls (.int y :: .int x :: st) h k n X := by
  subst hq
  intro l p e s m args below meth c Q G hP F E H locs arr hR hS hL
  exact lv_icmp_eq F.1 F.2.1 hd ht (fun z => kt z l p e s m args below meth c Q G hP F E H locs arr hR hS hL) (fun z => kf z l p e s m args below meth c Q G hP F E H locs arr hR hS hL)
theorem y_goto {P : zG → Prop} {M : zM} {d mc ms pc : Nat} {ls : zL} {st : List Value} {h : zH} {k n : Nat} {X : zX} {off : Int} {tgt : Nat} (hd : decode M.2.1 pc = .ok (.goto off, 3)) (ht : (pc : Int) + off = (tgt : Int)) (kk : YW P M d mc ms tgt ls st h k n X) : YW P M d mc ms pc ls st h k n X := by
  intro l p e s m args below meth c Q G hP F E H locs arr hR hS hL
  exact lv_goto F.1 F.2.1 hd ht (kk l p e s m args below meth c Q G hP F E H locs arr hR hS hL)
theorem y_i2l {P : zG → Prop} {M : zM} {d mc ms pc q : Nat} {ls : zL} {st : List Value} {h : zH} {k n : Nat} {X : zX} {x : Int32} (hd : decode M.2.1 pc = .ok (.i2l, 1))  (hq : pc + 1 = q) (kk : YW P M d mc ms q ls (.long (x.toInt64) :: st) h k n X) : YW P M d mc ms pc ls (.int x :: st) h k n X := by
  subst hq
  intro l p e s m args below meth c Q G hP F E H locs arr hR hS hL
  exact lv_i2l F.1 F.2.1  hd rfl (kk l p e s m args below meth c Q G hP F E H locs arr hR hS hL)
theorem y_lshl {P : zG → Prop} {M : zM} {d mc ms pc q : Nat} {ls : zL} {st : List Value} {h : zH} {k n : Nat} {X : zX} {x : Int64} {y : Int32} (hd : decode M.2.1 pc = .ok (.lshl, 1))  (hq : pc + 1 = q) (kk : YW P M d mc ms q ls (.long (x <<< (y.toInt64 &&& 63)) :: st) h k n X) : YW P M d mc ms pc ls (.int y :: .long x :: st) h k n X := by
  subst hq
  intro l p e s m args below meth c Q G hP F E H locs arr hR hS hL
  exact lv_lshl F.1 F.2.1  hd rfl (kk l p e s m args below meth c Q G hP F E H locs arr hR hS hL)
theorem y_ldc2 {P : zG → Prop} {M : zM} {d mc ms pc q : Nat} {ls : zL} {st : List Value} {h : zH} {k n : Nat} {X : zX} {i : Nat} {v : Int64} (hd : decode M.2.1 pc = .ok (.ldc2_w i, 3)) (hw : Cond.constantLong M.1.cls i v ∈ zts) (hq : pc + 3 = q) (kk : YW P M d mc ms q ls (.long v :: st) h k n X) : YW P M d mc ms pc ls st h k n X := by
  subst hq
  intro l p e s m args below meth c Q G hP F E H locs arr hR hS hL
  exact lv_ldc2 F.1 F.2.1 F.2.2.2.2.1 (F.2.2.2.2.2.1 _ hw) hd (kk l p e s m args below meth c Q G hP F E H locs arr hR hS hL)
theorem y_land {P : zG → Prop} {M : zM} {d mc ms pc q : Nat} {ls : zL} {st : List Value} {h : zH} {k n : Nat} {X : zX} {x y : Int64} (hd : decode M.2.1 pc = .ok (.land, 1))  (hq : pc + 1 = q) (kk : YW P M d mc ms q ls (.long (x &&& y) :: st) h k n X) : YW P M d mc ms pc ls (.long y :: .long x :: st) h k n X := by
  subst hq
  intro l p e s m args below meth c Q G hP F E H locs arr hR hS hL
  exact lv_land F.1 F.2.1  hd (kk l p e s m args below meth c Q G hP F E H locs arr hR hS hL)
theorem y_lor {P : zG → Prop} {M : zM} {d mc ms pc q : Nat} {ls : zL} {st : List Value} {h : zH} {k n : Nat} {X : zX} {x y : Int64} (hd : decode M.2.1 pc = .ok (.lor, 1))  (hq : pc + 1 = q) (kk : YW P M d mc ms q ls (.long (x ||| y) :: st) h k n X) : YW P M d mc ms pc ls (.long y :: .long x :: st) h k n X := by
  subst hq
  intro l p e s m args below meth c Q G hP F E H locs arr hR hS hL
  exact lv_lor F.1 F.2.1  hd (kk l p e s m args below meth c Q G hP F E H locs arr hR hS hL)
theorem y_iinc {P : zG → Prop} {M : zM} {d mc ms pc q : Nat} {ls : zL} {st : List Value} {h : zH} {k n : Nat} {X : zX} {i : Nat} {z : Int} {ls' : zL} {x v : Int32} (hd : decode M.2.1 pc = .ok (.iinc i z, 3)) (hl : ls[i]? = some (some (.int x))) (hv : x + Int32.ofInt z = v) (hn : i < M.2.2.1) (hs : zset1 ls i (.int v) = ls') (hq : pc + 3 = q) (kk : YW P M d mc ms q ls' st h k n X) : YW P M d mc ms pc ls st h k n X := by
  subst hq
  subst hs
  intro l p e s m args below meth c Q G hP F E H locs arr hR hS hL
  obtain ⟨w, hw⟩ := List.getElem?_of_mem (zprs_in.mpr ⟨_, hl, rfl⟩ : (i, zv G (.int x)) ∈ zprs G ls)
  exact lv_iinc F.1 F.2.1 hd hL hw hv hn rfl (fun arr' hL' => kk l p e s m args below meth c Q G hP F E H locs arr' hR hS (zLs.set1 hL'))
theorem y_table {P : zG → Prop} {M : zM} {d mc ms pc : Nat} {ls : zL} {st : List Value} {h : zH} {k n : Nat} {X : zX} {x : Int32} {dflt lo hi : Int} {offs : Array Int} {len dt : Nat} {tgts : List Nat} (hd : decode M.2.1 pc = .ok (.tableswitch dflt lo hi offs, len)) (hz : offs.toList = tgts.map (fun (t : Nat) => (t : Int) - (pc : Int))) (hdt : (pc : Int) + dflt = (dt : Int)) (hhi : hi + 1 = lo + (tgts.length : Int)) (kk : ∀ (j t : Nat), tgts[j]? = some t → x.toInt = lo + (j : Int) → YW P M d mc ms t ls st h k n X) (ko : x.toInt < lo ∨ hi < x.toInt → YW P M d mc ms dt ls st h k n X) : YW P M d mc ms pc ls (.int x :: st) h k n X := by
  intro l p e s m args below meth c Q G hP F E H locs arr hR hS hL
  by_cases hx : x.toInt < lo ∨ hi < x.toInt
  · exact lv_tableOut F.1 F.2.1 hd hx hdt (ko hx l p e s m args below meth c Q G hP F E H locs arr hR hS hL)
  · have h1 : ¬ x.toInt < lo := fun z => hx (Or.inl z)
    have h2 : ¬ hi < x.toInt := fun z => hx (Or.inr z)
    obtain ⟨j, hj⟩ : ∃ j : Nat, x.toInt = lo + (j : Int) := ⟨(x.toInt - lo).toNat, by omega⟩
    have hl : j < tgts.length := by omega
    have ht : tgts[j]? = some tgts[j] := List.getElem?_eq_getElem hl
    have ho : offs[(x.toInt - lo).toNat]? = some ((tgts[j] : Int) - (pc : Int)) := by
      rw [show (x.toInt - lo).toNat = j by omega, ← Array.getElem?_toList, hz, List.getElem?_map, ht]
      rfl
    exact lv_tableIn F.1 F.2.1 hd h1 h2 ho (by omega) (kk j _ ht hj l p e s m args below meth c Q G hP F E H locs arr hR hS hL)
theorem y_loc {P : zG → Prop} {M : zM} {d mc ms pc : Nat} {ls : zL} {st : List Value} {h : zH} {k n : Nat} {X : zX} {ls' : zL} (hl : zle ls' ls) (kk : YW P M d mc ms pc ls' st h k n X) : YW P M d mc ms pc ls st h k n X := by
  intro l p e s m args below meth c Q G hP F E H locs arr hR hS hL
  refine kk l p e s m args below meth c Q G hP F E H locs arr hR hS (lv_mono hL ?_)
  rintro ⟨j, w⟩ hq
  obtain ⟨v, h1, rfl⟩ := zprs_in.mp hq
  exact zprs_in.mpr ⟨v, zle_at hl j v h1, rfl⟩
theorem y_new {P : zG → Prop} {M : zM} {d mc ms pc q : Nat} {ls : zL} {st : List Value} {h : zH} {k n : Nat} {X : zX} {index ci N : Nat} {C : String} {T : u_T} {fs : List Value} {ty : Nat → FieldType} (hd : decode M.2.1 pc = .ok (.new index, 3)) (hc : vwCl[ci]? = some (C, T, N)) (hin : ∀ w ∈ u_ws C T N, w ∈ zts) (hty : ∀ k, k < N → parseFieldDescriptor (T k).2.2.1 = some (ty k)) (hcl : Cond.classLink M.1.cls index C ∈ zts) (hinst : Cond.instantiable C N ∈ zts) (hini : Cond.initialized C ∈ zts) (hfs : ∀ j, j < N → defaultValue (ty j) = vp_V fs j) (hnr : ∀ G : zG, fs.map (zv G) = fs) (hl : h.length < 1000000) (hk : k + 1 ≤ mc) (hn : n + N ≤ ms) (hq : pc + 3 = q) (kk : YW P M d mc ms q ls (.ref h.length :: st) (h ++ [.inr (ci, fs)]) (k + 1) (n + N) X) : YW P M d mc ms pc ls st h k n X := by
  subst hq
  intro l p e s m args below meth c Q G hP F E H locs arr hR hS hL
  have hts := F.2.2.2.2.2.1
  have hKn := F.2.2.2.2.2.2.1.1.1 ci _ hc
  have hsz : H.size = zal G h.length := by rw [zal_lt hl]; exact hR.2.1
  refine W.newcK F.1 F.2.1 F.2.2.2.2.1 (hts _ hcl) (hts _ hinst) (hts _ hini) rfl hd hk hn hKn.2.1 hsz fun H1 kC hkC e1 z1 o1 => ?_
  rw [← hsz] at z1 o1
  refine kk l p e s m args below meth c Q G hP F E H1 locs arr (hR.ext (es := [.inr (ci, fs)]) (by simp; omega) (fun j e' he => ?_) z1 o1) (zSgrow hS (by omega) o1) hL
  obtain ⟨rfl, rfl⟩ := zone he
  refine ⟨_, hc, ?_⟩
  show t_OB (zal G (h.length + 0)) _ _ _ H1 (vp_V (fs.map (zv G)))
  rw [hnr G]
  exact (u_born ty hts hin hKn hkC e1 hty).to hfs
theorem y_callI {P : zG → Prop} {M : zM} {d mc ms pc q : Nat} {ls : zL} {st : List Value} {h : zH} {k n : Nat} {X : zX} {M1 : zM} {mc1 ms1 np index a : Nat} {As rest : List Value} {X1 : zX} (hm : zMk M1 np) (hret : M1.2.2.2 = none) (hini : M1.1.name = "<init>") (hd : decode M.2.1 pc = .ok (.invokespecial index, 3)) (hl : Cond.methodLink M.1.cls index M1.1 ∈ zts) (hi : Cond.instanceMethod M1.1 ∈ zts) (ev : zEv d M1 mc1 ms1 (.ref a :: As) h X1) (hnp : As.length = np) (hrest : (rest.map fun v => v.category).sum ≤ 8) (hst : As.reverse ++ .ref a :: rest = st) (hk : k + mc1 ≤ mc) (hn : n + ms1 ≤ ms) (hq : pc + 3 = q) (kk : YW P M (d + 1) mc ms q ls (X1.1.toList ++ rest) X1.2 (k + mc1) (n + ms1) X) : YW P M (d + 1) mc ms pc ls st h k n X := by
  subst hq
  subst hst
  intro l p e s m args below meth c Q G hP F E H locs arr hR hS hL
  have hts := F.2.2.2.2.2.1
  rw [zstk]
  have hcb := zcallB (d := d) (mc := mc) (ms := ms) (mc1 := mc1) (ms1 := ms1) F hm hl
  rw [hret] at hcb
  have hM := ev l G
  refine z_back (X1 := X1) (va_runI (As := As.map (zv G)) (rest := rest.map (zv G)) (b := zal G a) ⟨F.1, F.2.1, F.2.2.1, F.2.2.2.2.1, hts⟩ hM ⟨hcb, hini, hts _ hi⟩ ⟨zU_blind, fun U hU hW => ⟨rfl, zU_kept F.2.2.2.2.2.2.1 F.2.2.2.2.2.2.2.1 F.2.2.2.2.2.2.2.2.2.2 hR hS hU hW⟩⟩ rfl (by rw [List.length_map]; exact hnp) hL.1 rfl (lv_room (by rw [zcatsum]; exact hrest)) hd ⟨hk, hn⟩) hS fun H1 locs1 hR1 hS1 => ?_
  rw [zres]
  exact kk l p e s m args below meth c Q G hP F E H1 locs1 arr hR1 hS1 hL
theorem y_callV {P : zG → Prop} {M : zM} {d mc ms pc q : Nat} {ls : zL} {st : List Value} {h : zH} {k n : Nat} {X : zX} {M1 : zM} {mc1 ms1 np index ci a : Nat} {fs As rest : List Value} {X1 : zX} {T : u_T} {N : Nat} (hm : zMk M1 np) (hd : decode M.2.1 pc = .ok (.invokevirtual index, 3)) (hl : Cond.methodLink M.1.cls index M1.1 ∈ zts) (hi : Cond.instanceMethod M1.1 ∈ zts) (hse : Cond.selects M1.1.cls M1.1 M1.1 ∈ zts) (hc : vwCl[ci]? = some (M1.1.cls, T, N)) (he : h[a]? = some (.inr (ci, fs))) (ev : zEv d M1 mc1 ms1 (.ref a :: As) h X1) (hnp : As.length = np) (hrest : (rest.map fun v => v.category).sum ≤ 8) (hst : As.reverse ++ .ref a :: rest = st) (hk : k + mc1 ≤ mc) (hn : n + ms1 ≤ ms) (hq : pc + 3 = q) (kk : YW P M (d + 1) mc ms q ls (X1.1.toList ++ rest) X1.2 (k + mc1) (n + ms1) X) : YW P M (d + 1) mc ms pc ls st h k n X := by
  subst hq
  subst hst
  intro l p e s m args below meth c Q G hP F E H locs arr hR hS hL
  have hts := F.2.2.2.2.2.1
  rw [zstk]
  refine z_back (X1 := X1) (va_runV (As := As.map (zv G)) (rest := rest.map (zv G)) (b := zal G a) (C := M1.1.cls) ⟨F.1, F.2.1, F.2.2.1, F.2.2.2.2.1, hts⟩ (ev l G) ⟨zcallB F hm hl, hts _ hi, hts _ hse⟩ ⟨zU_blind, va_recv F.2.2.2.2.2.2.1.1 hR.1 hc (zw_at he), fun U hU hW => ⟨rfl, zU_kept F.2.2.2.2.2.2.1 F.2.2.2.2.2.2.2.1 F.2.2.2.2.2.2.2.2.2.2 hR hS hU hW⟩⟩ rfl (by rw [List.length_map]; exact hnp) hL.1 rfl (lv_room (by rw [zcatsum]; exact hrest)) hd ⟨hk, hn⟩) hS fun H1 locs1 hR1 hS1 => ?_
  rw [zres]
  exact kk l p e s m args below meth c Q G hP F E H1 locs1 arr hR1 hS1 hL
theorem ym_callV {P : zG → Prop} {M : zM} {d mc ms pc q : Nat} {ls : zL} {st : List Value} {m : zm} {k n : Nat} {X : zX} {M1 : zM} {np index ci a : Nat} {As rest : List Value} {X1 : zX} {T : u_T} {N : Nat} (hm : zMk M1 np) (hd : decode M.2.1 pc = .ok (.invokevirtual index, 3)) (hl : Cond.methodLink M.1.cls index M1.1 ∈ zts) (hi : Cond.instanceMethod M1.1 ∈ zts) (hse : Cond.selects M1.1.cls M1.1 M1.1 ∈ zts) (hc : vwCl[ci]? = some (M1.1.cls, T, N)) (ho : okO a ci) (ev : zEv d M1 0 0 (.ref a :: As) (lay m) X1) (hnp : As.length = np) (hrest : (rest.map fun v => v.category).sum ≤ 8) (hst : As.reverse ++ .ref a :: rest = st) (hk : k ≤ mc) (hn : n ≤ ms) (hq : pc + 3 = q) (kk : YW P M (d + 1) mc ms q ls (X1.1.toList ++ rest) X1.2 k n X) : YW P M (d + 1) mc ms pc ls st (lay m) k n X := by
  obtain ⟨h1, sl, h2⟩ := ho
  exact y_callV hm hd hl hi hse hc (by rw [lay_at h1, zcell_o h2]) ev hnp hrest hst hk hn hq kk
theorem ym_callV_r {P : zG → Prop} {M : zM} {d mc ms pc q : Nat} {ls : zL} {st : List Value} {m : zm} {k n : Nat} {X : zX} {M1 : zM} {np index ci a : Nat} {As rest : List Value} {v : Value} {h1 : zH} {T : u_T} {N : Nat} (hm : zMk M1 np) (hd : decode M.2.1 pc = .ok (.invokevirtual index, 3)) (hl : Cond.methodLink M.1.cls index M1.1 ∈ zts) (hi : Cond.instanceMethod M1.1 ∈ zts) (hse : Cond.selects M1.1.cls M1.1 M1.1 ∈ zts) (hc : vwCl[ci]? = some (M1.1.cls, T, N)) (ho : okO a ci) (ev : zEv d M1 0 0 (.ref a :: As) (lay m) (some v, h1)) (hnp : As.length = np) (hrest : (rest.map fun v => v.category).sum ≤ 8) (hst : As.reverse ++ .ref a :: rest = st) (hk : k ≤ mc) (hn : n ≤ ms) (hq : pc + 3 = q) (kk : YW P M (d + 1) mc ms q ls (v :: rest) h1 k n X) : YW P M (d + 1) mc ms pc ls st (lay m) k n X :=
  ym_callV hm hd hl hi hse hc ho ev hnp hrest hst hk hn hq kk
theorem y_end {P : zG → Prop} {M : zM} {d mc ms pc : Nat} {ls : zL} {h : zH} {k n : Nat} {X : zX} (hd : decode M.2.1 pc = .ok (.ireturn, 1)) (hk : k ≤ mc) (hn : n ≤ ms) : YW P M d mc ms pc ls [.int 1] h k n X := by
  intro l p e s m args below meth c Q G hP F E H locs arr hR hS hL
  exact W.widen hk hn (E h H locs arr pc hd hR hS)
/-- the script is b's, of L ints xs; the locals name it 2000000 -/
def yP (b L : Nat) (xs : Nat → Int32) (G : zG) : Prop := G.2.2.2.2 = (b, L, xs) ∧ zal G 2000000 = b
theorem y_slen {b L : Nat} {xs : Nat → Int32} {M : zM} {d mc ms pc q : Nat} {ls : zL} {st : List Value} {h : zH} {k n : Nat} {X : zX} (hd : decode M.2.1 pc = .ok (.arraylength, 1)) (hq : pc + 1 = q) (kk : YW (yP b L xs) M d mc ms q ls (.int (nI L) :: st) h k n X) : YW (yP b L xs) M d mc ms pc ls (.ref 2000000 :: st) h k n X := by
  subst hq
  intro l p e s m args below meth c Q G hP F E H locs arr hR hS hL
  have hX := F.2.2.2.2.2.2.2.1.2.2.2.2.1
  have hb := F.2.2.2.2.2.2.2.1.2.2.2.2.2
  rw [hP.1] at hX hb
  show W p l e (zR d mc ms) s m args below meth c H locs k n Q (F0 m pc arr (.ref (zal G 2000000) :: st.map (zv G)))
  rw [hP.2]
  exact va_slen F.1 F.2.1 hX (zX.lt hX) hb hS hd (kk l p e s m args below meth c Q G hP F E H locs arr hR hS hL)
theorem y_sld {b L : Nat} {xs : Nat → Int32} {M : zM} {d mc ms pc q : Nat} {ls : zL} {st : List Value} {h : zH} {k n j : Nat} {X : zX} (hd : decode M.2.1 pc = .ok (.iaload, 1)) (hj : j < L) (hL31 : L < 2 ^ 31) (hq : pc + 1 = q) (kk : YW (yP b L xs) M d mc ms q ls (.int (xs j) :: st) h k n X) : YW (yP b L xs) M d mc ms pc ls (.int (nI j) :: .ref 2000000 :: st) h k n X := by
  subst hq
  intro l p e s m args below meth c Q G hP F E H locs arr hR hS hL
  have hX := F.2.2.2.2.2.2.2.1.2.2.2.2.1
  have hb := F.2.2.2.2.2.2.2.1.2.2.2.2.2
  rw [hP.1] at hX hb
  show W p l e (zR d mc ms) s m args below meth c H locs k n Q (F0 m pc arr (.int (nI j) :: .ref (zal G 2000000) :: st.map (zv G)))
  rw [hP.2]
  have hk := kk l p e s m args below meth c Q G hP F E H locs arr hR hS hL
  rw [show xs j = xs (nI j).toNatClampNeg by rw [nI_clamp (by omega)]] at hk
  exact va_sld F.1 F.2.1 hX (zX.lt hX) hb hS (vp_in_nI hj hL31) hd hk
