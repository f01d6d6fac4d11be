/-! ===== making: objects and arrays, at exact addresses ===== -/
theorem zRep.ext {G : zG} {h es : zH} {H H1 : Heap} (hR : zRep G h H) (hl : h.length + es.length ≤ 1000000) (h1 : ∀ (j : Nat) (e : zE), es[j]? = some e → va_at G.2.2.2.1 vwCl (zal G (h.length + j), zc G e) H1) (hz : H1.size = H.size + es.length) (o1 : ∀ q : Nat, q < H.size → H1[q]? = H[q]?) : zRep G (h ++ es) H1 := by
  refine ⟨fun k q hk => ?_, by rw [hz, hR.2.1, List.length_append]; omega, by rw [List.length_append]; exact hl⟩
  obtain ⟨h2, h3⟩ := zw_inv hk
  obtain ⟨e, he⟩ : ∃ e, (h ++ es)[k]? = some e := ⟨_, List.getElem?_eq_getElem h2⟩
  have hq : q = (zal G k, zc G e) := Option.some.inj (hk.symm.trans (zw_at he))
  subst hq
  by_cases hkl : k < h.length
  · rw [List.getElem?_append_left hkl] at he
    exact (hR.1 k _ (zw_at he)).kept (o1 _ (by show zal G k < H.size; rw [zal_lt (by omega), hR.2.1]; omega))
  · rw [List.getElem?_append_right (by omega)] at he
    have := h1 (k - h.length) e he
    rw [show h.length + (k - h.length) = k by omega] at this
    exact this
theorem zSgrow {G : zG} {s : State} {H H1 : Heap} {locs : List Loc} (hS : va_S (zA G) s.heap H locs) (hz : H.size ≤ H1.size) (o1 : ∀ q : Nat, q < H.size → H1[q]? = H[q]?) : va_S (zA G) s.heap H1 locs :=
  ⟨Nat.le_trans hS.1 hz, fun x h1 h2 => (o1 x (Nat.lt_of_lt_of_le h1 hS.1)).trans (hS.2.1 x h1 h2), hS.2.2⟩
theorem zone {e e' : zE} {j : Nat} (h : [e][j]? = some e') : j = 0 ∧ e' = e := by
  match j, h with
  | 0, h => exact ⟨rfl, (Option.some.inj h).symm⟩
  | j + 1, h => simp at h
theorem z_new {M : zM} {d mc ms pc q : Nat} {ls : zL} {st : List Value} {h : zH} {k n : Nat} {X : zX} {index ci N : Nat} {C : String} {T : u_T} {fs : List Value} {ty : Nat → FieldType} (hd : decode M.2.1 pc = .ok (.new index, 3)) (hc : vwCl[ci]? = some (C, T, N)) (hin : ∀ w ∈ u_ws C T N, w ∈ zts) (hty : ∀ k, k < N → parseFieldDescriptor (T k).2.2.1 = some (ty k)) (hcl : Cond.classLink M.1.cls index C ∈ zts) (hinst : Cond.instantiable C N ∈ zts) (hini : Cond.initialized C ∈ zts) (hfs : ∀ j, j < N → defaultValue (ty j) = vp_V fs j) (hnr : ∀ G : zG, fs.map (zv G) = fs) (hl : h.length < 1000000) (hk : k + 1 ≤ mc) (hn : n + N ≤ ms) (hq : pc + 3 = q) (kk : ZW M d mc ms q ls (.ref h.length :: st) (h ++ [.inr (ci, fs)]) (k + 1) (n + N) X) : ZW M d mc ms pc ls st h k n X := by
  subst hq
  intro l p e s m args below meth c Q G F E H locs arr hR hS hL
  have hts := F.2.2.2.2.2.1
  have hKn := F.2.2.2.2.2.2.1.1.1 ci _ hc
  have hsz : H.size = zal G h.length := by rw [zal_lt hl]; exact hR.2.1
  refine W.newcK F.1 F.2.1 F.2.2.2.2.1 (hts _ hcl) (hts _ hinst) (hts _ hini) rfl hd hk hn hKn.2.1 hsz fun H1 kC hkC e1 z1 o1 => ?_
  rw [← hsz] at z1 o1
  refine kk l p e s m args below meth c Q G F E H1 locs arr (hR.ext (es := [.inr (ci, fs)]) (by simp; omega) (fun j e' he => ?_) z1 o1) (zSgrow hS (by omega) o1) hL
  obtain ⟨rfl, rfl⟩ := zone he
  refine ⟨_, hc, ?_⟩
  show t_OB (zal G (h.length + 0)) _ _ _ H1 (vp_V (fs.map (zv G)))
  rw [hnr G]
  exact (u_born ty hts hin hKn hkC e1 hty).to hfs
theorem z_newa {M : zM} {d mc ms pc q : Nat} {ls : zL} {st : List Value} {h : zH} {k n : Nat} {X : zX} {atype : ArrayType} {ty : FieldType} {kd N : Nat} {i : Int32} {x : (Nat → Int32) ⊕ (Nat → Int64) ⊕ (Nat → UInt32) ⊕ (Nat → UInt64) ⊕ (Nat → Option Nat)} (hd : decode M.2.1 pc = .ok (.newarray atype, 2)) (hty : newarray.typeOf atype = ty) (harr : Cond.arrayClass ty ∈ zts) (hT : ∀ G : zG, (zT G)[kd]? = some (G.2.2.1 kd, ty)) (hra : ∀ (U : State) (cA : ClassId), va_RA U cA ty → U.vm.findClass ("[" ++ ty.toString) = some cA) (ha : ∀ cA : ClassId, vp_cell cA (N, x) = arrV cA N (fun _ => defaultValue ty)) (hzc : ∀ G : zG, zc G (.inl (kd, N, x)) = .inl (G.2.2.1 kd, N, x)) (hi : ¬ i < 0) (hN : i.toNatClampNeg = N) (hb : N * componentBytes ty ≤ 536870912) (hl : h.length < 1000000) (hk : k + 1 ≤ mc) (hn : n + N ≤ ms) (hq : pc + 2 = q) (kk : ZW M d mc ms q ls (.ref h.length :: st) (h ++ [.inl (kd, N, x)]) (k + 1) (n + N) X) : ZW M d mc ms pc ls (.int i :: st) h k n X := by
  subst hq
  subst hty
  intro l p e s m args below meth c Q G F E H locs arr hR hS hL
  have hts := F.2.2.2.2.2.1
  have hsz : H.size = zal G h.length := by rw [zal_lt hl]; exact hR.2.1
  refine va_newaK F.1 F.2.1 (hts _ harr) rfl hd rfl hi hN hb hk hn hsz fun H1 cA e1 z1 o1 hAr hNm => ?_
  have hcA : cA = G.2.2.1 kd := Option.some.inj (hNm.symm.trans (hra _ _ (F.2.2.2.2.2.2.1.1.2 kd _ (hT G)).2))
  rw [← hsz] at z1 o1
  refine kk l p e s m args below meth c Q G F E H1 locs arr (hR.ext (es := [.inl (kd, N, x)]) (by simp; omega) (fun j e' he => ?_) z1 o1) (zSgrow hS (by omega) o1) hL
  obtain ⟨rfl, rfl⟩ := zone he
  rw [hzc]
  show H1[zal G (h.length + 0)]? = some (vp_cell (G.2.2.1 kd) (N, x))
  rw [ha, ← hcA]
  exact e1
theorem z_newq {M : zM} {d mc ms pc q : Nat} {ls : zL} {st : List Value} {h : zH} {k n : Nat} {X : zX} {index kd N : Nat} {C : String} {i : Int32} (hd : decode M.2.1 pc = .ok (.anewarray index, 3)) (hcl : Cond.classLink M.1.cls index C ∈ zts) (hC : C ∈ ["YoungerBack$Way", "YoungerBack$Person", "YoungerBack$League"]) (hT : ∀ G : zG, (zT G)[kd]? = some (G.2.2.1 kd, .object C)) (hi : ¬ i < 0) (hN : i.toNatClampNeg = N) (hb : N * 4 ≤ 536870912) (hl : h.length < 1000000) (hk : k + 1 ≤ mc) (hn : n + N ≤ ms) (hq : pc + 3 = q) (kk : ZW M d mc ms q ls (.ref h.length :: st) (h ++ [.inl (kd, N, .inr (.inr (.inr (.inr (fun _ => none)))))]) (k + 1) (n + N) X) : ZW M d mc ms pc ls (.int i :: st) h k n X := by
  subst hq
  subst hN
  intro l p e s m args below meth c Q G F E H locs arr hR hS hL
  have hts := F.2.2.2.2.2.1
  have hsz : H.size = zal G h.length := by rw [zal_lt hl]; exact hR.2.1
  refine W.anew F.1 F.2.1 F.2.2.2.2.1 (hts _ hcl) (va_AO.use (F.2.2.2.2.2.2.1.2.2.1 C hC)) rfl hd rfl hi hb hk hn fun cA kA comp f1 f2 f3 f4 => ?_
  have hcA : cA = G.2.2.1 kd := by
    obtain ⟨kA', comp', -, -, -, h4⟩ := (F.2.2.2.2.2.2.1.1.2 kd _ (hT G)).2
    exact Option.some.inj (f1.symm.trans h4)
  rw [hsz]
  generalize hH1 : H.push ({ cls := cA, slots := Array.replicate i.toNatClampNeg .null, vm := .none } : Cell) = H1
  have z1 : H1.size = H.size + 1 := by rw [← hH1, Array.size_push]
  have e1 : H1[H.size]? = some (arrV cA i.toNatClampNeg (fun _ => .null)) := by rw [← hH1, Array.getElem?_push_size, ← arrV_new]
  have o1 : ∀ q : Nat, q < H.size → H1[q]? = H[q]? := fun q hq => by rw [← hH1, Array.getElem?_push, if_neg (Nat.ne_of_lt hq)]
  refine kk l p e s m args below meth c Q G F E H1 locs arr (hR.ext (es := [.inl (kd, i.toNatClampNeg, .inr (.inr (.inr (.inr (fun _ => none)))))]) (by simp; omega) (fun j e' he => ?_) z1 o1) (zSgrow hS (by omega) o1) hL
  obtain ⟨rfl, rfl⟩ := zone he
  show H1[zal G (h.length + 0)]? = some (arrV (G.2.2.1 kd) i.toNatClampNeg (fun _ => .null))
  rw [← hcA, Nat.add_zero, ← hsz]
  exact e1
theorem z_aastore {M : zM} {d mc ms pc q : Nat} {ls : zL} {st : List Value} {h : zH} {k n : Nat} {X : zX} {kd N a b ci Nn : Nat} {i : Int32} {f : Nat → Option Nat} {vs : List Value} {C : String} {T : u_T} (hd : decode M.2.1 pc = .ok (.aastore, 1)) (hT : ∀ G : zG, (zT G)[kd]? = some (G.2.2.1 kd, .object C)) (he : h[a]? = some (.inl (kd, N, .inr (.inr (.inr (.inr f)))))) (hb : h[b]? = some (.inr (ci, vs))) (hc : vwCl[ci]? = some (C, T, Nn)) (hi : vp_in i N) (hq : pc + 1 = q) (kk : ZW M d mc ms q ls st (h.set a (.inl (kd, N, .inr (.inr (.inr (.inr (va_up f i.toNatClampNeg (some b)))))))) k n X) : ZW M d mc ms pc ls (.ref b :: .int i :: .ref a :: st) h k n X := by
  subst hq
  intro l p e s m args below meth c Q G F E H locs arr hR hS hL
  have hK := F.2.2.2.2.2.2.1.1
  have hlt : i.toNatClampNeg < N := Nat.not_le.mp fun z => hi (Or.inr z)
  have h0 : ¬ i < 0 := fun z => hi (Or.inl z)
  obtain ⟨r', hr', cellV, g1, g2, g3, -⟩ := hR.1 b _ (zw_at hb)
  have hcls := (hK.1 ci _ hc).2
  obtain ⟨kA, comp, k1, k2, k3, -⟩ := (hK.2 kd _ (hT G)).2
  have hcomp : comp = G.2.2.2.1.1 ci := Option.some.inj (k3.symm.trans hcls.1)
  subst hcomp
  obtain ⟨kC, hkC, -⟩ := hcls.2
  refine W.aast F.1 F.2.1 (hR.1 a _ (zw_at he)) (fun z h => by cases h) (fun h => by cases h) k1 k2 rfl hkC ⟨h0, by show _ < (arrV _ _ _).slots.size; rw [arrV_size]; exact hlt⟩ g1 (fun z h => by rw [g3] at h; cases h) (by rw [g2]; exact hkC) (by rw [g2]; exact va_assign hcls) rfl rfl hd fun H1 e1 z1 oq => ?_
  refine kk l p e s m args below meth c Q G F E H1 _ arr (hR.set he ?_ z1 oq) (hS.put z1 oq (hR.lt he)) hL
  show H1[zal G a]? = some (vp_cell (G.2.2.1 kd) (N, .inr (.inr (.inr (.inr (fun j => (va_up f i.toNatClampNeg (some b) j).map (zal G)))))))
  rw [e1]
  show some (Cell.setSlot (vp_cell (G.2.2.1 kd) (N, .inr (.inr (.inr (.inr (fun j => (f j).map (zal G))))))) _ _) = _
  rw [vp_cell_q, vp_cell_q, arrV_store]
  congr 2
  funext z
  by_cases hz : z = i.toNatClampNeg
  · subst hz
    simp [updV, va_up, va_rf]
  · simp [updV, va_up, hz]
/-- eight rows of forty ints -/
def zGrid (b : Nat) : zH := [.inl (3, 8, .inr (.inr (.inr (.inr (fun j => if j < 8 then some (b + 1 + j) else none))))), .inl (0, 40, .inl fun _ => 0), .inl (0, 40, .inl fun _ => 0), .inl (0, 40, .inl fun _ => 0), .inl (0, 40, .inl fun _ => 0), .inl (0, 40, .inl fun _ => 0), .inl (0, 40, .inl fun _ => 0), .inl (0, 40, .inl fun _ => 0), .inl (0, 40, .inl fun _ => 0)]
theorem outer_arrV {cA : ClassId} {N h0 : Nat} : ∀ i, Jvm.Free.Multi.outerC cA N h0 i = arrV cA N (fun j => if j < i then .ref (h0 + 1 + j) else .null)
  | 0 => by
    unfold Jvm.Free.Multi.outerC
    rw [arrV_new]
    congr 1
  | i + 1 => by
    unfold Jvm.Free.Multi.outerC
    rw [outer_arrV i, arrV_store]
    congr 1
    funext j
    by_cases hj : j = i
    · subst hj
      simp [updV]
    · have e : (j < i + 1) = (j < i) := propext ⟨fun z => by omega, fun z => by omega⟩
      simp [updV, hj, e]
theorem z_multi {M : zM} {d mc ms pc q : Nat} {ls : zL} {st : List Value} {h : zH} {k n : Nat} {X : zX} {index : Nat} (hd : decode M.2.1 pc = .ok (.multianewarray index 2, 4)) (hcl : Cond.classLink M.1.cls index "[[I" ∈ zts) (harr : Cond.arrayClass .int ∈ zts) (hl : h.length + 9 ≤ 1000000) (hk : k + 9 ≤ mc) (hn : n + 328 ≤ ms) (hq : pc + 4 = q) (kk : ZW M d mc ms q ls (.ref h.length :: st) (h ++ zGrid h.length) (k + 9) (n + 328) X) : ZW M d mc ms pc ls (.int 40 :: .int 8 :: st) h k n X := by
  subst hq
  intro l p e s m args below meth c Q G F E H locs arr hR hS hL T hT X0
  have hts := F.2.2.2.2.2.1
  have e8 : (8 : Int32).toNatClampNeg = 8 := by decide
  have e40 : (40 : Int32).toNatClampNeg = 40 := by decide
  obtain ⟨vm₁, cA, comp, hW, hfA, hfC, -, -, X1, stp⟩ := X0.multianewarray2F F.1 (own := M.1.cls) (index := index) (ty := .int) F.2.2.2.2.1 (hts _ hcl) (by have := F.2.2.2.2.2.2.1.2.1; exact this) (hts _ harr) (g := F0 m pc arr ((Value.int 40 :: .int 8 :: st).map (zv G))) rfl (by rw [F.2.1]; exact hd) (n := 8) (k := 40) rfl (by decide) (by decide) (by decide) (by decide) (by decide) (by decide) (by decide) (by rw [e8]; exact hk) (by rw [e8, e40]; exact hn)
  obtain ⟨f1, f2, f3, f4⟩ := Jvm.Free.Multi.fill_facts (T.setVm vm₁) cA comp 8 40 (defaultValue .int) 8
  have fo := fun (a : Addr) (ha : a < T.heap.size) => Jvm.Free.Multi.fill_old (T.setVm vm₁) cA comp 8 40 (defaultValue .int) (a := a) ha 8
  have fi := fun (j : Nat) (hj : j < 8) => Jvm.Free.Multi.fill_inner (T.setVm vm₁) cA comp 8 40 (defaultValue .int) 8 j hj
  rw [e8, e40] at X1 stp
  generalize Jvm.Free.Multi.fill (T.setVm vm₁) cA comp 8 40 (defaultValue .int) 8 = T1 at f1 f2 f3 f4 fo fi X1 stp
  have hTs : (T.setVm vm₁).heap = T.heap := rfl
  rw [hTs, hT] at f1 f2 fi
  rw [hT] at fo stp
  have hsz : H.size = zal G h.length := by rw [zal_lt (by omega)]; exact hR.2.1
  have hcA : cA = G.2.2.1 3 := Option.some.inj (hfA.symm.trans (F.2.2.2.2.2.2.1.1.2 3 _ rfl).2)
  have hcC : comp = G.2.2.1 0 := Option.some.inj (hfC.symm.trans (F.2.2.2.2.2.2.1.1.2 0 _ rfl).2)
  subst hcA
  subst hcC
  have o1 : ∀ q : Nat, q < H.size → T1.heap[q]? = H[q]? := fun q hq => by
    rw [fo q hq]
    show T.heap[q]? = H[q]?
    rw [hT]
  have hR1 : zRep G (h ++ zGrid h.length) T1.heap := by
    refine hR.ext (by simpa [zGrid] using hl) (fun j e' he => ?_) (by rw [f1]; rfl) o1
    have inner : ∀ i, i < 8 → va_at G.2.2.2.1 vwCl (zal G (h.length + (i + 1)), zc G (.inl (0, 40, .inl fun _ => 0))) T1.heap := fun i hi => by
      show T1.heap[zal G (h.length + (i + 1))]? = some (vp_cell (G.2.2.1 0) (40, .inl fun _ => 0))
      have := fi i hi
      rw [hR.2.1] at this
      rw [zal_lt (by omega), show G.1 + (h.length + (i + 1)) = G.1 + h.length + 1 + i by omega, this, vp_cell_i]
      show some (Jvm.Free.Multi.innerC (G.2.2.1 0) 40 (.int 0)) = _
      unfold Jvm.Free.Multi.innerC
      rw [arrV_new]
    match j, he with
    | 0, he =>
      obtain rfl := Option.some.inj he
      show T1.heap[zal G (h.length + 0)]? = some (vp_cell (G.2.2.1 3) (8, .inr (.inr (.inr (.inr (fun j => (if j < 8 then some (h.length + 1 + j) else none : Option Nat).map (zal G)))))))
      rw [Nat.add_zero, ← hsz, f2, outer_arrV, vp_cell_q]
      congr 2
      funext j
      by_cases hj : j < 8
      · rw [if_pos hj, if_pos hj]
        show Value.ref (H.size + 1 + j) = Value.ref (zal G (h.length + 1 + j))
        rw [zal_lt (by omega), hR.2.1, show G.1 + h.length + 1 + j = G.1 + (h.length + 1 + j) by omega]
      · rw [if_neg hj, if_neg hj]
        rfl
    | 1, he => obtain rfl := Option.some.inj he; exact inner 0 (by decide)
    | 2, he => obtain rfl := Option.some.inj he; exact inner 1 (by decide)
    | 3, he => obtain rfl := Option.some.inj he; exact inner 2 (by decide)
    | 4, he => obtain rfl := Option.some.inj he; exact inner 3 (by decide)
    | 5, he => obtain rfl := Option.some.inj he; exact inner 4 (by decide)
    | 6, he => obtain rfl := Option.some.inj he; exact inner 5 (by decide)
    | 7, he => obtain rfl := Option.some.inj he; exact inner 6 (by decide)
    | 8, he => obtain rfl := Option.some.inj he; exact inner 7 (by decide)
    | j + 9, he => simp [zGrid] at he
  obtain ⟨t, a1, b1⟩ := kk l p e s m args below meth c Q G F E T1.heap locs arr hR1 (zSgrow hS (by rw [f1]; omega) o1) hL T1 rfl (X1.more (by omega) (by omega))
  refine ⟨t, stp t ?_, b1⟩
  rw [hsz]
  exact a1
