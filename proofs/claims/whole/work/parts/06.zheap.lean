/-! ===== Z rules of the heap ===== -/
theorem zRep.lt {G : zG} {h : zH} {H : Heap} (hR : zRep G h H) {a : Nat} {e : zE} (he : h[a]? = some e) : zA G (zal G a) := by
  have h1 := (List.getElem?_eq_some_iff.mp he).1
  rw [zal_lt (by have := hR.2.2; omega)]
  show G.1 ≤ G.1 + a
  omega
theorem zRep.set {G : zG} {h : zH} {H H1 : Heap} (hR : zRep G h H) {a : Nat} {e0 e : zE} (he : h[a]? = some e0) (h1 : va_at G.2.2.2.1 vwCl (zal G a, zc G e) H1) (hz : H1.size = H.size) (oq : ∀ q : Nat, q ≠ zal G a → H1[q]? = H[q]?) : zRep G (h.set a e) H1 := by
  refine ⟨?_, ?_, ?_⟩
  · rw [zw_set]
    exact hR.1.set (zw_D hR.2.2) (zw_at he) h1 oq
  · rw [hz, List.length_set]; exact hR.2.1
  · rw [List.length_set]; exact hR.2.2
/-- a field of one of the classes, as class own links it -/
def zFl (own : String) (index ci kx : Nat) : Prop := ∃ (C : String) (T : u_T) (N : Nat), vwCl[ci]? = some (C, T, N) ∧ (∀ w ∈ u_ws C T N, w ∈ zts) ∧ kx < N ∧ Cond.fieldLink own index (T kx).1 (T kx).2.1 (T kx).2.2.1 ∈ zts
def zFp (own : String) (index ci kx : Nat) (ty : FieldType) (fin : Bool) : Prop := ∃ (C : String) (T : u_T) (N : Nat) (ty0 : Nat → FieldType), vwCl[ci]? = some (C, T, N) ∧ (∀ w ∈ u_ws C T N, w ∈ zts) ∧ kx < N ∧ Cond.fieldLink own index (T kx).1 (T kx).2.1 (T kx).2.2.1 ∈ zts ∧ (∀ k, k < N → parseFieldDescriptor (T k).2.2.1 = some (ty0 k)) ∧ (∀ a, a < N → ∀ b, b < N → a ≠ b → (T a).2.1 ≠ (T b).2.1) ∧ parseFieldDescriptor (T kx).2.2.1 = some ty ∧ (T kx).2.2.2 = fin ∧ (fin = true → (T kx).1 = own)
theorem z_getf {M : zM} {d mc ms pc q : Nat} {ls : zL} {st : List Value} {h : zH} {k n : Nat} {X : zX} {index ci kx a : Nat} {fs : List Value} {v : Value} (hd : decode M.2.1 pc = .ok (.getfield index, 3)) (hf : zFl M.1.cls index ci kx) (he : h[a]? = some (.inr (ci, fs))) (hv : fs[kx]? = some v) (hq : pc + 3 = q) (kk : ZW M d mc ms q ls (v :: st) h k n X) : ZW M d mc ms pc ls (.ref a :: st) h k n X := by
  subst hq
  intro l p e s m args below meth c Q G F E H locs arr hR hS hL
  obtain ⟨C, T, N, hc, hin, hk, hw⟩ := hf
  exact va_get F.1 F.2.1 F.2.2.2.2.2.1 hin F.2.2.2.2.1 F.2.2.2.2.2.2.1.1 hR.1 a (zw_at he) hc kx hk (F.2.2.2.2.2.1 _ hw) (fun _ z => z) (v := zv G v) (by rw [List.getElem?_map, hv]; rfl) hd (kk l p e s m args below meth c Q G F E H locs arr hR hS hL)
theorem z_putf {M : zM} {d mc ms pc q : Nat} {ls : zL} {st : List Value} {h : zH} {k n : Nat} {X : zX} {index ci kx a : Nat} {fs : List Value} {v : Value} {ty : FieldType} (hd : decode M.2.1 pc = .ok (.putfield index, 3)) (hf : zFp M.1.cls index ci kx ty false) (he : h[a]? = some (.inr (ci, fs))) (hl : kx < fs.length) (hn : ∀ G : zG, narrow ty (zv G v) = zv G v ∧ fits ty (zv G v) = true) (hq : pc + 3 = q) (kk : ZW M d mc ms q ls st (h.set a (.inr (ci, fs.set kx v))) k n X) : ZW M d mc ms pc ls (v :: .ref a :: st) h k n X := by
  subst hq
  intro l p e s m args below meth c Q G F E H locs arr hR hS hL
  obtain ⟨C, T, N, ty0, hc, hin, hk, hw, hty, hnm, hd9, hfin, -⟩ := hf
  have hts := F.2.2.2.2.2.1
  have hK := F.2.2.2.2.2.2.1.1
  have hap := va_apart (own := M.1.cls) hts hin ty0 hty hnm hK hc
  obtain ⟨r, h1, cell, q1, q2, q3, q4⟩ := hR.1 a _ (zw_at he)
  have hr : r = (C, T, N) := Option.some.inj (h1.symm.trans hc)
  subst hr
  obtain ⟨hS9, hfc, kC, hkC, hkind⟩ := hK.1 ci _ hc
  obtain ⟨cf, kf, fi, f, hi, hsl⟩ := hS9 kx hk
  have hlay := hts _ (hin _ (u_in_lay hk))
  unfold u_lay at hlay
  rw [if_neg (by rw [hfin]; decide)] at hlay
  have hst := (u_facts hfc hkC (u_lays hts hin hk) hi).1
  have h6 := u_store hfc hkC hkind hlay hi hd9 (hn G).1 (hn G).2
  refine W.putK F.1 F.2.1 (f := f) ⟨F.2.2.2.2.1, hts _ hw, ⟨_, _, _, hi⟩, hst⟩ (by rw [q2]; exact h6) q1 q3 (by rw [hsl]; exact k2_hasslot (q4 kx hk)) rfl rfl hd fun H' e1 e2 e3 => ?_
  rw [hsl] at e1 ⊢
  refine kk l p e s m args below meth c Q G F E H' _ arr (hR.set he ⟨_, hc, t_OB.to (V := updV (vp_V (fs.map (zv G))) kx (zv G v)) ⟨_, e1, q2, q3, t_set q4 hap hk (zv G v)⟩ (fun j _ => ?_)⟩ e2 e3) (hS.put e2 e3 (hR.lt he)) hL
  rw [vp_updV_set (by simpa using hl)]
  simp [List.map_set]
theorem z_putF {M : zM} {d mc ms pc q : Nat} {ls : zL} {st : List Value} {h : zH} {k n : Nat} {X : zX} {index ci kx a : Nat} {fs : List Value} {v : Value} {ty : FieldType} (hd : decode M.2.1 pc = .ok (.putfield index, 3)) (hf : zFp M.1.cls index ci kx ty true) (hin9 : M.1.name = "<init>") (he : h[a]? = some (.inr (ci, fs))) (hl : kx < fs.length) (hn : ∀ G : zG, narrow ty (zv G v) = zv G v ∧ fits ty (zv G v) = true) (hq : pc + 3 = q) (kk : ZW M d mc ms q ls st (h.set a (.inr (ci, fs.set kx v))) k n X) : ZW M d mc ms pc ls (v :: .ref a :: st) h k n X := by
  subst hq
  intro l p e s m args below meth c Q G F E H locs arr hR hS hL
  obtain ⟨C, T, N, ty0, hc, hin, hk, hw, hty, hnm, hd9, hfin, hdecl⟩ := hf
  have hts := F.2.2.2.2.2.1
  have hK := F.2.2.2.2.2.2.1.1
  have hap := va_apart (own := M.1.cls) hts hin ty0 hty hnm hK hc
  obtain ⟨r, h1, cell, q1, q2, q3, q4⟩ := hR.1 a _ (zw_at he)
  have hr : r = (C, T, N) := Option.some.inj (h1.symm.trans hc)
  subst hr
  obtain ⟨hS9, hfc, kC, hkC, hkind⟩ := hK.1 ci _ hc
  obtain ⟨cf, kf, fi, f, hi, hsl⟩ := hS9 kx hk
  have hlay := hts _ (hin _ (u_in_lay hk))
  unfold u_lay at hlay
  rw [if_pos hfin] at hlay
  have hst := (u_facts hfc hkC (u_lays hts hin hk) hi).1
  have hown := F.2.2.2.2.1
  have hcf : m.cls = cf := by
    obtain ⟨_, _, c', _, _, _, -, -, hf', -, -, -, hown2, -⟩ := Cond.laysFinal_spec hlay
    have e1 : c' = cf := by have := hi.symm.trans hf'; simp at this; exact this.1.symm
    rw [hdecl rfl] at hown2
    rw [← e1]; exact Option.some.inj (hown.symm.trans hown2)
  have h6 := u_fits hfc hkC hkind (Or.inr hlay) hi hd9 (hn G).1 (hn G).2
  refine W.putFinK F.1 F.2.1 hown (hts _ hw) hi hst hcf (F.2.2.2.2.2.2.2.2.2.1.trans hin9) (by rw [q2]; exact h6) q1 q3 (by rw [hsl]; exact k2_hasslot (q4 kx hk)) rfl rfl hd fun H' e1 e2 e3 => ?_
  rw [hsl] at e1 ⊢
  refine kk l p e s m args below meth c Q G F E H' _ arr (hR.set he ⟨_, hc, t_OB.to (V := updV (vp_V (fs.map (zv G))) kx (zv G v)) ⟨_, e1, q2, q3, t_set q4 hap hk (zv G v)⟩ (fun j _ => ?_)⟩ e2 e3) (hS.put e2 e3 (hR.lt he)) hL
  rw [vp_updV_set (by simpa using hl)]
  simp [List.map_set]
theorem z_iaload {M : zM} {d mc ms pc q : Nat} {ls : zL} {st : List Value} {h : zH} {k n : Nat} {X : zX} {a N : Nat} {i : Int32} {f : Nat → Int32} (hd : decode M.2.1 pc = .ok (.iaload, 1)) (he : h[a]? = some (.inl (0, N, .inl f))) (hi : vp_in i N) (hq : pc + 1 = q) (kk : ZW M d mc ms q ls (.int (f i.toNatClampNeg) :: st) h k n X) : ZW M d mc ms pc ls (.int i :: .ref a :: st) h k n X := by
  subst hq
  intro l p e s m args below meth c Q G F E H locs arr hR hS hL
  exact va_iald F.1 F.2.1 F.2.2.2.2.2.2.1.1 hR.1 a 0 (zw_at he) rfl hi hd (kk l p e s m args below meth c Q G F E H locs arr hR hS hL)
theorem z_laload {M : zM} {d mc ms pc q : Nat} {ls : zL} {st : List Value} {h : zH} {k n : Nat} {X : zX} {a N : Nat} {i : Int32} {f : Nat → Int64} (hd : decode M.2.1 pc = .ok (.laload, 1)) (he : h[a]? = some (.inl (1, N, .inr (.inl f)))) (hi : vp_in i N) (hq : pc + 1 = q) (kk : ZW M d mc ms q ls (.long (f i.toNatClampNeg) :: st) h k n X) : ZW M d mc ms pc ls (.int i :: .ref a :: st) h k n X := by
  subst hq
  intro l p e s m args below meth c Q G F E H locs arr hR hS hL
  exact va_lald F.1 F.2.1 F.2.2.2.2.2.2.1.1 hR.1 a 1 (zw_at he) rfl hi hd (kk l p e s m args below meth c Q G F E H locs arr hR hS hL)
theorem z_zaload {M : zM} {d mc ms pc q : Nat} {ls : zL} {st : List Value} {h : zH} {k n : Nat} {X : zX} {a N : Nat} {i : Int32} {f : Nat → Int32} (hd : decode M.2.1 pc = .ok (.baload, 1)) (he : h[a]? = some (.inl (2, N, .inl f))) (hi : vp_in i N) (hq : pc + 1 = q) (kk : ZW M d mc ms q ls (.int (f i.toNatClampNeg) :: st) h k n X) : ZW M d mc ms pc ls (.int i :: .ref a :: st) h k n X := by
  subst hq
  intro l p e s m args below meth c Q G F E H locs arr hR hS hL
  exact va_zald F.1 F.2.1 F.2.2.2.2.2.2.1.1 hR.1 a 2 (zw_at he) rfl hi hd (kk l p e s m args below meth c Q G F E H locs arr hR hS hL)
theorem z_aaload {M : zM} {d mc ms pc q : Nat} {ls : zL} {st : List Value} {h : zH} {k n : Nat} {X : zX} {kx a N : Nat} {i : Int32} {b : Nat} {f : Nat → Option Nat} (hd : decode M.2.1 pc = .ok (.aaload, 1)) (hkx : kx = 3 ∨ kx = 4 ∨ kx = 5 ∨ kx = 6) (he : h[a]? = some (.inl (kx, N, .inr (.inr (.inr (.inr f)))))) (hi : vp_in i N) (hb : f i.toNatClampNeg = some b) (hq : pc + 1 = q) (kk : ZW M d mc ms q ls (.ref b :: st) h k n X) : ZW M d mc ms pc ls (.int i :: .ref a :: st) h k n X := by
  subst hq
  intro l p e s m args below meth c Q G F E H locs arr hR hS hL
  have hlt : i.toNatClampNeg < N := Nat.not_le.mp fun z => hi (Or.inr z)
  have hcell := hR.1 a _ (zw_at he)
  obtain ⟨ty, hty, hrf⟩ : ∃ ty, (zT G)[kx]? = some (G.2.2.1 kx, ty) ∧ ty.isReference = true := by
    rcases hkx with rfl | rfl | rfl | rfl <;> exact ⟨_, rfl, rfl⟩
  refine W.aald (v := .ref (zal G b)) (ty := ty) F.1 F.2.1 hcell ((F.2.2.2.2.2.2.1.1.2 kx _ hty).1 N (fun j => va_rf ((f j).map (zal G)))) hrf (fun z => by cases z) (by show ¬ (i < 0 ∨ (arrV _ _ _).slots.size ≤ _); rw [arrV_size]; exact hi) (by show (arrV _ _ _).slots[_]? = _; rw [arrV_read _ _ hlt]; show some (va_rf ((f i.toNatClampNeg).map (zal G))) = _; rw [hb]; rfl) rfl rfl hd (kk l p e s m args below meth c Q G F E H locs arr hR hS hL)
theorem z_iastore {M : zM} {d mc ms pc q : Nat} {ls : zL} {st : List Value} {h : zH} {k n : Nat} {X : zX} {a N : Nat} {i : Int32} {x : Int32} {f : Nat → Int32} (hd : decode M.2.1 pc = .ok (.iastore, 1)) (he : h[a]? = some (.inl (0, N, .inl f))) (hi : vp_in i N) (hq : pc + 1 = q) (kk : ZW M d mc ms q ls st (h.set a (.inl (0, N, .inl (upd f i.toNatClampNeg x)))) k n X) : ZW M d mc ms pc ls (.int x :: .int i :: .ref a :: st) h k n X := by
  subst hq
  intro l p e s m args below meth c Q G F E H locs arr hR hS hL
  refine W.iast F.1 F.2.1 (hR.1 a _ (zw_at he)) ((F.2.2.2.2.2.2.1.1.2 0 _ rfl).1 N (fun j => .int (f j))) (fun z => by cases z) (by show ¬ (i < 0 ∨ (arrV _ _ _).slots.size ≤ _); rw [arrV_size]; exact hi) rfl rfl hd fun H1 e1 z oq => ?_
  refine kk l p e s m args below meth c Q G F E H1 _ arr (hR.set he ?_ z oq) (hS.put z oq (hR.lt he)) hL
  show H1[zal G a]? = some (vp_cell (G.2.2.1 0) (N, .inl (upd f i.toNatClampNeg x)))
  rw [e1]
  show some (Cell.setSlot (vp_cell (G.2.2.1 0) (N, .inl f)) _ _) = _
  rw [vp_cell_i, vp_cell_i, arrV_store]
  congr 2
  funext q
  by_cases hq : q = i.toNatClampNeg
  · subst hq
    simp [updV, upd, vp_nar]
    try rfl
  · simp [updV, upd, hq]
theorem z_lastore {M : zM} {d mc ms pc q : Nat} {ls : zL} {st : List Value} {h : zH} {k n : Nat} {X : zX} {a N : Nat} {i : Int32} {x : Int64} {f : Nat → Int64} (hd : decode M.2.1 pc = .ok (.lastore, 1)) (he : h[a]? = some (.inl (1, N, .inr (.inl f)))) (hi : vp_in i N) (hq : pc + 1 = q) (kk : ZW M d mc ms q ls st (h.set a (.inl (1, N, .inr (.inl (vp_updL f i.toNatClampNeg x))))) k n X) : ZW M d mc ms pc ls (.long x :: .int i :: .ref a :: st) h k n X := by
  subst hq
  intro l p e s m args below meth c Q G F E H locs arr hR hS hL
  refine W.last F.1 F.2.1 (hR.1 a _ (zw_at he)) ((F.2.2.2.2.2.2.1.1.2 1 _ rfl).1 N (fun j => .long (f j))) (fun z => by cases z) (by show ¬ (i < 0 ∨ (arrV _ _ _).slots.size ≤ _); rw [arrV_size]; exact hi) rfl rfl hd fun H1 e1 z oq => ?_
  refine kk l p e s m args below meth c Q G F E H1 _ arr (hR.set he ?_ z oq) (hS.put z oq (hR.lt he)) hL
  show H1[zal G a]? = some (vp_cell (G.2.2.1 1) (N, .inr (.inl (vp_updL f i.toNatClampNeg x))))
  rw [e1]
  show some (Cell.setSlot (vp_cell (G.2.2.1 1) (N, .inr (.inl f))) _ _) = _
  rw [vp_cell_l, vp_cell_l, arrV_store]
  congr 2
  funext q
  by_cases hq : q = i.toNatClampNeg
  · subst hq
    simp [updV, vp_updL, vp_nar]
    try rfl
  · simp [updV, vp_updL, hq]
theorem z_zastore {M : zM} {d mc ms pc q : Nat} {ls : zL} {st : List Value} {h : zH} {k n : Nat} {X : zX} {a N : Nat} {i : Int32} {x : Int32} {f : Nat → Int32} (hd : decode M.2.1 pc = .ok (.bastore, 1)) (he : h[a]? = some (.inl (2, N, .inl f))) (hi : vp_in i N) (hq : pc + 1 = q) (kk : ZW M d mc ms q ls st (h.set a (.inl (2, N, .inl (upd f i.toNatClampNeg (vp_nar .boolean x))))) k n X) : ZW M d mc ms pc ls (.int x :: .int i :: .ref a :: st) h k n X := by
  subst hq
  intro l p e s m args below meth c Q G F E H locs arr hR hS hL
  refine W.zast F.1 F.2.1 (hR.1 a _ (zw_at he)) ((F.2.2.2.2.2.2.1.1.2 2 _ rfl).1 N (fun j => .int (f j))) (fun z => by cases z) (by show ¬ (i < 0 ∨ (arrV _ _ _).slots.size ≤ _); rw [arrV_size]; exact hi) rfl rfl hd fun H1 e1 z oq => ?_
  refine kk l p e s m args below meth c Q G F E H1 _ arr (hR.set he ?_ z oq) (hS.put z oq (hR.lt he)) hL
  show H1[zal G a]? = some (vp_cell (G.2.2.1 2) (N, .inl (upd f i.toNatClampNeg (vp_nar .boolean x))))
  rw [e1]
  show some (Cell.setSlot (vp_cell (G.2.2.1 2) (N, .inl f)) _ _) = _
  rw [vp_cell_i, vp_cell_i, arrV_store]
  congr 2
  funext q
  by_cases hq : q = i.toNatClampNeg
  · subst hq
    simp [updV, upd, vp_nar]
    try rfl
  · simp [updV, upd, hq]
theorem z_alen {M : zM} {d mc ms pc q : Nat} {ls : zL} {st : List Value} {h : zH} {k n : Nat} {X : zX} {kx a N : Nat} {x : (Nat → Int32) ⊕ (Nat → Int64) ⊕ (Nat → UInt32) ⊕ (Nat → UInt64) ⊕ (Nat → Option Nat)} (hd : decode M.2.1 pc = .ok (.arraylength, 1)) (hkx : kx < 7) (he : h[a]? = some (.inl (kx, N, x))) (hq : pc + 1 = q) (kk : ZW M d mc ms q ls (.int (Int32.ofNat N) :: st) h k n X) : ZW M d mc ms pc ls (.ref a :: st) h k n X := by
  subst hq
  intro l p e s m args below meth c Q G F E H locs arr hR hS hL
  obtain ⟨ty, hty⟩ : ∃ ty, (zT G)[kx]? = some (G.2.2.1 kx, ty) := by
    match kx, hkx with
    | 0, _ => exact ⟨_, rfl⟩
    | 1, _ => exact ⟨_, rfl⟩
    | 2, _ => exact ⟨_, rfl⟩
    | 3, _ => exact ⟨_, rfl⟩
    | 4, _ => exact ⟨_, rfl⟩
    | 5, _ => exact ⟨_, rfl⟩
    | 6, _ => exact ⟨_, rfl⟩
  have hz : ∃ x2 : vp_A, zc G (.inl (kx, N, x)) = .inl (G.2.2.1 kx, x2) ∧ x2.1 = N := by
    rcases x with x | x | x | x | x <;> exact ⟨_, rfl, rfl⟩
  obtain ⟨x2, hx2, hx3⟩ := hz
  refine va_alen F.1 F.2.1 F.2.2.2.2.2.2.1.1 hR.1 a kx (x := x2) (by rw [zw_at he, hx2]) hty (by rw [hx3]) hd (kk l p e s m args below meth c Q G F E H locs arr hR hS hL)
