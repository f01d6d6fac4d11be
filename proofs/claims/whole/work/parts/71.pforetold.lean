/-! ===== pure: gains, soonest, where, even ===== -/
theorem Rel.e {m m' : zm} (h : Rel m) (e : m'.1 = m.1) : Rel m' := h.k (fun a k _ _ => by rw [e]) (by rw [e]; exact h.1.1)
theorem mT_e {m m' : zm} (e : m'.1 = m.1) : (mT m').1 = (mT m).1 := by
  show (upI m' 180 0 0).1 = (upI m 180 0 0).1
  unfold upI
  rw [e]
theorem mT_184 {m m' : zm} (e : m'.1 = m.1) : (mT m').1 184 = m.1 184 := by rw [mT_e e]; exact upI_na (by decide)
theorem wOk_of {m : zm} {H W P : Nat} (hc : rCur m H W P) : wOk m W := by
  intro i hi
  have h5 := hc.1.1.1
  obtain ⟨p, q, s, w, hp, hq, -, -, -, -, z0, z1, -⟩ := (hc.1.2.2.2.1 i hi).1
  exact ⟨⟨p, by omega, z0⟩, q, by omega, z1⟩
theorem lOk_of {m : zm} {H W P : Nat} (hc : rCur m H W P) : lOk m H W := by
  refine ⟨(cur_hd hc (k := 0) (by omega)).trans (cur_H hc).1, (cur_H hc).2, (cur_hd hc (k := 2) (by omega)).trans (cur_W hc).1, (cur_W hc).2, fun w hw => ?_⟩
  have h5 := hc.1.1.1
  obtain ⟨p, q, s, y, hp, hq, -, -, hs, -, z0, z1, z2, -⟩ := (hc.1.2.2.2.1 w hw).1
  exact ⟨⟨p, by omega, (cur_way hc hw (k := 0) (by omega)).trans z0⟩, ⟨q, by omega, (cur_way hc hw (k := 1) (by omega)).trans z1⟩, s, hs, (cur_way hc hw (k := 2) (by omega)).trans z2⟩
theorem MD.d {m m' : zm} {f : Nat → Nat → Int32} {j H W : Nat} (e : m'.1 184 = m.1 184) (h : MD m f j H W) : MD m' f j H W := by
  intro w hw
  have := h w hw
  unfold mAgesBy mEndOf mTo mOf mWy at *
  rw [e]
  exact this
/-- where one is, by both -/
theorem at_of {m : zm} {H W P j : Nat} (hc : rCur m H W P) (hj : j < P) : ∃ x, x < 5 ∧ m.1 (25 + j) 2 = nI x ∧ m.1 184 (36 + 8 * j + 1) = nI x := by
  have hH := hc.1.1.1
  obtain ⟨k, t, hh, c, g, n, hk, -, h3, -, -, -, -, -, k2, -⟩ := (hc.1.2.2.2.2 j hj).1
  exact ⟨hh, by omega, k2, (cur_per hc hj (k := 1) (by omega)).trans k2⟩
/-- what the two lay is one -/
theorem lay_eq {m m1 M : zm} {H W P j x : Nat} (hc : rCur m H W P) (hj : j < P) (hx : x < 5) (ha : m.1 (25 + j) 2 = nI x) (hm : m1.1 = m.1) (hM : M.1 184 = m.1 184) (a : Nat) : (∀ y z, y ≤ 40 → z < 5 → cV (cFore m1 a (25 + j) W) a y z = uV (mLay M j H W x) y z) ∧ (∀ y z l, y ≤ 40 → z < 5 → Bt (cV (cFore m1 a (25 + j) W) a y z) l = true → l ≤ 40) ∧ (∀ c k, c ≠ a + 1 → (cFore m1 a (25 + j) W).2 c k = m1.2 c k) ∧ ∀ c k, c ≠ 188 → (mLay M j H W x).2 c k = M.2 c k := by
  have hD := RD_of hc hj
  have c := cFore_F (m := m1) (a := a) (j := j) (H := H) (W := W) (by rw [hm]; exact hD)
  rw [hm] at c
  have u := mLay_F hD ((MD_of hc hj).d hM) ha hx
  exact ⟨fun y z hy hz => F_one hD c.1 c.2.1 u.1 u.2.1 hy hz, fun y z l hy hz q => F_40 hD c.1 hy hz q, c.2.2, u.2.2⟩
theorem in_40 {y : Int32} (h : ¬ (y < 0 ∨ 40 < y)) : ∃ n : Nat, n ≤ 40 ∧ y = nI n := nI_of2 (n := 40) (M := 40) (by decide) (fun q => h (Or.inl q)) (Int32.not_lt.mp (fun q => h (Or.inr q)))
theorem ni_40 {n : Nat} (h : n ≤ 40) : ¬ (nI n < 0 ∨ 40 < nI n) := by
  rintro (q | q)
  · exact nI_pos (by omega) q
  · exact nI_nlt (a := 40) (b := n) (by omega) (by omega) q
theorem st_gains : ∀ m : zm, Rel m → ∀ a0 a1 a2 a3 : Int32, LawStp Rel zM_X7_gains zM_X8_gains m [.int a0, .int a1, .int a2, .int a3] := by
  intro m h p z y w
  by_cases hb : (p < 0 ∨ m.1 14 3 - 1 < p) ∨ (z < 0 ∨ m.1 14 0 - 1 < z) ∨ (y < 0 ∨ 40 < y) ∨ (w < 0 ∨ 2 < w)
  · exact stp_mk (ev_X7_gains_bad 7 m p z y w hb) (ev_X8_gains_bad 8 m p z y w (hb.imp (h.nob p).mp (Or.imp_left (h.noh z).mp))) rfl h.t
  · have b1 : ¬ (p < 0 ∨ m.1 14 3 - 1 < p) := fun q => hb (Or.inl q)
    have b2 : ¬ (z < 0 ∨ m.1 14 0 - 1 < z) := fun q => hb (Or.inr (Or.inl q))
    have b3 : ¬ (y < 0 ∨ 40 < y) := fun q => hb (Or.inr (Or.inr (Or.inl q)))
    have b4 : ¬ (w < 0 ∨ 2 < w) := fun q => hb (Or.inr (Or.inr (Or.inr q)))
    obtain ⟨-, -, -, -, -, H, W, P, hc, -⟩ := id h
    obtain ⟨j, hj, hj4, rfl⟩ := cur_some hc b1
    obtain ⟨s, hs, hs5, rfl⟩ := cur_harb hc b2
    obtain ⟨n, hn, rfl⟩ := in_40 b3
    obtain ⟨x, hx, hx1, hx2⟩ := at_of hc hj
    have e1 := cFore_1 m 144 (25 + j) W
    have hcl := ev_X7_gains 7 m W j (nI s) (nI n) w b1 b2 b3 b4 (cur_W hc).1 (cur_W hc).2 (wOk_of hc) hj4
    have hml := ev_X8_gains 8 (cFore m 144 (25 + j) W) H W x j s n w (by rw [e1]; exact fun q => b1 ((h.nob _).mpr q)) (by rw [e1]; exact fun q => b2 ((h.noh _).mpr q)) b3 b4 (lOk_c e1 (lOk_of hc)) (by rw [e1]; exact hx2) hx hj4 hs5 (by omega)
    obtain ⟨l1, l2, -⟩ := lay_eq (M := mT (cFore m 144 (25 + j) W)) hc hj hx hx1 rfl (mT_184 e1) 144
    refine stp_mk hcl hml ?_ (h.t.e (by rw [mLay_1, mT_e e1]))
    rw [cG_v hn hs5, gains_eq (fun l q => l2 n s l hn hs5 q) b4, l1 n s hn hs5]
theorem soon_eq {C M : zm} {s l : Nat} (hs : s < 5) (hl : l ≤ 40) (e : ∀ y z, y ≤ 40 → z < 5 → cV C 144 y z = uV M y z) : ∀ (n y : Nat), y + n ≤ 41 → cSoon C 144 (nI s) (nI l) n y = gSoon M s (nI l) n y := by
  intro n
  induction n with
  | zero => intro y _; rfl
  | succ n ih =>
    intro y hy
    rw [cSoon, gSoon, cG_v (by omega) hs, e y s (by omega) hs, ih _ (by omega)]
    have c1 := Bt_c (uV M y s) (l := l) (by omega)
    have c2 := Bt_m (uV M y s) (l := l) (by omega)
    by_cases q : Bt (uV M y s) l = true
    · rw [if_pos ⟨ni_40 hl, c1.mpr q⟩, if_pos (c2.mpr q)]
    · rw [if_neg (fun z => q (c1.mp z.2)), if_neg (fun z => q (c2.mp z))]
theorem st_soonest : ∀ m : zm, Rel m → ∀ a0 a1 a2 : Int32, LawStp Rel zM_X7_soonest zM_X8_soonest m [.int a0, .int a1, .int a2] := by
  intro m h p z y
  by_cases hb : (p < 0 ∨ m.1 14 3 - 1 < p) ∨ (z < 0 ∨ m.1 14 0 - 1 < z) ∨ (y < 0 ∨ 40 < y)
  · exact stp_mk (ev_X7_soonest_bad 7 m p z y hb) (ev_X8_soonest_bad 8 m p z y (hb.imp (h.nob p).mp (Or.imp_left (h.noh z).mp))) rfl h.t
  · have b1 : ¬ (p < 0 ∨ m.1 14 3 - 1 < p) := fun q => hb (Or.inl q)
    have b2 : ¬ (z < 0 ∨ m.1 14 0 - 1 < z) := fun q => hb (Or.inr (Or.inl q))
    have b3 : ¬ (y < 0 ∨ 40 < y) := fun q => hb (Or.inr (Or.inr q))
    obtain ⟨-, -, -, -, -, H, W, P, hc, -⟩ := id h
    obtain ⟨j, hj, hj4, rfl⟩ := cur_some hc b1
    obtain ⟨s, hs, hs5, rfl⟩ := cur_harb hc b2
    obtain ⟨n, hn, rfl⟩ := in_40 b3
    obtain ⟨x, hx, hx1, hx2⟩ := at_of hc hj
    have e1 := cFore_1 m 144 (25 + j) W
    have hcl := ev_X7_soonest 7 m W j (nI s) (nI n) b1 b2 b3 (cur_W hc).1 (cur_W hc).2 (wOk_of hc) hj4
    have hml := ev_X8_soonest 8 (cFore m 144 (25 + j) W) H W x j s (nI n) (by rw [e1]; exact fun q => b1 ((h.nob _).mpr q)) (by rw [e1]; exact fun q => b2 ((h.noh _).mpr q)) b3 (lOk_c e1 (lOk_of hc)) (by rw [e1]; exact hx2) hx hj4 hs5
    obtain ⟨l1, -, -⟩ := lay_eq (M := mT (cFore m 144 (25 + j) W)) hc hj hx hx1 rfl (mT_184 e1) 144
    exact stp_mk hcl hml (soon_eq hs5 hn l1 41 0 (by omega)).symm (h.t.e (by rw [mLay_1, mT_e e1]))
theorem whL_no {m : zm} {y g : Int32} (h : ∀ z, z < 5 → ¬ (¬ (g < 0 ∨ 40 < g) ∧ ((cG m 144 y (nI z)).toUInt64 >>> (g.toInt64.toUInt64 &&& Int64.toUInt64 63)).toInt64 &&& 1 = 1)) : ∀ (n z : Nat) (acc : Int32), z + n ≤ 5 → cWhL m y g n z acc = acc := by
  intro n
  induction n with
  | zero => intro z acc _; rfl
  | succ n ih =>
    intro z acc hz
    rw [cWhL, if_neg (h z (by omega))]
    exact ih _ _ (by omega)
theorem wh_eq {C M : zm} {y l : Nat} (hy : y ≤ 40) (hl : l ≤ 40) (e : ∀ y z, y ≤ 40 → z < 5 → cV C 144 y z = uV M y z) : ∀ (n z : Nat) (acc : Int32), z + n ≤ 5 → cWhL C (nI y) (nI l) n z acc = gWh M y (nI l) n z acc := by
  intro n
  induction n with
  | zero => intro z acc _; rfl
  | succ n ih =>
    intro z acc hz
    rw [cWhL, gWh, cG_v hy (by omega), e y z hy (by omega), ih _ _ (by omega)]
    congr 1
    have c1 := Bt_c (uV M y z) (l := l) (by omega)
    have c2 := Bt_m (uV M y z) (l := l) (by omega)
    by_cases q : Bt (uV M y z) l = true
    · rw [if_pos ⟨ni_40 hl, c1.mpr q⟩, if_pos (c2.mpr q)]
    · rw [if_neg (fun z => q (c1.mp z.2)), if_neg (fun z => q (c2.mp z)), Int32.or_zero]
theorem zero_no (g : Int32) : ¬ ((0 : Int64).toUInt64 >>> (g.toInt64.toUInt64 &&& Int64.toUInt64 63)).toInt64 &&& 1 = 1 := by
  rw [show (0 : Int64).toUInt64 = 0 from rfl, UInt64.zero_shiftRight]
  decide
theorem st_where : ∀ m : zm, Rel m → ∀ a0 a1 a2 : Int32, LawStp Rel zM_X7_where zM_X8_where m [.int a0, .int a1, .int a2] := by
  intro m h p c a
  by_cases hb : (p < 0 ∨ m.1 14 3 - 1 < p) ∨ (c < 0 ∨ 200 < c) ∨ (a < 0 ∨ 399 < a)
  · exact stp_mk (ev_X7_where_bad 7 m p c a hb) (ev_X8_where_bad 8 m p c a (hb.imp (h.nob p).mp id)) rfl h.t
  · have b1 : ¬ (p < 0 ∨ m.1 14 3 - 1 < p) := fun q => hb (Or.inl q)
    have b2 : ¬ (c < 0 ∨ 200 < c) := fun q => hb (Or.inr (Or.inl q))
    have b3 : ¬ (a < 0 ∨ 399 < a) := fun q => hb (Or.inr (Or.inr q))
    obtain ⟨-, -, -, -, -, H, W, P, hc, -⟩ := id h
    obtain ⟨j, hj, hj4, rfl⟩ := cur_some hc b1
    obtain ⟨x, hx, hx1, hx2⟩ := at_of hc hj
    have hH5 := (cur_H hc).2
    have e1 := cFore_1 m 144 (25 + j) W
    have hcl := ev_X7_where 7 m W H j c a b1 b2 b3 (cur_W hc).1 (cur_W hc).2 (wOk_of hc) (cur_H hc).1 (by omega) hj4
    have b1' : ¬ (nI j < 0 ∨ (cFore m 144 (25 + j) W).1 184 3 - 1 < nI j) := by rw [e1]; exact fun q => b1 ((h.nob _).mpr q)
    have o3 : mOf (mT (cFore m 144 (25 + j) W)) j 3 = m.1 (25 + j) 3 := by
      rw [mOf_t]
      unfold mOf
      rw [e1]
      exact cur_per hc hj (k := 3) (by omega)
    have o4 : mOf (mT (cFore m 144 (25 + j) W)) j 4 = m.1 (25 + j) 4 := by
      rw [mOf_t]
      unfold mOf
      rw [e1]
      exact cur_per hc hj (k := 4) (by omega)
    by_cases hy : (c - m.1 (25 + j) 3 < 0 ∨ 40 < c - m.1 (25 + j) 3) ∨ (m.1 (25 + j) 4 + (c - m.1 (25 + j) 3) - a < 0 ∨ 40 < m.1 (25 + j) 4 + (c - m.1 (25 + j) 3) - a)
    · have hml := ev_X8_where_none 8 (cFore m 144 (25 + j) W) j c a b1' b2 b3 (by rw [o3, o4]; exact hy) hj4
      refine stp_mk hcl hml ?_ (h.t.e (mT_e e1))
      refine (whL_no (fun z hz q => ?_) H 0 0 (by omega)).symm
      rcases hy with hy | hy
      · refine zero_no (m.1 (25 + j) 4 + (c - m.1 (25 + j) 3) - a) ?_
        have e0 : cG (cFore m 144 (25 + j) W) 144 (c - m.1 (25 + j) 3) (nI z) = 0 := by
          unfold cG
          rw [if_pos (Or.inl hy)]
        rw [e0] at q
        exact q.2
      · exact q.1 hy
    · obtain ⟨y, hy40, ey⟩ := in_40 (fun q => hy (Or.inl q))
      obtain ⟨l, hl40, el⟩ := in_40 (fun q => hy (Or.inr q))
      have hml := ev_X8_where 8 (cFore m 144 (25 + j) W) y H W x j c a b1' b2 b3 (by rw [o3]; exact ey) (by omega) (by rw [o3, o4]; exact fun q => hy (Or.inr q)) (lOk_c e1 (lOk_of hc)) (by rw [e1]; exact hx2) hx hj4
      obtain ⟨l1, -, -⟩ := lay_eq (M := mT (cFore m 144 (25 + j) W)) hc hj hx hx1 rfl (mT_184 e1) 144
      refine stp_mk hcl hml ?_ (h.t.e (by rw [mLay_1, mT_e e1]))
      rw [o3, o4, el, ey]
      exact (wh_eq hy40 hl40 l1 H 0 0 (by omega)).symm
