/-! ===== pure: stays, debts, meetings, acts undone, voyages ===== -/
/-- a class's act, then the model's -/
theorem Rel.act2 {m m1 M : zm} {H W P : Nat} (h : Rel m) (hc : rCur m H W P) (ha : rAct m H P) (f1 : ∀ a k, ¬ (25 ≤ a ∧ a ≤ 28) → m1.1 a k = (cKp m).1 a k) (f2 : ∀ a k, ¬ (a = 184 ∧ 36 ≤ k) → M.1 a k = (mKp (mT m1)).1 a k) (e6 : ∀ p, p < P → PerOk m1 (25 + p) H ∧ ∀ k, k < 8 → M.1 184 (36 + 8 * p + k) = m1.1 (25 + p) (pm k)) : Rel M := by
  have g1 : ∀ a k, 144 ≤ a → ¬ (a = 180 ∧ k = 0) → (mT m1).1 a k = m.1 a k := fun a k q1 q2 => by
    rw [upI_ne (by omega), f1 a k (by omega), cKp_n (by omega)]
  obtain ⟨k1, k2⟩ := mKp_c (m := m) (m' := mT m1) (fun k => g1 _ k (by omega) (by omega)) (fun k => g1 _ k (by omega) (by omega)) (g1 _ _ (by omega) (by omega))
  have g2 : ∀ a k, a < 180 → M.1 a k = m1.1 a k := fun a k q => by
    rw [f2 a k (by omega), mKp_n (by omega), upI_ne (by omega)]
  refine h.act hc ha (fun a k q1 q2 q3 q4 q5 q6 => ?_) ?_ ?_ (fun a k q1 q2 => ?_) ?_ (fun k => ?_) (fun p hp => ?_)
  · rw [f2 a k q5, mKp_n (by omega), upI_ne (by omega), f1 a k q1, cKp_n (by omega)]
  · rw [g2 _ _ (by omega), f1 _ _ (by omega)]
  · rw [g2 _ _ (by omega), f1 _ _ (by omega)]
  · rw [g2 _ _ (by omega), f1 _ _ (by omega)]
  · rw [f2 _ _ (by omega)]
    exact k2
  · rw [f2 _ _ (by omega)]
    exact k1 k
  · have hP := hc.1.1.2.2
    obtain ⟨w1, w2⟩ := e6 p hp
    refine ⟨w1.c (fun k => g2 _ k (by omega)), fun k hk => ?_⟩
    rw [g2 (25 + p) _ (by omega)]
    exact w2 k hk
theorem K184 {m m1 : zm} (f1 : ∀ a k, ¬ (25 ≤ a ∧ a ≤ 28) → m1.1 a k = (cKp m).1 a k) (k : Nat) : (mKp (mT m1)).1 184 k = m.1 184 k := by
  rw [mKp_n (by omega), upI_ne (by omega), f1 _ _ (by omega), cKp_n (by omega)]
theorem cStay_v {m : zm} {a : Nat} {n : Int32} (c k : Nat) : (cStay m a n).1 c k = if c = a ∧ k = 4 then m.1 a 4 + n else if c = a ∧ k = 3 then m.1 a 3 + n else m.1 c k := by
  show (if c = a ∧ k = 4 then (upI m a 3 (m.1 a 3 + n)).1 a 4 + n else (upI m a 3 (m.1 a 3 + n)).1 c k) = _
  rw [upI_ne (by omega)]
  rfl
theorem mAges_v {m : zm} {p : Nat} {x y : Int32} (c k : Nat) : (mAges m p x y).1 c k = if c = 184 ∧ k = 36 + 8 * p + 4 then m.1 184 (36 + 8 * p + 4) + y else if c = 184 ∧ k = 36 + 8 * p + 3 then m.1 184 (36 + 8 * p + 3) + x else m.1 c k := by
  show (if c = 184 ∧ k = 36 + 8 * p + 4 then (upI m 184 (36 + 8 * p + 3) (m.1 184 (36 + 8 * p + 3) + x)).1 184 (36 + 8 * p + 4) + y else (upI m 184 (36 + 8 * p + 3) (m.1 184 (36 + 8 * p + 3) + x)).1 c k) = _
  rw [upI_ne (by omega)]
  rfl
theorem pm_i {k : Nat} (h : k < 8) : (pm k = 3 ↔ k = 3) ∧ (pm k = 4 ↔ k = 4) ∧ (pm k = 5 ↔ k = 5) ∧ (pm k = 6 ↔ k = 6) ∧ (pm k = 7 ↔ k = 7) ∧ (pm k = 2 ↔ k = 1) ∧ (pm k = 0 ↔ k = 0) ∧ (pm k = 1 ↔ k = 2) := by
  unfold pm
  refine ⟨?_, ?_, ?_, ?_, ?_, ?_, ?_, ?_⟩ <;> split <;> (try split) <;> omega
/-- years go by for one: on both sides -/
theorem years_R {m m1 M : zm} {H W P j x : Nat} (h : Rel m) (hc : rCur m H W P) (ha : rAct m H P) (hj : j < P) (e1 : ∀ c k, m1.1 c k = if c = 25 + j ∧ k = 4 then m.1 (25 + j) 4 + nI x else if c = 25 + j ∧ k = 3 then m.1 (25 + j) 3 + nI x else (cKp m).1 c k) (e2 : ∀ c k, M.1 c k = if c = 184 ∧ k = 36 + 8 * j + 4 then m.1 184 (36 + 8 * j + 4) + nI x else if c = 184 ∧ k = 36 + 8 * j + 3 then m.1 184 (36 + 8 * j + 3) + nI x else (mKp (mT m1)).1 c k) (hx : ∀ c : Nat, m.1 (25 + j) 3 = nI c → c ≤ 200 → c + x ≤ 200) : Rel M ∧ M.1 184 (36 + 8 * j + 4) = m1.1 (25 + j) 4 := by
  have hP := hc.1.1.2.2
  have f1 : ∀ a k, ¬ (25 ≤ a ∧ a ≤ 28) → m1.1 a k = (cKp m).1 a k := fun a k q => by rw [e1, if_neg (by omega), if_neg (by omega)]
  have er : ∀ p, p < P → ∀ k, k < 8 → M.1 184 (36 + 8 * p + k) = m1.1 (25 + p) (pm k) := by
    intro p hp k hk
    obtain ⟨i1, i2, -⟩ := pm_i hk
    rw [e2, e1]
    by_cases hpj : p = j
    · subst hpj
      by_cases k4 : k = 4
      · subst k4
        rw [if_pos ⟨rfl, rfl⟩, if_pos ⟨rfl, rfl⟩]
        exact congrArg (· + nI x) (cur_per hc hp (k := 4) (by omega))
      · rw [if_neg (by omega), if_neg (show ¬ (25 + p = 25 + p ∧ pm k = 4) from fun q => k4 (i2.mp q.2))]
        by_cases k3 : k = 3
        · subst k3
          rw [if_pos ⟨rfl, rfl⟩, if_pos ⟨rfl, rfl⟩]
          exact congrArg (· + nI x) (cur_per hc hp (k := 3) (by omega))
        · rw [if_neg (by omega), if_neg (show ¬ (25 + p = 25 + p ∧ pm k = 3) from fun q => k3 (i1.mp q.2)), K184 f1, cKp_n (by omega)]
          exact cur_per hc hp hk
    · rw [if_neg (by omega), if_neg (by omega), if_neg (by omega), if_neg (by omega), K184 f1, cKp_n (by omega)]
      exact cur_per hc hp hk
  refine ⟨h.act2 hc ha f1 (fun a k q => by rw [e2, if_neg (by omega), if_neg (by omega)]) (fun p hp => ⟨?_, er p hp⟩), er j hj 4 (by omega)⟩
  obtain ⟨k, t, hh, c, g, n, x1, x2, x3, x4, x5, x6, z0, z1, z2, z3, z4, z5⟩ := (hc.1.2.2.2.2 p hp).1
  by_cases hpj : p = j
  · subst hpj
    have hcx := hx c z3 x4
    refine ⟨k, t, hh, c + x, g + x, n, x1, x2, x3, hcx, by omega, x6, ?_, ?_, ?_, ?_, ?_, ?_⟩
    · rw [e1, if_neg (by omega), if_neg (by omega), cKp_n (by omega), z0]
    · rw [e1, if_neg (by omega), if_neg (by omega), cKp_n (by omega), z1]
    · rw [e1, if_neg (by omega), if_neg (by omega), cKp_n (by omega), z2]
    · rw [e1, if_neg (by omega), if_pos ⟨rfl, rfl⟩, z3, nI_add]
    · rw [e1, if_pos ⟨rfl, rfl⟩, z4, nI_add]
    · rw [e1, if_neg (by omega), if_neg (by omega), cKp_n (by omega), z5]
  · exact ⟨k, t, hh, c, g, n, x1, x2, x3, x4, x5, x6, by rw [e1, if_neg (by omega), if_neg (by omega), cKp_n (by omega), z0], by rw [e1, if_neg (by omega), if_neg (by omega), cKp_n (by omega), z1], by rw [e1, if_neg (by omega), if_neg (by omega), cKp_n (by omega), z2], by rw [e1, if_neg (by omega), if_neg (by omega), cKp_n (by omega), z3], by rw [e1, if_neg (by omega), if_neg (by omega), cKp_n (by omega), z4], by rw [e1, if_neg (by omega), if_neg (by omega), cKp_n (by omega), z5]⟩
theorem mAOk_t {m m' : zm} (e : m'.1 180 8 = m.1 180 8) (h : mAOk m) : mAOk m' := by
  unfold mAOk
  rw [mA_c e, e]
  exact h
theorem st_stay : ∀ m : zm, Rel m → ∀ a0 a1 : Int32, LawStp Rel zM_X7_stay zM_X8_stay m [.int a0, .int a1] := by
  intro m h p z
  by_cases hb : (p < 0 ∨ m.1 14 3 - 1 < p) ∨ (z < 1 ∨ 99 < z)
  · exact stp_mk (ev_X7_stay_bad 9 m p z hb) (ev_X8_stay_bad 9 m p z (hb.imp (h.nob p).mp id)) rfl h.t
  · have hn : ¬ (p < 0 ∨ m.1 14 3 - 1 < p) := fun q => hb (Or.inl q)
    have hz : ¬ (z < 1 ∨ 99 < z) := fun q => hb (Or.inr q)
    obtain ⟨-, -, -, -, -, H, W, P, hc, ha⟩ := id h
    obtain ⟨j, hj, hj4, rfl⟩ := cur_some hc hn
    have hz0 : ¬ z < 0 := fun q => hz (Or.inl (Int32.lt_trans q (by decide)))
    obtain ⟨x, hx99, rfl⟩ := i32_in (z := z) (M := 99) (n := 99) (by decide) (fun q => q.elim hz0 (fun q => hz (Or.inr q)))
    have ec : mOf (mT m) j 3 = m.1 (25 + j) 3 := mOf_t.trans (cur_per hc hj (by omega))
    by_cases hf : m.1 (25 + j) 3 + nI x ≤ 200
    · have f1 : ∀ a k, ¬ (25 ≤ a ∧ a ≤ 28) → (cStay (cKp m) (25 + j) (nI x)).1 a k = (cKp m).1 a k := fun a k q => by rw [cStay_v, if_neg (by omega), if_neg (by omega)]
      have g1 : ∀ a k, 144 ≤ a → (cStay (cKp m) (25 + j) (nI x)).1 a k = m.1 a k := fun a k q => by rw [f1 a k (by omega), cKp_n (by omega)]
      have hm := ev_X8_stay 9 (cStay (cKp m) (25 + j) (nI x)) j (nI x) (fun q => hn ((h.nob _).mpr (by rw [g1 184 3 (by omega)] at q; exact q))) hz (by rw [show mOf (mT (cStay (cKp m) (25 + j) (nI x))) j 3 = mOf m j 3 from mOf_t.trans (g1 _ _ (by omega)), cur_per hc hj (by omega)]; exact hf) (mAOk_t (m := m) (by rw [upI_ne (by omega), g1 _ _ (by omega)]) ha.2.1) hj4
      obtain ⟨r1, r2⟩ := years_R (m1 := cStay (cKp m) (25 + j) (nI x)) (M := mAges (mKp (mT (cStay (cKp m) (25 + j) (nI x)))) j (nI x) (nI x)) h hc ha hj (fun c k => by rw [cStay_v, cKp_n (by omega), cKp_n (by omega)]) (fun c k => by rw [mAges_v, K184 f1, K184 f1]) (fun c hc3 hc200 => by
        rw [hc3, nI_add] at hf
        exact (nI_leI (b := 200) (by omega) (by omega)).mp hf)
      exact stp_mk (ev_X7_stay 9 m j (nI x) hn hz hf ha.1 hj4) hm r2 r1
    · exact stp_mk (ev_X7_stay_full 9 m j (nI x) hn hz hf hj4) (ev_X8_stay_full 9 m j (nI x) (fun q => hn ((h.nob _).mpr q)) hz (by rw [ec]; exact hf) hj4) rfl h.t
theorem cLoan_v {m : zm} {a : Nat} {n : Int32} (c k : Nat) : (cLoan m a n).1 c k = if c = a ∧ k = 7 then m.1 a 4 else if c = a ∧ k = 6 then m.1 a 3 else if c = a ∧ k = 5 then n else m.1 c k := by
  show (if c = a ∧ k = 7 then (upI (upI m a 5 n) a 6 ((upI m a 5 n).1 a 3)).1 a 4 else if c = a ∧ k = 6 then (upI m a 5 n).1 a 3 else if c = a ∧ k = 5 then n else m.1 c k) = _
  rw [upI_ne (by omega), upI_ne (by omega), upI_ne (by omega)]
theorem mLoan_v {m : zm} {p : Nat} {n : Int32} (c k : Nat) : (mLoan m p n).1 c k = if c = 184 ∧ k = 36 + 8 * p + 7 then mOf m p 4 else if c = 184 ∧ k = 36 + 8 * p + 6 then mOf m p 3 else if c = 184 ∧ k = 36 + 8 * p + 5 then n else m.1 c k := by
  show (if c = 184 ∧ k = 36 + 8 * p + 7 then (upI (upI m 184 (36 + 8 * p + 5) n) 184 (36 + 8 * p + 6) ((upI m 184 (36 + 8 * p + 5) n).1 184 (36 + 8 * p + 3))).1 184 (36 + 8 * p + 4) else if c = 184 ∧ k = 36 + 8 * p + 6 then (upI m 184 (36 + 8 * p + 5) n).1 184 (36 + 8 * p + 3) else if c = 184 ∧ k = 36 + 8 * p + 5 then n else m.1 c k) = _
  rw [upI_ne (by omega), upI_ne (by omega), upI_ne (by omega)]
  rfl
theorem mOwed_c {m m' : zm} {p : Nat} {z : Int32} (e : ∀ k, m'.1 184 k = m.1 184 k) : mOwed m' p z = mOwed m p z := by
  unfold mOwed mGrown mOf
  rw [e, e, e, e, e, e]
theorem st_borrow : ∀ m : zm, Rel m → ∀ a0 a1 : Int32, LawStp Rel zM_X7_borrow zM_X8_borrow m [.int a0, .int a1] := by
  intro m h p z
  by_cases hb : (p < 0 ∨ m.1 14 3 - 1 < p) ∨ (z < 1 ∨ 9999 < z)
  · exact stp_mk (ev_X7_borrow_bad 8 m p z hb) (ev_X8_borrow_bad 9 m p z (hb.imp (h.nob p).mp id)) rfl h.t
  · have hn : ¬ (p < 0 ∨ m.1 14 3 - 1 < p) := fun q => hb (Or.inl q)
    have hz : ¬ (z < 1 ∨ 9999 < z) := fun q => hb (Or.inr q)
    obtain ⟨-, -, -, -, -, H, W, P, hc, ha⟩ := id h
    obtain ⟨j, hj, hj4, rfl⟩ := cur_some hc hn
    have hz0 : ¬ z < 0 := fun q => hz (Or.inl (Int32.lt_trans q (by decide)))
    obtain ⟨x, hx, rfl⟩ := i32_in (z := z) (M := 9999) (n := 9999) (by decide) (fun q => q.elim hz0 (fun q => hz (Or.inr q)))
    have f1 : ∀ a k, ¬ (25 ≤ a ∧ a ≤ 28) → (cLoan (cKp m) (25 + j) (nI x)).1 a k = (cKp m).1 a k := fun a k q => by rw [cLoan_v, if_neg (by omega), if_neg (by omega), if_neg (by omega)]
    have g1 : ∀ a k, 144 ≤ a → (cLoan (cKp m) (25 + j) (nI x)).1 a k = m.1 a k := fun a k q => by rw [f1 a k (by omega), cKp_n (by omega)]
    have hm := ev_X8_borrow 9 (cLoan (cKp m) (25 + j) (nI x)) j (nI x) (fun q => hn ((h.nob _).mpr (by rw [g1 184 3 (by omega)] at q; exact q))) hz (mAOk_t (m := m) (by rw [upI_ne (by omega), g1 _ _ (by omega)]) ha.2.1) hj4
    have e1 : ∀ c k, (cLoan (cKp m) (25 + j) (nI x)).1 c k = if c = 25 + j ∧ k = 7 then m.1 (25 + j) 4 else if c = 25 + j ∧ k = 6 then m.1 (25 + j) 3 else if c = 25 + j ∧ k = 5 then nI x else (cKp m).1 c k := fun c k => by rw [cLoan_v, cKp_n (by omega), cKp_n (by omega)]
    have e2 : ∀ c k, (mLoan (mKp (mT (cLoan (cKp m) (25 + j) (nI x)))) j (nI x)).1 c k = if c = 184 ∧ k = 36 + 8 * j + 7 then m.1 (25 + j) 4 else if c = 184 ∧ k = 36 + 8 * j + 6 then m.1 (25 + j) 3 else if c = 184 ∧ k = 36 + 8 * j + 5 then nI x else (mKp (mT (cLoan (cKp m) (25 + j) (nI x)))).1 c k := fun c k => by
      have w4 : mOf (mKp (mT (cLoan (cKp m) (25 + j) (nI x)))) j 4 = m.1 (25 + j) 4 := (K184 f1 _).trans (cur_per hc hj (by omega))
      have w3 : mOf (mKp (mT (cLoan (cKp m) (25 + j) (nI x)))) j 3 = m.1 (25 + j) 3 := (K184 f1 _).trans (cur_per hc hj (by omega))
      rw [mLoan_v, w4, w3]
    refine stp_mk (ev_X7_borrow 8 m j (nI x) hn hz ha.1 hj4) hm (by rw [mOwed_c (K184 f1), owed_s hc hj]) (h.act2 hc ha f1 (fun a k q => by rw [e2, if_neg (by omega), if_neg (by omega), if_neg (by omega)]) (fun p hp => ⟨?_, fun k hk => ?_⟩))
    · have hP := hc.1.1.2.2
      obtain ⟨k, t, hh, c, g, n, x1, x2, x3, x4, x5, x6, z0, z1, z2, z3, z4, z5⟩ := (hc.1.2.2.2.2 p hp).1
      have eq : ∀ k, k < 5 → (cLoan (cKp m) (25 + j) (nI x)).1 (25 + p) k = m.1 (25 + p) k := fun k hk => by rw [e1, if_neg (by omega), if_neg (by omega), if_neg (by omega), cKp_n (by omega)]
      by_cases hpj : p = j
      · subst hpj
        exact ⟨k, t, hh, c, g, x, x1, x2, x3, x4, x5, hx, by rw [eq 0 (by omega), z0], by rw [eq 1 (by omega), z1], by rw [eq 2 (by omega), z2], by rw [eq 3 (by omega), z3], by rw [eq 4 (by omega), z4], by rw [e1, if_neg (by omega), if_neg (by omega), if_pos ⟨rfl, rfl⟩]⟩
      · exact ⟨k, t, hh, c, g, n, x1, x2, x3, x4, x5, x6, by rw [eq 0 (by omega), z0], by rw [eq 1 (by omega), z1], by rw [eq 2 (by omega), z2], by rw [eq 3 (by omega), z3], by rw [eq 4 (by omega), z4], by rw [e1, if_neg (by omega), if_neg (by omega), if_neg (by omega), cKp_n (by omega), z5]⟩
    · have hP := hc.1.1.2.2
      obtain ⟨-, -, i5, i6, i7, -⟩ := pm_i hk
      rw [e2, e1]
      by_cases hpj : p = j
      · subst hpj
        by_cases k7 : k = 7
        · subst k7
          rw [if_pos ⟨rfl, rfl⟩, if_pos ⟨rfl, rfl⟩]
        · rw [if_neg (by omega), if_neg (show ¬ (25 + p = 25 + p ∧ pm k = 7) from fun q => k7 (i7.mp q.2))]
          by_cases k6 : k = 6
          · subst k6
            rw [if_pos ⟨rfl, rfl⟩, if_pos ⟨rfl, rfl⟩]
          · rw [if_neg (by omega), if_neg (show ¬ (25 + p = 25 + p ∧ pm k = 6) from fun q => k6 (i6.mp q.2))]
            by_cases k5 : k = 5
            · subst k5
              rw [if_pos ⟨rfl, rfl⟩, if_pos ⟨rfl, rfl⟩]
            · rw [if_neg (by omega), if_neg (show ¬ (25 + p = 25 + p ∧ pm k = 5) from fun q => k5 (i5.mp q.2)), K184 f1, cKp_n (by omega)]
              exact cur_per hc hp hk
      · rw [if_neg (by omega), if_neg (by omega), if_neg (by omega), if_neg (by omega), if_neg (by omega), if_neg (by omega), K184 f1, cKp_n (by omega)]
        exact cur_per hc hp hk
theorem st_meet : ∀ m : zm, Rel m → ∀ a0 a1 : Int32, LawStp Rel zM_X7_meet zM_X8_meet m [.int a0, .int a1] := by
  intro m h p q
  by_cases hb : (p < 0 ∨ m.1 14 3 - 1 < p) ∨ (q < 0 ∨ m.1 14 3 - 1 < q) ∨ p = q
  · exact stp_mk (ev_X7_meet_bad 9 m p q hb) (ev_X8_meet_bad 9 m p q (hb.imp (h.nob p).mp (fun w => w.imp (h.nob q).mp id))) rfl h.t
  · have hn : ¬ (p < 0 ∨ m.1 14 3 - 1 < p) := fun w => hb (Or.inl w)
    have hn2 : ¬ (q < 0 ∨ m.1 14 3 - 1 < q) := fun w => hb (Or.inr (Or.inl w))
    have hne : ¬ p = q := fun w => hb (Or.inr (Or.inr w))
    obtain ⟨-, -, -, -, -, H, W, P, hc, ha⟩ := id h
    obtain ⟨i, hi, hi4, rfl⟩ := cur_some hc hn
    obtain ⟨j, hj, hj4, rfl⟩ := cur_some hc hn2
    have hij : ¬ i = j := fun w => hne (by rw [w])
    have eat : ∀ x, x < P → mOf (mT m) x 1 = m.1 (25 + x) 2 := fun x hx => mOf_t.trans (cur_per hc hx (by omega))
    have n184 : ∀ x, ¬ (nI x < 0 ∨ m.1 14 3 - 1 < nI x) → ¬ (nI x < 0 ∨ m.1 184 3 - 1 < nI x) := fun x hx w => hx ((h.nob _).mpr w)
    by_cases hs : m.1 (25 + i) 2 = m.1 (25 + j) 2
    · obtain ⟨ki, ti, hhi, ci, gi, ni, -, -, -, ci200, gi5, -, -, -, -, zi3, zi4, -⟩ := (hc.1.2.2.2.2 i hi).1
      obtain ⟨kj, tj, hhj, cj, gj, nj, -, -, -, cj200, gj5, -, -, -, -, zj3, zj4, -⟩ := (hc.1.2.2.2.2 j hj).1
      have hcl := ev_X7_meet 9 m i j hn hn2 hne hs ha.1 hi4 hj4
      -- the class's memory, told by who is behind
      have key : ∀ (y o x : Nat), y < P → (∀ c k, (cMeet m (25 + i) (25 + j)).1 c k = if c = 25 + y ∧ k = 4 then m.1 (25 + y) 4 + nI x else if c = 25 + y ∧ k = 3 then m.1 (25 + y) 3 + nI x else (cKp m).1 c k) → (∀ c : Nat, m.1 (25 + y) 3 = nI c → c ≤ 200 → c + x ≤ 200) → ((∀ k, (mKp (mT (cMeet m (25 + i) (25 + j)))).1 184 k = m.1 184 k) → mMeet (mT (cMeet m (25 + i) (25 + j))) i j = mAges (mKp (mT (cMeet m (25 + i) (25 + j)))) y (nI x) (nI x)) → LawStp Rel zM_X7_meet zM_X8_meet m [.int (nI i), .int (nI j)] := by
        intro y o x hy e1 hx hM
        have hP := hc.1.1.2.2
        have f1 : ∀ a k, ¬ (25 ≤ a ∧ a ≤ 28) → (cMeet m (25 + i) (25 + j)).1 a k = (cKp m).1 a k := fun a k w => by rw [e1, if_neg (by omega), if_neg (by omega)]
        have g1 : ∀ a k, 144 ≤ a → (cMeet m (25 + i) (25 + j)).1 a k = m.1 a k := fun a k w => by rw [f1 a k (by omega), cKp_n (by omega)]
        have hm := ev_X8_meet 9 (cMeet m (25 + i) (25 + j)) i j (by rw [g1 184 3 (by omega)]; exact n184 i hn) (by rw [g1 184 3 (by omega)]; exact n184 j hn2) hne (by rw [show mOf (mT (cMeet m (25 + i) (25 + j))) i 1 = mOf m i 1 from mOf_t.trans (g1 _ _ (by omega)), show mOf (mT (cMeet m (25 + i) (25 + j))) j 1 = mOf m j 1 from mOf_t.trans (g1 _ _ (by omega)), cur_per hc hi (by omega), cur_per hc hj (by omega)]; exact hs) (mAOk_t (m := m) (by rw [upI_ne (by omega), g1 _ _ (by omega)]) ha.2.1) hi4 hj4
        rw [hM (K184 f1)] at hm
        obtain ⟨r1, r2⟩ := years_R (m1 := cMeet m (25 + i) (25 + j)) (M := mAges (mKp (mT (cMeet m (25 + i) (25 + j)))) y (nI x) (nI x)) h hc ha hy e1 (fun c k => by rw [mAges_v, K184 f1, K184 f1]) hx
        obtain ⟨-, -, -, -, -, H', W', P', hc', -⟩ := id r1
        refine stp_mk hcl hm ?_ r1
        have ag : ∀ x, x < P → mOf (mAges (mKp (mT (cMeet m (25 + i) (25 + j)))) y (nI x) (nI x)) x 4 = (cMeet m (25 + i) (25 + j)).1 (25 + x) 4 → True := fun _ _ _ => trivial
        have age : ∀ z, z < P → mOf (mAges (mKp (mT (cMeet m (25 + i) (25 + j)))) y (nI x) (nI x)) z 4 = (cMeet m (25 + i) (25 + j)).1 (25 + z) 4 := fun z hz => by
          by_cases hzy : z = y
          · subst hzy
            exact r2
          · show (mAges _ _ _ _).1 184 (36 + 8 * z + 4) = _
            rw [mAges_v, if_neg (by omega), if_neg (by omega), K184 f1, e1, if_neg (by omega), if_neg (by omega), cKp_n (by omega)]
            exact cur_per hc hz (by omega)
        rw [age i hi, age j hj]
      have z0 : ∀ v : Int32, v - v = 0 := fun v => Int32.sub_self v
      have a0 : ∀ v : Int32, v + 0 = v := fun v => Int32.add_zero v
      have v1 : ∀ c k, (cMeet m (25 + i) (25 + j)).1 c k = (cStay (cStay (cKp m) (25 + i) ((if m.1 (25 + i) 3 < m.1 (25 + j) 3 then m.1 (25 + j) 3 else m.1 (25 + i) 3) - m.1 (25 + i) 3)) (25 + j) ((if m.1 (25 + i) 3 < m.1 (25 + j) 3 then m.1 (25 + j) 3 else m.1 (25 + i) 3) - m.1 (25 + j) 3)).1 c k := by
        intro c k
        unfold cMeet
        show (cStay (cStay (cKp m) (25 + i) ((if (cKp m).1 (25 + i) 3 < (cKp m).1 (25 + j) 3 then (cKp m).1 (25 + j) 3 else (cKp m).1 (25 + i) 3) - (cKp m).1 (25 + i) 3)) (25 + j) ((if (cKp m).1 (25 + i) 3 < (cKp m).1 (25 + j) 3 then (cKp m).1 (25 + j) 3 else (cKp m).1 (25 + i) 3) - (cStay (cKp m) (25 + i) ((if (cKp m).1 (25 + i) 3 < (cKp m).1 (25 + j) 3 then (cKp m).1 (25 + j) 3 else (cKp m).1 (25 + i) 3) - (cKp m).1 (25 + i) 3)).1 (25 + j) 3)).1 c k = _
        rw [show (cStay (cKp m) (25 + i) ((if (cKp m).1 (25 + i) 3 < (cKp m).1 (25 + j) 3 then (cKp m).1 (25 + j) 3 else (cKp m).1 (25 + i) 3) - (cKp m).1 (25 + i) 3)).1 (25 + j) 3 = (cKp m).1 (25 + j) 3 by rw [cStay_v, if_neg (by omega), if_neg (by omega)]]
        rw [show (cKp m).1 (25 + i) 3 = m.1 (25 + i) 3 from cKp_n (by omega), show (cKp m).1 (25 + j) 3 = m.1 (25 + j) 3 from cKp_n (by omega)]
      by_cases hlt : ci < cj
      · have c1 : m.1 (25 + i) 3 < m.1 (25 + j) 3 := by rw [zi3, zj3]; exact nI_lt hlt (by omega)
        refine key i j (cj - ci) hi (fun c k => ?_) (fun c w1 w2 => ?_) (fun hK => ?_)
        · rw [v1, if_pos c1, cStay_v, cStay_v, cStay_v, cStay_v, z0, a0, a0, zj3, zi3, pk_sub (by omega)]
          by_cases q1 : c = 25 + j ∧ (k = 3 ∨ k = 4)
          · rcases q1 with ⟨rfl, rfl | rfl⟩
            · rw [if_neg (by omega), if_pos ⟨rfl, rfl⟩, if_neg (by omega), if_neg (by omega), if_neg (by omega), if_neg (by omega)]
            · rw [if_pos ⟨rfl, rfl⟩, if_neg (by omega), if_neg (by omega), if_neg (by omega), if_neg (by omega)]
          · rw [if_neg (by omega), if_neg (by omega), cKp_n (by omega), cKp_n (by omega), zi3]
        · have : c = ci := (nI_eq (by omega) (by omega)).mp (w1.symm.trans zi3)
          omega
        · have eb : mMeetBy (mT (cMeet m (25 + i) (25 + j))) i j = nI ci - nI cj := by
            unfold mMeetBy mOf
            rw [hK, hK]
            have w3 := cur_per hc hi (k := 3) (by omega)
            have w4 := cur_per hc hj (k := 3) (by omega)
            unfold mOf at w3 w4
            rw [w3, w4]
            show m.1 (25 + i) 3 - m.1 (25 + j) 3 = _
            rw [zi3, zj3]
          unfold mMeet
          rw [eb, if_neg (Int32.not_le.mpr (pk_sneg (by omega) hlt)), Int32.neg_sub, pk_sub (by omega)]
      · have c1 : ¬ m.1 (25 + i) 3 < m.1 (25 + j) 3 := by rw [zi3, zj3]; exact nI_nlt (by omega) (by omega)
        refine key j i (ci - cj) hj (fun c k => ?_) (fun c w1 w2 => ?_) (fun hK => ?_)
        · rw [v1, if_neg c1, cStay_v, cStay_v, cStay_v, cStay_v, z0, a0, a0, zj3, zi3, pk_sub (by omega)]
          by_cases q1 : c = 25 + j ∧ (k = 3 ∨ k = 4)
          · rcases q1 with ⟨rfl, rfl | rfl⟩
            · (repeat (first | rw [if_neg (by omega)] | rw [if_pos (by omega)]))
              rw [cKp_n (by omega), zj3]
            · (repeat (first | rw [if_neg (by omega)] | rw [if_pos (by omega)]))
              rw [cKp_n (by omega)]
          · rw [if_neg (by omega), if_neg (by omega), if_neg (show ¬ (c = 25 + j ∧ k = 4) by omega), if_neg (show ¬ (c = 25 + j ∧ k = 3) by omega)]
            by_cases q2 : c = 25 + i ∧ (k = 3 ∨ k = 4)
            · rcases q2 with ⟨rfl, rfl | rfl⟩
              · rw [if_neg (by omega), if_pos ⟨rfl, rfl⟩]
              · rw [if_pos ⟨rfl, rfl⟩]
            · rw [if_neg (by omega), if_neg (by omega)]
        · have : c = cj := (nI_eq (by omega) (by omega)).mp (w1.symm.trans zj3)
          omega
        · have eb : mMeetBy (mT (cMeet m (25 + i) (25 + j))) i j = nI ci - nI cj := by
            unfold mMeetBy mOf
            rw [hK, hK]
            have w3 := cur_per hc hi (k := 3) (by omega)
            have w4 := cur_per hc hj (k := 3) (by omega)
            unfold mOf at w3 w4
            rw [w3, w4]
            show m.1 (25 + i) 3 - m.1 (25 + j) 3 = _
            rw [zi3, zj3]
          unfold mMeet
          rw [eb, pk_sub (by omega), if_pos (nI_pos' (by omega))]
    · exact stp_mk (ev_X7_meet_state 9 m i j hn hn2 hne hs hi4 hj4) (ev_X8_meet_state 9 m i j (n184 i hn) (n184 j hn2) hne (by rw [eat i hi, eat j hj]; exact hs) hi4 hj4) rfl h.t
