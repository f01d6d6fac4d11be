/-! ===== pure: league ===== -/
theorem cLg_v {C : zm} {a k : Nat} (h1 : ¬ (14 ≤ a ∧ a < 29)) (h2 : ¬ (a = 12 ∧ k = 1)) (h3 : ¬ (a = 0 ∧ k = 6)) (h4 : ¬ (a = 46 ∧ (k = 1 ∨ k = 2))) : (cLg C).1 a k = C.1 a k := by
  unfold cLg
  rw [upI_ne (by omega), upI_ne (by omega), upI_ne (by omega), stands_n (by omega), upI_ne (by omega)]
theorem cLg_b {C : zm} {a k : Nat} (h1 : 14 ≤ a ∧ a < 29) : (cLg C).1 a k = (cStands (upI C 12 1 0) 14 29).1 a k := by
  unfold cLg
  rw [upI_ne (by omega), upI_ne (by omega), upI_ne (by omega)]
theorem beg0_v {M : zm} {a k : Nat} (h : ¬ (a = 180 ∧ (k = 10 ∨ k = 12 ∨ k = 13 ∨ k = 17))) : (mBeg0 M).1 a k = M.1 a k := by
  unfold mBeg0
  rw [upI_ne (by omega), upI_ne (by omega), upI_ne (by omega), upI_ne (by omega)]
theorem beg0_10 {M : zm} : (mBeg0 M).1 180 10 = 0 := by
  unfold mBeg0
  rw [upI_ne (by omega), upI_ne (by omega), upI_eq]
theorem mStd_v {m : zm} {b j : Nat} (h : ¬ (b = 184 ∧ j < 68)) : (mStd m 68).1 b j = m.1 b j := if_neg h
theorem mStd_e {m : zm} {j : Nat} (h : j < 68) : (mStd m 68).1 184 j = m.1 185 j := if_pos ⟨rfl, h⟩
theorem st_league : ∀ m : zm, Rel m → LawStp Rel zM_X7_league zM_X8_league m [] := by
  intro m h
  obtain ⟨g1, g2, ⟨t, ht4, ht, hM, hb⟩, g4, g5, H0, W0, P0, hc, ha⟩ := id h
  have fr : cFrm m (cLeague m t) := (read_eq (m := m) (M := m) ht ht4 hM (fun k hk => (hb k hk).1)).1.2.1.1
  by_cases F : (cLeague m t).1 12 6 = 0
  · have hcl := ev_X7_league_ok 3 m t ht ht4 (by rw [upI_ne (by omega)]; exact F)
    have e1 : ∀ a k, a ≠ 12 → a ≠ 29 → ¬ (32 ≤ a ∧ a < 44) → ¬ (14 ≤ a ∧ a < 29) → ¬ (a = 0 ∧ k = 6) → ¬ (a = 46 ∧ (k = 1 ∨ k = 2)) → (cLg (cLeague m t)).1 a k = m.1 a k := fun a k h1 h2 h3 h4 h5 h6 => (cLg_v h4 (fun z => h1 z.1) h5 h6).trans (fr a k h1 h2 h3)
    have hM1 : (mT (cLg (cLeague m t))).1 180 10 = nI t := by
      rw [upI_ne (by omega), e1 180 10 (by decide) (by decide) (by decide) (by decide) (by decide) (by decide)]
      exact hM
    have b1 : ∀ k, (mT (cLg (cLeague m t))).1 187 k = m.1 187 k := fun k => by
      rw [upI_ne (by omega), e1 187 k (by decide) (by decide) (by decide) (by decide) (by omega) (by omega)]
    obtain ⟨tr, hl⟩ := read_eq (m := m) (M := mT (cLg (cLeague m t))) ht ht4 hM1 (fun k hk => by rw [b1]; exact (hb k hk).1)
    have eN : mFin (mFolkL 6 (mWaysL 10 (mHead (mFill (mBegin (mT (cLg (cLeague m t))) t) 185 0 68)))) = mLg (cLg (cLeague m t)) t := rfl
    rw [eN] at tr hl
    obtain ⟨H, W, P, hL⟩ := hl F
    have hml := ev_X8_league_ok 6 (cLg (cLeague m t)) t (by
      rw [e1 180 10 (by decide) (by decide) (by decide) (by decide) (by decide) (by decide)]
      exact hM) ht4 (fun k hk => by
      rw [e1 187 k (by decide) (by decide) (by decide) (by decide) (by omega) (by omega)]
      exact (hb k hk).2) (by rw [tr.zero.mp F]; exact Int32.le_refl _)
    obtain ⟨⟨H1, H5, hW8, hP4⟩, ⟨l0, l2, l3, r, hr, l1⟩, l4, l5, l6, -⟩ := hL
    have fm := tr.2.1.2
    generalize hN : mLg (cLg (cLeague m t)) t = N at hml tr l4 l5 l6 fm
    have n1 : ∀ a k, a ≠ 180 → a ≠ 185 → N.1 a k = (cLg (cLeague m t)).1 a k := fun a k h1 h2 => by
      rw [fm.1 a k h1 h2, beg0_v (by omega), upI_ne (by omega)]
    have n2 : ∀ k, ¬ (12 ≤ k ∧ k ≤ 18) → ¬ k = 10 → ¬ k = 0 → N.1 180 k = m.1 180 k := fun k h1 h2 h3 => by
      rw [fm.2 k h1, beg0_v (by omega), upI_ne (by omega), e1 180 k (by decide) (by decide) (by decide) (by decide) (by omega) (by omega)]
    have n3 : N.1 180 10 = 0 := by rw [fm.2 10 (by omega), beg0_10]
    generalize hC : cLeague m t = C at *
    have v : ∀ b j, ¬ (b = 184 ∧ j < 68) → ¬ (b = 180 ∧ j = 8) → (mStd (upI N 180 8 0) 68).1 b j = N.1 b j := fun b j h1 h2 => by rw [mStd_v h1, upI_ne h2]
    have v1 : ∀ b j, b ≠ 180 → b ≠ 185 → ¬ (b = 184 ∧ j < 68) → (mStd (upI N 180 8 0) 68).1 b j = (cLg C).1 b j := fun b j h1 h2 h3 => (v b j h3 (fun z => h1 z.1)).trans (n1 b j h1 h2)
    have v2 : ∀ b j, b ≠ 180 → b ≠ 185 → b ≠ 184 → b ≠ 12 → b ≠ 29 → ¬ (32 ≤ b ∧ b < 44) → ¬ (14 ≤ b ∧ b < 29) → ¬ (b = 0 ∧ j = 6) → ¬ (b = 46 ∧ (j = 1 ∨ j = 2)) → (mStd (upI N 180 8 0) 68).1 b j = m.1 b j := fun b j h1 h2 h3 h4 h5 h6 h7 h8 h9 => (v1 b j h1 h2 (fun z => h3 z.1)).trans (e1 b j h4 h5 h6 h7 h8 h9)
    have v3 : ∀ j, j < 68 → (mStd (upI N 180 8 0) 68).1 184 j = N.1 185 j := fun j hj => by rw [mStd_e hj, upI_ne (by omega)]
    have v4 : ∀ a k, 14 ≤ a → a < 29 → (mStd (upI N 180 8 0) 68).1 a k = (cStands (upI C 12 1 0) 14 29).1 a k := fun a k h1 h2 => (v1 a k (by omega) (by omega) (by omega)).trans (cLg_b ⟨h1, h2⟩)
    have h14 : ∀ k, k < 4 → (mStd (upI N 180 8 0) 68).1 14 k = C.1 29 k := fun k hk => by
      rw [v4 14 k (by omega) (by omega), stands_h (by omega) hk, upI_ne (by omega)]
    have h17 : ∀ w k, w < 8 → k < 4 → (mStd (upI N 180 8 0) 68).1 (17 + w) k = C.1 (32 + w) k := fun w k hw hk => by
      rw [v4 (17 + w) k (by omega) (by omega), show 17 + w = 14 + 3 + w by omega, stands_w (by omega) hk w hw, upI_ne (by omega), show 29 + 3 + w = 32 + w by omega]
    have h25 : ∀ p k, p < 4 → k < 8 → (mStd (upI N 180 8 0) 68).1 (25 + p) k = C.1 (40 + p) k := fun p k hp hk => by
      rw [v4 (25 + p) k (by omega) (by omega), show 25 + p = 14 + 11 + p by omega, stands_p (by omega) hk p hp, upI_ne (by omega), show 29 + 11 + p = 40 + p by omega]
    have e06 : (mStd (upI N 180 8 0) 68).1 0 6 = 1 := by
      rw [v1 0 6 (by decide) (by decide) (by decide)]
      unfold cLg
      rw [upI_ne (by omega), upI_ne (by omega), upI_eq]
    refine stp_mk hcl hml ?_ ⟨⟨?_, ?_⟩, g2.c (fun a k q => v2 a k (by omega) (by omega) (by omega) (by omega) (by omega) (by omega) (by omega) (by omega) (by omega)), ⟨0, by omega, ?_, ?_, fun k hk => absurd hk (by omega)⟩, ?_, g5.c (fun a k q => v2 a k (by omega) (by omega) (by omega) (by omega) (by omega) (by omega) (by omega) (by omega) (by omega)) ?_, H, W, P, ⟨⟨⟨H5, hW8, hP4⟩, ⟨(h14 0 (by omega)).trans l0, (h14 2 (by omega)).trans l2, (h14 3 (by omega)).trans l3, r, hr, (h14 1 (by omega)).trans l1⟩, fun k hk => ?_, fun w hw => ?_, fun p hp => ?_⟩, ?_⟩, ?_⟩
    · rw [v3 3 (by omega), l4 3 (by omega), cLg_b ⟨by omega, by omega⟩, stands_h (by omega) (by omega), upI_ne (by omega)]
    · rw [v2 0 3 (by decide) (by decide) (by decide) (by decide) (by decide) (by decide) (by decide) (by decide) (by decide), v 180 1 (by decide) (by decide), n2 1 (by decide) (by decide) (by decide)]
      exact g1.1
    · rw [v2 0 5 (by decide) (by decide) (by decide) (by decide) (by decide) (by decide) (by decide) (by decide) (by decide), v 180 11 (by decide) (by decide), n2 11 (by decide) (by decide) (by decide)]
      exact g1.2
    · rw [v1 12 1 (by decide) (by decide) (by decide)]
      unfold cLg
      rw [upI_ne (by omega), upI_ne (by omega), upI_ne (by omega), stands_n (by omega), upI_eq]
      rfl
    · rw [v 180 10 (by decide) (by decide), n3]
      rfl
    · intro k hk
      obtain ⟨q1, q2⟩ := g4 k hk
      have ei : ∀ a j, a = 45 ∨ (150 ≤ a ∧ a < 180) ∨ a = 190 ∨ a = 191 → (mStd (upI N 180 8 0) 68).1 a j = m.1 a j := fun a j q => v2 a j (by omega) (by omega) (by omega) (by omega) (by omega) (by omega) (by omega) (by omega) (by omega)
      rw [ei 45 k (by omega), ei 190 k (by omega)]
      refine ⟨q1, q2.imp id (fun q => ⟨q.1, e06, ?_⟩)⟩
      obtain ⟨H', W', P', q3, q4⟩ := q.2.2
      exact ⟨H', W', P', q3, q4.c (fun j hj => ei _ j (by omega)) (fun w j hw hj => ei _ j (by omega)) (fun p j hp hj => ei _ j (by omega)) (fun j hj => ei _ _ (by omega))⟩
    · rw [v 180 24 (by decide) (by decide), n2 24 (by decide) (by decide) (by decide)]
    · rw [Nat.zero_add, v3 k (by omega), l4 k hk, h14 k hk]
    · obtain ⟨q1, q2⟩ := l5 w hw
      obtain ⟨p, q, s, y, x1, x2, x3, x4, x5, x6, z0, z1, z2, z3⟩ := q1
      refine ⟨⟨p, q, s, y, x1, x2, x3, x4, x5, x6, (h17 w 0 (by omega) (by omega)).trans z0, (h17 w 1 (by omega) (by omega)).trans z1, (h17 w 2 (by omega) (by omega)).trans z2, (h17 w 3 (by omega) (by omega)).trans z3⟩, fun k hk => ?_⟩
      rw [show 0 + 4 + 4 * w + k = 4 + 4 * w + k by omega, v3 _ (by omega), q2 k hk, h17 w k (by omega) hk]
    · obtain ⟨q1, q2⟩ := l6 p hp
      obtain ⟨k, t', hh, c, g, n, x1, x2, x3, x4, x5, x6, z0, z1, z2, z3, z4, z5⟩ := q1
      refine ⟨⟨k, t', hh, c, g, n, x1, x2, x3, x4, x5, x6, (h25 p 0 (by omega) (by omega)).trans z0, (h25 p 1 (by omega) (by omega)).trans z1, (h25 p 2 (by omega) (by omega)).trans z2, (h25 p 3 (by omega) (by omega)).trans z3, (h25 p 4 (by omega) (by omega)).trans z4, (h25 p 5 (by omega) (by omega)).trans z5⟩, fun k hk => ?_⟩
      rw [show 0 + 36 + 8 * p + k = 36 + 8 * p + k by omega, v3 _ (by omega), q2 k hk, h25 p _ (by omega) (pm8 hk)]
    · rw [e06, if_pos (by omega)]
    · obtain ⟨a1, a2, a3⟩ := aOk_of (m := mStd (upI N 180 8 0) 68) (o := 0) (k := 0) (by
        rw [v1 46 1 (by decide) (by decide) (by decide)]
        unfold cLg
        rw [upI_ne (by omega), upI_eq]
        rfl) (by
        rw [v1 46 2 (by decide) (by decide) (by decide)]
        unfold cLg
        rw [upI_eq]
        rfl) (by omega) (by omega)
      obtain ⟨b1', b2'⟩ := mAOk_of (m := mStd (upI N 180 8 0) 68) (a := 0) (by
        rw [mStd_v (by omega), upI_eq]
        rfl) (by omega)
      refine ⟨a1, b1', by rw [a3, b2'], fun j hj => ?_⟩
      rw [a3] at hj
      exact absurd hj (by omega)
  · have hcl := ev_X7_league_bad 3 m t ht ht4 (by rw [upI_ne (by omega)]; exact F)
    generalize hm1 : upI (upI (cLeague m t) 12 1 0) 0 5 ((upI (cLeague m t) 12 1 0).1 12 6) = m1 at hcl
    have c1 : ∀ a k, ¬ (a = 12 ∧ k = 1) → ¬ (a = 0 ∧ k = 5) → m1.1 a k = (cLeague m t).1 a k := fun a k h1 h2 => by
      rw [← hm1, upI_ne h2, upI_ne h1]
    have e1 : ∀ a k, a ≠ 12 → a ≠ 29 → ¬ (32 ≤ a ∧ a < 44) → ¬ (a = 0 ∧ k = 5) → m1.1 a k = m.1 a k := fun a k h1 h2 h3 h4 => (c1 a k (fun z => h1 z.1) h4).trans (fr a k h1 h2 h3)
    have b1 : ∀ k, (mT m1).1 187 k = m.1 187 k := fun k => by
      rw [upI_ne (by omega), e1 187 k (by decide) (by decide) (by decide) (by omega)]
    obtain ⟨tr, -⟩ := read_eq (m := m) (M := mT m1) ht ht4 (by
      rw [upI_ne (by omega), e1 180 10 (by decide) (by decide) (by decide) (by decide)]
      exact hM) (fun k hk => by rw [b1]; exact (hb k hk).1)
    have eN : mFin (mFolkL 6 (mWaysL 10 (mHead (mFill (mBegin (mT m1) t) 185 0 68)))) = mLg m1 t := rfl
    rw [eN] at tr
    have fN : (cLeague m t).1 12 6 = (mLg m1 t).1 180 17 := tr.2.2.2.1.1
    have pos : 0 < (mLg m1 t).1 180 17 := by
      rw [← fN]
      exact tr.2.2.2.1.2.resolve_left F
    have hml := ev_X8_league_bad 6 m1 t (by
      rw [e1 180 10 (by decide) (by decide) (by decide) (by decide)]
      exact hM) ht4 (fun k hk => by
      rw [e1 187 k (by decide) (by decide) (by decide) (by omega)]
      exact (hb k hk).2) (Int32.not_le.mpr pos)
    have pl := tr.2.2.2.2.1 F
    have fm := tr.2.1.2
    generalize mLg m1 t = N at hml tr fN pos pl fm
    have n1 : ∀ a k, a ≠ 180 → a ≠ 185 → N.1 a k = m1.1 a k := fun a k h1 h2 => by
      rw [fm.1 a k h1 h2, beg0_v (by omega), upI_ne (by omega)]
    have n2 : ∀ k, ¬ (12 ≤ k ∧ k ≤ 18) → ¬ k = 10 → ¬ k = 0 → N.1 180 k = m.1 180 k := fun k h1 h2 h3 => by
      rw [fm.2 k h1, beg0_v (by omega), upI_ne (by omega), e1 180 k (by decide) (by decide) (by decide) (by omega)]
    have n3 : N.1 180 10 = 0 := by rw [fm.2 10 (by omega), beg0_10]
    have v2 : ∀ b j, b ≠ 180 → b ≠ 185 → b ≠ 12 → b ≠ 29 → ¬ (32 ≤ b ∧ b < 44) → ¬ (b = 0 ∧ j = 5) → (upI N 180 11 (N.1 180 17)).1 b j = m.1 b j := fun b j h1 h2 h3 h4 h5 h6 => by
      rw [upI_ne (by omega), n1 b j h1 h2, e1 b j h3 h4 h5 h6]
    refine stp_mk hcl hml ?_ ⟨⟨?_, ?_⟩, g2.c (fun a k q => v2 a k (by omega) (by omega) (by omega) (by omega) (by omega) (by omega)), ⟨0, by omega, ?_, ?_, fun k hk => absurd hk (by omega)⟩, g4.c (fun a k q => v2 a k (by omega) (by omega) (by omega) (by omega) (by omega) (by omega)) (v2 _ _ (by omega) (by omega) (by omega) (by omega) (by omega) (by omega)), g5.c (fun a k q => v2 a k (by omega) (by omega) (by omega) (by omega) (by omega) (by omega)) ?_, H0, W0, P0, hc.c (fun a k q => v2 a k (by omega) (by omega) (by omega) (by omega) (by omega) (by omega)) (v2 _ _ (by omega) (by omega) (by omega) (by omega) (by omega) (by omega)), ha.c hc.1.1.2.2 (fun a k q => v2 a k (by omega) (by omega) (by omega) (by omega) (by omega) (by omega)) (fun k _ => v2 _ _ (by omega) (by omega) (by omega) (by omega) (by omega) (by omega)) ?_⟩
    · rw [upI_ne (by omega), upI_ne (by omega), ← pl]
    · rw [v2 0 3 (by decide) (by decide) (by decide) (by decide) (by decide) (by decide), upI_ne (by omega), n2 1 (by decide) (by decide) (by decide)]
      exact g1.1
    · rw [upI_eq, upI_ne (by omega), n1 0 5 (by decide) (by decide), ← hm1, upI_eq, upI_ne (by omega)]
      exact fN
    · rw [upI_ne (by omega), n1 12 1 (by decide) (by decide), ← hm1, upI_ne (by omega), upI_eq]
      rfl
    · rw [upI_ne (by omega), n3]
      rfl
    · rw [upI_ne (by omega), n2 24 (by decide) (by decide) (by decide)]
    · rw [upI_ne (by omega), n2 8 (by decide) (by decide) (by decide)]
