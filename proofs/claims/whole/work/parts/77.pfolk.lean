/-! ===== pure: people, all lines, the head, read by both ===== -/
theorem cBegin_v (m : zm) (a : Nat) (s h n : Int32) (b j : Nat) : (cBegin m a s h n).1 b j = if b = a ∧ j = 7 then 0 else if b = a ∧ j = 6 then 0 else if b = a ∧ j = 5 then 0 else if b = a ∧ j = 4 then n else if b = a ∧ j = 3 then 0 else if b = a ∧ j = 2 then h else if b = a ∧ j = 1 then n else if b = a ∧ j = 0 then s else m.1 b j := rfl
theorem per_step {C0 M0 C M : zm} {t H W P : Nat} (h : TR C0 M0 t C M) (h0 : C.1 12 6 = 0) (hw : isWx C 2) (hL : LD C M H W P) (hP : P < 4) : TR C0 M0 t (cPer C P) (mPer M P) ∧ ((cPer C P).1 12 6 = 0 → LD (cPer C P) (mPer M P) H W (P + 1)) := by
  obtain ⟨⟨H1, H5, hW8, -⟩, ⟨l0, l2, l3, r, hr, l1⟩, l4, l5, l6, l7⟩ := hL
  have m0 := h.zero.mp h0
  have k0 : M.1 185 0 = nI H := (l4 0 (by omega)).trans l0
  have k3 : M.1 185 3 = nI P := (l4 3 (by omega)).trans l3
  have a1 : TR C0 M0 t (cTakeW C 2) (mPer1 M) := by
    have e1 : cTakeW C 2 = cNx C := if_pos ⟨h0, hw⟩
    have e2 : mPer1 M = mNx M := by
      unfold mPer1 mBeg mMust
      rw [if_neg (show ¬ M.1 185 3 = 4 from by rw [k3]; exact fun z => absurd ((nI_eq (b := 4) (by omega) (by omega)).mp z) (by omega)), if_neg (by decide)]
      exact if_pos m0
    rw [e1, e2]
    exact h.nx h0
  have a2 : TR C0 M0 t (cPer1 C) (mPer2 M) ∧ ((cPer1 C).1 12 6 = 0 → (cTakeW C 2).1 12 6 = 0 ∧ cSortR (cTakeW C 2) = mKind M ∧ ∃ k : Nat, (1 ≤ k ∧ k ≤ 5) ∧ mKind M = nI k) := a1.sorts
  have cH : (cPer1 C).1 29 0 = nI H := by
    unfold cPer1
    rw [so_o (by decide), tw_o (by decide)]
    exact l0
  have mH : (mPer2 M).1 185 0 = nI H := (mPer2_o (by decide)).trans k0
  have a3 : TR C0 M0 t (cPer2 C) (mPer3 (mPer2 M)) ∧ ((cPer2 C).1 12 6 = 0 → (cPer1 C).1 12 6 = 0 ∧ cNumR (cPer1 C) 0 ((cPer1 C).1 29 0 - 1) (-1000000) = mNumR (mPer2 M) ∧ ¬ (mNumR (mPer2 M) < 0 ∨ nI H - 1 < mNumR (mPer2 M))) := by
    unfold cPer2 mPer3
    rw [cH, mH]
    obtain ⟨x, y⟩ := a2.1.num 0 (nI H - 1) (by decide)
    refine ⟨x, fun f => ?_⟩
    obtain ⟨y1, y2, y3⟩ := y f
    rw [y2] at y3
    exact ⟨y1, y2, y3⟩
  obtain ⟨a4, a4'⟩ := a3.1.num 0 99 (by decide)
  have a5 : TR C0 M0 t (cPer3 C) (mPer4 (mPer2 M)) := a4.sign
  have cw : (cPer C P).1 12 6 = (cPer3 C).1 12 6 := by
    unfold cPer
    rw [upI_ne (by omega), beg_o (by omega)]
  have em : mPer M P = mPerE (mPer4 (mPer2 M)) P (mKind M) (mNumR (mPer2 M)) (mNumR (mPer3 (mPer2 M))) := rfl
  have tr1 : TR C0 M0 t (cPer C P) (mPer4 (mPer2 M)) := by
    have hp : 40 + P = 29 ∨ (32 ≤ 40 + P ∧ 40 + P < 44) := by omega
    unfold cPer cBegin
    exact ((((((((a5.u hp).u hp).u hp).u hp).u hp).u hp).u hp).u hp).u (Or.inl rfl)
  refine ⟨?_, fun f => ?_⟩
  · rw [em]
    unfold mPerE mPerP
    split
    · exact tr1.uM.uM.uM.uM.uM
    · exact tr1
  · rw [cw] at f
    have f6 := a5.zero.mp f
    obtain ⟨y1, y2, y3⟩ := a4' (sign_0 f)
    obtain ⟨z1, z2, z3⟩ := a3.2 y1
    obtain ⟨-, x2, k, hk, x3⟩ := a2.2 z1
    obtain ⟨q, hq, eq⟩ := in_H H5 z3
    rw [y2] at y3
    obtain ⟨y, hy, ey⟩ := in_N (s := 99) (by omega) y3
    have cv : ∀ b j, ¬ (b = 29 ∧ j = 3) → (cPer C P).1 b j = (cBegin (cPer3 C) (40 + P) (nI k) (nI q) (nI y)).1 b j := fun b j hb => by
      unfold cPer
      rw [upI_ne hb, x2, x3, z2, eq, y2, ey]
    have o1 : ∀ a k, a ≠ 12 → a ≠ 40 + P → ¬ (a = 29 ∧ k = 3) → (cPer C P).1 a k = C.1 a k := fun a k h1 h2 h3 => (cv a k h3).trans ((beg_o h2).trans (per3_o h1))
    have v : ∀ j, (cPer C P).1 (40 + P) j = (cBegin (cPer3 C) (40 + P) (nI k) (nI q) (nI y)).1 (40 + P) j := fun j => cv _ j (by omega)
    have v0 : (cPer C P).1 (40 + P) 0 = nI k := by rw [v, cBegin_v]; simp
    have v1 : (cPer C P).1 (40 + P) 1 = nI y := by rw [v, cBegin_v]; simp
    have v2 : (cPer C P).1 (40 + P) 2 = nI q := by rw [v, cBegin_v]; simp
    have v3 : (cPer C P).1 (40 + P) 3 = 0 := by rw [v, cBegin_v]; simp
    have v4 : (cPer C P).1 (40 + P) 4 = nI y := by rw [v, cBegin_v]; simp
    have v5 : (cPer C P).1 (40 + P) 5 = 0 := by rw [v, cBegin_v]; simp
    have v6 : (cPer C P).1 (40 + P) 6 = 0 := by rw [v, cBegin_v]; simp
    have v7 : (cPer C P).1 (40 + P) 7 = 0 := by rw [v, cBegin_v]; simp
    have n3 : (cPer C P).1 29 3 = nI (P + 1) := by
      unfold cPer
      rw [upI_eq, beg_o (by omega), per3_o (by decide), l3, nI_1]
    have em2 : mPer M P = mPerP (mPer4 (mPer2 M)) P (nI k) (nI q) (nI y) := by
      rw [em, x3, eq, ey]
      exact if_pos f6
    have ob : ∀ j, (mPer4 (mPer2 M)).1 185 j = M.1 185 j := fun j => (mPer4_o (by decide)).trans (mPer2_o (by decide))
    have u : ∀ j, (mPer M P).1 185 j = if j = 3 then nI (P + 1) else if j = 36 + 8 * P + 4 then nI y else if j = 36 + 8 * P + 2 then nI y else if j = 36 + 8 * P + 1 then nI q else if j = 36 + 8 * P then nI k else M.1 185 j := fun j => by
      rw [em2]
      unfold mPerP
      show (if 185 = 185 ∧ j = 3 then _ else if 185 = 185 ∧ j = 36 + 8 * P + 4 then _ else if 185 = 185 ∧ j = 36 + 8 * P + 2 then _ else if 185 = 185 ∧ j = 36 + 8 * P + 1 then _ else if 185 = 185 ∧ j = 36 + 8 * P then _ else (mPer4 (mPer2 M)).1 185 j) = _
      simp only [true_and, ob]
    have un : ∀ j, ¬ j = 3 → (j < 36 + 8 * P ∨ 36 + 8 * P + 7 < j) → (mPer M P).1 185 j = M.1 185 j := fun j h1 h2 => by
      rw [u, if_neg h1, if_neg (by omega), if_neg (by omega), if_neg (by omega), if_neg (by omega)]
    have u0 : ∀ j, (j = 3 ∨ j = 5 ∨ j = 6 ∨ j = 7) → (mPer M P).1 185 (36 + 8 * P + j) = 0 := fun j hj => by
      rw [u, if_neg (by omega), if_neg (by omega), if_neg (by omega), if_neg (by omega), if_neg (by omega)]
      exact l7 _ (by omega) (by omega)
    refine ⟨⟨H1, H5, hW8, by omega⟩, ⟨by rw [o1 29 0 (by decide) (by omega) (by decide)]; exact l0, by rw [o1 29 2 (by decide) (by omega) (by decide)]; exact l2, n3, r, hr, by rw [o1 29 1 (by decide) (by omega) (by decide)]; exact l1⟩, fun j hj => ?_, fun w hw2 => ?_, fun p hp => ?_, fun j h1 h2 => by rw [un j (by omega) (by omega)]; exact l7 j (by omega) h2⟩
    · by_cases e : j = 3
      · subst e
        rw [u, if_pos rfl, n3]
      · rw [un j e (by omega), o1 29 j (by decide) (by omega) (by omega)]
        exact l4 j hj
    · obtain ⟨g1, g2⟩ := l5 w hw2
      exact ⟨g1.c (fun k => o1 _ k (by omega) (by omega) (by omega)), fun j hj => by rw [un _ (by omega) (by omega), o1 _ j (by omega) (by omega) (by omega)]; exact g2 j hj⟩
    · by_cases e : p = P
      · subst e
        refine ⟨⟨k, y, q, 0, y, 0, hk, hy, hq, by omega, by omega, by omega, v0, v1, v2, v3, v4, v5⟩, fun j hj => ?_⟩
        match j, hj with
        | 0, _ => rw [show pm 0 = 0 from rfl, v0, u, if_neg (by omega), if_neg (by omega), if_neg (by omega), if_neg (by omega), if_pos (by omega)]
        | 1, _ => rw [show pm 1 = 2 from rfl, v2, u, if_neg (by omega), if_neg (by omega), if_neg (by omega), if_pos rfl]
        | 2, _ => rw [show pm 2 = 1 from rfl, v1, u, if_neg (by omega), if_neg (by omega), if_pos rfl]
        | 3, _ => rw [show pm 3 = 3 from rfl, v3, u0 3 (by omega)]
        | 4, _ => rw [show pm 4 = 4 from rfl, v4, u, if_neg (by omega), if_pos rfl]
        | 5, _ => rw [show pm 5 = 5 from rfl, v5, u0 5 (by omega)]
        | 6, _ => rw [show pm 6 = 6 from rfl, v6, u0 6 (by omega)]
        | 7, _ => rw [show pm 7 = 7 from rfl, v7, u0 7 (by omega)]
        | j + 8, hj => exact absurd hj (by omega)
      · obtain ⟨g1, g2⟩ := l6 p (by omega)
        exact ⟨g1.c (fun k => o1 _ k (by omega) (by omega) (by omega)), fun j hj => by rw [un _ (by omega) (by omega), o1 _ _ (by omega) (by omega) (by omega)]; exact g2 j hj⟩
theorem mWay_full {M : zm} (h : M.1 185 2 = 8) : mWay M 8 = mBad M 3 := by
  have nf : ¬ (mBad M 3).1 180 17 = 0 := mbad_n (by decide)
  have e1 : mWay1 M = mBad M 3 := by
    unfold mWay1 mBeg
    rw [if_pos h, mmust_f nf]
  have e2 : mWay2 M = mBad M 3 := by
    unfold mWay2
    rw [e1, mnum_f nf]
  have e3 : mWay3 M = mBad M 3 := by
    unfold mWay3
    rw [e2, if_neg (fun z => nf z.1)]
  unfold mWay mWayB mWayE mWay6 mWay5 mWay4
  rw [e3, mnum_f nf, mnum_f nf, mnum_f nf, mme_f nf, if_neg nf]
theorem mPer_full {M : zm} (h : M.1 185 3 = 4) : mPer M 4 = mBad M 3 := by
  have nf : ¬ (mBad M 3).1 180 17 = 0 := mbad_n (by decide)
  have e1 : mPer1 M = mBad M 3 := by
    unfold mPer1 mBeg
    rw [if_pos h, mmust_f nf]
  have e2 : mPer2 M = mBad M 3 := by
    unfold mPer2
    rw [e1, if_neg nf]
  unfold mPer mPerB mPerE mPer4 mPer3
  rw [e2, mnum_f nf, mnum_f nf, mme_f nf, if_neg nf]
theorem TR.n0 {C0 M0 C M : zm} {t : Nat} (h : TR C0 M0 t C M) (h0 : ¬ C.1 12 6 = 0) {c : Int64} (hc : ¬ c = 0) : ¬ mName M = c := by
  have m0 : ¬ M.1 180 17 = 0 := fun q => h0 (h.zero.mpr q)
  unfold mName
  rw [if_neg m0]
  exact fun e => hc e.symm
theorem ways_eq {C0 M0 : zm} {t H : Nat} : ∀ (n W : Nat) (C M : zm), TR C0 M0 t C M → (C.1 12 6 = 0 → LD C M H W 0) → W + n = 9 → TR C0 M0 t (cWays n C) (mWaysL (n + 1) M) ∧ ((cWays n C).1 12 6 = 0 → ∃ W', LD (cWays n C) (mWaysL (n + 1) M) H W' 0) := by
  intro n
  induction n with
  | zero =>
    intro W C M h hL hn
    have h0 : ¬ C.1 12 6 = 0 := fun q => by
      have := (hL q).1
      omega
    rw [mWaysL, if_neg (h.n0 h0 (by decide))]
    exact ⟨h, fun z => absurd z h0⟩
  | succ n ih =>
    intro W C M h hL hn
    rw [cWays, mWaysL]
    by_cases h0 : C.1 12 6 = 0
    · have w := h.word h0 wSp_1 (by decide) (by decide) (by decide)
      obtain ⟨⟨q1, q2, q3, q4⟩, ⟨q5, q6, q7, -⟩, q8, -⟩ := hL h0
      by_cases hw : isWx C 1
      · have e1 : tW C = W := by unfold tW; rw [q6, nI_clamp (by omega)]
        have e2 : sW M = W := by unfold sW; rw [q8 2 (by omega), q6, nI_clamp (by omega)]
        rw [if_pos ⟨h0, hw⟩, if_pos (show mName M = 7823737 from w.mp hw), e2]
        unfold cWayS
        rw [e1]
        by_cases c : W < 8
        · rw [if_pos c]
          obtain ⟨s1, s2⟩ := way_step h h0 hw (hL h0) c
          exact ih (W + 1) _ _ s1 s2 (by omega)
        · have e8 : W = 8 := by omega
          subst e8
          rw [if_neg c, mWay_full ((q8 2 (by omega)).trans q6)]
          exact ih 9 _ _ (h.bad (by decide)) (fun z => absurd z (fail_n (by decide))) (by omega)
      · rw [if_neg (fun z => hw z.2), if_neg (show ¬ mName M = 7823737 from fun z => hw (w.mpr z))]
        exact ⟨h, fun z => ⟨W, hL z⟩⟩
    · rw [if_neg (fun z => h0 z.1), if_neg (h.n0 h0 (by decide))]
      exact ⟨h, fun z => absurd z h0⟩
theorem folk_eq {C0 M0 : zm} {t H W : Nat} : ∀ (n P : Nat) (C M : zm), TR C0 M0 t C M → (C.1 12 6 = 0 → LD C M H W P) → P + n = 5 → TR C0 M0 t (cFolk n C) (mFolkL (n + 1) M) ∧ ((cFolk n C).1 12 6 = 0 → ∃ P', LD (cFolk n C) (mFolkL (n + 1) M) H W P') := by
  intro n
  induction n with
  | zero =>
    intro P C M h hL hn
    have h0 : ¬ C.1 12 6 = 0 := fun q => by
      have := (hL q).1
      omega
    rw [mFolkL, if_neg (h.n0 h0 (by decide))]
    exact ⟨h, fun z => absurd z h0⟩
  | succ n ih =>
    intro P C M h hL hn
    rw [cFolk, mFolkL]
    by_cases h0 : C.1 12 6 = 0
    · have w := h.word h0 wSp_2 (by decide) (by decide) (by decide)
      obtain ⟨⟨q1, q2, q3, q4⟩, ⟨q5, q6, q7, -⟩, q8, -⟩ := hL h0
      by_cases hw : isWx C 2
      · have e1 : tP C = P := by unfold tP; rw [q7, nI_clamp (by omega)]
        have e2 : sP M = P := by unfold sP; rw [q8 3 (by omega), q7, nI_clamp (by omega)]
        rw [if_pos ⟨h0, hw⟩, if_pos (show mName M = 123581014175598 from w.mp hw), e2]
        unfold cPerS
        rw [e1]
        by_cases c : P < 4
        · rw [if_pos c]
          obtain ⟨s1, s2⟩ := per_step h h0 hw (hL h0) c
          exact ih (P + 1) _ _ s1 s2 (by omega)
        · have e8 : P = 4 := by omega
          subst e8
          rw [if_neg c, mPer_full ((q8 3 (by omega)).trans q7)]
          exact ih 5 _ _ (h.bad (by decide)) (fun z => absurd z (fail_n (by decide))) (by omega)
      · rw [if_neg (fun z => hw z.2), if_neg (show ¬ mName M = 123581014175598 from fun z => hw (w.mpr z))]
        exact ⟨h, fun z => ⟨P, hL z⟩⟩
    · rw [if_neg (fun z => h0 z.1), if_neg (h.n0 h0 (by decide))]
      exact ⟨h, fun z => absurd z h0⟩
theorem mFill_v {m : zm} {a b i c k : Nat} (h : ¬ (c = a ∧ b ≤ k ∧ k < b + i)) : (mFill m a b i).1 c k = m.1 c k := if_neg h
/-- both at the first token -/
theorem TR_0 {m M : zm} {t : Nat} (ht : m.1 12 1 = nI t) (ht4 : t ≤ 400) (hM : M.1 180 10 = nI t) (hb : ∀ k, k < t → m.1 13 k = M.1 187 k) : TR m (mBeg0 M) t (cL0 m t) (mFill (mBegin M t) 185 0 68) ∧ (cL0 m t).1 12 6 = 0 ∧ (cL0 m t).1 29 2 = 0 ∧ (cL0 m t).1 29 3 = 0 := by
  have x : ∀ a k, ¬ (a = 12 ∧ (k = 4 ∨ k = 6 ∨ k = 7)) → ¬ (a = 29 ∧ (k = 2 ∨ k = 3)) → (upI (upI (upI (upI (upI m 12 6 0) 12 7 0) 12 4 0) 29 2 0) 29 3 0).1 a k = m.1 a k := fun a k h1 h2 => by
    rw [upI_ne (by omega), upI_ne (by omega), upI_ne (by omega), upI_ne (by omega), upI_ne (by omega)]
  have x6 : (upI (upI (upI (upI (upI m 12 6 0) 12 7 0) 12 4 0) 29 2 0) 29 3 0).1 12 6 = 0 := by simp [upI]
  have x2 : (upI (upI (upI (upI (upI m 12 6 0) 12 7 0) 12 4 0) 29 2 0) 29 3 0).1 29 2 = 0 := by simp [upI]
  have x3 : (upI (upI (upI (upI (upI m 12 6 0) 12 7 0) 12 4 0) 29 2 0) 29 3 0).1 29 3 = 0 := by simp [upI]
  have y12 : (mBeg0 M).1 180 12 = nI t := by simp [mBeg0, upI, hM]
  have y17 : (mBeg0 M).1 180 17 = 0 := by simp [mBeg0, upI]
  have y187 : (mBeg0 M).1 187 = M.1 187 := by
    unfold mBeg0
    rw [u187, u187, u187, u187]
  have f0 : (cL0 m t).1 12 6 = 0 := (nx_12 (by omega)).trans x6
  have base : TR m (mBeg0 M) t (cL0 m t) (mBegin M t) := by
    refine ⟨⟨ht4, fun k hk => by rw [y187]; exact hb k hk⟩, ⟨fun a k h1 h2 h3 => (nx_o h1).trans (x a k (by omega) (by omega)), fun a k h1 h2 => mnext_o h1, fun k hk => mx_180 (by omega)⟩, ⟨(nx_12 (by omega)).trans ((x 12 1 (by omega) (by omega)).trans ht), (mx_180 (by omega)).trans y12⟩, ⟨f0.trans ((mx_180 (by omega)).trans y17).symm, Or.inl f0⟩, fun q => absurd f0 q, fun _ => TK_next (Nat.zero_le t) (fun k hk => ?_)⟩
    rw [x 13 k (by omega) (by omega), y187]
    exact hb k hk
  refine ⟨base.c (fun _ => rfl) (fun _ => rfl) (fun k => mFill_v (by omega)) (funext fun k => mFill_v (by omega)) base.2.1.1 ⟨fun a k h1 h2 => (mFill_v (by omega)).trans (base.2.1.2.1 a k h1 h2), fun k hk => (mFill_v (by omega)).trans (base.2.1.2.2 k hk)⟩, f0, (nx_o (by decide)).trans x2, (nx_o (by decide)).trans x3⟩
theorem in_5 {v : Int32} (h : ¬ (v < 1 ∨ 5 < v)) : ∃ j : Nat, (1 ≤ j ∧ j ≤ 5) ∧ v = nI j := by
  obtain ⟨j, hj, e⟩ := nI_of2 (x := v) (n := 5) (M := 5) (by decide) (fun z => h (Or.inl (Int32.lt_trans z (by decide)))) (Int32.not_lt.mp (fun z => h (Or.inr z)))
  refine ⟨j, ⟨Nat.pos_of_ne_zero fun z => ?_, hj⟩, e⟩
  subst z
  exact h (Or.inl (by rw [e]; decide))
/-- the head of the text -/
theorem head_eq {m M : zm} {t : Nat} (ht : m.1 12 1 = nI t) (ht4 : t ≤ 400) (hM : M.1 180 10 = nI t) (hb : ∀ k, k < t → m.1 13 k = M.1 187 k) : TR m (mBeg0 M) t (cL3 m t) (mHead (mFill (mBegin M t) 185 0 68)) ∧ ((cL3 m t).1 12 6 = 0 → ∃ H, LD (cL3 m t) (mHead (mFill (mBegin M t) 185 0 68)) H 0 0) := by
  obtain ⟨h, h0, z2, z3⟩ := TR_0 ht ht4 hM hb
  generalize hZ : mFill (mBegin M t) 185 0 68 = Z at h
  have hz : ∀ k, k < 68 → Z.1 185 k = 0 := fun k hk => by
    rw [← hZ]
    exact if_pos ⟨rfl, by omega, by omega⟩
  have m0 := h.zero.mp h0
  have w := h.word h0 wSp_0 (by decide) (by decide) (by decide)
  have a1 : TR m (mBeg0 M) t (cTakeW (cL0 m t) 0) (mHd1 Z) := by
    unfold cTakeW mHd1 mMust
    by_cases hw : isWx (cL0 m t) 0
    · rw [if_pos ⟨h0, hw⟩, if_pos (show mName Z = 7102839 from w.mp hw), if_neg (by decide), show mGo Z = mNx Z from if_pos m0]
      exact h.nx h0
    · rw [if_neg (fun z => hw z.2), if_neg (show ¬ mName Z = 7102839 from fun z => hw (w.mpr z)), if_pos rfl, mgo_f (mbad_n (by decide))]
      exact h.bad (by decide)
  have a2 := a1.put (a := 29) (k := 0) 1 5 (Or.inl rfl) (by decide)
  have a2u : TR m (mBeg0 M) t (cL2 m t) (mHd2 Z) := a2.1.uM
  have a3 := a2u.put (a := 29) (k := 1) 0 20 (Or.inl rfl) (by decide)
  have a3u : TR m (mBeg0 M) t (cPut (cL2 m t) 29 1 0 20 (-1000000)) (mHd3 Z) := a3.1.uM
  have a4 : TR m (mBeg0 M) t (cL3 m t) (mHead Z) := a3u.sign
  refine ⟨a4, fun f => ?_⟩
  obtain ⟨y1, y2, y3⟩ := a3.2 (sign_0 f)
  obtain ⟨-, x2, x3⟩ := a2.2 y1
  obtain ⟨H, hH, eH⟩ := in_5 x3
  obtain ⟨r, hr, er⟩ := in_N (s := 20) (by omega) y3
  have c0 : (cL3 m t).1 29 0 = nI H := by
    unfold cL3 cL2
    rw [ts_o (by decide), put_o (by decide) (by omega), put_v, x2, eH]
  have c1 : (cL3 m t).1 29 1 = nI r := by
    unfold cL3
    rw [ts_o (by decide), put_v, y2, er]
  have c23 : ∀ k, k = 2 ∨ k = 3 → (cL3 m t).1 29 k = (cL0 m t).1 29 k := fun k hk => by
    unfold cL3 cL2
    rw [ts_o (by decide), put_o (by decide) (by omega), put_o (by decide) (by omega), tw_o (by decide)]
  have e2 : (cL3 m t).1 29 2 = 0 := (c23 2 (by omega)).trans z2
  have e3 : (cL3 m t).1 29 3 = 0 := (c23 3 (by omega)).trans z3
  have mh : ∀ k, (mHead Z).1 185 k = if k = 1 then nI r else if k = 0 then nI H else Z.1 185 k := fun k => by
    have e : (mHead Z).1 185 k = (mHd3 Z).1 185 k := by
      unfold mHead
      exact mme_o (m := mHd3 Z) (by decide)
    rw [e]
    by_cases k1 : k = 1
    · subst k1
      rw [if_pos rfl]
      unfold mHd3
      rw [upI_eq]
      exact er
    · have e' : (mHd3 Z).1 185 k = (mHd2 Z).1 185 k := by
        unfold mHd3
        rw [upI_ne (by omega)]
        exact mnum_o (m := mHd2 Z) (by decide)
      rw [e', if_neg k1]
      by_cases k0 : k = 0
      · subst k0
        rw [if_pos rfl]
        unfold mHd2
        rw [upI_eq]
        exact eH
      · rw [if_neg k0]
        unfold mHd2
        rw [upI_ne (by omega), mnum_o (m := mHd1 Z) (by decide)]
        unfold mHd1
        exact mmust_o (m := Z) (by decide)
  refine ⟨H, ⟨hH.1, hH.2, by omega, by omega⟩, ⟨c0, e2, e3, r, hr, c1⟩, fun k hk => ?_, fun w hw => absurd hw (by omega), fun p hp => absurd hp (by omega), fun k h1 h2 => ?_⟩
  · match k, hk with
    | 0, _ => rw [mh, if_neg (by omega), if_pos rfl, c0]
    | 1, _ => rw [mh, if_pos rfl, c1]
    | 2, _ => rw [mh, if_neg (by omega), if_neg (by omega), hz 2 (by omega), e2]
    | 3, _ => rw [mh, if_neg (by omega), if_neg (by omega), hz 3 (by omega), e3]
    | k + 4, hk => exact absurd hk (by omega)
  · rw [mh, if_neg (by omega), if_neg (by omega)]
    exact hz k h2
/-- the whole text -/
theorem read_eq {m M : zm} {t : Nat} (ht : m.1 12 1 = nI t) (ht4 : t ≤ 400) (hM : M.1 180 10 = nI t) (hb : ∀ k, k < t → m.1 13 k = M.1 187 k) : TR m (mBeg0 M) t (cLeague m t) (mFin (mFolkL 6 (mWaysL 10 (mHead (mFill (mBegin M t) 185 0 68))))) ∧ ((cLeague m t).1 12 6 = 0 → ∃ H W P, LD (cLeague m t) (mFin (mFolkL 6 (mWaysL 10 (mHead (mFill (mBegin M t) 185 0 68))))) H W P) := by
  obtain ⟨a1, a2⟩ := head_eq ht ht4 hM hb
  have b : TR m (mBeg0 M) t (cWays 9 (cL3 m t)) (mWaysL 10 (mHead (mFill (mBegin M t) 185 0 68))) ∧ ((cWays 9 (cL3 m t)).1 12 6 = 0 → ∃ H W, LD (cWays 9 (cL3 m t)) (mWaysL 10 (mHead (mFill (mBegin M t) 185 0 68))) H W 0) := by
    by_cases f : (cL3 m t).1 12 6 = 0
    · obtain ⟨H, hL⟩ := a2 f
      obtain ⟨b1, b2⟩ := ways_eq 9 0 _ _ a1 (fun _ => hL) (by omega)
      exact ⟨b1, fun z => ⟨H, b2 z⟩⟩
    · obtain ⟨b1, b2⟩ := ways_eq (H := 0) 9 0 _ _ a1 (fun z => absurd z f) (by omega)
      exact ⟨b1, fun z => ⟨0, b2 z⟩⟩
  have c : TR m (mBeg0 M) t (cFolk 5 (cWays 9 (cL3 m t))) (mFolkL 6 (mWaysL 10 (mHead (mFill (mBegin M t) 185 0 68)))) ∧ ((cFolk 5 (cWays 9 (cL3 m t))).1 12 6 = 0 → ∃ H W P, LD (cFolk 5 (cWays 9 (cL3 m t))) (mFolkL 6 (mWaysL 10 (mHead (mFill (mBegin M t) 185 0 68)))) H W P) := by
    by_cases f : (cWays 9 (cL3 m t)).1 12 6 = 0
    · obtain ⟨H, W, hL⟩ := b.2 f
      obtain ⟨b1, b2⟩ := folk_eq 5 0 _ _ b.1 (fun _ => hL) (by omega)
      exact ⟨b1, fun z => ⟨H, W, b2 z⟩⟩
    · obtain ⟨b1, b2⟩ := folk_eq (H := 0) (W := 0) 5 0 _ _ b.1 (fun z => absurd z f) (by omega)
      exact ⟨b1, fun z => ⟨0, 0, b2 z⟩⟩
  unfold cLeague cEnd mFin
  generalize cFolk 5 (cWays 9 (cL3 m t)) = C at c ⊢
  generalize mFolkL 6 (mWaysL 10 (mHead (mFill (mBegin M t) 185 0 68))) = N at c ⊢
  obtain ⟨c1, c2⟩ := c
  by_cases f : C.1 12 6 = 0
  · have v := (c1.val f).2.2.1
    have m0 := c1.zero.mp f
    by_cases q : C.1 12 2 = 0
    · rw [if_pos q, if_neg (fun z => z.2 (v.mp q))]
      exact ⟨c1, c2⟩
    · rw [if_neg q, if_pos ⟨m0, fun z => q (v.mpr z)⟩]
      exact ⟨c1.bad (by decide), fun z => absurd z (fail_n (by decide))⟩
  · have e1 : (if C.1 12 2 = 0 then C else cFail C 1) = C := by rw [fail_f f, ite_self]
    rw [e1, if_neg (fun z => f (c1.zero.mpr z.1))]
    exact ⟨c1, fun z => absurd z f⟩
