/-! ===== pure: acts undone, voyages ===== -/
theorem st_undo : ∀ m : zm, Rel m → LawStp Rel zM_X7_undo zM_X8_undo m [] := by
  intro m h
  obtain ⟨g1, g2, g3, g4, g5, H, W, P, hc, ha⟩ := id h
  obtain ⟨h1, h2, h3, h4⟩ := id ha
  have e46 := h1.2.1
  have e180 := h2.1
  by_cases hk : aK m = 0
  · exact stp_mk (ev_X7_undo_state 9 m (by rw [e46, hk]; rfl)) (ev_X8_undo_state 11 m (by rw [e180, ← h3, hk]; rfl)) rfl h.t
  · obtain ⟨A, hA⟩ : ∃ A, aK m = A + 1 := ⟨aK m - 1, by omega⟩
    have hA24 : A < 24 := by have := h1.2.2.2; omega
    have hO := h1.2.2.1
    have hP := hc.1.1.2.2
    have n46 : ¬ m.1 46 2 = 0 := by rw [e46, hA]; exact nI_ne0 (by omega) (by omega)
    have hcl := ev_X7_undo 9 m n46 h1
    have eT : cTk m = cPers (upI m 46 2 (nI A)) 25 (48 + (aO m + A) % 24 * 4) := by
      show cTake m (aO m) (aK m) = _
      unfold cTake
      rw [if_neg hk, hA, Nat.add_sub_cancel]
    rw [eT] at hcl
    generalize hm1 : cPers (upI m 46 2 (nI A)) 25 (48 + (aO m + A) % 24 * 4) = m1 at hcl
    have eP : ∀ p k, p < 4 → k < 8 → m1.1 (25 + p) k = m.1 (48 + (aO m + A) % 24 * 4 + p) k := fun p k hp hk => by
      rw [← hm1, cPers_v (by omega) hk p hp, upI_ne (by omega)]
    have eO : ∀ a k, ¬ (25 ≤ a ∧ a ≤ 28) → m1.1 a k = (upI m 46 2 (nI A)).1 a k := fun a k q => by
      rw [← hm1, cPers_n (by omega)]
    have eN : ∀ a k, ¬ (25 ≤ a ∧ a ≤ 28) → ¬ (a = 46 ∧ k = 2) → m1.1 a k = m.1 a k := fun a k q1 q2 => by
      rw [eO a k q1, upI_ne q2]
    have e462 : m1.1 46 2 = nI A := by rw [eO _ _ (by omega), upI_eq]
    rw [e462] at hcl
    have hml := ev_X8_undo 11 m1 A (by rw [eN _ _ (by omega) (by omega), e180, ← h3, hA]; exact nI_ne0 (by omega) (by omega)) (by rw [eN _ _ (by omega) (by omega), e180, ← h3, hA]) hA24
    have eM : ∀ c k, (mUndo (mT m1) A).1 c k = if c = 184 ∧ 0 ≤ k ∧ k < 0 + 68 then (upI (mT m1) 180 8 (nI A)).1 186 (68 * A + (k - 0)) else if c = 180 ∧ k = 8 then nI A else if c = 180 ∧ k = 0 then 0 else m1.1 c k := fun c k => rfl
    have e184 : ∀ k, k < 68 → (mUndo (mT m1) A).1 184 k = m.1 186 (68 * A + k) := fun k hk => by
      rw [eM, if_pos (by omega), upI_ne (by omega), upI_ne (by omega), eN _ _ (by omega) (by omega), show k - 0 = k by omega]
    obtain ⟨w1, w2⟩ := h4 A (by omega)
    have eb : ∀ a k, ¬ (25 ≤ a ∧ a ≤ 28) → ¬ (a = 46 ∧ k = 2) → ¬ (a = 180 ∧ (k = 0 ∨ k = 8)) → ¬ (a = 184 ∧ 36 ≤ k ∧ k < 68) → (mUndo (mT m1) A).1 a k = m.1 a k := fun a k q1 q2 q3 q4 => by
      by_cases q5 : a = 184 ∧ k < 36
      · obtain ⟨rfl, q6⟩ := q5
        rw [e184 k (by omega)]
        exact w1 k q6
      · rw [eM, if_neg (by omega), if_neg (by omega), if_neg (by omega), eN a k q1 q2]
    have ep : ∀ p k, p < 4 → k < 8 → (mUndo (mT m1) A).1 (25 + p) k = m.1 (48 + (aO m + A) % 24 * 4 + p) k := fun p k hp hk => by
      rw [eM, if_neg (by omega), if_neg (by omega), if_neg (by omega), eP p k hp hk]
    refine stp_mk hcl hml rfl ⟨⟨?_, ?_⟩, g2.c (fun a k q => eb a k (by omega) (by omega) (by omega) (by omega)), g3.c (eb _ _ (by omega) (by omega) (by omega) (by omega)) (eb _ _ (by omega) (by omega) (by omega) (by omega)) (fun k => eb _ _ (by omega) (by omega) (by omega) (by omega)) (fun k => eb _ _ (by omega) (by omega) (by omega) (by omega)), g4.c (fun a k q => eb a k (by omega) (by omega) (by omega) (by omega)) (eb _ _ (by omega) (by omega) (by omega) (by omega)), g5.c (fun a k q => eb a k (by omega) (by omega) (by omega) (by omega)) (eb _ _ (by omega) (by omega) (by omega) (by omega)), H, W, P, cur_upd hc (fun a k q1 q2 => eb a k (by omega) (by omega) (by omega) (by omega)) (fun k hk => eb _ k (by omega) (by omega) (by omega) (by omega)) (eb _ _ (by omega) (by omega) (by omega) (by omega)) (fun p hp => ?_), ?_⟩
    · rw [eb 0 3 (by omega) (by omega) (by omega) (by omega), eb 180 1 (by omega) (by omega) (by omega) (by omega)]
      exact g1.1
    · rw [eb 0 5 (by omega) (by omega) (by omega) (by omega), eb 180 11 (by omega) (by omega) (by omega) (by omega)]
      exact g1.2
    · obtain ⟨v1, v2⟩ := w2 p hp
      obtain ⟨k, t, hh, c, g, n, x1, x2, x3, x4, x5, x6, z0, z1, z2, z3, z4, z5⟩ := v1
      refine ⟨⟨k, t, hh, c, g, n, x1, x2, x3, x4, x5, x6, by rw [ep p 0 (by omega) (by omega), z0], by rw [ep p 1 (by omega) (by omega), z1], by rw [ep p 2 (by omega) (by omega), z2], by rw [ep p 3 (by omega) (by omega), z3], by rw [ep p 4 (by omega) (by omega), z4], by rw [ep p 5 (by omega) (by omega), z5]⟩, fun k hk => ?_⟩
      rw [e184 _ (by omega), ep p _ (by omega) (pm8 hk), ← v2 k hk, show 68 * A + (36 + 8 * p + k) = 68 * A + 36 + 8 * p + k by omega]
    · obtain ⟨a1, a2, a3⟩ := aOk_of (m := mUndo (mT m1) A) (o := aO m) (k := A) (by rw [eb _ _ (by omega) (by omega) (by omega) (by omega)]; exact h1.1) (by rw [eM, if_neg (by omega), if_neg (by omega), if_neg (by omega), e462]) hO (by omega)
      obtain ⟨b1, b2⟩ := mAOk_of (m := mUndo (mT m1) A) (a := A) (by rw [eM, if_neg (by omega), if_pos (by omega)]) (by omega)
      refine ⟨a1, b1, by rw [a3, b2], fun j hj => ?_⟩
      rw [a3] at hj
      rw [a2]
      obtain ⟨u1, u2⟩ := h4 j (by omega)
      refine ⟨fun k hk => by rw [eb 186 _ (by omega) (by omega) (by omega) (by omega), eb 184 k (by omega) (by omega) (by omega) (by omega)]; exact u1 k hk, fun p hp => ?_⟩
      obtain ⟨v1, v2⟩ := u2 p hp
      refine ⟨v1.c (fun k => eb _ k (by omega) (by omega) (by omega) (by omega)), fun k hk => ?_⟩
      rw [eb 186 _ (by omega) (by omega) (by omega) (by omega), eb (48 + (aO m + j) % 24 * 4 + p) _ (by omega) (by omega) (by omega) (by omega)]
      exact v2 k hk
/-! one voyage -/
theorem way_own {m : zm} {H W P j w : Nat} (hc : rCur m H W P) (hj : j < P) (hw : w < W) : ∃ o s : Nat, o ≤ s ∧ s ≤ 20 ∧ m.1 (17 + w) 2 = nI s ∧ cOwn m (25 + j) (17 + w) = nI o ∧ mAgesBy m j w = nI o := by
  obtain ⟨p, q, s, y, -, -, -, -, hs, hy, -, -, z2, z3⟩ := (hc.1.2.2.2.1 w hw).1
  obtain ⟨k, t, hh, c, g, n, hk, -, -, -, -, -, k0, -⟩ := (hc.1.2.2.2.2 j hj).1
  have e2 : mWy m w 2 = nI s := (cur_way hc hw (by omega)).trans z2
  have e3 : mWy m w 3 = nI y := (cur_way hc hw (by omega)).trans z3
  have e0 : mOf m j 0 = nI k := (cur_per hc hj (by omega)).trans k0
  unfold cOwn mAgesBy
  rw [e2, e3, e0, k0, z2, z3]
  by_cases h2 : nI k = 2
  · rw [if_pos h2, if_pos h2]
    by_cases hy0 : y = 0
    · subst hy0
      exact ⟨0, s, by omega, hs, rfl, by rw [if_pos (by decide)]; rfl, by rw [if_neg (by decide)]; rfl⟩
    · refine ⟨y - 1, s, by omega, hs, rfl, ?_, ?_⟩
      · rw [show nI y - 1 = nI (y - 1) from pk_sub (b := 1) (by omega), if_neg (nI_pos (by omega))]
      · rw [if_pos (show (0 : Int32) < nI y from nI_lt (a := 0) (by omega) (by omega)), show nI y - 1 = nI (y - 1) from pk_sub (b := 1) (by omega)]
  · rw [if_neg h2, if_neg h2]
    by_cases h3 : nI k = 3
    · rw [if_pos h3]
      exact ⟨0, s, by omega, hs, rfl, rfl, rfl⟩
    · rw [if_neg h3]
      by_cases h4 : nI k = 4
      · rw [if_pos h4]
        exact ⟨s, s, by omega, hs, rfl, rfl, rfl⟩
      · rw [if_neg h4]
        exact ⟨y, s, hy, hs, rfl, rfl, rfl⟩
theorem go_iff {m : zm} {H W P j w : Nat} (hc : rCur m H W P) (hj : j < P) (hw : w < W) : (cGo m j w ↔ ¬ mGoE m j w = -1000000) ∧ (cGo m j w → cOther m (17 + w) (m.1 (25 + j) 2) = mGoE m j w ∧ ∃ x, x < H ∧ mGoE m j w = nI x) := by
  obtain ⟨p, q, s, y, hp, hq, hpq, -, hs, hy, z0, z1, z2, z3⟩ := (hc.1.2.2.2.1 w hw).1
  obtain ⟨k, t, hh, c, g, n, hk, -, hhH, -, -, -, k0, -, k2, -⟩ := (hc.1.2.2.2.2 j hj).1
  have hH := hc.1.1.1
  have e0 : mWy m w 0 = nI p := (cur_way hc hw (by omega)).trans z0
  have e1 : mWy m w 1 = nI q := (cur_way hc hw (by omega)).trans z1
  have e2 : mWy m w 2 = nI s := (cur_way hc hw (by omega)).trans z2
  have ek : mOf m j 0 = nI k := (cur_per hc hj (by omega)).trans k0
  have ea : mOf m j 1 = nI hh := (cur_per hc hj (by omega)).trans k2
  unfold mGoE mEndOf mTo cGo cOther
  rw [e0, e1, e2, ek, ea, k0, k2, z0, z1, z2]
  have b10 : (nI s ≤ 10) ↔ s ≤ 10 := nI_leI (b := 10) (by omega) (by omega)
  have b11 : ((10 : Int32) < nI s) ↔ 10 < s := nI_ltI (a := 10) (by omega) (by omega)
  by_cases hb : nI k = 5 ∧ 10 < nI s
  · rw [if_pos hb]
    have hno : ¬ ((nI p = nI hh ∨ nI q = nI hh) ∧ (¬ nI k = 5 ∨ nI s ≤ 10)) := fun z => z.2.elim (fun z => z hb.1) (fun z => by
      have := b10.mp z
      have := b11.mp hb.2
      omega)
    exact ⟨⟨fun z => absurd z hno, fun z => absurd rfl z⟩, fun z => absurd z hno⟩
  · rw [if_neg hb]
    have hok : ¬ nI k = 5 ∨ nI s ≤ 10 := by
      by_cases h5 : nI k = 5
      · refine Or.inr (b10.mpr ?_)
        have : ¬ 10 < s := fun z => hb ⟨h5, b11.mpr z⟩
        omega
      · exact Or.inl h5
    by_cases hph : nI p = nI hh
    · rw [if_pos hph, if_pos hph.symm]
      exact ⟨⟨fun _ => nI_none (by omega), fun _ => ⟨Or.inl hph, hok⟩⟩, fun _ => ⟨rfl, q, hq, rfl⟩⟩
    · rw [if_neg hph, if_neg (show ¬ nI hh = nI p from fun z => hph z.symm)]
      by_cases hqh : nI q = nI hh
      · rw [if_pos hqh]
        exact ⟨⟨fun _ => nI_none (by omega), fun _ => ⟨Or.inr hqh, hok⟩⟩, fun _ => ⟨rfl, p, hp, rfl⟩⟩
      · rw [if_neg hqh]
        have hno : ¬ ((nI p = nI hh ∨ nI q = nI hh) ∧ (¬ nI k = 5 ∨ nI s ≤ 10)) := fun z => z.1.elim hph hqh
        exact ⟨⟨fun z => absurd z hno, fun z => absurd rfl z⟩, fun z => absurd z hno⟩
theorem cSailOn_v {m : zm} {a w : Nat} (hw : w ≠ a) (c k : Nat) : (cSailOn m a w).1 c k = if c = a ∧ k = 4 then m.1 a 4 + cOwn m a w else if c = a ∧ k = 3 then m.1 a 3 + m.1 w 2 else if c = a ∧ k = 2 then cOther m w (m.1 a 2) else m.1 c k := by
  have e : cOwn (upI (upI m a 2 (cOther m w (m.1 a 2))) a 3 ((upI m a 2 (cOther m w (m.1 a 2))).1 a 3 + (upI m a 2 (cOther m w (m.1 a 2))).1 w 2)) a w = cOwn m a w := by
    unfold cOwn
    simp only [upI_na hw, upI_ne (show ¬ (a = a ∧ 0 = 3) by omega), upI_ne (show ¬ (a = a ∧ 0 = 2) by omega)]
  unfold cSailOn
  show (if c = a ∧ k = 4 then (upI (upI m a 2 (cOther m w (m.1 a 2))) a 3 ((upI m a 2 (cOther m w (m.1 a 2))).1 a 3 + (upI m a 2 (cOther m w (m.1 a 2))).1 w 2)).1 a 4 + cOwn (upI (upI m a 2 (cOther m w (m.1 a 2))) a 3 ((upI m a 2 (cOther m w (m.1 a 2))).1 a 3 + (upI m a 2 (cOther m w (m.1 a 2))).1 w 2)) a w else if c = a ∧ k = 3 then (upI m a 2 (cOther m w (m.1 a 2))).1 a 3 + (upI m a 2 (cOther m w (m.1 a 2))).1 w 2 else if c = a ∧ k = 2 then cOther m w (m.1 a 2) else m.1 c k) = _
  rw [e, upI_ne (show ¬ (a = a ∧ 4 = 3) by omega), upI_ne (show ¬ (a = a ∧ 4 = 2) by omega), upI_ne (show ¬ (a = a ∧ 3 = 2) by omega), upI_ne (show ¬ (w = a ∧ 2 = 2) from fun z => hw z.1)]
theorem mSail_v {m : zm} {p w : Nat} (c k : Nat) : (mSail m p w).1 c k = if c = 184 ∧ k = 36 + 8 * p + 1 then mEndOf m p w (mOf m p 1) else if c = 184 ∧ k = 36 + 8 * p + 4 then (mKp m).1 184 (36 + 8 * p + 4) + mAgesBy (mKp m) p w else if c = 184 ∧ k = 36 + 8 * p + 3 then (mKp m).1 184 (36 + 8 * p + 3) + mWy (mKp m) w 2 else (mKp m).1 c k := by
  show (if c = 184 ∧ k = 36 + 8 * p + 1 then mEndOf m p w (mOf m p 1) else (mAges (mKp m) p (mWy (mKp m) w 2) (mAgesBy (mKp m) p w)).1 c k) = _
  rw [mAges_v]
theorem mAgesBy_c {m m' : zm} {p w : Nat} (e : ∀ k, m'.1 184 k = m.1 184 k) : mAgesBy m' p w = mAgesBy m p w := by
  unfold mAgesBy mOf mWy
  simp only [e]
theorem mEndOf_c {m m' : zm} {p w : Nat} {f : Int32} (e : ∀ k, m'.1 184 k = m.1 184 k) : mEndOf m' p w f = mEndOf m p w f := by
  unfold mEndOf mTo mOf mWy
  simp only [e]
theorem cOwn_c {m m' : zm} {a w : Nat} (e1 : m'.1 a 0 = m.1 a 0) (e2 : ∀ k, m'.1 w k = m.1 w k) : cOwn m' a w = cOwn m a w := by
  unfold cOwn
  simp only [e1, e2]
/-- both sail -/
theorem sail_R {m m1 M : zm} {H W P j w : Nat} (h : Rel m) (hc : rCur m H W P) (ha : rAct m H P) (hj : j < P) (hw : w < W) (hg : cGo m j w) (hf : m.1 (25 + j) 3 + m.1 (17 + w) 2 ≤ 200) (hm1 : m1 = cSailOn (cKp m) (25 + j) (17 + w)) (hM : M = mSail (mT m1) j w) : Rel M ∧ mGoE (mT m1) j w = m1.1 (25 + j) 2 := by
  have hP := hc.1.1.2.2
  have hW8 := hc.1.1.2.1
  obtain ⟨o, s, ho, hs, es, eo, eo2⟩ := way_own hc hj hw
  obtain ⟨x1, x2⟩ := (go_iff hc hj hw).2 hg
  obtain ⟨x, hx, ex⟩ := x2
  have e1 : ∀ c k, m1.1 c k = if c = 25 + j ∧ k = 4 then m.1 (25 + j) 4 + nI o else if c = 25 + j ∧ k = 3 then m.1 (25 + j) 3 + nI s else if c = 25 + j ∧ k = 2 then nI x else (cKp m).1 c k := fun c k => by
    rw [hm1, cSailOn_v (by omega), cKp_n (by omega), cKp_n (by omega), cKp_n (by omega), cOwn_c (m := m) (cKp_n (by omega)) (fun k => cKp_n (by omega)), eo, es]
    have : cOther (cKp m) (17 + w) ((cKp m).1 (25 + j) 2) = nI x := by
      rw [← ex, ← x1]
      unfold cOther
      rw [cKp_n (by omega), cKp_n (by omega), cKp_n (by omega)]
    rw [this]
  have f1 : ∀ a k, ¬ (25 ≤ a ∧ a ≤ 28) → m1.1 a k = (cKp m).1 a k := fun a k q => by rw [e1, if_neg (by omega), if_neg (by omega), if_neg (by omega)]
  have t184 : ∀ k, (mT m1).1 184 k = m.1 184 k := fun k => by rw [upI_ne (by omega), f1 _ _ (by omega), cKp_n (by omega)]
  have eE : mEndOf (mT m1) j w (mOf (mT m1) j 1) = nI x := by
    rw [mEndOf_c t184, show mOf (mT m1) j 1 = mOf m j 1 from t184 _]
    exact ex
  have e2 : ∀ c k, M.1 c k = if c = 184 ∧ k = 36 + 8 * j + 1 then nI x else if c = 184 ∧ k = 36 + 8 * j + 4 then m.1 184 (36 + 8 * j + 4) + nI o else if c = 184 ∧ k = 36 + 8 * j + 3 then m.1 184 (36 + 8 * j + 3) + nI s else (mKp (mT m1)).1 c k := fun c k => by
    rw [hM, mSail_v, eE, K184 f1, K184 f1, mAgesBy_c (K184 f1), eo2, show mWy (mKp (mT m1)) w 2 = mWy m w 2 from K184 f1 _, show mWy m w 2 = nI s from (cur_way hc hw (by omega)).trans es]
  refine ⟨h.act2 hc ha f1 (fun a k q => by rw [e2, if_neg (by omega), if_neg (by omega), if_neg (by omega)]) (fun p hp => ⟨?_, fun k hk => ?_⟩), ?_⟩
  · obtain ⟨k, t, hh, c, g, n, y1, y2, y3, y4, y5, y6, z0, z1, z2, z3, z4, z5⟩ := (hc.1.2.2.2.2 p hp).1
    by_cases hpj : p = j
    · subst hpj
      have hcs : c + s ≤ 200 := by
        rw [z3, es, nI_add] at hf
        exact (nI_leI (b := 200) (by omega) (by omega)).mp hf
      refine ⟨k, t, x, c + s, g + o, n, y1, y2, hx, hcs, by omega, y6, ?_, ?_, ?_, ?_, ?_, ?_⟩
      · rw [e1, if_neg (by omega), if_neg (by omega), if_neg (by omega), cKp_n (by omega), z0]
      · rw [e1, if_neg (by omega), if_neg (by omega), if_neg (by omega), cKp_n (by omega), z1]
      · rw [e1, if_neg (by omega), if_neg (by omega), if_pos ⟨rfl, rfl⟩]
      · rw [e1, if_neg (by omega), if_pos ⟨rfl, rfl⟩, z3, nI_add]
      · rw [e1, if_pos ⟨rfl, rfl⟩, z4, nI_add]
      · rw [e1, if_neg (by omega), if_neg (by omega), if_neg (by omega), cKp_n (by omega), z5]
    · have eq : ∀ k, m1.1 (25 + p) k = m.1 (25 + p) k := fun k => by rw [e1, if_neg (by omega), if_neg (by omega), if_neg (by omega), cKp_n (by omega)]
      exact (hc.1.2.2.2.2 p hp).1.c eq
  · obtain ⟨i3, i4, -, -, -, i2, -, -⟩ := pm_i hk
    rw [e2, e1]
    by_cases hpj : p = j
    · subst hpj
      by_cases k1 : k = 1
      · subst k1
        rw [if_pos ⟨rfl, rfl⟩, if_neg (show ¬ (25 + p = 25 + p ∧ pm 1 = 4) from fun q => absurd q.2 (by decide)), if_neg (show ¬ (25 + p = 25 + p ∧ pm 1 = 3) from fun q => absurd q.2 (by decide)), if_pos ⟨rfl, rfl⟩]
      · rw [if_neg (by omega)]
        by_cases k4 : k = 4
        · subst k4
          rw [if_pos ⟨rfl, rfl⟩, if_pos ⟨rfl, rfl⟩]
          exact congrArg (· + nI o) (cur_per hc hp (k := 4) (by omega))
        · rw [if_neg (by omega), if_neg (show ¬ (25 + p = 25 + p ∧ pm k = 4) from fun q => k4 (i4.mp q.2))]
          by_cases k3 : k = 3
          · subst k3
            rw [if_pos ⟨rfl, rfl⟩, if_pos ⟨rfl, rfl⟩]
            exact congrArg (· + nI s) (cur_per hc hp (k := 3) (by omega))
          · rw [if_neg (by omega), if_neg (show ¬ (25 + p = 25 + p ∧ pm k = 3) from fun q => k3 (i3.mp q.2)), if_neg (show ¬ (25 + p = 25 + p ∧ pm k = 2) from fun q => k1 (i2.mp q.2)), K184 f1, cKp_n (by omega)]
            exact cur_per hc hp hk
    · rw [if_neg (by omega), if_neg (by omega), if_neg (by omega), if_neg (by omega), if_neg (by omega), if_neg (by omega), K184 f1, cKp_n (by omega)]
      exact cur_per hc hp hk
  · show mEndOf (mT m1) j w (mOf (mT m1) j 1) = _
    rw [eE, e1, if_neg (by omega), if_neg (by omega), if_pos ⟨rfl, rfl⟩]
theorem st_sail : ∀ m : zm, Rel m → ∀ a0 a1 : Int32, LawStp Rel zM_X7_sail zM_X8_sail m [.int a0, .int a1] := by
  intro m h p w
  by_cases hb : (p < 0 ∨ m.1 14 3 - 1 < p) ∨ (w < 0 ∨ m.1 14 2 - 1 < w)
  · exact stp_mk (ev_X7_sail_bad 7 m p w hb) (ev_X8_sail_bad 8 m p w (hb.imp (h.nob p).mp (h.now w).mp)) rfl h.t
  · have hn : ¬ (p < 0 ∨ m.1 14 3 - 1 < p) := fun q => hb (Or.inl q)
    have hn2 : ¬ (w < 0 ∨ m.1 14 2 - 1 < w) := fun q => hb (Or.inr q)
    obtain ⟨-, -, -, -, -, H, W, P, hc, ha⟩ := id h
    obtain ⟨j, hj, hj4, rfl⟩ := cur_some hc hn
    obtain ⟨v, hv, hv8, rfl⟩ := cur_wayn hc hn2
    have t184 : ∀ k, (mT m).1 184 k = m.1 184 k := fun k => upI_ne (by omega)
    have eE : mGoE (mT m) j v = mGoE m j v := by
      show mEndOf _ _ _ _ = mEndOf _ _ _ _
      rw [mEndOf_c t184, mOf_t]
    have eC : mOf (mT m) j 3 + mWy (mT m) v 2 = m.1 (25 + j) 3 + m.1 (17 + v) 2 := by
      rw [mOf_t, mWy_t, cur_per hc hj (by omega), show mWy m v 2 = m.1 (17 + v) 2 from cur_way hc hv (by omega)]
      rfl
    have n1 : ¬ (nI j < 0 ∨ m.1 184 3 - 1 < nI j) := fun q => hn ((h.nob _).mpr q)
    have n2 : ¬ (nI v < 0 ∨ m.1 184 2 - 1 < nI v) := fun q => hn2 ((h.now _).mpr q)
    by_cases hg : cGo m j v
    · by_cases hf : m.1 (25 + j) 3 + m.1 (17 + v) 2 ≤ 200
      · obtain ⟨r1, r2⟩ := sail_R h hc ha hj hv hg hf rfl rfl
        have f1 : ∀ a k, 144 ≤ a → (cSailOn (cKp m) (25 + j) (17 + v)).1 a k = m.1 a k := fun a k q => by rw [cSailOn_n (by omega), cKp_n (by omega)]
        have u184 : ∀ k, (mT (cSailOn (cKp m) (25 + j) (17 + v))).1 184 k = m.1 184 k := fun k => by rw [upI_ne (by omega), f1 _ _ (by omega)]
        have eE1 : mGoE (mT (cSailOn (cKp m) (25 + j) (17 + v))) j v = mGoE m j v := by
          show mEndOf _ _ _ _ = mEndOf _ _ _ _
          rw [mEndOf_c u184, show mOf (mT (cSailOn (cKp m) (25 + j) (17 + v))) j 1 = mOf m j 1 from u184 _]
        have hml := ev_X8_sail_ok 8 (cSailOn (cKp m) (25 + j) (17 + v)) j v (by rw [f1 184 3 (by omega)]; exact n1) (by rw [f1 184 2 (by omega)]; exact n2) (by rw [eE1]; exact (go_iff hc hj hv).1.mp hg) (by rw [show mOf (mT (cSailOn (cKp m) (25 + j) (17 + v))) j 3 = mOf (mT m) j 3 from (u184 _).trans (t184 _).symm, show mWy (mT (cSailOn (cKp m) (25 + j) (17 + v))) v 2 = mWy (mT m) v 2 from (u184 _).trans (t184 _).symm, eC]; exact hf) (mAOk_t (m := m) (by rw [upI_ne (by omega), f1 _ _ (by omega)]) ha.2.1) hj4 hv8
        exact stp_mk (ev_X7_sail_ok 7 m j v hn hn2 hg hf ha.1 hj4 hv8) hml r2 r1
      · exact stp_mk (ev_X7_sail_full 7 m j v hn hn2 hg hf hj4 hv8) (ev_X8_sail_full 8 m j v n1 n2 (by rw [eE]; exact (go_iff hc hj hv).1.mp hg) (by rw [eC]; exact hf) hj4 hv8) rfl h.t
    · exact stp_mk (ev_X7_sail_state 7 m j v hn hn2 hg hj4 hv8) (ev_X8_sail_state 8 m j v n1 n2 (by rw [eE]; exact Classical.byContradiction (fun q => hg ((go_iff hc hj hv).1.mpr q))) hj4 hv8) rfl h.t
