/-! ===== pure: acts are kept alike ===== -/
theorem cCpy_v {m : zm} {a b n c k : Nat} : (cCpy m a b n).1 c k = if c = a ∧ k < n then m.1 b k else m.1 c k := rfl
theorem cPers_v {m : zm} {x y k : Nat} (h : x + 4 ≤ y ∨ y + 4 ≤ x) (hk : k < 8) (p : Nat) (hp : p < 4) : (cPers m x y).1 (x + p) k = m.1 (y + p) k := by
  match p, hp with
  | 0, _ =>
    unfold cPers
    rw [cCpy_n (by omega), cCpy_n (by omega), cCpy_n (by omega), cCpy_e (by omega)]
    rfl
  | 1, _ =>
    unfold cPers
    rw [cCpy_n (by omega), cCpy_n (by omega), cCpy_e (by omega), cCpy_n (by omega)]
  | 2, _ =>
    unfold cPers
    rw [cCpy_n (by omega), cCpy_e (by omega), cCpy_n (by omega), cCpy_n (by omega)]
  | 3, _ =>
    unfold cPers
    rw [cCpy_e (by omega), cCpy_n (by omega), cCpy_n (by omega), cCpy_n (by omega)]
  | p + 4, h => exact absurd h (by omega)
/-- the slot into which the class keeps -/
def slot (m : zm) : Nat := if aK m = 24 then aO m else (aO m + aK m) % 24
theorem cKp_v {m : zm} (h : aOk m) (p k : Nat) (hp : p < 4) (hk : k < 8) : (cKp m).1 (48 + slot m * 4 + p) k = m.1 (25 + p) k := by
  obtain ⟨h1, h2, h3, h4⟩ := h
  unfold cKp cKeep slot
  by_cases q : aK m = 24
  · rw [if_pos q, if_pos q]
    unfold cKeep1
    rw [show ((aO m + 1) % 24 + 23) % 24 = aO m by omega, upI_ne (by omega), cPers_v (by omega) hk p hp, upI_ne (by omega), upI_ne (by omega)]
  · rw [if_neg q, if_neg q]
    unfold cKeep1
    rw [upI_ne (by omega), cPers_v (by omega) hk p hp]
theorem cKp_o {m : zm} (h : aOk m) (a k : Nat) (ha : 48 ≤ a) (hs : a < 48 + slot m * 4 ∨ 48 + slot m * 4 + 4 ≤ a) : (cKp m).1 a k = m.1 a k := by
  obtain ⟨h1, h2, h3, h4⟩ := h
  unfold cKp cKeep slot at *
  by_cases q : aK m = 24
  · rw [if_pos q] at hs ⊢
    rw [show ((aO m + 1) % 24 + 23) % 24 = aO m by omega, cKeep1_n (by omega) (by omega), upI_ne (by omega), upI_ne (by omega)]
  · rw [if_neg q] at hs ⊢
    rw [cKeep1_n (by omega) (by omega)]
theorem cKp_p {m : zm} (h : aOk m) (a k : Nat) (ha : a < 46 ∨ a = 47 ∨ 144 ≤ a) : (cKp m).1 a k = m.1 a k := cKp_n ha
theorem mKp_v {m : zm} (k : Nat) : (mKp m).1 186 k = if mA m = 24 then (if 1564 ≤ k ∧ k < 1632 then m.1 184 (k - 1564) else if k < 1564 then m.1 186 (k + 68) else m.1 186 k) else if 68 * mA m ≤ k ∧ k < 68 * mA m + 68 then m.1 184 (k - 68 * mA m) else m.1 186 k := by
  show (mKeep m (mA m)).1 186 k = _
  unfold mKeep
  by_cases q : mA m = 24
  · rw [if_pos q, if_pos q]
    unfold mKeep1
    rw [upI_ne (by omega)]
    show (if 186 = 186 ∧ 68 * 23 ≤ k ∧ k < 68 * 23 + 68 then (upI (mSh m 1564) 180 8 (nI 23)).1 184 (0 + (k - 68 * 23)) else (upI (mSh m 1564) 180 8 (nI 23)).1 186 k) = _
    rw [upI_ne (by omega), upI_ne (by omega)]
    show (if 186 = 186 ∧ 68 * 23 ≤ k ∧ k < 68 * 23 + 68 then (if 184 = 186 ∧ 0 + (k - 68 * 23) < 1564 then m.1 186 (0 + (k - 68 * 23) + 68) else m.1 184 (0 + (k - 68 * 23))) else (if 186 = 186 ∧ k < 1564 then m.1 186 (k + 68) else m.1 186 k)) = _
    by_cases q2 : 1564 ≤ k ∧ k < 1632
    · rw [if_pos (by omega), if_neg (by omega), if_pos q2, Nat.zero_add]
    · rw [if_neg (by omega), if_neg q2]
      by_cases q3 : k < 1564
      · rw [if_pos ⟨rfl, q3⟩, if_pos q3]
      · rw [if_neg (by omega), if_neg q3]
  · rw [if_neg q, if_neg q]
    unfold mKeep1
    rw [upI_ne (by omega)]
    show (if 186 = 186 ∧ 68 * mA m ≤ k ∧ k < 68 * mA m + 68 then m.1 184 (0 + (k - 68 * mA m)) else m.1 186 k) = _
    by_cases q2 : 68 * mA m ≤ k ∧ k < 68 * mA m + 68
    · rw [if_pos ⟨rfl, q2⟩, if_pos q2, Nat.zero_add]
    · rw [if_neg (fun z => q2 z.2), if_neg q2]
theorem mKp_8 {m : zm} : (mKp m).1 180 8 = nI (if mA m = 24 then 24 else mA m + 1) := by
  show (mKeep m (mA m)).1 180 8 = _
  unfold mKeep mKeep1
  by_cases q : mA m = 24
  · rw [if_pos q, if_pos q, upI_eq]
  · rw [if_neg q, if_neg q, upI_eq]
theorem mKp_c {m m' : zm} (e1 : ∀ k, m'.1 184 k = m.1 184 k) (e2 : ∀ k, m'.1 186 k = m.1 186 k) (e3 : m'.1 180 8 = m.1 180 8) : (∀ k, (mKp m').1 186 k = (mKp m).1 186 k) ∧ (mKp m').1 180 8 = (mKp m).1 180 8 := by
  have h := mA_c e3
  refine ⟨fun k => ?_, by rw [mKp_8, mKp_8, h]⟩
  rw [mKp_v, mKp_v, h, e1, e1, e2, e2]
/-- one more act, on both sides -/
theorem act_push {m M : zm} {H W P : Nat} (hc : rCur m H W P) (h : rAct m H P) (e1 : M.1 46 1 = (cKp m).1 46 1) (e2 : M.1 46 2 = (cKp m).1 46 2) (e3 : ∀ a k, 48 ≤ a → a ≤ 143 → M.1 a k = (cKp m).1 a k) (e4 : M.1 180 8 = (mKp m).1 180 8) (e5 : ∀ k, M.1 186 k = (mKp m).1 186 k) (e6 : ∀ k, k < 36 → M.1 184 k = m.1 184 k) : rAct M H P := by
  obtain ⟨h1, h2, h3, h4⟩ := h
  obtain ⟨k1, k2, k3⟩ := cKp_ok h1
  have hP : P ≤ 4 := hc.1.1.2.2
  have f1 : aO M = aO (cKp m) := aO_c e1
  have f2 : aK M = aK (cKp m) := aK_c e2
  have f3 : mA M = (if mA m = 24 then 24 else mA m + 1) := by
    unfold mA at *
    rw [e4, mKp_8, nI_clamp]
    · rfl
    · have := h2.2
      unfold mA at this
      unfold mA
      split <;> omega
  have hK := h1.2.2.2
  have hO := h1.2.2.1
  refine ⟨?_, ⟨?_, by rw [f3, ← h3]; split <;> omega⟩, by rw [f2, k3, f3, h3], fun j hj => ?_⟩
  · unfold aOk
    rw [f1, f2, e1, e2]
    exact k1
  · rw [f3, e4, mKp_8]
  · rw [f2, k3] at hj
    rw [f1, k2]
    by_cases q : aK m = 24
    · rw [if_pos q] at hj ⊢
      have hs : slot m = aO m := if_pos q
      have hm : mA m = 24 := h3 ▸ q
      by_cases hj23 : j = 23
      · subst hj23
        rw [show ((aO m + 1) % 24 + 23) % 24 = aO m by omega]
        refine ⟨fun k hk => by rw [e5, mKp_v, if_pos hm, if_pos (by omega), e6 k hk, show 68 * 23 + k - 1564 = k by omega], fun p hp => ?_⟩
        have ev : ∀ k, k < 8 → M.1 (48 + aO m * 4 + p) k = m.1 (25 + p) k := fun k hk => by
          rw [e3 _ _ (by omega) (by omega), ← hs]
          exact cKp_v h1 p k (by omega) hk
        obtain ⟨⟨x1, x2, x3, x4, x5, x6, y1, y2, y3, y4, y5, y6, z0, z1, z2, z3, z4, z5⟩, qq⟩ := hc.1.2.2.2.2 p hp
        refine ⟨⟨x1, x2, x3, x4, x5, x6, y1, y2, y3, y4, y5, y6, by rw [ev 0 (by omega), z0], by rw [ev 1 (by omega), z1], by rw [ev 2 (by omega), z2], by rw [ev 3 (by omega), z3], by rw [ev 4 (by omega), z4], by rw [ev 5 (by omega), z5]⟩, fun k hk => ?_⟩
        rw [e5, mKp_v, if_pos hm, if_pos (by omega), ev _ (pm8 hk), ← cur_per hc hp hk, show 68 * 23 + 36 + 8 * p + k - 1564 = 36 + 8 * p + k by omega]
        rfl
      · obtain ⟨w1, w2⟩ := h4 (j + 1) (by omega)
        have hsl : ((aO m + 1) % 24 + j) % 24 = (aO m + (j + 1)) % 24 := by omega
        rw [hsl]
        refine ⟨fun k hk => by rw [e5, mKp_v, if_pos hm, if_neg (by omega), if_pos (by omega), e6 k hk, show 68 * j + k + 68 = 68 * (j + 1) + k by omega]; exact w1 k hk, fun p hp => ?_⟩
        obtain ⟨v1, v2⟩ := w2 p hp
        have ev : ∀ k, M.1 (48 + (aO m + (j + 1)) % 24 * 4 + p) k = m.1 (48 + (aO m + (j + 1)) % 24 * 4 + p) k := fun k => by
          rw [e3 _ _ (by omega) (by omega)]
          exact cKp_o h1 _ k (by omega) (by rw [hs]; omega)
        refine ⟨v1.c ev, fun k hk => ?_⟩
        rw [e5, mKp_v, if_pos hm, if_neg (by omega), if_pos (by omega), ev, show 68 * j + 36 + 8 * p + k + 68 = 68 * (j + 1) + 36 + 8 * p + k by omega]
        exact v2 k hk
    · rw [if_neg q] at hj ⊢
      have hs : slot m = (aO m + aK m) % 24 := if_neg q
      have hm : ¬ mA m = 24 := fun z => q (h3.trans z)
      by_cases hjA : j = aK m
      · subst hjA
        refine ⟨fun k hk => by rw [e5, mKp_v, if_neg hm, if_pos (by omega), e6 k hk, show 68 * aK m + k - 68 * mA m = k by omega], fun p hp => ?_⟩
        have ev : ∀ k, k < 8 → M.1 (48 + (aO m + aK m) % 24 * 4 + p) k = m.1 (25 + p) k := fun k hk => by
          rw [e3 _ _ (by omega) (by omega), ← hs]
          exact cKp_v h1 p k (by omega) hk
        obtain ⟨⟨x1, x2, x3, x4, x5, x6, y1, y2, y3, y4, y5, y6, z0, z1, z2, z3, z4, z5⟩, qq⟩ := hc.1.2.2.2.2 p hp
        refine ⟨⟨x1, x2, x3, x4, x5, x6, y1, y2, y3, y4, y5, y6, by rw [ev 0 (by omega), z0], by rw [ev 1 (by omega), z1], by rw [ev 2 (by omega), z2], by rw [ev 3 (by omega), z3], by rw [ev 4 (by omega), z4], by rw [ev 5 (by omega), z5]⟩, fun k hk => ?_⟩
        rw [e5, mKp_v, if_neg hm, if_pos (by omega), ev _ (pm8 hk), ← cur_per hc hp hk, show 68 * aK m + 36 + 8 * p + k - 68 * mA m = 36 + 8 * p + k by omega]
        rfl
      · obtain ⟨w1, w2⟩ := h4 j (by omega)
        refine ⟨fun k hk => by rw [e5, mKp_v, if_neg hm, if_neg (by omega), e6 k hk]; exact w1 k hk, fun p hp => ?_⟩
        obtain ⟨v1, v2⟩ := w2 p hp
        have ev : ∀ k, M.1 (48 + (aO m + j) % 24 * 4 + p) k = m.1 (48 + (aO m + j) % 24 * 4 + p) k := fun k => by
          rw [e3 _ _ (by omega) (by omega)]
          exact cKp_o h1 _ k (by omega) (by rw [hs]; omega)
        refine ⟨v1.c ev, fun k hk => ?_⟩
        rw [e5, mKp_v, if_neg hm, if_neg (by omega), ev]
        exact v2 k hk
/-- the league behind a change of its people -/
theorem cur_upd {m M : zm} {H W P : Nat} (h : rCur m H W P) (e1 : ∀ a k, 14 ≤ a → a < 25 → M.1 a k = m.1 a k) (e2 : ∀ k, k < 36 → M.1 184 k = m.1 184 k) (e3 : M.1 0 6 = m.1 0 6) (e4 : ∀ p, p < P → PerOk M (25 + p) H ∧ ∀ k, k < 8 → M.1 184 (36 + 8 * p + k) = M.1 (25 + p) (pm k)) : rCur M H W P := by
  obtain ⟨⟨h1, ⟨h2, h3, h4, r, h5, h6⟩, h7, h8, h9⟩, h10⟩ := h
  refine ⟨⟨h1, ⟨by rw [e1 _ _ (by omega) (by omega)]; exact h2, by rw [e1 _ _ (by omega) (by omega)]; exact h3, by rw [e1 _ _ (by omega) (by omega)]; exact h4, r, h5, by rw [e1 _ _ (by omega) (by omega)]; exact h6⟩, fun k hk => by rw [e1 14 k (by omega) (by omega), e2 (0 + k) (by omega)]; exact h7 k hk, fun w hw => ?_, fun p hp => ?_⟩, by rw [e3]; exact h10⟩
  · obtain ⟨q1, q2⟩ := h8 w hw
    refine ⟨q1.c (fun k => e1 _ k (by omega) (by omega)), fun k hk => ?_⟩
    rw [e2 _ (by omega), e1 _ _ (by omega) (by omega)]
    exact q2 k hk
  · obtain ⟨q1, q2⟩ := e4 p hp
    refine ⟨q1, fun k hk => ?_⟩
    rw [show 0 + 36 + 8 * p + k = 36 + 8 * p + k by omega]
    exact q2 k hk
/-- an act: the people change, one act more is kept -/
theorem Rel.act {m M : zm} {H W P : Nat} (h : Rel m) (hc : rCur m H W P) (ha : rAct m H P) (e : ∀ a k, ¬ (25 ≤ a ∧ a ≤ 28) → ¬ a = 46 → ¬ (48 ≤ a ∧ a ≤ 143) → ¬ (a = 180 ∧ (k = 0 ∨ k = 8)) → ¬ (a = 184 ∧ 36 ≤ k) → ¬ a = 186 → M.1 a k = m.1 a k) (e1 : M.1 46 1 = (cKp m).1 46 1) (e2 : M.1 46 2 = (cKp m).1 46 2) (e3 : ∀ a k, 48 ≤ a → a ≤ 143 → M.1 a k = (cKp m).1 a k) (e4 : M.1 180 8 = (mKp m).1 180 8) (e5 : ∀ k, M.1 186 k = (mKp m).1 186 k) (e6 : ∀ p, p < P → PerOk M (25 + p) H ∧ ∀ k, k < 8 → M.1 184 (36 + 8 * p + k) = M.1 (25 + p) (pm k)) : Rel M := by
  obtain ⟨h1, h2, h3, h4, h5, -⟩ := h
  have eb : ∀ a k, (a < 25 ∨ (144 ≤ a ∧ a < 184) ∨ 187 ≤ a) → ¬ (a = 180 ∧ (k = 0 ∨ k = 8)) → M.1 a k = m.1 a k := fun a k q1 q2 => e a k (by omega) (by omega) (by omega) q2 (by omega) (by omega)
  refine ⟨⟨?_, ?_⟩, h2.c (fun a k q => eb a k (by omega) (by omega)), h3.c (eb _ _ (by omega) (by omega)) (eb _ _ (by omega) (by omega)) (fun k => eb _ k (by omega) (by omega)) (fun k => eb _ k (by omega) (by omega)), h4.c (fun a k q => ?_) (eb _ _ (by omega) (by omega)), h5.c (fun a k q => eb a k (by omega) (by omega)) (eb _ _ (by omega) (by omega)), H, W, P, cur_upd hc (fun a k q1 q2 => eb a k (by omega) (by omega)) (fun k hk => e 184 k (by omega) (by omega) (by omega) (by omega) (by omega) (by omega)) (eb _ _ (by omega) (by omega)) e6, act_push hc ha e1 e2 e3 e4 e5 (fun k hk => e 184 k (by omega) (by omega) (by omega) (by omega) (by omega) (by omega))⟩
  · rw [eb 0 3 (by omega) (by omega), eb 180 1 (by omega) (by omega)]
    exact h1.1
  · rw [eb 0 5 (by omega) (by omega), eb 180 11 (by omega) (by omega)]
    exact h1.2
  · by_cases q45 : a = 45
    · exact e a k (by omega) (by omega) (by omega) (by omega) (by omega) (by omega)
    · exact eb a k (by omega) (by omega)
