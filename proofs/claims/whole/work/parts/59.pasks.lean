/-! ===== pure: asks ===== -/
def cB (bs : List Int32) (m : zm) : zm := bs.foldl cBegan m
def mB (bs : List Int32) (m : zm) : zm := bs.foldl mBegan m
theorem cB_tr : ∀ (bs : List Int32) (m : zm) (g : Nat), m.1 148 1 = nI g → g + bs.length ≤ 16 → (cB bs m).1 148 1 = nI (g + bs.length) ∧ (∀ i, i < g → (cB bs m).1 149 i = m.1 149 i) ∧ (∀ i, i < bs.length → some ((cB bs m).1 149 (g + i)) = bs[i]?) ∧ ∀ a k, ¬ (a = 148 ∧ k = 1) → a ≠ 149 → (cB bs m).1 a k = m.1 a k := by
  intro bs
  induction bs with
  | nil => intro m g h _; exact ⟨h, fun i _ => rfl, fun i hi => absurd hi (by simp), fun a k _ _ => rfl⟩
  | cons b bs ih =>
    intro m g h hl
    have hl2 : g + bs.length + 1 ≤ 16 := by simpa [Nat.add_assoc] using hl
    have hb : cBegan m b = upI (upI m 149 g b) 148 1 (nI (g + 1)) := by
      unfold cBegan
      rw [if_neg (by rw [h]; exact fun q => absurd ((nI_leI (a := 16) (by omega) (by omega)).mp q) (by omega)), h, nI_clamp (by omega), nI_1]
    have e1 : (cBegan m b).1 148 1 = nI (g + 1) := by rw [hb, upI_eq]
    obtain ⟨q1, q2, q3, q4⟩ := ih (cBegan m b) (g + 1) e1 (by omega)
    have hf : cB (b :: bs) m = cB bs (cBegan m b) := rfl
    rw [hf]
    refine ⟨by rw [q1, List.length_cons]; congr 1; omega, fun i hi => ?_, fun i hi => ?_, fun a k h1 h2 => ?_⟩
    · rw [q2 i (by omega), hb, upI_ne (by omega), upI_ne (by omega)]
    · match i, hi with
      | 0, _ =>
        rw [Nat.add_zero, q2 g (by omega), hb, upI_ne (by omega), upI_eq]
        rfl
      | i + 1, hi =>
        have := q3 i (by simpa using hi)
        rw [show g + (i + 1) = g + 1 + i by omega, this]
        rfl
    · rw [q4 a k h1 h2, hb, upI_ne h1, upI_ne (fun q => h2 q.1)]
theorem mB_tr : ∀ (bs : List Int32) (m : zm) (g : Nat), m.1 180 24 = nI g → g + bs.length ≤ 16 → (mB bs m).1 180 24 = nI (g + bs.length) ∧ (∀ i, i < g → (mB bs m).1 192 i = m.1 192 i) ∧ (∀ i, i < bs.length → some ((mB bs m).1 192 (g + i)) = bs[i]?) ∧ ∀ a k, ¬ (a = 180 ∧ k = 24) → a ≠ 192 → (mB bs m).1 a k = m.1 a k := by
  intro bs
  induction bs with
  | nil => intro m g h _; exact ⟨h, fun i _ => rfl, fun i hi => absurd hi (by simp), fun a k _ _ => rfl⟩
  | cons b bs ih =>
    intro m g h hl
    have hl2 : g + bs.length + 1 ≤ 16 := by simpa [Nat.add_assoc] using hl
    have hb : mBegan m b = upI (upI m 192 g b) 180 24 (nI (g + 1)) := by
      unfold mBegan
      rw [if_neg (by rw [h]; exact fun q => absurd ((nI_leI (a := 16) (by omega) (by omega)).mp q) (by omega)), h, nI_clamp (by omega), nI_1]
    have e1 : (mBegan m b).1 180 24 = nI (g + 1) := by rw [hb, upI_eq]
    obtain ⟨q1, q2, q3, q4⟩ := ih (mBegan m b) (g + 1) e1 (by omega)
    have hf : mB (b :: bs) m = mB bs (mBegan m b) := rfl
    rw [hf]
    refine ⟨by rw [q1, List.length_cons]; congr 1; omega, fun i hi => ?_, fun i hi => ?_, fun a k h1 h2 => ?_⟩
    · rw [q2 i (by omega), hb, upI_ne (by omega), upI_ne (by omega)]
    · match i, hi with
      | 0, _ =>
        rw [Nat.add_zero, q2 g (by omega), hb, upI_ne (by omega), upI_eq]
        rfl
      | i + 1, hi =>
        have := q3 i (by simpa using hi)
        rw [show g + (i + 1) = g + 1 + i by omega, this]
        rfl
    · rw [q4 a k h1 h2, hb, upI_ne h1, upI_ne (fun q => h2 q.1)]
theorem ask_R {m : zm} {bs : List Int32} (h : Rel m) (hb : bs.length ≤ 16) : Rel (mB bs (mAsk0 (cB bs (upI m 148 1 0)))) := by
  obtain ⟨c1, c2, c3, c4⟩ := cB_tr bs (upI m 148 1 0) 0 (upI_eq _ _ _ _) (by omega)
  obtain ⟨d1, d2, d3, d4⟩ := mB_tr bs (mAsk0 (cB bs (upI m 148 1 0))) 0 (upI_eq _ _ _ _) (by omega)
  have e : ∀ a k, ¬ (a = 148 ∧ k = 1) → ¬ a = 149 → ¬ a = 192 → ¬ (a = 180 ∧ (k = 0 ∨ k = 24)) → (mB bs (mAsk0 (cB bs (upI m 148 1 0)))).1 a k = m.1 a k := fun a k h1 h2 h3 h4 => by
    rw [d4 a k (by omega) h3, upI_ne (by omega), upI_ne (by omega), c4 a k h1 h2, upI_ne h1]
  obtain ⟨h1, h2, h3, h4, h5, H, W, P, h6, h7⟩ := h
  refine ⟨⟨?_, ?_⟩, h2.c (fun a k q => e a k (by omega) (by omega) (by omega) (by omega)), h3.c (e _ _ (by omega) (by omega) (by omega) (by omega)) (e _ _ (by omega) (by omega) (by omega) (by omega)) (fun k => e _ k (by omega) (by omega) (by omega) (by omega)) (fun k => e _ k (by omega) (by omega) (by omega) (by omega)), h4.c (fun a k q => e a k (by omega) (by omega) (by omega) (by omega)) (e _ _ (by omega) (by omega) (by omega) (by omega)), ⟨bs.length, hb, ?_, ?_, fun i hi => ?_⟩, H, W, P, h6.c (fun a k q => e a k (by omega) (by omega) (by omega) (by omega)) (e _ _ (by omega) (by omega) (by omega) (by omega)), h7.c h6.1.1.2.2 (fun a k q => e a k (by omega) (by omega) (by omega) (by omega)) (fun k _ => e _ k (by omega) (by omega) (by omega) (by omega)) (e _ _ (by omega) (by omega) (by omega) (by omega))⟩
  · rw [e 0 3 (by omega) (by omega) (by omega) (by omega), e 180 1 (by omega) (by omega) (by omega) (by omega)]
    exact h1.1
  · rw [e 0 5 (by omega) (by omega) (by omega) (by omega), e 180 11 (by omega) (by omega) (by omega) (by omega)]
    exact h1.2
  · rw [d4 148 1 (by omega) (by omega), upI_ne (by omega), upI_ne (by omega), c1, Nat.zero_add]
  · rw [d1, Nat.zero_add]
  · have x1 := c3 i hi
    have x2 := d3 i hi
    rw [Nat.zero_add] at x1 x2
    rw [d4 149 i (by omega) (by omega), upI_ne (by omega), upI_ne (by omega)]
    exact Option.some.inj (x1.trans x2.symm)
theorem per_is {j : Nat} (hj : j < 4) : isPer (25 + j) := isLea_14.2.2.2.2.2.2 j hj
theorem ask_c1 {m : zm} {a : Nat} {g h n : Int32} (ha : isPer a) (e0 : m.1 a 0 = 1) (e2 : m.1 a 2 = h) (e4 : m.1 a 4 = g) : cSz m a n = g + (n + h) ∧ cSzM m a = cB [11, 10, 21, 20] m ∧ (if m.1 a 0 = 4 ∨ m.1 a 0 = 5 then n - cSz m a n else cMk m a n) = n + h ∧ (if m.1 a 0 = 4 ∨ m.1 a 0 = 5 then cSzM (cBegan (cBegan m 23) 20) a else cMkM m a) = cB [21, 20] m := by
  refine ⟨?_, ?_, ?_, ?_⟩ <;> simp [cSz, cSzM, cMk, cMkM, began_f ha, e0, e2, e4, cB]
theorem ask_m1 {m : zm} {p : Nat} {g h n : Int32} (e0 : mOf m p 0 = 1) (e2 : mOf m p 1 = h) (e4 : mOf m p 4 = g) : mSzR m p n = g + (n + h) ∧ mSzM m p = mB [11, 10, 21, 20] m ∧ mMkR m p n = n + h ∧ mMkM m p = mB [21, 20] m := by
  refine ⟨?_, ?_, ?_, ?_⟩ <;> simp [mSzR, mSzM, mMkR, mMkM, mClR, mClM, mof_b, e0, e2, e4, mB, show ((1 : Int32) < 4) = True by decide, show ((2 : Int32) < 4) = True by decide, show ((3 : Int32) < 4) = True by decide, show ((4 : Int32) < 4) = False by decide, show ((5 : Int32) < 4) = False by decide]
theorem ask_c2 {m : zm} {a : Nat} {g h n : Int32} (ha : isPer a) (e0 : m.1 a 0 = 2) (e2 : m.1 a 2 = h) (e4 : m.1 a 4 = g) : cSz m a n = -(g + 2 * (n + h)) ∧ cSzM m a = cB [12, 11, 10, 24, 21, 20] m ∧ (if m.1 a 0 = 4 ∨ m.1 a 0 = 5 then n - cSz m a n else cMk m a n) = 2 * (n + h) ∧ (if m.1 a 0 = 4 ∨ m.1 a 0 = 5 then cSzM (cBegan (cBegan m 23) 20) a else cMkM m a) = cB [24, 21, 20] m := by
  refine ⟨?_, ?_, ?_, ?_⟩ <;> simp [cSz, cSzM, cMk, cMkM, began_f ha, e0, e2, e4, cB]
theorem ask_m2 {m : zm} {p : Nat} {g h n : Int32} (e0 : mOf m p 0 = 2) (e2 : mOf m p 1 = h) (e4 : mOf m p 4 = g) : mSzR m p n = -(g + 2 * (n + h)) ∧ mSzM m p = mB [12, 11, 10, 24, 21, 20] m ∧ mMkR m p n = 2 * (n + h) ∧ mMkM m p = mB [24, 21, 20] m := by
  refine ⟨?_, ?_, ?_, ?_⟩ <;> simp [mSzR, mSzM, mMkR, mMkM, mClR, mClM, mof_b, e0, e2, e4, mB, show ((1 : Int32) < 4) = True by decide, show ((2 : Int32) < 4) = True by decide, show ((3 : Int32) < 4) = True by decide, show ((4 : Int32) < 4) = False by decide, show ((5 : Int32) < 4) = False by decide]
theorem ask_c3 {m : zm} {a : Nat} {g h n : Int32} (ha : isPer a) (e0 : m.1 a 0 = 3) (e2 : m.1 a 2 = h) (e4 : m.1 a 4 = g) : cSz m a n = g + (n + h - 1000) ∧ cSzM m a = cB [11, 10, 22, 21, 20] m ∧ (if m.1 a 0 = 4 ∨ m.1 a 0 = 5 then n - cSz m a n else cMk m a n) = n + h - 1000 ∧ (if m.1 a 0 = 4 ∨ m.1 a 0 = 5 then cSzM (cBegan (cBegan m 23) 20) a else cMkM m a) = cB [22, 21, 20] m := by
  refine ⟨?_, ?_, ?_, ?_⟩ <;> simp [cSz, cSzM, cMk, cMkM, began_f ha, e0, e2, e4, cB]
theorem ask_m3 {m : zm} {p : Nat} {g h n : Int32} (e0 : mOf m p 0 = 3) (e2 : mOf m p 1 = h) (e4 : mOf m p 4 = g) : mSzR m p n = g + (n + h - 1000) ∧ mSzM m p = mB [11, 10, 22, 21, 20] m ∧ mMkR m p n = n + h - 1000 ∧ mMkM m p = mB [22, 21, 20] m := by
  refine ⟨?_, ?_, ?_, ?_⟩ <;> simp [mSzR, mSzM, mMkR, mMkM, mClR, mClM, mof_b, e0, e2, e4, mB, show ((1 : Int32) < 4) = True by decide, show ((2 : Int32) < 4) = True by decide, show ((3 : Int32) < 4) = True by decide, show ((4 : Int32) < 4) = False by decide, show ((5 : Int32) < 4) = False by decide]
theorem ask_c4 {m : zm} {a : Nat} {g h n : Int32} (ha : isPer a) (e0 : m.1 a 0 = 4) (e2 : m.1 a 2 = h) (e4 : m.1 a 4 = g) : cSz m a n = g - 100 ∧ cSzM m a = cB [13, 10] m ∧ (if m.1 a 0 = 4 ∨ m.1 a 0 = 5 then n - cSz m a n else cMk m a n) = n - (g - 100) ∧ (if m.1 a 0 = 4 ∨ m.1 a 0 = 5 then cSzM (cBegan (cBegan m 23) 20) a else cMkM m a) = cB [23, 20, 13, 10] m := by
  refine ⟨?_, ?_, ?_, ?_⟩ <;> simp [cSz, cSzM, cMk, cMkM, began_f ha, e0, e2, e4, cB]
theorem ask_m4 {m : zm} {p : Nat} {g h n : Int32} (e0 : mOf m p 0 = 4) (e2 : mOf m p 1 = h) (e4 : mOf m p 4 = g) : mSzR m p n = g - 100 ∧ mSzM m p = mB [13, 10] m ∧ mMkR m p n = n - (g - 100) ∧ mMkM m p = mB [23, 20, 13, 10] m := by
  refine ⟨?_, ?_, ?_, ?_⟩ <;> simp [mSzR, mSzM, mMkR, mMkM, mClR, mClM, mof_b, e0, e2, e4, mB, show ((1 : Int32) < 4) = True by decide, show ((2 : Int32) < 4) = True by decide, show ((3 : Int32) < 4) = True by decide, show ((4 : Int32) < 4) = False by decide, show ((5 : Int32) < 4) = False by decide]
theorem ask_c5 {m : zm} {a : Nat} {g h n : Int32} (ha : isPer a) (e0 : m.1 a 0 = 5) (e2 : m.1 a 2 = h) (e4 : m.1 a 4 = g) : cSz m a n = 2 * (g - 100) ∧ cSzM m a = cB [14, 13, 10] m ∧ (if m.1 a 0 = 4 ∨ m.1 a 0 = 5 then n - cSz m a n else cMk m a n) = n - 2 * (g - 100) ∧ (if m.1 a 0 = 4 ∨ m.1 a 0 = 5 then cSzM (cBegan (cBegan m 23) 20) a else cMkM m a) = cB [23, 20, 14, 13, 10] m := by
  refine ⟨?_, ?_, ?_, ?_⟩ <;> simp [cSz, cSzM, cMk, cMkM, began_f ha, e0, e2, e4, cB]
theorem ask_m5 {m : zm} {p : Nat} {g h n : Int32} (e0 : mOf m p 0 = 5) (e2 : mOf m p 1 = h) (e4 : mOf m p 4 = g) : mSzR m p n = 2 * (g - 100) ∧ mSzM m p = mB [14, 13, 10] m ∧ mMkR m p n = n - 2 * (g - 100) ∧ mMkM m p = mB [23, 20, 14, 13, 10] m := by
  refine ⟨?_, ?_, ?_, ?_⟩ <;> simp [mSzR, mSzM, mMkR, mMkM, mClR, mClM, mof_b, e0, e2, e4, mB, show ((1 : Int32) < 4) = True by decide, show ((2 : Int32) < 4) = True by decide, show ((3 : Int32) < 4) = True by decide, show ((4 : Int32) < 4) = False by decide, show ((5 : Int32) < 4) = False by decide]
theorem st_ask : ∀ m : zm, Rel m → ∀ a0 a1 : Int32, LawStp Rel zM_X7_ask zM_X8_ask m [.int a0, .int a1] := by
  intro m h p z
  by_cases hb : (p < 0 ∨ m.1 14 3 - 1 < p) ∨ (z < 0 ∨ 1 < z)
  · exact stp_mk (ev_X7_ask_bad 4 m p z hb) (ev_X8_ask_bad 6 m p z (hb.imp (h.nob p).mp id)) rfl h.t
  · have hn : ¬ (p < 0 ∨ m.1 14 3 - 1 < p) := fun q => hb (Or.inl q)
    have hz : ¬ (z < 0 ∨ 1 < z) := fun q => hb (Or.inr q)
    obtain ⟨-, -, -, -, -, H, W, P, hc, -⟩ := id h
    obtain ⟨j, hj, hj4, rfl⟩ := cur_some hc hn
    obtain ⟨k, t, hh, c, g, n, hk, -, -, -, -, -, q0, -, q2, -, q4, -⟩ := (hc.1.2.2.2.2 j hj).1
    have u : ∀ x, (upI m 148 1 0).1 (25 + j) x = m.1 (25 + j) x := fun x => upI_ne (by omega)
    have ha := per_is hj4
    have key : ∀ (bs : List Int32) (v : Int32), bs.length ≤ 16 → (if z = 0 then cSz (upI m 148 1 0) (25 + j) (nI j) else if m.1 (25 + j) 0 = 4 ∨ m.1 (25 + j) 0 = 5 then nI j - cSz (upI m 148 1 0) (25 + j) (nI j) else cMk (upI m 148 1 0) (25 + j) (nI j)) = v → (if z = 0 then cSzM (upI m 148 1 0) (25 + j) else if m.1 (25 + j) 0 = 4 ∨ m.1 (25 + j) 0 = 5 then cSzM (cBegan (cBegan (upI m 148 1 0) 23) 20) (25 + j) else cMkM (upI m 148 1 0) (25 + j)) = cB bs (upI m 148 1 0) → (∀ m', (∀ x, x < 8 → mOf m' j x = m.1 (25 + j) (pm x)) → (if z = 0 then mSzR m' j (nI j) else mMkR m' j (nI j)) = v ∧ (if z = 0 then mSzM m' j else mMkM m' j) = mB bs m') → LawStp Rel zM_X7_ask zM_X8_ask m [.int (nI j), .int z] := by
      intro bs v hl hv hM hm
      have e1 := ev_X7_ask 4 m j z hn hz hj4
      rw [hv, hM] at e1
      obtain ⟨c1, c2, c3, c4⟩ := cB_tr bs (upI m 148 1 0) 0 (upI_eq _ _ _ _) (by omega)
      have e184 : ∀ x, (cB bs (upI m 148 1 0)).1 184 x = m.1 184 x := fun x => by rw [c4 184 x (by omega) (by omega), upI_ne (by omega)]
      obtain ⟨r1, r2⟩ := hm (mAsk0 (cB bs (upI m 148 1 0))) (fun x hx => by
        rw [← cur_per hc hj hx]
        show (mAsk0 (cB bs (upI m 148 1 0))).1 184 _ = m.1 184 _
        rw [upI_ne (by omega), upI_ne (by omega), e184])
      refine stp_mk e1 (ev_X8_ask 6 (cB bs (upI m 148 1 0)) j z (fun q => hn ((h.nob _).mpr (by rw [e184] at q; exact q))) hz hj4) r1 ?_
      show Rel (if z = 0 then mSzM (mAsk0 (cB bs (upI m 148 1 0))) j else mMkM (mAsk0 (cB bs (upI m 148 1 0))) j)
      rw [r2]
      exact ask_R h hl
    match k, hk with
    | 0, hk => exact absurd hk (by omega)
    | 1, _ =>
      have q0 : m.1 (25 + j) 0 = (1 : Int32) := q0
      obtain ⟨s1, s2, s3, s4⟩ := ask_c1 (m := upI m 148 1 0) (a := 25 + j) (n := nI j) ha ((u 0).trans q0) (u 2) (u 4)
      rw [u 0] at s3 s4
      by_cases z0 : z = 0
      · refine key [11, 10, 21, 20] _ (by decide) ((if_pos z0).trans s1) ((if_pos z0).trans s2) (fun m' e => ?_)
        obtain ⟨t1, t2, t3, t4⟩ := ask_m1 (m := m') (p := j) (n := nI j) ((e 0 (by omega)).trans q0) (e 1 (by omega)) (e 4 (by omega))
        rw [if_pos z0, if_pos z0]
        exact ⟨t1, t2⟩
      · refine key [21, 20] _ (by decide) ((if_neg z0).trans s3) ((if_neg z0).trans s4) (fun m' e => ?_)
        obtain ⟨t1, t2, t3, t4⟩ := ask_m1 (m := m') (p := j) (n := nI j) ((e 0 (by omega)).trans q0) (e 1 (by omega)) (e 4 (by omega))
        rw [if_neg z0, if_neg z0]
        exact ⟨t3, t4⟩
    | 2, _ =>
      have q0 : m.1 (25 + j) 0 = (2 : Int32) := q0
      obtain ⟨s1, s2, s3, s4⟩ := ask_c2 (m := upI m 148 1 0) (a := 25 + j) (n := nI j) ha ((u 0).trans q0) (u 2) (u 4)
      rw [u 0] at s3 s4
      by_cases z0 : z = 0
      · refine key [12, 11, 10, 24, 21, 20] _ (by decide) ((if_pos z0).trans s1) ((if_pos z0).trans s2) (fun m' e => ?_)
        obtain ⟨t1, t2, t3, t4⟩ := ask_m2 (m := m') (p := j) (n := nI j) ((e 0 (by omega)).trans q0) (e 1 (by omega)) (e 4 (by omega))
        rw [if_pos z0, if_pos z0]
        exact ⟨t1, t2⟩
      · refine key [24, 21, 20] _ (by decide) ((if_neg z0).trans s3) ((if_neg z0).trans s4) (fun m' e => ?_)
        obtain ⟨t1, t2, t3, t4⟩ := ask_m2 (m := m') (p := j) (n := nI j) ((e 0 (by omega)).trans q0) (e 1 (by omega)) (e 4 (by omega))
        rw [if_neg z0, if_neg z0]
        exact ⟨t3, t4⟩
    | 3, _ =>
      have q0 : m.1 (25 + j) 0 = (3 : Int32) := q0
      obtain ⟨s1, s2, s3, s4⟩ := ask_c3 (m := upI m 148 1 0) (a := 25 + j) (n := nI j) ha ((u 0).trans q0) (u 2) (u 4)
      rw [u 0] at s3 s4
      by_cases z0 : z = 0
      · refine key [11, 10, 22, 21, 20] _ (by decide) ((if_pos z0).trans s1) ((if_pos z0).trans s2) (fun m' e => ?_)
        obtain ⟨t1, t2, t3, t4⟩ := ask_m3 (m := m') (p := j) (n := nI j) ((e 0 (by omega)).trans q0) (e 1 (by omega)) (e 4 (by omega))
        rw [if_pos z0, if_pos z0]
        exact ⟨t1, t2⟩
      · refine key [22, 21, 20] _ (by decide) ((if_neg z0).trans s3) ((if_neg z0).trans s4) (fun m' e => ?_)
        obtain ⟨t1, t2, t3, t4⟩ := ask_m3 (m := m') (p := j) (n := nI j) ((e 0 (by omega)).trans q0) (e 1 (by omega)) (e 4 (by omega))
        rw [if_neg z0, if_neg z0]
        exact ⟨t3, t4⟩
    | 4, _ =>
      have q0 : m.1 (25 + j) 0 = (4 : Int32) := q0
      obtain ⟨s1, s2, s3, s4⟩ := ask_c4 (m := upI m 148 1 0) (a := 25 + j) (n := nI j) ha ((u 0).trans q0) (u 2) (u 4)
      rw [u 0] at s3 s4
      by_cases z0 : z = 0
      · refine key [13, 10] _ (by decide) ((if_pos z0).trans s1) ((if_pos z0).trans s2) (fun m' e => ?_)
        obtain ⟨t1, t2, t3, t4⟩ := ask_m4 (m := m') (p := j) (n := nI j) ((e 0 (by omega)).trans q0) (e 1 (by omega)) (e 4 (by omega))
        rw [if_pos z0, if_pos z0]
        exact ⟨t1, t2⟩
      · refine key [23, 20, 13, 10] _ (by decide) ((if_neg z0).trans s3) ((if_neg z0).trans s4) (fun m' e => ?_)
        obtain ⟨t1, t2, t3, t4⟩ := ask_m4 (m := m') (p := j) (n := nI j) ((e 0 (by omega)).trans q0) (e 1 (by omega)) (e 4 (by omega))
        rw [if_neg z0, if_neg z0]
        exact ⟨t3, t4⟩
    | 5, _ =>
      have q0 : m.1 (25 + j) 0 = (5 : Int32) := q0
      obtain ⟨s1, s2, s3, s4⟩ := ask_c5 (m := upI m 148 1 0) (a := 25 + j) (n := nI j) ha ((u 0).trans q0) (u 2) (u 4)
      rw [u 0] at s3 s4
      by_cases z0 : z = 0
      · refine key [14, 13, 10] _ (by decide) ((if_pos z0).trans s1) ((if_pos z0).trans s2) (fun m' e => ?_)
        obtain ⟨t1, t2, t3, t4⟩ := ask_m5 (m := m') (p := j) (n := nI j) ((e 0 (by omega)).trans q0) (e 1 (by omega)) (e 4 (by omega))
        rw [if_pos z0, if_pos z0]
        exact ⟨t1, t2⟩
      · refine key [23, 20, 14, 13, 10] _ (by decide) ((if_neg z0).trans s3) ((if_neg z0).trans s4) (fun m' e => ?_)
        obtain ⟨t1, t2, t3, t4⟩ := ask_m5 (m := m') (p := j) (n := nI j) ((e 0 (by omega)).trans q0) (e 1 (by omega)) (e 4 (by omega))
        rw [if_neg z0, if_neg z0]
        exact ⟨t3, t4⟩
    | k + 6, hk => exact absurd hk (by omega)
