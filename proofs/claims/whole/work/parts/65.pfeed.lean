/-! ===== pure: feed ===== -/
theorem sh_eq (x : BitVec 64) (n : Nat) (h : n ≤ 56) : (x >>> n) &&& 255#64 = (x.sshiftRight n) &&& 255#64 := by
  apply BitVec.eq_of_getLsbD_eq
  intro i hi
  rw [BitVec.getLsbD_and, BitVec.getLsbD_and, BitVec.getLsbD_ushiftRight, BitVec.getLsbD_sshiftRight]
  by_cases h8 : i < 8
  · rw [if_pos (by omega), decide_eq_false (show ¬ 64 ≤ i by omega)]
    simp
  · have e : (255#64).getLsbD i = false := by
      show Nat.testBit 255 i = false
      exact Nat.testBit_lt_two_pow (Nat.lt_of_lt_of_le (show 255 < 2 ^ 8 by decide) (Nat.pow_le_pow_right (by decide) (by omega)))
    rw [e, Bool.and_false, Bool.and_false]
theorem byte_eq (w : Int64) {r : Nat} (hr : r < 8) : mByt w r = cByte w r := by
  have e : ∀ n : Nat, n < 8 → (w >>> ((8 * nI n : Int32).toInt64 &&& 63)) &&& 255 = (w.toUInt64 >>> ((8 * nI n : Int32).toInt64.toUInt64 &&& Int64.toUInt64 63)).toInt64 &&& 255 := by
    intro n hn
    apply Int64.toBitVec_inj.mp
    match n, hn with
    | 0, _ => exact (sh_eq w.toBitVec 0 (by omega)).symm
    | 1, _ => exact (sh_eq w.toBitVec 8 (by omega)).symm
    | 2, _ => exact (sh_eq w.toBitVec 16 (by omega)).symm
    | 3, _ => exact (sh_eq w.toBitVec 24 (by omega)).symm
    | 4, _ => exact (sh_eq w.toBitVec 32 (by omega)).symm
    | 5, _ => exact (sh_eq w.toBitVec 40 (by omega)).symm
    | 6, _ => exact (sh_eq w.toBitVec 48 (by omega)).symm
    | 7, _ => exact (sh_eq w.toBitVec 56 (by omega)).symm
    | n + 8, h => exact absurd h (by omega)
  unfold mByt cByte
  rw [e r hr]
theorem byte_pos (w : Int64) {r : Nat} (hr : r < 8) : 0 ≤ cByte w r := by
  obtain ⟨n, hn, rfl⟩ := wb_of w
  unfold cByte
  rw [show (8 : Int32) * nI r = nI (8 * r) from nI_mul 8 r, wb_shr hn (by omega), show (255 : Int64) = lN (2 ^ 8 - 1) from rfl, wb_mask (Nat.lt_of_le_of_lt (Nat.div_le_self _ _) hn) (by omega), lN_i]
  exact (nI_leI (a := 0) (by omega) (by omega)).mpr (by omega)
/-- feeding keeps the tapes alike -/
def tapeR (m : zm) (t : Nat) (M : zm) : Prop := m.1 12 1 = nI t ∧ M.1 180 10 = nI t ∧ ∀ k, k < t → m.1 13 k = M.1 187 k ∧ 0 ≤ M.1 187 k
theorem feed_R (w : Int64) : ∀ (r t : Nat) (m M : zm), r ≤ 8 → t + r ≤ 400 → tapeR m t M → tapeR (cApp w r m) (t + r) (mApp w r M) := by
  intro r
  induction r with
  | zero => intro t m M _ _ h; exact h
  | succ r ih =>
    intro t m M hr ht ⟨h1, h2, h3⟩
    rw [cApp, mApp, show t + (r + 1) = t + 1 + r by omega]
    refine ih (t + 1) _ _ (by omega) (by omega) ⟨?_, ?_, fun k hk => ?_⟩
    · rw [cApp1_many, h1]
      exact nI_add t 1
    · unfold mApp1
      rw [upI_eq, upI_ne (by omega), h2]
      exact nI_add t 1
    · unfold cApp1 mApp1
      rw [h1, h2, nI_clamp (by omega), upI_ne (by omega), upI_ne (show ¬ (187 = 180 ∧ k = 10) by omega), byte_eq w (show r < 8 by omega)]
      by_cases q : k = t
      · subst q
        rw [upI_eq, upI_eq]
        exact ⟨rfl, byte_pos w (by omega)⟩
      · rw [upI_ne (by omega), upI_ne (by omega)]
        exact h3 k (by omega)
theorem cApp_n (w : Int64) : ∀ (r : Nat) (m : zm) (a k : Nat), ¬ a = 13 → ¬ (a = 12 ∧ k = 1) → (cApp w r m).1 a k = m.1 a k := by
  intro r
  induction r with
  | zero => intro m a k _ _; rfl
  | succ r ih =>
    intro m a k h1 h2
    rw [cApp, ih _ _ _ h1 h2]
    unfold cApp1
    rw [upI_ne (by omega), upI_ne (by omega)]
theorem mApp_n (w : Int64) : ∀ (r : Nat) (m : zm) (a k : Nat), ¬ a = 187 → ¬ (a = 180 ∧ k = 10) → (mApp w r m).1 a k = m.1 a k := by
  intro r
  induction r with
  | zero => intro m a k _ _; rfl
  | succ r ih =>
    intro m a k h1 h2
    rw [mApp, ih _ _ _ h1 h2]
    unfold mApp1
    rw [upI_ne (by omega), upI_ne (by omega)]
/-- where only the tapes change, and they stay alike -/
theorem Rel.tape {m m' : zm} (h : Rel m) (e : ∀ a k, ¬ (a = 12 ∧ k = 1) → ¬ a = 13 → ¬ (a = 180 ∧ (k = 0 ∨ k = 10)) → ¬ a = 187 → m'.1 a k = m.1 a k) (ht : rTape m') : Rel m' := by
  obtain ⟨g1, g2, g3, g4, g5, H, W, P, hc, ha⟩ := h
  refine ⟨⟨?_, ?_⟩, g2.c (fun a k q => e a k (by omega) (by omega) (by omega) (by omega)), ht, g4.c (fun a k q => e a k (by omega) (by omega) (by omega) (by omega)) (e _ _ (by omega) (by omega) (by omega) (by omega)), g5.c (fun a k q => e a k (by omega) (by omega) (by omega) (by omega)) (e _ _ (by omega) (by omega) (by omega) (by omega)), H, W, P, hc.c (fun a k q => e a k (by omega) (by omega) (by omega) (by omega)) (e _ _ (by omega) (by omega) (by omega) (by omega)), ha.c hc.1.1.2.2 (fun a k q => e a k (by omega) (by omega) (by omega) (by omega)) (fun k _ => e _ _ (by omega) (by omega) (by omega) (by omega)) (e _ _ (by omega) (by omega) (by omega) (by omega))⟩
  · rw [e _ _ (by omega) (by omega) (by omega) (by omega), e _ _ (by omega) (by omega) (by omega) (by omega)]
    exact g1.1
  · rw [e _ _ (by omega) (by omega) (by omega) (by omega), e _ _ (by omega) (by omega) (by omega) (by omega)]
    exact g1.2
theorem st_feed : ∀ m : zm, Rel m → ∀ (a0 : Int64) (a1 : Int32), LawStp Rel zM_X7_feed zM_X8_feed m [.long a0, .int a1] := by
  intro m h w z
  by_cases hb : z < 1 ∨ 8 < z
  · exact stp_mk (ev_X7_feed_bad 10 m w z hb) (ev_X8_feed_bad 10 m w z hb) rfl h.t
  · obtain ⟨t, ht, t1, t2, t3⟩ := h.2.2.1
    by_cases hf : m.1 12 1 + z ≤ 400
    · obtain ⟨x, hx, rfl⟩ := nI_of (fun q => hb (Or.inl (Int32.lt_of_lt_of_le q (by decide))))
      have hx1 : 1 ≤ x := Nat.le_of_not_lt (fun q => hb (Or.inl (nI_lt (b := 1) q (by omega))))
      have hx8 : x < 9 := Nat.lt_of_not_le (fun q => hb (Or.inr (nI_lt (a := 8) (by omega) (by omega))))
      have hle : t + x ≤ 400 := by
        rw [t1, nI_add] at hf
        exact (nI_leI (b := 400) (by omega) (by omega)).mp hf
      have h7 := ev_X7_feed 10 m t w x hb hf hx1 t1 hle hx8
      have k7 := cApp_n w x m
      have h8 := ev_X8_feed 10 (cApp w x m) t w x hb (by rw [k7 _ _ (by omega) (by omega), t2, ← t1]; exact hf) (by rw [k7 _ _ (by omega) (by omega)]; exact t2) hle hx8
      have k8 := mApp_n w x (mT (cApp w x m))
      obtain ⟨r1, r2, r3⟩ := feed_R w x t m (mT (cApp w x m)) (by omega) hle ⟨t1, by rw [upI_ne (by omega), k7 _ _ (by omega) (by omega)]; exact t2, fun k hk => by rw [upI_ne (by omega), k7 _ _ (by omega) (by omega)]; exact t3 k hk⟩
      refine stp_mk h7 h8 (r2.trans r1.symm) (h.tape (fun a k z1 z2 z3 z4 => by rw [k8 _ _ (by omega) (by omega), upI_ne (by omega), k7 _ _ (by omega) (by omega)]) ⟨t + x, hle, ?_, r2, fun k hk => ?_⟩)
      · rw [k8 _ _ (by omega) (by omega), upI_ne (by omega), r1]
      · rw [k8 13 _ (by omega) (by omega), upI_ne (by omega)]
        exact r3 k hk
    · exact stp_mk (ev_X7_feed_full 10 m w z hb hf) (ev_X8_feed_full 10 m w z hb (by rw [t2, ← t1]; exact hf)) rfl h.t
