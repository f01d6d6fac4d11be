/-! ===== pure: the first and the last bit; what the model counts ===== -/
theorem Bt_n {n l : Nat} (hl : l < 64) : Bt (lN n) l = n.testBit l := by
  unfold Bt
  rw [wb_tb, BitVec.getLsbD_ofNat, decide_eq_true hl, Bool.true_and]
theorem gB_n {n l : Nat} (hl : l < 64) : gB (lN n) (nI l) ↔ n.testBit l = true := by rw [Bt_m _ hl, Bt_n hl]
theorem q9_low : ∀ (t N : Nat), N.testBit t = true → (∀ i, i < t → N.testBit i = false) → 1 ≤ N ∧ ∀ j, (N - 1).testBit j = (decide (j < t) || (decide (t < j) && N.testBit j)) := by
  intro t
  induction t with
  | zero =>
    intro N h _
    rw [Nat.testBit_zero, decide_eq_true_eq] at h
    refine ⟨by omega, fun j => ?_⟩
    cases j with
    | zero =>
      rw [Nat.testBit_zero, decide_eq_false (by omega)]
      rfl
    | succ j =>
      rw [Nat.testBit_succ, Nat.testBit_succ, show (N - 1) / 2 = N / 2 by omega, decide_eq_false (by omega), decide_eq_true (by omega), Bool.true_and, Bool.false_or]
  | succ t ih =>
    intro N h h0
    have e0 := h0 0 (by omega)
    rw [Nat.testBit_zero, decide_eq_false_iff_not] at e0
    obtain ⟨i1, i2⟩ := ih (N / 2) (by rw [← Nat.testBit_succ]; exact h) (fun i hi => by rw [← Nat.testBit_succ]; exact h0 (i + 1) (by omega))
    refine ⟨by omega, fun j => ?_⟩
    cases j with
    | zero =>
      rw [Nat.testBit_zero, decide_eq_true (by omega), decide_eq_true (by omega)]
      rfl
    | succ j =>
      rw [Nat.testBit_succ, Nat.testBit_succ, show (N - 1) / 2 = N / 2 - 1 by omega, i2 j]
      congr 1
      · exact decide_eq_decide.mpr (by omega)
      · congr 1
        exact decide_eq_decide.mpr (by omega)
theorem q9_iext {x y : Int32} (h : ∀ i, i < 32 → x.toBitVec.getLsbD i = y.toBitVec.getLsbD i) : x = y := Int32.toBitVec_inj.mp (BitVec.eq_of_getLsbD_eq (fun i hi => h i hi))
theorem q9_ibit {n i : Nat} (hi : i < 32) : (nI n).toBitVec.getLsbD i = n.testBit i := by
  show (BitVec.ofNat 32 n).getLsbD i = _
  rw [BitVec.getLsbD_ofNat, decide_eq_true hi, Bool.true_and]
theorem q9_m1 : ∀ i, i < 32 → (-1 : Int32).toBitVec.getLsbD i = true := by decide +kernel
theorem q9_nt2 : ∀ t, t < 32 → jNt2 (nI (2 ^ t - 1)) = nI t := by decide +kernel
theorem jNtz_q {N t : Nat} (ht : t < 32) (h : N.testBit t = true) (h0 : ∀ i, i < t → N.testBit i = false) : jNtz (nI N) = nI t := by
  obtain ⟨h1, h2⟩ := q9_low t N h h0
  have e : (nI N ^^^ (-1)) &&& (nI N - 1) = nI (2 ^ t - 1) := by
    rw [show nI N - 1 = nI (N - 1) from pk_sub (b := 1) h1]
    refine q9_iext fun i hi => ?_
    rw [Int32.toBitVec_and, Int32.toBitVec_xor, BitVec.getLsbD_and, BitVec.getLsbD_xor, q9_ibit hi, q9_ibit hi, q9_ibit hi, q9_m1 i hi, h2 i, Nat.testBit_two_pow_sub_one]
    rcases Nat.lt_trichotomy i t with q | q | q
    · rw [h0 i q, decide_eq_true q]; rfl
    · subst q
      rw [h, decide_eq_false (by omega)]; rfl
    · rw [decide_eq_false (show ¬ i < t by omega), decide_eq_true q]
      cases N.testBit i <;> rfl
  unfold jNtz
  rw [e]
  exact q9_nt2 t ht
theorem q9_z {N : Nat} : nI N = 0 ↔ ∀ i, i < 32 → N.testBit i = false := by
  constructor
  · intro h i hi
    rw [← q9_ibit hi, h]
    exact BitVec.getLsbD_zero
  · intro h
    refine q9_iext fun i hi => ?_
    rw [q9_ibit hi, h i hi]
    exact BitVec.getLsbD_zero.symm
theorem jNtzL_q {N t : Nat} (hN : N < 2 ^ 64) (ht : t < 64) (h : N.testBit t = true) (h0 : ∀ i, i < t → N.testBit i = false) : jNtzL (lN N) = nI t := by
  unfold jNtzL
  rw [lN_i]
  by_cases q : t < 32
  · rw [if_neg (fun e => by rw [q9_z.mp e t q] at h; exact absurd h (by decide)), jNtz_q q h h0]
  · rw [if_pos (q9_z.mpr (fun i hi => h0 i (by omega))), show jl (lN N) 32 = lN (N / 2 ^ 32) from q9_jl (k := 32) hN (by decide), lN_i, jNtz_q (t := t - 32) (by omega) (by rw [Nat.testBit_div_two_pow, show t - 32 + 32 = t by omega]; exact h) (fun i hi => by rw [Nat.testBit_div_two_pow]; exact h0 _ (by omega)), show (32 : Int32) = nI 32 from rfl, nI_add, show 32 + (t - 32) = t by omega]
theorem q9_ju {n k : Nat} (hn : n < 2 ^ 32) (hk : k = 1 ∨ k = 2 ∨ k = 4 ∨ k = 8 ∨ k = 16) : ju (nI n) (nI k) = nI (n / 2 ^ k) := by
  unfold ju
  rcases hk with rfl | rfl | rfl | rfl | rfl
  · exact pk_ushrN hn (nI 1) 1 (by decide)
  · exact pk_ushrN hn (nI 2) 2 (by decide)
  · exact pk_ushrN hn (nI 4) 4 (by decide)
  · exact pk_ushrN hn (nI 8) 8 (by decide)
  · exact pk_ushrN hn (nI 16) 16 (by decide)
theorem q9_top {j k n : Nat} (h1 : 2 ^ k ≤ n) (h2 : n < 2 ^ (k + 1)) (hj : 2 ^ j ≤ n) : j ≤ k ∧ 2 ^ (k - j) ≤ n / 2 ^ j ∧ n / 2 ^ j < 2 ^ (k - j + 1) := by
  have hjk : j ≤ k := by
    refine Nat.le_of_not_lt fun q => ?_
    have : 2 ^ (k + 1) ≤ 2 ^ j := Nat.pow_le_pow_right (by decide) q
    omega
  have e1 : 2 ^ k = 2 ^ (k - j) * 2 ^ j := by rw [← Nat.pow_add]; congr 1; omega
  have e2 : 2 ^ (k + 1) = 2 ^ (k - j + 1) * 2 ^ j := by rw [← Nat.pow_add]; congr 1; omega
  exact ⟨hjk, (Nat.le_div_iff_mul_le (Nat.two_pow_pos j)).mpr (by omega), (Nat.div_lt_iff_lt_mul (Nat.two_pow_pos j)).mpr (by omega)⟩
theorem q9_le {j k n : Nat} (h1 : 2 ^ k ≤ n) (hj : n < 2 ^ j) : k < j := by
  refine Nat.lt_of_not_le fun q => ?_
  have : 2 ^ j ≤ 2 ^ k := Nat.pow_le_pow_right (by decide) q
  omega
theorem jN4_q {c k n : Nat} (hc : k ≤ c) (h1 : 2 ^ k ≤ n) (h2 : n < 2 ^ (k + 1)) (hn : n < 4) : jN4 (nI c) (nI n) = nI (c - k) := by
  have hk : k < 2 := q9_le h1 (j := 2) hn
  unfold jN4
  rw [show ju (nI n) 1 = nI (n / 2) from q9_ju (k := 1) (by omega) (by omega)]
  have : n / 2 = k := by
    have : k = 0 ∨ k = 1 := by omega
    rcases this with rfl | rfl
    · omega
    · omega
  rw [this, pk_sub hc]
theorem jN3_q {c k n : Nat} (hc : k ≤ c) (h1 : 2 ^ k ≤ n) (h2 : n < 2 ^ (k + 1)) (hn : n < 16) : jN3 (nI c) (nI n) = nI (c - k) := by
  unfold jN3
  by_cases q : n < 4
  · rw [if_pos (show nI n < 4 from (nI_ltI (b := 4) (by omega) (by omega)).mpr q), jN4_q hc h1 h2 q]
  · obtain ⟨t1, t2, t3⟩ := q9_top (j := 2) h1 h2 (by omega)
    rw [if_neg (show ¬ nI n < 4 from fun e => q ((nI_ltI (b := 4) (by omega) (by omega)).mp e)), show ju (nI n) 2 = nI (n / 2 ^ 2) from q9_ju (k := 2) (by omega) (by omega), show nI c - 2 = nI (c - 2) from pk_sub (b := 2) (by omega), jN4_q (by omega) t2 t3 (by omega), show c - 2 - (k - 2) = c - k by omega]
theorem jN2_q {c k n : Nat} (hc : k ≤ c) (h1 : 2 ^ k ≤ n) (h2 : n < 2 ^ (k + 1)) (hn : n < 256) : jN2 (nI c) (nI n) = nI (c - k) := by
  unfold jN2
  by_cases q : n < 16
  · rw [if_pos (show nI n < 16 from (nI_ltI (b := 16) (by omega) (by omega)).mpr q), jN3_q hc h1 h2 q]
  · obtain ⟨t1, t2, t3⟩ := q9_top (j := 4) h1 h2 (by omega)
    rw [if_neg (show ¬ nI n < 16 from fun e => q ((nI_ltI (b := 16) (by omega) (by omega)).mp e)), show ju (nI n) 4 = nI (n / 2 ^ 4) from q9_ju (k := 4) (by omega) (by omega), show nI c - 4 = nI (c - 4) from pk_sub (b := 4) (by omega), jN3_q (by omega) t2 t3 (by omega), show c - 4 - (k - 4) = c - k by omega]
theorem jN1_q {c k n : Nat} (hc : k ≤ c) (h1 : 2 ^ k ≤ n) (h2 : n < 2 ^ (k + 1)) (hn : n < 65536) : jN1 (nI c) (nI n) = nI (c - k) := by
  unfold jN1
  by_cases q : n < 256
  · rw [if_pos (show nI n < 256 from (nI_ltI (b := 256) (by omega) (by omega)).mpr q), jN2_q hc h1 h2 q]
  · obtain ⟨t1, t2, t3⟩ := q9_top (j := 8) h1 h2 (by omega)
    rw [if_neg (show ¬ nI n < 256 from fun e => q ((nI_ltI (b := 256) (by omega) (by omega)).mp e)), show ju (nI n) 8 = nI (n / 2 ^ 8) from q9_ju (k := 8) (by omega) (by omega), show nI c - 8 = nI (c - 8) from pk_sub (b := 8) (by omega), jN2_q (by omega) t2 t3 (by omega), show c - 8 - (k - 8) = c - k by omega]
theorem jNlz_q {k n : Nat} (h1 : 2 ^ k ≤ n) (h2 : n < 2 ^ (k + 1)) (hn : n < 2 ^ 31) : jNlz (nI n) = nI (31 - k) := by
  have hk : k < 31 := q9_le h1 hn
  have h0 : 0 < n := Nat.lt_of_lt_of_le (Nat.two_pow_pos k) h1
  unfold jNlz
  rw [if_pos (show 0 < nI n from nI_lt (a := 0) h0 hn)]
  by_cases q : n < 65536
  · rw [if_pos (show nI n < 65536 from (nI_ltI (b := 65536) hn (by omega)).mpr q)]
    exact jN1_q (c := 31) (by omega) h1 h2 q
  · obtain ⟨t1, t2, t3⟩ := q9_top (j := 16) h1 h2 (by omega)
    rw [if_neg (show ¬ nI n < 65536 from fun e => q ((nI_ltI (b := 65536) hn (by omega)).mp e)), show ju (nI n) 16 = nI (n / 2 ^ 16) from q9_ju (k := 16) (by omega) (by omega)]
    have := jN1_q (c := 15) (k := k - 16) (by omega) t2 t3 (by omega)
    rw [show 15 - (k - 16) = 31 - k by omega] at this
    exact this
theorem jNlz_neg {n : Nat} (h1 : 2 ^ 31 ≤ n) (h2 : n < 2 ^ 32) : jNlz (nI n) = 0 := by
  have hne : ∀ j, j < 2 ^ 31 → ¬ nI n = nI j := fun j hj e => by
    have := congrArg (fun x : Int32 => x.toBitVec.toNat) e
    rw [show (nI n).toBitVec.toNat = n from pk_tn h2, show (nI j).toBitVec.toNat = j from pk_tn (by omega)] at this
    omega
  unfold jNlz
  rw [if_neg (fun q => by
    obtain ⟨j, hj, e⟩ := nI_of (x := nI n) (fun z => by
      rw [Int32.lt_iff_toInt_lt] at q z
      omega)
    exact hne j hj e), if_neg (show ¬ nI n = 0 from hne 0 (by decide))]
theorem jNlzL_q {t N : Nat} (h1 : 2 ^ t ≤ N) (h2 : N < 2 ^ (t + 1)) (hN : N < 2 ^ 41) : 63 - jNlzL (lN N) = nI t := by
  have ht : t < 41 := q9_le h1 hN
  have e32 : jl (lN N) 32 = lN (N / 2 ^ 32) := q9_jl (k := 32) (by omega) (by decide)
  have key : jNlzL (lN N) = nI (63 - t) := by
    unfold jNlzL
    rw [e32, lN_i, lN_i]
    by_cases q : N < 2 ^ 32
    · rw [show N / 2 ^ 32 = 0 by omega, if_pos (show nI 0 = 0 from rfl)]
      by_cases q2 : N < 2 ^ 31
      · have hk : t < 31 := q9_le h1 q2
        rw [jNlz_q h1 h2 q2, show (32 : Int32) = nI 32 from rfl, nI_add, show 32 + (31 - t) = 63 - t by omega]
      · have hk : t < 32 := q9_le h1 q
        have hk2 : 31 < t + 1 := q9_le (k := 31) (by omega) h2
        rw [jNlz_neg (by omega) q, show 63 - t = 32 by omega]
        rfl
    · obtain ⟨t1, t2, t3⟩ := q9_top (j := 32) h1 h2 (by omega)
      rw [if_neg (nI_ne0 (by omega) (by omega)), jNlz_q t2 t3 (by omega), show 31 - (t - 32) = 63 - t by omega]
  rw [key, show (63 : Int32) = nI 63 from rfl, pk_sub (by omega), show 63 - (63 - t) = t by omega]
/-! what the model counts -/
theorem gCnt_1 {N : Nat} : ∀ (n l : Nat) (a b c : Int32), l + n ≤ 64 → (gCnt (lN N) n l a b c).1 = a + nI (q9p n (N / 2 ^ l)) := by
  intro n
  induction n with
  | zero => intro l a b c _; exact (Int32.add_zero a).symm
  | succ n ih =>
    intro l a b c h
    have e : N / 2 ^ l / 2 = N / 2 ^ (l + 1) := by rw [Nat.div_div_eq_div_mul, Nat.pow_succ]
    have hb := gB_n (n := N) (l := l) (by omega)
    rw [Nat.testBit_eq_decide_div_mod_eq, decide_eq_true_eq] at hb
    rw [gCnt, q9p, e]
    by_cases q : N / 2 ^ l % 2 = 1
    · rw [if_pos (hb.mpr q), ih _ _ _ _ (by omega), q, Int32.add_assoc, show (1 : Int32) = nI 1 from rfl, nI_add]
    · rw [if_neg (fun z => q (hb.mp z)), ih _ _ _ _ (by omega), show N / 2 ^ l % 2 = 0 by omega, Nat.zero_add]
theorem gCnt_b2 {g : Int64} {t : Nat} (ht : t < 2 ^ 31) : ∀ (n l : Nat) (a c : Int32), (gCnt g n l a (nI t) c).2.1 = nI t := by
  intro n
  induction n with
  | zero => intro l a c; rfl
  | succ n ih =>
    intro l a c
    rw [gCnt, if_neg (nI_none ht)]
    split
    · exact ih _ _ _
    · exact ih _ _ _
theorem gCnt_b {N t : Nat} (h : N.testBit t = true) (h0 : ∀ i, i < t → N.testBit i = false) : ∀ (n l : Nat) (a c : Int32), l + n ≤ 64 → l ≤ t → t < l + n → (gCnt (lN N) n l a (-1000000) c).2.1 = nI t := by
  intro n
  induction n with
  | zero => intro l a c _ h1 h2; exact absurd h2 (by omega)
  | succ n ih =>
    intro l a c h1 h2 h3
    have hb := gB_n (n := N) (l := l) (by omega)
    rw [gCnt]
    by_cases q : l = t
    · subst q
      rw [if_pos (hb.mpr h), if_pos rfl]
      exact gCnt_b2 (by omega) _ _ _ _
    · rw [if_neg (fun z => by
        rw [h0 l (by omega)] at hb
        exact absurd (hb.mp z) (by decide))]
      exact ih _ _ _ (by omega) (by omega) (by omega)
theorem gCnt_0 {N : Nat} : ∀ (n l : Nat) (a b c : Int32), l + n ≤ 64 → (∀ i, l ≤ i → i < l + n → N.testBit i = false) → gCnt (lN N) n l a b c = (a, b, c) := by
  intro n
  induction n with
  | zero => intro l a b c _ _; rfl
  | succ n ih =>
    intro l a b c h1 h2
    have hb := gB_n (n := N) (l := l) (by omega)
    rw [h2 l (by omega) (by omega)] at hb
    rw [gCnt, if_neg (fun z => absurd (hb.mp z) (by decide))]
    exact ih _ _ _ _ (by omega) (fun i q1 q2 => h2 i (by omega) (by omega))
theorem gCnt_c {N t : Nat} (h : N.testBit t = true) (h0 : ∀ i, t < i → N.testBit i = false) : ∀ (n l : Nat) (a b c : Int32), l + n ≤ 64 → l ≤ t → t < l + n → (gCnt (lN N) n l a b c).2.2 = nI t := by
  intro n
  induction n with
  | zero => intro l a b c _ h1 h2; exact absurd h2 (by omega)
  | succ n ih =>
    intro l a b c h1 h2 h3
    have hb := gB_n (n := N) (l := l) (by omega)
    rw [gCnt]
    by_cases q : l = t
    · subst q
      rw [if_pos (hb.mpr h), gCnt_0 _ _ _ _ _ (by omega) (fun i q1 q2 => h0 i (by omega))]
    · split
      · exact ih _ _ _ _ (by omega) (by omega) (by omega)
      · exact ih _ _ _ _ (by omega) (by omega) (by omega)
/-- the class's counts are the model's -/
theorem gains_eq {g : Int64} (hg : ∀ l, Bt g l = true → l ≤ 40) {w : Int32} (hw : ¬ (w < 0 ∨ 2 < w)) : cGainsR g w = gGains g w := by
  obtain ⟨N, hN, rfl⟩ := wb_of g
  have hN41 : N < 2 ^ 41 := by
    refine Nat.lt_of_not_le fun q => ?_
    have hne : N ≠ 0 := by have := Nat.two_pow_pos 41; omega
    have hlog : N.log2 < 64 := (Nat.log2_lt hne).mpr hN
    have h41 : 41 ≤ N.log2 := (Nat.le_log2 hne).mpr q
    have := hg N.log2 (by rw [Bt_n hlog]; exact Nat.testBit_log2 hne)
    omega
  unfold cGainsR gGains
  by_cases h0 : w = 0
  · rw [if_pos h0, if_pos h0, jBit_q hN, gCnt_1 _ _ _ _ _ (by omega), Nat.pow_zero, Nat.div_one, Int32.zero_add]
    rw [show 64 = 41 + 23 from rfl, q9p_cat 23 41 N, show N / 2 ^ 41 = 0 by omega, show q9p 23 0 = 0 from rfl, Nat.add_zero]
  · rw [if_neg h0, if_neg h0]
    by_cases hz : N = 0
    · subst hz
      rw [if_pos (show lN 0 = 0 from rfl), gCnt_0 _ _ _ _ _ (by omega) (fun i _ _ => Nat.zero_testBit i)]
      split <;> rfl
    · have hzL : ¬ lN N = 0 := fun e => hz ((pk_lEQ (b := 0) (by omega) (by omega)).mp e)
      have hlog : N.log2 < 41 := (Nat.log2_lt hz).mpr hN41
      have hT := Nat.testBit_log2 hz
      rw [if_neg hzL]
      obtain ⟨t, ht, htl⟩ := pk_least (fun i => N.testBit i = true) ⟨_, hT⟩
      have htl' : ∀ i, i < t → N.testBit i = false := fun i hi => Bool.eq_false_iff.mpr (htl i hi)
      have ht41 : t ≤ N.log2 := Nat.le_of_not_lt fun q => htl _ q hT
      by_cases h1 : w = 1
      · rw [if_pos h1, if_pos h1, jNtzL_q hN (by omega) ht htl', gCnt_b ht htl' _ _ _ _ (by omega) (by omega) (by omega)]
      · rw [if_neg h1, if_neg h1, jNlzL_q (Nat.log2_self_le hz) Nat.lt_log2_self hN41, gCnt_c hT (fun i hi => Nat.testBit_lt_two_pow (Nat.lt_of_lt_of_le Nat.lt_log2_self (Nat.pow_le_pow_right (by decide) hi))) _ _ _ _ _ (by omega) (by omega) (by omega)]
