/-! ===== pure: words that both know ===== -/
def vF (A : Nat → Nat) : Nat → Nat → Nat → Nat
  | 0, _, v => v
  | n + 1, k, v => vF A n (k + 1) (256 * v + A k)
theorem mNm_v {f : Nat → Int32} {A : Nat → Nat} {s : Nat} : ∀ (n k j v : Nat), (∀ i, k ≤ i → i < k + n → f (s + i) = nI (A i) ∧ A i < 256) → v < 256 ^ j → j + n ≤ 7 → mNm f n (s + k) (lN v) = lN (vF A n k v) ∧ vF A n k v < 256 ^ (j + n) := by
  intro n
  induction n with
  | zero => intro k j v _ h _; exact ⟨rfl, h⟩
  | succ n ih =>
    intro k j v h hv hj
    obtain ⟨h1, h2⟩ := h k (by omega) (by omega)
    have hp : 256 ^ j ≤ 256 ^ 6 := Nat.pow_le_pow_right (by decide) (by omega)
    have hv6 : v < 281474976710656 := Nat.lt_of_lt_of_le hv hp
    have hor : 256 * v + A k = v * 2 ^ 8 ||| A k := by
      have := Nat.two_pow_add_eq_or_of_lt (i := 8) (show A k < 2 ^ 8 by omega) v
      rw [Nat.mul_comm v, ← this]
    have e : (lN v <<< ((8 : Int32).toInt64 &&& 63)) ||| (f (s + k)).toInt64 = lN (256 * v + A k) := by
      rw [show (8 : Int32) = nI 8 from rfl, wb_shl v (k := 8) (by decide), h1, nI_l (by omega), wb_or (by omega) (by omega), hor]
    have hb : 256 * v + A k < 256 ^ (j + 1) := by
      rw [Nat.pow_succ]
      omega
    obtain ⟨i1, i2⟩ := ih (k + 1) (j + 1) (256 * v + A k) (fun i q1 q2 => h i (by omega) (by omega)) hb (by omega)
    rw [mNm, e, vF]
    exact ⟨i1, by rw [show j + (n + 1) = j + 1 + n by omega]; exact i2⟩
theorem cWordB_i {f : Nat → Int32} {i s : Nat} : ∀ (n k : Nat), cWordB f i s n k = true ↔ ∀ j, k ≤ j → j < k + n → f (s + j) = zch i j := by
  intro n
  induction n with
  | zero => intro k; exact ⟨fun _ j h1 h2 => absurd h2 (by omega), fun _ => rfl⟩
  | succ n ih =>
    intro k
    rw [cWordB, Bool.and_eq_true, decide_eq_true_eq, ih]
    constructor
    · rintro ⟨h1, h2⟩ j q1 q2
      by_cases e : j = k
      · subst e
        exact h1
      · exact h2 j (by omega) (by omega)
    · intro h
      exact ⟨h k (by omega) (by omega), fun j q1 q2 => h j (by omega) (by omega)⟩
/-- how a word is spelled, as a number -/
def wSp (i code : Nat) : Prop := ∀ (A : Nat → Nat) (n : Nat), n ≤ 7 → (∀ k, k < n → 97 ≤ A k ∧ A k ≤ 122) → (vF A n 0 0 = code ↔ n = zLen.getD i 0 ∧ ∀ j, j < zLen.getD i 0 → nI (A j) = zch i j)
theorem wSp_0 : wSp 0 7102839 := by
  intro A n hn h
  constructor
  · intro e
    have : n = 0 ∨ n = 1 ∨ n = 2 ∨ n = 3 ∨ n = 4 ∨ n = 5 ∨ n = 6 ∨ n = 7 := by omega
    rcases this with rfl | rfl | rfl | rfl | rfl | rfl | rfl | rfl
    · simp only [vF, Nat.reduceAdd, Nat.zero_add, Nat.mul_zero] at e
      clear h hn
      omega
    · simp only [vF, Nat.reduceAdd, Nat.zero_add, Nat.mul_zero] at e
      have h0 := h 0 (by omega)
      clear h hn
      omega
    · simp only [vF, Nat.reduceAdd, Nat.zero_add, Nat.mul_zero] at e
      have h0 := h 0 (by omega)
      have h1 := h 1 (by omega)
      clear h hn
      omega
    · simp only [vF, Nat.reduceAdd, Nat.zero_add, Nat.mul_zero] at e
      have h0 := h 0 (by omega)
      have h1 := h 1 (by omega)
      have h2 := h 2 (by omega)
      clear h hn
      have e2 : A 2 = 119 := by omega
      rw [e2] at e
      have e1 : A 1 = 97 := by omega
      rw [e1] at e
      have e0 : A 0 = 108 := by omega
      refine ⟨rfl, fun j hj => ?_⟩
      match j, hj with
      | 0, _ => rw [e0]; rfl
      | 1, _ => rw [e1]; rfl
      | 2, _ => rw [e2]; rfl
      | j + 3, hj => exact absurd (show j + 3 < 3 from hj) (by omega)
    · simp only [vF, Nat.reduceAdd, Nat.zero_add, Nat.mul_zero] at e
      have h0 := h 0 (by omega)
      have h1 := h 1 (by omega)
      have h2 := h 2 (by omega)
      have h3 := h 3 (by omega)
      clear h hn
      omega
    · simp only [vF, Nat.reduceAdd, Nat.zero_add, Nat.mul_zero] at e
      have h0 := h 0 (by omega)
      have h1 := h 1 (by omega)
      have h2 := h 2 (by omega)
      have h3 := h 3 (by omega)
      have h4 := h 4 (by omega)
      clear h hn
      omega
    · simp only [vF, Nat.reduceAdd, Nat.zero_add, Nat.mul_zero] at e
      have h0 := h 0 (by omega)
      have h1 := h 1 (by omega)
      have h2 := h 2 (by omega)
      have h3 := h 3 (by omega)
      have h4 := h 4 (by omega)
      have h5 := h 5 (by omega)
      clear h hn
      omega
    · simp only [vF, Nat.reduceAdd, Nat.zero_add, Nat.mul_zero] at e
      have h0 := h 0 (by omega)
      have h1 := h 1 (by omega)
      have h2 := h 2 (by omega)
      have h3 := h 3 (by omega)
      have h4 := h 4 (by omega)
      have h5 := h 5 (by omega)
      have h6 := h 6 (by omega)
      clear h hn
      omega
  · rintro ⟨rfl, q⟩
    have h0 : 97 ≤ A 0 ∧ A 0 ≤ 122 := h 0 (by decide)
    have e0 : A 0 = 108 := (nI_eq (b := 108) (by omega) (by omega)).mp (q 0 (by decide))
    have h1 : 97 ≤ A 1 ∧ A 1 ≤ 122 := h 1 (by decide)
    have e1 : A 1 = 97 := (nI_eq (b := 97) (by omega) (by omega)).mp (q 1 (by decide))
    have h2 : 97 ≤ A 2 ∧ A 2 ≤ 122 := h 2 (by decide)
    have e2 : A 2 = 119 := (nI_eq (b := 119) (by omega) (by omega)).mp (q 2 (by decide))
    show vF A 3 0 0 = 7102839
    simp only [vF, Nat.reduceAdd, Nat.zero_add, Nat.mul_zero]
    rw [e0, e1, e2]
theorem wSp_1 : wSp 1 7823737 := by
  intro A n hn h
  constructor
  · intro e
    have : n = 0 ∨ n = 1 ∨ n = 2 ∨ n = 3 ∨ n = 4 ∨ n = 5 ∨ n = 6 ∨ n = 7 := by omega
    rcases this with rfl | rfl | rfl | rfl | rfl | rfl | rfl | rfl
    · simp only [vF, Nat.reduceAdd, Nat.zero_add, Nat.mul_zero] at e
      clear h hn
      omega
    · simp only [vF, Nat.reduceAdd, Nat.zero_add, Nat.mul_zero] at e
      have h0 := h 0 (by omega)
      clear h hn
      omega
    · simp only [vF, Nat.reduceAdd, Nat.zero_add, Nat.mul_zero] at e
      have h0 := h 0 (by omega)
      have h1 := h 1 (by omega)
      clear h hn
      omega
    · simp only [vF, Nat.reduceAdd, Nat.zero_add, Nat.mul_zero] at e
      have h0 := h 0 (by omega)
      have h1 := h 1 (by omega)
      have h2 := h 2 (by omega)
      clear h hn
      have e2 : A 2 = 121 := by omega
      rw [e2] at e
      have e1 : A 1 = 97 := by omega
      rw [e1] at e
      have e0 : A 0 = 119 := by omega
      refine ⟨rfl, fun j hj => ?_⟩
      match j, hj with
      | 0, _ => rw [e0]; rfl
      | 1, _ => rw [e1]; rfl
      | 2, _ => rw [e2]; rfl
      | j + 3, hj => exact absurd (show j + 3 < 3 from hj) (by omega)
    · simp only [vF, Nat.reduceAdd, Nat.zero_add, Nat.mul_zero] at e
      have h0 := h 0 (by omega)
      have h1 := h 1 (by omega)
      have h2 := h 2 (by omega)
      have h3 := h 3 (by omega)
      clear h hn
      omega
    · simp only [vF, Nat.reduceAdd, Nat.zero_add, Nat.mul_zero] at e
      have h0 := h 0 (by omega)
      have h1 := h 1 (by omega)
      have h2 := h 2 (by omega)
      have h3 := h 3 (by omega)
      have h4 := h 4 (by omega)
      clear h hn
      omega
    · simp only [vF, Nat.reduceAdd, Nat.zero_add, Nat.mul_zero] at e
      have h0 := h 0 (by omega)
      have h1 := h 1 (by omega)
      have h2 := h 2 (by omega)
      have h3 := h 3 (by omega)
      have h4 := h 4 (by omega)
      have h5 := h 5 (by omega)
      clear h hn
      omega
    · simp only [vF, Nat.reduceAdd, Nat.zero_add, Nat.mul_zero] at e
      have h0 := h 0 (by omega)
      have h1 := h 1 (by omega)
      have h2 := h 2 (by omega)
      have h3 := h 3 (by omega)
      have h4 := h 4 (by omega)
      have h5 := h 5 (by omega)
      have h6 := h 6 (by omega)
      clear h hn
      omega
  · rintro ⟨rfl, q⟩
    have h0 : 97 ≤ A 0 ∧ A 0 ≤ 122 := h 0 (by decide)
    have e0 : A 0 = 119 := (nI_eq (b := 119) (by omega) (by omega)).mp (q 0 (by decide))
    have h1 : 97 ≤ A 1 ∧ A 1 ≤ 122 := h 1 (by decide)
    have e1 : A 1 = 97 := (nI_eq (b := 97) (by omega) (by omega)).mp (q 1 (by decide))
    have h2 : 97 ≤ A 2 ∧ A 2 ≤ 122 := h 2 (by decide)
    have e2 : A 2 = 121 := (nI_eq (b := 121) (by omega) (by omega)).mp (q 2 (by decide))
    show vF A 3 0 0 = 7823737
    simp only [vF, Nat.reduceAdd, Nat.zero_add, Nat.mul_zero]
    rw [e0, e1, e2]
theorem wSp_2 : wSp 2 123581014175598 := by
  intro A n hn h
  constructor
  · intro e
    have : n = 0 ∨ n = 1 ∨ n = 2 ∨ n = 3 ∨ n = 4 ∨ n = 5 ∨ n = 6 ∨ n = 7 := by omega
    rcases this with rfl | rfl | rfl | rfl | rfl | rfl | rfl | rfl
    · simp only [vF, Nat.reduceAdd, Nat.zero_add, Nat.mul_zero] at e
      clear h hn
      omega
    · simp only [vF, Nat.reduceAdd, Nat.zero_add, Nat.mul_zero] at e
      have h0 := h 0 (by omega)
      clear h hn
      omega
    · simp only [vF, Nat.reduceAdd, Nat.zero_add, Nat.mul_zero] at e
      have h0 := h 0 (by omega)
      have h1 := h 1 (by omega)
      clear h hn
      omega
    · simp only [vF, Nat.reduceAdd, Nat.zero_add, Nat.mul_zero] at e
      have h0 := h 0 (by omega)
      have h1 := h 1 (by omega)
      have h2 := h 2 (by omega)
      clear h hn
      omega
    · simp only [vF, Nat.reduceAdd, Nat.zero_add, Nat.mul_zero] at e
      have h0 := h 0 (by omega)
      have h1 := h 1 (by omega)
      have h2 := h 2 (by omega)
      have h3 := h 3 (by omega)
      clear h hn
      omega
    · simp only [vF, Nat.reduceAdd, Nat.zero_add, Nat.mul_zero] at e
      have h0 := h 0 (by omega)
      have h1 := h 1 (by omega)
      have h2 := h 2 (by omega)
      have h3 := h 3 (by omega)
      have h4 := h 4 (by omega)
      clear h hn
      omega
    · simp only [vF, Nat.reduceAdd, Nat.zero_add, Nat.mul_zero] at e
      have h0 := h 0 (by omega)
      have h1 := h 1 (by omega)
      have h2 := h 2 (by omega)
      have h3 := h 3 (by omega)
      have h4 := h 4 (by omega)
      have h5 := h 5 (by omega)
      clear h hn
      have e5 : A 5 = 110 := by omega
      rw [e5] at e
      have e4 : A 4 = 111 := by omega
      rw [e4] at e
      have e3 : A 3 = 115 := by omega
      rw [e3] at e
      have e2 : A 2 = 114 := by omega
      rw [e2] at e
      have e1 : A 1 = 101 := by omega
      rw [e1] at e
      have e0 : A 0 = 112 := by omega
      refine ⟨rfl, fun j hj => ?_⟩
      match j, hj with
      | 0, _ => rw [e0]; rfl
      | 1, _ => rw [e1]; rfl
      | 2, _ => rw [e2]; rfl
      | 3, _ => rw [e3]; rfl
      | 4, _ => rw [e4]; rfl
      | 5, _ => rw [e5]; rfl
      | j + 6, hj => exact absurd (show j + 6 < 6 from hj) (by omega)
    · simp only [vF, Nat.reduceAdd, Nat.zero_add, Nat.mul_zero] at e
      have h0 := h 0 (by omega)
      have h1 := h 1 (by omega)
      have h2 := h 2 (by omega)
      have h3 := h 3 (by omega)
      have h4 := h 4 (by omega)
      have h5 := h 5 (by omega)
      have h6 := h 6 (by omega)
      clear h hn
      omega
  · rintro ⟨rfl, q⟩
    have h0 : 97 ≤ A 0 ∧ A 0 ≤ 122 := h 0 (by decide)
    have e0 : A 0 = 112 := (nI_eq (b := 112) (by omega) (by omega)).mp (q 0 (by decide))
    have h1 : 97 ≤ A 1 ∧ A 1 ≤ 122 := h 1 (by decide)
    have e1 : A 1 = 101 := (nI_eq (b := 101) (by omega) (by omega)).mp (q 1 (by decide))
    have h2 : 97 ≤ A 2 ∧ A 2 ≤ 122 := h 2 (by decide)
    have e2 : A 2 = 114 := (nI_eq (b := 114) (by omega) (by omega)).mp (q 2 (by decide))
    have h3 : 97 ≤ A 3 ∧ A 3 ≤ 122 := h 3 (by decide)
    have e3 : A 3 = 115 := (nI_eq (b := 115) (by omega) (by omega)).mp (q 3 (by decide))
    have h4 : 97 ≤ A 4 ∧ A 4 ≤ 122 := h 4 (by decide)
    have e4 : A 4 = 111 := (nI_eq (b := 111) (by omega) (by omega)).mp (q 4 (by decide))
    have h5 : 97 ≤ A 5 ∧ A 5 ≤ 122 := h 5 (by decide)
    have e5 : A 5 = 110 := (nI_eq (b := 110) (by omega) (by omega)).mp (q 5 (by decide))
    show vF A 6 0 0 = 123581014175598
    simp only [vF, Nat.reduceAdd, Nat.zero_add, Nat.mul_zero]
    rw [e0, e1, e2, e3, e4, e5]
theorem wSp_3 : wSp 3 27973158311127406 := by
  intro A n hn h
  constructor
  · intro e
    have : n = 0 ∨ n = 1 ∨ n = 2 ∨ n = 3 ∨ n = 4 ∨ n = 5 ∨ n = 6 ∨ n = 7 := by omega
    rcases this with rfl | rfl | rfl | rfl | rfl | rfl | rfl | rfl
    · simp only [vF, Nat.reduceAdd, Nat.zero_add, Nat.mul_zero] at e
      clear h hn
      omega
    · simp only [vF, Nat.reduceAdd, Nat.zero_add, Nat.mul_zero] at e
      have h0 := h 0 (by omega)
      clear h hn
      omega
    · simp only [vF, Nat.reduceAdd, Nat.zero_add, Nat.mul_zero] at e
      have h0 := h 0 (by omega)
      have h1 := h 1 (by omega)
      clear h hn
      omega
    · simp only [vF, Nat.reduceAdd, Nat.zero_add, Nat.mul_zero] at e
      have h0 := h 0 (by omega)
      have h1 := h 1 (by omega)
      have h2 := h 2 (by omega)
      clear h hn
      omega
    · simp only [vF, Nat.reduceAdd, Nat.zero_add, Nat.mul_zero] at e
      have h0 := h 0 (by omega)
      have h1 := h 1 (by omega)
      have h2 := h 2 (by omega)
      have h3 := h 3 (by omega)
      clear h hn
      omega
    · simp only [vF, Nat.reduceAdd, Nat.zero_add, Nat.mul_zero] at e
      have h0 := h 0 (by omega)
      have h1 := h 1 (by omega)
      have h2 := h 2 (by omega)
      have h3 := h 3 (by omega)
      have h4 := h 4 (by omega)
      clear h hn
      omega
    · simp only [vF, Nat.reduceAdd, Nat.zero_add, Nat.mul_zero] at e
      have h0 := h 0 (by omega)
      have h1 := h 1 (by omega)
      have h2 := h 2 (by omega)
      have h3 := h 3 (by omega)
      have h4 := h 4 (by omega)
      have h5 := h 5 (by omega)
      clear h hn
      omega
    · simp only [vF, Nat.reduceAdd, Nat.zero_add, Nat.mul_zero] at e
      have h0 := h 0 (by omega)
      have h1 := h 1 (by omega)
      have h2 := h 2 (by omega)
      have h3 := h 3 (by omega)
      have h4 := h 4 (by omega)
      have h5 := h 5 (by omega)
      have h6 := h 6 (by omega)
      clear h hn
      have e6 : A 6 = 110 := by omega
      rw [e6] at e
      have e5 : A 5 = 105 := by omega
      rw [e5] at e
      have e4 : A 4 = 97 := by omega
      rw [e4] at e
      have e3 : A 3 = 116 := by omega
      rw [e3] at e
      have e2 : A 2 = 112 := by omega
      rw [e2] at e
      have e1 : A 1 = 97 := by omega
      rw [e1] at e
      have e0 : A 0 = 99 := by omega
      refine ⟨rfl, fun j hj => ?_⟩
      match j, hj with
      | 0, _ => rw [e0]; rfl
      | 1, _ => rw [e1]; rfl
      | 2, _ => rw [e2]; rfl
      | 3, _ => rw [e3]; rfl
      | 4, _ => rw [e4]; rfl
      | 5, _ => rw [e5]; rfl
      | 6, _ => rw [e6]; rfl
      | j + 7, hj => exact absurd (show j + 7 < 7 from hj) (by omega)
  · rintro ⟨rfl, q⟩
    have h0 : 97 ≤ A 0 ∧ A 0 ≤ 122 := h 0 (by decide)
    have e0 : A 0 = 99 := (nI_eq (b := 99) (by omega) (by omega)).mp (q 0 (by decide))
    have h1 : 97 ≤ A 1 ∧ A 1 ≤ 122 := h 1 (by decide)
    have e1 : A 1 = 97 := (nI_eq (b := 97) (by omega) (by omega)).mp (q 1 (by decide))
    have h2 : 97 ≤ A 2 ∧ A 2 ≤ 122 := h 2 (by decide)
    have e2 : A 2 = 112 := (nI_eq (b := 112) (by omega) (by omega)).mp (q 2 (by decide))
    have h3 : 97 ≤ A 3 ∧ A 3 ≤ 122 := h 3 (by decide)
    have e3 : A 3 = 116 := (nI_eq (b := 116) (by omega) (by omega)).mp (q 3 (by decide))
    have h4 : 97 ≤ A 4 ∧ A 4 ≤ 122 := h 4 (by decide)
    have e4 : A 4 = 97 := (nI_eq (b := 97) (by omega) (by omega)).mp (q 4 (by decide))
    have h5 : 97 ≤ A 5 ∧ A 5 ≤ 122 := h 5 (by decide)
    have e5 : A 5 = 105 := (nI_eq (b := 105) (by omega) (by omega)).mp (q 5 (by decide))
    have h6 : 97 ≤ A 6 ∧ A 6 ≤ 122 := h 6 (by decide)
    have e6 : A 6 = 110 := (nI_eq (b := 110) (by omega) (by omega)).mp (q 6 (by decide))
    show vF A 7 0 0 = 27973158311127406
    simp only [vF, Nat.reduceAdd, Nat.zero_add, Nat.mul_zero]
    rw [e0, e1, e2, e3, e4, e5, e6]
theorem wSp_4 : wSp 4 482805051252 := by
  intro A n hn h
  constructor
  · intro e
    have : n = 0 ∨ n = 1 ∨ n = 2 ∨ n = 3 ∨ n = 4 ∨ n = 5 ∨ n = 6 ∨ n = 7 := by omega
    rcases this with rfl | rfl | rfl | rfl | rfl | rfl | rfl | rfl
    · simp only [vF, Nat.reduceAdd, Nat.zero_add, Nat.mul_zero] at e
      clear h hn
      omega
    · simp only [vF, Nat.reduceAdd, Nat.zero_add, Nat.mul_zero] at e
      have h0 := h 0 (by omega)
      clear h hn
      omega
    · simp only [vF, Nat.reduceAdd, Nat.zero_add, Nat.mul_zero] at e
      have h0 := h 0 (by omega)
      have h1 := h 1 (by omega)
      clear h hn
      omega
    · simp only [vF, Nat.reduceAdd, Nat.zero_add, Nat.mul_zero] at e
      have h0 := h 0 (by omega)
      have h1 := h 1 (by omega)
      have h2 := h 2 (by omega)
      clear h hn
      omega
    · simp only [vF, Nat.reduceAdd, Nat.zero_add, Nat.mul_zero] at e
      have h0 := h 0 (by omega)
      have h1 := h 1 (by omega)
      have h2 := h 2 (by omega)
      have h3 := h 3 (by omega)
      clear h hn
      omega
    · simp only [vF, Nat.reduceAdd, Nat.zero_add, Nat.mul_zero] at e
      have h0 := h 0 (by omega)
      have h1 := h 1 (by omega)
      have h2 := h 2 (by omega)
      have h3 := h 3 (by omega)
      have h4 := h 4 (by omega)
      clear h hn
      have e4 : A 4 = 116 := by omega
      rw [e4] at e
      have e3 : A 3 = 111 := by omega
      rw [e3] at e
      have e2 : A 2 = 108 := by omega
      rw [e2] at e
      have e1 : A 1 = 105 := by omega
      rw [e1] at e
      have e0 : A 0 = 112 := by omega
      refine ⟨rfl, fun j hj => ?_⟩
      match j, hj with
      | 0, _ => rw [e0]; rfl
      | 1, _ => rw [e1]; rfl
      | 2, _ => rw [e2]; rfl
      | 3, _ => rw [e3]; rfl
      | 4, _ => rw [e4]; rfl
      | j + 5, hj => exact absurd (show j + 5 < 5 from hj) (by omega)
    · simp only [vF, Nat.reduceAdd, Nat.zero_add, Nat.mul_zero] at e
      have h0 := h 0 (by omega)
      have h1 := h 1 (by omega)
      have h2 := h 2 (by omega)
      have h3 := h 3 (by omega)
      have h4 := h 4 (by omega)
      have h5 := h 5 (by omega)
      clear h hn
      omega
    · simp only [vF, Nat.reduceAdd, Nat.zero_add, Nat.mul_zero] at e
      have h0 := h 0 (by omega)
      have h1 := h 1 (by omega)
      have h2 := h 2 (by omega)
      have h3 := h 3 (by omega)
      have h4 := h 4 (by omega)
      have h5 := h 5 (by omega)
      have h6 := h 6 (by omega)
      clear h hn
      omega
  · rintro ⟨rfl, q⟩
    have h0 : 97 ≤ A 0 ∧ A 0 ≤ 122 := h 0 (by decide)
    have e0 : A 0 = 112 := (nI_eq (b := 112) (by omega) (by omega)).mp (q 0 (by decide))
    have h1 : 97 ≤ A 1 ∧ A 1 ≤ 122 := h 1 (by decide)
    have e1 : A 1 = 105 := (nI_eq (b := 105) (by omega) (by omega)).mp (q 1 (by decide))
    have h2 : 97 ≤ A 2 ∧ A 2 ≤ 122 := h 2 (by decide)
    have e2 : A 2 = 108 := (nI_eq (b := 108) (by omega) (by omega)).mp (q 2 (by decide))
    have h3 : 97 ≤ A 3 ∧ A 3 ≤ 122 := h 3 (by decide)
    have e3 : A 3 = 111 := (nI_eq (b := 111) (by omega) (by omega)).mp (q 3 (by decide))
    have h4 : 97 ≤ A 4 ∧ A 4 ≤ 122 := h 4 (by decide)
    have e4 : A 4 = 116 := (nI_eq (b := 116) (by omega) (by omega)).mp (q 4 (by decide))
    show vF A 5 0 0 = 482805051252
    simp only [vF, Nat.reduceAdd, Nat.zero_add, Nat.mul_zero]
    rw [e0, e1, e2, e3, e4]
theorem wSp_5 : wSp 5 1836019307 := by
  intro A n hn h
  constructor
  · intro e
    have : n = 0 ∨ n = 1 ∨ n = 2 ∨ n = 3 ∨ n = 4 ∨ n = 5 ∨ n = 6 ∨ n = 7 := by omega
    rcases this with rfl | rfl | rfl | rfl | rfl | rfl | rfl | rfl
    · simp only [vF, Nat.reduceAdd, Nat.zero_add, Nat.mul_zero] at e
      clear h hn
      omega
    · simp only [vF, Nat.reduceAdd, Nat.zero_add, Nat.mul_zero] at e
      have h0 := h 0 (by omega)
      clear h hn
      omega
    · simp only [vF, Nat.reduceAdd, Nat.zero_add, Nat.mul_zero] at e
      have h0 := h 0 (by omega)
      have h1 := h 1 (by omega)
      clear h hn
      omega
    · simp only [vF, Nat.reduceAdd, Nat.zero_add, Nat.mul_zero] at e
      have h0 := h 0 (by omega)
      have h1 := h 1 (by omega)
      have h2 := h 2 (by omega)
      clear h hn
      omega
    · simp only [vF, Nat.reduceAdd, Nat.zero_add, Nat.mul_zero] at e
      have h0 := h 0 (by omega)
      have h1 := h 1 (by omega)
      have h2 := h 2 (by omega)
      have h3 := h 3 (by omega)
      clear h hn
      have e3 : A 3 = 107 := by omega
      rw [e3] at e
      have e2 : A 2 = 110 := by omega
      rw [e2] at e
      have e1 : A 1 = 111 := by omega
      rw [e1] at e
      have e0 : A 0 = 109 := by omega
      refine ⟨rfl, fun j hj => ?_⟩
      match j, hj with
      | 0, _ => rw [e0]; rfl
      | 1, _ => rw [e1]; rfl
      | 2, _ => rw [e2]; rfl
      | 3, _ => rw [e3]; rfl
      | j + 4, hj => exact absurd (show j + 4 < 4 from hj) (by omega)
    · simp only [vF, Nat.reduceAdd, Nat.zero_add, Nat.mul_zero] at e
      have h0 := h 0 (by omega)
      have h1 := h 1 (by omega)
      have h2 := h 2 (by omega)
      have h3 := h 3 (by omega)
      have h4 := h 4 (by omega)
      clear h hn
      omega
    · simp only [vF, Nat.reduceAdd, Nat.zero_add, Nat.mul_zero] at e
      have h0 := h 0 (by omega)
      have h1 := h 1 (by omega)
      have h2 := h 2 (by omega)
      have h3 := h 3 (by omega)
      have h4 := h 4 (by omega)
      have h5 := h 5 (by omega)
      clear h hn
      omega
    · simp only [vF, Nat.reduceAdd, Nat.zero_add, Nat.mul_zero] at e
      have h0 := h 0 (by omega)
      have h1 := h 1 (by omega)
      have h2 := h 2 (by omega)
      have h3 := h 3 (by omega)
      have h4 := h 4 (by omega)
      have h5 := h 5 (by omega)
      have h6 := h 6 (by omega)
      clear h hn
      omega
  · rintro ⟨rfl, q⟩
    have h0 : 97 ≤ A 0 ∧ A 0 ≤ 122 := h 0 (by decide)
    have e0 : A 0 = 109 := (nI_eq (b := 109) (by omega) (by omega)).mp (q 0 (by decide))
    have h1 : 97 ≤ A 1 ∧ A 1 ≤ 122 := h 1 (by decide)
    have e1 : A 1 = 111 := (nI_eq (b := 111) (by omega) (by omega)).mp (q 1 (by decide))
    have h2 : 97 ≤ A 2 ∧ A 2 ≤ 122 := h 2 (by decide)
    have e2 : A 2 = 110 := (nI_eq (b := 110) (by omega) (by omega)).mp (q 2 (by decide))
    have h3 : 97 ≤ A 3 ∧ A 3 ≤ 122 := h 3 (by decide)
    have e3 : A 3 = 107 := (nI_eq (b := 107) (by omega) (by omega)).mp (q 3 (by decide))
    show vF A 4 0 0 = 1836019307
    simp only [vF, Nat.reduceAdd, Nat.zero_add, Nat.mul_zero]
    rw [e0, e1, e2, e3]
theorem wSp_6 : wSp 6 427020350059 := by
  intro A n hn h
  constructor
  · intro e
    have : n = 0 ∨ n = 1 ∨ n = 2 ∨ n = 3 ∨ n = 4 ∨ n = 5 ∨ n = 6 ∨ n = 7 := by omega
    rcases this with rfl | rfl | rfl | rfl | rfl | rfl | rfl | rfl
    · simp only [vF, Nat.reduceAdd, Nat.zero_add, Nat.mul_zero] at e
      clear h hn
      omega
    · simp only [vF, Nat.reduceAdd, Nat.zero_add, Nat.mul_zero] at e
      have h0 := h 0 (by omega)
      clear h hn
      omega
    · simp only [vF, Nat.reduceAdd, Nat.zero_add, Nat.mul_zero] at e
      have h0 := h 0 (by omega)
      have h1 := h 1 (by omega)
      clear h hn
      omega
    · simp only [vF, Nat.reduceAdd, Nat.zero_add, Nat.mul_zero] at e
      have h0 := h 0 (by omega)
      have h1 := h 1 (by omega)
      have h2 := h 2 (by omega)
      clear h hn
      omega
    · simp only [vF, Nat.reduceAdd, Nat.zero_add, Nat.mul_zero] at e
      have h0 := h 0 (by omega)
      have h1 := h 1 (by omega)
      have h2 := h 2 (by omega)
      have h3 := h 3 (by omega)
      clear h hn
      omega
    · simp only [vF, Nat.reduceAdd, Nat.zero_add, Nat.mul_zero] at e
      have h0 := h 0 (by omega)
      have h1 := h 1 (by omega)
      have h2 := h 2 (by omega)
      have h3 := h 3 (by omega)
      have h4 := h 4 (by omega)
      clear h hn
      have e4 : A 4 = 107 := by omega
      rw [e4] at e
      have e3 : A 3 = 114 := by omega
      rw [e3] at e
      have e2 : A 2 = 101 := by omega
      rw [e2] at e
      have e1 : A 1 = 108 := by omega
      rw [e1] at e
      have e0 : A 0 = 99 := by omega
      refine ⟨rfl, fun j hj => ?_⟩
      match j, hj with
      | 0, _ => rw [e0]; rfl
      | 1, _ => rw [e1]; rfl
      | 2, _ => rw [e2]; rfl
      | 3, _ => rw [e3]; rfl
      | 4, _ => rw [e4]; rfl
      | j + 5, hj => exact absurd (show j + 5 < 5 from hj) (by omega)
    · simp only [vF, Nat.reduceAdd, Nat.zero_add, Nat.mul_zero] at e
      have h0 := h 0 (by omega)
      have h1 := h 1 (by omega)
      have h2 := h 2 (by omega)
      have h3 := h 3 (by omega)
      have h4 := h 4 (by omega)
      have h5 := h 5 (by omega)
      clear h hn
      omega
    · simp only [vF, Nat.reduceAdd, Nat.zero_add, Nat.mul_zero] at e
      have h0 := h 0 (by omega)
      have h1 := h 1 (by omega)
      have h2 := h 2 (by omega)
      have h3 := h 3 (by omega)
      have h4 := h 4 (by omega)
      have h5 := h 5 (by omega)
      have h6 := h 6 (by omega)
      clear h hn
      omega
  · rintro ⟨rfl, q⟩
    have h0 : 97 ≤ A 0 ∧ A 0 ≤ 122 := h 0 (by decide)
    have e0 : A 0 = 99 := (nI_eq (b := 99) (by omega) (by omega)).mp (q 0 (by decide))
    have h1 : 97 ≤ A 1 ∧ A 1 ≤ 122 := h 1 (by decide)
    have e1 : A 1 = 108 := (nI_eq (b := 108) (by omega) (by omega)).mp (q 1 (by decide))
    have h2 : 97 ≤ A 2 ∧ A 2 ≤ 122 := h 2 (by decide)
    have e2 : A 2 = 101 := (nI_eq (b := 101) (by omega) (by omega)).mp (q 2 (by decide))
    have h3 : 97 ≤ A 3 ∧ A 3 ≤ 122 := h 3 (by decide)
    have e3 : A 3 = 114 := (nI_eq (b := 114) (by omega) (by omega)).mp (q 3 (by decide))
    have h4 : 97 ≤ A 4 ∧ A 4 ≤ 122 := h 4 (by decide)
    have e4 : A 4 = 107 := (nI_eq (b := 107) (by omega) (by omega)).mp (q 4 (by decide))
    show vF A 5 0 0 = 427020350059
    simp only [vF, Nat.reduceAdd, Nat.zero_add, Nat.mul_zero]
    rw [e0, e1, e2, e3, e4]
theorem wSp_7 : wSp 7 6451065 := by
  intro A n hn h
  constructor
  · intro e
    have : n = 0 ∨ n = 1 ∨ n = 2 ∨ n = 3 ∨ n = 4 ∨ n = 5 ∨ n = 6 ∨ n = 7 := by omega
    rcases this with rfl | rfl | rfl | rfl | rfl | rfl | rfl | rfl
    · simp only [vF, Nat.reduceAdd, Nat.zero_add, Nat.mul_zero] at e
      clear h hn
      omega
    · simp only [vF, Nat.reduceAdd, Nat.zero_add, Nat.mul_zero] at e
      have h0 := h 0 (by omega)
      clear h hn
      omega
    · simp only [vF, Nat.reduceAdd, Nat.zero_add, Nat.mul_zero] at e
      have h0 := h 0 (by omega)
      have h1 := h 1 (by omega)
      clear h hn
      omega
    · simp only [vF, Nat.reduceAdd, Nat.zero_add, Nat.mul_zero] at e
      have h0 := h 0 (by omega)
      have h1 := h 1 (by omega)
      have h2 := h 2 (by omega)
      clear h hn
      have e2 : A 2 = 121 := by omega
      rw [e2] at e
      have e1 : A 1 = 111 := by omega
      rw [e1] at e
      have e0 : A 0 = 98 := by omega
      refine ⟨rfl, fun j hj => ?_⟩
      match j, hj with
      | 0, _ => rw [e0]; rfl
      | 1, _ => rw [e1]; rfl
      | 2, _ => rw [e2]; rfl
      | j + 3, hj => exact absurd (show j + 3 < 3 from hj) (by omega)
    · simp only [vF, Nat.reduceAdd, Nat.zero_add, Nat.mul_zero] at e
      have h0 := h 0 (by omega)
      have h1 := h 1 (by omega)
      have h2 := h 2 (by omega)
      have h3 := h 3 (by omega)
      clear h hn
      omega
    · simp only [vF, Nat.reduceAdd, Nat.zero_add, Nat.mul_zero] at e
      have h0 := h 0 (by omega)
      have h1 := h 1 (by omega)
      have h2 := h 2 (by omega)
      have h3 := h 3 (by omega)
      have h4 := h 4 (by omega)
      clear h hn
      omega
    · simp only [vF, Nat.reduceAdd, Nat.zero_add, Nat.mul_zero] at e
      have h0 := h 0 (by omega)
      have h1 := h 1 (by omega)
      have h2 := h 2 (by omega)
      have h3 := h 3 (by omega)
      have h4 := h 4 (by omega)
      have h5 := h 5 (by omega)
      clear h hn
      omega
    · simp only [vF, Nat.reduceAdd, Nat.zero_add, Nat.mul_zero] at e
      have h0 := h 0 (by omega)
      have h1 := h 1 (by omega)
      have h2 := h 2 (by omega)
      have h3 := h 3 (by omega)
      have h4 := h 4 (by omega)
      have h5 := h 5 (by omega)
      have h6 := h 6 (by omega)
      clear h hn
      omega
  · rintro ⟨rfl, q⟩
    have h0 : 97 ≤ A 0 ∧ A 0 ≤ 122 := h 0 (by decide)
    have e0 : A 0 = 98 := (nI_eq (b := 98) (by omega) (by omega)).mp (q 0 (by decide))
    have h1 : 97 ≤ A 1 ∧ A 1 ≤ 122 := h 1 (by decide)
    have e1 : A 1 = 111 := (nI_eq (b := 111) (by omega) (by omega)).mp (q 1 (by decide))
    have h2 : 97 ≤ A 2 ∧ A 2 ≤ 122 := h 2 (by decide)
    have e2 : A 2 = 121 := (nI_eq (b := 121) (by omega) (by omega)).mp (q 2 (by decide))
    show vF A 3 0 0 = 6451065
    simp only [vF, Nat.reduceAdd, Nat.zero_add, Nat.mul_zero]
    rw [e0, e1, e2]
theorem TR.name {C0 M0 C M : zm} {t : Nat} (h : TR C0 M0 t C M) (h0 : C.1 12 6 = 0) : ∃ (s n : Nat) (A : Nat → Nat), tS C = s ∧ tB C = s + n ∧ (C.1 12 2 = 1 → ∀ k, k < n → C.1 13 (s + k) = nI (A k) ∧ 97 ≤ A k ∧ A k ≤ 122) ∧ mName M = (if C.1 12 2 = 1 ∧ n < 8 then lN (vF A n 0 0) else 0) ∧ (C.1 12 2 = 1 → n < 8 → vF A n 0 0 < 9223372036854775808) := by
  have ht := h.1.1
  have hb := h.bytes
  have hv := (h.val h0).2.2.2.1
  obtain ⟨s, b, ⟨k1, k2⟩, ⟨k3, k4⟩, ⟨k5, k6, k7⟩, k8⟩ := h.2.2.2.2.2 h0
  have m0 := h.zero.mp h0
  have e1 : tS C = s := by unfold tS; rw [k3, nI_clamp (by omega)]
  have e2 : tB C = b := by unfold tB; rw [k4, nI_clamp (by omega)]
  have e3 : mS M = s := by unfold mS; rw [k5, nI_clamp (by omega)]
  have e4 : mE M = b := by unfold mE; rw [k7, nI_clamp (by omega)]
  have hlet : C.1 12 2 = 1 → ∀ k, s ≤ k → k < b → 97 ≤ C.1 13 k ∧ C.1 13 k ≤ 122 := fun q => by
    rcases k8 with ⟨q1, _⟩ | ⟨_, _, q3⟩ | ⟨q1, _⟩ | ⟨q1, _⟩ | ⟨q1, _⟩
    · rw [q1] at q; exact absurd q (by decide)
    · exact q3
    · rw [q1] at q; exact absurd q (by decide)
    · rw [q1] at q; exact absurd q (by decide)
    · rw [q1] at q; exact absurd q (by decide)
  have hA : C.1 12 2 = 1 → ∀ k, k < b - s → C.1 13 (s + k) = nI (C.1 13 (s + k)).toNatClampNeg ∧ 97 ≤ (C.1 13 (s + k)).toNatClampNeg ∧ (C.1 13 (s + k)).toNatClampNeg ≤ 122 := fun q k hk => by
    obtain ⟨z1, z2⟩ := hlet q (s + k) (by omega) (by omega)
    obtain ⟨j, hj, ej⟩ := nI_of2 (x := C.1 13 (s + k)) (n := 122) (M := 122) (by decide) (fun z => absurd (Int32.lt_of_lt_of_le z (show (0 : Int32) ≤ 97 by decide)) (Int32.not_lt.mpr z1)) z2
    rw [ej] at z1 ⊢
    rw [nI_clamp (by omega)]
    exact ⟨rfl, (nI_leI (a := 97) (by omega) (by omega)).mp z1, hj⟩
  have hm : C.1 12 2 = 1 → b - s < 8 → mNm (M.1 187) (b - s) s 0 = lN (vF (fun k => (C.1 13 (s + k)).toNatClampNeg) (b - s) 0 0) ∧ vF (fun k => (C.1 13 (s + k)).toNatClampNeg) (b - s) 0 0 < 256 ^ (0 + (b - s)) := fun q hn =>
    mNm_v (f := M.1 187) (s := s) (b - s) 0 0 0 (fun i _ i2 => by
      obtain ⟨z1, z2, z3⟩ := hA q i (by omega)
      exact ⟨(hb (s + i) (by omega)).symm.trans z1, by omega⟩) (by decide) (by omega)
  refine ⟨s, b - s, fun k => (C.1 13 (s + k)).toNatClampNeg, e1, by omega, hA, ?_, fun q hn => ?_⟩
  · rw [mName_of e3 e4, if_pos m0]
    by_cases c : C.1 12 2 = 1 ∧ b - s < 8
    · rw [if_pos ⟨hv.mp c.1, c.2⟩, if_pos c]
      exact (hm c.1 c.2).1
    · rw [if_neg (fun z => c ⟨hv.mpr z.1, z.2⟩), if_neg c]
  · have := (hm q hn).2
    have h7 : 256 ^ (0 + (b - s)) ≤ 256 ^ 7 := Nat.pow_le_pow_right (by decide) (by omega)
    exact Nat.lt_of_lt_of_le this (Nat.le_trans h7 (by decide))
theorem TR.word {C0 M0 C M : zm} {t : Nat} (h : TR C0 M0 t C M) (h0 : C.1 12 6 = 0) {i code : Nat} (hw : wSp i code) (hlen : zLen.getD i 0 ≤ 7) (h1 : 0 < code) (h2 : code < 9223372036854775808) : isWx C i ↔ mName M = lN code := by
  obtain ⟨s, n, A, e1, e2, e3, e4, e5⟩ := h.name h0
  have hz : ¬ (0 : Int64) = lN code := fun e => by
    have := (pk_lEQ (a := 0) (b := code) (by omega) h2).mp e
    omega
  show (C.1 12 2 = 1 ∧ tB C - tS C = zLen.getD i 0 ∧ cWordB (C.1 13) i (tS C) (zLen.getD i 0) 0 = true) ↔ _
  rw [e1, e2, e4, show s + n - s = n by omega]
  by_cases q : C.1 12 2 = 1
  · by_cases hn : n < 8
    · rw [if_pos ⟨q, hn⟩, pk_lEQ (e5 q hn) h2, hw A n (by omega) (fun k hk => (e3 q k hk).2), cWordB_i]
      constructor
      · rintro ⟨_, r1, r2⟩
        refine ⟨r1, fun j hj => ?_⟩
        rw [← (e3 q j (by omega)).1]
        exact r2 j (by omega) (by omega)
      · rintro ⟨r1, r2⟩
        refine ⟨q, r1, fun j _ hj => ?_⟩
        rw [(e3 q j (by omega)).1]
        exact r2 j (by omega)
    · rw [if_neg (fun z => hn z.2)]
      exact ⟨fun z => absurd z.2.1 (by omega), fun z => absurd z hz⟩
  · rw [if_neg (fun z => q z.1)]
    exact ⟨fun z => absurd z.1 q, fun z => absurd z hz⟩
theorem sort_eq {C M : zm} (w3 : isWx C 3 ↔ mName M = 27973158311127406) (w4 : isWx C 4 ↔ mName M = 482805051252) (w5 : isWx C 5 ↔ mName M = 1836019307) (w6 : isWx C 6 ↔ mName M = 427020350059) (w7 : isWx C 7 ↔ mName M = 6451065) : (cSortI C = 0 ∧ kindB (mName M) = -1000000) ∨ ∃ k : Nat, (1 ≤ k ∧ k ≤ 5) ∧ cSortI C = nI k ∧ kindB (mName M) = nI k := by
  unfold cSortI kindB
  by_cases h3 : mName M = 27973158311127406
  · rw [if_pos (w3.mpr h3), if_pos h3]
    exact Or.inr ⟨1, by omega, rfl, rfl⟩
  · rw [if_neg (fun z => h3 (w3.mp z)), if_neg h3]
    by_cases h4 : mName M = 482805051252
    · rw [if_pos (w4.mpr h4), if_pos h4]
      exact Or.inr ⟨2, by omega, rfl, rfl⟩
    · rw [if_neg (fun z => h4 (w4.mp z)), if_neg h4]
      by_cases h5 : mName M = 1836019307
      · rw [if_pos (w5.mpr h5), if_pos h5]
        exact Or.inr ⟨3, by omega, rfl, rfl⟩
      · rw [if_neg (fun z => h5 (w5.mp z)), if_neg h5]
        by_cases h6 : mName M = 427020350059
        · rw [if_pos (w6.mpr h6), if_pos h6]
          exact Or.inr ⟨4, by omega, rfl, rfl⟩
        · rw [if_neg (fun z => h6 (w6.mp z)), if_neg h6]
          by_cases h7 : mName M = 6451065
          · rw [if_pos (w7.mpr h7), if_pos h7]
            exact Or.inr ⟨5, by omega, rfl, rfl⟩
          · rw [if_neg (fun z => h7 (w7.mp z)), if_neg h7]
            exact Or.inl ⟨rfl, rfl⟩
theorem TR.sorts {C0 M0 C M : zm} {t : Nat} (h : TR C0 M0 t C M) : TR C0 M0 t (cSortM C) (if M.1 180 17 = 0 then mMust M (if kindB (mName M) = -1000000 then 0 else 1) else M) ∧ ((cSortM C).1 12 6 = 0 → C.1 12 6 = 0 ∧ cSortR C = kindB (mName M) ∧ ∃ k : Nat, (1 ≤ k ∧ k ≤ 5) ∧ kindB (mName M) = nI k) := by
  by_cases h0 : C.1 12 6 = 0
  · have m0 := h.zero.mp h0
    rw [if_pos m0]
    unfold cSortM cSortR
    rcases sort_eq (h.word h0 wSp_3 (by decide) (by decide) (by decide)) (h.word h0 wSp_4 (by decide) (by decide) (by decide)) (h.word h0 wSp_5 (by decide) (by decide) (by decide)) (h.word h0 wSp_6 (by decide) (by decide) (by decide)) (h.word h0 wSp_7 (by decide) (by decide) (by decide)) with ⟨q1, q2⟩ | ⟨k, hk, q1, q2⟩
    · rw [if_neg (fun z => z.2 q1), if_pos q2]
      unfold mMust
      rw [if_pos rfl, mgo_f (mbad_n (by decide))]
      exact ⟨h.bad (by decide), fun z => absurd z (fail_n (by decide))⟩
    · have hk0 : ¬ cSortI C = 0 := by rw [q1]; exact nI_ne0 (by omega) (by omega)
      have hp : C.1 12 6 = 0 ∧ ¬ cSortI C = 0 := ⟨h0, hk0⟩
      rw [if_pos hp, if_pos hp, q2, if_neg (show ¬ nI k = -1000000 from nI_none (by omega))]
      unfold mMust
      rw [if_neg (by decide), show mGo M = mNx M from if_pos m0]
      exact ⟨h.nx h0, fun _ => ⟨h0, q1, k, hk, rfl⟩⟩
  · have m0 : ¬ M.1 180 17 = 0 := fun q => h0 (h.zero.mpr q)
    rw [if_neg m0]
    unfold cSortM
    rw [if_neg (fun z => h0 z.1), fail_f h0]
    exact ⟨h, fun z => absurd z h0⟩
