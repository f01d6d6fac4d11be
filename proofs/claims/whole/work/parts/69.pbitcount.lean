/-! ===== pure: how many bits a set has, the first, the last ===== -/
def q9p : Nat → Nat → Nat
  | 0, _ => 0
  | k + 1, n => n % 2 + q9p k (n / 2)
theorem q9p_cat (a : Nat) : ∀ (k n : Nat), q9p (k + a) n = q9p k n + q9p a (n / 2 ^ k) := by
  intro k
  induction k with
  | zero => intro n; rw [Nat.zero_add, q9p, Nat.pow_zero, Nat.div_one, Nat.zero_add]
  | succ k ih =>
    intro n
    have e : n / 2 / 2 ^ k = n / 2 ^ (k + 1) := by rw [Nat.div_div_eq_div_mul, Nat.pow_succ, Nat.mul_comm]
    rw [show k + 1 + a = (k + a) + 1 by omega, q9p, q9p, ih, e, Nat.add_assoc]
theorem q9p_mod : ∀ (k n : Nat), q9p k n = q9p k (n % 2 ^ k) := by
  intro k
  induction k with
  | zero => intro n; rfl
  | succ k ih =>
    intro n
    rw [q9p, q9p, ih (n / 2), ih (n % 2 ^ (k + 1) / 2), Nat.pow_succ', Nat.mod_mul_right_mod, Nat.mod_mul_right_div_self, Nat.mod_mod]
theorem q9p_le : ∀ (k n : Nat), q9p k n ≤ k := by
  intro k
  induction k with
  | zero => intro n; exact Nat.le_refl _
  | succ k ih => intro n; have := ih (n / 2); rw [q9p]; omega
/-- a mask of k bytes alike -/
def q9m (b : Nat) : Nat → Nat
  | 0 => 0
  | k + 1 => 256 * q9m b k + b
theorem q9_and {v b M c : Nat} (hb : b < 256) (hc : c < 256) : (256 * v + b) &&& (256 * M + c) = 256 * (v &&& M) + (b &&& c) := by
  have h1 := Nat.and_div_two_pow (a := 256 * v + b) (b := 256 * M + c) (n := 8)
  have h2 := Nat.and_mod_two_pow (a := 256 * v + b) (b := 256 * M + c) (n := 8)
  rw [show 2 ^ 8 = 256 from rfl] at h1 h2
  rw [show (256 * v + b) / 256 = v by omega, show (256 * M + c) / 256 = M by omega] at h1
  rw [show (256 * v + b) % 256 = b by omega, show (256 * M + c) % 256 = c by omega] at h2
  omega
def q9a (k n : Nat) : Nat := n - (n / 2 &&& q9m 85 k)
def q9b (k n : Nat) : Nat := (q9a k n &&& q9m 51 k) + (q9a k n / 4 &&& q9m 51 k)
def q9c (k n : Nat) : Nat := (q9b k n + q9b k n / 16) &&& q9m 15 k
def q8a (b : Nat) : Nat := b - (b / 2 &&& 85)
def q8b (b : Nat) : Nat := (q8a b &&& 51) + (q8a b / 4 &&& 51)
theorem q9_t1 : ∀ t, t < 2 → ∀ b, b < 256 → (128 * t + b / 2) &&& 85 = b / 2 &&& 85 := by decide +kernel
theorem q9_t2 : ∀ t, t < 4 → ∀ b, b < 256 → (64 * t + b / 4) &&& 51 = b / 4 &&& 51 := by decide +kernel
theorem q9_t3 : ∀ b, b < 256 → q8a b < 256 ∧ q8b b % 16 ≤ 4 ∧ q8b b < 256 := by decide +kernel
theorem q9_t4 : ∀ t, t < 5 → ∀ b, b < 256 → q8b b + (16 * t + q8b b / 16) < 256 ∧ (q8b b + (16 * t + q8b b / 16)) &&& 15 = q9p 8 b := by decide +kernel
theorem q9a_s {k v b : Nat} (hb : b < 256) : q9a (k + 1) (256 * v + b) = 256 * q9a k v + q8a b := by
  unfold q9a q8a
  rw [q9m, show (256 * v + b) / 2 = 256 * (v / 2) + (128 * (v % 2) + b / 2) by omega, q9_and (by omega) (by omega), q9_t1 _ (by omega) b hb]
  have h1 : (v / 2 &&& q9m 85 k) ≤ v / 2 := Nat.and_le_left
  have h2 : (b / 2 &&& 85) ≤ b / 2 := Nat.and_le_left
  omega
theorem q9b_s {k v b : Nat} (hb : b < 256) : q9b (k + 1) (256 * v + b) = 256 * q9b k v + q8b b := by
  have h1 := (q9_t3 b hb).1
  unfold q9b q8b
  rw [q9a_s hb, q9m, show (256 * q9a k v + q8a b) / 4 = 256 * (q9a k v / 4) + (64 * (q9a k v % 4) + q8a b / 4) by omega, q9_and h1 (by omega), q9_and (by omega) (by omega), q9_t2 _ (by omega) _ h1]
  omega
theorem q9b_4 (k n : Nat) : q9b k n % 16 ≤ 4 := by
  cases k with
  | zero => unfold q9b; rw [q9m, Nat.and_zero, Nat.and_zero]; decide
  | succ k =>
    have h := q9b_s (k := k) (v := n / 256) (b := n % 256) (by omega)
    rw [show 256 * (n / 256) + n % 256 = n by omega] at h
    have := (q9_t3 (n % 256) (by omega)).2.1
    rw [h]
    omega
theorem q9c_s {k v b : Nat} (hb : b < 256) : q9c (k + 1) (256 * v + b) = 256 * q9c k v + q9p 8 b := by
  have h4 := q9b_4 k v
  obtain ⟨h1, h2⟩ := q9_t4 (q9b k v % 16) (by omega) b hb
  have h3 := (q9_t3 b hb).2.2
  unfold q9c
  rw [q9b_s hb, q9m, show 256 * q9b k v + q8b b + (256 * q9b k v + q8b b) / 16 = 256 * (q9b k v + q9b k v / 16) + (q8b b + (16 * (q9b k v % 16) + q8b b / 16)) by omega, q9_and h1 (by omega), h2]
theorem q9c_n (k n : Nat) : q9c (k + 1) n = 256 * q9c k (n / 256) + q9p 8 n := by
  have h := q9c_s (k := k) (v := n / 256) (b := n % 256) (by omega)
  rw [show 256 * (n / 256) + n % 256 = n by omega] at h
  rw [h, q9p_mod 8 n]
theorem q9c_0 (n : Nat) : q9c 0 n = 0 := by unfold q9c; rw [q9m, Nat.and_zero]
/-- the bits of 8 bytes -/
theorem q9p_64 (n : Nat) : ∃ p0 p1 p2 p3 p4 p5 p6 p7 : Nat, (p0 ≤ 8 ∧ p1 ≤ 8 ∧ p2 ≤ 8 ∧ p3 ≤ 8 ∧ p4 ≤ 8 ∧ p5 ≤ 8 ∧ p6 ≤ 8 ∧ p7 ≤ 8) ∧ q9c 8 n = p0 + 256 * (p1 + 256 * (p2 + 256 * (p3 + 256 * (p4 + 256 * (p5 + 256 * (p6 + 256 * p7)))))) ∧ q9p 64 n = p0 + p1 + p2 + p3 + p4 + p5 + p6 + p7 := by
  refine ⟨_, _, _, _, _, _, _, _, ⟨q9p_le 8 n, q9p_le 8 (n / 256), q9p_le 8 (n / 256 / 256), q9p_le 8 (n / 256 / 256 / 256), q9p_le 8 (n / 256 / 256 / 256 / 256), q9p_le 8 (n / 256 / 256 / 256 / 256 / 256), q9p_le 8 (n / 256 / 256 / 256 / 256 / 256 / 256), q9p_le 8 (n / 256 / 256 / 256 / 256 / 256 / 256 / 256)⟩, ?_, ?_⟩
  · rw [q9c_n, q9c_n, q9c_n, q9c_n, q9c_n, q9c_n, q9c_n, q9c_n, q9c_0]
    omega
  · have c : ∀ a n, q9p (8 + a) n = q9p 8 n + q9p a (n / 256) := fun a n => q9p_cat a 8 n
    have e1 := c 56 n
    have e2 := c 48 (n / 256)
    have e3 := c 40 (n / 256 / 256)
    have e4 := c 32 (n / 256 / 256 / 256)
    have e5 := c 24 (n / 256 / 256 / 256 / 256)
    have e6 := c 16 (n / 256 / 256 / 256 / 256 / 256)
    have e7 := c 8 (n / 256 / 256 / 256 / 256 / 256 / 256)
    show q9p (8 + 56) n = _
    rw [e1]
    show _ + q9p (8 + 48) _ = _
    rw [e2]
    show _ + (_ + q9p (8 + 40) _) = _
    rw [e3]
    show _ + (_ + (_ + q9p (8 + 32) _)) = _
    rw [e4]
    show _ + (_ + (_ + (_ + q9p (8 + 24) _))) = _
    rw [e5]
    show _ + (_ + (_ + (_ + (_ + q9p (8 + 16) _)))) = _
    rw [e6]
    show _ + (_ + (_ + (_ + (_ + (_ + q9p (8 + 8) _))))) = _
    rw [e7]
    simp only [Nat.add_assoc]
theorem q9_l1 (p0 p1 p2 p3 p4 p5 p6 p7 : Nat) : (p0 + 256 * (p1 + 256 * (p2 + 256 * (p3 + 256 * (p4 + 256 * (p5 + 256 * (p6 + 256 * p7))))))) + (p1 + 256 * (p2 + 256 * (p3 + 256 * (p4 + 256 * (p5 + 256 * (p6 + 256 * p7)))))) = ((p0 + p1) + 256 * (p1 + p2)) + 65536 * (((p2 + p3) + 256 * (p3 + p4)) + 65536 * (((p4 + p5) + 256 * (p5 + p6)) + 65536 * ((p6 + p7) + 256 * p7))) := by omega
theorem q9_l2 (a b c d : Nat) : (a + 65536 * (b + 65536 * (c + 65536 * d))) + (b + 65536 * (c + 65536 * d)) = ((a + b) + 65536 * (b + c)) + 4294967296 * ((c + d) + 65536 * d) := by omega
theorem q9_d1 {a q : Nat} (h : a < 256) : (a + 256 * q) / 256 = q := by omega
theorem q9_d2 {a q : Nat} (h : a < 65536) : (a + 65536 * q) / 65536 = q := by omega
theorem q9_d3 {a q : Nat} (h : a < 4294967296) : (a + 4294967296 * q) / 4294967296 = q := by omega
theorem q9_fin {a b x y z w : Nat} : (((a + 256 * x) + 65536 * y + 4294967296 * ((b + 256 * z) + 65536 * w)) + ((b + 256 * z) + 65536 * w)) % 128 = (a + b) % 128 := by omega
theorem q9_bd {p0 p1 p2 p3 p4 p5 p6 p7 : Nat} (h0 : p0 ≤ 8) (h1 : p1 ≤ 8) (h2 : p2 ≤ 8) (h3 : p3 ≤ 8) (h4 : p4 ≤ 8) (h5 : p5 ≤ 8) (h6 : p6 ≤ 8) (h7 : p7 ≤ 8) : p0 + 256 * (p1 + 256 * (p2 + 256 * (p3 + 256 * (p4 + 256 * (p5 + 256 * (p6 + 256 * p7)))))) < 1152921504606846976 := by omega
theorem q9_sum {p0 p1 p2 p3 p4 p5 p6 p7 c e f : Nat} (h : p0 ≤ 8 ∧ p1 ≤ 8 ∧ p2 ≤ 8 ∧ p3 ≤ 8 ∧ p4 ≤ 8 ∧ p5 ≤ 8 ∧ p6 ≤ 8 ∧ p7 ≤ 8) (hc : c = p0 + 256 * (p1 + 256 * (p2 + 256 * (p3 + 256 * (p4 + 256 * (p5 + 256 * (p6 + 256 * p7))))))) (he : e = c + c / 256) (hf : f = e + e / 65536) : (f + f / 4294967296) % 128 = p0 + p1 + p2 + p3 + p4 + p5 + p6 + p7 ∧ c < 1152921504606846976 ∧ e < 2305843009213693952 ∧ f < 4611686018427387904 := by
  obtain ⟨h0, h1, h2, h3, h4, h5, h6, h7⟩ := h
  have bc : c < 1152921504606846976 := by rw [hc]; exact q9_bd h0 h1 h2 h3 h4 h5 h6 h7
  have e2 := he
  rw [hc, q9_d1 (by clear hc he hf e2 bc; omega), q9_l1] at e2
  have f2 := hf
  rw [e2, q9_d2 (by clear hc he hf e2 f2 bc; omega), q9_l2] at f2
  have be : e < 2305843009213693952 := by rw [he]; clear hc hf e2 f2 he; omega
  have bf : f < 4611686018427387904 := by rw [hf]; clear hc he e2 f2 hf bc; omega
  refine ⟨?_, bc, be, bf⟩
  rw [f2, q9_d3 (by clear hc he hf e2 f2 bc be bf; omega)]
  clear hc he hf e2 f2 bc be bf
  rw [show (p0 + p1 + 256 * (p1 + p2) + (p2 + p3 + 256 * (p3 + p4)) + 65536 * (p2 + p3 + 256 * (p3 + p4) + (p4 + p5 + 256 * (p5 + p6)))) = ((p0 + p1 + p2 + p3) + 256 * (p1 + p2 + p3 + p4)) + 65536 * (p2 + p3 + 256 * (p3 + p4) + (p4 + p5 + 256 * (p5 + p6))) by omega, show (p4 + p5 + 256 * (p5 + p6) + (p6 + p7 + 256 * p7) + 65536 * (p6 + p7 + 256 * p7)) = ((p4 + p5 + p6 + p7) + 256 * (p5 + p6 + p7)) + 65536 * (p6 + p7 + 256 * p7) by omega, q9_fin]
  omega
theorem q9_jl {n k : Nat} (hn : n < 2 ^ 64) (hk : k < 64) : jl (lN n) (nI k) = lN (n / 2 ^ k) := wb_shr hn hk
theorem q9_127 (g : Nat) : (lN g).toInt32 &&& 127 = nI (g % 128) := by
  rw [lN_i, pk_and (nI g) (m := 127) 7 (by decide)]
  congr 1
  show (BitVec.ofNat 32 g).toNat % 2 ^ 7 = _
  rw [BitVec.toNat_ofNat]
  omega
theorem jBit_q {n : Nat} (hn : n < 2 ^ 64) : jBit (lN n) = nI (q9p 64 n) := by
  obtain ⟨p0, p1, p2, p3, p4, p5, p6, p7, hp, hc, hs⟩ := q9p_64 n
  obtain ⟨s1, s2, s3, s4⟩ := q9_sum hp hc rfl rfl
  have m1 : q9m 85 8 = 6148914691236517205 := by decide
  have m2 : q9m 51 8 = 3689348814741910323 := by decide
  have m3 : q9m 15 8 = 1085102592571150095 := by decide
  have a1 : (n / 2 &&& 6148914691236517205) ≤ n / 2 := Nat.and_le_left
  have hA : lN n - (jl (lN n) 1 &&& 6148914691236517205) = lN (q9a 8 n) := by
    rw [show jl (lN n) 1 = lN (n / 2) from q9_jl (k := 1) hn (by decide), show (6148914691236517205 : Int64) = lN 6148914691236517205 from rfl, wb_and (by omega) (by omega), lN_sub (by omega)]
    unfold q9a
    rw [m1]
  have lA : q9a 8 n < 2 ^ 64 := by unfold q9a; omega
  have b1 : (q9a 8 n &&& 3689348814741910323) ≤ 3689348814741910323 := Nat.and_le_right
  have b2 : (q9a 8 n / 4 &&& 3689348814741910323) ≤ 3689348814741910323 := Nat.and_le_right
  have hB : (lN (q9a 8 n) &&& 3689348814741910323) + (jl (lN (q9a 8 n)) 2 &&& 3689348814741910323) = lN (q9b 8 n) := by
    rw [show jl (lN (q9a 8 n)) 2 = lN (q9a 8 n / 4) from q9_jl (k := 2) lA (by decide), show (3689348814741910323 : Int64) = lN 3689348814741910323 from rfl, wb_and lA (by omega), wb_and (by omega) (by omega), lN_add]
    unfold q9b
    rw [m2]
  have lB : q9b 8 n ≤ 2 * 3689348814741910323 := by unfold q9b; rw [m2]; omega
  have hC : (lN (q9b 8 n) + jl (lN (q9b 8 n)) 4) &&& 1085102592571150095 = lN (q9c 8 n) := by
    rw [show jl (lN (q9b 8 n)) 4 = lN (q9b 8 n / 16) from q9_jl (k := 4) (by omega) (by decide), show (1085102592571150095 : Int64) = lN 1085102592571150095 from rfl, lN_add, wb_and (by omega) (by omega)]
    unfold q9c
    rw [m3]
  generalize q9c 8 n = c at *
  have hE : lN c + jl (lN c) 8 = lN (c + c / 256) := by
    rw [show jl (lN c) 8 = lN (c / 256) from q9_jl (k := 8) (by omega) (by decide), lN_add]
  generalize c + c / 256 = e at *
  have hF : lN e + jl (lN e) 16 = lN (e + e / 65536) := by
    rw [show jl (lN e) 16 = lN (e / 65536) from q9_jl (k := 16) (by omega) (by decide), lN_add]
  generalize e + e / 65536 = f at *
  have hG : lN f + jl (lN f) 32 = lN (f + f / 4294967296) := by
    rw [show jl (lN f) 32 = lN (f / 4294967296) from q9_jl (k := 32) (by omega) (by decide), lN_add]
  unfold jBit
  dsimp only
  rw [hA, hB, hC, hE, hF, hG, q9_127, s1, hs]
