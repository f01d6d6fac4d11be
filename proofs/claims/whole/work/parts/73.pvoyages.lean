/-! ===== pure: voyages ===== -/
def w3 (x : Int32) (i : Nat) : Bool := x.toBitVec.getLsbD i
theorem w3_ext {x y : Int32} (h : ∀ i, i < 32 → (w3 x i = true ↔ w3 y i = true)) : x = y := q9_iext fun i hi => Bool.eq_iff_iff.mpr (h i hi)
theorem w3_or {x y : Int32} {i : Nat} : w3 (x ||| y) i = true ↔ w3 x i = true ∨ w3 y i = true := by
  unfold w3
  rw [Int32.toBitVec_or, BitVec.getLsbD_or, Bool.or_eq_true]
theorem w3_and {x y : Int32} {i : Nat} : w3 (x &&& y) i = true ↔ w3 x i = true ∧ w3 y i = true := by
  unfold w3
  rw [Int32.toBitVec_and, BitVec.getLsbD_and, Bool.and_eq_true]
theorem w3_0 (i : Nat) : ¬ w3 0 i = true := by
  unfold w3
  rw [show (0 : Int32).toBitVec = 0#32 from rfl, BitVec.getLsbD_zero]
  decide
theorem w3_one : ∀ i, i < 32 → w3 1 i = decide (i = 0) := by decide +kernel
theorem w3_sh : ∀ k, k < 5 → ∀ t, t < 32 → w3 ((1 : Int32) <<< (nI k &&& 31)) t = decide (t = k) := by decide +kernel
theorem w3_l : ∀ n, n < 32 → ((nI n &&& 31).toBitVec.smod 32).toNat = n := by decide +kernel
theorem w3_sr {n : Nat} (hn : n < 32) (x : Int32) : w3 (x >>> (nI n &&& 31)) 0 = w3 x n := by
  unfold w3
  rw [Int32.toBitVec_shiftRight]
  show (x.toBitVec.sshiftRight ((nI n &&& 31).toBitVec.smod 32).toNat).getLsbD 0 = _
  rw [w3_l n hn, BitVec.getLsbD_sshiftRight, BitVec.msb_eq_getLsbD_last]
  simp [hn]
theorem w3_b {n : Nat} (hn : n < 32) (x : Int32) : rB x (nI n) ↔ w3 x n = true := by
  have h := w3_sr hn x
  show ((x >>> (nI n &&& 31)) &&& 1 = 1) ↔ _
  generalize x >>> (nI n &&& 31) = y at h ⊢
  rw [← h]
  constructor
  · intro e
    have := congrArg (fun z => w3 z 0) e
    have h1 : w3 (y &&& 1) 0 = true := this.trans (by decide)
    exact (w3_and.mp h1).1
  · intro e
    refine w3_ext fun i hi => ?_
    rw [w3_and, w3_one i hi, decide_eq_true_eq]
    exact ⟨fun q => q.2, fun q => ⟨q ▸ e, q⟩⟩
theorem w3_z {x y : Int32} : ¬ (x &&& y = 0) ↔ ∃ i, i < 32 ∧ w3 x i = true ∧ w3 y i = true := by
  constructor
  · intro h
    refine Classical.byContradiction fun q => h (w3_ext fun i hi => ?_)
    rw [w3_and]
    exact ⟨fun z => absurd ⟨i, hi, z⟩ q, fun z => absurd z (w3_0 i)⟩
  · rintro ⟨i, -, h⟩ e
    refine w3_0 i ?_
    rw [← e, w3_and]
    exact h
theorem w3_ends {m : zm} {w A B t : Nat} (hA : m.1 w 0 = nI A) (hB : m.1 w 1 = nI B) (h1 : A < 5) (h2 : B < 5) (ht : t < 32) : w3 (cEnds m w) t = true ↔ t = A ∨ t = B := by
  unfold cEnds
  rw [hA, hB, w3_or, w3_sh A h1 t ht, w3_sh B h2 t ht, decide_eq_true_eq, decide_eq_true_eq]
theorem w3_more {m : zm} {H W j : Nat} (hD : RD m.1 j H W) (r : Int32) {t : Nat} (ht : t < 32) : ∀ (n i : Nat) (acc : Int32), i + n ≤ W → (w3 (cMoreL m (25 + j) r n i acc) t = true ↔ w3 acc t = true ∨ ∃ w, (i ≤ w ∧ w < i + n) ∧ rxO m.1 j w ∧ (w3 r (rxA m.1 w) = true ∨ w3 r (rxB m.1 w) = true) ∧ (t = rxA m.1 w ∨ t = rxB m.1 w)) := by
  intro n
  induction n with
  | zero =>
    intro i acc _
    exact ⟨fun h => Or.inl h, fun h => h.elim id (fun ⟨w, h1, _⟩ => absurd h1 (by omega))⟩
  | succ n ih =>
    intro i acc hi
    obtain ⟨d1, d2, d3, -, d5, d6, -⟩ := hD.2.2 i (by omega)
    have h5 := hD.2.1
    have hE := fun {t : Nat} (ht : t < 32) => w3_ends (m := m) (w := 17 + i) (t := t) d1 d2 (by omega) (by omega) ht
    have step : w3 (cMoreS m (25 + j) r acc (17 + i)) t = true ↔ w3 acc t = true ∨ (rxO m.1 j i ∧ (w3 r (rxA m.1 i) = true ∨ w3 r (rxB m.1 i) = true) ∧ (t = rxA m.1 i ∨ t = rxB m.1 i)) := by
      have hr : ¬ (r &&& cEnds m (17 + i) = 0) ↔ (w3 r (rxA m.1 i) = true ∨ w3 r (rxB m.1 i) = true) := by
        rw [w3_z]
        constructor
        · rintro ⟨k, hk, k1, k2⟩
          rcases (hE hk).mp k2 with e | e
          · exact Or.inl (e ▸ k1)
          · exact Or.inr (e ▸ k1)
        · rintro (k | k)
          · exact ⟨_, by omega, k, (hE (by omega)).mpr (Or.inl rfl)⟩
          · exact ⟨_, by omega, k, (hE (by omega)).mpr (Or.inr rfl)⟩
      unfold cMoreS
      by_cases c : (¬ m.1 (25 + j) 0 = 5 ∨ m.1 (17 + i) 2 ≤ 10) ∧ ¬ r &&& cEnds m (17 + i) = 0
      · rw [if_pos c, w3_or, hE ht]
        exact ⟨fun h => h.imp id (fun q => ⟨c.1, hr.mp c.2, q⟩), fun h => h.imp id (fun q => q.2.2)⟩
      · rw [if_neg c]
        exact ⟨fun h => Or.inl h, fun h => h.elim id (fun q => absurd ⟨q.1, hr.mpr q.2.1⟩ c)⟩
    rw [cMoreL, ih _ _ (by omega), step]
    constructor
    · rintro ((q | q) | ⟨w, q1, q2⟩)
      · exact Or.inl q
      · exact Or.inr ⟨i, by omega, q⟩
      · exact Or.inr ⟨w, by omega, q2⟩
    · rintro (q | ⟨w, q1, q2⟩)
      · exact Or.inl (Or.inl q)
      · by_cases e : w = i
        · subst e
          exact Or.inl (Or.inr q2)
        · exact Or.inr ⟨w, by omega, q2⟩
theorem w3_ways {M : zm} {f : Nat → Nat → Int32} {H W j : Nat} (hD : RD f j H W) (hM : MD M f j H W) {x t : Nat} (hx : x < H) (ht : t < 32) : ∀ (n i : Nat) (acc : Int32), i + n ≤ W → (w3 (vWays M j x n i acc) t = true ↔ w3 acc t = true ∨ ∃ w, (i ≤ w ∧ w < i + n) ∧ rxO f j w ∧ (x = rxA f w ∧ t = rxB f w ∨ x = rxB f w ∧ t = rxA f w)) := by
  intro n
  induction n with
  | zero =>
    intro i acc _
    exact ⟨fun h => Or.inl h, fun h => h.elim id (fun ⟨w, h1, _⟩ => absurd h1 (by omega))⟩
  | succ n ih =>
    intro i acc hi
    obtain ⟨-, -, -, -, d5, d6, d7, -⟩ := hD.2.2 i (by omega)
    have h5 := hD.2.1
    obtain ⟨m1, m2, m3⟩ := (hM i (by omega)).2.2 x hx
    have step : w3 (if mEndOf M j i (nI x) = -1000000 then (0 : Int32) else (1 : Int32) <<< (mEndOf M j i (nI x) &&& 31)) t = true ↔ rxO f j i ∧ (x = rxA f i ∧ t = rxB f i ∨ x = rxB f i ∧ t = rxA f i) := by
      by_cases ho : rxO f j i ∧ (x = rxA f i ∨ x = rxB f i)
      · obtain ⟨o, hx2⟩ := ho
        by_cases c : x = rxA f i
        · rw [m1 o c, if_neg (nI_none (by omega)), w3_sh _ (by omega) t ht, decide_eq_true_eq]
          exact ⟨fun q => ⟨o, Or.inl ⟨c, q⟩⟩, fun q => q.2.elim (fun z => z.2) (fun z => absurd (c.symm.trans z.1) d7)⟩
        · have c2 := hx2.resolve_left c
          rw [m2 o c2, if_neg (nI_none (by omega)), w3_sh _ (by omega) t ht, decide_eq_true_eq]
          exact ⟨fun q => ⟨o, Or.inr ⟨c2, q⟩⟩, fun q => q.2.elim (fun z => absurd z.1 c) (fun z => z.2)⟩
      · rw [if_pos (m3 ho)]
        exact ⟨fun q => absurd q (w3_0 t), fun q => absurd ⟨q.1, q.2.imp (fun z => z.1) (fun z => z.1)⟩ ho⟩
    rw [vWays, ih _ _ (by omega), w3_or, step]
    constructor
    · rintro ((q | q) | ⟨w, q1, q2⟩)
      · exact Or.inl q
      · exact Or.inr ⟨i, by omega, q⟩
      · exact Or.inr ⟨w, by omega, q2⟩
    · rintro (q | ⟨w, q1, q2⟩)
      · exact Or.inl (Or.inl q)
      · by_cases e : w = i
        · subst e
          exact Or.inl (Or.inr q2)
        · exact Or.inr ⟨w, by omega, q2⟩
theorem w3_from {M : zm} {f : Nat → Nat → Int32} {H W j : Nat} (hD : RD f j H W) (hM : MD M f j H W) (r : Int32) {t : Nat} (ht : t < 32) : ∀ (n i : Nat) (acc : Int32), i + n ≤ H → (w3 (vFrom M j W r n i acc) t = true ↔ w3 acc t = true ∨ ∃ x, (i ≤ x ∧ x < i + n) ∧ w3 r x = true ∧ ∃ w, w < W ∧ rxO f j w ∧ (x = rxA f w ∧ t = rxB f w ∨ x = rxB f w ∧ t = rxA f w)) := by
  intro n
  induction n with
  | zero =>
    intro i acc _
    exact ⟨fun h => Or.inl h, fun h => h.elim id (fun ⟨w, h1, _⟩ => absurd h1 (by omega))⟩
  | succ n ih =>
    intro i acc hi
    have h5 := hD.2.1
    have hb := w3_b (n := i) (by omega) r
    have step : w3 (if rB r (nI i) then vWays M j i W 0 acc else acc) t = true ↔ w3 acc t = true ∨ (w3 r i = true ∧ ∃ w, w < W ∧ rxO f j w ∧ (i = rxA f w ∧ t = rxB f w ∨ i = rxB f w ∧ t = rxA f w)) := by
      by_cases c : rB r (nI i)
      · rw [if_pos c, w3_ways hD hM (show i < H by omega) ht W 0 acc (by omega)]
        exact or_congr_right ⟨fun ⟨w, q1, q2⟩ => ⟨hb.mp c, w, by omega, q2⟩, fun ⟨_, w, q1, q2⟩ => ⟨w, by omega, q2⟩⟩
      · rw [if_neg c]
        exact ⟨fun h => Or.inl h, fun h => h.elim id (fun q => absurd (hb.mpr q.1) c)⟩
    rw [vFrom, ih _ _ (by omega), step]
    constructor
    · rintro ((q | q) | ⟨w, q1, q2⟩)
      · exact Or.inl q
      · exact Or.inr ⟨i, by omega, q⟩
      · exact Or.inr ⟨w, by omega, q2⟩
    · rintro (q | ⟨w, q1, q2⟩)
      · exact Or.inl (Or.inl q)
      · by_cases e : w = i
        · subst e
          exact Or.inl (Or.inr q2)
        · exact Or.inr ⟨w, by omega, q2⟩
theorem more_eq {m M : zm} {H W j : Nat} (hD : RD m.1 j H W) (hM : MD M m.1 j H W) (r : Int32) : cMoreL m (25 + j) r W 0 r = vFrom M j W r H 0 r := by
  refine w3_ext fun t ht => ?_
  rw [w3_more hD r ht W 0 r (by omega), w3_from hD hM r ht H 0 r (by omega)]
  constructor
  · rintro (q | ⟨w, q1, q2, q3, q4⟩)
    · exact Or.inl q
    · obtain ⟨-, -, -, -, d5, d6, -⟩ := hD.2.2 w (by omega)
      rcases q3 with q3 | q3
      · rcases q4 with e | e
        · exact Or.inl (e ▸ q3)
        · exact Or.inr ⟨_, by omega, q3, w, by omega, q2, Or.inl ⟨rfl, e⟩⟩
      · rcases q4 with e | e
        · exact Or.inr ⟨_, by omega, q3, w, by omega, q2, Or.inr ⟨rfl, e⟩⟩
        · exact Or.inl (e ▸ q3)
  · rintro (q | ⟨x, -, q3, w, q1, q2, q4⟩)
    · exact Or.inl q
    · rcases q4 with ⟨e1, e2⟩ | ⟨e1, e2⟩
      · exact Or.inr ⟨w, by omega, q2, Or.inl (e1 ▸ q3), Or.inr e2⟩
      · exact Or.inr ⟨w, by omega, q2, Or.inr (e1 ▸ q3), Or.inl e2⟩
theorem voy_eq {m M : zm} {H W j : Nat} (hD : RD m.1 j H W) (hM : MD M m.1 j H W) (h : Int32) : ∀ (n s : Nat) (r : Int32), vVoy M j H W h n s r = cVoy m (25 + j) W h n r (nI s) := by
  intro n
  induction n with
  | zero => intro s r; rfl
  | succ n ih =>
    intro s r
    rw [vVoy, cVoy, ih, more_eq hD hM r, nI_1]
theorem st_voyages : ∀ m : zm, Rel m → ∀ a0 a1 : Int32, LawStp Rel zM_X7_voyages zM_X8_voyages m [.int a0, .int a1] := by
  intro m h p z
  by_cases hb : (p < 0 ∨ m.1 14 3 - 1 < p) ∨ (z < 0 ∨ m.1 14 0 - 1 < z)
  · exact stp_mk (ev_X7_voyages_bad 9 m p z hb) (ev_X8_voyages_bad 9 m p z (hb.imp (h.nob p).mp (h.noh z).mp)) rfl h.t
  · have b1 : ¬ (p < 0 ∨ m.1 14 3 - 1 < p) := fun q => hb (Or.inl q)
    have b2 : ¬ (z < 0 ∨ m.1 14 0 - 1 < z) := fun q => hb (Or.inr q)
    obtain ⟨-, -, -, -, -, H, W, P, hc, -⟩ := id h
    obtain ⟨j, hj, hj4, rfl⟩ := cur_some hc b1
    have hcl := ev_X7_voyages 9 m W j z b1 b2 (cur_W hc).1 (cur_W hc).2 hj4
    have hml := ev_X8_voyages 9 m H W j z (fun q => b1 ((h.nob _).mpr q)) (fun q => b2 ((h.noh _).mpr q)) ((cur_hd hc (k := 0) (by omega)).trans (cur_H hc).1) (cur_H hc).2 ((cur_hd hc (k := 2) (by omega)).trans (cur_W hc).1) (cur_W hc).2 hj4
    refine stp_mk hcl hml ?_ h.t
    have o1 : mOf (mT m) j 1 = m.1 (25 + j) 2 := mOf_t.trans (cur_per hc hj (k := 1) (by omega))
    rw [o1]
    exact voy_eq (RD_of hc hj) ((MD_of hc hj).d (mT_184 rfl)) z 5 0 _
