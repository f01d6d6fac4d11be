/-! ===== pure: the two readers, token by token ===== -/
theorem cPass_c {f g : Nat → Int32} {t : Nat} (h : ∀ k, k < t → f k = g k) (lo hi : Int32) : ∀ (n b : Nat), cPass f t lo hi n b = cPass g t lo hi n b := by
  intro n
  induction n with
  | zero => intro b; rfl
  | succ n ih =>
    intro b
    rw [cPass, cPass, ih]
    by_cases hb : b < t
    · rw [h b hb]
    · rw [if_neg (fun z => hb z.1), if_neg (fun z => hb z.1)]
theorem cSkip_c {f g : Nat → Int32} {t : Nat} (h : ∀ k, k < t → f k = g k) : ∀ (n b : Nat), cSkip f t n b = cSkip g t n b := by
  intro n
  induction n with
  | zero => intro b; rfl
  | succ n ih =>
    intro b
    rw [cSkip, cSkip, ih]
    by_cases hb : b < t
    · rw [h b hb]
    · rw [if_neg (fun z => hb z.1), if_neg (fun z => hb z.1)]
theorem cPass_in (f : Nat → Int32) (t : Nat) (lo hi : Int32) : ∀ (n b k : Nat), b ≤ k → k < cPass f t lo hi n b → lo ≤ f k ∧ f k ≤ hi := by
  intro n
  induction n with
  | zero =>
    intro b k h1 h2
    rw [cPass] at h2
    omega
  | succ n ih =>
    intro b k h1 h2
    rw [cPass] at h2
    split at h2
    next hc =>
      by_cases e : k = b
      · subst e
        exact hc.2
      · exact ih (b + 1) k (by omega) h2
    next hc => omega
theorem cNum_c {f g : Nat → Int32} : ∀ (n k : Nat) (v : Int32), (∀ i, k ≤ i → i < k + n → f i = g i) → cNum f n k v = mFg g n k v := by
  intro n
  induction n with
  | zero => intro k v _; rfl
  | succ n ih =>
    intro k v h
    rw [cNum, mFg, h k (by omega) (by omega), Int32.mul_comm v 10]
    exact ih _ _ (fun i h1 h2 => h i (by omega) (by omega))
/-- the token that both stand at -/
def TK (C M : zm) (t : Nat) : Prop := ∃ s b : Nat, (s ≤ b ∧ b ≤ t) ∧ (C.1 12 3 = nI s ∧ C.1 12 4 = nI b) ∧ (M.1 180 15 = nI s ∧ M.1 180 13 = nI b ∧ M.1 180 16 = nI b) ∧ ((C.1 12 2 = 0 ∧ M.1 180 14 = 1) ∨ (C.1 12 2 = 1 ∧ M.1 180 14 = 2 ∧ ∀ k, s ≤ k → k < b → 97 ≤ C.1 13 k ∧ C.1 13 k ≤ 122) ∨ (C.1 12 2 = 2 ∧ M.1 180 14 = 3 ∧ C.1 12 5 = mFg (M.1 187) (b - s) s 0) ∨ (C.1 12 2 = 3 ∧ M.1 180 14 = 4) ∨ (C.1 12 2 = 4 ∧ M.1 180 14 = 0))
theorem TK_tok {C M : zm} {t s : Nat} (hst : s ≤ t) (hc : C.1 12 4 = nI s) (hm : M.1 180 13 = nI s) (hb : ∀ k, k < t → C.1 13 k = M.1 187 k) : TK (cTok C t s) (mTok M t s) t := by
  unfold cTok mTok mEnd
  by_cases h1 : t ≤ s
  · rw [if_pos h1, if_pos h1]
    exact ⟨s, s, ⟨by omega, by omega⟩, ⟨by simp [upI], by simp [upI, hc]⟩, ⟨by simp [upI], by simp [upI, hm], by simp [upI]⟩, Or.inl ⟨by simp [upI], by simp [upI]⟩⟩
  · rw [if_neg h1, if_neg h1, hb s (by omega)]
    by_cases h2 : 97 ≤ M.1 187 s ∧ M.1 187 s ≤ 122
    · rw [if_pos h2, if_pos h2, ← cPass_c hb 97 122 (t - s) s]
      have hl := cPass_le (C.1 13) t 97 122 (t - s) s hst
      have hi := cPass_in (C.1 13) t 97 122 (t - s) s
      generalize cPass (C.1 13) t 97 122 (t - s) s = b at hl hi
      exact ⟨s, b, hl, ⟨by simp [upI], by simp [upI]⟩, ⟨by simp [upI], by simp [upI], by simp [upI]⟩, Or.inr (Or.inl ⟨by simp [upI], by simp [upI], fun k k1 k2 => by simpa [upI] using hi k k1 k2⟩)⟩
    · rw [if_neg h2, if_neg h2]
      by_cases h3 : 48 ≤ M.1 187 s ∧ M.1 187 s ≤ 57
      · rw [if_pos h3, if_pos h3, ← cPass_c hb 48 57 (t - s) s]
        have hl := cPass_le (C.1 13) t 48 57 (t - s) s hst
        generalize cPass (C.1 13) t 48 57 (t - s) s = b at hl
        unfold cNumTok
        by_cases h4 : b - s ≤ 3
        · rw [if_pos h4, if_pos h4]
          refine ⟨s, b, hl, ⟨by simp [upI], by simp [upI]⟩, ⟨by simp [upI], by simp [upI], by simp [upI]⟩, Or.inr (Or.inr (Or.inl ⟨by simp [upI], by simp [upI], ?_⟩))⟩
          rw [upI_eq, u187, u187, u187, u187, u13, u13]
          exact cNum_c _ _ _ (fun i i1 i2 => hb i (by omega))
        · rw [if_neg h4, if_neg h4]
          exact ⟨s, b, hl, ⟨by simp [upI], by simp [upI]⟩, ⟨by simp [upI], by simp [upI], by simp [upI]⟩, Or.inr (Or.inr (Or.inr (Or.inr ⟨by simp [upI], by simp [upI]⟩)))⟩
      · rw [if_neg h3, if_neg h3]
        by_cases h4 : M.1 187 s = 59
        · rw [if_pos h4, if_pos h4]
          exact ⟨s, s + 1, ⟨by omega, by omega⟩, ⟨by simp [upI], by simp [upI]⟩, ⟨by simp [upI], by simp [upI], by simp [upI]⟩, Or.inr (Or.inr (Or.inr (Or.inl ⟨by simp [upI], by simp [upI]⟩)))⟩
        · rw [if_neg h4, if_neg h4]
          exact ⟨s, s + 1, ⟨by omega, by omega⟩, ⟨by simp [upI], by simp [upI]⟩, ⟨by simp [upI], by simp [upI], by simp [upI]⟩, Or.inr (Or.inr (Or.inr (Or.inr ⟨by simp [upI], by simp [upI]⟩)))⟩
theorem TK_next {C M : zm} {t b : Nat} (hbt : b ≤ t) (hb : ∀ k, k < t → C.1 13 k = M.1 187 k) : TK (cNext C t b) (mNext M t b) t := by
  unfold cNext mNext
  rw [← cSkip_c hb (t - b) b]
  have hl := cSkip_le (C.1 13) t (t - b) b hbt
  exact TK_tok hl.2 (upI_eq _ _ _ _) (upI_eq _ _ _ _) (fun k hk => by rw [u13, u187]; exact hb k hk)
theorem nx_12 {m : zm} {t b k : Nat} (hk : k = 1 ∨ k = 6 ∨ k = 7) : (cNext m t b).1 12 k = m.1 12 k := by
  unfold cNext cTok cNumTok
  rcases hk with rfl | rfl | rfl
  all_goals (repeat' split)
  all_goals simp [upI]
theorem mx_180 {m : zm} {t b k : Nat} (hk : k < 13 ∨ 16 < k) : (mNext m t b).1 180 k = m.1 180 k := by
  have e : ¬ k = 13 ∧ ¬ k = 14 ∧ ¬ k = 15 ∧ ¬ k = 16 := by omega
  unfold mNext mTok mEnd
  repeat' split
  all_goals simp [upI, e.1, e.2.1, e.2.2.1, e.2.2.2]
/-- what the readers leave alone -/
def cFrm (C0 C : zm) : Prop := ∀ a k, a ≠ 12 → a ≠ 29 → ¬ (32 ≤ a ∧ a < 44) → C.1 a k = C0.1 a k
def mFrm (M0 M : zm) : Prop := (∀ a k, a ≠ 180 → a ≠ 185 → M.1 a k = M0.1 a k) ∧ ∀ k, ¬ (12 ≤ k ∧ k ≤ 18) → M.1 180 k = M0.1 180 k
def TR (C0 M0 : zm) (t : Nat) (C M : zm) : Prop := (t ≤ 400 ∧ ∀ k, k < t → C0.1 13 k = M0.1 187 k) ∧ (cFrm C0 C ∧ mFrm M0 M) ∧ (C.1 12 1 = nI t ∧ M.1 180 12 = nI t) ∧ (C.1 12 6 = M.1 180 17 ∧ (C.1 12 6 = 0 ∨ 0 < C.1 12 6)) ∧ (¬ C.1 12 6 = 0 → C.1 12 7 = M.1 180 18) ∧ (C.1 12 6 = 0 → TK C M t)
theorem TR.bytes {C0 M0 C M : zm} {t : Nat} (h : TR C0 M0 t C M) : ∀ k, k < t → C.1 13 k = M.1 187 k := fun k hk => by
  rw [h.2.1.1 13 k (by decide) (by decide) (by decide), h.2.1.2.1 187 k (by decide) (by decide)]
  exact h.1.2 k hk
theorem TR.zero {C0 M0 C M : zm} {t : Nat} (h : TR C0 M0 t C M) : C.1 12 6 = 0 ↔ M.1 180 17 = 0 := by rw [h.2.2.2.1.1]
/-- both go on to the next token -/
theorem TR.nx {C0 M0 C M : zm} {t : Nat} (h : TR C0 M0 t C M) (h0 : C.1 12 6 = 0) : TR C0 M0 t (cNx C) (mNx M) := by
  have hb := h.bytes
  obtain ⟨g1, ⟨g2, g3⟩, ⟨g4, g5⟩, ⟨g6, g7⟩, g8, g9⟩ := h
  obtain ⟨s, b, ⟨k1, k2⟩, ⟨k3, k4⟩, ⟨k5, k6, k7⟩, -⟩ := g9 h0
  have e1 : tT C = t := by unfold tT; rw [g4, nI_clamp (by omega)]
  have e2 : tB C = b := by unfold tB; rw [k4, nI_clamp (by omega)]
  have e3 : mL M = t := by unfold mL; rw [g5, nI_clamp (by omega)]
  have e4 : mC M = b := by unfold mC; rw [k6, nI_clamp (by omega)]
  show TR C0 M0 t (cNext C (tT C) (tB C)) (mNext M (mL M) (mC M))
  rw [e1, e2, e3, e4]
  have c6 : (cNext C t b).1 12 6 = C.1 12 6 := nx_12 (by omega)
  have c7 : (mNext M t b).1 180 17 = M.1 180 17 := mx_180 (by omega)
  refine ⟨g1, ⟨fun a k h1 h2 h3 => (nx_o h1).trans (g2 a k h1 h2 h3), fun a k h1 h2 => (mnext_o h1).trans (g3.1 a k h1 h2), fun k hk => (mx_180 (by omega)).trans (g3.2 k hk)⟩, ⟨(nx_12 (by omega)).trans g4, (mx_180 (by omega)).trans g5⟩, ⟨by rw [c6, c7]; exact g6, by rw [c6]; exact g7⟩, fun q => absurd (c6.trans h0) q, fun _ => TK_next k2 hb⟩
/-- both tell a fault -/
theorem TR.bad {C0 M0 C M : zm} {t : Nat} (h : TR C0 M0 t C M) {z : Int32} (hz : 0 < z) : TR C0 M0 t (cFail C z) (mBad M z) := by
  by_cases h0 : C.1 12 6 = 0
  · obtain ⟨g1, ⟨g2, g3⟩, ⟨g4, g5⟩, ⟨g6, g7⟩, g8, g9⟩ := h
    obtain ⟨s, b, ⟨k1, k2⟩, ⟨k3, k4⟩, ⟨k5, k6, k7⟩, -⟩ := g9 h0
    have hz0 : ¬ z = 0 := fun e => absurd (e ▸ hz) (by decide)
    unfold cFail mBad
    rw [if_pos h0, if_pos (g6.symm.trans h0), show (upI C 12 6 z).1 12 3 = nI s from (upI_ne (by omega)).trans k3, show (upI M 180 17 z).1 180 15 = nI s from (upI_ne (by omega)).trans k5]
    refine ⟨g1, ⟨fun a k h1 h2 h3 => by rw [upI_ne (by omega), upI_ne (by omega)]; exact g2 a k h1 h2 h3, fun a k h1 h2 => by rw [upI_ne (by omega), upI_ne (by omega)]; exact g3.1 a k h1 h2, fun k hk => by rw [upI_ne (by omega), upI_ne (by omega)]; exact g3.2 k hk⟩, ⟨by simp [upI, g4], by simp [upI, g5]⟩, ⟨by simp [upI], by simp [upI, hz]⟩, fun _ => by simp [upI], fun q => ?_⟩
    rw [upI_ne (by omega), upI_eq] at q
    exact absurd q hz0
  · have e1 : cFail C z = C := if_neg h0
    have e2 : mBad M z = M := mbad_f (fun q => h0 (h.zero.mpr q))
    rw [e1, e2]
    exact h
theorem fail_f {m : zm} {z : Int32} (h : ¬ m.1 12 6 = 0) : cFail m z = m := if_neg h
theorem fail_n {m : zm} {z : Int32} (hz : ¬ z = 0) : ¬ (cFail m z).1 12 6 = 0 := by
  unfold cFail
  split
  next h =>
    rw [upI_ne (by omega), upI_eq]
    exact hz
  next h => exact h
/-- a number that is told -/
theorem TR.val {C0 M0 C M : zm} {t : Nat} (h : TR C0 M0 t C M) (h0 : C.1 12 6 = 0) : (C.1 12 2 = 2 ↔ M.1 180 14 = 3) ∧ (C.1 12 2 = 3 ↔ M.1 180 14 = 4) ∧ (C.1 12 2 = 0 ↔ M.1 180 14 = 1) ∧ (C.1 12 2 = 1 ↔ M.1 180 14 = 2) ∧ (C.1 12 2 = 2 → C.1 12 5 = mFig M) := by
  have ht := h.1.1
  obtain ⟨s, b, ⟨k1, k2⟩, ⟨k3, k4⟩, ⟨k5, k6, k7⟩, k8⟩ := h.2.2.2.2.2 h0
  have e1 : mS M = s := by unfold mS; rw [k5, nI_clamp (by omega)]
  have e2 : mE M = b := by unfold mE; rw [k7, nI_clamp (by omega)]
  rcases k8 with ⟨q1, q2⟩ | ⟨q1, q2, -⟩ | ⟨q1, q2, q3⟩ | ⟨q1, q2⟩ | ⟨q1, q2⟩
  · rw [q1, q2]; exact ⟨by decide, by decide, by decide, by decide, fun q => absurd q (by decide)⟩
  · rw [q1, q2]; exact ⟨by decide, by decide, by decide, by decide, fun q => absurd q (by decide)⟩
  · have e3 : mFig M = C.1 12 5 := by
      unfold mFig
      rw [if_pos q2, e1, e2, q3]
    rw [q1, q2]; exact ⟨by decide, by decide, by decide, by decide, fun _ => e3.symm⟩
  · rw [q1, q2]; exact ⟨by decide, by decide, by decide, by decide, fun q => absurd q (by decide)⟩
  · rw [q1, q2]; exact ⟨by decide, by decide, by decide, by decide, fun q => absurd q (by decide)⟩
/-- the sign -/
theorem TR.sign {C0 M0 C M : zm} {t : Nat} (h : TR C0 M0 t C M) : TR C0 M0 t (cTakeS C) (mMustEnd M) := by
  by_cases h0 : C.1 12 6 = 0
  · have m0 := h.zero.mp h0
    obtain ⟨-, v, -⟩ := h.val h0
    unfold cTakeS mMustEnd
    rw [if_pos m0]
    by_cases q : C.1 12 2 = 3
    · rw [if_pos ⟨h0, q⟩, if_pos (v.mp q)]
      unfold mMust
      rw [if_neg (by decide), show mGo M = mNx M from if_pos m0]
      exact h.nx h0
    · rw [if_neg (fun z => q z.2), if_neg (fun z => q (v.mpr z))]
      unfold mMust
      rw [if_pos rfl, mgo_f (mbad_n (by decide))]
      exact h.bad (by decide)
  · unfold cTakeS
    rw [if_neg (fun z => h0 z.1), fail_f h0, mme_f (fun q => h0 (h.zero.mpr q))]
    exact h
/-- a number, 2 told of it first or not (bad: the model's own condition that goes ahead) -/
theorem TR.numX {C0 M0 C M : zm} {t : Nat} (h : TR C0 M0 t C M) (l g u : Int32) (bad : Prop) [Decidable bad] (hbad : C.1 12 6 = 0 → C.1 12 2 = 2 → (¬ (mFig M < l ∨ g < mFig M) → (bad ↔ mFig M = u))) (hno : C.1 12 6 = 0 → bad → C.1 12 2 = 2) : TR C0 M0 t (cNumM C l g u) (mNumM (if M.1 180 17 = 0 ∧ bad then mBad M 2 else M) l g) ∧ ((cNumM C l g u).1 12 6 = 0 → C.1 12 6 = 0 ∧ ¬ bad ∧ cNumR C l g u = mNumR M ∧ ¬ (cNumR C l g u < l ∨ g < cNumR C l g u) ∧ ¬ cNumR C l g u = u) := by
  by_cases h0 : C.1 12 6 = 0
  · have m0 := h.zero.mp h0
    have mle : M.1 180 17 ≤ 0 := by rw [m0]; exact Int32.le_refl _
    obtain ⟨v, -, -, -, w⟩ := h.val h0
    by_cases q : C.1 12 2 = 2
    · have hv := w q
      have hn : C.1 12 6 = 0 ∧ C.1 12 2 = 2 := ⟨h0, q⟩
      by_cases r : (mFig M < l ∨ g < mFig M) ∨ mFig M = u
      · -- a fault of 2
        have hc : cNumM C l g u = cFail C 2 := by
          unfold cNumM
          rw [if_pos hn, hv, if_pos r]
        have hm : mNumM (if M.1 180 17 = 0 ∧ bad then mBad M 2 else M) l g = mBad M 2 := by
          by_cases b : bad
          · rw [if_pos ⟨m0, b⟩, mnum_f (mbad_n (by decide))]
          · rw [if_neg (fun z => b z.2)]
            have r1 : mFig M < l ∨ g < mFig M := r.elim id (fun e => Classical.byContradiction fun z => b ((hbad h0 q z).mpr e))
            unfold mNumM mMusT
            rw [if_pos mle, if_pos ⟨v.mp q, r1⟩, mmust_f (mbad_n (by decide))]
        rw [hc, hm]
        exact ⟨h.bad (by decide), fun z => absurd z (fail_n (by decide))⟩
      · have r1 : ¬ (mFig M < l ∨ g < mFig M) := fun z => r (Or.inl z)
        have r2 : ¬ mFig M = u := fun z => r (Or.inr z)
        have b : ¬ bad := fun z => r2 ((hbad h0 q r1).mp z)
        have hc : cNumM C l g u = cNx C := by
          unfold cNumM
          rw [if_pos hn, hv, if_neg r]
        have hR : cNumR C l g u = mFig M := by
          unfold cNumR
          rw [hv, if_pos ⟨h0, q, r1, r2⟩]
        have hm : mNumM (if M.1 180 17 = 0 ∧ bad then mBad M 2 else M) l g = mNx M := by
          rw [if_neg (fun z => b z.2)]
          unfold mNumM mMusT mMust
          rw [if_pos mle, if_neg (show ¬ (M.1 180 14 = 3 ∧ (mFig M < l ∨ g < mFig M)) from fun z => r1 z.2), if_pos (v.mp q), if_neg (by decide), show mGo M = mNx M from if_pos m0]
        rw [hc, hm]
        exact ⟨h.nx h0, fun _ => ⟨h0, b, by rw [hR]; unfold mNumR; rw [if_pos mle], by rw [hR]; exact r1, by rw [hR]; exact r2⟩⟩
    · have b : ¬ bad := fun z => q (hno h0 z)
      have hc : cNumM C l g u = cFail C 1 := by
        unfold cNumM
        rw [if_neg (fun z => q z.2)]
      have hm : mNumM (if M.1 180 17 = 0 ∧ bad then mBad M 2 else M) l g = mBad M 1 := by
        rw [if_neg (fun z => b z.2)]
        unfold mNumM mMusT mMust
        rw [if_pos mle, if_neg (show ¬ (M.1 180 14 = 3 ∧ (mFig M < l ∨ g < mFig M)) from fun z => q (v.mpr z.1)), if_neg (show ¬ M.1 180 14 = 3 from fun z => q (v.mpr z)), if_pos rfl, mgo_f (mbad_n (by decide))]
      rw [hc, hm]
      exact ⟨h.bad (by decide), fun z => absurd z (fail_n (by decide))⟩
  · have hc : cNumM C l g u = C := by
      unfold cNumM
      rw [if_neg (fun z => h0 z.1), fail_f h0]
    have m0 : ¬ M.1 180 17 = 0 := fun q => h0 (h.zero.mpr q)
    rw [hc, if_neg (fun z => m0 z.1), mnum_f m0]
    exact ⟨h, fun z => absurd z h0⟩
/-- a number, any in the range -/
theorem TR.num {C0 M0 C M : zm} {t : Nat} (h : TR C0 M0 t C M) (l g : Int32) (hl : 0 ≤ l) : TR C0 M0 t (cNumM C l g (-1000000)) (mNumM M l g) ∧ ((cNumM C l g (-1000000)).1 12 6 = 0 → C.1 12 6 = 0 ∧ cNumR C l g (-1000000) = mNumR M ∧ ¬ (cNumR C l g (-1000000) < l ∨ g < cNumR C l g (-1000000))) := by
  obtain ⟨a, b⟩ := h.numX l g (-1000000) False (fun _ _ r => ⟨fun z => z.elim, fun z => r (Or.inl (by
    rw [z]
    exact Int32.lt_of_lt_of_le (by decide) hl))⟩) (fun _ z => z.elim)
  rw [if_neg (fun z => z.2)] at a
  exact ⟨a, fun z => ⟨(b z).1, (b z).2.2.1, (b z).2.2.2.1⟩⟩
