/-! ===== pure: a way, a person read by both ===== -/
theorem TK.c {C C' M M' : zm} {t : Nat} (e1 : ∀ k, C'.1 12 k = C.1 12 k) (e2 : ∀ k, C'.1 13 k = C.1 13 k) (e3 : ∀ k, M'.1 180 k = M.1 180 k) (e4 : M'.1 187 = M.1 187) (h : TK C M t) : TK C' M' t := by
  unfold TK at h ⊢
  simp only [e1, e2, e3, e4]
  exact h
theorem TR.c {C0 M0 C C' M M' : zm} {t : Nat} (e1 : ∀ k, C'.1 12 k = C.1 12 k) (e2 : ∀ k, C'.1 13 k = C.1 13 k) (e3 : ∀ k, M'.1 180 k = M.1 180 k) (e4 : M'.1 187 = M.1 187) (f1 : cFrm C0 C') (f2 : mFrm M0 M') (h : TR C0 M0 t C M) : TR C0 M0 t C' M' := by
  obtain ⟨g1, -, ⟨g4, g5⟩, ⟨g6, g7⟩, g8, g9⟩ := h
  refine ⟨g1, ⟨f1, f2⟩, ⟨(e1 1).trans g4, (e3 12).trans g5⟩, ⟨by rw [e1, e3]; exact g6, by rw [e1]; exact g7⟩, fun q => ?_, fun q => ?_⟩
  · rw [e1] at q
    rw [e1, e3]
    exact g8 q
  · rw [e1] at q
    exact (g9 q).c e1 e2 e3 e4
theorem cFrm.u {C0 C : zm} (h : cFrm C0 C) {a k : Nat} {v : Int32} (ha : a = 29 ∨ (32 ≤ a ∧ a < 44)) : cFrm C0 (upI C a k v) := fun b j h1 h2 h3 => by
  rw [upI_ne (by omega)]
  exact h b j h1 h2 h3
theorem mFrm.u {M0 M : zm} (h : mFrm M0 M) {k : Nat} {v : Int32} : mFrm M0 (upI M 185 k v) := ⟨fun b j h1 h2 => by
  rw [upI_ne (by omega)]
  exact h.1 b j h1 h2, fun j hj => by
  rw [upI_ne (by omega)]
  exact h.2 j hj⟩
theorem TR.u {C0 M0 C M : zm} {t : Nat} (h : TR C0 M0 t C M) {a k : Nat} {v : Int32} (ha : a = 29 ∨ (32 ≤ a ∧ a < 44)) : TR C0 M0 t (upI C a k v) M := h.c (fun j => upI_ne (by omega)) (fun j => upI_ne (by omega)) (fun _ => rfl) rfl (h.2.1.1.u ha) h.2.1.2
theorem TR.uM {C0 M0 C M : zm} {t : Nat} (h : TR C0 M0 t C M) {k : Nat} {v : Int32} : TR C0 M0 t C (upI M 185 k v) := h.c (fun _ => rfl) (fun _ => rfl) (fun j => upI_ne (by omega)) (upI_na (by decide)) h.2.1.1 h.2.1.2.u
theorem put_12 {m : zm} {a k : Nat} {l g u : Int32} (ha : a ≠ 12) : (cPut m a k l g u).1 12 6 = (cNumM m l g u).1 12 6 := upI_ne (fun z => ha z.1.symm)
theorem put_v {m : zm} {a k : Nat} {l g u : Int32} : (cPut m a k l g u).1 a k = cNumR m l g u := upI_eq _ _ _ _
theorem TR.put {C0 M0 C M : zm} {t : Nat} (h : TR C0 M0 t C M) {a k : Nat} (l g : Int32) (ha : a = 29 ∨ (32 ≤ a ∧ a < 44)) (hl : 0 ≤ l) : TR C0 M0 t (cPut C a k l g (-1000000)) (mNumM M l g) ∧ ((cPut C a k l g (-1000000)).1 12 6 = 0 → C.1 12 6 = 0 ∧ cNumR C l g (-1000000) = mNumR M ∧ ¬ (mNumR M < l ∨ g < mNumR M)) := by
  obtain ⟨x, y⟩ := h.num l g hl
  refine ⟨x.u ha, fun q => ?_⟩
  rw [put_12 (by omega)] at q
  obtain ⟨y1, y2, y3⟩ := y q
  rw [y2] at y3
  exact ⟨y1, y2, y3⟩
theorem num_f {m : zm} {l g u : Int32} (h : ¬ m.1 12 6 = 0) : cNumM m l g u = m := by
  unfold cNumM
  rw [if_neg (fun z => h z.1), fail_f h]
theorem num_0 {m : zm} {l g u : Int32} (h : (cNumM m l g u).1 12 6 = 0) : m.1 12 6 = 0 := Classical.byContradiction fun q => q ((num_f q (l := l) (g := g) (u := u)) ▸ h)
theorem sign_0 {m : zm} (h : (cTakeS m).1 12 6 = 0) : m.1 12 6 = 0 := Classical.byContradiction fun q => q (by
  unfold cTakeS at h
  rw [if_neg (fun z => q z.1), fail_f q] at h
  exact h)
theorem TR.putF {C0 M0 C M : zm} {t : Nat} (h : TR C0 M0 t C M) (hf : ¬ C.1 12 6 = 0) {a k : Nat} (l g u l' g' : Int32) (ha : a = 29 ∨ (32 ≤ a ∧ a < 44)) : TR C0 M0 t (cPut C a k l g u) (mNumM M l' g') := by
  unfold cPut
  rw [num_f hf, mnum_f (fun q => hf (h.zero.mpr q))]
  exact h.u ha
/-- both drafts -/
def LD (C M : zm) (H W P : Nat) : Prop := (1 ≤ H ∧ H ≤ 5 ∧ W ≤ 8 ∧ P ≤ 4) ∧ (C.1 29 0 = nI H ∧ C.1 29 2 = nI W ∧ C.1 29 3 = nI P ∧ ∃ r : Nat, r ≤ 20 ∧ C.1 29 1 = nI r) ∧ (∀ k, k < 4 → M.1 185 k = C.1 29 k) ∧ (∀ w, w < W → WayOk C (32 + w) H ∧ ∀ k, k < 4 → M.1 185 (4 + 4 * w + k) = C.1 (32 + w) k) ∧ (∀ p, p < P → PerOk C (40 + p) H ∧ ∀ k, k < 8 → M.1 185 (36 + 8 * p + k) = C.1 (40 + p) (pm k)) ∧ ∀ k, 36 + 8 * P ≤ k → k < 68 → M.1 185 k = 0
theorem in_H {H : Nat} {v : Int32} (hH : H ≤ 5) (h : ¬ (v < 0 ∨ nI H - 1 < v)) : ∃ j : Nat, j < H ∧ v = nI j := in_nI (by omega) v h
theorem in_20 {v : Int32} (h : ¬ (v < 1 ∨ 20 < v)) : ∃ j : Nat, (1 ≤ j ∧ j ≤ 20) ∧ v = nI j := by
  obtain ⟨j, hj, e⟩ := nI_of2 (x := v) (n := 20) (M := 20) (by decide) (fun z => h (Or.inl (Int32.lt_trans z (by decide)))) (Int32.not_lt.mp (fun z => h (Or.inr z)))
  refine ⟨j, ⟨Nat.pos_of_ne_zero fun z => ?_, hj⟩, e⟩
  subst z
  exact h (Or.inl (by rw [e]; decide))
theorem in_N {v : Int32} {s : Nat} (hs : s < 1000) (h : ¬ (v < 0 ∨ nI s < v)) : ∃ j : Nat, j ≤ s ∧ v = nI j := nI_of2 (n := s) (M := nI s) (nI_toInt (by omega)) (fun z => h (Or.inl z)) (Int32.not_lt.mp (fun z => h (Or.inr z)))
theorem way_step {C0 M0 C M : zm} {t H W : Nat} (h : TR C0 M0 t C M) (h0 : C.1 12 6 = 0) (hw : isWx C 1) (hL : LD C M H W 0) (hW : W < 8) : TR C0 M0 t (cWay C W) (mWay M W) ∧ ((cWay C W).1 12 6 = 0 → LD (cWay C W) (mWay M W) H (W + 1) 0) := by
  obtain ⟨⟨H1, H5, -, -⟩, ⟨l0, l2, l3, r, hr, l1⟩, l4, l5, -, l7⟩ := hL
  have m0 := h.zero.mp h0
  have k0 : M.1 185 0 = nI H := (l4 0 (by omega)).trans l0
  have k2 : M.1 185 2 = nI W := (l4 2 (by omega)).trans l2
  have a1 : TR C0 M0 t (cTakeW C 1) (mWay1 M) := by
    have e1 : cTakeW C 1 = cNx C := if_pos ⟨h0, hw⟩
    have e2 : mWay1 M = mNx M := by
      unfold mWay1 mBeg mMust
      rw [if_neg (show ¬ M.1 185 2 = 8 from by rw [k2]; exact fun z => absurd ((nI_eq (b := 8) (by omega) (by omega)).mp z) (by omega)), if_neg (by decide)]
      exact if_pos m0
    rw [e1, e2]
    exact h.nx h0
  have cH : (cTakeW C 1).1 29 0 = nI H := (tw_o (by decide)).trans l0
  have mH : (mWay1 M).1 185 0 = nI H := (mbeg_o (by decide)).trans k0
  have b1 : TR C0 M0 t (cWay1 C W) (mWay2 M) ∧ ((cWay1 C W).1 12 6 = 0 → (cTakeW C 1).1 12 6 = 0 ∧ (cWay1 C W).1 (32 + W) 0 = mNumR (mWay1 M) ∧ ¬ (mNumR (mWay1 M) < 0 ∨ nI H - 1 < mNumR (mWay1 M))) := by
    unfold cWay1 mWay2
    rw [cH, mH, put_v]
    exact a1.put 0 (nI H - 1) (by omega) (by decide)
  have cH1 : (cWay1 C W).1 29 0 = nI H := by
    unfold cWay1
    rw [put_o (by decide) (by omega)]
    exact cH
  have mH3 : (mWay3 M).1 185 0 = nI H := (mWay3_o (by decide)).trans k0
  have b2 : TR C0 M0 t (cWay2 C W) (mWay4 (mWay3 M)) ∧ ((cWay2 C W).1 12 6 = 0 → (cWay1 C W).1 12 6 = 0 ∧ (cWay2 C W).1 (32 + W) 1 = mNumR (mWay3 M) ∧ ¬ (mNumR (mWay3 M) < 0 ∨ nI H - 1 < mNumR (mWay3 M)) ∧ ¬ mNumR (mWay3 M) = mNumR (mWay1 M)) := by
    have x := b1.1.numX 0 (nI H - 1) ((cWay1 C W).1 (32 + W) 0) ((mWay2 M).1 180 14 = 3 ∧ mFig (mWay2 M) = mNumR (mWay1 M)) (fun f q _ => by
      rw [(b1.2 f).2.1]
      exact ⟨fun z => z.2, fun z => ⟨(b1.1.val f).1.mp q, z⟩⟩) (fun f z => (b1.1.val f).1.mpr z.1)
    have e3 : (if (mWay2 M).1 180 17 = 0 ∧ ((mWay2 M).1 180 14 = 3 ∧ mFig (mWay2 M) = mNumR (mWay1 M)) then mBad (mWay2 M) 2 else mWay2 M) = mWay3 M := rfl
    rw [e3] at x
    unfold cWay2 mWay4
    rw [cH1, mH3, put_v, put_12 (by omega)]
    refine ⟨x.1.u (by omega), fun f => ?_⟩
    obtain ⟨y1, y2, y3, y4, y5⟩ := x.2 f
    have e4 : mWay3 M = mWay2 M := if_neg (fun z => y2 z.2)
    rw [(b1.2 y1).2.1] at y3 y4 y5
    rw [(b1.2 y1).2.1, e4, y3]
    rw [y3] at y4 y5
    exact ⟨y1, rfl, y4, y5⟩
  have b3 : TR C0 M0 t (cWay3 C W) (mWay5 (mWay3 M)) ∧ ((cWay3 C W).1 12 6 = 0 → (cWay2 C W).1 12 6 = 0 ∧ (cWay3 C W).1 (32 + W) 2 = mNumR (mWay4 (mWay3 M)) ∧ ¬ (mNumR (mWay4 (mWay3 M)) < 1 ∨ 20 < mNumR (mWay4 (mWay3 M)))) := by
    unfold cWay3 mWay5
    rw [put_v]
    exact b2.1.put 1 20 (by omega) (by decide)
  have b4 : TR C0 M0 t (cPut (cWay3 C W) (32 + W) 3 0 ((cWay3 C W).1 (32 + W) 2) (-1000000)) (mNumM (mWay5 (mWay3 M)) 0 (mNumR (mWay4 (mWay3 M)))) ∧ ((cPut (cWay3 C W) (32 + W) 3 0 ((cWay3 C W).1 (32 + W) 2) (-1000000)).1 12 6 = 0 → (cWay3 C W).1 12 6 = 0 ∧ cNumR (cWay3 C W) 0 ((cWay3 C W).1 (32 + W) 2) (-1000000) = mNumR (mWay5 (mWay3 M)) ∧ ¬ (mNumR (mWay5 (mWay3 M)) < 0 ∨ mNumR (mWay4 (mWay3 M)) < mNumR (mWay5 (mWay3 M)))) := by
    by_cases f : (cWay3 C W).1 12 6 = 0
    · rw [(b3.2 f).2.1]
      exact b3.1.put 0 _ (by omega) (by decide)
    · refine ⟨b3.1.putF f _ _ _ _ _ (by omega), fun z => absurd ?_ f⟩
      rw [put_12 (by omega)] at z
      exact num_0 z
  have b5 : TR C0 M0 t (cWay4 C W) (mWay6 (mWay3 M)) := b4.1.sign
  have cw : (cWay C W).1 12 6 = (cWay4 C W).1 12 6 := upI_ne (by omega)
  have em : mWay M W = mWayE (mWay6 (mWay3 M)) W (mNumR (mWay1 M)) (mNumR (mWay3 M)) (mNumR (mWay4 (mWay3 M))) (mNumR (mWay5 (mWay3 M))) := rfl
  have tr1 : TR C0 M0 t (cWay C W) (mWay6 (mWay3 M)) := b5.u (by omega)
  refine ⟨?_, fun f => ?_⟩
  · rw [em]
    unfold mWayE mWayP
    split
    · exact tr1.uM.uM.uM.uM.uM
    · exact tr1
  · rw [cw] at f
    have f6 := b5.zero.mp f
    obtain ⟨y1, y2, y3⟩ := b4.2 (sign_0 f)
    obtain ⟨z1, z2, z3⟩ := b3.2 y1
    obtain ⟨x1, x2, x3, x4⟩ := b2.2 z1
    obtain ⟨-, w2, w3⟩ := b1.2 x1
    obtain ⟨p, hp, ep⟩ := in_H H5 w3
    obtain ⟨q, hq, eq⟩ := in_H H5 x3
    obtain ⟨s, hs, es⟩ := in_20 z3
    rw [es] at y3
    obtain ⟨y, hy, ey⟩ := in_N (by omega) y3
    have o : ∀ a k, a ≠ 12 → a ≠ 32 + W → (cWay4 C W).1 a k = C.1 a k := fun a k h1 h2 => way4_o h1 h2
    have o1 : ∀ a k, a ≠ 12 → a ≠ 32 + W → ¬ (a = 29 ∧ k = 2) → (cWay C W).1 a k = C.1 a k := fun a k h1 h2 h3 => (upI_ne h3).trans (o a k h1 h2)
    have v0 : (cWay C W).1 (32 + W) 0 = nI p := by
      unfold cWay cWay4 cWay3 cWay2
      rw [upI_ne (by omega), ts_o (by omega), put_o (by omega) (by omega), put_o (by omega) (by omega), put_o (by omega) (by omega), w2, ep]
    have v1 : (cWay C W).1 (32 + W) 1 = nI q := by
      unfold cWay cWay4 cWay3
      rw [upI_ne (by omega), ts_o (by omega), put_o (by omega) (by omega), put_o (by omega) (by omega), x2, eq]
    have v2 : (cWay C W).1 (32 + W) 2 = nI s := by
      unfold cWay cWay4
      rw [upI_ne (by omega), ts_o (by omega), put_o (by omega) (by omega), z2, es]
    have v3 : (cWay C W).1 (32 + W) 3 = nI y := by
      unfold cWay cWay4
      rw [upI_ne (by omega), ts_o (by omega), put_v, y2, ey]
    have n2 : (cWay C W).1 29 2 = nI (W + 1) := by
      unfold cWay
      rw [upI_eq, o _ _ (by decide) (by omega), l2, nI_1]
    have em2 : mWay M W = mWayP (mWay6 (mWay3 M)) W (nI p) (nI q) (nI s) (nI y) := by
      rw [em, ep, eq, es, ey]
      exact if_pos f6
    have ob : ∀ k, (mWay6 (mWay3 M)).1 185 k = M.1 185 k := fun k => (mWay6_o (by decide)).trans (mWay3_o (by decide))
    have u : ∀ k, (mWay M W).1 185 k = if k = 2 then nI (W + 1) else if k = 4 + 4 * W + 3 then nI y else if k = 4 + 4 * W + 2 then nI s else if k = 4 + 4 * W + 1 then nI q else if k = 4 + 4 * W then nI p else M.1 185 k := fun k => by
      rw [em2]
      unfold mWayP
      show (if 185 = 185 ∧ k = 2 then _ else if 185 = 185 ∧ k = 4 + 4 * W + 3 then _ else if 185 = 185 ∧ k = 4 + 4 * W + 2 then _ else if 185 = 185 ∧ k = 4 + 4 * W + 1 then _ else if 185 = 185 ∧ k = 4 + 4 * W then _ else (mWay6 (mWay3 M)).1 185 k) = _
      simp only [true_and, ob]
    have un : ∀ k, ¬ k = 2 → (k < 4 + 4 * W ∨ 4 + 4 * W + 3 < k) → (mWay M W).1 185 k = M.1 185 k := fun k h1 h2 => by
      rw [u, if_neg h1, if_neg (by omega), if_neg (by omega), if_neg (by omega), if_neg (by omega)]
    refine ⟨⟨H1, H5, by omega, by omega⟩, ⟨by rw [o1 29 0 (by decide) (by omega) (by decide)]; exact l0, n2, by rw [o1 29 3 (by decide) (by omega) (by decide)]; exact l3, r, hr, by rw [o1 29 1 (by decide) (by omega) (by decide)]; exact l1⟩, fun k hk => ?_, fun w hw2 => ?_, fun p hp => absurd hp (by omega), fun k h1 h2 => by rw [un k (by omega) (by omega)]; exact l7 k h1 h2⟩
    · by_cases e : k = 2
      · subst e
        rw [u, if_pos rfl, n2]
      · rw [un k e (by omega), o1 29 k (by decide) (by omega) (by omega)]
        exact l4 k hk
    · by_cases e : w = W
      · subst e
        refine ⟨⟨p, q, s, y, hp, hq, fun z => x4 (by rw [eq, ep, z]), hs.1, hs.2, hy, v0, v1, v2, v3⟩, fun k hk => ?_⟩
        match k, hk with
        | 0, _ => rw [u, if_neg (by omega), if_neg (by omega), if_neg (by omega), if_neg (by omega), if_pos (by omega), v0]
        | 1, _ => rw [u, if_neg (by omega), if_neg (by omega), if_neg (by omega), if_pos rfl, v1]
        | 2, _ => rw [u, if_neg (by omega), if_neg (by omega), if_pos rfl, v2]
        | 3, _ => rw [u, if_neg (by omega), if_pos rfl, v3]
        | k + 4, hk => exact absurd hk (by omega)
      · obtain ⟨g1, g2⟩ := l5 w (by omega)
        exact ⟨g1.c (fun k => o1 _ k (by omega) (by omega) (by omega)), fun k hk => by rw [un _ (by omega) (by omega), o1 _ k (by omega) (by omega) (by omega)]; exact g2 k hk⟩
