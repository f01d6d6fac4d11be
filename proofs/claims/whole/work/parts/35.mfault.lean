/-! ===== the model: faults, names ===== -/
def mBad (m : zm) (z : Int32) : zm := if m.1 180 17 = 0 then upI (upI m 180 17 z) 180 18 ((upI m 180 17 z).1 180 15) else m
def kindB (w : Int64) : Int32 := if w = 27973158311127406 then 1 else if w = 482805051252 then 2 else if w = 1836019307 then 3 else if w = 427020350059 then 4 else if w = 6451065 then 5 else -1000000
set_option maxHeartbeats 4000000 in
set_option maxRecDepth 100000 in
theorem ev_X8_bad (d : Nat) (m : zm) (z : Int32) : zEv (d) zM_X8_bad 0 0 [.ref 180, .int z] (lay m) (none, lay (mBad m z)) := by
  refine zEv_of (by decide) (fun G => Nat.le_of_ble_eq_true rfl) ?_
  show ZW _ _ _ _ 0 [some (.ref 180), some (.int z)] [] _ _ _ _
  refine z_aload_n (i := 0) (q := 1) dX8_bad_0 rfl rfl rfl ?_
  refine m_getI (q := 4) dX8_bad_1 fl_X8_106 ⟨by decide, _, rfl, rfl⟩ rfl ?_
  refine z_if_ne (tgt := 20) (q := 7) dX8_bad_4 (by decide) rfl (fun c1 => ?_) (fun c1 => ?_)
  · skip
    refine z_return dX8_bad_20 rfl ?_ (Nat.le_refl _) (Nat.le_refl _)
    rw [show mBad m z = m from if_neg c1]
  · skip
    refine z_aload_n (i := 0) (q := 8) dX8_bad_7 rfl rfl rfl ?_
    refine z_iload_n (i := 1) (q := 9) dX8_bad_8 rfl rfl rfl ?_
    refine m_putI (q := 12) dX8_bad_9 fp_X8_106 ⟨by decide, _, rfl, rfl⟩ ⟨rfl, rfl⟩ rfl ?_
    refine z_aload_n (i := 0) (q := 13) dX8_bad_12 rfl rfl rfl ?_
    refine z_aload_n (i := 0) (q := 14) dX8_bad_13 rfl rfl rfl ?_
    refine m_getI (q := 17) dX8_bad_14 fl_X8_91 ⟨by decide, _, rfl, rfl⟩ rfl ?_
    refine m_putI (q := 20) dX8_bad_17 fp_X8_112 ⟨by decide, _, rfl, rfl⟩ ⟨rfl, rfl⟩ rfl ?_
    refine z_return dX8_bad_20 rfl ?_ (Nat.le_refl _) (Nat.le_refl _)
    rw [show mBad m z = _ from if_pos c1]
def mL (m : zm) : Nat := (m.1 180 12).toNatClampNeg
def mC (m : zm) : Nat := (m.1 180 13).toNatClampNeg
def mS (m : zm) : Nat := (m.1 180 15).toNatClampNeg
def mE (m : zm) : Nat := (m.1 180 16).toNatClampNeg
def mOk (m : zm) : Prop := (m.1 180 12 = nI (mL m) ∧ mL m ≤ 400 ∧ (∀ k, k < mL m → 0 ≤ m.1 187 k)) ∧ (m.1 180 13 = nI (mC m) ∧ mC m ≤ mL m) ∧ m.1 180 15 = nI (mS m) ∧ m.1 180 16 = nI (mE m) ∧ mS m ≤ mE m ∧ mE m ≤ mL m
abbrev mNx (m : zm) : zm := mNext m (mL m) (mC m)
theorem mOk_of {m : zm} {t c s e : Nat} (h1 : m.1 180 12 = nI t) (h2 : t ≤ 400) (h3 : ∀ k, k < t → 0 ≤ m.1 187 k) (h4 : m.1 180 13 = nI c) (h5 : c ≤ t) (h6 : m.1 180 15 = nI s) (h7 : m.1 180 16 = nI e) (h8 : s ≤ e) (h9 : e ≤ t) : mOk m ∧ mL m = t ∧ mC m = c ∧ mS m = s ∧ mE m = e := by
  have e1 : mL m = t := by unfold mL; rw [h1, nI_clamp (by omega)]
  have e2 : mC m = c := by unfold mC; rw [h4, nI_clamp (by omega)]
  have e3 : mS m = s := by unfold mS; rw [h6, nI_clamp (by omega)]
  have e4 : mE m = e := by unfold mE; rw [h7, nI_clamp (by omega)]
  refine ⟨⟨⟨by rw [e1]; exact h1, by omega, by rw [e1]; exact h3⟩, ⟨by rw [e2]; exact h4, by omega⟩, by rw [e3]; exact h6, by rw [e4]; exact h7, by omega, by omega⟩, e1, e2, e3, e4⟩
theorem mOk_tok {m : zm} {t s : Nat} (hl : m.1 180 12 = nI t) (ht4 : t ≤ 400) (hby : ∀ k, k < t → 0 ≤ m.1 187 k) (hs : m.1 180 13 = nI s) (hst : s ≤ t) : mOk (mTok m t s) := by
  unfold mTok mEnd
  split
  next h => exact (mOk_of (t := t) (c := s) (s := s) (e := s) (by simp [upI, hl]) ht4 (by simp only [u187]; exact hby) (by simp [upI, hs]) hst (by simp [upI]) (by simp [upI]) (Nat.le_refl _) hst).1
  next h =>
    split
    next h2 =>
      have he := cPass_le (m.1 187) t 97 122 (t - s) s hst
      exact (mOk_of (t := t) (s := s) (by simp [upI, hl]) ht4 (by simp only [u187]; exact hby) (by simp [upI]) he.2 (by simp [upI]) (by simp [upI]) he.1 he.2).1
    next h2 =>
      split
      next h3 =>
        have he := cPass_le (m.1 187) t 48 57 (t - s) s hst
        exact (mOk_of (t := t) (s := s) (by simp [upI, hl]) ht4 (by simp only [u187]; exact hby) (by simp [upI]) he.2 (by simp [upI]) (by simp [upI]) he.1 he.2).1
      next h3 => exact (mOk_of (t := t) (c := s + 1) (s := s) (e := s + 1) (by simp [upI, hl]) ht4 (by simp only [u187]; exact hby) (by simp [upI]) (by omega) (by simp [upI]) (by simp [upI]) (by omega) (by omega)).1
theorem mOk_next {m : zm} {t b : Nat} (hl : m.1 180 12 = nI t) (ht4 : t ≤ 400) (hby : ∀ k, k < t → 0 ≤ m.1 187 k) (hbt : b ≤ t) : mOk (mNext m t b) := by
  have h := cSkip_le (m.1 187) t (t - b) b hbt
  exact mOk_tok (by simp [upI, hl]) ht4 (by rw [u187]; exact hby) (upI_eq _ _ _ _) h.2
theorem mOk_nx {m : zm} (h : mOk m) : mOk (mNx m) := mOk_next h.1.1 h.1.2.1 h.1.2.2 h.2.1.2
theorem mOk_c {m m' : zm} (h0 : m'.1 187 = m.1 187) (h1 : m'.1 180 12 = m.1 180 12) (h2 : m'.1 180 13 = m.1 180 13) (h3 : m'.1 180 15 = m.1 180 15) (h4 : m'.1 180 16 = m.1 180 16) (h : mOk m) : mOk m' := by
  obtain ⟨⟨a1, a2, a3⟩, ⟨a4, a5⟩, a6, a7, a8, a9⟩ := h
  exact (mOk_of (h1.trans a1) a2 (by rw [h0]; exact a3) (h2.trans a4) a5 (h3.trans a6) (h4.trans a7) a8 a9).1
theorem mOk_bad {m : zm} {z : Int32} (h : mOk m) : mOk (mBad m z) := by
  unfold mBad
  split
  · exact mOk_c (by simp only [u187]) (by simp [upI]) (by simp [upI]) (by simp [upI]) (by simp [upI]) h
  · exact h
theorem mOk_u {m : zm} {a k : Nat} {v : Int32} (ha : a ≠ 180) (hb : a ≠ 187) (h : mOk m) : mOk (upI m a k v) := mOk_c (upI_na (Ne.symm hb)) (upI_ne (fun z => ha z.1.symm)) (upI_ne (fun z => ha z.1.symm)) (upI_ne (fun z => ha z.1.symm)) (upI_ne (fun z => ha z.1.symm)) h
def mGo (m : zm) : zm := if m.1 180 17 = 0 then mNx m else m
def mMust (m : zm) (so : Int32) : zm := mGo (if so = 0 then mBad m 1 else m)
theorem mOk_go {m : zm} (h : mOk m) : mOk (mGo m) := by
  unfold mGo
  split
  · exact mOk_nx h
  · exact h
theorem mOk_must {m : zm} {so : Int32} (h : mOk m) : mOk (mMust m so) := by
  unfold mMust
  split
  · exact mOk_go (mOk_bad h)
  · exact mOk_go h
set_option maxHeartbeats 4000000 in
set_option maxRecDepth 100000 in
theorem sg_X8_go (d : Nat) (m : zm) (hT : mOk m) (so : Int32) : ZW zM_X8_must (d + 2) 0 0 9 [some (.ref 180), some (.int so)] [] (lay m) 0 0 (none, lay (mGo m)) := by
  refine z_aload_n (i := 0) (q := 10) dX8_must_9 rfl rfl rfl ?_
  refine m_getI (q := 13) dX8_must_10 fl_X8_106 ⟨by decide, _, rfl, rfl⟩ rfl ?_
  refine z_if_ne (tgt := 20) (q := 16) dX8_must_13 (by decide) rfl (fun c1 => ?_) (fun c1 => ?_)
  · skip
    refine z_return dX8_must_20 rfl ?_ (Nat.le_refl _) (Nat.le_refl _)
    rw [show mGo m = m from if_neg c1]
  · skip
    refine z_aload_n (i := 0) (q := 17) dX8_must_16 rfl rfl rfl ?_
    refine m_callV_v (As := []) (q := 20) mk_X8_next dX8_must_17 wd_864 wd_866 wp_32 (ci := 8) rfl ⟨by decide, _, rfl⟩ (ev_X8_next _ _ _ _  hT.1.1 hT.1.2.1 hT.1.2.2 hT.2.1.1 hT.2.1.2) rfl (by decide) rfl (Nat.zero_le _) (Nat.zero_le _) rfl ?_
    refine z_return dX8_must_20 rfl ?_ (Nat.le_refl _) (Nat.le_refl _)
    rw [show mGo m = _ from if_pos c1]
set_option maxHeartbeats 4000000 in
set_option maxRecDepth 100000 in
theorem ev_X8_must (d : Nat) (m : zm) (so : Int32) (hT : mOk m) : zEv (d + 2) zM_X8_must 0 0 [.ref 180, .int so] (lay m) (none, lay (mMust m so)) := by
  refine zEv_of (by decide) (fun G => Nat.le_of_ble_eq_true rfl) ?_
  show ZW _ _ _ _ 0 [some (.ref 180), some (.int so)] [] _ _ _ _
  refine z_iload_n (i := 1) (q := 1) dX8_must_0 rfl rfl rfl ?_
  refine z_if_ne (tgt := 9) (q := 4) dX8_must_1 (by decide) rfl (fun c1 => ?_) (fun c1 => ?_)
  · skip
    rw [show mMust m so = mGo _ from congrArg mGo (if_neg c1)]
    exact sg_X8_go d _ hT so
  · skip
    refine z_aload_n (i := 0) (q := 5) dX8_must_4 rfl rfl rfl ?_
    refine z_iconst (v := 1) (q := 6) dX8_must_5 (by decide) rfl ?_
    refine m_callV_v (As := [_]) (q := 9) mk_X8_bad dX8_must_6 wd_888 wd_890 wp_36 (ci := 8) rfl ⟨by decide, _, rfl⟩ (ev_X8_bad _ _ _) rfl (by decide) rfl (Nat.zero_le _) (Nat.zero_le _) rfl ?_
    rw [show mMust m so = mGo _ from congrArg mGo (if_pos c1)]
    exact sg_X8_go d _ (mOk_bad hT) so
set_option maxHeartbeats 4000000 in
set_option maxRecDepth 100000 in
theorem ev_X8_kindBy (d : Nat) (h : zH) (w : Int64) : zEv (d) zM_X8_kindBy 0 0 [.long w] (h) (some (.int (kindB w)), h) := by
  refine zEv_of (by decide) (fun G => Nat.le_of_ble_eq_true rfl) ?_
  show ZW _ _ _ _ 0 [some (.long w), none] [] _ _ _ _
  refine z_lload_n (i := 0) (q := 1) dX8_kindBy_0 rfl rfl rfl ?_
  refine z_ldc2 (q := 4) dX8_kindBy_1 wd_921 rfl ?_
  refine z_lcmp (q := 5) dX8_kindBy_4 rfl ?_
  refine zl_ne (tgt := 12) (q := 8) dX8_kindBy_5 (by decide) rfl (fun c1 => ?_) (fun c1 => ?_)
  · skip
    refine z_lload_n (i := 0) (q := 13) dX8_kindBy_12 rfl rfl rfl ?_
    refine z_ldc2 (q := 16) dX8_kindBy_13 wd_922 rfl ?_
    refine z_lcmp (q := 17) dX8_kindBy_16 rfl ?_
    refine zl_ne (tgt := 24) (q := 20) dX8_kindBy_17 (by decide) rfl (fun c2 => ?_) (fun c2 => ?_)
    · skip
      refine z_lload_n (i := 0) (q := 25) dX8_kindBy_24 rfl rfl rfl ?_
      refine z_ldc2 (q := 28) dX8_kindBy_25 wd_923 rfl ?_
      refine z_lcmp (q := 29) dX8_kindBy_28 rfl ?_
      refine zl_ne (tgt := 36) (q := 32) dX8_kindBy_29 (by decide) rfl (fun c3 => ?_) (fun c3 => ?_)
      · skip
        refine z_lload_n (i := 0) (q := 37) dX8_kindBy_36 rfl rfl rfl ?_
        refine z_ldc2 (q := 40) dX8_kindBy_37 wd_924 rfl ?_
        refine z_lcmp (q := 41) dX8_kindBy_40 rfl ?_
        refine zl_ne (tgt := 48) (q := 44) dX8_kindBy_41 (by decide) rfl (fun c4 => ?_) (fun c4 => ?_)
        · skip
          refine z_lload_n (i := 0) (q := 49) dX8_kindBy_48 rfl rfl rfl ?_
          refine z_ldc2 (q := 52) dX8_kindBy_49 wd_925 rfl ?_
          refine z_lcmp (q := 53) dX8_kindBy_52 rfl ?_
          refine zl_ne (tgt := 60) (q := 56) dX8_kindBy_53 (by decide) rfl (fun c5 => ?_) (fun c5 => ?_)
          · skip
            refine z_ldc (q := 62) dX8_kindBy_60 wd_872 rfl ?_
            refine z_ireturn dX8_kindBy_62 rfl rfl ?_ (Nat.le_refl _) (Nat.le_refl _)
            simp [kindB, c1, c2, c3, c4, c5]
          · skip
            refine z_iconst (v := 5) (q := 57) dX8_kindBy_56 (by decide) rfl ?_
            refine z_goto (tgt := 62) dX8_kindBy_57 (by decide) ?_
            refine z_ireturn dX8_kindBy_62 rfl rfl ?_ (Nat.le_refl _) (Nat.le_refl _)
            simp [kindB, c1, c2, c3, c4, c5]
        · skip
          refine z_iconst (v := 4) (q := 45) dX8_kindBy_44 (by decide) rfl ?_
          refine z_goto (tgt := 62) dX8_kindBy_45 (by decide) ?_
          refine z_ireturn dX8_kindBy_62 rfl rfl ?_ (Nat.le_refl _) (Nat.le_refl _)
          simp [kindB, c1, c2, c3, c4]
      · skip
        refine z_iconst (v := 3) (q := 33) dX8_kindBy_32 (by decide) rfl ?_
        refine z_goto (tgt := 62) dX8_kindBy_33 (by decide) ?_
        refine z_ireturn dX8_kindBy_62 rfl rfl ?_ (Nat.le_refl _) (Nat.le_refl _)
        simp [kindB, c1, c2, c3]
    · skip
      refine z_iconst (v := 2) (q := 21) dX8_kindBy_20 (by decide) rfl ?_
      refine z_goto (tgt := 62) dX8_kindBy_21 (by decide) ?_
      refine z_ireturn dX8_kindBy_62 rfl rfl ?_ (Nat.le_refl _) (Nat.le_refl _)
      simp [kindB, c1, c2]
  · skip
    refine z_iconst (v := 1) (q := 9) dX8_kindBy_8 (by decide) rfl ?_
    refine z_goto (tgt := 62) dX8_kindBy_9 (by decide) ?_
    refine z_ireturn dX8_kindBy_62 rfl rfl ?_ (Nat.le_refl _) (Nat.le_refl _)
    simp [kindB, c1]
def mMustEnd (m : zm) : zm := if m.1 180 17 = 0 then mMust m (if m.1 180 14 = 4 then 1 else 0) else m
theorem mOk_me {m : zm} (h : mOk m) : mOk (mMustEnd m) := by
  unfold mMustEnd
  split
  · exact mOk_must h
  · exact h
set_option maxHeartbeats 4000000 in
set_option maxRecDepth 100000 in
theorem ev_X8_mustEnd (d : Nat) (m : zm) (hT : mOk m) : zEv (d + 3) zM_X8_mustEnd 0 0 [.ref 180] (lay m) (none, lay (mMustEnd m)) := by
  refine zEv_of (by decide) (fun G => Nat.le_of_ble_eq_true rfl) ?_
  show ZW _ _ _ _ 0 [some (.ref 180)] [] _ _ _ _
  refine z_aload_n (i := 0) (q := 1) dX8_mustEnd_0 rfl rfl rfl ?_
  refine m_getI (q := 4) dX8_mustEnd_1 fl_X8_106 ⟨by decide, _, rfl, rfl⟩ rfl ?_
  refine z_if_ne (tgt := 24) (q := 7) dX8_mustEnd_4 (by decide) rfl (fun c1 => ?_) (fun c1 => ?_)
  · skip
    refine z_return dX8_mustEnd_24 rfl ?_ (Nat.le_refl _) (Nat.le_refl _)
    rw [show mMustEnd m = m from if_neg c1]
  · skip
    refine z_aload_n (i := 0) (q := 8) dX8_mustEnd_7 rfl rfl rfl ?_
    refine z_aload_n (i := 0) (q := 9) dX8_mustEnd_8 rfl rfl rfl ?_
    refine m_getI (q := 12) dX8_mustEnd_9 fl_X8_94 ⟨by decide, _, rfl, rfl⟩ rfl ?_
    refine z_iconst (v := 4) (q := 13) dX8_mustEnd_12 (by decide) rfl ?_
    refine z_icmp_ne (tgt := 20) (q := 16) dX8_mustEnd_13 (by decide) rfl (fun c2 => ?_) (fun c2 => ?_)
    · skip
      refine z_iconst (v := 0) (q := 21) dX8_mustEnd_20 (by decide) rfl ?_
      refine m_callV_v (As := [_]) (q := 24) mk_X8_must dX8_mustEnd_21 wd_884 wd_886 wp_35 (ci := 8) rfl ⟨by decide, _, rfl⟩ (ev_X8_must _ _ _ (by repeat (with_reducible first | exact hT | refine mOk_must ?_ | refine mOk_bad ?_ | refine mOk_me ?_ | refine mOk_beg ?_ | refine mOk_u (by omega) (by omega) ?_))) rfl (by decide) rfl (Nat.zero_le _) (Nat.zero_le _) rfl ?_
      refine z_return dX8_mustEnd_24 rfl ?_ (Nat.le_refl _) (Nat.le_refl _)
      rw [show mMustEnd m = mMust m 0 from (if_pos c1).trans (by rw [if_neg c2])]
    · skip
      refine z_iconst (v := 1) (q := 17) dX8_mustEnd_16 (by decide) rfl ?_
      refine z_goto (tgt := 21) dX8_mustEnd_17 (by decide) ?_
      refine m_callV_v (As := [_]) (q := 24) mk_X8_must dX8_mustEnd_21 wd_884 wd_886 wp_35 (ci := 8) rfl ⟨by decide, _, rfl⟩ (ev_X8_must _ _ _ (by repeat (with_reducible first | exact hT | refine mOk_must ?_ | refine mOk_bad ?_ | refine mOk_me ?_ | refine mOk_beg ?_ | refine mOk_u (by omega) (by omega) ?_))) rfl (by decide) rfl (Nat.zero_le _) (Nat.zero_le _) rfl ?_
      refine z_return dX8_mustEnd_24 rfl ?_ (Nat.le_refl _) (Nat.le_refl _)
      rw [show mMustEnd m = mMust m 1 from (if_pos c1).trans (by rw [if_pos c2])]
def mBeg (m : zm) (k : Nat) (z : Int32) : zm := mMust (if m.1 185 k = z then mBad m 3 else m) 1
theorem mOk_beg {m : zm} {k : Nat} {z : Int32} (h : mOk m) : mOk (mBeg m k z) := by
  unfold mBeg
  split
  · exact mOk_must (mOk_bad h)
  · exact mOk_must h
set_option maxHeartbeats 4000000 in
set_option maxRecDepth 100000 in
theorem ev_X8_begins (d : Nat) (m : zm) (k : Nat) (z : Int32) (hT : mOk m) (hk : k < 68) : zEv (d + 3) zM_X8_begins 0 0 [.ref 180, .int (nI k), .int z] (lay m) (none, lay (mBeg m k z)) := by
  refine zEv_of (by decide) (fun G => Nat.le_of_ble_eq_true rfl) ?_
  show ZW _ _ _ _ 0 [some (.ref 180), some (.int (nI k)), some (.int z)] [] _ _ _ _
  refine z_aload_n (i := 0) (q := 1) dX8_begins_0 rfl rfl rfl ?_
  refine m_getR (r := 185) (q := 4) dX8_begins_1 fl_X8_22 ⟨by decide, _, rfl, rfl⟩ rfl ?_
  refine z_iload_n (i := 1) (q := 5) dX8_begins_4 rfl rfl rfl ?_
  refine m_ialdJ (N := 68) (q := 6) dX8_begins_5 ⟨by decide, _, rfl⟩ (j := k) (nI_clamp (by omega)) (vp_in_nI (by omega) (by decide)) rfl ?_
  refine z_iload_n (i := 2) (q := 7) dX8_begins_6 rfl rfl rfl ?_
  refine z_icmp_ne (tgt := 15) (q := 10) dX8_begins_7 (by decide) rfl (fun c1 => ?_) (fun c1 => ?_)
  · skip
    refine z_aload_n (i := 0) (q := 16) dX8_begins_15 rfl rfl rfl ?_
    refine z_iconst (v := 1) (q := 17) dX8_begins_16 (by decide) rfl ?_
    refine m_callV_v (As := [_]) (q := 20) mk_X8_must dX8_begins_17 wd_884 wd_886 wp_35 (ci := 8) rfl ⟨by decide, _, rfl⟩ (ev_X8_must _ _ _ (by repeat (with_reducible first | exact hT | refine mOk_must ?_ | refine mOk_bad ?_ | refine mOk_me ?_ | refine mOk_beg ?_ | refine mOk_u (by omega) (by omega) ?_))) rfl (by decide) rfl (Nat.zero_le _) (Nat.zero_le _) rfl ?_
    refine z_return dX8_begins_20 rfl ?_ (Nat.le_refl _) (Nat.le_refl _)
    rw [show mBeg m k z = mMust m 1 from by unfold mBeg; rw [if_neg c1]]
  · skip
    refine z_aload_n (i := 0) (q := 11) dX8_begins_10 rfl rfl rfl ?_
    refine z_iconst (v := 3) (q := 12) dX8_begins_11 (by decide) rfl ?_
    refine m_callV_v (As := [_]) (q := 15) mk_X8_bad dX8_begins_12 wd_888 wd_890 wp_36 (ci := 8) rfl ⟨by decide, _, rfl⟩ (ev_X8_bad _ _ _) rfl (by decide) rfl (Nat.zero_le _) (Nat.zero_le _) rfl ?_
    refine z_aload_n (i := 0) (q := 16) dX8_begins_15 rfl rfl rfl ?_
    refine z_iconst (v := 1) (q := 17) dX8_begins_16 (by decide) rfl ?_
    refine m_callV_v (As := [_]) (q := 20) mk_X8_must dX8_begins_17 wd_884 wd_886 wp_35 (ci := 8) rfl ⟨by decide, _, rfl⟩ (ev_X8_must _ _ _ (by repeat (with_reducible first | exact hT | refine mOk_must ?_ | refine mOk_bad ?_ | refine mOk_me ?_ | refine mOk_beg ?_ | refine mOk_u (by omega) (by omega) ?_))) rfl (by decide) rfl (Nat.zero_le _) (Nat.zero_le _) rfl ?_
    refine z_return dX8_begins_20 rfl ?_ (Nat.le_refl _) (Nat.le_refl _)
    rw [show mBeg m k z = mMust (mBad m 3) 1 from by unfold mBeg; rw [if_pos c1]]
