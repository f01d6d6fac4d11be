/-! ===== the model: even, rows of ways sailed ===== -/
theorem mKp_ok {m : zm} (h : mAOk m) : mAOk (mKp m) := by
  obtain ⟨h1, h2⟩ := h
  show mAOk (mKeep m (mA m))
  unfold mKeep
  split
  · exact (mAOk_of (a := 24) (by unfold mKeep1; rw [upI_eq]) (by omega)).1
  · exact (mAOk_of (a := mA m + 1) (by unfold mKeep1; rw [upI_eq]) (by omega)).1
theorem mKp_n {m : zm} {c k : Nat} (h : c ≠ 186 ∧ ¬ (c = 180 ∧ k = 8)) : (mKp m).1 c k = m.1 c k := by
  show (mKeep m (mA m)).1 c k = m.1 c k
  unfold mKeep mKeep1
  split
  · rw [upI_ne h.2, mMv_n h.1, upI_ne h.2]
    simp only [mSh]
    rw [if_neg (fun z => h.1 z.1)]
  · rw [upI_ne h.2, mMv_n h.1]
theorem mAges_n {m : zm} {p c k : Nat} {x y : Int32} (h : ¬ (c = 184 ∧ (k = 36 + 8 * p + 3 ∨ k = 36 + 8 * p + 4))) : (mAges m p x y).1 c k = m.1 c k := by
  unfold mAges
  rw [upI_ne (by omega), upI_ne (by omega)]
theorem mSail_n {m : zm} {p w c k : Nat} (h : c ≠ 186 ∧ ¬ (c = 180 ∧ k = 8) ∧ ¬ (c = 184 ∧ 36 ≤ k)) : (mSail m p w).1 c k = m.1 c k := by
  unfold mSail
  rw [upI_ne (by omega), mAges_n (by omega), mKp_n ⟨h.1, h.2.1⟩]
theorem mSail_ok {m : zm} {p w : Nat} (h : mAOk m) : mAOk (mSail m p w) := by
  obtain ⟨h1, h2⟩ := mKp_ok h
  refine (mAOk_of (a := mA (mKp m)) ?_ h2).1
  unfold mSail
  rw [upI_ne (by omega), mAges_n (by omega)]
  exact h1
def mSailL (p b : Nat) : Nat → Nat → zm → Nat × zm
  | 0, j, m => (j, m)
  | n + 1, j, m => if ¬ mGoE m p (m.1 183 (b + j)).toNatClampNeg = -1000000 ∧ mOf m p 3 + mWy m (m.1 183 (b + j)).toNatClampNeg 2 ≤ 200 then mSailL p b n (j + 1) (mSail m p (m.1 183 (b + j)).toNatClampNeg) else (j, m)
/-- the items from b on, n of them, are ways (fewer than W) -/
def mAllW (m : zm) (b n W : Nat) : Prop := ∀ j, j < n → ∃ w, w < W ∧ m.1 183 (b + j) = nI w
def mPos (m : zm) (W : Nat) : Prop := ∀ w, w < W → 0 ≤ m.1 184 (4 + 4 * w + 0) ∧ 0 ≤ m.1 184 (4 + 4 * w + 1)
theorem mGoE_pos {m : zm} {p w W : Nat} (h : mPos m W) (hw : w < W) (hn : ¬ mGoE m p w = -1000000) : ¬ mGoE m p w < 0 := by
  have h5 := h w hw
  unfold mGoE mEndOf at hn ⊢
  by_cases q : mOf m p 0 = 5 ∧ 10 < mWy m w 2
  · rw [if_pos q] at hn; exact absurd rfl hn
  · rw [if_neg q] at hn ⊢
    unfold mTo at hn ⊢
    by_cases q1 : mWy m w 0 = mOf m p 1
    · rw [if_pos q1]; exact Int32.not_lt.mpr h5.2
    · rw [if_neg q1] at hn ⊢
      by_cases q2 : mWy m w 1 = mOf m p 1
      · rw [if_pos q2]; exact Int32.not_lt.mpr h5.1
      · rw [if_neg q2] at hn; exact absurd rfl hn
set_option maxHeartbeats 4000000 in
set_option maxRecDepth 100000 in
theorem ev_X8_sails_bad (d : Nat) (m : zm) (p : Int32) (r : Int32) (i : Int32) (z : Int32) (hb : (p < 0 ∨ m.1 184 3 - 1 < p) ∨ (r < 0 ∨ 7 < r) ∨ (z < 1 ∨ 24 < z)) : zEv (d + 3) zM_X8_sails 0 0 [.ref 180, .int p, .int r, .int i, .int z] (lay m) (some (.int (-1000001)), lay (mT m)) := by
  refine zEv_of (by decide) (fun G => Nat.le_of_ble_eq_true rfl) ?_
  show ZW _ _ _ _ 0 [some (.ref 180), some (.int p), some (.int r), some (.int i), some (.int z), none] [] _ _ _ _
  refine z_aload_n (i := 0) (q := 1) dX8_sails_0 rfl rfl rfl ?_
  refine z_iconst (v := 0) (q := 2) dX8_sails_1 (by decide) rfl ?_
  refine m_putI (q := 5) dX8_sails_2 fp_X8_48 ⟨by decide, _, rfl, rfl⟩ ⟨rfl, rfl⟩ rfl ?_
  refine z_aload_n (i := 0) (q := 6) dX8_sails_5 rfl rfl rfl ?_
  refine z_iload_n (i := 1) (q := 7) dX8_sails_6 rfl rfl rfl ?_
  refine m_callV_r (As := [_]) (q := 10) mk_X8_isPerson dX8_sails_7 wd_935 wd_937 wp_43 (ci := 8) rfl ⟨by decide, _, rfl⟩ (ev_X8_isPerson _ _ _) rfl (by decide) rfl (Nat.zero_le _) (Nat.zero_le _) rfl ?_
  refine zb_eq (tgt := 33) (q := 13) dX8_sails_10 (by decide) rfl (fun c1 => ?_) (fun c1 => ?_)
  · skip
    refine z_ldc (q := 35) dX8_sails_33 wd_831 rfl ?_
    refine z_ireturn dX8_sails_35 rfl rfl ?_ (Nat.le_refl _) (Nat.le_refl _)
    rfl
  · skip
    refine z_iload_n (i := 2) (q := 14) dX8_sails_13 rfl rfl rfl ?_
    refine m_callS_r (As := [_]) (q := 17) mk_X8_isRow dX8_sails_14 wd_823 wd_824 (ev_X8_isRow _ _ _) rfl (by decide) rfl (Nat.zero_le _) (Nat.zero_le _) rfl ?_
    refine zb_eq (tgt := 33) (q := 20) dX8_sails_17 (by decide) rfl (fun c2 => ?_) (fun c2 => ?_)
    · skip
      refine z_ldc (q := 35) dX8_sails_33 wd_831 rfl ?_
      refine z_ireturn dX8_sails_35 rfl rfl ?_ (Nat.le_refl _) (Nat.le_refl _)
      rfl
    · skip
      refine z_iload (i := 4) (q := 22) dX8_sails_20 rfl rfl ?_
      refine z_i2l (q := 23) dX8_sails_22 rfl ?_
      refine z_lconst (v := 1) (q := 24) dX8_sails_23 (by decide) rfl ?_
      refine z_ldc2 (q := 27) dX8_sails_24 wd_976 rfl ?_
      refine m_callS_r (As := [_, _, _]) (q := 30) mk_X8_in dX8_sails_27 wd_827 wd_828 (ev_X8_in _ _ _ (1) (24) (by decide) (by decide)) rfl (by decide) rfl (Nat.zero_le _) (Nat.zero_le _) rfl ?_
      refine zb_ne (tgt := 36) (q := 33) dX8_sails_30 (by decide) rfl (fun c3 => ?_) (fun c3 => ?_)
      · exact absurd hb (fun q => q.elim c1 (fun q => q.elim c2 c3))
      · skip
        refine z_ldc (q := 35) dX8_sails_33 wd_831 rfl ?_
        refine z_ireturn dX8_sails_35 rfl rfl ?_ (Nat.le_refl _) (Nat.le_refl _)
        rfl
set_option maxHeartbeats 4000000 in
set_option maxRecDepth 100000 in
theorem ev_X8_sails_null (d : Nat) (m : zm) (p : Int32) (r : Nat) (i : Int32) (z : Int32) (h1 : ¬ (z < 1 ∨ 24 < z)) (h2 : ¬ (p < 0 ∨ m.1 184 3 - 1 < p)) (h3 : m.1 181 r < 0) (hr : r < 8) : zEv (d + 3) zM_X8_sails 0 0 [.ref 180, .int p, .int (nI r), .int i, .int z] (lay m) (some (.int (-1000010 - 1)), lay (upI (mT m) 180 1 1)) := by
  refine zEv_of (by decide) (fun G => Nat.le_of_ble_eq_true rfl) ?_
  show ZW _ _ _ _ 0 [some (.ref 180), some (.int p), some (.int (nI r)), some (.int i), some (.int z), none] [] _ _ _ _
  have hn0 := lt8 hr
  refine z_aload_n (i := 0) (q := 1) dX8_sails_0 rfl rfl rfl ?_
  refine z_iconst (v := 0) (q := 2) dX8_sails_1 (by decide) rfl ?_
  refine m_putI (q := 5) dX8_sails_2 fp_X8_48 ⟨by decide, _, rfl, rfl⟩ ⟨rfl, rfl⟩ rfl ?_
  refine z_aload_n (i := 0) (q := 6) dX8_sails_5 rfl rfl rfl ?_
  refine z_iload_n (i := 1) (q := 7) dX8_sails_6 rfl rfl rfl ?_
  refine m_callV_r (As := [_]) (q := 10) mk_X8_isPerson dX8_sails_7 wd_935 wd_937 wp_43 (ci := 8) rfl ⟨by decide, _, rfl⟩ (ev_X8_isPerson _ _ _) rfl (by decide) rfl (Nat.zero_le _) (Nat.zero_le _) rfl ?_
  refine zb_eq (tgt := 33) (q := 13) dX8_sails_10 (by decide) rfl (fun c1 => ?_) (fun c1 => ?_)
  · exact absurd h2 c1
  · skip
    refine z_iload_n (i := 2) (q := 14) dX8_sails_13 rfl rfl rfl ?_
    refine m_callS_r (As := [_]) (q := 17) mk_X8_isRow dX8_sails_14 wd_823 wd_824 (ev_X8_isRow _ _ _) rfl (by decide) rfl (Nat.zero_le _) (Nat.zero_le _) rfl ?_
    refine zb_eq (tgt := 33) (q := 20) dX8_sails_17 (by decide) rfl (fun c2 => ?_) (fun c2 => ?_)
    · exact absurd hn0 c2
    · skip
      refine z_iload (i := 4) (q := 22) dX8_sails_20 rfl rfl ?_
      refine z_i2l (q := 23) dX8_sails_22 rfl ?_
      refine z_lconst (v := 1) (q := 24) dX8_sails_23 (by decide) rfl ?_
      refine z_ldc2 (q := 27) dX8_sails_24 wd_976 rfl ?_
      refine m_callS_r (As := [_, _, _]) (q := 30) mk_X8_in dX8_sails_27 wd_827 wd_828 (ev_X8_in _ _ _ (1) (24) (by decide) (by decide)) rfl (by decide) rfl (Nat.zero_le _) (Nat.zero_le _) rfl ?_
      refine zb_ne (tgt := 36) (q := 33) dX8_sails_30 (by decide) rfl (fun c3 => ?_) (fun c3 => ?_)
      · skip
        refine z_aload_n (i := 0) (q := 37) dX8_sails_36 rfl rfl rfl ?_
        refine m_getR (r := 181) (q := 40) dX8_sails_37 fl_X8_7 ⟨by decide, _, rfl, rfl⟩ rfl ?_
        refine z_iload_n (i := 2) (q := 41) dX8_sails_40 rfl rfl rfl ?_
        refine m_ialdJ (N := 8) (q := 42) dX8_sails_41 ⟨by decide, _, rfl⟩ (j := r) (nI_clamp (by omega)) (vp_in_nI (by omega) (by decide)) rfl ?_
        refine z_if_ge (tgt := 51) (q := 45) dX8_sails_42 (by decide) rfl (fun c4 => ?_) (fun c4 => ?_)
        · exact absurd c4 (Int32.not_le.mpr h3)
        · skip
          refine z_aload_n (i := 0) (q := 46) dX8_sails_45 rfl rfl rfl ?_
          refine z_iconst (v := 1) (q := 47) dX8_sails_46 (by decide) rfl ?_
          refine m_callV_r (As := [_]) (q := 50) mk_X8_finding dX8_sails_47 wd_832 wd_834 wp_30 (ci := 8) rfl ⟨by decide, _, rfl⟩ (ev_X8_finding _ _ _) rfl (by decide) rfl (Nat.zero_le _) (Nat.zero_le _) rfl ?_
          refine z_ireturn dX8_sails_50 rfl rfl ?_ (Nat.le_refl _) (Nat.le_refl _)
          rfl
      · exact absurd h1 c3
set_option maxHeartbeats 4000000 in
set_option maxRecDepth 100000 in
theorem ev_X8_sails_place (d : Nat) (m : zm) (p : Int32) (r : Nat) (i : Int32) (z : Int32) (h1 : ¬ (z < 1 ∨ 24 < z)) (h2 : ¬ (p < 0 ∨ m.1 184 3 - 1 < p)) (h3 : ¬ m.1 181 r < 0) (h4 : (i < 0 ∨ (m.1 182 r).toInt64 < i.toInt64 + z.toInt64)) (hr : r < 8) : zEv (d + 3) zM_X8_sails 0 0 [.ref 180, .int p, .int (nI r), .int i, .int z] (lay m) (some (.int (-1000010 - 2)), lay (upI (mT m) 180 1 2)) := by
  refine zEv_of (by decide) (fun G => Nat.le_of_ble_eq_true rfl) ?_
  show ZW _ _ _ _ 0 [some (.ref 180), some (.int p), some (.int (nI r)), some (.int i), some (.int z), none] [] _ _ _ _
  have hn0 := lt8 hr
  refine z_aload_n (i := 0) (q := 1) dX8_sails_0 rfl rfl rfl ?_
  refine z_iconst (v := 0) (q := 2) dX8_sails_1 (by decide) rfl ?_
  refine m_putI (q := 5) dX8_sails_2 fp_X8_48 ⟨by decide, _, rfl, rfl⟩ ⟨rfl, rfl⟩ rfl ?_
  refine z_aload_n (i := 0) (q := 6) dX8_sails_5 rfl rfl rfl ?_
  refine z_iload_n (i := 1) (q := 7) dX8_sails_6 rfl rfl rfl ?_
  refine m_callV_r (As := [_]) (q := 10) mk_X8_isPerson dX8_sails_7 wd_935 wd_937 wp_43 (ci := 8) rfl ⟨by decide, _, rfl⟩ (ev_X8_isPerson _ _ _) rfl (by decide) rfl (Nat.zero_le _) (Nat.zero_le _) rfl ?_
  refine zb_eq (tgt := 33) (q := 13) dX8_sails_10 (by decide) rfl (fun c1 => ?_) (fun c1 => ?_)
  · exact absurd h2 c1
  · skip
    refine z_iload_n (i := 2) (q := 14) dX8_sails_13 rfl rfl rfl ?_
    refine m_callS_r (As := [_]) (q := 17) mk_X8_isRow dX8_sails_14 wd_823 wd_824 (ev_X8_isRow _ _ _) rfl (by decide) rfl (Nat.zero_le _) (Nat.zero_le _) rfl ?_
    refine zb_eq (tgt := 33) (q := 20) dX8_sails_17 (by decide) rfl (fun c2 => ?_) (fun c2 => ?_)
    · exact absurd hn0 c2
    · skip
      refine z_iload (i := 4) (q := 22) dX8_sails_20 rfl rfl ?_
      refine z_i2l (q := 23) dX8_sails_22 rfl ?_
      refine z_lconst (v := 1) (q := 24) dX8_sails_23 (by decide) rfl ?_
      refine z_ldc2 (q := 27) dX8_sails_24 wd_976 rfl ?_
      refine m_callS_r (As := [_, _, _]) (q := 30) mk_X8_in dX8_sails_27 wd_827 wd_828 (ev_X8_in _ _ _ (1) (24) (by decide) (by decide)) rfl (by decide) rfl (Nat.zero_le _) (Nat.zero_le _) rfl ?_
      refine zb_ne (tgt := 36) (q := 33) dX8_sails_30 (by decide) rfl (fun c3 => ?_) (fun c3 => ?_)
      · skip
        refine z_aload_n (i := 0) (q := 37) dX8_sails_36 rfl rfl rfl ?_
        refine m_getR (r := 181) (q := 40) dX8_sails_37 fl_X8_7 ⟨by decide, _, rfl, rfl⟩ rfl ?_
        refine z_iload_n (i := 2) (q := 41) dX8_sails_40 rfl rfl rfl ?_
        refine m_ialdJ (N := 8) (q := 42) dX8_sails_41 ⟨by decide, _, rfl⟩ (j := r) (nI_clamp (by omega)) (vp_in_nI (by omega) (by decide)) rfl ?_
        refine z_if_ge (tgt := 51) (q := 45) dX8_sails_42 (by decide) rfl (fun c4 => ?_) (fun c4 => ?_)
        · skip
          refine z_iload_n (i := 3) (q := 52) dX8_sails_51 rfl rfl rfl ?_
          refine z_if_lt (tgt := 72) (q := 55) dX8_sails_52 (by decide) rfl (fun c5 => ?_) (fun c5 => ?_)
          · skip
            refine z_aload_n (i := 0) (q := 73) dX8_sails_72 rfl rfl rfl ?_
            refine z_iconst (v := 2) (q := 74) dX8_sails_73 (by decide) rfl ?_
            refine m_callV_r (As := [_]) (q := 77) mk_X8_finding dX8_sails_74 wd_832 wd_834 wp_30 (ci := 8) rfl ⟨by decide, _, rfl⟩ (ev_X8_finding _ _ _) rfl (by decide) rfl (Nat.zero_le _) (Nat.zero_le _) rfl ?_
            refine z_ireturn dX8_sails_77 rfl rfl ?_ (Nat.le_refl _) (Nat.le_refl _)
            rfl
          · skip
            refine z_iload_n (i := 3) (q := 56) dX8_sails_55 rfl rfl rfl ?_
            refine z_i2l (q := 57) dX8_sails_56 rfl ?_
            refine z_iload (i := 4) (q := 59) dX8_sails_57 rfl rfl ?_
            refine z_i2l (q := 60) dX8_sails_59 rfl ?_
            refine z_ladd (q := 61) dX8_sails_60 rfl ?_
            refine z_aload_n (i := 0) (q := 62) dX8_sails_61 rfl rfl rfl ?_
            refine m_getR (r := 182) (q := 65) dX8_sails_62 fl_X8_13 ⟨by decide, _, rfl, rfl⟩ rfl ?_
            refine z_iload_n (i := 2) (q := 66) dX8_sails_65 rfl rfl rfl ?_
            refine m_ialdJ (N := 8) (q := 67) dX8_sails_66 ⟨by decide, _, rfl⟩ (j := r) (nI_clamp (by omega)) (vp_in_nI (by omega) (by decide)) rfl ?_
            refine z_i2l (q := 68) dX8_sails_67 rfl ?_
            refine z_lcmp (q := 69) dX8_sails_68 rfl ?_
            refine zl_le (tgt := 78) (q := 72) dX8_sails_69 (by decide) rfl (fun c6 => ?_) (fun c6 => ?_)
            · exact absurd h4 (fun q => q.elim c5 c6)
            · skip
              refine z_aload_n (i := 0) (q := 73) dX8_sails_72 rfl rfl rfl ?_
              refine z_iconst (v := 2) (q := 74) dX8_sails_73 (by decide) rfl ?_
              refine m_callV_r (As := [_]) (q := 77) mk_X8_finding dX8_sails_74 wd_832 wd_834 wp_30 (ci := 8) rfl ⟨by decide, _, rfl⟩ (ev_X8_finding _ _ _) rfl (by decide) rfl (Nat.zero_le _) (Nat.zero_le _) rfl ?_
              refine z_ireturn dX8_sails_77 rfl rfl ?_ (Nat.le_refl _) (Nat.le_refl _)
              rfl
        · exact absurd (Int32.not_lt.mp h3) c4
      · exact absurd h1 c3
set_option maxHeartbeats 4000000 in
set_option maxRecDepth 100000 in
theorem lp_X8_slook (d : Nat) (m : zm) (p r i z W : Nat) (hp : p < 4) (hr : r < 8) (hz : i + z ≤ 40) (hW : m.1 184 2 = nI W) (hW8 : W ≤ 8) (X : zX) : ∀ (n : Nat) (j : Nat), z - j < n → j ≤ z → mAllW m (40 * r + i) z W → ZW zM_X8_sails (d + 3) 0 0 118 [some (.ref 180), some (.int (nI p)), some (.int (nI r)), some (.int (nI i)), some (.int (nI z)), none] [] (lay m) 0 0 X → ZW zM_X8_sails (d + 3) 0 0 81 [some (.ref 180), some (.int (nI p)), some (.int (nI r)), some (.int (nI i)), some (.int (nI z)), some (.int (nI j))] [] (lay m) 0 0 (X) := by
  intro n
  induction n with
  | zero => intro j hm; exact absurd hm (by omega)
  | succ n ih =>
    intro j hm hj hall kk
    refine z_iload (i := 5) (q := 83) dX8_sails_81 rfl rfl ?_
    refine z_iload (i := 4) (q := 85) dX8_sails_83 rfl rfl ?_
    refine z_icmp_ge (tgt := 118) (q := 88) dX8_sails_85 (by decide) rfl (fun c1 => ?_) (fun c1 => ?_)
    · skip
      have hge : z ≤ j := (nI_leI (a := z) (b := j) (by omega) (by omega)).mp c1
      exact z_loc (zle_s (zle_s (zle_s (zle_s (zle_s (zle_n zle_0)))))) kk
    · skip
      have hlt : j < z := by
        rcases Nat.lt_or_ge j z with q | q
        · exact q
        · exact absurd ((nI_leI (a := z) (b := j) (by omega) (by omega)).mpr q) c1
      obtain ⟨w, hw, hwe⟩ := hall j hlt
      refine z_aload_n (i := 0) (q := 89) dX8_sails_88 rfl rfl rfl ?_
      refine z_aload_n (i := 0) (q := 90) dX8_sails_89 rfl rfl rfl ?_
      refine m_getR (r := 183) (q := 93) dX8_sails_90 fl_X8_16 ⟨by decide, _, rfl, rfl⟩ rfl ?_
      refine z_bipush (v := 40) (q := 95) dX8_sails_93 (by decide) rfl ?_
      refine z_iload_n (i := 2) (q := 96) dX8_sails_95 rfl rfl rfl ?_
      refine z_imul (q := 97) dX8_sails_96 rfl ?_
      rw [show 40 * nI r = nI (40 * r) from nI_mul 40 _]
      refine z_iload_n (i := 3) (q := 98) dX8_sails_97 rfl rfl rfl ?_
      refine z_iadd (q := 99) dX8_sails_98 rfl ?_
      rw [show nI (40 * r) + nI i = nI ((40 * r) + i) from nI_add _ _]
      refine z_iload (i := 5) (q := 101) dX8_sails_99 rfl rfl ?_
      refine z_iadd (q := 102) dX8_sails_101 rfl ?_
      rw [show nI ((40 * r) + i) + nI j = nI (((40 * r) + i) + j) from nI_add _ _]
      refine m_ialdJ (N := 320) (q := 103) dX8_sails_102 ⟨by decide, _, rfl⟩ (j := (((40 * r) + i) + j)) (nI_clamp (by omega)) (vp_in_nI (by omega) (by decide)) rfl ?_
      refine m_callV_r (As := [_]) (q := 106) mk_X8_isWay dX8_sails_103 wd_939 wd_941 wp_44 (ci := 8) rfl ⟨by decide, _, rfl⟩ (ev_X8_isWay _ _ _) rfl (by decide) rfl (Nat.zero_le _) (Nat.zero_le _) rfl ?_
      refine zb_ne (tgt := 112) (q := 109) dX8_sails_106 (by decide) rfl (fun c2 => ?_) (fun c2 => ?_)
      · skip
        refine z_iinc (i := 5) (ls' := [_, _, _, _, _, _]) (v := nI (j + 1)) (q := 115) dX8_sails_112 rfl (nI_1 _) (by decide) rfl rfl ?_
        refine z_goto (tgt := 81) dX8_sails_115 (by decide) ?_
        exact ih (j + 1) (by omega) (by omega) hall kk
      · exact absurd (by rw [hwe, hW]; exact isW hW8 hw) c2
set_option maxHeartbeats 4000000 in
set_option maxRecDepth 100000 in
theorem lp_X8_sbad (d : Nat) (m : zm) (p r i z W : Nat) (hp : p < 4) (hr : r < 8) (hz : i + z ≤ 40) : ∀ (n : Nat) (j : Nat), z - j < n → j ≤ z → (∃ k, j ≤ k ∧ k < z ∧ (m.1 183 (40 * r + i + k) < 0 ∨ m.1 184 2 - 1 < m.1 183 (40 * r + i + k))) → ZW zM_X8_sails (d + 3) 0 0 81 [some (.ref 180), some (.int (nI p)), some (.int (nI r)), some (.int (nI i)), some (.int (nI z)), some (.int (nI j))] [] (lay m) 0 0 (some (.int (-1000001)), lay m) := by
  intro n
  induction n with
  | zero => intro j hm; exact absurd hm (by omega)
  | succ n ih =>
    intro j hm hj hbad
    refine z_iload (i := 5) (q := 83) dX8_sails_81 rfl rfl ?_
    refine z_iload (i := 4) (q := 85) dX8_sails_83 rfl rfl ?_
    refine z_icmp_ge (tgt := 118) (q := 88) dX8_sails_85 (by decide) rfl (fun c1 => ?_) (fun c1 => ?_)
    · have hge : z ≤ j := (nI_leI (a := z) (b := j) (by omega) (by omega)).mp c1
      obtain ⟨k, h1, h2, -⟩ := hbad
      exfalso
      omega
    · skip
      have hlt : j < z := by
        rcases Nat.lt_or_ge j z with q | q
        · exact q
        · exact absurd ((nI_leI (a := z) (b := j) (by omega) (by omega)).mpr q) c1
      refine z_aload_n (i := 0) (q := 89) dX8_sails_88 rfl rfl rfl ?_
      refine z_aload_n (i := 0) (q := 90) dX8_sails_89 rfl rfl rfl ?_
      refine m_getR (r := 183) (q := 93) dX8_sails_90 fl_X8_16 ⟨by decide, _, rfl, rfl⟩ rfl ?_
      refine z_bipush (v := 40) (q := 95) dX8_sails_93 (by decide) rfl ?_
      refine z_iload_n (i := 2) (q := 96) dX8_sails_95 rfl rfl rfl ?_
      refine z_imul (q := 97) dX8_sails_96 rfl ?_
      rw [show 40 * nI r = nI (40 * r) from nI_mul 40 _]
      refine z_iload_n (i := 3) (q := 98) dX8_sails_97 rfl rfl rfl ?_
      refine z_iadd (q := 99) dX8_sails_98 rfl ?_
      rw [show nI (40 * r) + nI i = nI ((40 * r) + i) from nI_add _ _]
      refine z_iload (i := 5) (q := 101) dX8_sails_99 rfl rfl ?_
      refine z_iadd (q := 102) dX8_sails_101 rfl ?_
      rw [show nI ((40 * r) + i) + nI j = nI (((40 * r) + i) + j) from nI_add _ _]
      refine m_ialdJ (N := 320) (q := 103) dX8_sails_102 ⟨by decide, _, rfl⟩ (j := (((40 * r) + i) + j)) (nI_clamp (by omega)) (vp_in_nI (by omega) (by decide)) rfl ?_
      refine m_callV_r (As := [_]) (q := 106) mk_X8_isWay dX8_sails_103 wd_939 wd_941 wp_44 (ci := 8) rfl ⟨by decide, _, rfl⟩ (ev_X8_isWay _ _ _) rfl (by decide) rfl (Nat.zero_le _) (Nat.zero_le _) rfl ?_
      refine zb_ne (tgt := 112) (q := 109) dX8_sails_106 (by decide) rfl (fun c2 => ?_) (fun c2 => ?_)
      · skip
        refine z_iinc (i := 5) (ls' := [_, _, _, _, _, _]) (v := nI (j + 1)) (q := 115) dX8_sails_112 rfl (nI_1 _) (by decide) rfl rfl ?_
        refine z_goto (tgt := 81) dX8_sails_115 (by decide) ?_
        obtain ⟨k, h1, h2, h3⟩ := hbad
        refine ih (j + 1) (by omega) (by omega) ⟨k, ?_, h2, h3⟩
        rcases Nat.lt_or_ge j k with q | q
        · omega
        · exact absurd (by rw [show k = j by omega] at h3; exact h3) c2
      · skip
        refine z_ldc (q := 111) dX8_sails_109 wd_831 rfl ?_
        refine z_ireturn dX8_sails_111 rfl rfl ?_ (Nat.le_refl _) (Nat.le_refl _)
        rfl
set_option maxHeartbeats 4000000 in
set_option maxRecDepth 100000 in
theorem lp_X8_sails (d : Nat) (p r i z W : Nat) (hp : p < 4) (hr : r < 8) (hz : i + z ≤ 40) (hW8 : W ≤ 8) : ∀ (n : Nat) (j : Nat) (m : zm), z - j < n → j ≤ z → mAOk m → mAllW m (40 * r + i) z W → mPos m W → ZW zM_X8_sails (d + 3) 0 0 126 [some (.ref 180), some (.int (nI p)), some (.int (nI r)), some (.int (nI i)), some (.int (nI z)), some (.int (nI j))] [] (lay m) 0 0 (some (.int (nI (mSailL p (40 * r + i) (z - j) j m).1)), lay (mSailL p (40 * r + i) (z - j) j m).2) := by
  intro n
  induction n with
  | zero => intro j m hm; exact absurd hm (by omega)
  | succ n ih =>
    intro j m hm hj hA hall hpos
    refine z_iload (i := 5) (q := 128) dX8_sails_126 rfl rfl ?_
    refine z_iload (i := 4) (q := 130) dX8_sails_128 rfl rfl ?_
    refine z_icmp_ge (tgt := 161) (q := 133) dX8_sails_130 (by decide) rfl (fun c1 => ?_) (fun c1 => ?_)
    · skip
      have hge : z ≤ j := (nI_leI (a := z) (b := j) (by omega) (by omega)).mp c1
      rw [show z - j = 0 by omega]
      refine z_iload (i := 5) (q := 163) dX8_sails_161 rfl rfl ?_
      refine z_ireturn dX8_sails_163 rfl rfl ?_ (Nat.le_refl _) (Nat.le_refl _)
      rfl
    · skip
      have hlt : j < z := by
        rcases Nat.lt_or_ge j z with q | q
        · exact q
        · exact absurd ((nI_leI (a := z) (b := j) (by omega) (by omega)).mpr q) c1
      obtain ⟨w, hw, hwe⟩ := hall j hlt
      rw [show z - j = (z - (j + 1)) + 1 by omega, mSailL]
      refine z_aload_n (i := 0) (q := 134) dX8_sails_133 rfl rfl rfl ?_
      refine z_iload_n (i := 1) (q := 135) dX8_sails_134 rfl rfl rfl ?_
      refine z_aload_n (i := 0) (q := 136) dX8_sails_135 rfl rfl rfl ?_
      refine m_getR (r := 183) (q := 139) dX8_sails_136 fl_X8_16 ⟨by decide, _, rfl, rfl⟩ rfl ?_
      refine z_bipush (v := 40) (q := 141) dX8_sails_139 (by decide) rfl ?_
      refine z_iload_n (i := 2) (q := 142) dX8_sails_141 rfl rfl rfl ?_
      refine z_imul (q := 143) dX8_sails_142 rfl ?_
      rw [show 40 * nI r = nI (40 * r) from nI_mul 40 _]
      refine z_iload_n (i := 3) (q := 144) dX8_sails_143 rfl rfl rfl ?_
      refine z_iadd (q := 145) dX8_sails_144 rfl ?_
      rw [show nI (40 * r) + nI i = nI ((40 * r) + i) from nI_add _ _]
      refine z_iload (i := 5) (q := 147) dX8_sails_145 rfl rfl ?_
      refine z_iadd (q := 148) dX8_sails_147 rfl ?_
      rw [show nI ((40 * r) + i) + nI j = nI (((40 * r) + i) + j) from nI_add _ _]
      refine m_ialdJ (N := 320) (q := 149) dX8_sails_148 ⟨by decide, _, rfl⟩ (j := (((40 * r) + i) + j)) (nI_clamp (by omega)) (vp_in_nI (by omega) (by decide)) rfl ?_
      rw [hwe]
      have hwn : (nI w).toNatClampNeg = w := nI_clamp (by omega)
      by_cases h2 : mGoE m p w = (-1000000)
      · skip
        refine m_callV_r (As := [_, _]) (q := 152) mk_X8_goes dX8_sails_149 wd_943 wd_945 wp_45 (ci := 8) rfl ⟨by decide, _, rfl⟩ (ev_X8_goes_state _ m p w h2 hp (by omega)) rfl (by decide) rfl (Nat.zero_le _) (Nat.zero_le _) rfl ?_
        refine z_if_lt (tgt := 161) (q := 155) dX8_sails_152 (by decide) rfl (fun c2 => ?_) (fun c2 => ?_)
        · skip
          refine z_iload (i := 5) (q := 163) dX8_sails_161 rfl rfl ?_
          refine z_ireturn dX8_sails_163 rfl rfl ?_ (Nat.le_refl _) (Nat.le_refl _)
          rw [hwn, if_neg (fun q => q.1 h2)]
        · exact absurd (by decide) c2
      · by_cases h3 : mOf m p 3 + mWy m w 2 ≤ 200
        · skip
          refine m_callV_r (As := [_, _]) (q := 152) mk_X8_goes dX8_sails_149 wd_943 wd_945 wp_45 (ci := 8) rfl ⟨by decide, _, rfl⟩ (ev_X8_goes _ m p w h2 h3 hA hp (by omega)) rfl (by decide) rfl (Nat.zero_le _) (Nat.zero_le _) rfl ?_
          refine z_if_lt (tgt := 161) (q := 155) dX8_sails_152 (by decide) rfl (fun c3 => ?_) (fun c3 => ?_)
          · exact absurd c3 (mGoE_pos hpos hw h2)
          · skip
            refine z_iinc (i := 5) (ls' := [_, _, _, _, _, _]) (v := nI (j + 1)) (q := 158) dX8_sails_155 rfl (nI_1 _) (by decide) rfl rfl ?_
            refine z_goto (tgt := 126) dX8_sails_158 (by decide) ?_
            rw [hwn, if_pos ⟨h2, h3⟩]
            exact ih (j + 1) _ (by omega) (by omega) (mSail_ok hA) (fun k hk => by obtain ⟨v, h4, h5⟩ := hall k hk; exact ⟨v, h4, (mSail_n (by omega)).trans h5⟩) (fun v hv => by rw [mSail_n (by omega), mSail_n (by omega)]; exact hpos v hv)
        · skip
          refine m_callV_r (As := [_, _]) (q := 152) mk_X8_goes dX8_sails_149 wd_943 wd_945 wp_45 (ci := 8) rfl ⟨by decide, _, rfl⟩ (ev_X8_goes_full _ m p w h2 h3 hp (by omega)) rfl (by decide) rfl (Nat.zero_le _) (Nat.zero_le _) rfl ?_
          refine z_if_lt (tgt := 161) (q := 155) dX8_sails_152 (by decide) rfl (fun c4 => ?_) (fun c4 => ?_)
          · skip
            refine z_iload (i := 5) (q := 163) dX8_sails_161 rfl rfl ?_
            refine z_ireturn dX8_sails_163 rfl rfl ?_ (Nat.le_refl _) (Nat.le_refl _)
            rw [hwn, if_neg (fun q => h3 q.2)]
          · exact absurd (by decide) c4
set_option maxHeartbeats 4000000 in
set_option maxRecDepth 100000 in
theorem ev_X8_sails_item (d : Nat) (m : zm) (p : Nat) (r : Nat) (i : Nat) (z : Nat) (hz1 : 1 ≤ z) (h2 : ¬ (nI p < 0 ∨ m.1 184 3 - 1 < nI p)) (h3 : ¬ m.1 181 r < 0) (h4 : ¬ (nI i < 0 ∨ (m.1 182 r).toInt64 < (nI i).toInt64 + (nI z).toInt64)) (h5 : i + z ≤ 40) (hbad : ∃ k, 0 ≤ k ∧ k < z ∧ (m.1 183 (40 * r + i + k) < 0 ∨ m.1 184 2 - 1 < m.1 183 (40 * r + i + k))) (hp : p < 4) (hr : r < 8) (hi : i < 40) (hz : z < 25) : zEv (d + 3) zM_X8_sails 0 0 [.ref 180, .int (nI p), .int (nI r), .int (nI i), .int (nI z)] (lay m) (some (.int (-1000001)), lay (mT m)) := by
  refine zEv_of (by decide) (fun G => Nat.le_of_ble_eq_true rfl) ?_
  show ZW _ _ _ _ 0 [some (.ref 180), some (.int (nI p)), some (.int (nI r)), some (.int (nI i)), some (.int (nI z)), none] [] _ _ _ _
  have hn0 := lt8 hr
  have h1 : ¬ (nI z < 1 ∨ 24 < nI z) := by
    rintro (q | q)
    · exact nI_nlt (a := z) (b := 1) (by omega) (by omega) q
    · exact nI_nlt (a := 24) (b := z) (by omega) (by omega) q
  refine z_aload_n (i := 0) (q := 1) dX8_sails_0 rfl rfl rfl ?_
  refine z_iconst (v := 0) (q := 2) dX8_sails_1 (by decide) rfl ?_
  refine m_putI (q := 5) dX8_sails_2 fp_X8_48 ⟨by decide, _, rfl, rfl⟩ ⟨rfl, rfl⟩ rfl ?_
  refine z_aload_n (i := 0) (q := 6) dX8_sails_5 rfl rfl rfl ?_
  refine z_iload_n (i := 1) (q := 7) dX8_sails_6 rfl rfl rfl ?_
  refine m_callV_r (As := [_]) (q := 10) mk_X8_isPerson dX8_sails_7 wd_935 wd_937 wp_43 (ci := 8) rfl ⟨by decide, _, rfl⟩ (ev_X8_isPerson _ _ _) rfl (by decide) rfl (Nat.zero_le _) (Nat.zero_le _) rfl ?_
  refine zb_eq (tgt := 33) (q := 13) dX8_sails_10 (by decide) rfl (fun c1 => ?_) (fun c1 => ?_)
  · exact absurd h2 c1
  · skip
    refine z_iload_n (i := 2) (q := 14) dX8_sails_13 rfl rfl rfl ?_
    refine m_callS_r (As := [_]) (q := 17) mk_X8_isRow dX8_sails_14 wd_823 wd_824 (ev_X8_isRow _ _ _) rfl (by decide) rfl (Nat.zero_le _) (Nat.zero_le _) rfl ?_
    refine zb_eq (tgt := 33) (q := 20) dX8_sails_17 (by decide) rfl (fun c2 => ?_) (fun c2 => ?_)
    · exact absurd hn0 c2
    · skip
      refine z_iload (i := 4) (q := 22) dX8_sails_20 rfl rfl ?_
      refine z_i2l (q := 23) dX8_sails_22 rfl ?_
      refine z_lconst (v := 1) (q := 24) dX8_sails_23 (by decide) rfl ?_
      refine z_ldc2 (q := 27) dX8_sails_24 wd_976 rfl ?_
      refine m_callS_r (As := [_, _, _]) (q := 30) mk_X8_in dX8_sails_27 wd_827 wd_828 (ev_X8_in _ _ _ (1) (24) (by decide) (by decide)) rfl (by decide) rfl (Nat.zero_le _) (Nat.zero_le _) rfl ?_
      refine zb_ne (tgt := 36) (q := 33) dX8_sails_30 (by decide) rfl (fun c3 => ?_) (fun c3 => ?_)
      · skip
        refine z_aload_n (i := 0) (q := 37) dX8_sails_36 rfl rfl rfl ?_
        refine m_getR (r := 181) (q := 40) dX8_sails_37 fl_X8_7 ⟨by decide, _, rfl, rfl⟩ rfl ?_
        refine z_iload_n (i := 2) (q := 41) dX8_sails_40 rfl rfl rfl ?_
        refine m_ialdJ (N := 8) (q := 42) dX8_sails_41 ⟨by decide, _, rfl⟩ (j := r) (nI_clamp (by omega)) (vp_in_nI (by omega) (by decide)) rfl ?_
        refine z_if_ge (tgt := 51) (q := 45) dX8_sails_42 (by decide) rfl (fun c4 => ?_) (fun c4 => ?_)
        · skip
          refine z_iload_n (i := 3) (q := 52) dX8_sails_51 rfl rfl rfl ?_
          refine z_if_lt (tgt := 72) (q := 55) dX8_sails_52 (by decide) rfl (fun c5 => ?_) (fun c5 => ?_)
          · exact absurd (Or.inl c5) h4
          · skip
            refine z_iload_n (i := 3) (q := 56) dX8_sails_55 rfl rfl rfl ?_
            refine z_i2l (q := 57) dX8_sails_56 rfl ?_
            refine z_iload (i := 4) (q := 59) dX8_sails_57 rfl rfl ?_
            refine z_i2l (q := 60) dX8_sails_59 rfl ?_
            refine z_ladd (q := 61) dX8_sails_60 rfl ?_
            refine z_aload_n (i := 0) (q := 62) dX8_sails_61 rfl rfl rfl ?_
            refine m_getR (r := 182) (q := 65) dX8_sails_62 fl_X8_13 ⟨by decide, _, rfl, rfl⟩ rfl ?_
            refine z_iload_n (i := 2) (q := 66) dX8_sails_65 rfl rfl rfl ?_
            refine m_ialdJ (N := 8) (q := 67) dX8_sails_66 ⟨by decide, _, rfl⟩ (j := r) (nI_clamp (by omega)) (vp_in_nI (by omega) (by decide)) rfl ?_
            refine z_i2l (q := 68) dX8_sails_67 rfl ?_
            refine z_lcmp (q := 69) dX8_sails_68 rfl ?_
            refine zl_le (tgt := 78) (q := 72) dX8_sails_69 (by decide) rfl (fun c6 => ?_) (fun c6 => ?_)
            · skip
              refine z_iconst (v := 0) (q := 79) dX8_sails_78 (by decide) rfl ?_
              refine z_istore (i := 5) (ls' := [_, _, _, _, _, _]) (q := 81) dX8_sails_79 (by decide) rfl rfl ?_
              exact lp_X8_sbad _ (mT m) p r i z 8 hp hr h5 (z + 1) 0 (by omega) (by omega) hbad
            · exact absurd (Or.inr c6) h4
        · exact absurd (Int32.not_lt.mp h3) c4
      · exact absurd h1 c3
set_option maxHeartbeats 4000000 in
set_option maxRecDepth 100000 in
theorem ev_X8_sails (d : Nat) (m : zm) (W : Nat) (p : Nat) (r : Nat) (i : Nat) (z : Nat) (hz1 : 1 ≤ z) (h2 : ¬ (nI p < 0 ∨ m.1 184 3 - 1 < nI p)) (h3 : ¬ m.1 181 r < 0) (h4 : ¬ (nI i < 0 ∨ (m.1 182 r).toInt64 < (nI i).toInt64 + (nI z).toInt64)) (h5 : i + z ≤ 40) (hW : m.1 184 2 = nI W) (hW8 : W ≤ 8) (hA : mAOk (mS0 m)) (hall : mAllW m (40 * r + i) z W) (hpos : mPos m W) (hp : p < 4) (hr : r < 8) (hi : i < 40) (hz : z < 25) : zEv (d + 3) zM_X8_sails 0 0 [.ref 180, .int (nI p), .int (nI r), .int (nI i), .int (nI z)] (lay m) (some (.int (nI (mSailL p (40 * r + i) z 0 (mS0 m)).1)), lay ((mSailL p (40 * r + i) z 0 (mS0 m)).2)) := by
  refine zEv_of (by decide) (fun G => Nat.le_of_ble_eq_true rfl) ?_
  show ZW _ _ _ _ 0 [some (.ref 180), some (.int (nI p)), some (.int (nI r)), some (.int (nI i)), some (.int (nI z)), none] [] _ _ _ _
  have hn0 := lt8 hr
  have h1 : ¬ (nI z < 1 ∨ 24 < nI z) := by
    rintro (q | q)
    · exact nI_nlt (a := z) (b := 1) (by omega) (by omega) q
    · exact nI_nlt (a := 24) (b := z) (by omega) (by omega) q
  refine z_aload_n (i := 0) (q := 1) dX8_sails_0 rfl rfl rfl ?_
  refine z_iconst (v := 0) (q := 2) dX8_sails_1 (by decide) rfl ?_
  refine m_putI (q := 5) dX8_sails_2 fp_X8_48 ⟨by decide, _, rfl, rfl⟩ ⟨rfl, rfl⟩ rfl ?_
  refine z_aload_n (i := 0) (q := 6) dX8_sails_5 rfl rfl rfl ?_
  refine z_iload_n (i := 1) (q := 7) dX8_sails_6 rfl rfl rfl ?_
  refine m_callV_r (As := [_]) (q := 10) mk_X8_isPerson dX8_sails_7 wd_935 wd_937 wp_43 (ci := 8) rfl ⟨by decide, _, rfl⟩ (ev_X8_isPerson _ _ _) rfl (by decide) rfl (Nat.zero_le _) (Nat.zero_le _) rfl ?_
  refine zb_eq (tgt := 33) (q := 13) dX8_sails_10 (by decide) rfl (fun c1 => ?_) (fun c1 => ?_)
  · exact absurd h2 c1
  · skip
    refine z_iload_n (i := 2) (q := 14) dX8_sails_13 rfl rfl rfl ?_
    refine m_callS_r (As := [_]) (q := 17) mk_X8_isRow dX8_sails_14 wd_823 wd_824 (ev_X8_isRow _ _ _) rfl (by decide) rfl (Nat.zero_le _) (Nat.zero_le _) rfl ?_
    refine zb_eq (tgt := 33) (q := 20) dX8_sails_17 (by decide) rfl (fun c2 => ?_) (fun c2 => ?_)
    · exact absurd hn0 c2
    · skip
      refine z_iload (i := 4) (q := 22) dX8_sails_20 rfl rfl ?_
      refine z_i2l (q := 23) dX8_sails_22 rfl ?_
      refine z_lconst (v := 1) (q := 24) dX8_sails_23 (by decide) rfl ?_
      refine z_ldc2 (q := 27) dX8_sails_24 wd_976 rfl ?_
      refine m_callS_r (As := [_, _, _]) (q := 30) mk_X8_in dX8_sails_27 wd_827 wd_828 (ev_X8_in _ _ _ (1) (24) (by decide) (by decide)) rfl (by decide) rfl (Nat.zero_le _) (Nat.zero_le _) rfl ?_
      refine zb_ne (tgt := 36) (q := 33) dX8_sails_30 (by decide) rfl (fun c3 => ?_) (fun c3 => ?_)
      · skip
        refine z_aload_n (i := 0) (q := 37) dX8_sails_36 rfl rfl rfl ?_
        refine m_getR (r := 181) (q := 40) dX8_sails_37 fl_X8_7 ⟨by decide, _, rfl, rfl⟩ rfl ?_
        refine z_iload_n (i := 2) (q := 41) dX8_sails_40 rfl rfl rfl ?_
        refine m_ialdJ (N := 8) (q := 42) dX8_sails_41 ⟨by decide, _, rfl⟩ (j := r) (nI_clamp (by omega)) (vp_in_nI (by omega) (by decide)) rfl ?_
        refine z_if_ge (tgt := 51) (q := 45) dX8_sails_42 (by decide) rfl (fun c4 => ?_) (fun c4 => ?_)
        · skip
          refine z_iload_n (i := 3) (q := 52) dX8_sails_51 rfl rfl rfl ?_
          refine z_if_lt (tgt := 72) (q := 55) dX8_sails_52 (by decide) rfl (fun c5 => ?_) (fun c5 => ?_)
          · exact absurd (Or.inl c5) h4
          · skip
            refine z_iload_n (i := 3) (q := 56) dX8_sails_55 rfl rfl rfl ?_
            refine z_i2l (q := 57) dX8_sails_56 rfl ?_
            refine z_iload (i := 4) (q := 59) dX8_sails_57 rfl rfl ?_
            refine z_i2l (q := 60) dX8_sails_59 rfl ?_
            refine z_ladd (q := 61) dX8_sails_60 rfl ?_
            refine z_aload_n (i := 0) (q := 62) dX8_sails_61 rfl rfl rfl ?_
            refine m_getR (r := 182) (q := 65) dX8_sails_62 fl_X8_13 ⟨by decide, _, rfl, rfl⟩ rfl ?_
            refine z_iload_n (i := 2) (q := 66) dX8_sails_65 rfl rfl rfl ?_
            refine m_ialdJ (N := 8) (q := 67) dX8_sails_66 ⟨by decide, _, rfl⟩ (j := r) (nI_clamp (by omega)) (vp_in_nI (by omega) (by decide)) rfl ?_
            refine z_i2l (q := 68) dX8_sails_67 rfl ?_
            refine z_lcmp (q := 69) dX8_sails_68 rfl ?_
            refine zl_le (tgt := 78) (q := 72) dX8_sails_69 (by decide) rfl (fun c6 => ?_) (fun c6 => ?_)
            · skip
              refine z_iconst (v := 0) (q := 79) dX8_sails_78 (by decide) rfl ?_
              refine z_istore (i := 5) (ls' := [_, _, _, _, _, _]) (q := 81) dX8_sails_79 (by decide) rfl rfl ?_
              refine lp_X8_slook _ (mT m) p r i z W hp hr h5 hW hW8 _ (z + 1) 0 (by omega) (by omega) hall ?_
              refine z_aload_n (i := 0) (q := 119) dX8_sails_118 rfl rfl rfl ?_
              refine z_iconst (v := 0) (q := 120) dX8_sails_119 (by decide) rfl ?_
              refine m_putI (q := 123) dX8_sails_120 fp_X8_52 ⟨by decide, _, rfl, rfl⟩ ⟨rfl, rfl⟩ rfl ?_
              refine z_iconst (v := 0) (q := 124) dX8_sails_123 (by decide) rfl ?_
              refine z_istore (i := 5) (ls' := [_, _, _, _, _, _]) (q := 126) dX8_sails_124 (by decide) rfl rfl ?_
              exact lp_X8_sails _ p r i z W hp hr h5 hW8 (z + 1) 0 (mS0 m) (by omega) (by omega) hA hall hpos
            · exact absurd (Or.inr c6) h4
        · exact absurd (Int32.not_lt.mp h3) c4
      · exact absurd h1 c3
abbrev eHit (g q : Int64) (b : Int32) (l : Nat) : Prop := gB g (nI l) ∧ ¬ (nI l - b < 0 ∨ 40 < nI l - b) ∧ gB q (nI l - b)
def eAny (g q : Int64) (b : Int32) : Nat → Nat → Bool
  | 0, _ => false
  | n + 1, l => if eHit g q b l then true else eAny g q b n (l + 1)
def mOth (m : zm) (k : Nat) : zm := (m.1, fun c j => if c = 189 ∧ j < k then m.2 188 j else m.2 c j)
theorem mOth_0 (m : zm) : mOth m 0 = m := by
  refine Prod.ext rfl (funext fun c => funext fun j => ?_)
  simp [mOth]
theorem mOth_s (m : zm) (k : Nat) : upL (mOth m k) 189 k ((mOth m k).2 188 k) = mOth m (k + 1) := by
  refine Prod.ext rfl (funext fun c => funext fun j => ?_)
  simp only [upL, mOth]
  rw [if_neg (show ¬ (188 = 189 ∧ k < k) by omega)]
  by_cases h : c = 189 ∧ j = k
  · rw [if_pos h, if_pos (by omega), h.2]
  · rw [if_neg h]
    by_cases h2 : c = 189 ∧ j < k
    · rw [if_pos h2, if_pos (by omega)]
    · rw [if_neg h2, if_neg (by omega)]
/-- by how much a's age less b's is more than told -/
def eBy (m : zm) (a b x y : Nat) : Int32 := mOf m a 4 + nI x - mOf m b 4 - nI y
def eEv (m : zm) (a b ca cb h : Nat) : Nat → Nat → Int32
  | 0, _ => -1000000
  | n + 1, k => if k - ca ≤ 40 ∧ k - cb ≤ 40 then (if eAny (m.2 188 (5 * (k - ca) + h)) (m.2 189 (5 * (k - cb) + h)) (eBy m a b (k - ca) (k - cb)) 41 0 = true then nI k else eEv m a b ca cb h n (k + 1)) else -1000000
def mEvM (m : zm) (a b H W xa xb : Nat) : zm := mLay (mOth (mLay m b H W xb) 205) a H W xa
set_option maxHeartbeats 4000000 in
set_option maxRecDepth 100000 in
theorem lp_X8_oth (d : Nat) (m : zm) (a b h : Nat) (Y : zX) : ∀ (n : Nat) (k : Nat), 205 - k < n → k ≤ 205 → ZW zM_X8_even (d + 3) 0 0 73 [some (.ref 180), some (.int (nI a)), some (.int (nI b)), some (.int (nI h)), none, none, none, none, none, none, none] [] (lay (mOth m 205)) 0 0 Y → ZW zM_X8_even (d + 3) 0 0 45 [some (.ref 180), some (.int (nI a)), some (.int (nI b)), some (.int (nI h)), some (.int (nI k)), none, none, none, none, none, none] [] (lay (mOth m k)) 0 0 (Y) := by
  intro n
  induction n with
  | zero => intro k hm; exact absurd hm (by omega)
  | succ n ih =>
    intro k hm hk hY
    refine z_iload (i := 4) (q := 47) dX8_even_45 rfl rfl ?_
    refine z_sipush (v := 205) (q := 50) dX8_even_47 (by decide) rfl ?_
    refine z_icmp_ge (tgt := 73) (q := 53) dX8_even_50 (by decide) rfl (fun c1 => ?_) (fun c1 => ?_)
    · skip
      have hge : 205 ≤ k := (nI_leI (a := 205) (b := k) (by omega) (by omega)).mp c1
      have hk8 : k = 205 := by omega
      subst hk8
      exact z_loc (zle_s (zle_s (zle_s (zle_s (zle_n (zle_n (zle_n (zle_n (zle_n (zle_n (zle_n zle_0))))))))))) hY
    · skip
      have hlt : k < 205 := by
        rcases Nat.lt_or_ge k 205 with q | q
        · exact q
        · exact absurd ((nI_leI (a := 205) (b := k) (by omega) (by omega)).mpr q) c1
      refine z_aload_n (i := 0) (q := 54) dX8_even_53 rfl rfl rfl ?_
      refine m_getR (r := 189) (q := 57) dX8_even_54 fl_X8_35 ⟨by decide, _, rfl, rfl⟩ rfl ?_
      refine z_iload (i := 4) (q := 59) dX8_even_57 rfl rfl ?_
      refine z_aload_n (i := 0) (q := 60) dX8_even_59 rfl rfl rfl ?_
      refine m_getR (r := 188) (q := 63) dX8_even_60 fl_X8_31 ⟨by decide, _, rfl, rfl⟩ rfl ?_
      refine z_iload (i := 4) (q := 65) dX8_even_63 rfl rfl ?_
      refine m_laldJ (N := 205) (q := 66) dX8_even_65 ⟨by decide, _, rfl⟩ (j := k) (nI_clamp (by omega)) (vp_in_nI (by omega) (by decide)) rfl ?_
      refine m_lastJ (N := 205) (q := 67) dX8_even_66 ⟨by decide, _, rfl⟩ (j := k) (nI_clamp (by omega)) (vp_in_nI (by omega) (by decide)) rfl ?_
      refine z_iinc (i := 4) (ls' := [_, _, _, _, _, _, _, _, _, _, _]) (v := nI (k + 1)) (q := 70) dX8_even_67 rfl (nI_1 _) (by decide) rfl rfl ?_
      refine z_goto (tgt := 45) dX8_even_70 (by decide) ?_
      rw [mOth_s]
      exact ih (k + 1) (by omega) (by omega) hY
set_option maxHeartbeats 4000000 in
set_option maxRecDepth 100000 in
theorem lp_X8_evl (d : Nat) (m : zm) (a b h k x y : Nat) (f v : Int32) (hh : h < 5) (hx : x < 41) (hy : y < 41) (Y : zX) : ∀ (n : Nat) (l : Nat), 41 - l < n → l ≤ 41 → ((eAny (m.2 188 (5 * x + h)) (m.2 189 (5 * y + h)) v (41 - l) l = true → Y = (some (.int (nI k)), lay m)) ∧ (eAny (m.2 188 (5 * x + h)) (m.2 189 (5 * y + h)) v (41 - l) l = false → ZW zM_X8_even (d + 3) 0 0 266 [some (.ref 180), some (.int (nI a)), some (.int (nI b)), some (.int (nI h)), some (.int f), some (.int (nI k)), none, none, none, none, none] [] (lay m) 0 0 Y)) → ZW zM_X8_even (d + 3) 0 0 188 [some (.ref 180), some (.int (nI a)), some (.int (nI b)), some (.int (nI h)), some (.int f), some (.int (nI k)), some (.int (nI x)), some (.int (nI y)), some (.int v), some (.int (nI l)), none] [] (lay m) 0 0 (Y) := by
  intro n
  induction n with
  | zero => intro l hm; exact absurd hm (by omega)
  | succ n ih =>
    intro l hm hl hY
    refine z_iload (i := 9) (q := 190) dX8_even_188 rfl rfl ?_
    refine z_bipush (v := 40) (q := 192) dX8_even_190 (by decide) rfl ?_
    refine z_icmp_gt (tgt := 266) (q := 195) dX8_even_192 (by decide) rfl (fun c1 => ?_) (fun c1 => ?_)
    · skip
      have hge : 41 ≤ l := by
        have := (nI_ltI (a := 40) (b := l) (by omega) (by omega)).mp c1
        omega
      rw [show 41 - l = 0 by omega] at hY
      exact z_loc (zle_s (zle_s (zle_s (zle_s (zle_s (zle_s (zle_n (zle_n (zle_n (zle_n (zle_n zle_0))))))))))) (hY.2 rfl)
    · skip
      have hlt : l < 41 := by
        rcases Nat.lt_or_ge l 41 with q | q
        · exact q
        · exact absurd ((nI_ltI (a := 40) (b := l) (by omega) (by omega)).mpr (by omega)) c1
      refine z_iload (i := 9) (q := 197) dX8_even_195 rfl rfl ?_
      refine z_iload (i := 8) (q := 199) dX8_even_197 rfl rfl ?_
      refine z_isub (q := 200) dX8_even_199 rfl ?_
      refine z_istore (i := 10) (ls' := [_, _, _, _, _, _, _, _, _, _, _]) (q := 202) dX8_even_200 (by decide) rfl rfl ?_
      refine z_aload_n (i := 0) (q := 203) dX8_even_202 rfl rfl rfl ?_
      refine m_getR (r := 188) (q := 206) dX8_even_203 fl_X8_31 ⟨by decide, _, rfl, rfl⟩ rfl ?_
      refine z_iconst (v := 5) (q := 207) dX8_even_206 (by decide) rfl ?_
      refine z_iload (i := 6) (q := 209) dX8_even_207 rfl rfl ?_
      refine z_imul (q := 210) dX8_even_209 rfl ?_
      rw [show 5 * nI x = nI (5 * x) from nI_mul 5 _]
      refine z_iload_n (i := 3) (q := 211) dX8_even_210 rfl rfl rfl ?_
      refine z_iadd (q := 212) dX8_even_211 rfl ?_
      rw [show nI (5 * x) + nI h = nI ((5 * x) + h) from nI_add _ _]
      refine m_laldJ (N := 205) (q := 213) dX8_even_212 ⟨by decide, _, rfl⟩ (j := ((5 * x) + h)) (nI_clamp (by omega)) (vp_in_nI (by omega) (by decide)) rfl ?_
      refine z_iload (i := 9) (q := 215) dX8_even_213 rfl rfl ?_
      refine z_lshr (q := 216) dX8_even_215 rfl ?_
      refine z_lconst (v := 1) (q := 217) dX8_even_216 (by decide) rfl ?_
      refine z_land (q := 218) dX8_even_217 rfl ?_
      refine z_lconst (v := 1) (q := 219) dX8_even_218 (by decide) rfl ?_
      refine z_lcmp (q := 220) dX8_even_219 rfl ?_
      refine zl_ne (tgt := 260) (q := 223) dX8_even_220 (by decide) rfl (fun c2 => ?_) (fun c2 => ?_)
      · skip
        refine z_iinc (i := 9) (ls' := [_, _, _, _, _, _, _, _, _, _, _]) (v := nI (l + 1)) (q := 263) dX8_even_260 rfl (nI_1 _) (by decide) rfl rfl ?_
        refine z_goto (tgt := 188) dX8_even_263 (by decide) ?_
        have hq : eAny (m.2 188 (5 * x + h)) (m.2 189 (5 * y + h)) v (41 - l) l = eAny (m.2 188 (5 * x + h)) (m.2 189 (5 * y + h)) v (41 - (l + 1)) (l + 1) := by
          rw [show 41 - l = (41 - (l + 1)) + 1 by omega, eAny, if_neg (fun q => c2 q.1)]
        rw [hq] at hY
        exact z_loc (zle_s (zle_s (zle_s (zle_s (zle_s (zle_s (zle_s (zle_s (zle_s (zle_s (zle_n zle_0))))))))))) (ih (l + 1) (by omega) (by omega) hY)
      · skip
        refine z_iload (i := 10) (q := 225) dX8_even_223 rfl rfl ?_
        refine z_i2l (q := 226) dX8_even_225 rfl ?_
        refine z_lconst (v := 0) (q := 227) dX8_even_226 (by decide) rfl ?_
        refine z_ldc2 (q := 230) dX8_even_227 wd_1017 rfl ?_
        refine m_callS_r (As := [_, _, _]) (q := 233) mk_X8_in dX8_even_230 wd_827 wd_828 (ev_X8_in _ _ _ (0) (40) (by decide) (by decide)) rfl (by decide) rfl (Nat.zero_le _) (Nat.zero_le _) rfl ?_
        refine zb_eq (tgt := 260) (q := 236) dX8_even_233 (by decide) rfl (fun c3 => ?_) (fun c3 => ?_)
        · skip
          refine z_iinc (i := 9) (ls' := [_, _, _, _, _, _, _, _, _, _, _]) (v := nI (l + 1)) (q := 263) dX8_even_260 rfl (nI_1 _) (by decide) rfl rfl ?_
          refine z_goto (tgt := 188) dX8_even_263 (by decide) ?_
          have hq : eAny (m.2 188 (5 * x + h)) (m.2 189 (5 * y + h)) v (41 - l) l = eAny (m.2 188 (5 * x + h)) (m.2 189 (5 * y + h)) v (41 - (l + 1)) (l + 1) := by
            rw [show 41 - l = (41 - (l + 1)) + 1 by omega, eAny, if_neg (fun q => c3 q.2.1)]
          rw [hq] at hY
          exact z_loc (zle_s (zle_s (zle_s (zle_s (zle_s (zle_s (zle_s (zle_s (zle_s (zle_s (zle_n zle_0))))))))))) (ih (l + 1) (by omega) (by omega) hY)
        · skip
          refine z_aload_n (i := 0) (q := 237) dX8_even_236 rfl rfl rfl ?_
          refine m_getR (r := 189) (q := 240) dX8_even_237 fl_X8_35 ⟨by decide, _, rfl, rfl⟩ rfl ?_
          refine z_iconst (v := 5) (q := 241) dX8_even_240 (by decide) rfl ?_
          refine z_iload (i := 7) (q := 243) dX8_even_241 rfl rfl ?_
          refine z_imul (q := 244) dX8_even_243 rfl ?_
          rw [show 5 * nI y = nI (5 * y) from nI_mul 5 _]
          refine z_iload_n (i := 3) (q := 245) dX8_even_244 rfl rfl rfl ?_
          refine z_iadd (q := 246) dX8_even_245 rfl ?_
          rw [show nI (5 * y) + nI h = nI ((5 * y) + h) from nI_add _ _]
          refine m_laldJ (N := 205) (q := 247) dX8_even_246 ⟨by decide, _, rfl⟩ (j := ((5 * y) + h)) (nI_clamp (by omega)) (vp_in_nI (by omega) (by decide)) rfl ?_
          refine z_iload (i := 10) (q := 249) dX8_even_247 rfl rfl ?_
          refine z_lshr (q := 250) dX8_even_249 rfl ?_
          refine z_lconst (v := 1) (q := 251) dX8_even_250 (by decide) rfl ?_
          refine z_land (q := 252) dX8_even_251 rfl ?_
          refine z_lconst (v := 1) (q := 253) dX8_even_252 (by decide) rfl ?_
          refine z_lcmp (q := 254) dX8_even_253 rfl ?_
          refine zl_ne (tgt := 260) (q := 257) dX8_even_254 (by decide) rfl (fun c4 => ?_) (fun c4 => ?_)
          · skip
            refine z_iinc (i := 9) (ls' := [_, _, _, _, _, _, _, _, _, _, _]) (v := nI (l + 1)) (q := 263) dX8_even_260 rfl (nI_1 _) (by decide) rfl rfl ?_
            refine z_goto (tgt := 188) dX8_even_263 (by decide) ?_
            have hq : eAny (m.2 188 (5 * x + h)) (m.2 189 (5 * y + h)) v (41 - l) l = eAny (m.2 188 (5 * x + h)) (m.2 189 (5 * y + h)) v (41 - (l + 1)) (l + 1) := by
              rw [show 41 - l = (41 - (l + 1)) + 1 by omega, eAny, if_neg (fun q => c4 q.2.2)]
            rw [hq] at hY
            exact z_loc (zle_s (zle_s (zle_s (zle_s (zle_s (zle_s (zle_s (zle_s (zle_s (zle_s (zle_n zle_0))))))))))) (ih (l + 1) (by omega) (by omega) hY)
          · skip
            refine z_iload (i := 5) (q := 259) dX8_even_257 rfl rfl ?_
            refine z_ireturn dX8_even_259 rfl rfl ?_ (Nat.le_refl _) (Nat.le_refl _)
            exact (hY.1 (by rw [show 41 - l = (41 - (l + 1)) + 1 by omega, eAny, if_pos ⟨c2, c3, c4⟩]))
