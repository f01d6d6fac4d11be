/-! ===== the model: small methods ===== -/
set_option maxHeartbeats 4000000 in
set_option maxRecDepth 100000 in
theorem ev_X8_fault (d : Nat) (m : zm) : zEv (d) zM_X8_fault 0 0 [.ref 180] (lay m) (some (.int (m.1 180 11)), lay (mT m)) := by
  refine zEv_of (by decide) (fun G => Nat.le_of_ble_eq_true rfl) ?_
  show ZW _ _ _ _ 0 [some (.ref 180)] [] _ _ _ _
  refine z_aload_n (i := 0) (q := 1) dX8_fault_0 rfl rfl rfl ?_
  refine z_iconst (v := 0) (q := 2) dX8_fault_1 (by decide) rfl ?_
  refine m_putI (q := 5) dX8_fault_2 fp_X8_48 ⟨by decide, _, rfl, rfl⟩ ⟨rfl, rfl⟩ rfl ?_
  refine z_aload_n (i := 0) (q := 6) dX8_fault_5 rfl rfl rfl ?_
  refine m_getI (q := 9) dX8_fault_6 fl_X8_171 ⟨by decide, _, rfl, rfl⟩ rfl ?_
  refine z_ireturn dX8_fault_9 rfl rfl ?_ (Nat.le_refl _) (Nat.le_refl _)
  rfl
set_option maxHeartbeats 4000000 in
set_option maxRecDepth 100000 in
theorem ev_X8_isThere (d : Nat) (m : zm) : zEv (d) zM_X8_isThere 0 0 [.ref 180] (lay m) (some (.int (if 0 < m.1 184 0 then 1 else 0)), lay (m)) := by
  refine zEv_of (by decide) (fun G => Nat.le_of_ble_eq_true rfl) ?_
  show ZW _ _ _ _ 0 [some (.ref 180)] [] _ _ _ _
  refine z_aload_n (i := 0) (q := 1) dX8_isThere_0 rfl rfl rfl ?_
  refine m_getR (r := 184) (q := 4) dX8_isThere_1 fl_X8_19 ⟨by decide, _, rfl, rfl⟩ rfl ?_
  refine z_iconst (v := 0) (q := 5) dX8_isThere_4 (by decide) rfl ?_
  refine m_ialdJ (N := 68) (q := 6) dX8_isThere_5 ⟨by decide, _, rfl⟩ (j := 0) (by decide) (vp_c (by decide)) rfl ?_
  refine z_if_le (tgt := 13) (q := 9) dX8_isThere_6 (by decide) rfl (fun c1 => ?_) (fun c1 => ?_)
  · skip
    refine z_iconst (v := 0) (q := 14) dX8_isThere_13 (by decide) rfl ?_
    refine z_ireturn dX8_isThere_14 rfl rfl ?_ (Nat.le_refl _) (Nat.le_refl _)
    simp [c1]
  · skip
    refine z_iconst (v := 1) (q := 10) dX8_isThere_9 (by decide) rfl ?_
    refine z_goto (tgt := 14) dX8_isThere_10 (by decide) ?_
    refine z_ireturn dX8_isThere_14 rfl rfl ?_ (Nat.le_refl _) (Nat.le_refl _)
    simp [c1]
set_option maxHeartbeats 4000000 in
set_option maxRecDepth 100000 in
theorem ev_X8_isPerson (d : Nat) (m : zm) (p : Int32) : zEv (d + 1) zM_X8_isPerson 0 0 [.ref 180, .int p] (lay m) (some (.int (if ¬ (p < 0 ∨ m.1 184 3 - 1 < p) then 1 else 0)), lay (m)) := by
  refine zEv_of (by decide) (fun G => Nat.le_of_ble_eq_true rfl) ?_
  show ZW _ _ _ _ 0 [some (.ref 180), some (.int p)] [] _ _ _ _
  refine z_iload_n (i := 1) (q := 1) dX8_isPerson_0 rfl rfl rfl ?_
  refine z_i2l (q := 2) dX8_isPerson_1 rfl ?_
  refine z_lconst (v := 0) (q := 3) dX8_isPerson_2 (by decide) rfl ?_
  refine z_aload_n (i := 0) (q := 4) dX8_isPerson_3 rfl rfl rfl ?_
  refine m_getR (r := 184) (q := 7) dX8_isPerson_4 fl_X8_19 ⟨by decide, _, rfl, rfl⟩ rfl ?_
  refine z_iconst (v := 3) (q := 8) dX8_isPerson_7 (by decide) rfl ?_
  refine m_ialdJ (N := 68) (q := 9) dX8_isPerson_8 ⟨by decide, _, rfl⟩ (j := 3) (by decide) (vp_c (by decide)) rfl ?_
  refine z_iconst (v := 1) (q := 10) dX8_isPerson_9 (by decide) rfl ?_
  refine z_isub (q := 11) dX8_isPerson_10 rfl ?_
  refine z_i2l (q := 12) dX8_isPerson_11 rfl ?_
  refine m_callS_r (As := [_, _, _]) (q := 15) mk_X8_in dX8_isPerson_12 wd_827 wd_828 (ev_X8_in _ _ _ (0) _ (by decide) rfl) rfl (by decide) rfl (Nat.zero_le _) (Nat.zero_le _) rfl ?_
  refine z_ireturn dX8_isPerson_15 rfl zb_nar ?_ (Nat.le_refl _) (Nat.le_refl _)
  rfl
set_option maxHeartbeats 4000000 in
set_option maxRecDepth 100000 in
theorem ev_X8_isWay (d : Nat) (m : zm) (p : Int32) : zEv (d + 1) zM_X8_isWay 0 0 [.ref 180, .int p] (lay m) (some (.int (if ¬ (p < 0 ∨ m.1 184 2 - 1 < p) then 1 else 0)), lay (m)) := by
  refine zEv_of (by decide) (fun G => Nat.le_of_ble_eq_true rfl) ?_
  show ZW _ _ _ _ 0 [some (.ref 180), some (.int p)] [] _ _ _ _
  refine z_iload_n (i := 1) (q := 1) dX8_isWay_0 rfl rfl rfl ?_
  refine z_i2l (q := 2) dX8_isWay_1 rfl ?_
  refine z_lconst (v := 0) (q := 3) dX8_isWay_2 (by decide) rfl ?_
  refine z_aload_n (i := 0) (q := 4) dX8_isWay_3 rfl rfl rfl ?_
  refine m_getR (r := 184) (q := 7) dX8_isWay_4 fl_X8_19 ⟨by decide, _, rfl, rfl⟩ rfl ?_
  refine z_iconst (v := 2) (q := 8) dX8_isWay_7 (by decide) rfl ?_
  refine m_ialdJ (N := 68) (q := 9) dX8_isWay_8 ⟨by decide, _, rfl⟩ (j := 2) (by decide) (vp_c (by decide)) rfl ?_
  refine z_iconst (v := 1) (q := 10) dX8_isWay_9 (by decide) rfl ?_
  refine z_isub (q := 11) dX8_isWay_10 rfl ?_
  refine z_i2l (q := 12) dX8_isWay_11 rfl ?_
  refine m_callS_r (As := [_, _, _]) (q := 15) mk_X8_in dX8_isWay_12 wd_827 wd_828 (ev_X8_in _ _ _ (0) _ (by decide) rfl) rfl (by decide) rfl (Nat.zero_le _) (Nat.zero_le _) rfl ?_
  refine z_ireturn dX8_isWay_15 rfl zb_nar ?_ (Nat.le_refl _) (Nat.le_refl _)
  rfl
set_option maxHeartbeats 4000000 in
set_option maxRecDepth 100000 in
theorem ev_X8_isHarbour (d : Nat) (m : zm) (p : Int32) : zEv (d + 1) zM_X8_isHarbour 0 0 [.ref 180, .int p] (lay m) (some (.int (if ¬ (p < 0 ∨ m.1 184 0 - 1 < p) then 1 else 0)), lay (m)) := by
  refine zEv_of (by decide) (fun G => Nat.le_of_ble_eq_true rfl) ?_
  show ZW _ _ _ _ 0 [some (.ref 180), some (.int p)] [] _ _ _ _
  refine z_iload_n (i := 1) (q := 1) dX8_isHarbour_0 rfl rfl rfl ?_
  refine z_i2l (q := 2) dX8_isHarbour_1 rfl ?_
  refine z_lconst (v := 0) (q := 3) dX8_isHarbour_2 (by decide) rfl ?_
  refine z_aload_n (i := 0) (q := 4) dX8_isHarbour_3 rfl rfl rfl ?_
  refine m_getR (r := 184) (q := 7) dX8_isHarbour_4 fl_X8_19 ⟨by decide, _, rfl, rfl⟩ rfl ?_
  refine z_iconst (v := 0) (q := 8) dX8_isHarbour_7 (by decide) rfl ?_
  refine m_ialdJ (N := 68) (q := 9) dX8_isHarbour_8 ⟨by decide, _, rfl⟩ (j := 0) (by decide) (vp_c (by decide)) rfl ?_
  refine z_iconst (v := 1) (q := 10) dX8_isHarbour_9 (by decide) rfl ?_
  refine z_isub (q := 11) dX8_isHarbour_10 rfl ?_
  refine z_i2l (q := 12) dX8_isHarbour_11 rfl ?_
  refine m_callS_r (As := [_, _, _]) (q := 15) mk_X8_in dX8_isHarbour_12 wd_827 wd_828 (ev_X8_in _ _ _ (0) _ (by decide) rfl) rfl (by decide) rfl (Nat.zero_le _) (Nat.zero_le _) rfl ?_
  refine z_ireturn dX8_isHarbour_15 rfl zb_nar ?_ (Nat.le_refl _) (Nat.le_refl _)
  rfl
set_option maxHeartbeats 4000000 in
set_option maxRecDepth 100000 in
theorem ev_X8_of (d : Nat) (m : zm) (p : Nat) (k : Nat) (hp : p < 4) (hk : k < 8) : zEv (d) zM_X8_of 0 0 [.ref 180, .int (nI p), .int (nI k)] (lay m) (some (.int (m.1 184 (36 + 8 * p + k))), lay (m)) := by
  refine zEv_of (by decide) (fun G => Nat.le_of_ble_eq_true rfl) ?_
  show ZW _ _ _ _ 0 [some (.ref 180), some (.int (nI p)), some (.int (nI k))] [] _ _ _ _
  refine z_aload_n (i := 0) (q := 1) dX8_of_0 rfl rfl rfl ?_
  refine m_getR (r := 184) (q := 4) dX8_of_1 fl_X8_19 ⟨by decide, _, rfl, rfl⟩ rfl ?_
  refine z_bipush (v := 36) (q := 6) dX8_of_4 (by decide) rfl ?_
  refine z_bipush (v := 8) (q := 8) dX8_of_6 (by decide) rfl ?_
  refine z_iload_n (i := 1) (q := 9) dX8_of_8 rfl rfl rfl ?_
  refine z_imul (q := 10) dX8_of_9 rfl ?_
  rw [show 8 * nI p = nI (8 * p) from nI_mul 8 _]
  refine z_iadd (q := 11) dX8_of_10 rfl ?_
  rw [show 36 + nI (8 * p) = nI (36 + (8 * p)) from nI_add 36 _]
  refine z_iload_n (i := 2) (q := 12) dX8_of_11 rfl rfl rfl ?_
  refine z_iadd (q := 13) dX8_of_12 rfl ?_
  rw [show nI (36 + (8 * p)) + nI k = nI ((36 + (8 * p)) + k) from nI_add _ _]
  refine m_ialdJ (N := 68) (q := 14) dX8_of_13 ⟨by decide, _, rfl⟩ (j := ((36 + (8 * p)) + k)) (nI_clamp (by omega)) (vp_in_nI (by omega) (by decide)) rfl ?_
  refine z_ireturn dX8_of_14 rfl rfl ?_ (Nat.le_refl _) (Nat.le_refl _)
  rfl
set_option maxHeartbeats 4000000 in
set_option maxRecDepth 100000 in
theorem ev_X8_wayOf (d : Nat) (m : zm) (w : Nat) (k : Nat) (hw : w < 8) (hk : k < 4) : zEv (d) zM_X8_wayOf 0 0 [.ref 180, .int (nI w), .int (nI k)] (lay m) (some (.int (m.1 184 (4 + 4 * w + k))), lay (m)) := by
  refine zEv_of (by decide) (fun G => Nat.le_of_ble_eq_true rfl) ?_
  show ZW _ _ _ _ 0 [some (.ref 180), some (.int (nI w)), some (.int (nI k))] [] _ _ _ _
  refine z_aload_n (i := 0) (q := 1) dX8_wayOf_0 rfl rfl rfl ?_
  refine m_getR (r := 184) (q := 4) dX8_wayOf_1 fl_X8_19 ⟨by decide, _, rfl, rfl⟩ rfl ?_
  refine z_iconst (v := 4) (q := 5) dX8_wayOf_4 (by decide) rfl ?_
  refine z_iconst (v := 4) (q := 6) dX8_wayOf_5 (by decide) rfl ?_
  refine z_iload_n (i := 1) (q := 7) dX8_wayOf_6 rfl rfl rfl ?_
  refine z_imul (q := 8) dX8_wayOf_7 rfl ?_
  rw [show 4 * nI w = nI (4 * w) from nI_mul 4 _]
  refine z_iadd (q := 9) dX8_wayOf_8 rfl ?_
  rw [show 4 + nI (4 * w) = nI (4 + (4 * w)) from nI_add 4 _]
  refine z_iload_n (i := 2) (q := 10) dX8_wayOf_9 rfl rfl rfl ?_
  refine z_iadd (q := 11) dX8_wayOf_10 rfl ?_
  rw [show nI (4 + (4 * w)) + nI k = nI ((4 + (4 * w)) + k) from nI_add _ _]
  refine m_ialdJ (N := 68) (q := 12) dX8_wayOf_11 ⟨by decide, _, rfl⟩ (j := ((4 + (4 * w)) + k)) (nI_clamp (by omega)) (vp_in_nI (by omega) (by decide)) rfl ?_
  refine z_ireturn dX8_wayOf_12 rfl rfl ?_ (Nat.le_refl _) (Nat.le_refl _)
  rfl
def mOf (m : zm) (p k : Nat) : Int32 := m.1 184 (36 + 8 * p + k)
def mWy (m : zm) (w k : Nat) : Int32 := m.1 184 (4 + 4 * w + k)
def mTo (m : zm) (w : Nat) (f : Int32) : Int32 := if mWy m w 0 = f then mWy m w 1 else if mWy m w 1 = f then mWy m w 0 else -1000000
def mEndOf (m : zm) (p w : Nat) (f : Int32) : Int32 := if mOf m p 0 = 5 ∧ 10 < mWy m w 2 then -1000000 else mTo m w f
def mAgesBy (m : zm) (p w : Nat) : Int32 := if mOf m p 0 = 2 then (if 0 < mWy m w 3 then mWy m w 3 - 1 else 0) else if mOf m p 0 = 3 then 0 else if mOf m p 0 = 4 then mWy m w 2 else mWy m w 3
set_option maxHeartbeats 4000000 in
set_option maxRecDepth 100000 in
theorem ev_X8_agesBy (d : Nat) (m : zm) (p : Nat) (w : Nat) (hp : p < 4) (hw : w < 8) : zEv (d + 1) zM_X8_agesBy 0 0 [.ref 180, .int (nI p), .int (nI w)] (lay m) (some (.int (mAgesBy m p w)), lay (m)) := by
  refine zEv_of (by decide) (fun G => Nat.le_of_ble_eq_true rfl) ?_
  show ZW _ _ _ _ 0 [some (.ref 180), some (.int (nI p)), some (.int (nI w)), none] [] _ _ _ _
  refine z_aload_n (i := 0) (q := 1) dX8_agesBy_0 rfl rfl rfl ?_
  refine z_iload_n (i := 2) (q := 2) dX8_agesBy_1 rfl rfl rfl ?_
  refine z_iconst (v := 3) (q := 3) dX8_agesBy_2 (by decide) rfl ?_
  refine m_callV_r (As := [_, _]) (q := 6) mk_X8_wayOf dX8_agesBy_3 wd_955 wd_957 wp_48 (ci := 8) rfl ⟨by decide, _, rfl⟩ (ev_X8_wayOf _ _ w 3 (by omega) (by omega)) rfl (by decide) rfl (Nat.zero_le _) (Nat.zero_le _) rfl ?_
  refine z_istore_n (i := 3) (ls' := [_, _, _, _]) (q := 7) dX8_agesBy_6 rfl (by decide) rfl rfl ?_
  refine z_aload_n (i := 0) (q := 8) dX8_agesBy_7 rfl rfl rfl ?_
  refine z_iload_n (i := 1) (q := 9) dX8_agesBy_8 rfl rfl rfl ?_
  refine z_iconst (v := 0) (q := 10) dX8_agesBy_9 (by decide) rfl ?_
  refine m_callV_r (As := [_, _]) (q := 13) mk_X8_of dX8_agesBy_10 wd_947 wd_949 wp_46 (ci := 8) rfl ⟨by decide, _, rfl⟩ (ev_X8_of _ _ p 0 (by omega) (by omega)) rfl (by decide) rfl (Nat.zero_le _) (Nat.zero_le _) rfl ?_
  refine z_table (tgts := [40, 52, 54]) (dt := 61) dX8_agesBy_13 (by decide) (by decide) (by decide) (fun j t ht c1 => ?_) (fun c1 => ?_)
  · match j, ht, c1 with
    | 0, ht, c1 =>
      cases ht
      have c1 : _ = (2 : Int32) := Int32.toInt_inj.mp c1
      refine z_iload_n (i := 3) (q := 41) dX8_agesBy_40 rfl rfl rfl ?_
      refine z_if_le (tgt := 50) (q := 44) dX8_agesBy_41 (by decide) rfl (fun c2 => ?_) (fun c2 => ?_)
      · skip
        refine z_iconst (v := 0) (q := 51) dX8_agesBy_50 (by decide) rfl ?_
        refine z_ireturn dX8_agesBy_51 rfl rfl ?_ (Nat.le_refl _) (Nat.le_refl _)
        first | (rw [show mAgesBy m p w = 0 from (if_pos c1).trans (if_neg (Int32.not_lt.mpr c2))]; done) | (rw [show mAgesBy m p w = mWy m w 3 - 1 from (if_pos c1).trans (if_pos (Int32.not_le.mp c2))]; rfl)
      · skip
        refine z_iload_n (i := 3) (q := 45) dX8_agesBy_44 rfl rfl rfl ?_
        refine z_iconst (v := 1) (q := 46) dX8_agesBy_45 (by decide) rfl ?_
        refine z_isub (q := 47) dX8_agesBy_46 rfl ?_
        refine z_goto (tgt := 51) dX8_agesBy_47 (by decide) ?_
        refine z_ireturn dX8_agesBy_51 rfl rfl ?_ (Nat.le_refl _) (Nat.le_refl _)
        first | (rw [show mAgesBy m p w = 0 from (if_pos c1).trans (if_neg (Int32.not_lt.mpr c2))]; done) | (rw [show mAgesBy m p w = mWy m w 3 - 1 from (if_pos c1).trans (if_pos (Int32.not_le.mp c2))]; rfl)
    | 1, ht, c1 =>
      cases ht
      have c1 : _ = (3 : Int32) := Int32.toInt_inj.mp c1
      refine z_iconst (v := 0) (q := 53) dX8_agesBy_52 (by decide) rfl ?_
      refine z_ireturn dX8_agesBy_53 rfl rfl ?_ (Nat.le_refl _) (Nat.le_refl _)
      simp only [mAgesBy, mOf, mWy]
      simp only [Nat.add_zero] at *
      simp [c1]
    | 2, ht, c1 =>
      cases ht
      have c1 : _ = (4 : Int32) := Int32.toInt_inj.mp c1
      refine z_aload_n (i := 0) (q := 55) dX8_agesBy_54 rfl rfl rfl ?_
      refine z_iload_n (i := 2) (q := 56) dX8_agesBy_55 rfl rfl rfl ?_
      refine z_iconst (v := 2) (q := 57) dX8_agesBy_56 (by decide) rfl ?_
      refine m_callV_r (As := [_, _]) (q := 60) mk_X8_wayOf dX8_agesBy_57 wd_955 wd_957 wp_48 (ci := 8) rfl ⟨by decide, _, rfl⟩ (ev_X8_wayOf _ _ w 2 (by omega) (by omega)) rfl (by decide) rfl (Nat.zero_le _) (Nat.zero_le _) rfl ?_
      refine z_ireturn dX8_agesBy_60 rfl rfl ?_ (Nat.le_refl _) (Nat.le_refl _)
      simp only [mAgesBy, mOf, mWy]
      simp only [Nat.add_zero] at *
      simp [c1]
    | j + 3, ht, c1 => exact absurd ht (by simp)
  · skip
    have c1_0 := zout (v := 2) c1 (by decide)
    have c1_1 := zout (v := 3) c1 (by decide)
    have c1_2 := zout (v := 4) c1 (by decide)
    refine z_iload_n (i := 3) (q := 62) dX8_agesBy_61 rfl rfl rfl ?_
    refine z_ireturn dX8_agesBy_62 rfl rfl ?_ (Nat.le_refl _) (Nat.le_refl _)
    simp only [mAgesBy, mOf, mWy]
    simp only [Nat.add_zero] at *
    simp [c1_0, c1_1, c1_2]
set_option maxHeartbeats 4000000 in
set_option maxRecDepth 100000 in
theorem sg_X8_end (d : Nat) (m : zm) (p w : Nat) (f t : Int32) (hp : p < 4) (hw : w < 8) (ht : t = mTo m w f) : ZW zM_X8_endOf (d + 1) 0 0 42 [some (.ref 180), some (.int (nI p)), some (.int (nI w)), some (.int f), some (.int t)] [] (lay m) 0 0 (some (.int (mEndOf m p w f)), lay m) := by
  refine z_aload_n (i := 0) (q := 43) dX8_endOf_42 rfl rfl rfl ?_
  refine z_iload_n (i := 1) (q := 44) dX8_endOf_43 rfl rfl rfl ?_
  refine z_iconst (v := 0) (q := 45) dX8_endOf_44 (by decide) rfl ?_
  refine m_callV_r (As := [_, _]) (q := 48) mk_X8_of dX8_endOf_45 wd_947 wd_949 wp_46 (ci := 8) rfl ⟨by decide, _, rfl⟩ (ev_X8_of _ _ p 0 (by omega) (by omega)) rfl (by decide) rfl (Nat.zero_le _) (Nat.zero_le _) rfl ?_
  refine z_iconst (v := 5) (q := 49) dX8_endOf_48 (by decide) rfl ?_
  refine z_icmp_ne (tgt := 68) (q := 52) dX8_endOf_49 (by decide) rfl (fun c1 => ?_) (fun c1 => ?_)
  · skip
    refine z_iload (i := 4) (q := 70) dX8_endOf_68 rfl rfl ?_
    refine z_ireturn dX8_endOf_70 rfl rfl ?_ (Nat.le_refl _) (Nat.le_refl _)
    rw [ht, show mEndOf m p w f = mTo m w f from if_neg (fun q => c1 q.1)]
  · skip
    refine z_aload_n (i := 0) (q := 53) dX8_endOf_52 rfl rfl rfl ?_
    refine z_iload_n (i := 2) (q := 54) dX8_endOf_53 rfl rfl rfl ?_
    refine z_iconst (v := 2) (q := 55) dX8_endOf_54 (by decide) rfl ?_
    refine m_callV_r (As := [_, _]) (q := 58) mk_X8_wayOf dX8_endOf_55 wd_955 wd_957 wp_48 (ci := 8) rfl ⟨by decide, _, rfl⟩ (ev_X8_wayOf _ _ w 2 (by omega) (by omega)) rfl (by decide) rfl (Nat.zero_le _) (Nat.zero_le _) rfl ?_
    refine z_bipush (v := 10) (q := 60) dX8_endOf_58 (by decide) rfl ?_
    refine z_icmp_le (tgt := 68) (q := 63) dX8_endOf_60 (by decide) rfl (fun c2 => ?_) (fun c2 => ?_)
    · skip
      refine z_iload (i := 4) (q := 70) dX8_endOf_68 rfl rfl ?_
      refine z_ireturn dX8_endOf_70 rfl rfl ?_ (Nat.le_refl _) (Nat.le_refl _)
      first | (rw [ht, show mEndOf m p w f = mTo m w f from if_neg (fun q => absurd q.2 (Int32.not_lt.mpr c2))]; done) | (rw [show mEndOf m p w f = -1000000 from if_pos ⟨c1, Int32.not_le.mp c2⟩])
    · skip
      refine z_ldc (q := 65) dX8_endOf_63 wd_872 rfl ?_
      refine z_goto (tgt := 70) dX8_endOf_65 (by decide) ?_
      refine z_ireturn dX8_endOf_70 rfl rfl ?_ (Nat.le_refl _) (Nat.le_refl _)
      first | (rw [ht, show mEndOf m p w f = mTo m w f from if_neg (fun q => absurd q.2 (Int32.not_lt.mpr c2))]; done) | (rw [show mEndOf m p w f = -1000000 from if_pos ⟨c1, Int32.not_le.mp c2⟩])
set_option maxHeartbeats 4000000 in
set_option maxRecDepth 100000 in
theorem ev_X8_endOf (d : Nat) (m : zm) (p : Nat) (w : Nat) (f : Int32) (hp : p < 4) (hw : w < 8) : zEv (d + 1) zM_X8_endOf 0 0 [.ref 180, .int (nI p), .int (nI w), .int f] (lay m) (some (.int (mEndOf m p w f)), lay (m)) := by
  refine zEv_of (by decide) (fun G => Nat.le_of_ble_eq_true rfl) ?_
  show ZW _ _ _ _ 0 [some (.ref 180), some (.int (nI p)), some (.int (nI w)), some (.int f), none] [] _ _ _ _
  refine z_aload_n (i := 0) (q := 1) dX8_endOf_0 rfl rfl rfl ?_
  refine z_iload_n (i := 2) (q := 2) dX8_endOf_1 rfl rfl rfl ?_
  refine z_iconst (v := 0) (q := 3) dX8_endOf_2 (by decide) rfl ?_
  refine m_callV_r (As := [_, _]) (q := 6) mk_X8_wayOf dX8_endOf_3 wd_955 wd_957 wp_48 (ci := 8) rfl ⟨by decide, _, rfl⟩ (ev_X8_wayOf _ _ w 0 (by omega) (by omega)) rfl (by decide) rfl (Nat.zero_le _) (Nat.zero_le _) rfl ?_
  refine z_iload_n (i := 3) (q := 7) dX8_endOf_6 rfl rfl rfl ?_
  refine z_icmp_ne (tgt := 19) (q := 10) dX8_endOf_7 (by decide) rfl (fun c1 => ?_) (fun c1 => ?_)
  · skip
    refine z_aload_n (i := 0) (q := 20) dX8_endOf_19 rfl rfl rfl ?_
    refine z_iload_n (i := 2) (q := 21) dX8_endOf_20 rfl rfl rfl ?_
    refine z_iconst (v := 1) (q := 22) dX8_endOf_21 (by decide) rfl ?_
    refine m_callV_r (As := [_, _]) (q := 25) mk_X8_wayOf dX8_endOf_22 wd_955 wd_957 wp_48 (ci := 8) rfl ⟨by decide, _, rfl⟩ (ev_X8_wayOf _ _ w 1 (by omega) (by omega)) rfl (by decide) rfl (Nat.zero_le _) (Nat.zero_le _) rfl ?_
    refine z_iload_n (i := 3) (q := 26) dX8_endOf_25 rfl rfl rfl ?_
    refine z_icmp_ne (tgt := 38) (q := 29) dX8_endOf_26 (by decide) rfl (fun c2 => ?_) (fun c2 => ?_)
    · skip
      refine z_ldc (q := 40) dX8_endOf_38 wd_872 rfl ?_
      refine z_istore (i := 4) (ls' := [_, _, _, _, _]) (q := 42) dX8_endOf_40 (by decide) rfl rfl ?_
      exact sg_X8_end d m p w f _ hp hw ((if_neg c1).trans (if_neg c2) : mTo m w f = _).symm
    · skip
      refine z_aload_n (i := 0) (q := 30) dX8_endOf_29 rfl rfl rfl ?_
      refine z_iload_n (i := 2) (q := 31) dX8_endOf_30 rfl rfl rfl ?_
      refine z_iconst (v := 0) (q := 32) dX8_endOf_31 (by decide) rfl ?_
      refine m_callV_r (As := [_, _]) (q := 35) mk_X8_wayOf dX8_endOf_32 wd_955 wd_957 wp_48 (ci := 8) rfl ⟨by decide, _, rfl⟩ (ev_X8_wayOf _ _ w 0 (by omega) (by omega)) rfl (by decide) rfl (Nat.zero_le _) (Nat.zero_le _) rfl ?_
      refine z_goto (tgt := 40) dX8_endOf_35 (by decide) ?_
      refine z_istore (i := 4) (ls' := [_, _, _, _, _]) (q := 42) dX8_endOf_40 (by decide) rfl rfl ?_
      exact sg_X8_end d m p w f _ hp hw ((if_neg c1).trans (if_pos c2) : mTo m w f = _).symm
  · skip
    refine z_aload_n (i := 0) (q := 11) dX8_endOf_10 rfl rfl rfl ?_
    refine z_iload_n (i := 2) (q := 12) dX8_endOf_11 rfl rfl rfl ?_
    refine z_iconst (v := 1) (q := 13) dX8_endOf_12 (by decide) rfl ?_
    refine m_callV_r (As := [_, _]) (q := 16) mk_X8_wayOf dX8_endOf_13 wd_955 wd_957 wp_48 (ci := 8) rfl ⟨by decide, _, rfl⟩ (ev_X8_wayOf _ _ w 1 (by omega) (by omega)) rfl (by decide) rfl (Nat.zero_le _) (Nat.zero_le _) rfl ?_
    refine z_goto (tgt := 40) dX8_endOf_16 (by decide) ?_
    refine z_istore (i := 4) (ls' := [_, _, _, _, _]) (q := 42) dX8_endOf_40 (by decide) rfl rfl ?_
    exact sg_X8_end d m p w f _ hp hw (if_pos c1 : mTo m w f = _).symm
def mAges (m : zm) (p : Nat) (c a : Int32) : zm := upI (upI m 184 (36 + 8 * p + 3) (m.1 184 (36 + 8 * p + 3) + c)) 184 (36 + 8 * p + 4) ((upI m 184 (36 + 8 * p + 3) (m.1 184 (36 + 8 * p + 3) + c)).1 184 (36 + 8 * p + 4) + a)
set_option maxHeartbeats 4000000 in
set_option maxRecDepth 100000 in
theorem ev_X8_ages (d : Nat) (m : zm) (p : Nat) (c : Int32) (a : Int32) (hp : p < 4) : zEv (d) zM_X8_ages 0 0 [.ref 180, .int (nI p), .int c, .int a] (lay m) (none, lay (mAges m p c a)) := by
  refine zEv_of (by decide) (fun G => Nat.le_of_ble_eq_true rfl) ?_
  show ZW _ _ _ _ 0 [some (.ref 180), some (.int (nI p)), some (.int c), some (.int a)] [] _ _ _ _
  refine z_aload_n (i := 0) (q := 1) dX8_ages_0 rfl rfl rfl ?_
  refine m_getR (r := 184) (q := 4) dX8_ages_1 fl_X8_19 ⟨by decide, _, rfl, rfl⟩ rfl ?_
  refine z_bipush (v := 36) (q := 6) dX8_ages_4 (by decide) rfl ?_
  refine z_bipush (v := 8) (q := 8) dX8_ages_6 (by decide) rfl ?_
  refine z_iload_n (i := 1) (q := 9) dX8_ages_8 rfl rfl rfl ?_
  refine z_imul (q := 10) dX8_ages_9 rfl ?_
  rw [show 8 * nI p = nI (8 * p) from nI_mul 8 _]
  refine z_iadd (q := 11) dX8_ages_10 rfl ?_
  rw [show 36 + nI (8 * p) = nI (36 + (8 * p)) from nI_add 36 _]
  refine z_iconst (v := 3) (q := 12) dX8_ages_11 (by decide) rfl ?_
  refine z_iadd (q := 13) dX8_ages_12 rfl ?_
  rw [show nI (36 + (8 * p)) + 3 = nI ((36 + (8 * p)) + 3) from nI_add _ 3]
  refine z_dup2 (q := 14) dX8_ages_13 rfl rfl rfl ?_
  refine m_ialdJ (N := 68) (q := 15) dX8_ages_14 ⟨by decide, _, rfl⟩ (j := ((36 + (8 * p)) + 3)) (nI_clamp (by omega)) (vp_in_nI (by omega) (by decide)) rfl ?_
  refine z_iload_n (i := 2) (q := 16) dX8_ages_15 rfl rfl rfl ?_
  refine z_iadd (q := 17) dX8_ages_16 rfl ?_
  refine m_iastJ (N := 68) (q := 18) dX8_ages_17 ⟨by decide, _, rfl⟩ (j := ((36 + (8 * p)) + 3)) (nI_clamp (by omega)) (vp_in_nI (by omega) (by decide)) rfl ?_
  refine z_aload_n (i := 0) (q := 19) dX8_ages_18 rfl rfl rfl ?_
  refine m_getR (r := 184) (q := 22) dX8_ages_19 fl_X8_19 ⟨by decide, _, rfl, rfl⟩ rfl ?_
  refine z_bipush (v := 36) (q := 24) dX8_ages_22 (by decide) rfl ?_
  refine z_bipush (v := 8) (q := 26) dX8_ages_24 (by decide) rfl ?_
  refine z_iload_n (i := 1) (q := 27) dX8_ages_26 rfl rfl rfl ?_
  refine z_imul (q := 28) dX8_ages_27 rfl ?_
  rw [show 8 * nI p = nI (8 * p) from nI_mul 8 _]
  refine z_iadd (q := 29) dX8_ages_28 rfl ?_
  rw [show 36 + nI (8 * p) = nI (36 + (8 * p)) from nI_add 36 _]
  refine z_iconst (v := 4) (q := 30) dX8_ages_29 (by decide) rfl ?_
  refine z_iadd (q := 31) dX8_ages_30 rfl ?_
  rw [show nI (36 + (8 * p)) + 4 = nI ((36 + (8 * p)) + 4) from nI_add _ 4]
  refine z_dup2 (q := 32) dX8_ages_31 rfl rfl rfl ?_
  refine m_ialdJ (N := 68) (q := 33) dX8_ages_32 ⟨by decide, _, rfl⟩ (j := ((36 + (8 * p)) + 4)) (nI_clamp (by omega)) (vp_in_nI (by omega) (by decide)) rfl ?_
  refine z_iload_n (i := 3) (q := 34) dX8_ages_33 rfl rfl rfl ?_
  refine z_iadd (q := 35) dX8_ages_34 rfl ?_
  refine m_iastJ (N := 68) (q := 36) dX8_ages_35 ⟨by decide, _, rfl⟩ (j := ((36 + (8 * p)) + 4)) (nI_clamp (by omega)) (vp_in_nI (by omega) (by decide)) rfl ?_
  refine z_return dX8_ages_36 rfl ?_ (Nat.le_refl _) (Nat.le_refl _)
  rfl
