/-! ===== the class: league ===== -/
def cLg (m : zm) : zm := upI (upI (upI (cStands (upI m 12 1 0) 14 29) 0 6 1) 46 1 0) 46 2 0
set_option maxHeartbeats 4000000 in
set_option maxRecDepth 100000 in
theorem sg_X7_lgbad (d : Nat) (m : zm) (hf : ¬ (upI m 12 1 0).1 12 6 = 0) : ZW zM_X7_league (d + 8) 0 0 11 [some (.ref 0)] [] (lay m) 0 0 (some (.int (-1000100 - (upI m 12 1 0).1 12 7)), lay (upI (upI m 12 1 0) 0 5 ((upI m 12 1 0).1 12 6))) := by
  refine z_aload_n (i := 0) (q := 12) dX7_league_11 rfl rfl rfl ?_
  refine m_getR (r := 12) (q := 15) dX7_league_12 fl_X7_28 ⟨by decide, _, rfl, rfl⟩ rfl ?_
  refine z_iconst (v := 0) (q := 16) dX7_league_15 (by decide) rfl ?_
  refine m_putI (q := 19) dX7_league_16 fp_X7_113 ⟨by decide, _, rfl, rfl⟩ ⟨rfl, rfl⟩ rfl ?_
  refine z_aload_n (i := 0) (q := 20) dX7_league_19 rfl rfl rfl ?_
  refine m_getR (r := 12) (q := 23) dX7_league_20 fl_X7_28 ⟨by decide, _, rfl, rfl⟩ rfl ?_
  refine m_getI (q := 26) dX7_league_23 fl_X7_125 ⟨by decide, _, rfl, rfl⟩ rfl ?_
  refine z_if_eq (tgt := 51) (q := 29) dX7_league_26 (by decide) rfl (fun c1 => ?_) (fun c1 => ?_)
  · exact absurd c1 hf
  · skip
    refine z_aload_n (i := 0) (q := 30) dX7_league_29 rfl rfl rfl ?_
    refine z_aload_n (i := 0) (q := 31) dX7_league_30 rfl rfl rfl ?_
    refine m_getR (r := 12) (q := 34) dX7_league_31 fl_X7_28 ⟨by decide, _, rfl, rfl⟩ rfl ?_
    refine m_getI (q := 37) dX7_league_34 fl_X7_125 ⟨by decide, _, rfl, rfl⟩ rfl ?_
    refine m_putI (q := 40) dX7_league_37 fp_X7_32 ⟨by decide, _, rfl, rfl⟩ ⟨rfl, rfl⟩ rfl ?_
    refine z_ldc (q := 42) dX7_league_40 wd_446 rfl ?_
    refine z_aload_n (i := 0) (q := 43) dX7_league_42 rfl rfl rfl ?_
    refine m_getR (r := 12) (q := 46) dX7_league_43 fl_X7_28 ⟨by decide, _, rfl, rfl⟩ rfl ?_
    refine m_getI (q := 49) dX7_league_46 fl_X7_129 ⟨by decide, _, rfl, rfl⟩ rfl ?_
    refine z_isub (q := 50) dX7_league_49 rfl ?_
    refine z_ireturn dX7_league_50 rfl rfl ?_ (Nat.le_refl _) (Nat.le_refl _)
    rfl
set_option maxHeartbeats 4000000 in
set_option maxRecDepth 100000 in
theorem sg_X7_lgok (d : Nat) (m : zm) (hf : (upI m 12 1 0).1 12 6 = 0) : ZW zM_X7_league (d + 8) 0 0 11 [some (.ref 0)] [] (lay m) 0 0 (some (.int ((cLg m).1 14 3)), lay (cLg m)) := by
  refine z_aload_n (i := 0) (q := 12) dX7_league_11 rfl rfl rfl ?_
  refine m_getR (r := 12) (q := 15) dX7_league_12 fl_X7_28 ⟨by decide, _, rfl, rfl⟩ rfl ?_
  refine z_iconst (v := 0) (q := 16) dX7_league_15 (by decide) rfl ?_
  refine m_putI (q := 19) dX7_league_16 fp_X7_113 ⟨by decide, _, rfl, rfl⟩ ⟨rfl, rfl⟩ rfl ?_
  refine z_aload_n (i := 0) (q := 20) dX7_league_19 rfl rfl rfl ?_
  refine m_getR (r := 12) (q := 23) dX7_league_20 fl_X7_28 ⟨by decide, _, rfl, rfl⟩ rfl ?_
  refine m_getI (q := 26) dX7_league_23 fl_X7_125 ⟨by decide, _, rfl, rfl⟩ rfl ?_
  refine z_if_eq (tgt := 51) (q := 29) dX7_league_26 (by decide) rfl (fun c1 => ?_) (fun c1 => ?_)
  · skip
    refine z_aload_n (i := 0) (q := 52) dX7_league_51 rfl rfl rfl ?_
    refine m_getR (r := 14) (q := 55) dX7_league_52 fl_X7_42 ⟨by decide, _, rfl, rfl⟩ rfl ?_
    refine z_aload_n (i := 0) (q := 56) dX7_league_55 rfl rfl rfl ?_
    refine m_getR (r := 29) (q := 59) dX7_league_56 fl_X7_46 ⟨by decide, _, rfl, rfl⟩ rfl ?_
    refine m_callV_v (As := [_]) (q := 62) mk_X3_standsAs dX7_league_59 wd_447 wd_448 wd_449 (ci := 3) rfl ⟨by decide, _, rfl⟩ (ev_X3_standsAs _ _ _ _ isLea_14 isLea_29) rfl (by decide) rfl (Nat.zero_le _) (Nat.zero_le _) rfl ?_
    refine z_aload_n (i := 0) (q := 63) dX7_league_62 rfl rfl rfl ?_
    refine z_iconst (v := 1) (q := 64) dX7_league_63 (by decide) rfl ?_
    refine m_putI (q := 67) dX7_league_64 fp_X7_35 ⟨by decide, _, rfl, rfl⟩ ⟨rfl, rfl⟩ rfl ?_
    refine z_aload_n (i := 0) (q := 68) dX7_league_67 rfl rfl rfl ?_
    refine m_getR (r := 46) (q := 71) dX7_league_68 fl_X7_60 ⟨by decide, _, rfl, rfl⟩ rfl ?_
    refine m_callV_v (As := []) (q := 74) mk_X0_forget dX7_league_71 wd_459 wd_460 wd_461 (ci := 0) rfl ⟨by decide, _, rfl⟩ (ev_X0_forget _ _) rfl (by decide) rfl (Nat.zero_le _) (Nat.zero_le _) rfl ?_
    refine z_aload_n (i := 0) (q := 75) dX7_league_74 rfl rfl rfl ?_
    refine m_getR (r := 14) (q := 78) dX7_league_75 fl_X7_42 ⟨by decide, _, rfl, rfl⟩ rfl ?_
    refine m_getI (q := 81) dX7_league_78 fl_X7_138 ⟨by decide, _, rfl, rfl⟩ rfl ?_
    refine z_ireturn dX7_league_81 rfl rfl ?_ (Nat.le_refl _) (Nat.le_refl _)
    rfl
  · exact absurd hf c1
set_option maxHeartbeats 4000000 in
set_option maxRecDepth 100000 in
theorem ev_X7_league_bad (d : Nat) (m : zm) (t : Nat) (ht : m.1 12 1 = nI t) (ht4 : t ≤ 400) (hf : ¬ (upI (cLeague m t) 12 1 0).1 12 6 = 0) : zEv (d + 8) zM_X7_league 0 0 [.ref 0] (lay m) (some (.int (-1000100 - (upI (cLeague m t) 12 1 0).1 12 7)), lay (upI (upI (cLeague m t) 12 1 0) 0 5 ((upI (cLeague m t) 12 1 0).1 12 6))) := by
  refine zEv_of (by decide) (fun G => Nat.le_of_ble_eq_true rfl) ?_
  show ZW _ _ _ _ 0 [some (.ref 0)] [] _ _ _ _
  refine z_aload_n (i := 0) (q := 1) dX7_league_0 rfl rfl rfl ?_
  refine m_getR (r := 12) (q := 4) dX7_league_1 fl_X7_28 ⟨by decide, _, rfl, rfl⟩ rfl ?_
  refine z_aload_n (i := 0) (q := 5) dX7_league_4 rfl rfl rfl ?_
  refine m_getR (r := 29) (q := 8) dX7_league_5 fl_X7_46 ⟨by decide, _, rfl, rfl⟩ rfl ?_
  refine m_callV_v (As := [_]) (q := 11) mk_X5_readLeague dX7_league_8 wd_329 wd_330 wd_331 (ci := 5) rfl ⟨by decide, _, rfl⟩ (ev_X5_readLeague _ _ t ht ht4) rfl (by decide) rfl (Nat.zero_le _) (Nat.zero_le _) rfl ?_
  exact sg_X7_lgbad d (cLeague m t) hf
set_option maxHeartbeats 4000000 in
set_option maxRecDepth 100000 in
theorem ev_X7_league_ok (d : Nat) (m : zm) (t : Nat) (ht : m.1 12 1 = nI t) (ht4 : t ≤ 400) (hf : (upI (cLeague m t) 12 1 0).1 12 6 = 0) : zEv (d + 8) zM_X7_league 0 0 [.ref 0] (lay m) (some (.int ((cLg (cLeague m t)).1 14 3)), lay (cLg (cLeague m t))) := by
  refine zEv_of (by decide) (fun G => Nat.le_of_ble_eq_true rfl) ?_
  show ZW _ _ _ _ 0 [some (.ref 0)] [] _ _ _ _
  refine z_aload_n (i := 0) (q := 1) dX7_league_0 rfl rfl rfl ?_
  refine m_getR (r := 12) (q := 4) dX7_league_1 fl_X7_28 ⟨by decide, _, rfl, rfl⟩ rfl ?_
  refine z_aload_n (i := 0) (q := 5) dX7_league_4 rfl rfl rfl ?_
  refine m_getR (r := 29) (q := 8) dX7_league_5 fl_X7_46 ⟨by decide, _, rfl, rfl⟩ rfl ?_
  refine m_callV_v (As := [_]) (q := 11) mk_X5_readLeague dX7_league_8 wd_329 wd_330 wd_331 (ci := 5) rfl ⟨by decide, _, rfl⟩ (ev_X5_readLeague _ _ t ht ht4) rfl (by decide) rfl (Nat.zero_le _) (Nat.zero_le _) rfl ?_
  exact sg_X7_lgok d (cLeague m t) hf
