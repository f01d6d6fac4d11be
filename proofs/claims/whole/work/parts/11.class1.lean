/-! ===== the class: its small methods ===== -/
set_option maxHeartbeats 4000000 in
set_option maxRecDepth 100000 in
theorem ev_X7_isOutside (d : Nat) (h : zH) (v : Int32) (a : Int32) (b : Int32) : zEv (d) zM_X7_isOutside 0 0 [.int v, .int a, .int b] (h) (some (.int (if v < a ∨ b < v then 1 else 0)), h) := by
  refine zEv_of (by decide) (fun G => Nat.le_of_ble_eq_true rfl) ?_
  show ZW _ _ _ _ 0 [some (.int v), some (.int a), some (.int b)] [] _ _ _ _
  refine z_iload_n (i := 0) (q := 1) dX7_isOutside_0 rfl rfl rfl ?_
  refine z_iload_n (i := 1) (q := 2) dX7_isOutside_1 rfl rfl rfl ?_
  refine z_icmp_lt (tgt := 10) (q := 5) dX7_isOutside_2 (by decide) rfl (fun c1 => ?_) (fun c1 => ?_)
  · skip
    refine z_iconst (v := 1) (q := 11) dX7_isOutside_10 (by decide) rfl ?_
    refine z_goto (tgt := 15) dX7_isOutside_11 (by decide) ?_
    refine z_ireturn dX7_isOutside_15 rfl rfl ?_ (Nat.le_refl _) (Nat.le_refl _)
    simp [c1]
  · skip
    refine z_iload_n (i := 0) (q := 6) dX7_isOutside_5 rfl rfl rfl ?_
    refine z_iload_n (i := 2) (q := 7) dX7_isOutside_6 rfl rfl rfl ?_
    refine z_icmp_le (tgt := 14) (q := 10) dX7_isOutside_7 (by decide) rfl (fun c2 => ?_) (fun c2 => ?_)
    · skip
      refine z_iconst (v := 0) (q := 15) dX7_isOutside_14 (by decide) rfl ?_
      refine z_ireturn dX7_isOutside_15 rfl rfl ?_ (Nat.le_refl _) (Nat.le_refl _)
      simp [c1, c2]
    · skip
      refine z_iconst (v := 1) (q := 11) dX7_isOutside_10 (by decide) rfl ?_
      refine z_goto (tgt := 15) dX7_isOutside_11 (by decide) ?_
      refine z_ireturn dX7_isOutside_15 rfl rfl ?_ (Nat.le_refl _) (Nat.le_refl _)
      simp [c1, c2]
set_option maxHeartbeats 4000000 in
set_option maxRecDepth 100000 in
theorem ev_X7_isNoRow (d : Nat) (h : zH) (r : Int32) : zEv (d + 1) zM_X7_isNoRow 0 0 [.int r] (h) (some (.int (if r < 0 ∨ 7 < r then 1 else 0)), h) := by
  refine zEv_of (by decide) (fun G => Nat.le_of_ble_eq_true rfl) ?_
  show ZW _ _ _ _ 0 [some (.int r)] [] _ _ _ _
  refine z_iload_n (i := 0) (q := 1) dX7_isNoRow_0 rfl rfl rfl ?_
  refine z_iconst (v := 0) (q := 2) dX7_isNoRow_1 (by decide) rfl ?_
  refine z_bipush (v := 7) (q := 4) dX7_isNoRow_2 (by decide) rfl ?_
  refine m_callS_r (As := [_, _, _]) (q := 7) mk_X7_isOutside dX7_isNoRow_4 wd_276 wd_277 (ev_X7_isOutside _ _ _ _ _) rfl (by decide) rfl (Nat.zero_le _) (Nat.zero_le _) rfl ?_
  refine z_ireturn dX7_isNoRow_7 rfl zb_nar ?_ (Nat.le_refl _) (Nat.le_refl _)
  rfl
set_option maxHeartbeats 4000000 in
set_option maxRecDepth 100000 in
theorem ev_X7_isMissing (d : Nat) (m : zm) (r : Int32) (hr : vp_in r 8) : zEv (d) zM_X7_isMissing 0 0 [.ref 0, .int r] (lay m) (some (.int (if m.1 11 r.toNatClampNeg = -1 then 1 else 0)), lay (m)) := by
  refine zEv_of (by decide) (fun G => Nat.le_of_ble_eq_true rfl) ?_
  show ZW _ _ _ _ 0 [some (.ref 0), some (.int r)] [] _ _ _ _
  refine z_aload_n (i := 0) (q := 1) dX7_isMissing_0 rfl rfl rfl ?_
  refine m_getR (r := 11) (q := 4) dX7_isMissing_1 fl_X7_18 ⟨by decide, _, rfl, rfl⟩ rfl ?_
  refine z_iload_n (i := 1) (q := 5) dX7_isMissing_4 rfl rfl rfl ?_
  refine m_iald (N := 8) (q := 6) dX7_isMissing_5 ⟨by decide, _, rfl⟩ hr rfl ?_
  refine z_iconst (v := (-1)) (q := 7) dX7_isMissing_6 (by decide) rfl ?_
  refine z_icmp_ne (tgt := 14) (q := 10) dX7_isMissing_7 (by decide) rfl (fun c1 => ?_) (fun c1 => ?_)
  · skip
    refine z_iconst (v := 0) (q := 15) dX7_isMissing_14 (by decide) rfl ?_
    refine z_ireturn dX7_isMissing_15 rfl rfl ?_ (Nat.le_refl _) (Nat.le_refl _)
    simp [c1]
  · skip
    refine z_iconst (v := 1) (q := 11) dX7_isMissing_10 (by decide) rfl ?_
    refine z_goto (tgt := 15) dX7_isMissing_11 (by decide) ?_
    refine z_ireturn dX7_isMissing_15 rfl rfl ?_ (Nat.le_refl _) (Nat.le_refl _)
    simp [c1]
set_option maxHeartbeats 4000000 in
set_option maxRecDepth 100000 in
theorem ev_X7_found (d : Nat) (m : zm) (z : Int32) : zEv (d) zM_X7_found 0 0 [.ref 0, .int z] (lay m) (some (.int (-1000010 - z)), lay (upI m 0 3 z)) := by
  refine zEv_of (by decide) (fun G => Nat.le_of_ble_eq_true rfl) ?_
  show ZW _ _ _ _ 0 [some (.ref 0), some (.int z)] [] _ _ _ _
  refine z_aload_n (i := 0) (q := 1) dX7_found_0 rfl rfl rfl ?_
  refine z_iload_n (i := 1) (q := 2) dX7_found_1 rfl rfl rfl ?_
  refine m_putI (q := 5) dX7_found_2 fp_X7_21 ⟨by decide, _, rfl, rfl⟩ ⟨rfl, rfl⟩ rfl ?_
  refine z_ldcw (q := 8) dX7_found_5 wd_284 rfl ?_
  refine z_iload_n (i := 1) (q := 9) dX7_found_8 rfl rfl rfl ?_
  refine z_isub (q := 10) dX7_found_9 rfl ?_
  refine z_ireturn dX7_found_10 rfl rfl ?_ (Nat.le_refl _) (Nat.le_refl _)
  rfl
set_option maxHeartbeats 4000000 in
set_option maxRecDepth 100000 in
theorem ev_X7_foundNothing (d : Nat) (m : zm) (z : Int32) : zEv (d) zM_X7_foundNothing 0 0 [.ref 0, .int z] (lay m) (some (.int (z)), lay (upI m 0 3 0)) := by
  refine zEv_of (by decide) (fun G => Nat.le_of_ble_eq_true rfl) ?_
  show ZW _ _ _ _ 0 [some (.ref 0), some (.int z)] [] _ _ _ _
  refine z_aload_n (i := 0) (q := 1) dX7_foundNothing_0 rfl rfl rfl ?_
  refine z_iconst (v := 0) (q := 2) dX7_foundNothing_1 (by decide) rfl ?_
  refine m_putI (q := 5) dX7_foundNothing_2 fp_X7_21 ⟨by decide, _, rfl, rfl⟩ ⟨rfl, rfl⟩ rfl ?_
  refine z_iload_n (i := 1) (q := 6) dX7_foundNothing_5 rfl rfl rfl ?_
  refine z_ireturn dX7_foundNothing_6 rfl rfl ?_ (Nat.le_refl _) (Nat.le_refl _)
  rfl
set_option maxHeartbeats 4000000 in
set_option maxRecDepth 100000 in
theorem ev_X7_isNobody (d : Nat) (m : zm) (p : Int32) : zEv (d + 1) zM_X7_isNobody 0 0 [.ref 0, .int p] (lay m) (some (.int (if p < 0 ∨ m.1 14 3 - 1 < p then 1 else 0)), lay (m)) := by
  refine zEv_of (by decide) (fun G => Nat.le_of_ble_eq_true rfl) ?_
  show ZW _ _ _ _ 0 [some (.ref 0), some (.int p)] [] _ _ _ _
  refine z_iload_n (i := 1) (q := 1) dX7_isNobody_0 rfl rfl rfl ?_
  refine z_iconst (v := 0) (q := 2) dX7_isNobody_1 (by decide) rfl ?_
  refine z_aload_n (i := 0) (q := 3) dX7_isNobody_2 rfl rfl rfl ?_
  refine m_getR (r := 14) (q := 6) dX7_isNobody_3 fl_X7_42 ⟨by decide, _, rfl, rfl⟩ rfl ?_
  refine m_getI (q := 9) dX7_isNobody_6 fl_X7_138 ⟨by decide, _, rfl, rfl⟩ rfl ?_
  refine z_iconst (v := 1) (q := 10) dX7_isNobody_9 (by decide) rfl ?_
  refine z_isub (q := 11) dX7_isNobody_10 rfl ?_
  refine m_callS_r (As := [_, _, _]) (q := 14) mk_X7_isOutside dX7_isNobody_11 wd_276 wd_277 (ev_X7_isOutside _ _ _ _ _) rfl (by decide) rfl (Nat.zero_le _) (Nat.zero_le _) rfl ?_
  refine z_ireturn dX7_isNobody_14 rfl zb_nar ?_ (Nat.le_refl _) (Nat.le_refl _)
  rfl
set_option maxHeartbeats 4000000 in
set_option maxRecDepth 100000 in
theorem ev_X7_isNoWay (d : Nat) (m : zm) (w : Int32) : zEv (d + 1) zM_X7_isNoWay 0 0 [.ref 0, .int w] (lay m) (some (.int (if w < 0 ∨ m.1 14 2 - 1 < w then 1 else 0)), lay (m)) := by
  refine zEv_of (by decide) (fun G => Nat.le_of_ble_eq_true rfl) ?_
  show ZW _ _ _ _ 0 [some (.ref 0), some (.int w)] [] _ _ _ _
  refine z_iload_n (i := 1) (q := 1) dX7_isNoWay_0 rfl rfl rfl ?_
  refine z_iconst (v := 0) (q := 2) dX7_isNoWay_1 (by decide) rfl ?_
  refine z_aload_n (i := 0) (q := 3) dX7_isNoWay_2 rfl rfl rfl ?_
  refine m_getR (r := 14) (q := 6) dX7_isNoWay_3 fl_X7_42 ⟨by decide, _, rfl, rfl⟩ rfl ?_
  refine m_getI (q := 9) dX7_isNoWay_6 fl_X7_264 ⟨by decide, _, rfl, rfl⟩ rfl ?_
  refine z_iconst (v := 1) (q := 10) dX7_isNoWay_9 (by decide) rfl ?_
  refine z_isub (q := 11) dX7_isNoWay_10 rfl ?_
  refine m_callS_r (As := [_, _, _]) (q := 14) mk_X7_isOutside dX7_isNoWay_11 wd_276 wd_277 (ev_X7_isOutside _ _ _ _ _) rfl (by decide) rfl (Nat.zero_le _) (Nat.zero_le _) rfl ?_
  refine z_ireturn dX7_isNoWay_14 rfl zb_nar ?_ (Nat.le_refl _) (Nat.le_refl _)
  rfl
set_option maxHeartbeats 4000000 in
set_option maxRecDepth 100000 in
theorem ev_X7_isNoHarbour (d : Nat) (m : zm) (w : Int32) : zEv (d + 1) zM_X7_isNoHarbour 0 0 [.ref 0, .int w] (lay m) (some (.int (if w < 0 ∨ m.1 14 0 - 1 < w then 1 else 0)), lay (m)) := by
  refine zEv_of (by decide) (fun G => Nat.le_of_ble_eq_true rfl) ?_
  show ZW _ _ _ _ 0 [some (.ref 0), some (.int w)] [] _ _ _ _
  refine z_iload_n (i := 1) (q := 1) dX7_isNoHarbour_0 rfl rfl rfl ?_
  refine z_iconst (v := 0) (q := 2) dX7_isNoHarbour_1 (by decide) rfl ?_
  refine z_aload_n (i := 0) (q := 3) dX7_isNoHarbour_2 rfl rfl rfl ?_
  refine m_getR (r := 14) (q := 6) dX7_isNoHarbour_3 fl_X7_42 ⟨by decide, _, rfl, rfl⟩ rfl ?_
  refine m_getI (q := 9) dX7_isNoHarbour_6 fl_X7_236 ⟨by decide, _, rfl, rfl⟩ rfl ?_
  refine z_iconst (v := 1) (q := 10) dX7_isNoHarbour_9 (by decide) rfl ?_
  refine z_isub (q := 11) dX7_isNoHarbour_10 rfl ?_
  refine m_callS_r (As := [_, _, _]) (q := 14) mk_X7_isOutside dX7_isNoHarbour_11 wd_276 wd_277 (ev_X7_isOutside _ _ _ _ _) rfl (by decide) rfl (Nat.zero_le _) (Nat.zero_le _) rfl ?_
  refine z_ireturn dX7_isNoHarbour_14 rfl zb_nar ?_ (Nat.le_refl _) (Nat.le_refl _)
  rfl
