/-! ===== the class: its small methods ===== -/
set_option maxHeartbeats 4000000 in
set_option maxRecDepth 100000 in
theorem ev_X7_isOutside (d : Nat) (h : zH) (v : Int32) (a : Int32) (b : Int32) : zEv (d) zM_X7_isOutside 0 0 [.int v, .int a, .int b] (h) (some (.int (if v < a ∨ b < v then 1 else 0)), h) := by
  refine zEv_of (by decide) (fun G => Nat.le_of_ble_eq_true rfl) ?_
  show ZW _ _ _ _ 0 [some (.int v), some (.int a), some (.int b)] [] _ _ _ _
  refine z_iload_n (i := 0) (q := 1) dX7_isOutside_0 rfl rfl rfl ?_
  refine z_iload_n (i := 1) (q := 2) dX7_isOutside_1 rfl rfl rfl ?_
  refine z_icmp_lt (tgt := 10) (q := 5) dX7_isOutside_2 (by decide) rfl (fun c1 => ?_) (fun c1 => ?_)
  · skip
    refine z_iconst (v := 1) (q := 11) dX7_isOutside_10 (by decide) rfl ?_
    refine z_goto (tgt := 15) dX7_isOutside_11 (by decide) ?_
    refine z_ireturn dX7_isOutside_15 rfl rfl ?_ (Nat.le_refl _) (Nat.le_refl _)
    simp [c1]
  · skip
    refine z_iload_n (i := 0) (q := 6) dX7_isOutside_5 rfl rfl rfl ?_
    refine z_iload_n (i := 2) (q := 7) dX7_isOutside_6 rfl rfl rfl ?_
    refine z_icmp_le (tgt := 14) (q := 10) dX7_isOutside_7 (by decide) rfl (fun c2 => ?_) (fun c2 => ?_)
    · skip
      refine z_iconst (v := 0) (q := 15) dX7_isOutside_14 (by decide) rfl ?_
      refine z_ireturn dX7_isOutside_15 rfl rfl ?_ (Nat.le_refl _) (Nat.le_refl _)
      simp [c1, c2]
    · skip
      refine z_iconst (v := 1) (q := 11) dX7_isOutside_10 (by decide) rfl ?_
      refine z_goto (tgt := 15) dX7_isOutside_11 (by decide) ?_
      refine z_ireturn dX7_isOutside_15 rfl rfl ?_ (Nat.le_refl _) (Nat.le_refl _)
      simp [c1, c2]
set_option maxHeartbeats 4000000 in
set_option maxRecDepth 100000 in
theorem ev_X7_isNoRow (d : Nat) (h : zH) (r : Int32) : zEv (d + 1) zM_X7_isNoRow 0 0 [.int r] (h) (some (.int (if r < 0 ∨ 7 < r then 1 else 0)), h) := by
  refine zEv_of (by decide) (fun G => Nat.le_of_ble_eq_true rfl) ?_
  show ZW _ _ _ _ 0 [some (.int r)] [] _ _ _ _
  refine z_iload_n (i := 0) (q := 1) dX7_isNoRow_0 rfl rfl rfl ?_
  refine z_iconst (v := 0) (q := 2) dX7_isNoRow_1 (by decide) rfl ?_
  refine z_bipush (v := 7) (q := 4) dX7_isNoRow_2 (by decide) rfl ?_
  refine m_callS_r (As := [_, _, _]) (q := 7) mk_X7_isOutside dX7_isNoRow_4 wd_276 wd_277 (ev_X7_isOutside _ _ _ _ _) rfl (by decide) rfl (Nat.zero_le _) (Nat.zero_le _) rfl ?_
  refine z_ireturn dX7_isNoRow_7 rfl zb_nar ?_ (Nat.le_refl _) (Nat.le_refl _)
  rfl
set_option maxHeartbeats 4000000 in
set_option maxRecDepth 100000 in
theorem ev_X7_isMissing (d : Nat) (m : zm) (r : Nat) (hr : r < 8) : zEv (d) zM_X7_isMissing 0 0 [.ref 0, .int (nI r)] (lay m) (some (.int (if m.1 11 r = -1 then 1 else 0)), lay (m)) := by
  refine zEv_of (by decide) (fun G => Nat.le_of_ble_eq_true rfl) ?_
  show ZW _ _ _ _ 0 [some (.ref 0), some (.int (nI r))] [] _ _ _ _
  refine z_aload_n (i := 0) (q := 1) dX7_isMissing_0 rfl rfl rfl ?_
  refine m_getR (r := 11) (q := 4) dX7_isMissing_1 fl_X7_18 ⟨by decide, _, rfl, rfl⟩ rfl ?_
  refine z_iload_n (i := 1) (q := 5) dX7_isMissing_4 rfl rfl rfl ?_
  refine m_ialdJ (N := 8) (q := 6) dX7_isMissing_5 ⟨by decide, _, rfl⟩ (j := r) (nI_clamp (by omega)) (vp_in_nI (by omega) (by decide)) rfl ?_
  refine z_iconst (v := (-1)) (q := 7) dX7_isMissing_6 (by decide) rfl ?_
  refine z_icmp_ne (tgt := 14) (q := 10) dX7_isMissing_7 (by decide) rfl (fun c1 => ?_) (fun c1 => ?_)
  · skip
    refine z_iconst (v := 0) (q := 15) dX7_isMissing_14 (by decide) rfl ?_
    refine z_ireturn dX7_isMissing_15 rfl rfl ?_ (Nat.le_refl _) (Nat.le_refl _)
    simp [c1]
  · skip
    refine z_iconst (v := 1) (q := 11) dX7_isMissing_10 (by decide) rfl ?_
    refine z_goto (tgt := 15) dX7_isMissing_11 (by decide) ?_
    refine z_ireturn dX7_isMissing_15 rfl rfl ?_ (Nat.le_refl _) (Nat.le_refl _)
    simp [c1]
set_option maxHeartbeats 4000000 in
set_option maxRecDepth 100000 in
theorem ev_X7_found (d : Nat) (m : zm) (z : Int32) : zEv (d) zM_X7_found 0 0 [.ref 0, .int z] (lay m) (some (.int (-1000010 - z)), lay (upI m 0 3 z)) := by
  refine zEv_of (by decide) (fun G => Nat.le_of_ble_eq_true rfl) ?_
  show ZW _ _ _ _ 0 [some (.ref 0), some (.int z)] [] _ _ _ _
  refine z_aload_n (i := 0) (q := 1) dX7_found_0 rfl rfl rfl ?_
  refine z_iload_n (i := 1) (q := 2) dX7_found_1 rfl rfl rfl ?_
  refine m_putI (q := 5) dX7_found_2 fp_X7_21 ⟨by decide, _, rfl, rfl⟩ ⟨rfl, rfl⟩ rfl ?_
  refine z_ldcw (q := 8) dX7_found_5 wd_284 rfl ?_
  refine z_iload_n (i := 1) (q := 9) dX7_found_8 rfl rfl rfl ?_
  refine z_isub (q := 10) dX7_found_9 rfl ?_
  refine z_ireturn dX7_found_10 rfl rfl ?_ (Nat.le_refl _) (Nat.le_refl _)
  rfl
set_option maxHeartbeats 4000000 in
set_option maxRecDepth 100000 in
theorem ev_X7_foundNothing (d : Nat) (m : zm) (z : Int32) : zEv (d) zM_X7_foundNothing 0 0 [.ref 0, .int z] (lay m) (some (.int (z)), lay (upI m 0 3 0)) := by
  refine zEv_of (by decide) (fun G => Nat.le_of_ble_eq_true rfl) ?_
  show ZW _ _ _ _ 0 [some (.ref 0), some (.int z)] [] _ _ _ _
  refine z_aload_n (i := 0) (q := 1) dX7_foundNothing_0 rfl rfl rfl ?_
  refine z_iconst (v := 0) (q := 2) dX7_foundNothing_1 (by decide) rfl ?_
  refine m_putI (q := 5) dX7_foundNothing_2 fp_X7_21 ⟨by decide, _, rfl, rfl⟩ ⟨rfl, rfl⟩ rfl ?_
  refine z_iload_n (i := 1) (q := 6) dX7_foundNothing_5 rfl rfl rfl ?_
  refine z_ireturn dX7_foundNothing_6 rfl rfl ?_ (Nat.le_refl _) (Nat.le_refl _)
  rfl
set_option maxHeartbeats 4000000 in
set_option maxRecDepth 100000 in
theorem ev_X7_isNobody (d : Nat) (m : zm) (p : Int32) : zEv (d + 1) zM_X7_isNobody 0 0 [.ref 0, .int p] (lay m) (some (.int (if p < 0 ∨ m.1 14 3 - 1 < p then 1 else 0)), lay (m)) := by
  refine zEv_of (by decide) (fun G => Nat.le_of_ble_eq_true rfl) ?_
  show ZW _ _ _ _ 0 [some (.ref 0), some (.int p)] [] _ _ _ _
  refine z_iload_n (i := 1) (q := 1) dX7_isNobody_0 rfl rfl rfl ?_
  refine z_iconst (v := 0) (q := 2) dX7_isNobody_1 (by decide) rfl ?_
  refine z_aload_n (i := 0) (q := 3) dX7_isNobody_2 rfl rfl rfl ?_
  refine m_getR (r := 14) (q := 6) dX7_isNobody_3 fl_X7_42 ⟨by decide, _, rfl, rfl⟩ rfl ?_
  refine m_getI (q := 9) dX7_isNobody_6 fl_X7_138 ⟨by decide, _, rfl, rfl⟩ rfl ?_
  refine z_iconst (v := 1) (q := 10) dX7_isNobody_9 (by decide) rfl ?_
  refine z_isub (q := 11) dX7_isNobody_10 rfl ?_
  refine m_callS_r (As := [_, _, _]) (q := 14) mk_X7_isOutside dX7_isNobody_11 wd_276 wd_277 (ev_X7_isOutside _ _ _ _ _) rfl (by decide) rfl (Nat.zero_le _) (Nat.zero_le _) rfl ?_
  refine z_ireturn dX7_isNobody_14 rfl zb_nar ?_ (Nat.le_refl _) (Nat.le_refl _)
  rfl
set_option maxHeartbeats 4000000 in
set_option maxRecDepth 100000 in
theorem ev_X7_isNoWay (d : Nat) (m : zm) (w : Int32) : zEv (d + 1) zM_X7_isNoWay 0 0 [.ref 0, .int w] (lay m) (some (.int (if w < 0 ∨ m.1 14 2 - 1 < w then 1 else 0)), lay (m)) := by
  refine zEv_of (by decide) (fun G => Nat.le_of_ble_eq_true rfl) ?_
  show ZW _ _ _ _ 0 [some (.ref 0), some (.int w)] [] _ _ _ _
  refine z_iload_n (i := 1) (q := 1) dX7_isNoWay_0 rfl rfl rfl ?_
  refine z_iconst (v := 0) (q := 2) dX7_isNoWay_1 (by decide) rfl ?_
  refine z_aload_n (i := 0) (q := 3) dX7_isNoWay_2 rfl rfl rfl ?_
  refine m_getR (r := 14) (q := 6) dX7_isNoWay_3 fl_X7_42 ⟨by decide, _, rfl, rfl⟩ rfl ?_
  refine m_getI (q := 9) dX7_isNoWay_6 fl_X7_264 ⟨by decide, _, rfl, rfl⟩ rfl ?_
  refine z_iconst (v := 1) (q := 10) dX7_isNoWay_9 (by decide) rfl ?_
  refine z_isub (q := 11) dX7_isNoWay_10 rfl ?_
  refine m_callS_r (As := [_, _, _]) (q := 14) mk_X7_isOutside dX7_isNoWay_11 wd_276 wd_277 (ev_X7_isOutside _ _ _ _ _) rfl (by decide) rfl (Nat.zero_le _) (Nat.zero_le _) rfl ?_
  refine z_ireturn dX7_isNoWay_14 rfl zb_nar ?_ (Nat.le_refl _) (Nat.le_refl _)
  rfl
set_option maxHeartbeats 4000000 in
set_option maxRecDepth 100000 in
theorem ev_X7_isNoHarbour (d : Nat) (m : zm) (w : Int32) : zEv (d + 1) zM_X7_isNoHarbour 0 0 [.ref 0, .int w] (lay m) (some (.int (if w < 0 ∨ m.1 14 0 - 1 < w then 1 else 0)), lay (m)) := by
  refine zEv_of (by decide) (fun G => Nat.le_of_ble_eq_true rfl) ?_
  show ZW _ _ _ _ 0 [some (.ref 0), some (.int w)] [] _ _ _ _
  refine z_iload_n (i := 1) (q := 1) dX7_isNoHarbour_0 rfl rfl rfl ?_
  refine z_iconst (v := 0) (q := 2) dX7_isNoHarbour_1 (by decide) rfl ?_
  refine z_aload_n (i := 0) (q := 3) dX7_isNoHarbour_2 rfl rfl rfl ?_
  refine m_getR (r := 14) (q := 6) dX7_isNoHarbour_3 fl_X7_42 ⟨by decide, _, rfl, rfl⟩ rfl ?_
  refine m_getI (q := 9) dX7_isNoHarbour_6 fl_X7_236 ⟨by decide, _, rfl, rfl⟩ rfl ?_
  refine z_iconst (v := 1) (q := 10) dX7_isNoHarbour_9 (by decide) rfl ?_
  refine z_isub (q := 11) dX7_isNoHarbour_10 rfl ?_
  refine m_callS_r (As := [_, _, _]) (q := 14) mk_X7_isOutside dX7_isNoHarbour_11 wd_276 wd_277 (ev_X7_isOutside _ _ _ _ _) rfl (by decide) rfl (Nat.zero_le _) (Nat.zero_le _) rfl ?_
  refine z_ireturn dX7_isNoHarbour_14 rfl zb_nar ?_ (Nat.le_refl _) (Nat.le_refl _)
  rfl
set_option maxHeartbeats 4000000 in
set_option maxRecDepth 100000 in
theorem ev_X7_isBeyond (d : Nat) (m : zm) (r : Nat) (i : Int32) (z : Int32) (hr : r < 8) : zEv (d) zM_X7_isBeyond 0 0 [.ref 0, .int (nI r), .int i, .int z] (lay m) (some (.int (if i < 0 ∨ z < 0 ∨ (m.1 11 r).toInt64 < i.toInt64 + z.toInt64 then 1 else 0)), lay (m)) := by
  refine zEv_of (by decide) (fun G => Nat.le_of_ble_eq_true rfl) ?_
  show ZW _ _ _ _ 0 [some (.ref 0), some (.int (nI r)), some (.int i), some (.int z)] [] _ _ _ _
  refine z_iload_n (i := 2) (q := 1) dX7_isBeyond_0 rfl rfl rfl ?_
  refine z_if_lt (tgt := 24) (q := 4) dX7_isBeyond_1 (by decide) rfl (fun c1 => ?_) (fun c1 => ?_)
  · skip
    refine z_iconst (v := 1) (q := 25) dX7_isBeyond_24 (by decide) rfl ?_
    refine z_goto (tgt := 29) dX7_isBeyond_25 (by decide) ?_
    refine z_ireturn dX7_isBeyond_29 rfl rfl ?_ (Nat.le_refl _) (Nat.le_refl _)
    simp [c1]
  · skip
    refine z_iload_n (i := 3) (q := 5) dX7_isBeyond_4 rfl rfl rfl ?_
    refine z_if_lt (tgt := 24) (q := 8) dX7_isBeyond_5 (by decide) rfl (fun c2 => ?_) (fun c2 => ?_)
    · skip
      refine z_iconst (v := 1) (q := 25) dX7_isBeyond_24 (by decide) rfl ?_
      refine z_goto (tgt := 29) dX7_isBeyond_25 (by decide) ?_
      refine z_ireturn dX7_isBeyond_29 rfl rfl ?_ (Nat.le_refl _) (Nat.le_refl _)
      simp [c1, c2]
    · skip
      refine z_iload_n (i := 2) (q := 9) dX7_isBeyond_8 rfl rfl rfl ?_
      refine z_i2l (q := 10) dX7_isBeyond_9 rfl ?_
      refine z_iload_n (i := 3) (q := 11) dX7_isBeyond_10 rfl rfl rfl ?_
      refine z_i2l (q := 12) dX7_isBeyond_11 rfl ?_
      refine z_ladd (q := 13) dX7_isBeyond_12 rfl ?_
      refine z_aload_n (i := 0) (q := 14) dX7_isBeyond_13 rfl rfl rfl ?_
      refine m_getR (r := 11) (q := 17) dX7_isBeyond_14 fl_X7_18 ⟨by decide, _, rfl, rfl⟩ rfl ?_
      refine z_iload_n (i := 1) (q := 18) dX7_isBeyond_17 rfl rfl rfl ?_
      refine m_ialdJ (N := 8) (q := 19) dX7_isBeyond_18 ⟨by decide, _, rfl⟩ (j := r) (nI_clamp (by omega)) (vp_in_nI (by omega) (by decide)) rfl ?_
      refine z_i2l (q := 20) dX7_isBeyond_19 rfl ?_
      refine z_lcmp (q := 21) dX7_isBeyond_20 rfl ?_
      refine zl_le (tgt := 28) (q := 24) dX7_isBeyond_21 (by decide) rfl (fun c3 => ?_) (fun c3 => ?_)
      · skip
        refine z_iconst (v := 0) (q := 29) dX7_isBeyond_28 (by decide) rfl ?_
        refine z_ireturn dX7_isBeyond_29 rfl rfl ?_ (Nat.le_refl _) (Nat.le_refl _)
        simp [c1, c2, c3]
      · skip
        refine z_iconst (v := 1) (q := 25) dX7_isBeyond_24 (by decide) rfl ?_
        refine z_goto (tgt := 29) dX7_isBeyond_25 (by decide) ?_
        refine z_ireturn dX7_isBeyond_29 rfl rfl ?_ (Nat.le_refl _) (Nat.le_refl _)
        simp [c1, c2, c3]
set_option maxHeartbeats 4000000 in
set_option maxRecDepth 100000 in
theorem ev_X7_lowestBits (d : Nat) (h : zH) (l : Int32) (v : Int32) : zEv (d) zM_X7_lowestBits 0 0 [.int l, .int v] (h) (some (.int (if l = 0 then v.toInt8.toInt32 else if l = 1 then v.toInt16.toInt32 else v)), h) := by
  refine zEv_of (by decide) (fun G => Nat.le_of_ble_eq_true rfl) ?_
  show ZW _ _ _ _ 0 [some (.int l), some (.int v)] [] _ _ _ _
  refine z_iload_n (i := 0) (q := 1) dX7_lowestBits_0 rfl rfl rfl ?_
  refine z_if_ne (tgt := 7) (q := 4) dX7_lowestBits_1 (by decide) rfl (fun c1 => ?_) (fun c1 => ?_)
  · skip
    refine z_iload_n (i := 0) (q := 8) dX7_lowestBits_7 rfl rfl rfl ?_
    refine z_iconst (v := 1) (q := 9) dX7_lowestBits_8 (by decide) rfl ?_
    refine z_icmp_ne (tgt := 17) (q := 12) dX7_lowestBits_9 (by decide) rfl (fun c2 => ?_) (fun c2 => ?_)
    · skip
      refine z_iload_n (i := 1) (q := 18) dX7_lowestBits_17 rfl rfl rfl ?_
      refine z_ireturn dX7_lowestBits_18 rfl rfl ?_ (Nat.le_refl _) (Nat.le_refl _)
      simp [c1, c2]
    · skip
      refine z_iload_n (i := 1) (q := 13) dX7_lowestBits_12 rfl rfl rfl ?_
      refine z_i2s (q := 14) dX7_lowestBits_13 rfl ?_
      refine z_goto (tgt := 18) dX7_lowestBits_14 (by decide) ?_
      refine z_ireturn dX7_lowestBits_18 rfl rfl ?_ (Nat.le_refl _) (Nat.le_refl _)
      simp [c1, c2]
  · skip
    refine z_iload_n (i := 1) (q := 5) dX7_lowestBits_4 rfl rfl rfl ?_
    refine z_i2b (q := 6) dX7_lowestBits_5 rfl ?_
    refine z_ireturn dX7_lowestBits_6 rfl rfl ?_ (Nat.le_refl _) (Nat.le_refl _)
    simp [c1]
set_option maxHeartbeats 4000000 in
set_option maxRecDepth 100000 in
theorem ev_X7_nearestKind (d : Nat) (h : zH) (s : Int32) : zEv (d) zM_X7_nearestKind 0 0 [.int s] (h) (some (.int (if s = 2 ∨ s = 3 then 1 else if s = 5 then 4 else 0)), h) := by
  refine zEv_of (by decide) (fun G => Nat.le_of_ble_eq_true rfl) ?_
  show ZW _ _ _ _ 0 [some (.int s)] [] _ _ _ _
  refine z_iload_n (i := 0) (q := 1) dX7_nearestKind_0 rfl rfl rfl ?_
  refine z_table (tgts := [32, 32, 36, 34]) (dt := 36) dX7_nearestKind_1 (by decide) (by decide) (by decide) (fun j t ht c1 => ?_) (fun c1 => ?_)
  · match j, ht, c1 with
    | 0, ht, c1 =>
      cases ht
      have c1 : _ = (2 : Int32) := Int32.toInt_inj.mp c1
      refine z_iconst (v := 1) (q := 33) dX7_nearestKind_32 (by decide) rfl ?_
      refine z_ireturn dX7_nearestKind_33 rfl rfl ?_ (Nat.le_refl _) (Nat.le_refl _)
      simp [c1]
    | 1, ht, c1 =>
      cases ht
      have c1 : _ = (3 : Int32) := Int32.toInt_inj.mp c1
      refine z_iconst (v := 1) (q := 33) dX7_nearestKind_32 (by decide) rfl ?_
      refine z_ireturn dX7_nearestKind_33 rfl rfl ?_ (Nat.le_refl _) (Nat.le_refl _)
      simp [c1]
    | 2, ht, c1 =>
      cases ht
      have c1 : _ = (4 : Int32) := Int32.toInt_inj.mp c1
      refine z_iconst (v := 0) (q := 37) dX7_nearestKind_36 (by decide) rfl ?_
      refine z_ireturn dX7_nearestKind_37 rfl rfl ?_ (Nat.le_refl _) (Nat.le_refl _)
      simp [c1]
    | 3, ht, c1 =>
      cases ht
      have c1 : _ = (5 : Int32) := Int32.toInt_inj.mp c1
      refine z_iconst (v := 4) (q := 35) dX7_nearestKind_34 (by decide) rfl ?_
      refine z_ireturn dX7_nearestKind_35 rfl rfl ?_ (Nat.le_refl _) (Nat.le_refl _)
      simp [c1]
    | j + 4, ht, c1 => exact absurd ht (by simp)
  · skip
    have c1_0 := zout (v := 2) c1 (by decide)
    have c1_1 := zout (v := 3) c1 (by decide)
    have c1_2 := zout (v := 4) c1 (by decide)
    have c1_3 := zout (v := 5) c1 (by decide)
    refine z_iconst (v := 0) (q := 37) dX7_nearestKind_36 (by decide) rfl ?_
    refine z_ireturn dX7_nearestKind_37 rfl rfl ?_ (Nat.le_refl _) (Nat.le_refl _)
    simp [c1_0, c1_1, c1_2, c1_3]
set_option maxHeartbeats 4000000 in
set_option maxRecDepth 100000 in
theorem ev_X7_isOfKind (d : Nat) (h : zH) (s : Int32) (z : Int32) : zEv (d + 1) zM_X7_isOfKind 0 0 [.int s, .int z] (h) (some (.int (if z = 0 ∨ z = s ∨ z = (if s = 2 ∨ s = 3 then 1 else if s = 5 then 4 else 0) then 1 else 0)), h) := by
  refine zEv_of (by decide) (fun G => Nat.le_of_ble_eq_true rfl) ?_
  show ZW _ _ _ _ 0 [some (.int s), some (.int z)] [] _ _ _ _
  refine z_iload_n (i := 1) (q := 1) dX7_isOfKind_0 rfl rfl rfl ?_
  refine z_if_eq (tgt := 17) (q := 4) dX7_isOfKind_1 (by decide) rfl (fun c1 => ?_) (fun c1 => ?_)
  · skip
    refine z_iconst (v := 1) (q := 18) dX7_isOfKind_17 (by decide) rfl ?_
    refine z_goto (tgt := 22) dX7_isOfKind_18 (by decide) ?_
    refine z_ireturn dX7_isOfKind_22 rfl rfl ?_ (Nat.le_refl _) (Nat.le_refl _)
    simp [c1]
  · skip
    refine z_iload_n (i := 1) (q := 5) dX7_isOfKind_4 rfl rfl rfl ?_
    refine z_iload_n (i := 0) (q := 6) dX7_isOfKind_5 rfl rfl rfl ?_
    refine z_icmp_eq (tgt := 17) (q := 9) dX7_isOfKind_6 (by decide) rfl (fun c2 => ?_) (fun c2 => ?_)
    · skip
      refine z_iconst (v := 1) (q := 18) dX7_isOfKind_17 (by decide) rfl ?_
      refine z_goto (tgt := 22) dX7_isOfKind_18 (by decide) ?_
      refine z_ireturn dX7_isOfKind_22 rfl rfl ?_ (Nat.le_refl _) (Nat.le_refl _)
      simp [c1, c2]
    · skip
      refine z_iload_n (i := 1) (q := 10) dX7_isOfKind_9 rfl rfl rfl ?_
      refine z_iload_n (i := 0) (q := 11) dX7_isOfKind_10 rfl rfl rfl ?_
      refine m_callS_r (As := [_]) (q := 14) mk_X7_nearestKind dX7_isOfKind_11 wd_676 wd_677 (ev_X7_nearestKind _ _ _) rfl (by simp [Value.category]) rfl (Nat.zero_le _) (Nat.zero_le _) rfl ?_
      refine z_icmp_ne (tgt := 21) (q := 17) dX7_isOfKind_14 (by decide) rfl (fun c3 => ?_) (fun c3 => ?_)
      · skip
        refine z_iconst (v := 0) (q := 22) dX7_isOfKind_21 (by decide) rfl ?_
        refine z_ireturn dX7_isOfKind_22 rfl rfl ?_ (Nat.le_refl _) (Nat.le_refl _)
        simp [c1, c2, c3]
      · skip
        refine z_iconst (v := 1) (q := 18) dX7_isOfKind_17 (by decide) rfl ?_
        refine z_goto (tgt := 22) dX7_isOfKind_18 (by decide) ?_
        refine z_ireturn dX7_isOfKind_22 rfl rfl ?_ (Nat.le_refl _) (Nat.le_refl _)
        simp [c1, c2, c3]
set_option maxHeartbeats 4000000 in
set_option maxRecDepth 100000 in
theorem ev_X7_haveGainsApart (d : Nat) (h : zH) (g : Int64) (h2 : Int64) (a : Int32) : zEv (d + 1) zM_X7_haveGainsApart 0 0 [.long g, .long h2, .int a] (h) (some (.int (if ¬ (a < -40 ∨ 40 < a) ∧ ¬ (if a < 0 then (h2.toUInt64 >>> ((-a).toInt64.toUInt64 &&& Int64.toUInt64 63)).toInt64 &&& g else (g.toUInt64 >>> (a.toInt64.toUInt64 &&& Int64.toUInt64 63)).toInt64 &&& h2) = 0 then 1 else 0)), h) := by
  refine zEv_of (by decide) (fun G => Nat.le_of_ble_eq_true rfl) ?_
  show ZW _ _ _ _ 0 [some (.long g), none, some (.long h2), none, some (.int a), none, none] [] _ _ _ _
  refine z_iload (i := 4) (q := 2) dX7_haveGainsApart_0 rfl rfl ?_
  refine z_bipush (v := (-40)) (q := 4) dX7_haveGainsApart_2 (by decide) rfl ?_
  refine z_bipush (v := 40) (q := 6) dX7_haveGainsApart_4 (by decide) rfl ?_
  refine m_callS_r (As := [_, _, _]) (q := 9) mk_X7_isOutside dX7_haveGainsApart_6 wd_276 wd_277 (ev_X7_isOutside _ _ _ _ _) rfl (by decide) rfl (Nat.zero_le _) (Nat.zero_le _) rfl ?_
  refine zb_eq (tgt := 14) (q := 12) dX7_haveGainsApart_9 (by decide) rfl (fun c1 => ?_) (fun c1 => ?_)
  · skip
    refine z_iload (i := 4) (q := 16) dX7_haveGainsApart_14 rfl rfl ?_
    refine z_if_lt (tgt := 28) (q := 19) dX7_haveGainsApart_16 (by decide) rfl (fun c2 => ?_) (fun c2 => ?_)
    · skip
      refine z_lload_n (i := 2) (q := 29) dX7_haveGainsApart_28 rfl rfl rfl ?_
      refine z_iload (i := 4) (q := 31) dX7_haveGainsApart_29 rfl rfl ?_
      refine z_ineg (q := 32) dX7_haveGainsApart_31 rfl ?_
      refine z_lushr (q := 33) dX7_haveGainsApart_32 rfl ?_
      refine z_lload_n (i := 0) (q := 34) dX7_haveGainsApart_33 rfl rfl rfl ?_
      refine z_land (q := 35) dX7_haveGainsApart_34 rfl ?_
      refine z_lstore (i := 5) (ls' := [_, _, _, _, _, _, _]) (q := 37) dX7_haveGainsApart_35 (by decide) rfl rfl ?_
      refine z_lload (i := 5) (q := 39) dX7_haveGainsApart_37 rfl rfl ?_
      refine z_lconst (v := 0) (q := 40) dX7_haveGainsApart_39 (by decide) rfl ?_
      refine z_lcmp (q := 41) dX7_haveGainsApart_40 rfl ?_
      refine zl_eq (tgt := 48) (q := 44) dX7_haveGainsApart_41 (by decide) rfl (fun c3 => ?_) (fun c3 => ?_)
      · skip
        refine z_iconst (v := 0) (q := 49) dX7_haveGainsApart_48 (by decide) rfl ?_
        refine z_ireturn dX7_haveGainsApart_49 rfl rfl ?_ (Nat.le_refl _) (Nat.le_refl _)
        simp [c1, c2, c3]
      · skip
        refine z_iconst (v := 1) (q := 45) dX7_haveGainsApart_44 (by decide) rfl ?_
        refine z_goto (tgt := 49) dX7_haveGainsApart_45 (by decide) ?_
        refine z_ireturn dX7_haveGainsApart_49 rfl rfl ?_ (Nat.le_refl _) (Nat.le_refl _)
        simp [c1, c2, c3]
    · skip
      refine z_lload_n (i := 0) (q := 20) dX7_haveGainsApart_19 rfl rfl rfl ?_
      refine z_iload (i := 4) (q := 22) dX7_haveGainsApart_20 rfl rfl ?_
      refine z_lushr (q := 23) dX7_haveGainsApart_22 rfl ?_
      refine z_lload_n (i := 2) (q := 24) dX7_haveGainsApart_23 rfl rfl rfl ?_
      refine z_land (q := 25) dX7_haveGainsApart_24 rfl ?_
      refine z_goto (tgt := 35) dX7_haveGainsApart_25 (by decide) ?_
      refine z_lstore (i := 5) (ls' := [_, _, _, _, _, _, _]) (q := 37) dX7_haveGainsApart_35 (by decide) rfl rfl ?_
      refine z_lload (i := 5) (q := 39) dX7_haveGainsApart_37 rfl rfl ?_
      refine z_lconst (v := 0) (q := 40) dX7_haveGainsApart_39 (by decide) rfl ?_
      refine z_lcmp (q := 41) dX7_haveGainsApart_40 rfl ?_
      refine zl_eq (tgt := 48) (q := 44) dX7_haveGainsApart_41 (by decide) rfl (fun c4 => ?_) (fun c4 => ?_)
      · skip
        refine z_iconst (v := 0) (q := 49) dX7_haveGainsApart_48 (by decide) rfl ?_
        refine z_ireturn dX7_haveGainsApart_49 rfl rfl ?_ (Nat.le_refl _) (Nat.le_refl _)
        simp [c1, c2, c4]
      · skip
        refine z_iconst (v := 1) (q := 45) dX7_haveGainsApart_44 (by decide) rfl ?_
        refine z_goto (tgt := 49) dX7_haveGainsApart_45 (by decide) ?_
        refine z_ireturn dX7_haveGainsApart_49 rfl rfl ?_ (Nat.le_refl _) (Nat.le_refl _)
        simp [c1, c2, c4]
  · skip
    refine z_iconst (v := 0) (q := 13) dX7_haveGainsApart_12 (by decide) rfl ?_
    refine z_ireturn dX7_haveGainsApart_13 rfl rfl ?_ (Nat.le_refl _) (Nat.le_refl _)
    simp [c1]
set_option maxHeartbeats 4000000 in
set_option maxRecDepth 100000 in
theorem ev_X4_lag (d : Nat) (m : zm) (a : Nat) (ha : isPer a) : zEv (d) zM_X4_lag 0 0 [.ref a] (lay m) (some (.int (m.1 a 3 + m.1 a 1 - m.1 a 4)), lay (m)) := by
  refine zEv_of (by decide) (fun G => Nat.le_of_ble_eq_true rfl) ?_
  show ZW _ _ _ _ 0 [some (.ref a)] [] _ _ _ _
  refine z_aload_n (i := 0) (q := 1) dX4_lag_0 rfl rfl rfl ?_
  refine m_getI (q := 4) dX4_lag_1 fl_X4_21 ⟨ha.1, _, ha.2, rfl⟩ rfl ?_
  refine z_aload_n (i := 0) (q := 5) dX4_lag_4 rfl rfl rfl ?_
  refine m_getI (q := 8) dX4_lag_5 fl_X4_15 ⟨ha.1, _, ha.2, rfl⟩ rfl ?_
  refine z_iadd (q := 9) dX4_lag_8 rfl ?_
  refine z_aload_n (i := 0) (q := 10) dX4_lag_9 rfl rfl rfl ?_
  refine m_getI (q := 13) dX4_lag_10 fl_X4_24 ⟨ha.1, _, ha.2, rfl⟩ rfl ?_
  refine z_isub (q := 14) dX4_lag_13 rfl ?_
  refine z_ireturn dX4_lag_14 rfl rfl ?_ (Nat.le_refl _) (Nat.le_refl _)
  rfl
set_option maxHeartbeats 4000000 in
set_option maxRecDepth 100000 in
theorem ev_X4_maySail (d : Nat) (m : zm) (a : Nat) (w : Nat) (ha : isPer a) (hw : isWay w) : zEv (d) zM_X4_maySail 0 0 [.ref a, .ref w] (lay m) (some (.int (if ¬ m.1 a 0 = 5 ∨ m.1 w 2 ≤ 10 then 1 else 0)), lay (m)) := by
  refine zEv_of (by decide) (fun G => Nat.le_of_ble_eq_true rfl) ?_
  show ZW _ _ _ _ 0 [some (.ref a), some (.ref w)] [] _ _ _ _
  refine z_aload_n (i := 0) (q := 1) dX4_maySail_0 rfl rfl rfl ?_
  refine m_getI (q := 4) dX4_maySail_1 fl_X4_9 ⟨ha.1, _, ha.2, rfl⟩ rfl ?_
  refine z_iconst (v := 5) (q := 5) dX4_maySail_4 (by decide) rfl ?_
  refine z_icmp_ne (tgt := 17) (q := 8) dX4_maySail_5 (by decide) rfl (fun c1 => ?_) (fun c1 => ?_)
  · skip
    refine z_iconst (v := 1) (q := 18) dX4_maySail_17 (by decide) rfl ?_
    refine z_goto (tgt := 22) dX4_maySail_18 (by decide) ?_
    refine z_ireturn dX4_maySail_22 rfl rfl ?_ (Nat.le_refl _) (Nat.le_refl _)
    simp [c1]
  · skip
    refine z_aload_n (i := 1) (q := 9) dX4_maySail_8 rfl rfl rfl ?_
    refine m_getI (q := 12) dX4_maySail_9 fl_X4_36 ⟨hw.1, _, hw.2, rfl⟩ rfl ?_
    refine z_bipush (v := 10) (q := 14) dX4_maySail_12 (by decide) rfl ?_
    refine z_icmp_gt (tgt := 21) (q := 17) dX4_maySail_14 (by decide) rfl (fun c2 => ?_) (fun c2 => ?_)
    · skip
      refine z_iconst (v := 0) (q := 22) dX4_maySail_21 (by decide) rfl ?_
      refine z_ireturn dX4_maySail_22 rfl rfl ?_ (Nat.le_refl _) (Nat.le_refl _)
      simp [c1, c2]
    · skip
      refine z_iconst (v := 1) (q := 18) dX4_maySail_17 (by decide) rfl ?_
      refine z_goto (tgt := 22) dX4_maySail_18 (by decide) ?_
      refine z_ireturn dX4_maySail_22 rfl rfl ?_ (Nat.le_refl _) (Nat.le_refl _)
      simp [c1, c2]
set_option maxHeartbeats 4000000 in
set_option maxRecDepth 100000 in
theorem ev_X4_ownYears (d : Nat) (m : zm) (a : Nat) (w : Nat) (ha : isPer a) (hw : isWay w) : zEv (d + 1) zM_X4_ownYears 0 0 [.ref a, .ref w] (lay m) (some (.int (if m.1 a 0 = 2 then (if m.1 w 3 - 1 < 0 then 0 else m.1 w 3 - 1) else if m.1 a 0 = 3 then 0 else if m.1 a 0 = 4 then m.1 w 2 else m.1 w 3)), lay (m)) := by
  refine zEv_of (by decide) (fun G => Nat.le_of_ble_eq_true rfl) ?_
  show ZW _ _ _ _ 0 [some (.ref a), some (.ref w)] [] _ _ _ _
  refine z_aload_n (i := 0) (q := 1) dX4_ownYears_0 rfl rfl rfl ?_
  refine m_getI (q := 4) dX4_ownYears_1 fl_X4_9 ⟨ha.1, _, ha.2, rfl⟩ rfl ?_
  refine z_table (tgts := [32, 43, 45]) (dt := 50) dX4_ownYears_4 (by decide) (by decide) (by decide) (fun j t ht c1 => ?_) (fun c1 => ?_)
  · match j, ht, c1 with
    | 0, ht, c1 =>
      cases ht
      have c1 : _ = (2 : Int32) := Int32.toInt_inj.mp c1
      refine z_aload_n (i := 1) (q := 33) dX4_ownYears_32 rfl rfl rfl ?_
      refine m_getI (q := 36) dX4_ownYears_33 fl_X4_41 ⟨hw.1, _, hw.2, rfl⟩ rfl ?_
      refine z_iconst (v := 1) (q := 37) dX4_ownYears_36 (by decide) rfl ?_
      refine z_isub (q := 38) dX4_ownYears_37 rfl ?_
      refine z_iconst (v := 0) (q := 39) dX4_ownYears_38 (by decide) rfl ?_
      refine z_imax (q := 42) dX4_ownYears_39 wd_514 wd_515 wd_15 wd_516 (by decide) (Nat.zero_le _) (Nat.zero_le _) rfl ?_
      refine z_ireturn dX4_ownYears_42 rfl rfl ?_ (Nat.le_refl _) (Nat.le_refl _)
      simp [c1]
    | 1, ht, c1 =>
      cases ht
      have c1 : _ = (3 : Int32) := Int32.toInt_inj.mp c1
      refine z_iconst (v := 0) (q := 44) dX4_ownYears_43 (by decide) rfl ?_
      refine z_ireturn dX4_ownYears_44 rfl rfl ?_ (Nat.le_refl _) (Nat.le_refl _)
      simp [c1]
    | 2, ht, c1 =>
      cases ht
      have c1 : _ = (4 : Int32) := Int32.toInt_inj.mp c1
      refine z_aload_n (i := 1) (q := 46) dX4_ownYears_45 rfl rfl rfl ?_
      refine m_getI (q := 49) dX4_ownYears_46 fl_X4_36 ⟨hw.1, _, hw.2, rfl⟩ rfl ?_
      refine z_ireturn dX4_ownYears_49 rfl rfl ?_ (Nat.le_refl _) (Nat.le_refl _)
      simp [c1]
    | j + 3, ht, c1 => exact absurd ht (by simp)
  · skip
    have c1_0 := zout (v := 2) c1 (by decide)
    have c1_1 := zout (v := 3) c1 (by decide)
    have c1_2 := zout (v := 4) c1 (by decide)
    refine z_aload_n (i := 1) (q := 51) dX4_ownYears_50 rfl rfl rfl ?_
    refine m_getI (q := 54) dX4_ownYears_51 fl_X4_41 ⟨hw.1, _, hw.2, rfl⟩ rfl ?_
    refine z_ireturn dX4_ownYears_54 rfl rfl ?_ (Nat.le_refl _) (Nat.le_refl _)
    simp [c1_0, c1_1, c1_2]
set_option maxHeartbeats 4000000 in
set_option maxRecDepth 100000 in
theorem ev_X6_endsIn (d : Nat) (m : zm) (w : Nat) (z : Int32) (hw : isWay w) : zEv (d) zM_X6_endsIn 0 0 [.ref w, .int z] (lay m) (some (.int (if m.1 w 0 = z ∨ m.1 w 1 = z then 1 else 0)), lay (m)) := by
  refine zEv_of (by decide) (fun G => Nat.le_of_ble_eq_true rfl) ?_
  show ZW _ _ _ _ 0 [some (.ref w), some (.int z)] [] _ _ _ _
  refine z_aload_n (i := 0) (q := 1) dX6_endsIn_0 rfl rfl rfl ?_
  refine m_getI (q := 4) dX6_endsIn_1 fl_X6_7 ⟨hw.1, _, hw.2, rfl⟩ rfl ?_
  refine z_iload_n (i := 1) (q := 5) dX6_endsIn_4 rfl rfl rfl ?_
  refine z_icmp_eq (tgt := 16) (q := 8) dX6_endsIn_5 (by decide) rfl (fun c1 => ?_) (fun c1 => ?_)
  · skip
    refine z_iconst (v := 1) (q := 17) dX6_endsIn_16 (by decide) rfl ?_
    refine z_goto (tgt := 21) dX6_endsIn_17 (by decide) ?_
    refine z_ireturn dX6_endsIn_21 rfl rfl ?_ (Nat.le_refl _) (Nat.le_refl _)
    simp [c1]
  · skip
    refine z_aload_n (i := 0) (q := 9) dX6_endsIn_8 rfl rfl rfl ?_
    refine m_getI (q := 12) dX6_endsIn_9 fl_X6_13 ⟨hw.1, _, hw.2, rfl⟩ rfl ?_
    refine z_iload_n (i := 1) (q := 13) dX6_endsIn_12 rfl rfl rfl ?_
    refine z_icmp_ne (tgt := 20) (q := 16) dX6_endsIn_13 (by decide) rfl (fun c2 => ?_) (fun c2 => ?_)
    · skip
      refine z_iconst (v := 0) (q := 21) dX6_endsIn_20 (by decide) rfl ?_
      refine z_ireturn dX6_endsIn_21 rfl rfl ?_ (Nat.le_refl _) (Nat.le_refl _)
      simp [c1, c2]
    · skip
      refine z_iconst (v := 1) (q := 17) dX6_endsIn_16 (by decide) rfl ?_
      refine z_goto (tgt := 21) dX6_endsIn_17 (by decide) ?_
      refine z_ireturn dX6_endsIn_21 rfl rfl ?_ (Nat.le_refl _) (Nat.le_refl _)
      simp [c1, c2]
set_option maxHeartbeats 4000000 in
set_option maxRecDepth 100000 in
theorem ev_X6_otherEnd (d : Nat) (m : zm) (w : Nat) (z : Int32) (hw : isWay w) : zEv (d) zM_X6_otherEnd 0 0 [.ref w, .int z] (lay m) (some (.int (if z = m.1 w 0 then m.1 w 1 else m.1 w 0)), lay (m)) := by
  refine zEv_of (by decide) (fun G => Nat.le_of_ble_eq_true rfl) ?_
  show ZW _ _ _ _ 0 [some (.ref w), some (.int z)] [] _ _ _ _
  refine z_iload_n (i := 1) (q := 1) dX6_otherEnd_0 rfl rfl rfl ?_
  refine z_aload_n (i := 0) (q := 2) dX6_otherEnd_1 rfl rfl rfl ?_
  refine m_getI (q := 5) dX6_otherEnd_2 fl_X6_7 ⟨hw.1, _, hw.2, rfl⟩ rfl ?_
  refine z_icmp_ne (tgt := 15) (q := 8) dX6_otherEnd_5 (by decide) rfl (fun c1 => ?_) (fun c1 => ?_)
  · skip
    refine z_aload_n (i := 0) (q := 16) dX6_otherEnd_15 rfl rfl rfl ?_
    refine m_getI (q := 19) dX6_otherEnd_16 fl_X6_7 ⟨hw.1, _, hw.2, rfl⟩ rfl ?_
    refine z_ireturn dX6_otherEnd_19 rfl rfl ?_ (Nat.le_refl _) (Nat.le_refl _)
    simp [c1]
  · skip
    refine z_aload_n (i := 0) (q := 9) dX6_otherEnd_8 rfl rfl rfl ?_
    refine m_getI (q := 12) dX6_otherEnd_9 fl_X6_13 ⟨hw.1, _, hw.2, rfl⟩ rfl ?_
    refine z_goto (tgt := 19) dX6_otherEnd_12 (by decide) ?_
    refine z_ireturn dX6_otherEnd_19 rfl rfl ?_ (Nat.le_refl _) (Nat.le_refl _)
    simp [c1]
