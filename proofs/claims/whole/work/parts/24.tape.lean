/-! ===== the class: the tape's bytes ===== -/
def cByte (w : Int64) (r : Nat) : Int32 := ((w.toUInt64 >>> ((8 * nI r : Int32).toInt64.toUInt64 &&& Int64.toUInt64 63)).toInt64 &&& 255).toInt32
def cApp1 (m : zm) (b : Int32) : zm := upI (upI m 13 (m.1 12 1).toNatClampNeg b) 12 1 ((upI m 13 (m.1 12 1).toNatClampNeg b).1 12 1 + 1)
def cApp (w : Int64) : Nat → zm → zm
  | 0, m => m
  | r + 1, m => cApp w r (cApp1 m (cByte w r))
theorem cApp1_many (m : zm) (b : Int32) : (cApp1 m b).1 12 1 = m.1 12 1 + 1 := by
  unfold cApp1
  rw [upI_eq, upI_ne (by omega)]
set_option maxHeartbeats 4000000 in
set_option maxRecDepth 100000 in
theorem lp_X5_app (d : Nat) (w : Int64) (z : Int32) : ∀ (r : Nat) (m : zm) (t : Nat), r < 400 → m.1 12 1 = nI t → t + (r + 1) ≤ 400 → ZW zM_X5_append (d) 0 0 5 [some (.ref 12), some (.long w), none, some (.int z), some (.int (nI r))] [] (lay m) 0 0 (none, lay (cApp w (r + 1) m)) := by
  intro r
  induction r with
  | zero =>
    intro m t hr ht hle
    refine z_iload (i := 4) (q := 7) dX5_append_5 rfl rfl ?_
    refine z_if_lt (tgt := 57) (q := 10) dX5_append_7 (by decide) rfl (fun c1 => ?_) (fun c1 => ?_)
    · exact absurd c1 (nI_pos (by omega))
    · skip
      refine z_aload_n (i := 0) (q := 11) dX5_append_10 rfl rfl rfl ?_
      refine m_getI (q := 14) dX5_append_11 fl_X5_15 ⟨by decide, _, rfl, rfl⟩ rfl ?_
      refine z_sipush (v := 400) (q := 17) dX5_append_14 (by decide) rfl ?_
      refine z_icmp_ge (tgt := 57) (q := 20) dX5_append_17 (by decide) rfl (fun c2 => ?_) (fun c2 => ?_)
      · exact absurd c2 (by rw [ht, show (400 : Int32) = nI 400 from rfl, nI_leI (by omega) (by omega)]; omega)
      · skip
        refine z_aload_n (i := 0) (q := 21) dX5_append_20 rfl rfl rfl ?_
        refine m_getR (r := 13) (q := 24) dX5_append_21 fl_X5_9 ⟨by decide, _, rfl, rfl⟩ rfl ?_
        refine z_aload_n (i := 0) (q := 25) dX5_append_24 rfl rfl rfl ?_
        refine m_getI (q := 28) dX5_append_25 fl_X5_15 ⟨by decide, _, rfl, rfl⟩ rfl ?_
        refine z_lload_n (i := 1) (q := 29) dX5_append_28 rfl rfl rfl ?_
        refine z_bipush (v := 8) (q := 31) dX5_append_29 (by decide) rfl ?_
        refine z_iload (i := 4) (q := 33) dX5_append_31 rfl rfl ?_
        refine z_imul (q := 34) dX5_append_33 rfl ?_
        refine z_lushr (q := 35) dX5_append_34 rfl ?_
        refine z_ldc2 (q := 38) dX5_append_35 wd_324 rfl ?_
        refine z_land (q := 39) dX5_append_38 rfl ?_
        refine z_l2i (q := 40) dX5_append_39 rfl ?_
        refine m_iastJ (N := 400) (q := 41) dX5_append_40 ⟨by decide, _, rfl⟩ (j := (m.1 12 1).toNatClampNeg) rfl (by rw [ht]; exact vp_in_nI (by omega) (by decide)) rfl ?_
        refine z_aload_n (i := 0) (q := 42) dX5_append_41 rfl rfl rfl ?_
        refine z_dup (q := 43) dX5_append_42 rfl rfl ?_
        refine m_getI (q := 46) dX5_append_43 fl_X5_15 ⟨by decide, _, rfl, rfl⟩ rfl ?_
        refine z_iconst (v := 1) (q := 47) dX5_append_46 (by decide) rfl ?_
        refine z_iadd (q := 48) dX5_append_47 rfl ?_
        refine m_putI (q := 51) dX5_append_48 fp_X5_15 ⟨by decide, _, rfl, rfl⟩ ⟨rfl, rfl⟩ rfl ?_
        refine z_iinc (i := 4) (ls' := [_, _, _, _, _]) (v := _ + (-1)) (q := 54) dX5_append_51 rfl rfl (by decide) rfl rfl ?_
        refine z_goto (tgt := 5) dX5_append_54 (by decide) ?_
        show ZW _ _ _ _ 5 [_, _, _, _, some (.int (-1))] [] _ _ _ _
        refine z_iload (i := 4) (q := 7) dX5_append_5 rfl rfl ?_
        refine z_if_lt (tgt := 57) (q := 10) dX5_append_7 (by decide) rfl (fun c9 => ?_) (fun c9 => absurd (by decide) c9)
        refine z_return dX5_append_57 rfl ?_ (Nat.le_refl _) (Nat.le_refl _)
        rfl
  | succ r ih =>
    intro m t hr ht hle
    refine z_iload (i := 4) (q := 7) dX5_append_5 rfl rfl ?_
    refine z_if_lt (tgt := 57) (q := 10) dX5_append_7 (by decide) rfl (fun c1 => ?_) (fun c1 => ?_)
    · exact absurd c1 (nI_pos (by omega))
    · skip
      refine z_aload_n (i := 0) (q := 11) dX5_append_10 rfl rfl rfl ?_
      refine m_getI (q := 14) dX5_append_11 fl_X5_15 ⟨by decide, _, rfl, rfl⟩ rfl ?_
      refine z_sipush (v := 400) (q := 17) dX5_append_14 (by decide) rfl ?_
      refine z_icmp_ge (tgt := 57) (q := 20) dX5_append_17 (by decide) rfl (fun c2 => ?_) (fun c2 => ?_)
      · exact absurd c2 (by rw [ht, show (400 : Int32) = nI 400 from rfl, nI_leI (by omega) (by omega)]; omega)
      · skip
        refine z_aload_n (i := 0) (q := 21) dX5_append_20 rfl rfl rfl ?_
        refine m_getR (r := 13) (q := 24) dX5_append_21 fl_X5_9 ⟨by decide, _, rfl, rfl⟩ rfl ?_
        refine z_aload_n (i := 0) (q := 25) dX5_append_24 rfl rfl rfl ?_
        refine m_getI (q := 28) dX5_append_25 fl_X5_15 ⟨by decide, _, rfl, rfl⟩ rfl ?_
        refine z_lload_n (i := 1) (q := 29) dX5_append_28 rfl rfl rfl ?_
        refine z_bipush (v := 8) (q := 31) dX5_append_29 (by decide) rfl ?_
        refine z_iload (i := 4) (q := 33) dX5_append_31 rfl rfl ?_
        refine z_imul (q := 34) dX5_append_33 rfl ?_
        refine z_lushr (q := 35) dX5_append_34 rfl ?_
        refine z_ldc2 (q := 38) dX5_append_35 wd_324 rfl ?_
        refine z_land (q := 39) dX5_append_38 rfl ?_
        refine z_l2i (q := 40) dX5_append_39 rfl ?_
        refine m_iastJ (N := 400) (q := 41) dX5_append_40 ⟨by decide, _, rfl⟩ (j := (m.1 12 1).toNatClampNeg) rfl (by rw [ht]; exact vp_in_nI (by omega) (by decide)) rfl ?_
        refine z_aload_n (i := 0) (q := 42) dX5_append_41 rfl rfl rfl ?_
        refine z_dup (q := 43) dX5_append_42 rfl rfl ?_
        refine m_getI (q := 46) dX5_append_43 fl_X5_15 ⟨by decide, _, rfl, rfl⟩ rfl ?_
        refine z_iconst (v := 1) (q := 47) dX5_append_46 (by decide) rfl ?_
        refine z_iadd (q := 48) dX5_append_47 rfl ?_
        refine m_putI (q := 51) dX5_append_48 fp_X5_15 ⟨by decide, _, rfl, rfl⟩ ⟨rfl, rfl⟩ rfl ?_
        refine z_iinc (i := 4) (ls' := [_, _, _, _, _]) (v := _ + (-1)) (q := 54) dX5_append_51 rfl rfl (by decide) rfl rfl ?_
        refine z_goto (tgt := 5) dX5_append_54 (by decide) ?_
        rw [show nI (r + 1) + (-1) = nI r from pk_m1 r]
        exact ih _ (t + 1) (by omega) (by rw [show (upI _ 12 1 _ : zm).1 12 1 = _ from upI_eq _ _ _ _, upI_ne (by omega), ht]; exact nI_1 t) (by omega)
set_option maxHeartbeats 4000000 in
set_option maxRecDepth 100000 in
theorem ev_X5_append (d : Nat) (m : zm) (t : Nat) (w : Int64) (z : Nat) (hz1 : 1 ≤ z) (ht : m.1 12 1 = nI t) (hle : t + z ≤ 400) (hz : z < 9) : zEv (d) zM_X5_append 0 0 [.ref 12, .long w, .int (nI z)] (lay m) (none, lay (cApp w z m)) := by
  refine zEv_of (by decide) (fun G => Nat.le_of_ble_eq_true rfl) ?_
  show ZW _ _ _ _ 0 [some (.ref 12), some (.long w), none, some (.int (nI z)), none] [] _ _ _ _
  refine z_iload_n (i := 3) (q := 1) dX5_append_0 rfl rfl rfl ?_
  refine z_iconst (v := 1) (q := 2) dX5_append_1 (by decide) rfl ?_
  refine z_isub (q := 3) dX5_append_2 rfl ?_
  refine z_istore (i := 4) (ls' := [_, _, _, _, _]) (q := 5) dX5_append_3 (by decide) rfl rfl ?_
  obtain ⟨r, rfl⟩ : ∃ r, z = r + 1 := ⟨z - 1, by omega⟩
  rw [show nI (r + 1) - 1 = nI r from nI_pred r]
  exact lp_X5_app d w _ r m t (by omega) ht (by omega)
set_option maxHeartbeats 4000000 in
set_option maxRecDepth 100000 in
theorem ev_X7_feed_bad (d : Nat) (m : zm) (w : Int64) (z : Int32) (hb : z < 1 ∨ 8 < z) : zEv (d + 1) zM_X7_feed 0 0 [.ref 0, .long w, .int z] (lay m) (some (.int (-1000001)), lay (m)) := by
  refine zEv_of (by decide) (fun G => Nat.le_of_ble_eq_true rfl) ?_
  show ZW _ _ _ _ 0 [some (.ref 0), some (.long w), none, some (.int z)] [] _ _ _ _
  refine z_iload_n (i := 3) (q := 1) dX7_feed_0 rfl rfl rfl ?_
  refine z_iconst (v := 1) (q := 2) dX7_feed_1 (by decide) rfl ?_
  refine z_bipush (v := 8) (q := 4) dX7_feed_2 (by decide) rfl ?_
  refine m_callS_r (As := [_, _, _]) (q := 7) mk_X7_isOutside dX7_feed_4 wd_276 wd_277 (ev_X7_isOutside _ _ _ _ _) rfl (by decide) rfl (Nat.zero_le _) (Nat.zero_le _) rfl ?_
  refine zb_eq (tgt := 13) (q := 10) dX7_feed_7 (by decide) rfl (fun c1 => ?_) (fun c1 => ?_)
  · contradiction
  · skip
    refine z_ldc (q := 12) dX7_feed_10 wd_279 rfl ?_
    refine z_ireturn dX7_feed_12 rfl rfl ?_ (Nat.le_refl _) (Nat.le_refl _)
    rfl
set_option maxHeartbeats 4000000 in
set_option maxRecDepth 100000 in
theorem ev_X7_feed_full (d : Nat) (m : zm) (w : Int64) (z : Int32) (h1 : ¬ (z < 1 ∨ 8 < z)) (h2 : ¬ m.1 12 1 + z ≤ 400) : zEv (d + 1) zM_X7_feed 0 0 [.ref 0, .long w, .int z] (lay m) (some (.int (-1000003)), lay (m)) := by
  refine zEv_of (by decide) (fun G => Nat.le_of_ble_eq_true rfl) ?_
  show ZW _ _ _ _ 0 [some (.ref 0), some (.long w), none, some (.int z)] [] _ _ _ _
  refine z_iload_n (i := 3) (q := 1) dX7_feed_0 rfl rfl rfl ?_
  refine z_iconst (v := 1) (q := 2) dX7_feed_1 (by decide) rfl ?_
  refine z_bipush (v := 8) (q := 4) dX7_feed_2 (by decide) rfl ?_
  refine m_callS_r (As := [_, _, _]) (q := 7) mk_X7_isOutside dX7_feed_4 wd_276 wd_277 (ev_X7_isOutside _ _ _ _ _) rfl (by decide) rfl (Nat.zero_le _) (Nat.zero_le _) rfl ?_
  refine zb_eq (tgt := 13) (q := 10) dX7_feed_7 (by decide) rfl (fun c1 => ?_) (fun c1 => ?_)
  · skip
    refine z_aload_n (i := 0) (q := 14) dX7_feed_13 rfl rfl rfl ?_
    refine m_getR (r := 12) (q := 17) dX7_feed_14 fl_X7_28 ⟨by decide, _, rfl, rfl⟩ rfl ?_
    refine m_getI (q := 20) dX7_feed_17 fl_X7_113 ⟨by decide, _, rfl, rfl⟩ rfl ?_
    refine z_iload_n (i := 3) (q := 21) dX7_feed_20 rfl rfl rfl ?_
    refine z_iadd (q := 22) dX7_feed_21 rfl ?_
    refine z_sipush (v := 400) (q := 25) dX7_feed_22 (by decide) rfl ?_
    refine z_icmp_le (tgt := 31) (q := 28) dX7_feed_25 (by decide) rfl (fun c2 => ?_) (fun c2 => ?_)
    · contradiction
    · skip
      refine z_ldc (q := 30) dX7_feed_28 wd_319 rfl ?_
      refine z_ireturn dX7_feed_30 rfl rfl ?_ (Nat.le_refl _) (Nat.le_refl _)
      rfl
  · contradiction
set_option maxHeartbeats 4000000 in
set_option maxRecDepth 100000 in
theorem ev_X7_feed (d : Nat) (m : zm) (t : Nat) (w : Int64) (z : Nat) (h1 : ¬ (nI z < 1 ∨ 8 < nI z)) (h2 : m.1 12 1 + nI z ≤ 400) (hz1 : 1 ≤ z) (ht : m.1 12 1 = nI t) (hle : t + z ≤ 400) (hz : z < 9) : zEv (d + 1) zM_X7_feed 0 0 [.ref 0, .long w, .int (nI z)] (lay m) (some (.int ((cApp w z m).1 12 1)), lay (cApp w z m)) := by
  refine zEv_of (by decide) (fun G => Nat.le_of_ble_eq_true rfl) ?_
  show ZW _ _ _ _ 0 [some (.ref 0), some (.long w), none, some (.int (nI z))] [] _ _ _ _
  refine z_iload_n (i := 3) (q := 1) dX7_feed_0 rfl rfl rfl ?_
  refine z_iconst (v := 1) (q := 2) dX7_feed_1 (by decide) rfl ?_
  refine z_bipush (v := 8) (q := 4) dX7_feed_2 (by decide) rfl ?_
  refine m_callS_r (As := [_, _, _]) (q := 7) mk_X7_isOutside dX7_feed_4 wd_276 wd_277 (ev_X7_isOutside _ _ _ _ _) rfl (by decide) rfl (Nat.zero_le _) (Nat.zero_le _) rfl ?_
  refine zb_eq (tgt := 13) (q := 10) dX7_feed_7 (by decide) rfl (fun c1 => ?_) (fun c1 => ?_)
  · skip
    refine z_aload_n (i := 0) (q := 14) dX7_feed_13 rfl rfl rfl ?_
    refine m_getR (r := 12) (q := 17) dX7_feed_14 fl_X7_28 ⟨by decide, _, rfl, rfl⟩ rfl ?_
    refine m_getI (q := 20) dX7_feed_17 fl_X7_113 ⟨by decide, _, rfl, rfl⟩ rfl ?_
    refine z_iload_n (i := 3) (q := 21) dX7_feed_20 rfl rfl rfl ?_
    refine z_iadd (q := 22) dX7_feed_21 rfl ?_
    refine z_sipush (v := 400) (q := 25) dX7_feed_22 (by decide) rfl ?_
    refine z_icmp_le (tgt := 31) (q := 28) dX7_feed_25 (by decide) rfl (fun c2 => ?_) (fun c2 => ?_)
    · skip
      refine z_aload_n (i := 0) (q := 32) dX7_feed_31 rfl rfl rfl ?_
      refine m_getR (r := 12) (q := 35) dX7_feed_32 fl_X7_28 ⟨by decide, _, rfl, rfl⟩ rfl ?_
      refine z_lload_n (i := 1) (q := 36) dX7_feed_35 rfl rfl rfl ?_
      refine z_iload_n (i := 3) (q := 37) dX7_feed_36 rfl rfl rfl ?_
      refine m_callV_v (As := [_, _]) (q := 40) mk_X5_append dX7_feed_37 wd_320 wd_321 wd_322 (ci := 5) rfl ⟨by decide, _, rfl⟩ (ev_X5_append _ _ _ _ _  hz1 ht hle (by omega)) rfl (by decide) rfl (Nat.zero_le _) (Nat.zero_le _) rfl ?_
      refine z_aload_n (i := 0) (q := 41) dX7_feed_40 rfl rfl rfl ?_
      refine m_getR (r := 12) (q := 44) dX7_feed_41 fl_X7_28 ⟨by decide, _, rfl, rfl⟩ rfl ?_
      refine m_getI (q := 47) dX7_feed_44 fl_X7_113 ⟨by decide, _, rfl, rfl⟩ rfl ?_
      refine z_ireturn dX7_feed_47 rfl rfl ?_ (Nat.le_refl _) (Nat.le_refl _)
      rfl
    · contradiction
  · contradiction
