/-! ===== the model: feed, bytes ===== -/
def mByt (w : Int64) (r : Nat) : Int32 := ((w >>> ((8 * nI r : Int32).toInt64 &&& 63)) &&& 255).toInt32
def mApp1 (m : zm) (b : Int32) : zm := upI (upI m 187 (m.1 180 10).toNatClampNeg b) 180 10 ((upI m 187 (m.1 180 10).toNatClampNeg b).1 180 10 + 1)
def mApp (w : Int64) : Nat → zm → zm
  | 0, m => m
  | r + 1, m => mApp w r (mApp1 m (mByt w r))
def mBy (m : zm) (t k : Nat) : Int32 := if k < t then m.1 187 k else -1000000
set_option maxHeartbeats 4000000 in
set_option maxRecDepth 100000 in
theorem lp_X8_feed (d : Nat) (w : Int64) (z : Int32) : ∀ (n : Nat) (r t : Nat) (m : zm), r < n → r < 9 → m.1 180 10 = nI t → t + r ≤ 400 → ZW zM_X8_feed (d + 1) 0 0 40 [some (.ref 180), some (.long w), none, some (.int z), some (.int (nI r - 1))] [] (lay m) 0 0 (some (.int ((mApp w r m).1 180 10)), lay (mApp w r m)) := by
  intro n
  induction n with
  | zero => intro r t m hm; exact absurd hm (by omega)
  | succ n ih =>
    intro r t m hm hr ht hle
    refine z_iload (i := 4) (q := 42) dX8_feed_40 rfl rfl ?_
    refine z_if_lt (tgt := 82) (q := 45) dX8_feed_42 (by decide) rfl (fun c1 => ?_) (fun c1 => ?_)
    · skip
      have hr0 : r = 0 := by
        rcases r with _ | j
        · rfl
        · rw [nI_pred] at c1
          exact absurd c1 (nI_pos (by omega))
      subst hr0
      refine z_aload_n (i := 0) (q := 83) dX8_feed_82 rfl rfl rfl ?_
      refine m_getI (q := 86) dX8_feed_83 fl_X8_75 ⟨by decide, _, rfl, rfl⟩ rfl ?_
      refine z_ireturn dX8_feed_86 rfl rfl ?_ (Nat.le_refl _) (Nat.le_refl _)
      rfl
    · skip
      have hr0 : r ≠ 0 := by
        intro q
        subst q
        exact c1 (by decide)
      obtain ⟨j, rfl⟩ : ∃ j, r = j + 1 := ⟨r - 1, by omega⟩
      rw [nI_pred]
      refine z_aload_n (i := 0) (q := 46) dX8_feed_45 rfl rfl rfl ?_
      refine m_getR (r := 187) (q := 49) dX8_feed_46 fl_X8_28 ⟨by decide, _, rfl, rfl⟩ rfl ?_
      refine z_aload_n (i := 0) (q := 50) dX8_feed_49 rfl rfl rfl ?_
      refine m_getI (q := 53) dX8_feed_50 fl_X8_75 ⟨by decide, _, rfl, rfl⟩ rfl ?_
      rw [ht]
      refine z_lload_n (i := 1) (q := 54) dX8_feed_53 rfl rfl rfl ?_
      refine z_bipush (v := 8) (q := 56) dX8_feed_54 (by decide) rfl ?_
      refine z_iload (i := 4) (q := 58) dX8_feed_56 rfl rfl ?_
      refine z_imul (q := 59) dX8_feed_58 rfl ?_
      refine z_lshr (q := 60) dX8_feed_59 rfl ?_
      refine z_ldc2 (q := 63) dX8_feed_60 wd_855 rfl ?_
      refine z_land (q := 64) dX8_feed_63 rfl ?_
      refine z_l2i (q := 65) dX8_feed_64 rfl ?_
      refine m_iastJ (N := 400) (q := 66) dX8_feed_65 ⟨by decide, _, rfl⟩ (j := t) (nI_clamp (by omega)) (vp_in_nI (by omega) (by decide)) rfl ?_
      refine z_aload_n (i := 0) (q := 67) dX8_feed_66 rfl rfl rfl ?_
      refine z_dup (q := 68) dX8_feed_67 rfl rfl ?_
      refine m_getI (q := 71) dX8_feed_68 fl_X8_75 ⟨by decide, _, rfl, rfl⟩ rfl ?_
      refine z_iconst (v := 1) (q := 72) dX8_feed_71 (by decide) rfl ?_
      refine z_iadd (q := 73) dX8_feed_72 rfl ?_
      refine m_putI (q := 76) dX8_feed_73 fp_X8_75 ⟨by decide, _, rfl, rfl⟩ ⟨rfl, rfl⟩ rfl ?_
      refine z_iinc (i := 4) (ls' := [_, _, _, _, _]) (v := _ + (-1)) (q := 79) dX8_feed_76 rfl rfl (by decide) rfl rfl ?_
      rw [show nI j + (-1) = nI j - 1 from (Int32.sub_eq_add_neg _ _).symm]
      refine z_goto (tgt := 40) dX8_feed_79 (by decide) ?_
      have hq : mApp1 m (mByt w j) = upI (upI m 187 t (mByt w j)) 180 10 ((upI m 187 t (mByt w j)).1 180 10 + 1) := by
        unfold mApp1
        rw [ht, nI_clamp (by omega)]
      have e := ih j (t + 1) (mApp1 m (mByt w j)) (by omega) (by omega) (by rw [hq, upI_eq, upI_ne (by omega), ht]; exact nI_1 t) (by omega)
      rw [mApp]
      rw [hq] at e ⊢
      exact e
set_option maxHeartbeats 4000000 in
set_option maxRecDepth 100000 in
theorem ev_X8_feed_bad (d : Nat) (m : zm) (w : Int64) (z : Int32) (hb : z < 1 ∨ 8 < z) : zEv (d + 1) zM_X8_feed 0 0 [.ref 180, .long w, .int z] (lay m) (some (.int (-1000001)), lay (mT m)) := by
  refine zEv_of (by decide) (fun G => Nat.le_of_ble_eq_true rfl) ?_
  show ZW _ _ _ _ 0 [some (.ref 180), some (.long w), none, some (.int z), none] [] _ _ _ _
  refine z_aload_n (i := 0) (q := 1) dX8_feed_0 rfl rfl rfl ?_
  refine z_iconst (v := 0) (q := 2) dX8_feed_1 (by decide) rfl ?_
  refine m_putI (q := 5) dX8_feed_2 fp_X8_48 ⟨by decide, _, rfl, rfl⟩ ⟨rfl, rfl⟩ rfl ?_
  refine z_iload_n (i := 3) (q := 6) dX8_feed_5 rfl rfl rfl ?_
  refine z_i2l (q := 7) dX8_feed_6 rfl ?_
  refine z_lconst (v := 1) (q := 8) dX8_feed_7 (by decide) rfl ?_
  refine z_ldc2 (q := 11) dX8_feed_8 wd_853 rfl ?_
  refine m_callS_r (As := [_, _, _]) (q := 14) mk_X8_in dX8_feed_11 wd_827 wd_828 (ev_X8_in _ _ _ (1) (8) (by decide) (by decide)) rfl (by decide) rfl (Nat.zero_le _) (Nat.zero_le _) rfl ?_
  refine zb_ne (tgt := 20) (q := 17) dX8_feed_14 (by decide) rfl (fun c1 => ?_) (fun c1 => ?_)
  · exact absurd hb c1
  · skip
    refine z_ldc (q := 19) dX8_feed_17 wd_831 rfl ?_
    refine z_ireturn dX8_feed_19 rfl rfl ?_ (Nat.le_refl _) (Nat.le_refl _)
    rfl
set_option maxHeartbeats 4000000 in
set_option maxRecDepth 100000 in
theorem ev_X8_feed_full (d : Nat) (m : zm) (w : Int64) (z : Int32) (h1 : ¬ (z < 1 ∨ 8 < z)) (h2 : ¬ m.1 180 10 + z ≤ 400) : zEv (d + 1) zM_X8_feed 0 0 [.ref 180, .long w, .int z] (lay m) (some (.int (-1000003)), lay (mT m)) := by
  refine zEv_of (by decide) (fun G => Nat.le_of_ble_eq_true rfl) ?_
  show ZW _ _ _ _ 0 [some (.ref 180), some (.long w), none, some (.int z), none] [] _ _ _ _
  refine z_aload_n (i := 0) (q := 1) dX8_feed_0 rfl rfl rfl ?_
  refine z_iconst (v := 0) (q := 2) dX8_feed_1 (by decide) rfl ?_
  refine m_putI (q := 5) dX8_feed_2 fp_X8_48 ⟨by decide, _, rfl, rfl⟩ ⟨rfl, rfl⟩ rfl ?_
  refine z_iload_n (i := 3) (q := 6) dX8_feed_5 rfl rfl rfl ?_
  refine z_i2l (q := 7) dX8_feed_6 rfl ?_
  refine z_lconst (v := 1) (q := 8) dX8_feed_7 (by decide) rfl ?_
  refine z_ldc2 (q := 11) dX8_feed_8 wd_853 rfl ?_
  refine m_callS_r (As := [_, _, _]) (q := 14) mk_X8_in dX8_feed_11 wd_827 wd_828 (ev_X8_in _ _ _ (1) (8) (by decide) (by decide)) rfl (by decide) rfl (Nat.zero_le _) (Nat.zero_le _) rfl ?_
  refine zb_ne (tgt := 20) (q := 17) dX8_feed_14 (by decide) rfl (fun c1 => ?_) (fun c1 => ?_)
  · skip
    refine z_aload_n (i := 0) (q := 21) dX8_feed_20 rfl rfl rfl ?_
    refine m_getI (q := 24) dX8_feed_21 fl_X8_75 ⟨by decide, _, rfl, rfl⟩ rfl ?_
    refine z_iload_n (i := 3) (q := 25) dX8_feed_24 rfl rfl rfl ?_
    refine z_iadd (q := 26) dX8_feed_25 rfl ?_
    refine z_sipush (v := 400) (q := 29) dX8_feed_26 (by decide) rfl ?_
    refine z_icmp_le (tgt := 35) (q := 32) dX8_feed_29 (by decide) rfl (fun c2 => ?_) (fun c2 => ?_)
    · exact absurd c2 h2
    · skip
      refine z_ldc (q := 34) dX8_feed_32 wd_854 rfl ?_
      refine z_ireturn dX8_feed_34 rfl rfl ?_ (Nat.le_refl _) (Nat.le_refl _)
      rfl
  · exact absurd h1 c1
set_option maxHeartbeats 4000000 in
set_option maxRecDepth 100000 in
theorem ev_X8_feed (d : Nat) (m : zm) (t : Nat) (w : Int64) (z : Nat) (h1 : ¬ (nI z < 1 ∨ 8 < nI z)) (h2 : m.1 180 10 + nI z ≤ 400) (ht : m.1 180 10 = nI t) (hle : t + z ≤ 400) (hz : z < 9) : zEv (d + 1) zM_X8_feed 0 0 [.ref 180, .long w, .int (nI z)] (lay m) (some (.int ((mApp w z (mT m)).1 180 10)), lay (mApp w z (mT m))) := by
  refine zEv_of (by decide) (fun G => Nat.le_of_ble_eq_true rfl) ?_
  show ZW _ _ _ _ 0 [some (.ref 180), some (.long w), none, some (.int (nI z)), none] [] _ _ _ _
  refine z_aload_n (i := 0) (q := 1) dX8_feed_0 rfl rfl rfl ?_
  refine z_iconst (v := 0) (q := 2) dX8_feed_1 (by decide) rfl ?_
  refine m_putI (q := 5) dX8_feed_2 fp_X8_48 ⟨by decide, _, rfl, rfl⟩ ⟨rfl, rfl⟩ rfl ?_
  refine z_iload_n (i := 3) (q := 6) dX8_feed_5 rfl rfl rfl ?_
  refine z_i2l (q := 7) dX8_feed_6 rfl ?_
  refine z_lconst (v := 1) (q := 8) dX8_feed_7 (by decide) rfl ?_
  refine z_ldc2 (q := 11) dX8_feed_8 wd_853 rfl ?_
  refine m_callS_r (As := [_, _, _]) (q := 14) mk_X8_in dX8_feed_11 wd_827 wd_828 (ev_X8_in _ _ _ (1) (8) (by decide) (by decide)) rfl (by decide) rfl (Nat.zero_le _) (Nat.zero_le _) rfl ?_
  refine zb_ne (tgt := 20) (q := 17) dX8_feed_14 (by decide) rfl (fun c1 => ?_) (fun c1 => ?_)
  · skip
    refine z_aload_n (i := 0) (q := 21) dX8_feed_20 rfl rfl rfl ?_
    refine m_getI (q := 24) dX8_feed_21 fl_X8_75 ⟨by decide, _, rfl, rfl⟩ rfl ?_
    refine z_iload_n (i := 3) (q := 25) dX8_feed_24 rfl rfl rfl ?_
    refine z_iadd (q := 26) dX8_feed_25 rfl ?_
    refine z_sipush (v := 400) (q := 29) dX8_feed_26 (by decide) rfl ?_
    refine z_icmp_le (tgt := 35) (q := 32) dX8_feed_29 (by decide) rfl (fun c2 => ?_) (fun c2 => ?_)
    · skip
      refine z_iload_n (i := 3) (q := 36) dX8_feed_35 rfl rfl rfl ?_
      refine z_iconst (v := 1) (q := 37) dX8_feed_36 (by decide) rfl ?_
      refine z_isub (q := 38) dX8_feed_37 rfl ?_
      refine z_istore (i := 4) (ls' := [_, _, _, _, _]) (q := 40) dX8_feed_38 (by decide) rfl rfl ?_
      exact lp_X8_feed d w _ (z + 1) z t (mT m) (by omega) hz ht hle
    · exact absurd h2 c2
  · exact absurd h1 c1
set_option maxHeartbeats 4000000 in
set_option maxRecDepth 100000 in
theorem ev_X8_byteAt (d : Nat) (m : zm) (t : Nat) (k : Nat) (hl : m.1 180 12 = nI t) (ht4 : t ≤ 400) (hk : k < 402) : zEv (d) zM_X8_byteAt 0 0 [.ref 180, .int (nI k)] (lay m) (some (.int (mBy m t k)), lay (m)) := by
  refine zEv_of (by decide) (fun G => Nat.le_of_ble_eq_true rfl) ?_
  show ZW _ _ _ _ 0 [some (.ref 180), some (.int (nI k))] [] _ _ _ _
  refine z_iload_n (i := 1) (q := 1) dX8_byteAt_0 rfl rfl rfl ?_
  refine z_aload_n (i := 0) (q := 2) dX8_byteAt_1 rfl rfl rfl ?_
  refine m_getI (q := 5) dX8_byteAt_2 fl_X8_81 ⟨by decide, _, rfl, rfl⟩ rfl ?_
  rw [hl]
  refine z_icmp_ge (tgt := 17) (q := 8) dX8_byteAt_5 (by decide) rfl (fun c1 => ?_) (fun c1 => ?_)
  · skip
    have hkt : ¬ k < t := by
      have := (nI_leI (a := t) (b := k) (by omega) (by omega)).mp c1
      omega
    rw [show mBy m t k = _ from if_neg hkt]
    refine z_ldc (q := 19) dX8_byteAt_17 wd_872 rfl ?_
    refine z_ireturn dX8_byteAt_19 rfl rfl ?_ (Nat.le_refl _) (Nat.le_refl _)
    rfl
  · skip
    have hkt : k < t := by
      rcases Nat.lt_or_ge k t with q | q
      · exact q
      · exact absurd ((nI_leI (a := t) (b := k) (by omega) (by omega)).mpr q) c1
    rw [show mBy m t k = _ from if_pos hkt]
    refine z_aload_n (i := 0) (q := 9) dX8_byteAt_8 rfl rfl rfl ?_
    refine m_getR (r := 187) (q := 12) dX8_byteAt_9 fl_X8_28 ⟨by decide, _, rfl, rfl⟩ rfl ?_
    refine z_iload_n (i := 1) (q := 13) dX8_byteAt_12 rfl rfl rfl ?_
    refine m_ialdJ (N := 400) (q := 14) dX8_byteAt_13 ⟨by decide, _, rfl⟩ (j := k) (nI_clamp (by omega)) (vp_in_nI (by omega) (by decide)) rfl ?_
    refine z_goto (tgt := 19) dX8_byteAt_14 (by decide) ?_
    refine z_ireturn dX8_byteAt_19 rfl rfl ?_ (Nat.le_refl _) (Nat.le_refl _)
    rfl
set_option maxHeartbeats 4000000 in
set_option maxRecDepth 100000 in
theorem ev_X8_isLetter (d : Nat) (h : zH) (c : Int32) : zEv (d) zM_X8_isLetter 0 0 [.int c] (h) (some (.int (if 97 ≤ c ∧ c ≤ 122 then 1 else 0)), h) := by
  refine zEv_of (by decide) (fun G => Nat.le_of_ble_eq_true rfl) ?_
  show ZW _ _ _ _ 0 [some (.int c)] [] _ _ _ _
  refine z_iload_n (i := 0) (q := 1) dX8_isLetter_0 rfl rfl rfl ?_
  refine z_bipush (v := 97) (q := 3) dX8_isLetter_1 (by decide) rfl ?_
  refine z_icmp_lt (tgt := 16) (q := 6) dX8_isLetter_3 (by decide) rfl (fun c1 => ?_) (fun c1 => ?_)
  · skip
    refine z_iconst (v := 0) (q := 17) dX8_isLetter_16 (by decide) rfl ?_
    refine z_ireturn dX8_isLetter_17 rfl rfl ?_ (Nat.le_refl _) (Nat.le_refl _)
    first | (simp [c1]; done) | (simp; intro q; exact absurd q (Int32.not_le.mpr c1))
  · skip
    refine z_iload_n (i := 0) (q := 7) dX8_isLetter_6 rfl rfl rfl ?_
    refine z_bipush (v := 122) (q := 9) dX8_isLetter_7 (by decide) rfl ?_
    refine z_icmp_gt (tgt := 16) (q := 12) dX8_isLetter_9 (by decide) rfl (fun c2 => ?_) (fun c2 => ?_)
    · skip
      refine z_iconst (v := 0) (q := 17) dX8_isLetter_16 (by decide) rfl ?_
      refine z_ireturn dX8_isLetter_17 rfl rfl ?_ (Nat.le_refl _) (Nat.le_refl _)
      first | (simp [c1, c2]; done) | (simp; intro q; exact absurd q (Int32.not_le.mpr c1))
    · skip
      refine z_iconst (v := 1) (q := 13) dX8_isLetter_12 (by decide) rfl ?_
      refine z_goto (tgt := 17) dX8_isLetter_13 (by decide) ?_
      refine z_ireturn dX8_isLetter_17 rfl rfl ?_ (Nat.le_refl _) (Nat.le_refl _)
      first | (simp [c1, c2]; done) | (simp; intro q; exact absurd q (Int32.not_le.mpr c1))
set_option maxHeartbeats 4000000 in
set_option maxRecDepth 100000 in
theorem ev_X8_isFigure (d : Nat) (h : zH) (c : Int32) : zEv (d) zM_X8_isFigure 0 0 [.int c] (h) (some (.int (if 48 ≤ c ∧ c ≤ 57 then 1 else 0)), h) := by
  refine zEv_of (by decide) (fun G => Nat.le_of_ble_eq_true rfl) ?_
  show ZW _ _ _ _ 0 [some (.int c)] [] _ _ _ _
  refine z_iload_n (i := 0) (q := 1) dX8_isFigure_0 rfl rfl rfl ?_
  refine z_bipush (v := 48) (q := 3) dX8_isFigure_1 (by decide) rfl ?_
  refine z_icmp_lt (tgt := 16) (q := 6) dX8_isFigure_3 (by decide) rfl (fun c1 => ?_) (fun c1 => ?_)
  · skip
    refine z_iconst (v := 0) (q := 17) dX8_isFigure_16 (by decide) rfl ?_
    refine z_ireturn dX8_isFigure_17 rfl rfl ?_ (Nat.le_refl _) (Nat.le_refl _)
    first | (simp [c1]; done) | (simp; intro q; exact absurd q (Int32.not_le.mpr c1))
  · skip
    refine z_iload_n (i := 0) (q := 7) dX8_isFigure_6 rfl rfl rfl ?_
    refine z_bipush (v := 57) (q := 9) dX8_isFigure_7 (by decide) rfl ?_
    refine z_icmp_gt (tgt := 16) (q := 12) dX8_isFigure_9 (by decide) rfl (fun c2 => ?_) (fun c2 => ?_)
    · skip
      refine z_iconst (v := 0) (q := 17) dX8_isFigure_16 (by decide) rfl ?_
      refine z_ireturn dX8_isFigure_17 rfl rfl ?_ (Nat.le_refl _) (Nat.le_refl _)
      first | (simp [c1, c2]; done) | (simp; intro q; exact absurd q (Int32.not_le.mpr c1))
    · skip
      refine z_iconst (v := 1) (q := 13) dX8_isFigure_12 (by decide) rfl ?_
      refine z_goto (tgt := 17) dX8_isFigure_13 (by decide) ?_
      refine z_ireturn dX8_isFigure_17 rfl rfl ?_ (Nat.le_refl _) (Nat.le_refl _)
      first | (simp [c1, c2]; done) | (simp; intro q; exact absurd q (Int32.not_le.mpr c1))
