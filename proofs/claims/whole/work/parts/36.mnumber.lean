/-! ===== the model: names, numbers ===== -/
def mNm (f : Nat → Int32) : Nat → Nat → Int64 → Int64
  | 0, _, v => v
  | n + 1, k, v => mNm f n (k + 1) ((v <<< ((8 : Int32).toInt64 &&& 63)) ||| (f k).toInt64)
def mFg (f : Nat → Int32) : Nat → Nat → Int32 → Int32
  | 0, _, v => v
  | n + 1, k, v => mFg f n (k + 1) (10 * v + f k - 48)
def mName (m : zm) : Int64 := if m.1 180 17 = 0 then (if m.1 180 14 = 2 ∧ mE m - mS m < 8 then mNm (m.1 187) (mE m - mS m) (mS m) 0 else 0) else 0
def mFig (m : zm) : Int32 := if m.1 180 14 = 3 then mFg (m.1 187) (mE m - mS m) (mS m) 0 else 0
set_option maxHeartbeats 4000000 in
set_option maxRecDepth 100000 in
theorem sg_X8_nend (d : Nat) (m : zm) (v : Int64) (z : Int32) : ZW zM_X8_name (d) 0 0 56 [some (.ref 180), some (.long v), none, some (.int z)] [] (lay m) 0 0 (some (.long (if m.1 180 17 = 0 then v else 0)), lay m) := by
  refine z_aload_n (i := 0) (q := 57) dX8_name_56 rfl rfl rfl ?_
  refine m_getI (q := 60) dX8_name_57 fl_X8_106 ⟨by decide, _, rfl, rfl⟩ rfl ?_
  refine z_if_ne (tgt := 67) (q := 63) dX8_name_60 (by decide) rfl (fun c1 => ?_) (fun c1 => ?_)
  · skip
    refine z_lconst (v := 0) (q := 68) dX8_name_67 (by decide) rfl ?_
    refine z_lreturn dX8_name_68 rfl ?_ (Nat.le_refl _) (Nat.le_refl _)
    simp [c1]
  · skip
    refine z_lload_n (i := 1) (q := 64) dX8_name_63 rfl rfl rfl ?_
    refine z_goto (tgt := 68) dX8_name_64 (by decide) ?_
    refine z_lreturn dX8_name_68 rfl ?_ (Nat.le_refl _) (Nat.le_refl _)
    simp [c1]
set_option maxHeartbeats 4000000 in
set_option maxRecDepth 100000 in
theorem lp_X8_name (d : Nat) (m : zm) (s e : Nat) (hs : m.1 180 15 = nI s) (he : m.1 180 16 = nI e) (hse : s ≤ e) (he4 : e ≤ 400) : ∀ (n : Nat) (k : Nat) (v : Int64), e - k < n → k ≤ e → ZW zM_X8_name (d) 0 0 7 [some (.ref 180), some (.long v), none, some (.int (nI k))] [] (lay m) 0 0 (some (.long (if m.1 180 17 = 0 then (if m.1 180 14 = 2 ∧ e - s < 8 then mNm (m.1 187) (e - k) k v else v) else 0)), lay m) := by
  intro n
  induction n with
  | zero => intro k v hm; exact absurd hm (by omega)
  | succ n ih =>
    intro k v hm hk
    refine z_iload_n (i := 3) (q := 8) dX8_name_7 rfl rfl rfl ?_
    refine z_aload_n (i := 0) (q := 9) dX8_name_8 rfl rfl rfl ?_
    refine m_getI (q := 12) dX8_name_9 fl_X8_103 ⟨by decide, _, rfl, rfl⟩ rfl ?_
    rw [he]
    refine z_icmp_ge (tgt := 56) (q := 15) dX8_name_12 (by decide) rfl (fun c1 => ?_) (fun c1 => ?_)
    · skip
      have hek : k = e := by
        have := (nI_leI (a := e) (b := k) (by omega) (by omega)).mp c1
        omega
      rw [show e - k = 0 by omega, show (if m.1 180 14 = 2 ∧ e - s < 8 then mNm (m.1 187) 0 k v else v) = v from by split <;> rfl]
      exact sg_X8_nend d m v (nI k)
    · skip
      have hek : k < e := by
        rcases Nat.lt_or_ge k e with q | q
        · exact q
        · exact absurd ((nI_leI (a := e) (b := k) (by omega) (by omega)).mpr q) c1
      refine z_aload_n (i := 0) (q := 16) dX8_name_15 rfl rfl rfl ?_
      refine m_getI (q := 19) dX8_name_16 fl_X8_94 ⟨by decide, _, rfl, rfl⟩ rfl ?_
      refine z_iconst (v := 2) (q := 20) dX8_name_19 (by decide) rfl ?_
      refine z_icmp_ne (tgt := 56) (q := 23) dX8_name_20 (by decide) rfl (fun c2 => ?_) (fun c2 => ?_)
      · skip
        rw [if_neg (show ¬ (m.1 180 14 = 2 ∧ e - s < 8) from fun q => c2 q.1)]
        exact sg_X8_nend d m v (nI k)
      · skip
        refine z_aload_n (i := 0) (q := 24) dX8_name_23 rfl rfl rfl ?_
        refine m_getI (q := 27) dX8_name_24 fl_X8_103 ⟨by decide, _, rfl, rfl⟩ rfl ?_
        rw [he]
        refine z_aload_n (i := 0) (q := 28) dX8_name_27 rfl rfl rfl ?_
        refine m_getI (q := 31) dX8_name_28 fl_X8_91 ⟨by decide, _, rfl, rfl⟩ rfl ?_
        rw [hs]
        refine z_isub (q := 32) dX8_name_31 rfl ?_
        rw [pk_sub hse]
        refine z_bipush (v := 8) (q := 34) dX8_name_32 (by decide) rfl ?_
        refine z_icmp_ge (tgt := 56) (q := 37) dX8_name_34 (by decide) rfl (fun c3 => ?_) (fun c3 => ?_)
        · skip
          have hlen : ¬ e - s < 8 := by
            have := (nI_leI (a := 8) (b := e - s) (by omega) (by omega)).mp c3
            omega
          rw [if_neg (show ¬ (m.1 180 14 = 2 ∧ e - s < 8) from fun q => hlen q.2)]
          exact sg_X8_nend d m v (nI k)
        · skip
          have hlen : e - s < 8 := by
            rcases Nat.lt_or_ge (e - s) 8 with q | q
            · exact q
            · exact absurd ((nI_leI (a := 8) (b := e - s) (by omega) (by omega)).mpr q) c3
          refine z_lload_n (i := 1) (q := 38) dX8_name_37 rfl rfl rfl ?_
          refine z_bipush (v := 8) (q := 40) dX8_name_38 (by decide) rfl ?_
          refine z_lshl (q := 41) dX8_name_40 rfl ?_
          refine z_aload_n (i := 0) (q := 42) dX8_name_41 rfl rfl rfl ?_
          refine m_getR (r := 187) (q := 45) dX8_name_42 fl_X8_28 ⟨by decide, _, rfl, rfl⟩ rfl ?_
          refine z_iload_n (i := 3) (q := 46) dX8_name_45 rfl rfl rfl ?_
          refine m_ialdJ (N := 400) (q := 47) dX8_name_46 ⟨by decide, _, rfl⟩ (j := k) (nI_clamp (by omega)) (vp_in_nI (by omega) (by decide)) rfl ?_
          refine z_i2l (q := 48) dX8_name_47 rfl ?_
          refine z_lor (q := 49) dX8_name_48 rfl ?_
          refine z_lstore_n (i := 1) (ls' := [_, _, _, _]) (q := 50) dX8_name_49 rfl (by decide) rfl rfl ?_
          refine z_iinc (i := 3) (ls' := [_, _, _, _]) (v := nI (k + 1)) (q := 53) dX8_name_50 rfl (nI_1 _) (by decide) rfl rfl ?_
          refine z_goto (tgt := 7) dX8_name_53 (by decide) ?_
          rw [show e - k = (e - (k + 1)) + 1 by omega, mNm]
          have e1 := ih (k + 1) ((v <<< ((8 : Int32).toInt64 &&& 63)) ||| (m.1 187 k).toInt64) (by omega) (by omega)
          rw [if_pos (show m.1 180 14 = 2 ∧ e - s < 8 from ⟨c2, hlen⟩)] at e1 ⊢
          exact e1
theorem mName_of {m : zm} {s e : Nat} (h1 : mS m = s) (h2 : mE m = e) : mName m = (if m.1 180 17 = 0 then (if m.1 180 14 = 2 ∧ e - s < 8 then mNm (m.1 187) (e - s) s 0 else 0) else 0) := by
  subst h1
  subst h2
  rfl
set_option maxHeartbeats 4000000 in
set_option maxRecDepth 100000 in
theorem ev_X8_name (d : Nat) (m : zm) (hT : mOk m) : zEv (d) zM_X8_name 0 0 [.ref 180] (lay m) (some (.long (mName m)), lay (m)) := by
  refine zEv_of (by decide) (fun G => Nat.le_of_ble_eq_true rfl) ?_
  show ZW _ _ _ _ 0 [some (.ref 180), none, none, none] [] _ _ _ _
  refine z_lconst (v := 0) (q := 1) dX8_name_0 (by decide) rfl ?_
  refine z_lstore_n (i := 1) (ls' := [_, _, _, _]) (q := 2) dX8_name_1 rfl (by decide) rfl rfl ?_
  refine z_aload_n (i := 0) (q := 3) dX8_name_2 rfl rfl rfl ?_
  refine m_getI (q := 6) dX8_name_3 fl_X8_91 ⟨by decide, _, rfl, rfl⟩ rfl ?_
  rw [hT.2.2.1]
  refine z_istore_n (i := 3) (ls' := [_, _, _, _]) (q := 7) dX8_name_6 rfl (by decide) rfl rfl ?_
  exact lp_X8_name d m (mS m) (mE m) hT.2.2.1 hT.2.2.2.1 hT.2.2.2.2.1 (by have := hT.2.2.2.2.2; have := hT.1.2.1; omega) (mE m + 1) (mS m) 0 (by omega) hT.2.2.2.2.1
set_option maxHeartbeats 4000000 in
set_option maxRecDepth 100000 in
theorem lp_X8_fig0 (d : Nat) (m : zm) (s e : Nat) (hs : m.1 180 15 = nI s) (he : m.1 180 16 = nI e) (hse : s ≤ e) (he4 : e ≤ 400) : ∀ (n : Nat) (k : Nat) (v : Int32), e - k < n → k ≤ e → ZW zM_X8_figures (d) 0 0 7 [some (.ref 180), some (.int v), some (.int (nI k))] [] (lay m) 0 0 (some (.int (if m.1 180 14 = 3 then mFg (m.1 187) (e - k) k v else v)), lay m) := by
  intro n
  induction n with
  | zero => intro k v hm; exact absurd hm (by omega)
  | succ n ih =>
    intro k v hm hk
    refine z_iload_n (i := 2) (q := 8) dX8_figures_7 rfl rfl rfl ?_
    refine z_aload_n (i := 0) (q := 9) dX8_figures_8 rfl rfl rfl ?_
    refine m_getI (q := 12) dX8_figures_9 fl_X8_103 ⟨by decide, _, rfl, rfl⟩ rfl ?_
    rw [he]
    refine z_icmp_ge (tgt := 44) (q := 15) dX8_figures_12 (by decide) rfl (fun c1 => ?_) (fun c1 => ?_)
    · skip
      have hek : k = e := by
        have := (nI_leI (a := e) (b := k) (by omega) (by omega)).mp c1
        omega
      refine z_iload_n (i := 1) (q := 45) dX8_figures_44 rfl rfl rfl ?_
      refine z_ireturn dX8_figures_45 rfl rfl ?_ (Nat.le_refl _) (Nat.le_refl _)
      rw [show e - k = 0 by omega, show (if m.1 180 14 = 3 then mFg (m.1 187) 0 k v else v) = v from by split <;> rfl]
    · skip
      have hek : k < e := by
        rcases Nat.lt_or_ge k e with q | q
        · exact q
        · exact absurd ((nI_leI (a := e) (b := k) (by omega) (by omega)).mpr q) c1
      refine z_aload_n (i := 0) (q := 16) dX8_figures_15 rfl rfl rfl ?_
      refine m_getI (q := 19) dX8_figures_16 fl_X8_94 ⟨by decide, _, rfl, rfl⟩ rfl ?_
      refine z_iconst (v := 3) (q := 20) dX8_figures_19 (by decide) rfl ?_
      refine z_icmp_ne (tgt := 44) (q := 23) dX8_figures_20 (by decide) rfl (fun c2 => ?_) (fun c2 => ?_)
      · skip
        refine z_iload_n (i := 1) (q := 45) dX8_figures_44 rfl rfl rfl ?_
        refine z_ireturn dX8_figures_45 rfl rfl ?_ (Nat.le_refl _) (Nat.le_refl _)
        rw [if_neg c2]
      · skip
        refine z_bipush (v := 10) (q := 25) dX8_figures_23 (by decide) rfl ?_
        refine z_iload_n (i := 1) (q := 26) dX8_figures_25 rfl rfl rfl ?_
        refine z_imul (q := 27) dX8_figures_26 rfl ?_
        refine z_aload_n (i := 0) (q := 28) dX8_figures_27 rfl rfl rfl ?_
        refine m_getR (r := 187) (q := 31) dX8_figures_28 fl_X8_28 ⟨by decide, _, rfl, rfl⟩ rfl ?_
        refine z_iload_n (i := 2) (q := 32) dX8_figures_31 rfl rfl rfl ?_
        refine m_ialdJ (N := 400) (q := 33) dX8_figures_32 ⟨by decide, _, rfl⟩ (j := k) (nI_clamp (by omega)) (vp_in_nI (by omega) (by decide)) rfl ?_
        refine z_iadd (q := 34) dX8_figures_33 rfl ?_
        refine z_bipush (v := 48) (q := 36) dX8_figures_34 (by decide) rfl ?_
        refine z_isub (q := 37) dX8_figures_36 rfl ?_
        refine z_istore_n (i := 1) (ls' := [_, _, _]) (q := 38) dX8_figures_37 rfl (by decide) rfl rfl ?_
        refine z_iinc (i := 2) (ls' := [_, _, _]) (v := nI (k + 1)) (q := 41) dX8_figures_38 rfl (nI_1 _) (by decide) rfl rfl ?_
        refine z_goto (tgt := 7) dX8_figures_41 (by decide) ?_
        rw [show e - k = (e - (k + 1)) + 1 by omega, mFg]
        have e1 := ih (k + 1) (10 * v + m.1 187 k - 48) (by omega) (by omega)
        rw [if_pos c2] at e1 ⊢
        exact e1
set_option maxHeartbeats 4000000 in
set_option maxRecDepth 100000 in
theorem ev_X8_figures (d : Nat) (m : zm) (hT : mOk m) : zEv (d) zM_X8_figures 0 0 [.ref 180] (lay m) (some (.int (mFig m)), lay (m)) := by
  refine zEv_of (by decide) (fun G => Nat.le_of_ble_eq_true rfl) ?_
  show ZW _ _ _ _ 0 [some (.ref 180), none, none] [] _ _ _ _
  refine z_iconst (v := 0) (q := 1) dX8_figures_0 (by decide) rfl ?_
  refine z_istore_n (i := 1) (ls' := [_, _, _]) (q := 2) dX8_figures_1 rfl (by decide) rfl rfl ?_
  refine z_aload_n (i := 0) (q := 3) dX8_figures_2 rfl rfl rfl ?_
  refine m_getI (q := 6) dX8_figures_3 fl_X8_91 ⟨by decide, _, rfl, rfl⟩ rfl ?_
  rw [hT.2.2.1]
  refine z_istore_n (i := 2) (ls' := [_, _, _]) (q := 7) dX8_figures_6 rfl (by decide) rfl rfl ?_
  exact lp_X8_fig0 d m (mS m) (mE m) hT.2.2.1 hT.2.2.2.1 hT.2.2.2.2.1 (by have := hT.2.2.2.2.2; have := hT.1.2.1; omega) (mE m + 1) (mS m) 0 (by omega) hT.2.2.2.2.1
def mMusT (m : zm) : zm := mMust m (if m.1 180 14 = 3 then 1 else 0)
def mNumR (m : zm) : Int32 := if m.1 180 17 ≤ 0 then mFig m else 0
def mNumM (m : zm) (l h : Int32) : zm := if m.1 180 17 ≤ 0 then mMusT (if m.1 180 14 = 3 ∧ (mFig m < l ∨ h < mFig m) then mBad m 2 else m) else m
theorem mOk_num {m : zm} {l h : Int32} (hT : mOk m) : mOk (mNumM m l h) := by
  unfold mNumM mMusT
  split
  · split
    · exact mOk_must (mOk_bad hT)
    · exact mOk_must hT
  · exact hT
set_option maxHeartbeats 4000000 in
set_option maxRecDepth 100000 in
theorem sg_X8_num (d : Nat) (m : zm) (hT : mOk m) (l h v : Int32) : ZW zM_X8_number (d + 3) 0 0 39 [some (.ref 180), some (.int l), some (.int h), some (.int v)] [] (lay m) 0 0 (some (.int v), lay (mMusT m)) := by
  refine z_aload_n (i := 0) (q := 40) dX8_number_39 rfl rfl rfl ?_
  refine z_aload_n (i := 0) (q := 41) dX8_number_40 rfl rfl rfl ?_
  refine m_getI (q := 44) dX8_number_41 fl_X8_94 ⟨by decide, _, rfl, rfl⟩ rfl ?_
  refine z_iconst (v := 3) (q := 45) dX8_number_44 (by decide) rfl ?_
  refine z_icmp_ne (tgt := 52) (q := 48) dX8_number_45 (by decide) rfl (fun c1 => ?_) (fun c1 => ?_)
  · skip
    refine z_iconst (v := 0) (q := 53) dX8_number_52 (by decide) rfl ?_
    refine m_callV_v (As := [_]) (q := 56) mk_X8_must dX8_number_53 wd_884 wd_886 wp_35 (ci := 8) rfl ⟨by decide, _, rfl⟩ (ev_X8_must _ _ _ (by repeat (with_reducible first | exact hT | refine mOk_must ?_ | refine mOk_bad ?_ | refine mOk_me ?_ | refine mOk_beg ?_ | refine mOk_u (by omega) (by omega) ?_))) rfl (by decide) rfl (Nat.zero_le _) (Nat.zero_le _) rfl ?_
    refine z_iload_n (i := 3) (q := 57) dX8_number_56 rfl rfl rfl ?_
    refine z_ireturn dX8_number_57 rfl rfl ?_ (Nat.le_refl _) (Nat.le_refl _)
    rw [show mMusT m = mMust m 0 from by unfold mMusT; rw [if_neg c1]]
  · skip
    refine z_iconst (v := 1) (q := 49) dX8_number_48 (by decide) rfl ?_
    refine z_goto (tgt := 53) dX8_number_49 (by decide) ?_
    refine m_callV_v (As := [_]) (q := 56) mk_X8_must dX8_number_53 wd_884 wd_886 wp_35 (ci := 8) rfl ⟨by decide, _, rfl⟩ (ev_X8_must _ _ _ (by repeat (with_reducible first | exact hT | refine mOk_must ?_ | refine mOk_bad ?_ | refine mOk_me ?_ | refine mOk_beg ?_ | refine mOk_u (by omega) (by omega) ?_))) rfl (by decide) rfl (Nat.zero_le _) (Nat.zero_le _) rfl ?_
    refine z_iload_n (i := 3) (q := 57) dX8_number_56 rfl rfl rfl ?_
    refine z_ireturn dX8_number_57 rfl rfl ?_ (Nat.le_refl _) (Nat.le_refl _)
    rw [show mMusT m = mMust m 1 from by unfold mMusT; rw [if_pos c1]]
set_option maxHeartbeats 4000000 in
set_option maxRecDepth 100000 in
theorem ev_X8_number (d : Nat) (m : zm) (l : Int32) (h : Int32) (hT : mOk m) : zEv (d + 3) zM_X8_number 0 0 [.ref 180, .int l, .int h] (lay m) (some (.int (mNumR m)), lay (mNumM m l h)) := by
  refine zEv_of (by decide) (fun G => Nat.le_of_ble_eq_true rfl) ?_
  show ZW _ _ _ _ 0 [some (.ref 180), some (.int l), some (.int h), none] [] _ _ _ _
  refine z_aload_n (i := 0) (q := 1) dX8_number_0 rfl rfl rfl ?_
  refine m_getI (q := 4) dX8_number_1 fl_X8_106 ⟨by decide, _, rfl, rfl⟩ rfl ?_
  refine z_if_le (tgt := 9) (q := 7) dX8_number_4 (by decide) rfl (fun c1 => ?_) (fun c1 => ?_)
  · skip
    have hf : m.1 180 17 ≤ 0 := c1
    refine z_aload_n (i := 0) (q := 10) dX8_number_9 rfl rfl rfl ?_
    refine m_callV_r (As := []) (q := 13) mk_X8_figures dX8_number_10 wd_896 wd_898 wp_38 (ci := 8) rfl ⟨by decide, _, rfl⟩ (ev_X8_figures _ _ (by repeat (with_reducible first | exact hT | refine mOk_must ?_ | refine mOk_bad ?_ | refine mOk_me ?_ | refine mOk_beg ?_ | refine mOk_u (by omega) (by omega) ?_))) rfl (by decide) rfl (Nat.zero_le _) (Nat.zero_le _) rfl ?_
    refine z_istore_n (i := 3) (ls' := [_, _, _, _]) (q := 14) dX8_number_13 rfl (by decide) rfl rfl ?_
    refine z_aload_n (i := 0) (q := 15) dX8_number_14 rfl rfl rfl ?_
    refine m_getI (q := 18) dX8_number_15 fl_X8_94 ⟨by decide, _, rfl, rfl⟩ rfl ?_
    refine z_iconst (v := 3) (q := 19) dX8_number_18 (by decide) rfl ?_
    refine z_icmp_ne (tgt := 39) (q := 22) dX8_number_19 (by decide) rfl (fun c2 => ?_) (fun c2 => ?_)
    · skip
      rw [show mNumR m = mFig m from if_pos hf, show mNumM m l h = mMusT m from (if_pos hf).trans (by rw [if_neg (show ¬ (m.1 180 14 = 3 ∧ (mFig m < l ∨ h < mFig m)) from fun q => c2 q.1)])]
      exact sg_X8_num d m hT l h (mFig m)
    · skip
      refine z_iload_n (i := 3) (q := 23) dX8_number_22 rfl rfl rfl ?_
      refine z_i2l (q := 24) dX8_number_23 rfl ?_
      refine z_iload_n (i := 1) (q := 25) dX8_number_24 rfl rfl rfl ?_
      refine z_i2l (q := 26) dX8_number_25 rfl ?_
      refine z_iload_n (i := 2) (q := 27) dX8_number_26 rfl rfl rfl ?_
      refine z_i2l (q := 28) dX8_number_27 rfl ?_
      refine m_callS_r (As := [_, _, _]) (q := 31) mk_X8_in dX8_number_28 wd_827 wd_828 (ev_X8_in _ _ _ _ _ rfl rfl) rfl (by decide) rfl (Nat.zero_le _) (Nat.zero_le _) rfl ?_
      refine zb_ne (tgt := 39) (q := 34) dX8_number_31 (by decide) rfl (fun c3 => ?_) (fun c3 => ?_)
      · skip
        rw [show mNumR m = mFig m from if_pos hf, show mNumM m l h = mMusT m from (if_pos hf).trans (by rw [if_neg (show ¬ (m.1 180 14 = 3 ∧ (mFig m < l ∨ h < mFig m)) from fun q => c3 q.2)])]
        exact sg_X8_num d m hT l h (mFig m)
      · skip
        refine z_aload_n (i := 0) (q := 35) dX8_number_34 rfl rfl rfl ?_
        refine z_iconst (v := 2) (q := 36) dX8_number_35 (by decide) rfl ?_
        refine m_callV_v (As := [_]) (q := 39) mk_X8_bad dX8_number_36 wd_888 wd_890 wp_36 (ci := 8) rfl ⟨by decide, _, rfl⟩ (ev_X8_bad _ _ _) rfl (by decide) rfl (Nat.zero_le _) (Nat.zero_le _) rfl ?_
        rw [show mNumR m = mFig m from if_pos hf, show mNumM m l h = mMusT (mBad m 2) from (if_pos hf).trans (by rw [if_pos (show m.1 180 14 = 3 ∧ (mFig m < l ∨ h < mFig m) from ⟨c2, Classical.byContradiction (fun q => c3 q)⟩)])]
        exact sg_X8_num d (mBad m 2) (mOk_bad hT) l h (mFig m)
  · skip
    refine z_iconst (v := 0) (q := 8) dX8_number_7 (by decide) rfl ?_
    refine z_ireturn dX8_number_8 rfl rfl ?_ (Nat.le_refl _) (Nat.le_refl _)
    rw [show mNumR m = 0 from if_neg c1, show mNumM m l h = m from if_neg c1]
