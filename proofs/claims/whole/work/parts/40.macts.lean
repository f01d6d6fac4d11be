/-! ===== the model: acts ===== -/
/-- n numbers of a from da on become those of b from sa on -/
def mMv (m : zm) (a da b sa n : Nat) : zm := (fun c k => if c = a ∧ da ≤ k ∧ k < da + n then m.1 b (sa + (k - da)) else m.1 c k, m.2)
theorem mMv_0 (m : zm) (a da b sa : Nat) : mMv m a da b sa 0 = m := by
  refine Prod.ext (funext fun c => funext fun k => ?_) rfl
  simp only [mMv]
  rw [if_neg (by omega)]
theorem mMv_n {m : zm} {a da b sa n c k : Nat} (h : c ≠ a) : (mMv m a da b sa n).1 c k = m.1 c k := if_neg (fun z => h z.1)
theorem mMv_s {m : zm} {a da b sa n k : Nat} {v : Int32} (hab : b ≠ a) (hk : k = da + n) (hv : v = m.1 b (sa + n)) : upI (mMv m a da b sa n) a k v = mMv m a da b sa (n + 1) := by
  subst hk
  subst hv
  refine Prod.ext (funext fun c => funext fun k => ?_) rfl
  simp only [upI, mMv]
  by_cases h : c = a ∧ k = da + n
  · rw [if_pos h, if_pos (by omega), h.2, show da + n - da = n by omega]
  · rw [if_neg h]
    by_cases h2 : c = a ∧ da ≤ k ∧ k < da + n
    · rw [if_pos h2, if_pos (by omega)]
    · rw [if_neg h2, if_neg (by omega)]
theorem mMv_s0 {m : zm} {a da b n : Nat} (hab : b ≠ a) : upI (mMv m a da b 0 n) a (da + n) ((mMv m a da b 0 n).1 b n) = mMv m a da b 0 (n + 1) := mMv_s hab rfl (by rw [mMv_n hab, Nat.zero_add])
theorem mMv_d0 {m : zm} {a b sa n : Nat} (hab : b ≠ a) : upI (mMv m a 0 b sa n) a n ((mMv m a 0 b sa n).1 b (sa + n)) = mMv m a 0 b sa (n + 1) := mMv_s hab (Nat.zero_add n).symm (mMv_n hab)
def mSh (m : zm) (i : Nat) : zm := (fun c k => if c = 186 ∧ k < i then m.1 186 (k + 68) else m.1 c k, m.2)
theorem mSh_0 (m : zm) : mSh m 0 = m := by
  refine Prod.ext (funext fun c => funext fun k => ?_) rfl
  simp [mSh]
theorem mSh_s (m : zm) (i : Nat) : upI (mSh m i) 186 i ((mSh m i).1 186 (i + 68)) = mSh m (i + 1) := by
  refine Prod.ext (funext fun c => funext fun k => ?_) rfl
  simp only [upI, mSh]
  rw [if_neg (show ¬ (True ∧ i + 68 < i) from fun q => absurd q.2 (by omega))]
  by_cases h : c = 186 ∧ k = i
  · rw [if_pos h, if_pos (by omega), h.2]
  · rw [if_neg h]
    by_cases h2 : c = 186 ∧ k < i
    · rw [if_pos h2, if_pos (by omega)]
    · rw [if_neg h2, if_neg (by omega)]
def mKeep1 (m : zm) (A : Nat) : zm := upI (mMv m 186 (68 * A) 184 0 68) 180 8 (nI (A + 1))
def mKeep (m : zm) (A : Nat) : zm := if A = 24 then mKeep1 (upI (mSh m 1564) 180 8 (nI 23)) 23 else mKeep1 m A
def mA (m : zm) : Nat := (m.1 180 8).toNatClampNeg
def mAOk (m : zm) : Prop := m.1 180 8 = nI (mA m) ∧ mA m ≤ 24
abbrev mKp (m : zm) : zm := mKeep m (mA m)
theorem mAOk_of {m : zm} {a : Nat} (h1 : m.1 180 8 = nI a) (h2 : a ≤ 24) : mAOk m ∧ mA m = a := by
  have e1 : mA m = a := by unfold mA; rw [h1, nI_clamp (by omega)]
  exact ⟨⟨by rw [e1]; exact h1, by omega⟩, e1⟩
set_option maxHeartbeats 4000000 in
set_option maxRecDepth 100000 in
theorem lp_X8_keep2 (d : Nat) (m : zm) (A : Nat) (hA : m.1 180 8 = nI A) (hA24 : A < 24) : ∀ (n : Nat) (i : Nat), 68 - i < n → i ≤ 68 → ZW zM_X8_keep (d) 0 0 51 [some (.ref 180), some (.int (nI i))] [] (lay (mMv m 186 (68 * A) 184 0 i)) 0 0 (none, lay (mKeep1 m A)) := by
  intro n
  induction n with
  | zero => intro i hm; exact absurd hm (by omega)
  | succ n ih =>
    intro i hm hi
    refine z_iload_n (i := 1) (q := 52) dX8_keep_51 rfl rfl rfl ?_
    refine z_bipush (v := 68) (q := 54) dX8_keep_52 (by decide) rfl ?_
    refine z_icmp_ge (tgt := 83) (q := 57) dX8_keep_54 (by decide) rfl (fun c1 => ?_) (fun c1 => ?_)
    · skip
      have hge : 68 ≤ i := (nI_leI (a := 68) (b := i) (by omega) (by omega)).mp c1
      have hi8 : i = 68 := by omega
      subst hi8
      refine z_aload_n (i := 0) (q := 84) dX8_keep_83 rfl rfl rfl ?_
      refine z_dup (q := 85) dX8_keep_84 rfl rfl ?_
      refine m_getI (q := 88) dX8_keep_85 fl_X8_175 ⟨by decide, _, rfl, rfl⟩ rfl ?_
      rw [mMv_n (by decide), hA]
      refine z_iconst (v := 1) (q := 89) dX8_keep_88 (by decide) rfl ?_
      refine z_iadd (q := 90) dX8_keep_89 rfl ?_
      rw [show nI A + 1 = nI (A + 1) from nI_add _ 1]
      refine m_putI (q := 93) dX8_keep_90 fp_X8_175 ⟨by decide, _, rfl, rfl⟩ ⟨rfl, rfl⟩ rfl ?_
      refine z_return dX8_keep_93 rfl ?_ (Nat.le_refl _) (Nat.le_refl _)
      rfl
    · skip
      have hlt : i < 68 := by
        rcases Nat.lt_or_ge i 68 with q | q
        · exact q
        · exact absurd ((nI_leI (a := 68) (b := i) (by omega) (by omega)).mpr q) c1
      refine z_aload_n (i := 0) (q := 58) dX8_keep_57 rfl rfl rfl ?_
      refine m_getR (r := 186) (q := 61) dX8_keep_58 fl_X8_25 ⟨by decide, _, rfl, rfl⟩ rfl ?_
      refine z_bipush (v := 68) (q := 63) dX8_keep_61 (by decide) rfl ?_
      refine z_aload_n (i := 0) (q := 64) dX8_keep_63 rfl rfl rfl ?_
      refine m_getI (q := 67) dX8_keep_64 fl_X8_175 ⟨by decide, _, rfl, rfl⟩ rfl ?_
      rw [mMv_n (by decide), hA]
      refine z_imul (q := 68) dX8_keep_67 rfl ?_
      rw [show 68 * nI A = nI (68 * A) from nI_mul 68 _]
      refine z_iload_n (i := 1) (q := 69) dX8_keep_68 rfl rfl rfl ?_
      refine z_iadd (q := 70) dX8_keep_69 rfl ?_
      rw [show nI (68 * A) + nI i = nI ((68 * A) + i) from nI_add _ _]
      refine z_aload_n (i := 0) (q := 71) dX8_keep_70 rfl rfl rfl ?_
      refine m_getR (r := 184) (q := 74) dX8_keep_71 fl_X8_19 ⟨by decide, _, rfl, rfl⟩ rfl ?_
      refine z_iload_n (i := 1) (q := 75) dX8_keep_74 rfl rfl rfl ?_
      refine m_ialdJ (N := 68) (q := 76) dX8_keep_75 ⟨by decide, _, rfl⟩ (j := i) (nI_clamp (by omega)) (vp_in_nI (by omega) (by decide)) rfl ?_
      refine m_iastJ (N := 1632) (q := 77) dX8_keep_76 ⟨by decide, _, rfl⟩ (j := ((68 * A) + i)) (nI_clamp (by omega)) (vp_in_nI (by omega) (by decide)) rfl ?_
      refine z_iinc (i := 1) (ls' := [_, _]) (v := nI (i + 1)) (q := 80) dX8_keep_77 rfl (nI_1 _) (by decide) rfl rfl ?_
      refine z_goto (tgt := 51) dX8_keep_80 (by decide) ?_
      rw [mMv_s0 (by decide)]
      exact ih (i + 1) (by omega) (by omega)
set_option maxHeartbeats 4000000 in
set_option maxRecDepth 100000 in
theorem sg_X8_keep49 (d : Nat) (m : zm) (A : Nat) (hA : m.1 180 8 = nI A) (hA24 : A < 24) : ZW zM_X8_keep (d) 0 0 49 [some (.ref 180), none] [] (lay m) 0 0 (none, lay (mKeep1 m A)) := by
  refine z_iconst (v := 0) (q := 50) dX8_keep_49 (by decide) rfl ?_
  refine z_istore_n (i := 1) (ls' := [_, _]) (q := 51) dX8_keep_50 rfl (by decide) rfl rfl ?_
  have e := lp_X8_keep2 d m A hA hA24 (68 + 1) 0 (by omega) (by omega)
  rw [mMv_0] at e
  exact e
set_option maxHeartbeats 4000000 in
set_option maxRecDepth 100000 in
theorem sg_X8_keep39 (d : Nat) (m : zm) (hA : m.1 180 8 = nI 24) : ZW zM_X8_keep (d) 0 0 39 [some (.ref 180), none] [] (lay m) 0 0 (none, lay (mKeep1 (upI m 180 8 (nI 23)) 23)) := by
  refine z_aload_n (i := 0) (q := 40) dX8_keep_39 rfl rfl rfl ?_
  refine z_dup (q := 41) dX8_keep_40 rfl rfl ?_
  refine m_getI (q := 44) dX8_keep_41 fl_X8_175 ⟨by decide, _, rfl, rfl⟩ rfl ?_
  rw [hA]
  refine z_iconst (v := 1) (q := 45) dX8_keep_44 (by decide) rfl ?_
  refine z_isub (q := 46) dX8_keep_45 rfl ?_
  rw [show nI 24 - 1 = nI 23 from nI_pred 23]
  refine m_putI (q := 49) dX8_keep_46 fp_X8_175 ⟨by decide, _, rfl, rfl⟩ ⟨rfl, rfl⟩ rfl ?_
  exact sg_X8_keep49 d _ 23 (upI_eq _ _ _ _) (by decide)
set_option maxHeartbeats 4000000 in
set_option maxRecDepth 100000 in
theorem lp_X8_keep1 (d : Nat) (m : zm) (Y : zX) : ∀ (n : Nat) (i : Nat), 1564 - i < n → i ≤ 1564 → ZW zM_X8_keep (d) 0 0 39 [some (.ref 180), none] [] (lay (mSh m 1564)) 0 0 Y → ZW zM_X8_keep (d) 0 0 11 [some (.ref 180), some (.int (nI i))] [] (lay (mSh m i)) 0 0 (Y) := by
  intro n
  induction n with
  | zero => intro i hm; exact absurd hm (by omega)
  | succ n ih =>
    intro i hm hi hY
    refine z_iload_n (i := 1) (q := 12) dX8_keep_11 rfl rfl rfl ?_
    refine z_sipush (v := 1564) (q := 15) dX8_keep_12 (by decide) rfl ?_
    refine z_icmp_ge (tgt := 39) (q := 18) dX8_keep_15 (by decide) rfl (fun c1 => ?_) (fun c1 => ?_)
    · skip
      have hge : 1564 ≤ i := (nI_leI (a := 1564) (b := i) (by omega) (by omega)).mp c1
      have hi8 : i = 1564 := by omega
      subst hi8
      exact z_loc (zle_s (zle_n zle_0)) hY
    · skip
      have hlt : i < 1564 := by
        rcases Nat.lt_or_ge i 1564 with q | q
        · exact q
        · exact absurd ((nI_leI (a := 1564) (b := i) (by omega) (by omega)).mpr q) c1
      refine z_aload_n (i := 0) (q := 19) dX8_keep_18 rfl rfl rfl ?_
      refine m_getR (r := 186) (q := 22) dX8_keep_19 fl_X8_25 ⟨by decide, _, rfl, rfl⟩ rfl ?_
      refine z_iload_n (i := 1) (q := 23) dX8_keep_22 rfl rfl rfl ?_
      refine z_aload_n (i := 0) (q := 24) dX8_keep_23 rfl rfl rfl ?_
      refine m_getR (r := 186) (q := 27) dX8_keep_24 fl_X8_25 ⟨by decide, _, rfl, rfl⟩ rfl ?_
      refine z_iload_n (i := 1) (q := 28) dX8_keep_27 rfl rfl rfl ?_
      refine z_bipush (v := 68) (q := 30) dX8_keep_28 (by decide) rfl ?_
      refine z_iadd (q := 31) dX8_keep_30 rfl ?_
      rw [show nI i + 68 = nI (i + 68) from nI_add _ 68]
      refine m_ialdJ (N := 1632) (q := 32) dX8_keep_31 ⟨by decide, _, rfl⟩ (j := (i + 68)) (nI_clamp (by omega)) (vp_in_nI (by omega) (by decide)) rfl ?_
      refine m_iastJ (N := 1632) (q := 33) dX8_keep_32 ⟨by decide, _, rfl⟩ (j := i) (nI_clamp (by omega)) (vp_in_nI (by omega) (by decide)) rfl ?_
      refine z_iinc (i := 1) (ls' := [_, _]) (v := nI (i + 1)) (q := 36) dX8_keep_33 rfl (nI_1 _) (by decide) rfl rfl ?_
      refine z_goto (tgt := 11) dX8_keep_36 (by decide) ?_
      rw [mSh_s]
      exact ih (i + 1) (by omega) (by omega) hY
set_option maxHeartbeats 4000000 in
set_option maxRecDepth 100000 in
theorem ev_X8_keep (d : Nat) (m : zm) (A : Nat) (hA : m.1 180 8 = nI A) (hA4 : A ≤ 24) : zEv (d) zM_X8_keep 0 0 [.ref 180] (lay m) (none, lay (mKeep m A)) := by
  refine zEv_of (by decide) (fun G => Nat.le_of_ble_eq_true rfl) ?_
  show ZW _ _ _ _ 0 [some (.ref 180), none] [] _ _ _ _
  refine z_aload_n (i := 0) (q := 1) dX8_keep_0 rfl rfl rfl ?_
  refine m_getI (q := 4) dX8_keep_1 fl_X8_175 ⟨by decide, _, rfl, rfl⟩ rfl ?_
  rw [hA]
  refine z_bipush (v := 24) (q := 6) dX8_keep_4 (by decide) rfl ?_
  refine z_icmp_ne (tgt := 49) (q := 9) dX8_keep_6 (by decide) rfl (fun c1 => ?_) (fun c1 => ?_)
  · skip
    have hA24 : A < 24 := by
      rcases Nat.lt_or_ge A 24 with q | q
      · exact q
      · exact absurd (by rw [show A = 24 by omega]; rfl) c1
    rw [show mKeep m A = mKeep1 m A from if_neg (by omega)]
    exact sg_X8_keep49 d m A hA hA24
  · skip
    have hA24 : A = 24 := (nI_eq (a := A) (b := 24) (by omega) (by omega)).mp c1
    subst hA24
    rw [show mKeep m 24 = mKeep1 (upI (mSh m 1564) 180 8 (nI 23)) 23 from if_pos rfl]
    refine z_iconst (v := 0) (q := 10) dX8_keep_9 (by decide) rfl ?_
    refine z_istore_n (i := 1) (ls' := [_, _]) (q := 11) dX8_keep_10 rfl (by decide) rfl rfl ?_
    have e := lp_X8_keep1 d m _ (1564 + 1) 0 (by omega) (by omega) (sg_X8_keep39 d (mSh m 1564) (by simp only [mSh]; exact hA))
    rw [mSh_0] at e
    exact e
def mSail (m : zm) (p w : Nat) : zm := upI (mAges (mKp m) p (mWy (mKp m) w 2) (mAgesBy (mKp m) p w)) 184 (36 + 8 * p + 1) (mEndOf m p w (mOf m p 1))
abbrev mGoE (m : zm) (p w : Nat) : Int32 := mEndOf m p w (mOf m p 1)
set_option maxHeartbeats 4000000 in
set_option maxRecDepth 100000 in
theorem ev_X8_goes_state (d : Nat) (m : zm) (p : Nat) (w : Nat) (h1 : mGoE m p w = (-1000000)) (hp : p < 4) (hw : w < 8) : zEv (d + 2) zM_X8_goes 0 0 [.ref 180, .int (nI p), .int (nI w)] (lay m) (some (.int (-1000002)), lay (m)) := by
  refine zEv_of (by decide) (fun G => Nat.le_of_ble_eq_true rfl) ?_
  show ZW _ _ _ _ 0 [some (.ref 180), some (.int (nI p)), some (.int (nI w)), none] [] _ _ _ _
  refine z_aload_n (i := 0) (q := 1) dX8_goes_0 rfl rfl rfl ?_
  refine z_iload_n (i := 1) (q := 2) dX8_goes_1 rfl rfl rfl ?_
  refine z_iload_n (i := 2) (q := 3) dX8_goes_2 rfl rfl rfl ?_
  refine z_aload_n (i := 0) (q := 4) dX8_goes_3 rfl rfl rfl ?_
  refine z_iload_n (i := 1) (q := 5) dX8_goes_4 rfl rfl rfl ?_
  refine z_iconst (v := 1) (q := 6) dX8_goes_5 (by decide) rfl ?_
  refine m_callV_r (As := [_, _]) (q := 9) mk_X8_of dX8_goes_6 wd_947 wd_949 wp_46 (ci := 8) rfl ⟨by decide, _, rfl⟩ (ev_X8_of _ _ p 1 (by omega) (by omega)) rfl (by simp [Value.category]) rfl (Nat.zero_le _) (Nat.zero_le _) rfl ?_
  refine m_callV_r (As := [_, _, _]) (q := 12) mk_X8_endOf dX8_goes_9 wd_951 wd_953 wp_47 (ci := 8) rfl ⟨by decide, _, rfl⟩ (ev_X8_endOf _ _ _ _ _  (by omega) (by omega)) rfl (by decide) rfl (Nat.zero_le _) (Nat.zero_le _) rfl ?_
  refine z_istore_n (i := 3) (ls' := [_, _, _, _]) (q := 13) dX8_goes_12 rfl (by decide) rfl rfl ?_
  refine z_iload_n (i := 3) (q := 14) dX8_goes_13 rfl rfl rfl ?_
  refine z_ldc (q := 16) dX8_goes_14 wd_872 rfl ?_
  refine z_icmp_ne (tgt := 22) (q := 19) dX8_goes_16 (by decide) rfl (fun c1 => ?_) (fun c1 => ?_)
  · exact absurd h1 c1
  · skip
    refine z_ldc (q := 21) dX8_goes_19 wd_959 rfl ?_
    refine z_ireturn dX8_goes_21 rfl rfl ?_ (Nat.le_refl _) (Nat.le_refl _)
    rfl
set_option maxHeartbeats 4000000 in
set_option maxRecDepth 100000 in
theorem ev_X8_goes_full (d : Nat) (m : zm) (p : Nat) (w : Nat) (h1 : ¬ mGoE m p w = (-1000000)) (h2 : ¬ mOf m p 3 + mWy m w 2 ≤ 200) (hp : p < 4) (hw : w < 8) : zEv (d + 2) zM_X8_goes 0 0 [.ref 180, .int (nI p), .int (nI w)] (lay m) (some (.int (-1000003)), lay (m)) := by
  refine zEv_of (by decide) (fun G => Nat.le_of_ble_eq_true rfl) ?_
  show ZW _ _ _ _ 0 [some (.ref 180), some (.int (nI p)), some (.int (nI w)), none] [] _ _ _ _
  refine z_aload_n (i := 0) (q := 1) dX8_goes_0 rfl rfl rfl ?_
  refine z_iload_n (i := 1) (q := 2) dX8_goes_1 rfl rfl rfl ?_
  refine z_iload_n (i := 2) (q := 3) dX8_goes_2 rfl rfl rfl ?_
  refine z_aload_n (i := 0) (q := 4) dX8_goes_3 rfl rfl rfl ?_
  refine z_iload_n (i := 1) (q := 5) dX8_goes_4 rfl rfl rfl ?_
  refine z_iconst (v := 1) (q := 6) dX8_goes_5 (by decide) rfl ?_
  refine m_callV_r (As := [_, _]) (q := 9) mk_X8_of dX8_goes_6 wd_947 wd_949 wp_46 (ci := 8) rfl ⟨by decide, _, rfl⟩ (ev_X8_of _ _ p 1 (by omega) (by omega)) rfl (by simp [Value.category]) rfl (Nat.zero_le _) (Nat.zero_le _) rfl ?_
  refine m_callV_r (As := [_, _, _]) (q := 12) mk_X8_endOf dX8_goes_9 wd_951 wd_953 wp_47 (ci := 8) rfl ⟨by decide, _, rfl⟩ (ev_X8_endOf _ _ _ _ _  (by omega) (by omega)) rfl (by decide) rfl (Nat.zero_le _) (Nat.zero_le _) rfl ?_
  refine z_istore_n (i := 3) (ls' := [_, _, _, _]) (q := 13) dX8_goes_12 rfl (by decide) rfl rfl ?_
  refine z_iload_n (i := 3) (q := 14) dX8_goes_13 rfl rfl rfl ?_
  refine z_ldc (q := 16) dX8_goes_14 wd_872 rfl ?_
  refine z_icmp_ne (tgt := 22) (q := 19) dX8_goes_16 (by decide) rfl (fun c1 => ?_) (fun c1 => ?_)
  · skip
    refine z_aload_n (i := 0) (q := 23) dX8_goes_22 rfl rfl rfl ?_
    refine z_iload_n (i := 1) (q := 24) dX8_goes_23 rfl rfl rfl ?_
    refine z_iconst (v := 3) (q := 25) dX8_goes_24 (by decide) rfl ?_
    refine m_callV_r (As := [_, _]) (q := 28) mk_X8_of dX8_goes_25 wd_947 wd_949 wp_46 (ci := 8) rfl ⟨by decide, _, rfl⟩ (ev_X8_of _ _ p 3 (by omega) (by omega)) rfl (by decide) rfl (Nat.zero_le _) (Nat.zero_le _) rfl ?_
    refine z_aload_n (i := 0) (q := 29) dX8_goes_28 rfl rfl rfl ?_
    refine z_iload_n (i := 2) (q := 30) dX8_goes_29 rfl rfl rfl ?_
    refine z_iconst (v := 2) (q := 31) dX8_goes_30 (by decide) rfl ?_
    refine m_callV_r (As := [_, _]) (q := 34) mk_X8_wayOf dX8_goes_31 wd_955 wd_957 wp_48 (ci := 8) rfl ⟨by decide, _, rfl⟩ (ev_X8_wayOf _ _ w 2 (by omega) (by omega)) rfl (by simp [Value.category]) rfl (Nat.zero_le _) (Nat.zero_le _) rfl ?_
    refine z_iadd (q := 35) dX8_goes_34 rfl ?_
    refine z_sipush (v := 200) (q := 38) dX8_goes_35 (by decide) rfl ?_
    refine z_icmp_le (tgt := 44) (q := 41) dX8_goes_38 (by decide) rfl (fun c2 => ?_) (fun c2 => ?_)
    · exact absurd c2 h2
    · skip
      refine z_ldc (q := 43) dX8_goes_41 wd_854 rfl ?_
      refine z_ireturn dX8_goes_43 rfl rfl ?_ (Nat.le_refl _) (Nat.le_refl _)
      rfl
  · exact absurd c1 h1
set_option maxHeartbeats 4000000 in
set_option maxRecDepth 100000 in
theorem ev_X8_goes (d : Nat) (m : zm) (p : Nat) (w : Nat) (h1 : ¬ mGoE m p w = (-1000000)) (h2 : mOf m p 3 + mWy m w 2 ≤ 200) (hA : mAOk m) (hp : p < 4) (hw : w < 8) : zEv (d + 2) zM_X8_goes 0 0 [.ref 180, .int (nI p), .int (nI w)] (lay m) (some (.int (mGoE m p w)), lay (mSail m p w)) := by
  refine zEv_of (by decide) (fun G => Nat.le_of_ble_eq_true rfl) ?_
  show ZW _ _ _ _ 0 [some (.ref 180), some (.int (nI p)), some (.int (nI w)), none] [] _ _ _ _
  refine z_aload_n (i := 0) (q := 1) dX8_goes_0 rfl rfl rfl ?_
  refine z_iload_n (i := 1) (q := 2) dX8_goes_1 rfl rfl rfl ?_
  refine z_iload_n (i := 2) (q := 3) dX8_goes_2 rfl rfl rfl ?_
  refine z_aload_n (i := 0) (q := 4) dX8_goes_3 rfl rfl rfl ?_
  refine z_iload_n (i := 1) (q := 5) dX8_goes_4 rfl rfl rfl ?_
  refine z_iconst (v := 1) (q := 6) dX8_goes_5 (by decide) rfl ?_
  refine m_callV_r (As := [_, _]) (q := 9) mk_X8_of dX8_goes_6 wd_947 wd_949 wp_46 (ci := 8) rfl ⟨by decide, _, rfl⟩ (ev_X8_of _ _ p 1 (by omega) (by omega)) rfl (by simp [Value.category]) rfl (Nat.zero_le _) (Nat.zero_le _) rfl ?_
  refine m_callV_r (As := [_, _, _]) (q := 12) mk_X8_endOf dX8_goes_9 wd_951 wd_953 wp_47 (ci := 8) rfl ⟨by decide, _, rfl⟩ (ev_X8_endOf _ _ _ _ _  (by omega) (by omega)) rfl (by decide) rfl (Nat.zero_le _) (Nat.zero_le _) rfl ?_
  refine z_istore_n (i := 3) (ls' := [_, _, _, _]) (q := 13) dX8_goes_12 rfl (by decide) rfl rfl ?_
  refine z_iload_n (i := 3) (q := 14) dX8_goes_13 rfl rfl rfl ?_
  refine z_ldc (q := 16) dX8_goes_14 wd_872 rfl ?_
  refine z_icmp_ne (tgt := 22) (q := 19) dX8_goes_16 (by decide) rfl (fun c1 => ?_) (fun c1 => ?_)
  · skip
    refine z_aload_n (i := 0) (q := 23) dX8_goes_22 rfl rfl rfl ?_
    refine z_iload_n (i := 1) (q := 24) dX8_goes_23 rfl rfl rfl ?_
    refine z_iconst (v := 3) (q := 25) dX8_goes_24 (by decide) rfl ?_
    refine m_callV_r (As := [_, _]) (q := 28) mk_X8_of dX8_goes_25 wd_947 wd_949 wp_46 (ci := 8) rfl ⟨by decide, _, rfl⟩ (ev_X8_of _ _ p 3 (by omega) (by omega)) rfl (by decide) rfl (Nat.zero_le _) (Nat.zero_le _) rfl ?_
    refine z_aload_n (i := 0) (q := 29) dX8_goes_28 rfl rfl rfl ?_
    refine z_iload_n (i := 2) (q := 30) dX8_goes_29 rfl rfl rfl ?_
    refine z_iconst (v := 2) (q := 31) dX8_goes_30 (by decide) rfl ?_
    refine m_callV_r (As := [_, _]) (q := 34) mk_X8_wayOf dX8_goes_31 wd_955 wd_957 wp_48 (ci := 8) rfl ⟨by decide, _, rfl⟩ (ev_X8_wayOf _ _ w 2 (by omega) (by omega)) rfl (by simp [Value.category]) rfl (Nat.zero_le _) (Nat.zero_le _) rfl ?_
    refine z_iadd (q := 35) dX8_goes_34 rfl ?_
    refine z_sipush (v := 200) (q := 38) dX8_goes_35 (by decide) rfl ?_
    refine z_icmp_le (tgt := 44) (q := 41) dX8_goes_38 (by decide) rfl (fun c2 => ?_) (fun c2 => ?_)
    · skip
      refine z_aload_n (i := 0) (q := 45) dX8_goes_44 rfl rfl rfl ?_
      refine m_callV_v (As := []) (q := 48) mk_X8_keep dX8_goes_45 wd_960 wd_962 wp_49 (ci := 8) rfl ⟨by decide, _, rfl⟩ (ev_X8_keep _ _ _  hA.1 hA.2) rfl (by decide) rfl (Nat.zero_le _) (Nat.zero_le _) rfl ?_
      refine z_aload_n (i := 0) (q := 49) dX8_goes_48 rfl rfl rfl ?_
      refine z_iload_n (i := 1) (q := 50) dX8_goes_49 rfl rfl rfl ?_
      refine z_aload_n (i := 0) (q := 51) dX8_goes_50 rfl rfl rfl ?_
      refine z_iload_n (i := 2) (q := 52) dX8_goes_51 rfl rfl rfl ?_
      refine z_iconst (v := 2) (q := 53) dX8_goes_52 (by decide) rfl ?_
      refine m_callV_r (As := [_, _]) (q := 56) mk_X8_wayOf dX8_goes_53 wd_955 wd_957 wp_48 (ci := 8) rfl ⟨by decide, _, rfl⟩ (ev_X8_wayOf _ _ w 2 (by omega) (by omega)) rfl (by simp [Value.category]) rfl (Nat.zero_le _) (Nat.zero_le _) rfl ?_
      refine z_aload_n (i := 0) (q := 57) dX8_goes_56 rfl rfl rfl ?_
      refine z_iload_n (i := 1) (q := 58) dX8_goes_57 rfl rfl rfl ?_
      refine z_iload_n (i := 2) (q := 59) dX8_goes_58 rfl rfl rfl ?_
      refine m_callV_r (As := [_, _]) (q := 62) mk_X8_agesBy dX8_goes_59 wd_964 wd_966 wp_50 (ci := 8) rfl ⟨by decide, _, rfl⟩ (ev_X8_agesBy _ _ p w (by omega) (by omega)) rfl (by simp [Value.category]) rfl (Nat.zero_le _) (Nat.zero_le _) rfl ?_
      refine m_callV_v (As := [_, _, _]) (q := 65) mk_X8_ages dX8_goes_62 wd_968 wd_970 wp_51 (ci := 8) rfl ⟨by decide, _, rfl⟩ (ev_X8_ages _ _ _ _ _  (by omega)) rfl (by decide) rfl (Nat.zero_le _) (Nat.zero_le _) rfl ?_
      refine z_aload_n (i := 0) (q := 66) dX8_goes_65 rfl rfl rfl ?_
      refine m_getR (r := 184) (q := 69) dX8_goes_66 fl_X8_19 ⟨by decide, _, rfl, rfl⟩ rfl ?_
      refine z_bipush (v := 36) (q := 71) dX8_goes_69 (by decide) rfl ?_
      refine z_bipush (v := 8) (q := 73) dX8_goes_71 (by decide) rfl ?_
      refine z_iload_n (i := 1) (q := 74) dX8_goes_73 rfl rfl rfl ?_
      refine z_imul (q := 75) dX8_goes_74 rfl ?_
      rw [show 8 * nI p = nI (8 * p) from nI_mul 8 _]
      refine z_iadd (q := 76) dX8_goes_75 rfl ?_
      rw [show 36 + nI (8 * p) = nI (36 + (8 * p)) from nI_add 36 _]
      refine z_iconst (v := 1) (q := 77) dX8_goes_76 (by decide) rfl ?_
      refine z_iadd (q := 78) dX8_goes_77 rfl ?_
      rw [show nI (36 + (8 * p)) + 1 = nI ((36 + (8 * p)) + 1) from nI_add _ 1]
      refine z_iload_n (i := 3) (q := 79) dX8_goes_78 rfl rfl rfl ?_
      refine m_iastJ (N := 68) (q := 80) dX8_goes_79 ⟨by decide, _, rfl⟩ (j := ((36 + (8 * p)) + 1)) (nI_clamp (by omega)) (vp_in_nI (by omega) (by decide)) rfl ?_
      refine z_iload_n (i := 3) (q := 81) dX8_goes_80 rfl rfl rfl ?_
      refine z_ireturn dX8_goes_81 rfl rfl ?_ (Nat.le_refl _) (Nat.le_refl _)
      rfl
    · exact absurd h2 c2
  · exact absurd c1 h1
set_option maxHeartbeats 4000000 in
set_option maxRecDepth 100000 in
theorem ev_X8_sail_bad (d : Nat) (m : zm) (p : Int32) (w : Int32) (hb : (p < 0 ∨ m.1 184 3 - 1 < p) ∨ (w < 0 ∨ m.1 184 2 - 1 < w)) : zEv (d + 3) zM_X8_sail 0 0 [.ref 180, .int p, .int w] (lay m) (some (.int (-1000001)), lay (mT m)) := by
  refine zEv_of (by decide) (fun G => Nat.le_of_ble_eq_true rfl) ?_
  show ZW _ _ _ _ 0 [some (.ref 180), some (.int p), some (.int w)] [] _ _ _ _
  refine z_aload_n (i := 0) (q := 1) dX8_sail_0 rfl rfl rfl ?_
  refine z_iconst (v := 0) (q := 2) dX8_sail_1 (by decide) rfl ?_
  refine m_putI (q := 5) dX8_sail_2 fp_X8_48 ⟨by decide, _, rfl, rfl⟩ ⟨rfl, rfl⟩ rfl ?_
  refine z_aload_n (i := 0) (q := 6) dX8_sail_5 rfl rfl rfl ?_
  refine z_iload_n (i := 1) (q := 7) dX8_sail_6 rfl rfl rfl ?_
  refine m_callV_r (As := [_]) (q := 10) mk_X8_isPerson dX8_sail_7 wd_935 wd_937 wp_43 (ci := 8) rfl ⟨by decide, _, rfl⟩ (ev_X8_isPerson _ _ _) rfl (by decide) rfl (Nat.zero_le _) (Nat.zero_le _) rfl ?_
  refine zb_eq (tgt := 30) (q := 13) dX8_sail_10 (by decide) rfl (fun c1 => ?_) (fun c1 => ?_)
  · skip
    refine z_ldc (q := 32) dX8_sail_30 wd_831 rfl ?_
    refine z_ireturn dX8_sail_32 rfl rfl ?_ (Nat.le_refl _) (Nat.le_refl _)
    rfl
  · skip
    refine z_aload_n (i := 0) (q := 14) dX8_sail_13 rfl rfl rfl ?_
    refine z_iload_n (i := 2) (q := 15) dX8_sail_14 rfl rfl rfl ?_
    refine m_callV_r (As := [_]) (q := 18) mk_X8_isWay dX8_sail_15 wd_939 wd_941 wp_44 (ci := 8) rfl ⟨by decide, _, rfl⟩ (ev_X8_isWay _ _ _) rfl (by decide) rfl (Nat.zero_le _) (Nat.zero_le _) rfl ?_
    refine zb_eq (tgt := 30) (q := 21) dX8_sail_18 (by decide) rfl (fun c2 => ?_) (fun c2 => ?_)
    · skip
      refine z_ldc (q := 32) dX8_sail_30 wd_831 rfl ?_
      refine z_ireturn dX8_sail_32 rfl rfl ?_ (Nat.le_refl _) (Nat.le_refl _)
      rfl
    · exact absurd hb (fun q => q.elim c1 c2)
set_option maxHeartbeats 4000000 in
set_option maxRecDepth 100000 in
theorem ev_X8_sail_state (d : Nat) (m : zm) (p : Nat) (w : Nat) (hn : ¬ (nI p < 0 ∨ m.1 184 3 - 1 < nI p)) (hn2 : ¬ (nI w < 0 ∨ m.1 184 2 - 1 < nI w)) (h1 : mGoE (mT m) p w = (-1000000)) (hp : p < 4) (hw : w < 8) : zEv (d + 3) zM_X8_sail 0 0 [.ref 180, .int (nI p), .int (nI w)] (lay m) (some (.int (-1000002)), lay (mT m)) := by
  refine zEv_of (by decide) (fun G => Nat.le_of_ble_eq_true rfl) ?_
  show ZW _ _ _ _ 0 [some (.ref 180), some (.int (nI p)), some (.int (nI w))] [] _ _ _ _
  refine z_aload_n (i := 0) (q := 1) dX8_sail_0 rfl rfl rfl ?_
  refine z_iconst (v := 0) (q := 2) dX8_sail_1 (by decide) rfl ?_
  refine m_putI (q := 5) dX8_sail_2 fp_X8_48 ⟨by decide, _, rfl, rfl⟩ ⟨rfl, rfl⟩ rfl ?_
  refine z_aload_n (i := 0) (q := 6) dX8_sail_5 rfl rfl rfl ?_
  refine z_iload_n (i := 1) (q := 7) dX8_sail_6 rfl rfl rfl ?_
  refine m_callV_r (As := [_]) (q := 10) mk_X8_isPerson dX8_sail_7 wd_935 wd_937 wp_43 (ci := 8) rfl ⟨by decide, _, rfl⟩ (ev_X8_isPerson _ _ _) rfl (by decide) rfl (Nat.zero_le _) (Nat.zero_le _) rfl ?_
  refine zb_eq (tgt := 30) (q := 13) dX8_sail_10 (by decide) rfl (fun c1 => ?_) (fun c1 => ?_)
  · exact absurd hn c1
  · skip
    refine z_aload_n (i := 0) (q := 14) dX8_sail_13 rfl rfl rfl ?_
    refine z_iload_n (i := 2) (q := 15) dX8_sail_14 rfl rfl rfl ?_
    refine m_callV_r (As := [_]) (q := 18) mk_X8_isWay dX8_sail_15 wd_939 wd_941 wp_44 (ci := 8) rfl ⟨by decide, _, rfl⟩ (ev_X8_isWay _ _ _) rfl (by decide) rfl (Nat.zero_le _) (Nat.zero_le _) rfl ?_
    refine zb_eq (tgt := 30) (q := 21) dX8_sail_18 (by decide) rfl (fun c2 => ?_) (fun c2 => ?_)
    · exact absurd hn2 c2
    · skip
      refine z_aload_n (i := 0) (q := 22) dX8_sail_21 rfl rfl rfl ?_
      refine z_iload_n (i := 1) (q := 23) dX8_sail_22 rfl rfl rfl ?_
      refine z_iload_n (i := 2) (q := 24) dX8_sail_23 rfl rfl rfl ?_
      refine m_callV_r (As := [_, _]) (q := 27) mk_X8_goes dX8_sail_24 wd_943 wd_945 wp_45 (ci := 8) rfl ⟨by decide, _, rfl⟩ (ev_X8_goes_state _ (mT m) p w h1 hp hw) rfl (by decide) rfl (Nat.zero_le _) (Nat.zero_le _) rfl ?_
      refine z_goto (tgt := 32) dX8_sail_27 (by decide) ?_
      refine z_ireturn dX8_sail_32 rfl rfl ?_ (Nat.le_refl _) (Nat.le_refl _)
      rfl
set_option maxHeartbeats 4000000 in
set_option maxRecDepth 100000 in
theorem ev_X8_sail_full (d : Nat) (m : zm) (p : Nat) (w : Nat) (hn : ¬ (nI p < 0 ∨ m.1 184 3 - 1 < nI p)) (hn2 : ¬ (nI w < 0 ∨ m.1 184 2 - 1 < nI w)) (h1 : ¬ mGoE (mT m) p w = (-1000000)) (h2 : ¬ mOf (mT m) p 3 + mWy (mT m) w 2 ≤ 200) (hp : p < 4) (hw : w < 8) : zEv (d + 3) zM_X8_sail 0 0 [.ref 180, .int (nI p), .int (nI w)] (lay m) (some (.int (-1000003)), lay (mT m)) := by
  refine zEv_of (by decide) (fun G => Nat.le_of_ble_eq_true rfl) ?_
  show ZW _ _ _ _ 0 [some (.ref 180), some (.int (nI p)), some (.int (nI w))] [] _ _ _ _
  refine z_aload_n (i := 0) (q := 1) dX8_sail_0 rfl rfl rfl ?_
  refine z_iconst (v := 0) (q := 2) dX8_sail_1 (by decide) rfl ?_
  refine m_putI (q := 5) dX8_sail_2 fp_X8_48 ⟨by decide, _, rfl, rfl⟩ ⟨rfl, rfl⟩ rfl ?_
  refine z_aload_n (i := 0) (q := 6) dX8_sail_5 rfl rfl rfl ?_
  refine z_iload_n (i := 1) (q := 7) dX8_sail_6 rfl rfl rfl ?_
  refine m_callV_r (As := [_]) (q := 10) mk_X8_isPerson dX8_sail_7 wd_935 wd_937 wp_43 (ci := 8) rfl ⟨by decide, _, rfl⟩ (ev_X8_isPerson _ _ _) rfl (by decide) rfl (Nat.zero_le _) (Nat.zero_le _) rfl ?_
  refine zb_eq (tgt := 30) (q := 13) dX8_sail_10 (by decide) rfl (fun c1 => ?_) (fun c1 => ?_)
  · exact absurd hn c1
  · skip
    refine z_aload_n (i := 0) (q := 14) dX8_sail_13 rfl rfl rfl ?_
    refine z_iload_n (i := 2) (q := 15) dX8_sail_14 rfl rfl rfl ?_
    refine m_callV_r (As := [_]) (q := 18) mk_X8_isWay dX8_sail_15 wd_939 wd_941 wp_44 (ci := 8) rfl ⟨by decide, _, rfl⟩ (ev_X8_isWay _ _ _) rfl (by decide) rfl (Nat.zero_le _) (Nat.zero_le _) rfl ?_
    refine zb_eq (tgt := 30) (q := 21) dX8_sail_18 (by decide) rfl (fun c2 => ?_) (fun c2 => ?_)
    · exact absurd hn2 c2
    · skip
      refine z_aload_n (i := 0) (q := 22) dX8_sail_21 rfl rfl rfl ?_
      refine z_iload_n (i := 1) (q := 23) dX8_sail_22 rfl rfl rfl ?_
      refine z_iload_n (i := 2) (q := 24) dX8_sail_23 rfl rfl rfl ?_
      refine m_callV_r (As := [_, _]) (q := 27) mk_X8_goes dX8_sail_24 wd_943 wd_945 wp_45 (ci := 8) rfl ⟨by decide, _, rfl⟩ (ev_X8_goes_full _ (mT m) p w h1 h2 hp hw) rfl (by decide) rfl (Nat.zero_le _) (Nat.zero_le _) rfl ?_
      refine z_goto (tgt := 32) dX8_sail_27 (by decide) ?_
      refine z_ireturn dX8_sail_32 rfl rfl ?_ (Nat.le_refl _) (Nat.le_refl _)
      rfl
set_option maxHeartbeats 4000000 in
set_option maxRecDepth 100000 in
theorem ev_X8_sail_ok (d : Nat) (m : zm) (p : Nat) (w : Nat) (hn : ¬ (nI p < 0 ∨ m.1 184 3 - 1 < nI p)) (hn2 : ¬ (nI w < 0 ∨ m.1 184 2 - 1 < nI w)) (h1 : ¬ mGoE (mT m) p w = (-1000000)) (h2 : mOf (mT m) p 3 + mWy (mT m) w 2 ≤ 200) (hA : mAOk (mT m)) (hp : p < 4) (hw : w < 8) : zEv (d + 3) zM_X8_sail 0 0 [.ref 180, .int (nI p), .int (nI w)] (lay m) (some (.int (mGoE (mT m) p w)), lay (mSail (mT m) p w)) := by
  refine zEv_of (by decide) (fun G => Nat.le_of_ble_eq_true rfl) ?_
  show ZW _ _ _ _ 0 [some (.ref 180), some (.int (nI p)), some (.int (nI w))] [] _ _ _ _
  refine z_aload_n (i := 0) (q := 1) dX8_sail_0 rfl rfl rfl ?_
  refine z_iconst (v := 0) (q := 2) dX8_sail_1 (by decide) rfl ?_
  refine m_putI (q := 5) dX8_sail_2 fp_X8_48 ⟨by decide, _, rfl, rfl⟩ ⟨rfl, rfl⟩ rfl ?_
  refine z_aload_n (i := 0) (q := 6) dX8_sail_5 rfl rfl rfl ?_
  refine z_iload_n (i := 1) (q := 7) dX8_sail_6 rfl rfl rfl ?_
  refine m_callV_r (As := [_]) (q := 10) mk_X8_isPerson dX8_sail_7 wd_935 wd_937 wp_43 (ci := 8) rfl ⟨by decide, _, rfl⟩ (ev_X8_isPerson _ _ _) rfl (by decide) rfl (Nat.zero_le _) (Nat.zero_le _) rfl ?_
  refine zb_eq (tgt := 30) (q := 13) dX8_sail_10 (by decide) rfl (fun c1 => ?_) (fun c1 => ?_)
  · exact absurd hn c1
  · skip
    refine z_aload_n (i := 0) (q := 14) dX8_sail_13 rfl rfl rfl ?_
    refine z_iload_n (i := 2) (q := 15) dX8_sail_14 rfl rfl rfl ?_
    refine m_callV_r (As := [_]) (q := 18) mk_X8_isWay dX8_sail_15 wd_939 wd_941 wp_44 (ci := 8) rfl ⟨by decide, _, rfl⟩ (ev_X8_isWay _ _ _) rfl (by decide) rfl (Nat.zero_le _) (Nat.zero_le _) rfl ?_
    refine zb_eq (tgt := 30) (q := 21) dX8_sail_18 (by decide) rfl (fun c2 => ?_) (fun c2 => ?_)
    · exact absurd hn2 c2
    · skip
      refine z_aload_n (i := 0) (q := 22) dX8_sail_21 rfl rfl rfl ?_
      refine z_iload_n (i := 1) (q := 23) dX8_sail_22 rfl rfl rfl ?_
      refine z_iload_n (i := 2) (q := 24) dX8_sail_23 rfl rfl rfl ?_
      refine m_callV_r (As := [_, _]) (q := 27) mk_X8_goes dX8_sail_24 wd_943 wd_945 wp_45 (ci := 8) rfl ⟨by decide, _, rfl⟩ (ev_X8_goes _ (mT m) p w h1 h2 hA hp hw) rfl (by decide) rfl (Nat.zero_le _) (Nat.zero_le _) rfl ?_
      refine z_goto (tgt := 32) dX8_sail_27 (by decide) ?_
      refine z_ireturn dX8_sail_32 rfl rfl ?_ (Nat.le_refl _) (Nat.le_refl _)
      rfl
set_option maxHeartbeats 4000000 in
set_option maxRecDepth 100000 in
theorem ev_X8_stay_bad (d : Nat) (m : zm) (p : Int32) (z : Int32) (hb : (p < 0 ∨ m.1 184 3 - 1 < p) ∨ (z < 1 ∨ 99 < z)) : zEv (d + 2) zM_X8_stay 0 0 [.ref 180, .int p, .int z] (lay m) (some (.int (-1000001)), lay (mT m)) := by
  refine zEv_of (by decide) (fun G => Nat.le_of_ble_eq_true rfl) ?_
  show ZW _ _ _ _ 0 [some (.ref 180), some (.int p), some (.int z)] [] _ _ _ _
  refine z_aload_n (i := 0) (q := 1) dX8_stay_0 rfl rfl rfl ?_
  refine z_iconst (v := 0) (q := 2) dX8_stay_1 (by decide) rfl ?_
  refine m_putI (q := 5) dX8_stay_2 fp_X8_48 ⟨by decide, _, rfl, rfl⟩ ⟨rfl, rfl⟩ rfl ?_
  refine z_aload_n (i := 0) (q := 6) dX8_stay_5 rfl rfl rfl ?_
  refine z_iload_n (i := 1) (q := 7) dX8_stay_6 rfl rfl rfl ?_
  refine m_callV_r (As := [_]) (q := 10) mk_X8_isPerson dX8_stay_7 wd_935 wd_937 wp_43 (ci := 8) rfl ⟨by decide, _, rfl⟩ (ev_X8_isPerson _ _ _) rfl (by decide) rfl (Nat.zero_le _) (Nat.zero_le _) rfl ?_
  refine zb_eq (tgt := 25) (q := 13) dX8_stay_10 (by decide) rfl (fun c1 => ?_) (fun c1 => ?_)
  · skip
    refine z_ldc (q := 27) dX8_stay_25 wd_831 rfl ?_
    refine z_ireturn dX8_stay_27 rfl rfl ?_ (Nat.le_refl _) (Nat.le_refl _)
    rfl
  · skip
    refine z_iload_n (i := 2) (q := 14) dX8_stay_13 rfl rfl rfl ?_
    refine z_i2l (q := 15) dX8_stay_14 rfl ?_
    refine z_lconst (v := 1) (q := 16) dX8_stay_15 (by decide) rfl ?_
    refine z_ldc2 (q := 19) dX8_stay_16 wd_981 rfl ?_
    refine m_callS_r (As := [_, _, _]) (q := 22) mk_X8_in dX8_stay_19 wd_827 wd_828 (ev_X8_in _ _ _ (1) (99) (by decide) (by decide)) rfl (by decide) rfl (Nat.zero_le _) (Nat.zero_le _) rfl ?_
    refine zb_ne (tgt := 28) (q := 25) dX8_stay_22 (by decide) rfl (fun c2 => ?_) (fun c2 => ?_)
    · exact absurd hb (fun q => q.elim c1 c2)
    · skip
      refine z_ldc (q := 27) dX8_stay_25 wd_831 rfl ?_
      refine z_ireturn dX8_stay_27 rfl rfl ?_ (Nat.le_refl _) (Nat.le_refl _)
      rfl
set_option maxHeartbeats 4000000 in
set_option maxRecDepth 100000 in
theorem ev_X8_stay_full (d : Nat) (m : zm) (p : Nat) (z : Int32) (hn : ¬ (nI p < 0 ∨ m.1 184 3 - 1 < nI p)) (h1 : ¬ (z < 1 ∨ 99 < z)) (h2 : ¬ mOf (mT m) p 3 + z ≤ 200) (hp : p < 4) : zEv (d + 2) zM_X8_stay 0 0 [.ref 180, .int (nI p), .int z] (lay m) (some (.int (-1000003)), lay (mT m)) := by
  refine zEv_of (by decide) (fun G => Nat.le_of_ble_eq_true rfl) ?_
  show ZW _ _ _ _ 0 [some (.ref 180), some (.int (nI p)), some (.int z)] [] _ _ _ _
  refine z_aload_n (i := 0) (q := 1) dX8_stay_0 rfl rfl rfl ?_
  refine z_iconst (v := 0) (q := 2) dX8_stay_1 (by decide) rfl ?_
  refine m_putI (q := 5) dX8_stay_2 fp_X8_48 ⟨by decide, _, rfl, rfl⟩ ⟨rfl, rfl⟩ rfl ?_
  refine z_aload_n (i := 0) (q := 6) dX8_stay_5 rfl rfl rfl ?_
  refine z_iload_n (i := 1) (q := 7) dX8_stay_6 rfl rfl rfl ?_
  refine m_callV_r (As := [_]) (q := 10) mk_X8_isPerson dX8_stay_7 wd_935 wd_937 wp_43 (ci := 8) rfl ⟨by decide, _, rfl⟩ (ev_X8_isPerson _ _ _) rfl (by decide) rfl (Nat.zero_le _) (Nat.zero_le _) rfl ?_
  refine zb_eq (tgt := 25) (q := 13) dX8_stay_10 (by decide) rfl (fun c1 => ?_) (fun c1 => ?_)
  · exact absurd hn c1
  · skip
    refine z_iload_n (i := 2) (q := 14) dX8_stay_13 rfl rfl rfl ?_
    refine z_i2l (q := 15) dX8_stay_14 rfl ?_
    refine z_lconst (v := 1) (q := 16) dX8_stay_15 (by decide) rfl ?_
    refine z_ldc2 (q := 19) dX8_stay_16 wd_981 rfl ?_
    refine m_callS_r (As := [_, _, _]) (q := 22) mk_X8_in dX8_stay_19 wd_827 wd_828 (ev_X8_in _ _ _ (1) (99) (by decide) (by decide)) rfl (by decide) rfl (Nat.zero_le _) (Nat.zero_le _) rfl ?_
    refine zb_ne (tgt := 28) (q := 25) dX8_stay_22 (by decide) rfl (fun c2 => ?_) (fun c2 => ?_)
    · skip
      refine z_aload_n (i := 0) (q := 29) dX8_stay_28 rfl rfl rfl ?_
      refine z_iload_n (i := 1) (q := 30) dX8_stay_29 rfl rfl rfl ?_
      refine z_iconst (v := 3) (q := 31) dX8_stay_30 (by decide) rfl ?_
      refine m_callV_r (As := [_, _]) (q := 34) mk_X8_of dX8_stay_31 wd_947 wd_949 wp_46 (ci := 8) rfl ⟨by decide, _, rfl⟩ (ev_X8_of _ _ p 3 (by omega) (by omega)) rfl (by decide) rfl (Nat.zero_le _) (Nat.zero_le _) rfl ?_
      refine z_iload_n (i := 2) (q := 35) dX8_stay_34 rfl rfl rfl ?_
      refine z_iadd (q := 36) dX8_stay_35 rfl ?_
      refine z_sipush (v := 200) (q := 39) dX8_stay_36 (by decide) rfl ?_
      refine z_icmp_le (tgt := 45) (q := 42) dX8_stay_39 (by decide) rfl (fun c3 => ?_) (fun c3 => ?_)
      · exact absurd c3 h2
      · skip
        refine z_ldc (q := 44) dX8_stay_42 wd_854 rfl ?_
        refine z_ireturn dX8_stay_44 rfl rfl ?_ (Nat.le_refl _) (Nat.le_refl _)
        rfl
    · exact absurd h1 c2
set_option maxHeartbeats 4000000 in
set_option maxRecDepth 100000 in
theorem ev_X8_stay (d : Nat) (m : zm) (p : Nat) (z : Int32) (hn : ¬ (nI p < 0 ∨ m.1 184 3 - 1 < nI p)) (h1 : ¬ (z < 1 ∨ 99 < z)) (h2 : mOf (mT m) p 3 + z ≤ 200) (hA : mAOk (mT m)) (hp : p < 4) : zEv (d + 2) zM_X8_stay 0 0 [.ref 180, .int (nI p), .int z] (lay m) (some (.int (mOf (mAges (mKp (mT m)) p z z) p 4)), lay (mAges (mKp (mT m)) p z z)) := by
  refine zEv_of (by decide) (fun G => Nat.le_of_ble_eq_true rfl) ?_
  show ZW _ _ _ _ 0 [some (.ref 180), some (.int (nI p)), some (.int z)] [] _ _ _ _
  refine z_aload_n (i := 0) (q := 1) dX8_stay_0 rfl rfl rfl ?_
  refine z_iconst (v := 0) (q := 2) dX8_stay_1 (by decide) rfl ?_
  refine m_putI (q := 5) dX8_stay_2 fp_X8_48 ⟨by decide, _, rfl, rfl⟩ ⟨rfl, rfl⟩ rfl ?_
  refine z_aload_n (i := 0) (q := 6) dX8_stay_5 rfl rfl rfl ?_
  refine z_iload_n (i := 1) (q := 7) dX8_stay_6 rfl rfl rfl ?_
  refine m_callV_r (As := [_]) (q := 10) mk_X8_isPerson dX8_stay_7 wd_935 wd_937 wp_43 (ci := 8) rfl ⟨by decide, _, rfl⟩ (ev_X8_isPerson _ _ _) rfl (by decide) rfl (Nat.zero_le _) (Nat.zero_le _) rfl ?_
  refine zb_eq (tgt := 25) (q := 13) dX8_stay_10 (by decide) rfl (fun c1 => ?_) (fun c1 => ?_)
  · exact absurd hn c1
  · skip
    refine z_iload_n (i := 2) (q := 14) dX8_stay_13 rfl rfl rfl ?_
    refine z_i2l (q := 15) dX8_stay_14 rfl ?_
    refine z_lconst (v := 1) (q := 16) dX8_stay_15 (by decide) rfl ?_
    refine z_ldc2 (q := 19) dX8_stay_16 wd_981 rfl ?_
    refine m_callS_r (As := [_, _, _]) (q := 22) mk_X8_in dX8_stay_19 wd_827 wd_828 (ev_X8_in _ _ _ (1) (99) (by decide) (by decide)) rfl (by decide) rfl (Nat.zero_le _) (Nat.zero_le _) rfl ?_
    refine zb_ne (tgt := 28) (q := 25) dX8_stay_22 (by decide) rfl (fun c2 => ?_) (fun c2 => ?_)
    · skip
      refine z_aload_n (i := 0) (q := 29) dX8_stay_28 rfl rfl rfl ?_
      refine z_iload_n (i := 1) (q := 30) dX8_stay_29 rfl rfl rfl ?_
      refine z_iconst (v := 3) (q := 31) dX8_stay_30 (by decide) rfl ?_
      refine m_callV_r (As := [_, _]) (q := 34) mk_X8_of dX8_stay_31 wd_947 wd_949 wp_46 (ci := 8) rfl ⟨by decide, _, rfl⟩ (ev_X8_of _ _ p 3 (by omega) (by omega)) rfl (by decide) rfl (Nat.zero_le _) (Nat.zero_le _) rfl ?_
      refine z_iload_n (i := 2) (q := 35) dX8_stay_34 rfl rfl rfl ?_
      refine z_iadd (q := 36) dX8_stay_35 rfl ?_
      refine z_sipush (v := 200) (q := 39) dX8_stay_36 (by decide) rfl ?_
      refine z_icmp_le (tgt := 45) (q := 42) dX8_stay_39 (by decide) rfl (fun c3 => ?_) (fun c3 => ?_)
      · skip
        refine z_aload_n (i := 0) (q := 46) dX8_stay_45 rfl rfl rfl ?_
        refine m_callV_v (As := []) (q := 49) mk_X8_keep dX8_stay_46 wd_960 wd_962 wp_49 (ci := 8) rfl ⟨by decide, _, rfl⟩ (ev_X8_keep _ _ _  hA.1 hA.2) rfl (by decide) rfl (Nat.zero_le _) (Nat.zero_le _) rfl ?_
        refine z_aload_n (i := 0) (q := 50) dX8_stay_49 rfl rfl rfl ?_
        refine z_iload_n (i := 1) (q := 51) dX8_stay_50 rfl rfl rfl ?_
        refine z_iload_n (i := 2) (q := 52) dX8_stay_51 rfl rfl rfl ?_
        refine z_iload_n (i := 2) (q := 53) dX8_stay_52 rfl rfl rfl ?_
        refine m_callV_v (As := [_, _, _]) (q := 56) mk_X8_ages dX8_stay_53 wd_968 wd_970 wp_51 (ci := 8) rfl ⟨by decide, _, rfl⟩ (ev_X8_ages _ _ _ _ _  (by omega)) rfl (by decide) rfl (Nat.zero_le _) (Nat.zero_le _) rfl ?_
        refine z_aload_n (i := 0) (q := 57) dX8_stay_56 rfl rfl rfl ?_
        refine z_iload_n (i := 1) (q := 58) dX8_stay_57 rfl rfl rfl ?_
        refine z_iconst (v := 4) (q := 59) dX8_stay_58 (by decide) rfl ?_
        refine m_callV_r (As := [_, _]) (q := 62) mk_X8_of dX8_stay_59 wd_947 wd_949 wp_46 (ci := 8) rfl ⟨by decide, _, rfl⟩ (ev_X8_of _ _ p 4 (by omega) (by omega)) rfl (by decide) rfl (Nat.zero_le _) (Nat.zero_le _) rfl ?_
        refine z_ireturn dX8_stay_62 rfl rfl ?_ (Nat.le_refl _) (Nat.le_refl _)
        rfl
      · exact absurd h2 c3
    · exact absurd h1 c2
def mMeetBy (m : zm) (a b : Nat) : Int32 := mOf (mKp m) a 3 - mOf (mKp m) b 3
def mMeet (m : zm) (a b : Nat) : zm := if 0 ≤ mMeetBy m a b then mAges (mKp m) b (mMeetBy m a b) (mMeetBy m a b) else mAges (mKp m) a (-(mMeetBy m a b)) (-(mMeetBy m a b))
set_option maxHeartbeats 4000000 in
set_option maxRecDepth 100000 in
theorem ev_X8_meet_bad (d : Nat) (m : zm) (a : Int32) (b : Int32) (hb : (a < 0 ∨ m.1 184 3 - 1 < a) ∨ (b < 0 ∨ m.1 184 3 - 1 < b) ∨ a = b) : zEv (d + 2) zM_X8_meet 0 0 [.ref 180, .int a, .int b] (lay m) (some (.int (-1000001)), lay (mT m)) := by
  refine zEv_of (by decide) (fun G => Nat.le_of_ble_eq_true rfl) ?_
  show ZW _ _ _ _ 0 [some (.ref 180), some (.int a), some (.int b), none] [] _ _ _ _
  refine z_aload_n (i := 0) (q := 1) dX8_meet_0 rfl rfl rfl ?_
  refine z_iconst (v := 0) (q := 2) dX8_meet_1 (by decide) rfl ?_
  refine m_putI (q := 5) dX8_meet_2 fp_X8_48 ⟨by decide, _, rfl, rfl⟩ ⟨rfl, rfl⟩ rfl ?_
  refine z_aload_n (i := 0) (q := 6) dX8_meet_5 rfl rfl rfl ?_
  refine z_iload_n (i := 1) (q := 7) dX8_meet_6 rfl rfl rfl ?_
  refine m_callV_r (As := [_]) (q := 10) mk_X8_isPerson dX8_meet_7 wd_935 wd_937 wp_43 (ci := 8) rfl ⟨by decide, _, rfl⟩ (ev_X8_isPerson _ _ _) rfl (by decide) rfl (Nat.zero_le _) (Nat.zero_le _) rfl ?_
  refine zb_eq (tgt := 26) (q := 13) dX8_meet_10 (by decide) rfl (fun c1 => ?_) (fun c1 => ?_)
  · skip
    refine z_ldc (q := 28) dX8_meet_26 wd_831 rfl ?_
    refine z_ireturn dX8_meet_28 rfl rfl ?_ (Nat.le_refl _) (Nat.le_refl _)
    rfl
  · skip
    refine z_aload_n (i := 0) (q := 14) dX8_meet_13 rfl rfl rfl ?_
    refine z_iload_n (i := 2) (q := 15) dX8_meet_14 rfl rfl rfl ?_
    refine m_callV_r (As := [_]) (q := 18) mk_X8_isPerson dX8_meet_15 wd_935 wd_937 wp_43 (ci := 8) rfl ⟨by decide, _, rfl⟩ (ev_X8_isPerson _ _ _) rfl (by decide) rfl (Nat.zero_le _) (Nat.zero_le _) rfl ?_
    refine zb_eq (tgt := 26) (q := 21) dX8_meet_18 (by decide) rfl (fun c2 => ?_) (fun c2 => ?_)
    · skip
      refine z_ldc (q := 28) dX8_meet_26 wd_831 rfl ?_
      refine z_ireturn dX8_meet_28 rfl rfl ?_ (Nat.le_refl _) (Nat.le_refl _)
      rfl
    · skip
      refine z_iload_n (i := 1) (q := 22) dX8_meet_21 rfl rfl rfl ?_
      refine z_iload_n (i := 2) (q := 23) dX8_meet_22 rfl rfl rfl ?_
      refine z_icmp_ne (tgt := 29) (q := 26) dX8_meet_23 (by decide) rfl (fun c3 => ?_) (fun c3 => ?_)
      · exact absurd hb (fun q => q.elim c1 (fun q => q.elim c2 c3))
      · skip
        refine z_ldc (q := 28) dX8_meet_26 wd_831 rfl ?_
        refine z_ireturn dX8_meet_28 rfl rfl ?_ (Nat.le_refl _) (Nat.le_refl _)
        rfl
set_option maxHeartbeats 4000000 in
set_option maxRecDepth 100000 in
theorem ev_X8_meet_state (d : Nat) (m : zm) (a : Nat) (b : Nat) (hn : ¬ (nI a < 0 ∨ m.1 184 3 - 1 < nI a)) (hn2 : ¬ (nI b < 0 ∨ m.1 184 3 - 1 < nI b)) (hab : ¬ nI a = nI b) (h3 : ¬ mOf (mT m) a 1 = mOf (mT m) b 1) (ha : a < 4) (hb : b < 4) : zEv (d + 2) zM_X8_meet 0 0 [.ref 180, .int (nI a), .int (nI b)] (lay m) (some (.int (-1000002)), lay (mT m)) := by
  refine zEv_of (by decide) (fun G => Nat.le_of_ble_eq_true rfl) ?_
  show ZW _ _ _ _ 0 [some (.ref 180), some (.int (nI a)), some (.int (nI b)), none] [] _ _ _ _
  refine z_aload_n (i := 0) (q := 1) dX8_meet_0 rfl rfl rfl ?_
  refine z_iconst (v := 0) (q := 2) dX8_meet_1 (by decide) rfl ?_
  refine m_putI (q := 5) dX8_meet_2 fp_X8_48 ⟨by decide, _, rfl, rfl⟩ ⟨rfl, rfl⟩ rfl ?_
  refine z_aload_n (i := 0) (q := 6) dX8_meet_5 rfl rfl rfl ?_
  refine z_iload_n (i := 1) (q := 7) dX8_meet_6 rfl rfl rfl ?_
  refine m_callV_r (As := [_]) (q := 10) mk_X8_isPerson dX8_meet_7 wd_935 wd_937 wp_43 (ci := 8) rfl ⟨by decide, _, rfl⟩ (ev_X8_isPerson _ _ _) rfl (by decide) rfl (Nat.zero_le _) (Nat.zero_le _) rfl ?_
  refine zb_eq (tgt := 26) (q := 13) dX8_meet_10 (by decide) rfl (fun c1 => ?_) (fun c1 => ?_)
  · exact absurd hn c1
  · skip
    refine z_aload_n (i := 0) (q := 14) dX8_meet_13 rfl rfl rfl ?_
    refine z_iload_n (i := 2) (q := 15) dX8_meet_14 rfl rfl rfl ?_
    refine m_callV_r (As := [_]) (q := 18) mk_X8_isPerson dX8_meet_15 wd_935 wd_937 wp_43 (ci := 8) rfl ⟨by decide, _, rfl⟩ (ev_X8_isPerson _ _ _) rfl (by decide) rfl (Nat.zero_le _) (Nat.zero_le _) rfl ?_
    refine zb_eq (tgt := 26) (q := 21) dX8_meet_18 (by decide) rfl (fun c2 => ?_) (fun c2 => ?_)
    · exact absurd hn2 c2
    · skip
      refine z_iload_n (i := 1) (q := 22) dX8_meet_21 rfl rfl rfl ?_
      refine z_iload_n (i := 2) (q := 23) dX8_meet_22 rfl rfl rfl ?_
      refine z_icmp_ne (tgt := 29) (q := 26) dX8_meet_23 (by decide) rfl (fun c3 => ?_) (fun c3 => ?_)
      · skip
        refine z_aload_n (i := 0) (q := 30) dX8_meet_29 rfl rfl rfl ?_
        refine z_iload_n (i := 1) (q := 31) dX8_meet_30 rfl rfl rfl ?_
        refine z_iconst (v := 1) (q := 32) dX8_meet_31 (by decide) rfl ?_
        refine m_callV_r (As := [_, _]) (q := 35) mk_X8_of dX8_meet_32 wd_947 wd_949 wp_46 (ci := 8) rfl ⟨by decide, _, rfl⟩ (ev_X8_of _ _ a 1 (by omega) (by omega)) rfl (by decide) rfl (Nat.zero_le _) (Nat.zero_le _) rfl ?_
        refine z_aload_n (i := 0) (q := 36) dX8_meet_35 rfl rfl rfl ?_
        refine z_iload_n (i := 2) (q := 37) dX8_meet_36 rfl rfl rfl ?_
        refine z_iconst (v := 1) (q := 38) dX8_meet_37 (by decide) rfl ?_
        refine m_callV_r (As := [_, _]) (q := 41) mk_X8_of dX8_meet_38 wd_947 wd_949 wp_46 (ci := 8) rfl ⟨by decide, _, rfl⟩ (ev_X8_of _ _ b 1 (by omega) (by omega)) rfl (by simp [Value.category]) rfl (Nat.zero_le _) (Nat.zero_le _) rfl ?_
        refine z_icmp_eq (tgt := 47) (q := 44) dX8_meet_41 (by decide) rfl (fun c4 => ?_) (fun c4 => ?_)
        · exact absurd c4 h3
        · skip
          refine z_ldc (q := 46) dX8_meet_44 wd_959 rfl ?_
          refine z_ireturn dX8_meet_46 rfl rfl ?_ (Nat.le_refl _) (Nat.le_refl _)
          rfl
      · exact absurd c3 hab
set_option maxHeartbeats 4000000 in
set_option maxRecDepth 100000 in
theorem ev_X8_meet (d : Nat) (m : zm) (a : Nat) (b : Nat) (hn : ¬ (nI a < 0 ∨ m.1 184 3 - 1 < nI a)) (hn2 : ¬ (nI b < 0 ∨ m.1 184 3 - 1 < nI b)) (hab : ¬ nI a = nI b) (h3 : mOf (mT m) a 1 = mOf (mT m) b 1) (hA : mAOk (mT m)) (ha : a < 4) (hb : b < 4) : zEv (d + 2) zM_X8_meet 0 0 [.ref 180, .int (nI a), .int (nI b)] (lay m) (some (.int (mOf (mMeet (mT m) a b) a 4 - mOf (mMeet (mT m) a b) b 4)), lay (mMeet (mT m) a b)) := by
  refine zEv_of (by decide) (fun G => Nat.le_of_ble_eq_true rfl) ?_
  show ZW _ _ _ _ 0 [some (.ref 180), some (.int (nI a)), some (.int (nI b)), none] [] _ _ _ _
  refine z_aload_n (i := 0) (q := 1) dX8_meet_0 rfl rfl rfl ?_
  refine z_iconst (v := 0) (q := 2) dX8_meet_1 (by decide) rfl ?_
  refine m_putI (q := 5) dX8_meet_2 fp_X8_48 ⟨by decide, _, rfl, rfl⟩ ⟨rfl, rfl⟩ rfl ?_
  refine z_aload_n (i := 0) (q := 6) dX8_meet_5 rfl rfl rfl ?_
  refine z_iload_n (i := 1) (q := 7) dX8_meet_6 rfl rfl rfl ?_
  refine m_callV_r (As := [_]) (q := 10) mk_X8_isPerson dX8_meet_7 wd_935 wd_937 wp_43 (ci := 8) rfl ⟨by decide, _, rfl⟩ (ev_X8_isPerson _ _ _) rfl (by decide) rfl (Nat.zero_le _) (Nat.zero_le _) rfl ?_
  refine zb_eq (tgt := 26) (q := 13) dX8_meet_10 (by decide) rfl (fun c1 => ?_) (fun c1 => ?_)
  · exact absurd hn c1
  · skip
    refine z_aload_n (i := 0) (q := 14) dX8_meet_13 rfl rfl rfl ?_
    refine z_iload_n (i := 2) (q := 15) dX8_meet_14 rfl rfl rfl ?_
    refine m_callV_r (As := [_]) (q := 18) mk_X8_isPerson dX8_meet_15 wd_935 wd_937 wp_43 (ci := 8) rfl ⟨by decide, _, rfl⟩ (ev_X8_isPerson _ _ _) rfl (by decide) rfl (Nat.zero_le _) (Nat.zero_le _) rfl ?_
    refine zb_eq (tgt := 26) (q := 21) dX8_meet_18 (by decide) rfl (fun c2 => ?_) (fun c2 => ?_)
    · exact absurd hn2 c2
    · skip
      refine z_iload_n (i := 1) (q := 22) dX8_meet_21 rfl rfl rfl ?_
      refine z_iload_n (i := 2) (q := 23) dX8_meet_22 rfl rfl rfl ?_
      refine z_icmp_ne (tgt := 29) (q := 26) dX8_meet_23 (by decide) rfl (fun c3 => ?_) (fun c3 => ?_)
      · skip
        refine z_aload_n (i := 0) (q := 30) dX8_meet_29 rfl rfl rfl ?_
        refine z_iload_n (i := 1) (q := 31) dX8_meet_30 rfl rfl rfl ?_
        refine z_iconst (v := 1) (q := 32) dX8_meet_31 (by decide) rfl ?_
        refine m_callV_r (As := [_, _]) (q := 35) mk_X8_of dX8_meet_32 wd_947 wd_949 wp_46 (ci := 8) rfl ⟨by decide, _, rfl⟩ (ev_X8_of _ _ a 1 (by omega) (by omega)) rfl (by decide) rfl (Nat.zero_le _) (Nat.zero_le _) rfl ?_
        refine z_aload_n (i := 0) (q := 36) dX8_meet_35 rfl rfl rfl ?_
        refine z_iload_n (i := 2) (q := 37) dX8_meet_36 rfl rfl rfl ?_
        refine z_iconst (v := 1) (q := 38) dX8_meet_37 (by decide) rfl ?_
        refine m_callV_r (As := [_, _]) (q := 41) mk_X8_of dX8_meet_38 wd_947 wd_949 wp_46 (ci := 8) rfl ⟨by decide, _, rfl⟩ (ev_X8_of _ _ b 1 (by omega) (by omega)) rfl (by simp [Value.category]) rfl (Nat.zero_le _) (Nat.zero_le _) rfl ?_
        refine z_icmp_eq (tgt := 47) (q := 44) dX8_meet_41 (by decide) rfl (fun c4 => ?_) (fun c4 => ?_)
        · skip
          refine z_aload_n (i := 0) (q := 48) dX8_meet_47 rfl rfl rfl ?_
          refine m_callV_v (As := []) (q := 51) mk_X8_keep dX8_meet_48 wd_960 wd_962 wp_49 (ci := 8) rfl ⟨by decide, _, rfl⟩ (ev_X8_keep _ _ _  hA.1 hA.2) rfl (by decide) rfl (Nat.zero_le _) (Nat.zero_le _) rfl ?_
          refine z_aload_n (i := 0) (q := 52) dX8_meet_51 rfl rfl rfl ?_
          refine z_iload_n (i := 1) (q := 53) dX8_meet_52 rfl rfl rfl ?_
          refine z_iconst (v := 3) (q := 54) dX8_meet_53 (by decide) rfl ?_
          refine m_callV_r (As := [_, _]) (q := 57) mk_X8_of dX8_meet_54 wd_947 wd_949 wp_46 (ci := 8) rfl ⟨by decide, _, rfl⟩ (ev_X8_of _ _ a 3 (by omega) (by omega)) rfl (by decide) rfl (Nat.zero_le _) (Nat.zero_le _) rfl ?_
          refine z_aload_n (i := 0) (q := 58) dX8_meet_57 rfl rfl rfl ?_
          refine z_iload_n (i := 2) (q := 59) dX8_meet_58 rfl rfl rfl ?_
          refine z_iconst (v := 3) (q := 60) dX8_meet_59 (by decide) rfl ?_
          refine m_callV_r (As := [_, _]) (q := 63) mk_X8_of dX8_meet_60 wd_947 wd_949 wp_46 (ci := 8) rfl ⟨by decide, _, rfl⟩ (ev_X8_of _ _ b 3 (by omega) (by omega)) rfl (by simp [Value.category]) rfl (Nat.zero_le _) (Nat.zero_le _) rfl ?_
          refine z_isub (q := 64) dX8_meet_63 rfl ?_
          refine z_istore_n (i := 3) (ls' := [_, _, _, _]) (q := 65) dX8_meet_64 rfl (by decide) rfl rfl ?_
          refine z_aload_n (i := 0) (q := 66) dX8_meet_65 rfl rfl rfl ?_
          refine z_iload_n (i := 3) (q := 67) dX8_meet_66 rfl rfl rfl ?_
          refine z_if_ge (tgt := 74) (q := 70) dX8_meet_67 (by decide) rfl (fun c5 => ?_) (fun c5 => ?_)
          · skip
            refine z_iload_n (i := 2) (q := 75) dX8_meet_74 rfl rfl rfl ?_
            refine z_iload_n (i := 3) (q := 76) dX8_meet_75 rfl rfl rfl ?_
            refine z_if_ge (tgt := 84) (q := 79) dX8_meet_76 (by decide) rfl (fun c6 => ?_) (fun c6 => ?_)
            · skip
              refine z_iload_n (i := 3) (q := 85) dX8_meet_84 rfl rfl rfl ?_
              refine z_iload_n (i := 3) (q := 86) dX8_meet_85 rfl rfl rfl ?_
              refine z_if_ge (tgt := 94) (q := 89) dX8_meet_86 (by decide) rfl (fun c7 => ?_) (fun c7 => ?_)
              · skip
                refine z_iload_n (i := 3) (q := 95) dX8_meet_94 rfl rfl rfl ?_
                refine m_callV_v (As := [_, _, _]) (q := 98) mk_X8_ages dX8_meet_95 wd_968 wd_970 wp_51 (ci := 8) rfl ⟨by decide, _, rfl⟩ (ev_X8_ages _ _ _ _ _  (by omega)) rfl (by decide) rfl (Nat.zero_le _) (Nat.zero_le _) rfl ?_
                refine z_aload_n (i := 0) (q := 99) dX8_meet_98 rfl rfl rfl ?_
                refine z_iload_n (i := 1) (q := 100) dX8_meet_99 rfl rfl rfl ?_
                refine z_iconst (v := 4) (q := 101) dX8_meet_100 (by decide) rfl ?_
                refine m_callV_r (As := [_, _]) (q := 104) mk_X8_of dX8_meet_101 wd_947 wd_949 wp_46 (ci := 8) rfl ⟨by decide, _, rfl⟩ (ev_X8_of _ _ a 4 (by omega) (by omega)) rfl (by decide) rfl (Nat.zero_le _) (Nat.zero_le _) rfl ?_
                refine z_aload_n (i := 0) (q := 105) dX8_meet_104 rfl rfl rfl ?_
                refine z_iload_n (i := 2) (q := 106) dX8_meet_105 rfl rfl rfl ?_
                refine z_iconst (v := 4) (q := 107) dX8_meet_106 (by decide) rfl ?_
                refine m_callV_r (As := [_, _]) (q := 110) mk_X8_of dX8_meet_107 wd_947 wd_949 wp_46 (ci := 8) rfl ⟨by decide, _, rfl⟩ (ev_X8_of _ _ b 4 (by omega) (by omega)) rfl (by simp [Value.category]) rfl (Nat.zero_le _) (Nat.zero_le _) rfl ?_
                refine z_isub (q := 111) dX8_meet_110 rfl ?_
                refine z_ireturn dX8_meet_111 rfl rfl ?_ (Nat.le_refl _) (Nat.le_refl _)
                first | contradiction | (rw [show mMeet (mT m) a b = _ from if_pos c5]; rfl) | (rw [show mMeet (mT m) a b = _ from if_neg c5]; rfl)
              · skip
                refine z_iload_n (i := 3) (q := 90) dX8_meet_89 rfl rfl rfl ?_
                refine z_ineg (q := 91) dX8_meet_90 rfl ?_
                refine z_goto (tgt := 95) dX8_meet_91 (by decide) ?_
                refine m_callV_v (As := [_, _, _]) (q := 98) mk_X8_ages dX8_meet_95 wd_968 wd_970 wp_51 (ci := 8) rfl ⟨by decide, _, rfl⟩ (ev_X8_ages _ _ _ _ _  (by omega)) rfl (by decide) rfl (Nat.zero_le _) (Nat.zero_le _) rfl ?_
                refine z_aload_n (i := 0) (q := 99) dX8_meet_98 rfl rfl rfl ?_
                refine z_iload_n (i := 1) (q := 100) dX8_meet_99 rfl rfl rfl ?_
                refine z_iconst (v := 4) (q := 101) dX8_meet_100 (by decide) rfl ?_
                refine m_callV_r (As := [_, _]) (q := 104) mk_X8_of dX8_meet_101 wd_947 wd_949 wp_46 (ci := 8) rfl ⟨by decide, _, rfl⟩ (ev_X8_of _ _ a 4 (by omega) (by omega)) rfl (by decide) rfl (Nat.zero_le _) (Nat.zero_le _) rfl ?_
                refine z_aload_n (i := 0) (q := 105) dX8_meet_104 rfl rfl rfl ?_
                refine z_iload_n (i := 2) (q := 106) dX8_meet_105 rfl rfl rfl ?_
                refine z_iconst (v := 4) (q := 107) dX8_meet_106 (by decide) rfl ?_
                refine m_callV_r (As := [_, _]) (q := 110) mk_X8_of dX8_meet_107 wd_947 wd_949 wp_46 (ci := 8) rfl ⟨by decide, _, rfl⟩ (ev_X8_of _ _ b 4 (by omega) (by omega)) rfl (by simp [Value.category]) rfl (Nat.zero_le _) (Nat.zero_le _) rfl ?_
                refine z_isub (q := 111) dX8_meet_110 rfl ?_
                refine z_ireturn dX8_meet_111 rfl rfl ?_ (Nat.le_refl _) (Nat.le_refl _)
                first | contradiction | (rw [show mMeet (mT m) a b = _ from if_pos c5]; rfl) | (rw [show mMeet (mT m) a b = _ from if_neg c5]; rfl)
            · skip
              refine z_iload_n (i := 3) (q := 80) dX8_meet_79 rfl rfl rfl ?_
              refine z_ineg (q := 81) dX8_meet_80 rfl ?_
              refine z_goto (tgt := 85) dX8_meet_81 (by decide) ?_
              refine z_iload_n (i := 3) (q := 86) dX8_meet_85 rfl rfl rfl ?_
              refine z_if_ge (tgt := 94) (q := 89) dX8_meet_86 (by decide) rfl (fun c8 => ?_) (fun c8 => ?_)
              · skip
                refine z_iload_n (i := 3) (q := 95) dX8_meet_94 rfl rfl rfl ?_
                refine m_callV_v (As := [_, _, _]) (q := 98) mk_X8_ages dX8_meet_95 wd_968 wd_970 wp_51 (ci := 8) rfl ⟨by decide, _, rfl⟩ (ev_X8_ages _ _ _ _ _  (by omega)) rfl (by decide) rfl (Nat.zero_le _) (Nat.zero_le _) rfl ?_
                refine z_aload_n (i := 0) (q := 99) dX8_meet_98 rfl rfl rfl ?_
                refine z_iload_n (i := 1) (q := 100) dX8_meet_99 rfl rfl rfl ?_
                refine z_iconst (v := 4) (q := 101) dX8_meet_100 (by decide) rfl ?_
                refine m_callV_r (As := [_, _]) (q := 104) mk_X8_of dX8_meet_101 wd_947 wd_949 wp_46 (ci := 8) rfl ⟨by decide, _, rfl⟩ (ev_X8_of _ _ a 4 (by omega) (by omega)) rfl (by decide) rfl (Nat.zero_le _) (Nat.zero_le _) rfl ?_
                refine z_aload_n (i := 0) (q := 105) dX8_meet_104 rfl rfl rfl ?_
                refine z_iload_n (i := 2) (q := 106) dX8_meet_105 rfl rfl rfl ?_
                refine z_iconst (v := 4) (q := 107) dX8_meet_106 (by decide) rfl ?_
                refine m_callV_r (As := [_, _]) (q := 110) mk_X8_of dX8_meet_107 wd_947 wd_949 wp_46 (ci := 8) rfl ⟨by decide, _, rfl⟩ (ev_X8_of _ _ b 4 (by omega) (by omega)) rfl (by simp [Value.category]) rfl (Nat.zero_le _) (Nat.zero_le _) rfl ?_
                refine z_isub (q := 111) dX8_meet_110 rfl ?_
                refine z_ireturn dX8_meet_111 rfl rfl ?_ (Nat.le_refl _) (Nat.le_refl _)
                first | contradiction | (rw [show mMeet (mT m) a b = _ from if_pos c5]; rfl) | (rw [show mMeet (mT m) a b = _ from if_neg c5]; rfl)
              · skip
                refine z_iload_n (i := 3) (q := 90) dX8_meet_89 rfl rfl rfl ?_
                refine z_ineg (q := 91) dX8_meet_90 rfl ?_
                refine z_goto (tgt := 95) dX8_meet_91 (by decide) ?_
                refine m_callV_v (As := [_, _, _]) (q := 98) mk_X8_ages dX8_meet_95 wd_968 wd_970 wp_51 (ci := 8) rfl ⟨by decide, _, rfl⟩ (ev_X8_ages _ _ _ _ _  (by omega)) rfl (by decide) rfl (Nat.zero_le _) (Nat.zero_le _) rfl ?_
                refine z_aload_n (i := 0) (q := 99) dX8_meet_98 rfl rfl rfl ?_
                refine z_iload_n (i := 1) (q := 100) dX8_meet_99 rfl rfl rfl ?_
                refine z_iconst (v := 4) (q := 101) dX8_meet_100 (by decide) rfl ?_
                refine m_callV_r (As := [_, _]) (q := 104) mk_X8_of dX8_meet_101 wd_947 wd_949 wp_46 (ci := 8) rfl ⟨by decide, _, rfl⟩ (ev_X8_of _ _ a 4 (by omega) (by omega)) rfl (by decide) rfl (Nat.zero_le _) (Nat.zero_le _) rfl ?_
                refine z_aload_n (i := 0) (q := 105) dX8_meet_104 rfl rfl rfl ?_
                refine z_iload_n (i := 2) (q := 106) dX8_meet_105 rfl rfl rfl ?_
                refine z_iconst (v := 4) (q := 107) dX8_meet_106 (by decide) rfl ?_
                refine m_callV_r (As := [_, _]) (q := 110) mk_X8_of dX8_meet_107 wd_947 wd_949 wp_46 (ci := 8) rfl ⟨by decide, _, rfl⟩ (ev_X8_of _ _ b 4 (by omega) (by omega)) rfl (by simp [Value.category]) rfl (Nat.zero_le _) (Nat.zero_le _) rfl ?_
                refine z_isub (q := 111) dX8_meet_110 rfl ?_
                refine z_ireturn dX8_meet_111 rfl rfl ?_ (Nat.le_refl _) (Nat.le_refl _)
                first | contradiction | (rw [show mMeet (mT m) a b = _ from if_pos c5]; rfl) | (rw [show mMeet (mT m) a b = _ from if_neg c5]; rfl)
          · skip
            refine z_iload_n (i := 1) (q := 71) dX8_meet_70 rfl rfl rfl ?_
            refine z_goto (tgt := 75) dX8_meet_71 (by decide) ?_
            refine z_iload_n (i := 3) (q := 76) dX8_meet_75 rfl rfl rfl ?_
            refine z_if_ge (tgt := 84) (q := 79) dX8_meet_76 (by decide) rfl (fun c9 => ?_) (fun c9 => ?_)
            · skip
              refine z_iload_n (i := 3) (q := 85) dX8_meet_84 rfl rfl rfl ?_
              refine z_iload_n (i := 3) (q := 86) dX8_meet_85 rfl rfl rfl ?_
              refine z_if_ge (tgt := 94) (q := 89) dX8_meet_86 (by decide) rfl (fun c10 => ?_) (fun c10 => ?_)
              · skip
                refine z_iload_n (i := 3) (q := 95) dX8_meet_94 rfl rfl rfl ?_
                refine m_callV_v (As := [_, _, _]) (q := 98) mk_X8_ages dX8_meet_95 wd_968 wd_970 wp_51 (ci := 8) rfl ⟨by decide, _, rfl⟩ (ev_X8_ages _ _ _ _ _  (by omega)) rfl (by decide) rfl (Nat.zero_le _) (Nat.zero_le _) rfl ?_
                refine z_aload_n (i := 0) (q := 99) dX8_meet_98 rfl rfl rfl ?_
                refine z_iload_n (i := 1) (q := 100) dX8_meet_99 rfl rfl rfl ?_
                refine z_iconst (v := 4) (q := 101) dX8_meet_100 (by decide) rfl ?_
                refine m_callV_r (As := [_, _]) (q := 104) mk_X8_of dX8_meet_101 wd_947 wd_949 wp_46 (ci := 8) rfl ⟨by decide, _, rfl⟩ (ev_X8_of _ _ a 4 (by omega) (by omega)) rfl (by decide) rfl (Nat.zero_le _) (Nat.zero_le _) rfl ?_
                refine z_aload_n (i := 0) (q := 105) dX8_meet_104 rfl rfl rfl ?_
                refine z_iload_n (i := 2) (q := 106) dX8_meet_105 rfl rfl rfl ?_
                refine z_iconst (v := 4) (q := 107) dX8_meet_106 (by decide) rfl ?_
                refine m_callV_r (As := [_, _]) (q := 110) mk_X8_of dX8_meet_107 wd_947 wd_949 wp_46 (ci := 8) rfl ⟨by decide, _, rfl⟩ (ev_X8_of _ _ b 4 (by omega) (by omega)) rfl (by simp [Value.category]) rfl (Nat.zero_le _) (Nat.zero_le _) rfl ?_
                refine z_isub (q := 111) dX8_meet_110 rfl ?_
                refine z_ireturn dX8_meet_111 rfl rfl ?_ (Nat.le_refl _) (Nat.le_refl _)
                first | contradiction | (rw [show mMeet (mT m) a b = _ from if_pos c5]; rfl) | (rw [show mMeet (mT m) a b = _ from if_neg c5]; rfl)
              · skip
                refine z_iload_n (i := 3) (q := 90) dX8_meet_89 rfl rfl rfl ?_
                refine z_ineg (q := 91) dX8_meet_90 rfl ?_
                refine z_goto (tgt := 95) dX8_meet_91 (by decide) ?_
                refine m_callV_v (As := [_, _, _]) (q := 98) mk_X8_ages dX8_meet_95 wd_968 wd_970 wp_51 (ci := 8) rfl ⟨by decide, _, rfl⟩ (ev_X8_ages _ _ _ _ _  (by omega)) rfl (by decide) rfl (Nat.zero_le _) (Nat.zero_le _) rfl ?_
                refine z_aload_n (i := 0) (q := 99) dX8_meet_98 rfl rfl rfl ?_
                refine z_iload_n (i := 1) (q := 100) dX8_meet_99 rfl rfl rfl ?_
                refine z_iconst (v := 4) (q := 101) dX8_meet_100 (by decide) rfl ?_
                refine m_callV_r (As := [_, _]) (q := 104) mk_X8_of dX8_meet_101 wd_947 wd_949 wp_46 (ci := 8) rfl ⟨by decide, _, rfl⟩ (ev_X8_of _ _ a 4 (by omega) (by omega)) rfl (by decide) rfl (Nat.zero_le _) (Nat.zero_le _) rfl ?_
                refine z_aload_n (i := 0) (q := 105) dX8_meet_104 rfl rfl rfl ?_
                refine z_iload_n (i := 2) (q := 106) dX8_meet_105 rfl rfl rfl ?_
                refine z_iconst (v := 4) (q := 107) dX8_meet_106 (by decide) rfl ?_
                refine m_callV_r (As := [_, _]) (q := 110) mk_X8_of dX8_meet_107 wd_947 wd_949 wp_46 (ci := 8) rfl ⟨by decide, _, rfl⟩ (ev_X8_of _ _ b 4 (by omega) (by omega)) rfl (by simp [Value.category]) rfl (Nat.zero_le _) (Nat.zero_le _) rfl ?_
                refine z_isub (q := 111) dX8_meet_110 rfl ?_
                refine z_ireturn dX8_meet_111 rfl rfl ?_ (Nat.le_refl _) (Nat.le_refl _)
                first | contradiction | (rw [show mMeet (mT m) a b = _ from if_pos c5]; rfl) | (rw [show mMeet (mT m) a b = _ from if_neg c5]; rfl)
            · skip
              refine z_iload_n (i := 3) (q := 80) dX8_meet_79 rfl rfl rfl ?_
              refine z_ineg (q := 81) dX8_meet_80 rfl ?_
              refine z_goto (tgt := 85) dX8_meet_81 (by decide) ?_
              refine z_iload_n (i := 3) (q := 86) dX8_meet_85 rfl rfl rfl ?_
              refine z_if_ge (tgt := 94) (q := 89) dX8_meet_86 (by decide) rfl (fun c11 => ?_) (fun c11 => ?_)
              · skip
                refine z_iload_n (i := 3) (q := 95) dX8_meet_94 rfl rfl rfl ?_
                refine m_callV_v (As := [_, _, _]) (q := 98) mk_X8_ages dX8_meet_95 wd_968 wd_970 wp_51 (ci := 8) rfl ⟨by decide, _, rfl⟩ (ev_X8_ages _ _ _ _ _  (by omega)) rfl (by decide) rfl (Nat.zero_le _) (Nat.zero_le _) rfl ?_
                refine z_aload_n (i := 0) (q := 99) dX8_meet_98 rfl rfl rfl ?_
                refine z_iload_n (i := 1) (q := 100) dX8_meet_99 rfl rfl rfl ?_
                refine z_iconst (v := 4) (q := 101) dX8_meet_100 (by decide) rfl ?_
                refine m_callV_r (As := [_, _]) (q := 104) mk_X8_of dX8_meet_101 wd_947 wd_949 wp_46 (ci := 8) rfl ⟨by decide, _, rfl⟩ (ev_X8_of _ _ a 4 (by omega) (by omega)) rfl (by decide) rfl (Nat.zero_le _) (Nat.zero_le _) rfl ?_
                refine z_aload_n (i := 0) (q := 105) dX8_meet_104 rfl rfl rfl ?_
                refine z_iload_n (i := 2) (q := 106) dX8_meet_105 rfl rfl rfl ?_
                refine z_iconst (v := 4) (q := 107) dX8_meet_106 (by decide) rfl ?_
                refine m_callV_r (As := [_, _]) (q := 110) mk_X8_of dX8_meet_107 wd_947 wd_949 wp_46 (ci := 8) rfl ⟨by decide, _, rfl⟩ (ev_X8_of _ _ b 4 (by omega) (by omega)) rfl (by simp [Value.category]) rfl (Nat.zero_le _) (Nat.zero_le _) rfl ?_
                refine z_isub (q := 111) dX8_meet_110 rfl ?_
                refine z_ireturn dX8_meet_111 rfl rfl ?_ (Nat.le_refl _) (Nat.le_refl _)
                first | contradiction | (rw [show mMeet (mT m) a b = _ from if_pos c5]; rfl) | (rw [show mMeet (mT m) a b = _ from if_neg c5]; rfl)
              · skip
                refine z_iload_n (i := 3) (q := 90) dX8_meet_89 rfl rfl rfl ?_
                refine z_ineg (q := 91) dX8_meet_90 rfl ?_
                refine z_goto (tgt := 95) dX8_meet_91 (by decide) ?_
                refine m_callV_v (As := [_, _, _]) (q := 98) mk_X8_ages dX8_meet_95 wd_968 wd_970 wp_51 (ci := 8) rfl ⟨by decide, _, rfl⟩ (ev_X8_ages _ _ _ _ _  (by omega)) rfl (by decide) rfl (Nat.zero_le _) (Nat.zero_le _) rfl ?_
                refine z_aload_n (i := 0) (q := 99) dX8_meet_98 rfl rfl rfl ?_
                refine z_iload_n (i := 1) (q := 100) dX8_meet_99 rfl rfl rfl ?_
                refine z_iconst (v := 4) (q := 101) dX8_meet_100 (by decide) rfl ?_
                refine m_callV_r (As := [_, _]) (q := 104) mk_X8_of dX8_meet_101 wd_947 wd_949 wp_46 (ci := 8) rfl ⟨by decide, _, rfl⟩ (ev_X8_of _ _ a 4 (by omega) (by omega)) rfl (by decide) rfl (Nat.zero_le _) (Nat.zero_le _) rfl ?_
                refine z_aload_n (i := 0) (q := 105) dX8_meet_104 rfl rfl rfl ?_
                refine z_iload_n (i := 2) (q := 106) dX8_meet_105 rfl rfl rfl ?_
                refine z_iconst (v := 4) (q := 107) dX8_meet_106 (by decide) rfl ?_
                refine m_callV_r (As := [_, _]) (q := 110) mk_X8_of dX8_meet_107 wd_947 wd_949 wp_46 (ci := 8) rfl ⟨by decide, _, rfl⟩ (ev_X8_of _ _ b 4 (by omega) (by omega)) rfl (by simp [Value.category]) rfl (Nat.zero_le _) (Nat.zero_le _) rfl ?_
                refine z_isub (q := 111) dX8_meet_110 rfl ?_
                refine z_ireturn dX8_meet_111 rfl rfl ?_ (Nat.le_refl _) (Nat.le_refl _)
                first | contradiction | (rw [show mMeet (mT m) a b = _ from if_pos c5]; rfl) | (rw [show mMeet (mT m) a b = _ from if_neg c5]; rfl)
        · exact absurd h3 c4
      · exact absurd c3 hab
def mGrow (rate : Int32) : Nat → Int32 → Int32
  | 0, v => v
  | n + 1, v => mGrow rate n (if v + v * rate / 100 ≤ 99999999 then v + v * rate / 100 else 99999999)
def mGrown (m : zm) (s y : Int32) : Int32 := mGrow (m.1 184 1) (cYears y 0) s
def mOwed (m : zm) (p : Nat) (z : Int32) : Int32 := mGrown m (mOf m p 5) (if z = 0 then mOf m p 3 - mOf m p 6 else mOf m p 4 - mOf m p 7)
def mLoan (m : zm) (p : Nat) (z : Int32) : zm :=
  let m1 := upI m 184 (36 + 8 * p + 5) z
  let m2 := upI m1 184 (36 + 8 * p + 6) (mOf m1 p 3)
  upI m2 184 (36 + 8 * p + 7) (mOf m2 p 4)
set_option maxHeartbeats 4000000 in
set_option maxRecDepth 100000 in
theorem lp_X8_grown (d : Nat) (m : zm) (sum years : Int32) : ∀ (n : Nat) (y v : Int32), cYears years y < n → ZW zM_X8_grown (d) 0 0 5 [some (.ref 180), some (.int sum), some (.int years), some (.int v), some (.int y), none] [] (lay m) 0 0 (some (.int (mGrow (m.1 184 1) (cYears years y) v)), lay m) := by
  intro n
  induction n with
  | zero => intro y v hm; exact absurd hm (by omega)
  | succ n ih =>
    intro y v hm
    refine z_iload (i := 4) (q := 7) dX8_grown_5 rfl rfl ?_
    refine z_iload_n (i := 2) (q := 8) dX8_grown_7 rfl rfl rfl ?_
    refine z_icmp_ge (tgt := 47) (q := 11) dX8_grown_8 (by decide) rfl (fun c1 => ?_) (fun c1 => ?_)
    · skip
      refine z_iload_n (i := 3) (q := 48) dX8_grown_47 rfl rfl rfl ?_
      refine z_ireturn dX8_grown_48 rfl rfl ?_ (Nat.le_refl _) (Nat.le_refl _)
      rw [cYears_0 c1]
      rfl
    · skip
      refine z_iload_n (i := 3) (q := 12) dX8_grown_11 rfl rfl rfl ?_
      refine z_iload_n (i := 3) (q := 13) dX8_grown_12 rfl rfl rfl ?_
      refine z_aload_n (i := 0) (q := 14) dX8_grown_13 rfl rfl rfl ?_
      refine m_getR (r := 184) (q := 17) dX8_grown_14 fl_X8_19 ⟨by decide, _, rfl, rfl⟩ rfl ?_
      refine z_iconst (v := 1) (q := 18) dX8_grown_17 (by decide) rfl ?_
      refine m_ialdJ (N := 68) (q := 19) dX8_grown_18 ⟨by decide, _, rfl⟩ (j := 1) (by decide) (vp_c (by decide)) rfl ?_
      refine z_imul (q := 20) dX8_grown_19 rfl ?_
      refine z_bipush (v := 100) (q := 22) dX8_grown_20 (by decide) rfl ?_
      refine z_idiv (q := 23) dX8_grown_22 (by decide) rfl ?_
      refine z_iadd (q := 24) dX8_grown_23 rfl ?_
      refine z_istore (i := 5) (ls' := [_, _, _, _, _, _]) (q := 26) dX8_grown_24 (by decide) rfl rfl ?_
      refine z_iload (i := 5) (q := 28) dX8_grown_26 rfl rfl ?_
      refine z_ldc (q := 30) dX8_grown_28 wd_999 rfl ?_
      refine z_icmp_le (tgt := 38) (q := 33) dX8_grown_30 (by decide) rfl (fun c2 => ?_) (fun c2 => ?_)
      · skip
        refine z_iload (i := 5) (q := 40) dX8_grown_38 rfl rfl ?_
        refine z_istore_n (i := 3) (ls' := [_, _, _, _, _, _]) (q := 41) dX8_grown_40 rfl (by decide) rfl rfl ?_
        refine z_iinc (i := 4) (ls' := [_, _, _, _, _, _]) (v := _ + 1) (q := 44) dX8_grown_41 rfl rfl (by decide) rfl rfl ?_
        refine z_goto (tgt := 5) dX8_grown_44 (by decide) ?_
        rw [cYears_s c1, mGrow, if_pos c2]
        exact z_loc (zle_s (zle_s (zle_s (zle_s (zle_s (zle_n zle_0)))))) (ih (y + 1) _ (by have := cYears_s c1; omega))
      · skip
        refine z_ldc (q := 35) dX8_grown_33 wd_999 rfl ?_
        refine z_goto (tgt := 40) dX8_grown_35 (by decide) ?_
        refine z_istore_n (i := 3) (ls' := [_, _, _, _, _, _]) (q := 41) dX8_grown_40 rfl (by decide) rfl rfl ?_
        refine z_iinc (i := 4) (ls' := [_, _, _, _, _, _]) (v := _ + 1) (q := 44) dX8_grown_41 rfl rfl (by decide) rfl rfl ?_
        refine z_goto (tgt := 5) dX8_grown_44 (by decide) ?_
        rw [cYears_s c1, mGrow, if_neg c2]
        exact z_loc (zle_s (zle_s (zle_s (zle_s (zle_s (zle_n zle_0)))))) (ih (y + 1) _ (by have := cYears_s c1; omega))
set_option maxHeartbeats 4000000 in
set_option maxRecDepth 100000 in
theorem ev_X8_grown (d : Nat) (m : zm) (sum : Int32) (years : Int32) : zEv (d) zM_X8_grown 0 0 [.ref 180, .int sum, .int years] (lay m) (some (.int (mGrown m sum years)), lay (m)) := by
  refine zEv_of (by decide) (fun G => Nat.le_of_ble_eq_true rfl) ?_
  show ZW _ _ _ _ 0 [some (.ref 180), some (.int sum), some (.int years), none, none, none] [] _ _ _ _
  refine z_iload_n (i := 1) (q := 1) dX8_grown_0 rfl rfl rfl ?_
  refine z_istore_n (i := 3) (ls' := [_, _, _, _, _, _]) (q := 2) dX8_grown_1 rfl (by decide) rfl rfl ?_
  refine z_iconst (v := 0) (q := 3) dX8_grown_2 (by decide) rfl ?_
  refine z_istore (i := 4) (ls' := [_, _, _, _, _, _]) (q := 5) dX8_grown_3 (by decide) rfl rfl ?_
  exact lp_X8_grown d m sum years _ 0 sum (Nat.lt_succ_self _)
set_option maxHeartbeats 4000000 in
set_option maxRecDepth 100000 in
theorem ev_X8_owedBy (d : Nat) (m : zm) (p : Nat) (z : Int32) (hp : p < 4) : zEv (d + 1) zM_X8_owedBy 0 0 [.ref 180, .int (nI p), .int z] (lay m) (some (.int (mOwed m p z)), lay (m)) := by
  refine zEv_of (by decide) (fun G => Nat.le_of_ble_eq_true rfl) ?_
  show ZW _ _ _ _ 0 [some (.ref 180), some (.int (nI p)), some (.int z)] [] _ _ _ _
  refine z_aload_n (i := 0) (q := 1) dX8_owedBy_0 rfl rfl rfl ?_
  refine z_aload_n (i := 0) (q := 2) dX8_owedBy_1 rfl rfl rfl ?_
  refine z_iload_n (i := 1) (q := 3) dX8_owedBy_2 rfl rfl rfl ?_
  refine z_iconst (v := 5) (q := 4) dX8_owedBy_3 (by decide) rfl ?_
  refine m_callV_r (As := [_, _]) (q := 7) mk_X8_of dX8_owedBy_4 wd_947 wd_949 wp_46 (ci := 8) rfl ⟨by decide, _, rfl⟩ (ev_X8_of _ _ p 5 (by omega) (by omega)) rfl (by simp [Value.category]) rfl (Nat.zero_le _) (Nat.zero_le _) rfl ?_
  refine z_iload_n (i := 2) (q := 8) dX8_owedBy_7 rfl rfl rfl ?_
  refine z_if_ne (tgt := 28) (q := 11) dX8_owedBy_8 (by decide) rfl (fun c1 => ?_) (fun c1 => ?_)
  · skip
    refine z_aload_n (i := 0) (q := 29) dX8_owedBy_28 rfl rfl rfl ?_
    refine z_iload_n (i := 1) (q := 30) dX8_owedBy_29 rfl rfl rfl ?_
    refine z_iconst (v := 4) (q := 31) dX8_owedBy_30 (by decide) rfl ?_
    refine m_callV_r (As := [_, _]) (q := 34) mk_X8_of dX8_owedBy_31 wd_947 wd_949 wp_46 (ci := 8) rfl ⟨by decide, _, rfl⟩ (ev_X8_of _ _ p 4 (by omega) (by omega)) rfl (by simp [Value.category]) rfl (Nat.zero_le _) (Nat.zero_le _) rfl ?_
    refine z_aload_n (i := 0) (q := 35) dX8_owedBy_34 rfl rfl rfl ?_
    refine z_iload_n (i := 1) (q := 36) dX8_owedBy_35 rfl rfl rfl ?_
    refine z_bipush (v := 7) (q := 38) dX8_owedBy_36 (by decide) rfl ?_
    refine m_callV_r (As := [_, _]) (q := 41) mk_X8_of dX8_owedBy_38 wd_947 wd_949 wp_46 (ci := 8) rfl ⟨by decide, _, rfl⟩ (ev_X8_of _ _ p 7 (by omega) (by omega)) rfl (by simp [Value.category]) rfl (Nat.zero_le _) (Nat.zero_le _) rfl ?_
    refine z_isub (q := 42) dX8_owedBy_41 rfl ?_
    refine m_callV_r (As := [_, _]) (q := 45) mk_X8_grown dX8_owedBy_42 wd_995 wd_997 wp_53 (ci := 8) rfl ⟨by decide, _, rfl⟩ (ev_X8_grown _ _ _ _) rfl (by decide) rfl (Nat.zero_le _) (Nat.zero_le _) rfl ?_
    refine z_ireturn dX8_owedBy_45 rfl rfl ?_ (Nat.le_refl _) (Nat.le_refl _)
    rw [show mOwed m p z = mGrown m (mOf m p 5) (mOf m p 4 - mOf m p 7) from by unfold mOwed; rw [if_neg c1]]
    rfl
  · skip
    refine z_aload_n (i := 0) (q := 12) dX8_owedBy_11 rfl rfl rfl ?_
    refine z_iload_n (i := 1) (q := 13) dX8_owedBy_12 rfl rfl rfl ?_
    refine z_iconst (v := 3) (q := 14) dX8_owedBy_13 (by decide) rfl ?_
    refine m_callV_r (As := [_, _]) (q := 17) mk_X8_of dX8_owedBy_14 wd_947 wd_949 wp_46 (ci := 8) rfl ⟨by decide, _, rfl⟩ (ev_X8_of _ _ p 3 (by omega) (by omega)) rfl (by simp [Value.category]) rfl (Nat.zero_le _) (Nat.zero_le _) rfl ?_
    refine z_aload_n (i := 0) (q := 18) dX8_owedBy_17 rfl rfl rfl ?_
    refine z_iload_n (i := 1) (q := 19) dX8_owedBy_18 rfl rfl rfl ?_
    refine z_bipush (v := 6) (q := 21) dX8_owedBy_19 (by decide) rfl ?_
    refine m_callV_r (As := [_, _]) (q := 24) mk_X8_of dX8_owedBy_21 wd_947 wd_949 wp_46 (ci := 8) rfl ⟨by decide, _, rfl⟩ (ev_X8_of _ _ p 6 (by omega) (by omega)) rfl (by simp [Value.category]) rfl (Nat.zero_le _) (Nat.zero_le _) rfl ?_
    refine z_isub (q := 25) dX8_owedBy_24 rfl ?_
    refine z_goto (tgt := 42) dX8_owedBy_25 (by decide) ?_
    refine m_callV_r (As := [_, _]) (q := 45) mk_X8_grown dX8_owedBy_42 wd_995 wd_997 wp_53 (ci := 8) rfl ⟨by decide, _, rfl⟩ (ev_X8_grown _ _ _ _) rfl (by decide) rfl (Nat.zero_le _) (Nat.zero_le _) rfl ?_
    refine z_ireturn dX8_owedBy_45 rfl rfl ?_ (Nat.le_refl _) (Nat.le_refl _)
    rw [show mOwed m p z = mGrown m (mOf m p 5) (mOf m p 3 - mOf m p 6) from by unfold mOwed; rw [if_pos c1]]
    rfl
set_option maxHeartbeats 4000000 in
set_option maxRecDepth 100000 in
theorem ev_X8_borrow_bad (d : Nat) (m : zm) (p : Int32) (z : Int32) (hb : (p < 0 ∨ m.1 184 3 - 1 < p) ∨ (z < 1 ∨ 9999 < z)) : zEv (d + 2) zM_X8_borrow 0 0 [.ref 180, .int p, .int z] (lay m) (some (.int (-1000001)), lay (mT m)) := by
  refine zEv_of (by decide) (fun G => Nat.le_of_ble_eq_true rfl) ?_
  show ZW _ _ _ _ 0 [some (.ref 180), some (.int p), some (.int z), none] [] _ _ _ _
  refine z_aload_n (i := 0) (q := 1) dX8_borrow_0 rfl rfl rfl ?_
  refine z_iconst (v := 0) (q := 2) dX8_borrow_1 (by decide) rfl ?_
  refine m_putI (q := 5) dX8_borrow_2 fp_X8_48 ⟨by decide, _, rfl, rfl⟩ ⟨rfl, rfl⟩ rfl ?_
  refine z_aload_n (i := 0) (q := 6) dX8_borrow_5 rfl rfl rfl ?_
  refine z_iload_n (i := 1) (q := 7) dX8_borrow_6 rfl rfl rfl ?_
  refine m_callV_r (As := [_]) (q := 10) mk_X8_isPerson dX8_borrow_7 wd_935 wd_937 wp_43 (ci := 8) rfl ⟨by decide, _, rfl⟩ (ev_X8_isPerson _ _ _) rfl (by decide) rfl (Nat.zero_le _) (Nat.zero_le _) rfl ?_
  refine zb_eq (tgt := 25) (q := 13) dX8_borrow_10 (by decide) rfl (fun c1 => ?_) (fun c1 => ?_)
  · skip
    refine z_ldc (q := 27) dX8_borrow_25 wd_831 rfl ?_
    refine z_ireturn dX8_borrow_27 rfl rfl ?_ (Nat.le_refl _) (Nat.le_refl _)
    rfl
  · skip
    refine z_iload_n (i := 2) (q := 14) dX8_borrow_13 rfl rfl rfl ?_
    refine z_i2l (q := 15) dX8_borrow_14 rfl ?_
    refine z_lconst (v := 1) (q := 16) dX8_borrow_15 (by decide) rfl ?_
    refine z_ldc2 (q := 19) dX8_borrow_16 wd_990 rfl ?_
    refine m_callS_r (As := [_, _, _]) (q := 22) mk_X8_in dX8_borrow_19 wd_827 wd_828 (ev_X8_in _ _ _ (1) (9999) (by decide) (by decide)) rfl (by decide) rfl (Nat.zero_le _) (Nat.zero_le _) rfl ?_
    refine zb_ne (tgt := 28) (q := 25) dX8_borrow_22 (by decide) rfl (fun c2 => ?_) (fun c2 => ?_)
    · exact absurd hb (fun q => q.elim c1 c2)
    · skip
      refine z_ldc (q := 27) dX8_borrow_25 wd_831 rfl ?_
      refine z_ireturn dX8_borrow_27 rfl rfl ?_ (Nat.le_refl _) (Nat.le_refl _)
      rfl
set_option maxHeartbeats 4000000 in
set_option maxRecDepth 100000 in
theorem ev_X8_borrow (d : Nat) (m : zm) (p : Nat) (z : Int32) (hn : ¬ (nI p < 0 ∨ m.1 184 3 - 1 < nI p)) (h1 : ¬ (z < 1 ∨ 9999 < z)) (hA : mAOk (mT m)) (hp : p < 4) : zEv (d + 2) zM_X8_borrow 0 0 [.ref 180, .int (nI p), .int z] (lay m) (some (.int (mOwed (mKp (mT m)) p 0)), lay (mLoan (mKp (mT m)) p z)) := by
  refine zEv_of (by decide) (fun G => Nat.le_of_ble_eq_true rfl) ?_
  show ZW _ _ _ _ 0 [some (.ref 180), some (.int (nI p)), some (.int z), none] [] _ _ _ _
  refine z_aload_n (i := 0) (q := 1) dX8_borrow_0 rfl rfl rfl ?_
  refine z_iconst (v := 0) (q := 2) dX8_borrow_1 (by decide) rfl ?_
  refine m_putI (q := 5) dX8_borrow_2 fp_X8_48 ⟨by decide, _, rfl, rfl⟩ ⟨rfl, rfl⟩ rfl ?_
  refine z_aload_n (i := 0) (q := 6) dX8_borrow_5 rfl rfl rfl ?_
  refine z_iload_n (i := 1) (q := 7) dX8_borrow_6 rfl rfl rfl ?_
  refine m_callV_r (As := [_]) (q := 10) mk_X8_isPerson dX8_borrow_7 wd_935 wd_937 wp_43 (ci := 8) rfl ⟨by decide, _, rfl⟩ (ev_X8_isPerson _ _ _) rfl (by decide) rfl (Nat.zero_le _) (Nat.zero_le _) rfl ?_
  refine zb_eq (tgt := 25) (q := 13) dX8_borrow_10 (by decide) rfl (fun c1 => ?_) (fun c1 => ?_)
  · exact absurd hn c1
  · skip
    refine z_iload_n (i := 2) (q := 14) dX8_borrow_13 rfl rfl rfl ?_
    refine z_i2l (q := 15) dX8_borrow_14 rfl ?_
    refine z_lconst (v := 1) (q := 16) dX8_borrow_15 (by decide) rfl ?_
    refine z_ldc2 (q := 19) dX8_borrow_16 wd_990 rfl ?_
    refine m_callS_r (As := [_, _, _]) (q := 22) mk_X8_in dX8_borrow_19 wd_827 wd_828 (ev_X8_in _ _ _ (1) (9999) (by decide) (by decide)) rfl (by decide) rfl (Nat.zero_le _) (Nat.zero_le _) rfl ?_
    refine zb_ne (tgt := 28) (q := 25) dX8_borrow_22 (by decide) rfl (fun c2 => ?_) (fun c2 => ?_)
    · skip
      refine z_aload_n (i := 0) (q := 29) dX8_borrow_28 rfl rfl rfl ?_
      refine m_callV_v (As := []) (q := 32) mk_X8_keep dX8_borrow_29 wd_960 wd_962 wp_49 (ci := 8) rfl ⟨by decide, _, rfl⟩ (ev_X8_keep _ _ _  hA.1 hA.2) rfl (by decide) rfl (Nat.zero_le _) (Nat.zero_le _) rfl ?_
      refine z_aload_n (i := 0) (q := 33) dX8_borrow_32 rfl rfl rfl ?_
      refine z_iload_n (i := 1) (q := 34) dX8_borrow_33 rfl rfl rfl ?_
      refine z_iconst (v := 0) (q := 35) dX8_borrow_34 (by decide) rfl ?_
      refine m_callV_r (As := [_, _]) (q := 38) mk_X8_owedBy dX8_borrow_35 wd_991 wd_993 wp_52 (ci := 8) rfl ⟨by decide, _, rfl⟩ (ev_X8_owedBy _ _ p (0) (by omega)) rfl (by decide) rfl (Nat.zero_le _) (Nat.zero_le _) rfl ?_
      refine z_istore_n (i := 3) (ls' := [_, _, _, _]) (q := 39) dX8_borrow_38 rfl (by decide) rfl rfl ?_
      refine z_aload_n (i := 0) (q := 40) dX8_borrow_39 rfl rfl rfl ?_
      refine m_getR (r := 184) (q := 43) dX8_borrow_40 fl_X8_19 ⟨by decide, _, rfl, rfl⟩ rfl ?_
      refine z_bipush (v := 36) (q := 45) dX8_borrow_43 (by decide) rfl ?_
      refine z_bipush (v := 8) (q := 47) dX8_borrow_45 (by decide) rfl ?_
      refine z_iload_n (i := 1) (q := 48) dX8_borrow_47 rfl rfl rfl ?_
      refine z_imul (q := 49) dX8_borrow_48 rfl ?_
      rw [show 8 * nI p = nI (8 * p) from nI_mul 8 _]
      refine z_iadd (q := 50) dX8_borrow_49 rfl ?_
      rw [show 36 + nI (8 * p) = nI (36 + (8 * p)) from nI_add 36 _]
      refine z_iconst (v := 5) (q := 51) dX8_borrow_50 (by decide) rfl ?_
      refine z_iadd (q := 52) dX8_borrow_51 rfl ?_
      rw [show nI (36 + (8 * p)) + 5 = nI ((36 + (8 * p)) + 5) from nI_add _ 5]
      refine z_iload_n (i := 2) (q := 53) dX8_borrow_52 rfl rfl rfl ?_
      refine m_iastJ (N := 68) (q := 54) dX8_borrow_53 ⟨by decide, _, rfl⟩ (j := ((36 + (8 * p)) + 5)) (nI_clamp (by omega)) (vp_in_nI (by omega) (by decide)) rfl ?_
      refine z_aload_n (i := 0) (q := 55) dX8_borrow_54 rfl rfl rfl ?_
      refine m_getR (r := 184) (q := 58) dX8_borrow_55 fl_X8_19 ⟨by decide, _, rfl, rfl⟩ rfl ?_
      refine z_bipush (v := 36) (q := 60) dX8_borrow_58 (by decide) rfl ?_
      refine z_bipush (v := 8) (q := 62) dX8_borrow_60 (by decide) rfl ?_
      refine z_iload_n (i := 1) (q := 63) dX8_borrow_62 rfl rfl rfl ?_
      refine z_imul (q := 64) dX8_borrow_63 rfl ?_
      rw [show 8 * nI p = nI (8 * p) from nI_mul 8 _]
      refine z_iadd (q := 65) dX8_borrow_64 rfl ?_
      rw [show 36 + nI (8 * p) = nI (36 + (8 * p)) from nI_add 36 _]
      refine z_bipush (v := 6) (q := 67) dX8_borrow_65 (by decide) rfl ?_
      refine z_iadd (q := 68) dX8_borrow_67 rfl ?_
      rw [show nI (36 + (8 * p)) + 6 = nI ((36 + (8 * p)) + 6) from nI_add _ 6]
      refine z_aload_n (i := 0) (q := 69) dX8_borrow_68 rfl rfl rfl ?_
      refine z_iload_n (i := 1) (q := 70) dX8_borrow_69 rfl rfl rfl ?_
      refine z_iconst (v := 3) (q := 71) dX8_borrow_70 (by decide) rfl ?_
      refine m_callV_r (As := [_, _]) (q := 74) mk_X8_of dX8_borrow_71 wd_947 wd_949 wp_46 (ci := 8) rfl ⟨by decide, _, rfl⟩ (ev_X8_of _ _ p 3 (by omega) (by omega)) rfl (by simp [Value.category]) rfl (Nat.zero_le _) (Nat.zero_le _) rfl ?_
      refine m_iastJ (N := 68) (q := 75) dX8_borrow_74 ⟨by decide, _, rfl⟩ (j := ((36 + (8 * p)) + 6)) (nI_clamp (by omega)) (vp_in_nI (by omega) (by decide)) rfl ?_
      refine z_aload_n (i := 0) (q := 76) dX8_borrow_75 rfl rfl rfl ?_
      refine m_getR (r := 184) (q := 79) dX8_borrow_76 fl_X8_19 ⟨by decide, _, rfl, rfl⟩ rfl ?_
      refine z_bipush (v := 36) (q := 81) dX8_borrow_79 (by decide) rfl ?_
      refine z_bipush (v := 8) (q := 83) dX8_borrow_81 (by decide) rfl ?_
      refine z_iload_n (i := 1) (q := 84) dX8_borrow_83 rfl rfl rfl ?_
      refine z_imul (q := 85) dX8_borrow_84 rfl ?_
      rw [show 8 * nI p = nI (8 * p) from nI_mul 8 _]
      refine z_iadd (q := 86) dX8_borrow_85 rfl ?_
      rw [show 36 + nI (8 * p) = nI (36 + (8 * p)) from nI_add 36 _]
      refine z_bipush (v := 7) (q := 88) dX8_borrow_86 (by decide) rfl ?_
      refine z_iadd (q := 89) dX8_borrow_88 rfl ?_
      rw [show nI (36 + (8 * p)) + 7 = nI ((36 + (8 * p)) + 7) from nI_add _ 7]
      refine z_aload_n (i := 0) (q := 90) dX8_borrow_89 rfl rfl rfl ?_
      refine z_iload_n (i := 1) (q := 91) dX8_borrow_90 rfl rfl rfl ?_
      refine z_iconst (v := 4) (q := 92) dX8_borrow_91 (by decide) rfl ?_
      refine m_callV_r (As := [_, _]) (q := 95) mk_X8_of dX8_borrow_92 wd_947 wd_949 wp_46 (ci := 8) rfl ⟨by decide, _, rfl⟩ (ev_X8_of _ _ p 4 (by omega) (by omega)) rfl (by simp [Value.category]) rfl (Nat.zero_le _) (Nat.zero_le _) rfl ?_
      refine m_iastJ (N := 68) (q := 96) dX8_borrow_95 ⟨by decide, _, rfl⟩ (j := ((36 + (8 * p)) + 7)) (nI_clamp (by omega)) (vp_in_nI (by omega) (by decide)) rfl ?_
      refine z_iload_n (i := 3) (q := 97) dX8_borrow_96 rfl rfl rfl ?_
      refine z_ireturn dX8_borrow_97 rfl rfl ?_ (Nat.le_refl _) (Nat.le_refl _)
      rfl
    · exact absurd h1 c2
set_option maxHeartbeats 4000000 in
set_option maxRecDepth 100000 in
theorem ev_X8_undo_state (d : Nat) (m : zm) (h1 : m.1 180 8 = 0) : zEv (d) zM_X8_undo 0 0 [.ref 180] (lay m) (some (.int (-1000002)), lay (mT m)) := by
  refine zEv_of (by decide) (fun G => Nat.le_of_ble_eq_true rfl) ?_
  show ZW _ _ _ _ 0 [some (.ref 180), none] [] _ _ _ _
  refine z_aload_n (i := 0) (q := 1) dX8_undo_0 rfl rfl rfl ?_
  refine z_iconst (v := 0) (q := 2) dX8_undo_1 (by decide) rfl ?_
  refine m_putI (q := 5) dX8_undo_2 fp_X8_48 ⟨by decide, _, rfl, rfl⟩ ⟨rfl, rfl⟩ rfl ?_
  refine z_aload_n (i := 0) (q := 6) dX8_undo_5 rfl rfl rfl ?_
  refine m_getI (q := 9) dX8_undo_6 fl_X8_175 ⟨by decide, _, rfl, rfl⟩ rfl ?_
  refine z_if_ne (tgt := 15) (q := 12) dX8_undo_9 (by decide) rfl (fun c1 => ?_) (fun c1 => ?_)
  · exact absurd h1 c1
  · skip
    refine z_ldc (q := 14) dX8_undo_12 wd_959 rfl ?_
    refine z_ireturn dX8_undo_14 rfl rfl ?_ (Nat.le_refl _) (Nat.le_refl _)
    rfl
set_option maxHeartbeats 4000000 in
set_option maxRecDepth 100000 in
theorem lp_X8_undo (d : Nat) (m : zm) (A : Nat) (hA : m.1 180 8 = nI A) (hA24 : A < 24) : ∀ (n : Nat) (i : Nat), 68 - i < n → i ≤ 68 → ZW zM_X8_undo (d) 0 0 27 [some (.ref 180), some (.int (nI i))] [] (lay (mMv m 184 0 186 (68 * A) i)) 0 0 (some (.int (nI A)), lay (mMv m 184 0 186 (68 * A) 68)) := by
  intro n
  induction n with
  | zero => intro i hm; exact absurd hm (by omega)
  | succ n ih =>
    intro i hm hi
    refine z_iload_n (i := 1) (q := 28) dX8_undo_27 rfl rfl rfl ?_
    refine z_bipush (v := 68) (q := 30) dX8_undo_28 (by decide) rfl ?_
    refine z_icmp_ge (tgt := 59) (q := 33) dX8_undo_30 (by decide) rfl (fun c1 => ?_) (fun c1 => ?_)
    · skip
      have hge : 68 ≤ i := (nI_leI (a := 68) (b := i) (by omega) (by omega)).mp c1
      have hi8 : i = 68 := by omega
      subst hi8
      refine z_aload_n (i := 0) (q := 60) dX8_undo_59 rfl rfl rfl ?_
      refine m_getI (q := 63) dX8_undo_60 fl_X8_175 ⟨by decide, _, rfl, rfl⟩ rfl ?_
      rw [mMv_n (by decide), hA]
      refine z_ireturn dX8_undo_63 rfl rfl ?_ (Nat.le_refl _) (Nat.le_refl _)
      rfl
    · skip
      have hlt : i < 68 := by
        rcases Nat.lt_or_ge i 68 with q | q
        · exact q
        · exact absurd ((nI_leI (a := 68) (b := i) (by omega) (by omega)).mpr q) c1
      refine z_aload_n (i := 0) (q := 34) dX8_undo_33 rfl rfl rfl ?_
      refine m_getR (r := 184) (q := 37) dX8_undo_34 fl_X8_19 ⟨by decide, _, rfl, rfl⟩ rfl ?_
      refine z_iload_n (i := 1) (q := 38) dX8_undo_37 rfl rfl rfl ?_
      refine z_aload_n (i := 0) (q := 39) dX8_undo_38 rfl rfl rfl ?_
      refine m_getR (r := 186) (q := 42) dX8_undo_39 fl_X8_25 ⟨by decide, _, rfl, rfl⟩ rfl ?_
      refine z_bipush (v := 68) (q := 44) dX8_undo_42 (by decide) rfl ?_
      refine z_aload_n (i := 0) (q := 45) dX8_undo_44 rfl rfl rfl ?_
      refine m_getI (q := 48) dX8_undo_45 fl_X8_175 ⟨by decide, _, rfl, rfl⟩ rfl ?_
      rw [mMv_n (by decide), hA]
      refine z_imul (q := 49) dX8_undo_48 rfl ?_
      rw [show 68 * nI A = nI (68 * A) from nI_mul 68 _]
      refine z_iload_n (i := 1) (q := 50) dX8_undo_49 rfl rfl rfl ?_
      refine z_iadd (q := 51) dX8_undo_50 rfl ?_
      rw [show nI (68 * A) + nI i = nI ((68 * A) + i) from nI_add _ _]
      refine m_ialdJ (N := 1632) (q := 52) dX8_undo_51 ⟨by decide, _, rfl⟩ (j := ((68 * A) + i)) (nI_clamp (by omega)) (vp_in_nI (by omega) (by decide)) rfl ?_
      refine m_iastJ (N := 68) (q := 53) dX8_undo_52 ⟨by decide, _, rfl⟩ (j := i) (nI_clamp (by omega)) (vp_in_nI (by omega) (by decide)) rfl ?_
      refine z_iinc (i := 1) (ls' := [_, _]) (v := nI (i + 1)) (q := 56) dX8_undo_53 rfl (nI_1 _) (by decide) rfl rfl ?_
      refine z_goto (tgt := 27) dX8_undo_56 (by decide) ?_
      rw [mMv_d0 (by decide)]
      exact ih (i + 1) (by omega) (by omega)
def mUndo (m : zm) (A : Nat) : zm := mMv (upI m 180 8 (nI A)) 184 0 186 (68 * A) 68
set_option maxHeartbeats 4000000 in
set_option maxRecDepth 100000 in
theorem ev_X8_undo (d : Nat) (m : zm) (A : Nat) (h1 : ¬ m.1 180 8 = 0) (hA : m.1 180 8 = nI (A + 1)) (hA24 : A < 24) : zEv (d) zM_X8_undo 0 0 [.ref 180] (lay m) (some (.int (nI A)), lay (mUndo (mT m) A)) := by
  refine zEv_of (by decide) (fun G => Nat.le_of_ble_eq_true rfl) ?_
  show ZW _ _ _ _ 0 [some (.ref 180), none] [] _ _ _ _
  refine z_aload_n (i := 0) (q := 1) dX8_undo_0 rfl rfl rfl ?_
  refine z_iconst (v := 0) (q := 2) dX8_undo_1 (by decide) rfl ?_
  refine m_putI (q := 5) dX8_undo_2 fp_X8_48 ⟨by decide, _, rfl, rfl⟩ ⟨rfl, rfl⟩ rfl ?_
  refine z_aload_n (i := 0) (q := 6) dX8_undo_5 rfl rfl rfl ?_
  refine m_getI (q := 9) dX8_undo_6 fl_X8_175 ⟨by decide, _, rfl, rfl⟩ rfl ?_
  refine z_if_ne (tgt := 15) (q := 12) dX8_undo_9 (by decide) rfl (fun c1 => ?_) (fun c1 => ?_)
  · skip
    refine z_aload_n (i := 0) (q := 16) dX8_undo_15 rfl rfl rfl ?_
    refine z_dup (q := 17) dX8_undo_16 rfl rfl ?_
    refine m_getI (q := 20) dX8_undo_17 fl_X8_175 ⟨by decide, _, rfl, rfl⟩ rfl ?_
    rw [show (mT m).1 180 8 = nI (A + 1) from hA]
    refine z_iconst (v := 1) (q := 21) dX8_undo_20 (by decide) rfl ?_
    refine z_isub (q := 22) dX8_undo_21 rfl ?_
    rw [nI_pred]
    refine m_putI (q := 25) dX8_undo_22 fp_X8_175 ⟨by decide, _, rfl, rfl⟩ ⟨rfl, rfl⟩ rfl ?_
    refine z_iconst (v := 0) (q := 26) dX8_undo_25 (by decide) rfl ?_
    refine z_istore_n (i := 1) (ls' := [_, _]) (q := 27) dX8_undo_26 rfl (by decide) rfl rfl ?_
    have e := lp_X8_undo d (upI (mT m) 180 8 (nI A)) A (upI_eq _ _ _ _) hA24 (68 + 1) 0 (by omega) (by omega)
    rw [mMv_0] at e
    exact e
  · exact absurd c1 h1
set_option maxHeartbeats 4000000 in
set_option maxRecDepth 100000 in
theorem ev_X8_person_bad (d : Nat) (m : zm) (p : Int32) (z : Int32) (hb : (p < 0 ∨ m.1 184 3 - 1 < p) ∨ (z < 0 ∨ 5 < z)) : zEv (d + 2) zM_X8_person 0 0 [.ref 180, .int p, .int z] (lay m) (some (.int (-1000001)), lay (mT m)) := by
  refine zEv_of (by decide) (fun G => Nat.le_of_ble_eq_true rfl) ?_
  show ZW _ _ _ _ 0 [some (.ref 180), some (.int p), some (.int z)] [] _ _ _ _
  refine z_aload_n (i := 0) (q := 1) dX8_person_0 rfl rfl rfl ?_
  refine z_iconst (v := 0) (q := 2) dX8_person_1 (by decide) rfl ?_
  refine m_putI (q := 5) dX8_person_2 fp_X8_48 ⟨by decide, _, rfl, rfl⟩ ⟨rfl, rfl⟩ rfl ?_
  refine z_aload_n (i := 0) (q := 6) dX8_person_5 rfl rfl rfl ?_
  refine z_iload_n (i := 1) (q := 7) dX8_person_6 rfl rfl rfl ?_
  refine m_callV_r (As := [_]) (q := 10) mk_X8_isPerson dX8_person_7 wd_935 wd_937 wp_43 (ci := 8) rfl ⟨by decide, _, rfl⟩ (ev_X8_isPerson _ _ _) rfl (by decide) rfl (Nat.zero_le _) (Nat.zero_le _) rfl ?_
  refine zb_eq (tgt := 25) (q := 13) dX8_person_10 (by decide) rfl (fun c1 => ?_) (fun c1 => ?_)
  · skip
    refine z_ldc (q := 27) dX8_person_25 wd_831 rfl ?_
    refine z_ireturn dX8_person_27 rfl rfl ?_ (Nat.le_refl _) (Nat.le_refl _)
    rfl
  · skip
    refine z_iload_n (i := 2) (q := 14) dX8_person_13 rfl rfl rfl ?_
    refine z_i2l (q := 15) dX8_person_14 rfl ?_
    refine z_lconst (v := 0) (q := 16) dX8_person_15 (by decide) rfl ?_
    refine z_ldc2 (q := 19) dX8_person_16 wd_1008 rfl ?_
    refine m_callS_r (As := [_, _, _]) (q := 22) mk_X8_in dX8_person_19 wd_827 wd_828 (ev_X8_in _ _ _ (0) (5) (by decide) (by decide)) rfl (by decide) rfl (Nat.zero_le _) (Nat.zero_le _) rfl ?_
    refine zb_ne (tgt := 28) (q := 25) dX8_person_22 (by decide) rfl (fun c2 => ?_) (fun c2 => ?_)
    · exact absurd hb (fun q => q.elim c1 c2)
    · skip
      refine z_ldc (q := 27) dX8_person_25 wd_831 rfl ?_
      refine z_ireturn dX8_person_27 rfl rfl ?_ (Nat.le_refl _) (Nat.le_refl _)
      rfl
def mPers (m : zm) (p : Nat) (z : Int32) : Int32 := if z = 0 then mOf m p 1 else if z = 1 then mOf m p 3 else if z = 2 then mOf m p 4 else if z = 3 then mOf m p 3 + mOf m p 2 - mOf m p 4 else mOwed m p (z - 4)
set_option maxHeartbeats 4000000 in
set_option maxRecDepth 100000 in
theorem ev_X8_person (d : Nat) (m : zm) (p : Nat) (z : Int32) (hn : ¬ (nI p < 0 ∨ m.1 184 3 - 1 < nI p)) (h1 : ¬ (z < 0 ∨ 5 < z)) (hp : p < 4) : zEv (d + 2) zM_X8_person 0 0 [.ref 180, .int (nI p), .int z] (lay m) (some (.int (mPers (mT m) p z)), lay (mT m)) := by
  refine zEv_of (by decide) (fun G => Nat.le_of_ble_eq_true rfl) ?_
  show ZW _ _ _ _ 0 [some (.ref 180), some (.int (nI p)), some (.int z)] [] _ _ _ _
  refine z_aload_n (i := 0) (q := 1) dX8_person_0 rfl rfl rfl ?_
  refine z_iconst (v := 0) (q := 2) dX8_person_1 (by decide) rfl ?_
  refine m_putI (q := 5) dX8_person_2 fp_X8_48 ⟨by decide, _, rfl, rfl⟩ ⟨rfl, rfl⟩ rfl ?_
  refine z_aload_n (i := 0) (q := 6) dX8_person_5 rfl rfl rfl ?_
  refine z_iload_n (i := 1) (q := 7) dX8_person_6 rfl rfl rfl ?_
  refine m_callV_r (As := [_]) (q := 10) mk_X8_isPerson dX8_person_7 wd_935 wd_937 wp_43 (ci := 8) rfl ⟨by decide, _, rfl⟩ (ev_X8_isPerson _ _ _) rfl (by decide) rfl (Nat.zero_le _) (Nat.zero_le _) rfl ?_
  refine zb_eq (tgt := 25) (q := 13) dX8_person_10 (by decide) rfl (fun c1 => ?_) (fun c1 => ?_)
  · exact absurd hn c1
  · skip
    refine z_iload_n (i := 2) (q := 14) dX8_person_13 rfl rfl rfl ?_
    refine z_i2l (q := 15) dX8_person_14 rfl ?_
    refine z_lconst (v := 0) (q := 16) dX8_person_15 (by decide) rfl ?_
    refine z_ldc2 (q := 19) dX8_person_16 wd_1008 rfl ?_
    refine m_callS_r (As := [_, _, _]) (q := 22) mk_X8_in dX8_person_19 wd_827 wd_828 (ev_X8_in _ _ _ (0) (5) (by decide) (by decide)) rfl (by decide) rfl (Nat.zero_le _) (Nat.zero_le _) rfl ?_
    refine zb_ne (tgt := 28) (q := 25) dX8_person_22 (by decide) rfl (fun c2 => ?_) (fun c2 => ?_)
    · skip
      refine z_iload_n (i := 2) (q := 29) dX8_person_28 rfl rfl rfl ?_
      refine z_table (tgts := [60, 67, 74, 81]) (dt := 102) dX8_person_29 (by decide) (by decide) (by decide) (fun j t ht c3 => ?_) (fun c3 => ?_)
      · match j, ht, c3 with
        | 0, ht, c3 =>
          cases ht
          have c3 : _ = (0 : Int32) := Int32.toInt_inj.mp c3
          refine z_aload_n (i := 0) (q := 61) dX8_person_60 rfl rfl rfl ?_
          refine z_iload_n (i := 1) (q := 62) dX8_person_61 rfl rfl rfl ?_
          refine z_iconst (v := 1) (q := 63) dX8_person_62 (by decide) rfl ?_
          refine m_callV_r (As := [_, _]) (q := 66) mk_X8_of dX8_person_63 wd_947 wd_949 wp_46 (ci := 8) rfl ⟨by decide, _, rfl⟩ (ev_X8_of _ _ p 1 (by omega) (by omega)) rfl (by decide) rfl (Nat.zero_le _) (Nat.zero_le _) rfl ?_
          refine z_ireturn dX8_person_66 rfl rfl ?_ (Nat.le_refl _) (Nat.le_refl _)
          simp [mPers, mOf, c1, c2, c3]
        | 1, ht, c3 =>
          cases ht
          have c3 : _ = (1 : Int32) := Int32.toInt_inj.mp c3
          refine z_aload_n (i := 0) (q := 68) dX8_person_67 rfl rfl rfl ?_
          refine z_iload_n (i := 1) (q := 69) dX8_person_68 rfl rfl rfl ?_
          refine z_iconst (v := 3) (q := 70) dX8_person_69 (by decide) rfl ?_
          refine m_callV_r (As := [_, _]) (q := 73) mk_X8_of dX8_person_70 wd_947 wd_949 wp_46 (ci := 8) rfl ⟨by decide, _, rfl⟩ (ev_X8_of _ _ p 3 (by omega) (by omega)) rfl (by decide) rfl (Nat.zero_le _) (Nat.zero_le _) rfl ?_
          refine z_ireturn dX8_person_73 rfl rfl ?_ (Nat.le_refl _) (Nat.le_refl _)
          simp [mPers, mOf, c1, c2, c3]
        | 2, ht, c3 =>
          cases ht
          have c3 : _ = (2 : Int32) := Int32.toInt_inj.mp c3
          refine z_aload_n (i := 0) (q := 75) dX8_person_74 rfl rfl rfl ?_
          refine z_iload_n (i := 1) (q := 76) dX8_person_75 rfl rfl rfl ?_
          refine z_iconst (v := 4) (q := 77) dX8_person_76 (by decide) rfl ?_
          refine m_callV_r (As := [_, _]) (q := 80) mk_X8_of dX8_person_77 wd_947 wd_949 wp_46 (ci := 8) rfl ⟨by decide, _, rfl⟩ (ev_X8_of _ _ p 4 (by omega) (by omega)) rfl (by decide) rfl (Nat.zero_le _) (Nat.zero_le _) rfl ?_
          refine z_ireturn dX8_person_80 rfl rfl ?_ (Nat.le_refl _) (Nat.le_refl _)
          simp [mPers, mOf, c1, c2, c3]
        | 3, ht, c3 =>
          cases ht
          have c3 : _ = (3 : Int32) := Int32.toInt_inj.mp c3
          refine z_aload_n (i := 0) (q := 82) dX8_person_81 rfl rfl rfl ?_
          refine z_iload_n (i := 1) (q := 83) dX8_person_82 rfl rfl rfl ?_
          refine z_iconst (v := 3) (q := 84) dX8_person_83 (by decide) rfl ?_
          refine m_callV_r (As := [_, _]) (q := 87) mk_X8_of dX8_person_84 wd_947 wd_949 wp_46 (ci := 8) rfl ⟨by decide, _, rfl⟩ (ev_X8_of _ _ p 3 (by omega) (by omega)) rfl (by decide) rfl (Nat.zero_le _) (Nat.zero_le _) rfl ?_
          refine z_aload_n (i := 0) (q := 88) dX8_person_87 rfl rfl rfl ?_
          refine z_iload_n (i := 1) (q := 89) dX8_person_88 rfl rfl rfl ?_
          refine z_iconst (v := 2) (q := 90) dX8_person_89 (by decide) rfl ?_
          refine m_callV_r (As := [_, _]) (q := 93) mk_X8_of dX8_person_90 wd_947 wd_949 wp_46 (ci := 8) rfl ⟨by decide, _, rfl⟩ (ev_X8_of _ _ p 2 (by omega) (by omega)) rfl (by simp [Value.category]) rfl (Nat.zero_le _) (Nat.zero_le _) rfl ?_
          refine z_iadd (q := 94) dX8_person_93 rfl ?_
          refine z_aload_n (i := 0) (q := 95) dX8_person_94 rfl rfl rfl ?_
          refine z_iload_n (i := 1) (q := 96) dX8_person_95 rfl rfl rfl ?_
          refine z_iconst (v := 4) (q := 97) dX8_person_96 (by decide) rfl ?_
          refine m_callV_r (As := [_, _]) (q := 100) mk_X8_of dX8_person_97 wd_947 wd_949 wp_46 (ci := 8) rfl ⟨by decide, _, rfl⟩ (ev_X8_of _ _ p 4 (by omega) (by omega)) rfl (by simp [Value.category]) rfl (Nat.zero_le _) (Nat.zero_le _) rfl ?_
          refine z_isub (q := 101) dX8_person_100 rfl ?_
          refine z_ireturn dX8_person_101 rfl rfl ?_ (Nat.le_refl _) (Nat.le_refl _)
          simp [mPers, mOf, c1, c2, c3]
        | j + 4, ht, c3 => exact absurd ht (by simp)
      · skip
        have c3_0 := zout (v := 0) c3 (by decide)
        have c3_1 := zout (v := 1) c3 (by decide)
        have c3_2 := zout (v := 2) c3 (by decide)
        have c3_3 := zout (v := 3) c3 (by decide)
        refine z_aload_n (i := 0) (q := 103) dX8_person_102 rfl rfl rfl ?_
        refine z_iload_n (i := 1) (q := 104) dX8_person_103 rfl rfl rfl ?_
        refine z_iload_n (i := 2) (q := 105) dX8_person_104 rfl rfl rfl ?_
        refine z_iconst (v := 4) (q := 106) dX8_person_105 (by decide) rfl ?_
        refine z_isub (q := 107) dX8_person_106 rfl ?_
        refine m_callV_r (As := [_, _]) (q := 110) mk_X8_owedBy dX8_person_107 wd_991 wd_993 wp_52 (ci := 8) rfl ⟨by decide, _, rfl⟩ (ev_X8_owedBy _ _ p _ (by omega)) rfl (by decide) rfl (Nat.zero_le _) (Nat.zero_le _) rfl ?_
        refine z_ireturn dX8_person_110 rfl rfl ?_ (Nat.le_refl _) (Nat.le_refl _)
        rw [show mPers (mT m) p z = mOwed (mT m) p (z - 4) from (if_neg c3_0).trans ((if_neg c3_1).trans ((if_neg c3_2).trans (if_neg c3_3)))]
    · exact absurd h1 c2
set_option maxHeartbeats 4000000 in
set_option maxRecDepth 100000 in
theorem ev_X8_gone_bad (d : Nat) (m : zm) (p : Int32) (hb : (p < 0 ∨ m.1 184 3 - 1 < p)) : zEv (d + 2) zM_X8_gone 0 0 [.ref 180, .int p] (lay m) (some (.int (-1000001)), lay (mT m)) := by
  refine zEv_of (by decide) (fun G => Nat.le_of_ble_eq_true rfl) ?_
  show ZW _ _ _ _ 0 [some (.ref 180), some (.int p)] [] _ _ _ _
  refine z_aload_n (i := 0) (q := 1) dX8_gone_0 rfl rfl rfl ?_
  refine z_iconst (v := 0) (q := 2) dX8_gone_1 (by decide) rfl ?_
  refine m_putI (q := 5) dX8_gone_2 fp_X8_48 ⟨by decide, _, rfl, rfl⟩ ⟨rfl, rfl⟩ rfl ?_
  refine z_aload_n (i := 0) (q := 6) dX8_gone_5 rfl rfl rfl ?_
  refine z_iload_n (i := 1) (q := 7) dX8_gone_6 rfl rfl rfl ?_
  refine m_callV_r (As := [_]) (q := 10) mk_X8_isPerson dX8_gone_7 wd_935 wd_937 wp_43 (ci := 8) rfl ⟨by decide, _, rfl⟩ (ev_X8_isPerson _ _ _) rfl (by decide) rfl (Nat.zero_le _) (Nat.zero_le _) rfl ?_
  refine zb_eq (tgt := 29) (q := 13) dX8_gone_10 (by decide) rfl (fun c1 => ?_) (fun c1 => ?_)
  · skip
    refine z_ldc (q := 31) dX8_gone_29 wd_831 rfl ?_
    refine z_ireturn dX8_gone_31 rfl rfl ?_ (Nat.le_refl _) (Nat.le_refl _)
    rfl
  · exact absurd hb c1
set_option maxHeartbeats 4000000 in
set_option maxRecDepth 100000 in
theorem ev_X8_gone (d : Nat) (m : zm) (p : Nat) (hn : ¬ (nI p < 0 ∨ m.1 184 3 - 1 < nI p)) (hp : p < 4) : zEv (d + 2) zM_X8_gone 0 0 [.ref 180, .int (nI p)] (lay m) (some (.int (mOwed (mT m) p 0 - mOwed (mT m) p 1)), lay (mT m)) := by
  refine zEv_of (by decide) (fun G => Nat.le_of_ble_eq_true rfl) ?_
  show ZW _ _ _ _ 0 [some (.ref 180), some (.int (nI p))] [] _ _ _ _
  refine z_aload_n (i := 0) (q := 1) dX8_gone_0 rfl rfl rfl ?_
  refine z_iconst (v := 0) (q := 2) dX8_gone_1 (by decide) rfl ?_
  refine m_putI (q := 5) dX8_gone_2 fp_X8_48 ⟨by decide, _, rfl, rfl⟩ ⟨rfl, rfl⟩ rfl ?_
  refine z_aload_n (i := 0) (q := 6) dX8_gone_5 rfl rfl rfl ?_
  refine z_iload_n (i := 1) (q := 7) dX8_gone_6 rfl rfl rfl ?_
  refine m_callV_r (As := [_]) (q := 10) mk_X8_isPerson dX8_gone_7 wd_935 wd_937 wp_43 (ci := 8) rfl ⟨by decide, _, rfl⟩ (ev_X8_isPerson _ _ _) rfl (by decide) rfl (Nat.zero_le _) (Nat.zero_le _) rfl ?_
  refine zb_eq (tgt := 29) (q := 13) dX8_gone_10 (by decide) rfl (fun c1 => ?_) (fun c1 => ?_)
  · exact absurd hn c1
  · skip
    refine z_aload_n (i := 0) (q := 14) dX8_gone_13 rfl rfl rfl ?_
    refine z_iload_n (i := 1) (q := 15) dX8_gone_14 rfl rfl rfl ?_
    refine z_iconst (v := 0) (q := 16) dX8_gone_15 (by decide) rfl ?_
    refine m_callV_r (As := [_, _]) (q := 19) mk_X8_owedBy dX8_gone_16 wd_991 wd_993 wp_52 (ci := 8) rfl ⟨by decide, _, rfl⟩ (ev_X8_owedBy _ _ p (0) (by omega)) rfl (by decide) rfl (Nat.zero_le _) (Nat.zero_le _) rfl ?_
    refine z_aload_n (i := 0) (q := 20) dX8_gone_19 rfl rfl rfl ?_
    refine z_iload_n (i := 1) (q := 21) dX8_gone_20 rfl rfl rfl ?_
    refine z_iconst (v := 1) (q := 22) dX8_gone_21 (by decide) rfl ?_
    refine m_callV_r (As := [_, _]) (q := 25) mk_X8_owedBy dX8_gone_22 wd_991 wd_993 wp_52 (ci := 8) rfl ⟨by decide, _, rfl⟩ (ev_X8_owedBy _ _ p (1) (by omega)) rfl (by simp [Value.category]) rfl (Nat.zero_le _) (Nat.zero_le _) rfl ?_
    refine z_isub (q := 26) dX8_gone_25 rfl ?_
    refine z_goto (tgt := 31) dX8_gone_26 (by decide) ?_
    refine z_ireturn dX8_gone_31 rfl rfl ?_ (Nat.le_refl _) (Nat.le_refl _)
    rfl
