/-! ===== the model: league ===== -/
def mBeg0 (m : zm) : zm := upI (upI (upI (upI m 180 12 (m.1 180 10)) 180 10 0) 180 13 0) 180 17 0
def mBegin (m : zm) (t : Nat) : zm := mNext (mBeg0 m) t 0
theorem mBeg0_h {m : zm} {t : Nat} (ht : m.1 180 10 = nI t) (hby : ∀ k, k < t → 0 ≤ m.1 187 k) : (mBeg0 m).1 180 12 = nI t ∧ (∀ k, k < t → 0 ≤ (mBeg0 m).1 187 k) ∧ (mBeg0 m).1 180 13 = nI 0 := by
  unfold mBeg0
  refine ⟨?_, ?_, ?_⟩
  · rw [upI_ne (by decide), upI_ne (by decide), upI_ne (by decide), upI_eq, ht]
  · simp only [u187]
    exact hby
  · rw [upI_ne (by decide), upI_eq]
    rfl
theorem mOk_begin {m : zm} {t : Nat} (ht : m.1 180 10 = nI t) (ht4 : t ≤ 400) (hby : ∀ k, k < t → 0 ≤ m.1 187 k) : mOk (mBegin m t) := by
  have h := mBeg0_h ht hby
  exact mOk_next h.1 ht4 h.2.1 (Nat.zero_le _)
set_option maxHeartbeats 4000000 in
set_option maxRecDepth 100000 in
theorem ev_X8_begin (d : Nat) (m : zm) (t : Nat) (ht : m.1 180 10 = nI t) (ht4 : t ≤ 400) (hby : ∀ k, k < t → 0 ≤ m.1 187 k) : zEv (d + 2) zM_X8_begin 0 0 [.ref 180] (lay m) (none, lay (mBegin m t)) := by
  refine zEv_of (by decide) (fun G => Nat.le_of_ble_eq_true rfl) ?_
  show ZW _ _ _ _ 0 [some (.ref 180)] [] _ _ _ _
  refine z_aload_n (i := 0) (q := 1) dX8_begin_0 rfl rfl rfl ?_
  refine z_aload_n (i := 0) (q := 2) dX8_begin_1 rfl rfl rfl ?_
  refine m_getI (q := 5) dX8_begin_2 fl_X8_75 ⟨by decide, _, rfl, rfl⟩ rfl ?_
  refine m_putI (q := 8) dX8_begin_5 fp_X8_81 ⟨by decide, _, rfl, rfl⟩ ⟨rfl, rfl⟩ rfl ?_
  refine z_aload_n (i := 0) (q := 9) dX8_begin_8 rfl rfl rfl ?_
  refine z_iconst (v := 0) (q := 10) dX8_begin_9 (by decide) rfl ?_
  refine m_putI (q := 13) dX8_begin_10 fp_X8_75 ⟨by decide, _, rfl, rfl⟩ ⟨rfl, rfl⟩ rfl ?_
  refine z_aload_n (i := 0) (q := 14) dX8_begin_13 rfl rfl rfl ?_
  refine z_iconst (v := 0) (q := 15) dX8_begin_14 (by decide) rfl ?_
  refine m_putI (q := 18) dX8_begin_15 fp_X8_85 ⟨by decide, _, rfl, rfl⟩ ⟨rfl, rfl⟩ rfl ?_
  refine z_aload_n (i := 0) (q := 19) dX8_begin_18 rfl rfl rfl ?_
  refine z_iconst (v := 0) (q := 20) dX8_begin_19 (by decide) rfl ?_
  refine m_putI (q := 23) dX8_begin_20 fp_X8_106 ⟨by decide, _, rfl, rfl⟩ ⟨rfl, rfl⟩ rfl ?_
  refine z_aload_n (i := 0) (q := 24) dX8_begin_23 rfl rfl rfl ?_
  refine m_callV_v (As := []) (q := 27) mk_X8_next dX8_begin_24 wd_864 wd_866 wp_32 (ci := 8) rfl ⟨by decide, _, rfl⟩ (ev_X8_next _ (mBeg0 m) t 0 (mBeg0_h ht hby).1 ht4 (mBeg0_h ht hby).2.1 (mBeg0_h ht hby).2.2 (Nat.zero_le _)) rfl (by decide) rfl (Nat.zero_le _) (Nat.zero_le _) rfl ?_
  refine z_return dX8_begin_27 rfl ?_ (Nat.le_refl _) (Nat.le_refl _)
  rfl
set_option maxHeartbeats 4000000 in
set_option maxRecDepth 100000 in
theorem lp_X8_lgz (d : Nat) (m : zm) (Y : zX) (hY : ∀ x : Int32, ZW zM_X8_league (d + 5) 0 0 30 [some (.ref 180), some (.int x)] [] (lay (mFill m 185 0 68)) 0 0 Y) : ∀ (n : Nat) (k : Nat), 68 - k < n → k ≤ 68 → ZW zM_X8_league (d + 5) 0 0 11 [some (.ref 180), some (.int (nI k))] [] (lay (mFill m 185 0 k)) 0 0 (Y) := by
  intro n
  induction n with
  | zero => intro k hm; exact absurd hm (by omega)
  | succ n ih =>
    intro k hm hk
    refine z_iload_n (i := 1) (q := 12) dX8_league_11 rfl rfl rfl ?_
    refine z_bipush (v := 68) (q := 14) dX8_league_12 (by decide) rfl ?_
    refine z_icmp_ge (tgt := 30) (q := 17) dX8_league_14 (by decide) rfl (fun c1 => ?_) (fun c1 => ?_)
    · skip
      have hk8 : k = 68 := by
        have := (nI_leI (a := 68) (b := k) (by omega) (by omega)).mp c1
        omega
      subst hk8
      exact hY _
    · skip
      have hk8 : k < 68 := by
        rcases Nat.lt_or_ge k 68 with q | q
        · exact q
        · exact absurd ((nI_leI (a := 68) (b := k) (by omega) (by omega)).mpr q) c1
      refine z_aload_n (i := 0) (q := 18) dX8_league_17 rfl rfl rfl ?_
      refine m_getR (r := 185) (q := 21) dX8_league_18 fl_X8_22 ⟨by decide, _, rfl, rfl⟩ rfl ?_
      refine z_iload_n (i := 1) (q := 22) dX8_league_21 rfl rfl rfl ?_
      refine z_iconst (v := 0) (q := 23) dX8_league_22 (by decide) rfl ?_
      refine m_iastJ (N := 68) (q := 24) dX8_league_23 ⟨by decide, _, rfl⟩ (j := k) (nI_clamp (by omega)) (vp_in_nI (by omega) (by decide)) rfl ?_
      refine z_iinc (i := 1) (ls' := [_, _]) (v := nI (k + 1)) (q := 27) dX8_league_24 rfl (nI_1 _) (by decide) rfl rfl ?_
      refine z_goto (tgt := 11) dX8_league_27 (by decide) ?_
      have e1 := mFill_s m 185 0 k
      rw [Nat.zero_add] at e1
      rw [e1]
      exact ih (k + 1) (by omega) (by omega)
def mStd (m : zm) (k : Nat) : zm := (fun b j => if b = 184 ∧ j < k then m.1 185 j else m.1 b j, m.2)
theorem mStd_0 (m : zm) : mStd m 0 = m := by
  refine Prod.ext (funext fun b => funext fun j => ?_) rfl
  simp only [mStd]
  rw [if_neg (by omega)]
theorem mStd_s (m : zm) (k : Nat) : upI (mStd m k) 184 k ((mStd m k).1 185 k) = mStd m (k + 1) := by
  refine Prod.ext (funext fun b => funext fun j => ?_) rfl
  simp only [upI, mStd]
  rw [if_neg (show ¬ ((185 : Nat) = 184 ∧ k < k) by omega)]
  by_cases h : b = 184 ∧ j = k
  · rw [if_pos h, if_pos (by omega), h.2]
  · rw [if_neg h]
    by_cases h2 : b = 184 ∧ j < k
    · rw [if_pos h2, if_pos (by omega)]
    · rw [if_neg h2, if_neg (by omega)]
set_option maxHeartbeats 4000000 in
set_option maxRecDepth 100000 in
theorem lp_X8_lgs (d : Nat) (m : zm) : ∀ (n : Nat) (k : Nat), 68 - k < n → k ≤ 68 → ZW zM_X8_league (d + 5) 0 0 165 [some (.ref 180), some (.int (nI k))] [] (lay (mStd m k)) 0 0 (some (.int ((mStd m 68).1 184 3)), lay (mStd m 68)) := by
  intro n
  induction n with
  | zero => intro k hm; exact absurd hm (by omega)
  | succ n ih =>
    intro k hm hk
    refine z_iload_n (i := 1) (q := 166) dX8_league_165 rfl rfl rfl ?_
    refine z_bipush (v := 68) (q := 168) dX8_league_166 (by decide) rfl ?_
    refine z_icmp_ge (tgt := 189) (q := 171) dX8_league_168 (by decide) rfl (fun c1 => ?_) (fun c1 => ?_)
    · skip
      have hk8 : k = 68 := by
        have := (nI_leI (a := 68) (b := k) (by omega) (by omega)).mp c1
        omega
      subst hk8
      refine z_aload_n (i := 0) (q := 190) dX8_league_189 rfl rfl rfl ?_
      refine m_getR (r := 184) (q := 193) dX8_league_190 fl_X8_19 ⟨by decide, _, rfl, rfl⟩ rfl ?_
      refine z_iconst (v := 3) (q := 194) dX8_league_193 (by decide) rfl ?_
      refine m_ialdJ (N := 68) (q := 195) dX8_league_194 ⟨by decide, _, rfl⟩ (j := 3) (by decide) (vp_c (by decide)) rfl ?_
      refine z_ireturn dX8_league_195 rfl rfl ?_ (Nat.le_refl _) (Nat.le_refl _)
      rfl
    · skip
      have hk8 : k < 68 := by
        rcases Nat.lt_or_ge k 68 with q | q
        · exact q
        · exact absurd ((nI_leI (a := 68) (b := k) (by omega) (by omega)).mpr q) c1
      refine z_aload_n (i := 0) (q := 172) dX8_league_171 rfl rfl rfl ?_
      refine m_getR (r := 184) (q := 175) dX8_league_172 fl_X8_19 ⟨by decide, _, rfl, rfl⟩ rfl ?_
      refine z_iload_n (i := 1) (q := 176) dX8_league_175 rfl rfl rfl ?_
      refine z_aload_n (i := 0) (q := 177) dX8_league_176 rfl rfl rfl ?_
      refine m_getR (r := 185) (q := 180) dX8_league_177 fl_X8_22 ⟨by decide, _, rfl, rfl⟩ rfl ?_
      refine z_iload_n (i := 1) (q := 181) dX8_league_180 rfl rfl rfl ?_
      refine m_ialdJ (N := 68) (q := 182) dX8_league_181 ⟨by decide, _, rfl⟩ (j := k) (nI_clamp (by omega)) (vp_in_nI (by omega) (by decide)) rfl ?_
      refine m_iastJ (N := 68) (q := 183) dX8_league_182 ⟨by decide, _, rfl⟩ (j := k) (nI_clamp (by omega)) (vp_in_nI (by omega) (by decide)) rfl ?_
      refine z_iinc (i := 1) (ls' := [_, _]) (v := nI (k + 1)) (q := 186) dX8_league_183 rfl (nI_1 _) (by decide) rfl rfl ?_
      refine z_goto (tgt := 165) dX8_league_186 (by decide) ?_
      rw [mStd_s]
      exact ih (k + 1) (by omega) (by omega)
def sW (m : zm) : Nat := (m.1 185 2).toNatClampNeg
def sP (m : zm) : Nat := (m.1 185 3).toNatClampNeg
def sOk (m : zm) : Prop := mOk m ∧ (m.1 185 2 = nI (sW m) ∧ sW m ≤ 8) ∧ m.1 185 3 = nI (sP m) ∧ sP m ≤ 4
theorem sOk_of {m : zm} {w p : Nat} (hT : mOk m) (h1 : m.1 185 2 = nI w) (h2 : w ≤ 8) (h3 : m.1 185 3 = nI p) (h4 : p ≤ 4) : sOk m ∧ sW m = w ∧ sP m = p := by
  have e1 : sW m = w := by unfold sW; rw [h1, nI_clamp (by omega)]
  have e2 : sP m = p := by unfold sP; rw [h3, nI_clamp (by omega)]
  exact ⟨⟨hT, ⟨by rw [e1]; exact h1, by omega⟩, by rw [e2]; exact h3, by omega⟩, e1, e2⟩
theorem mWay3_0 {m : zm} (h0 : (mWay3 m).1 180 17 = 0) : (mWay2 m).1 180 17 = 0 := by
  unfold mWay3 at h0
  split at h0
  · exact mbad_0 h0
  · exact h0
theorem mOk_way3 {m : zm} (h : mOk m) : mOk (mWay3 m) := by
  unfold mWay3
  split
  · exact mOk_bad (mOk_way2 h)
  · exact mOk_way2 h
theorem mWay3_o {m : zm} {a k : Nat} (ha : a ≠ 180) : (mWay3 m).1 a k = m.1 a k := by
  unfold mWay3
  split
  · unfold mWay2 mWay1
    rw [mbad_o ha, mnum_o ha, mbeg_o ha]
  · unfold mWay2 mWay1
    rw [mnum_o ha, mbeg_o ha]
theorem mWay6_o {m : zm} {a k : Nat} (ha : a ≠ 180) : (mWay6 m).1 a k = m.1 a k := by
  unfold mWay6 mWay5 mWay4
  rw [mme_o ha, mnum_o ha, mnum_o ha, mnum_o ha]
theorem mOk_way6 {m : zm} (h : mOk m) : mOk (mWay6 m) := mOk_me (mOk_num (mOk_num (mOk_num h)))
theorem mOk_wayP {m : zm} {W : Nat} {a b c e : Int32} (h : mOk m) : mOk (mWayP m W a b c e) := by
  unfold mWayP
  exact mOk_u (by decide) (by decide) (mOk_u (by decide) (by decide) (mOk_u (by decide) (by decide) (mOk_u (by decide) (by decide) (mOk_u (by decide) (by decide) h))))
theorem mWayP_2 {m : zm} {W : Nat} {a b c e : Int32} : (mWayP m W a b c e).1 185 2 = nI (W + 1) := upI_eq _ _ _ _
theorem mWayP_3 {m : zm} {W : Nat} {a b c e : Int32} : (mWayP m W a b c e).1 185 3 = m.1 185 3 := by
  unfold mWayP
  rw [upI_ne (by omega), upI_ne (by omega), upI_ne (by omega), upI_ne (by omega), upI_ne (by omega)]
theorem mWayP_f {m : zm} {W : Nat} {a b c e : Int32} : (mWayP m W a b c e).1 180 17 = m.1 180 17 := by
  unfold mWayP
  rw [upI_ne (by omega), upI_ne (by omega), upI_ne (by omega), upI_ne (by omega), upI_ne (by omega)]
theorem mWay6_0 {m : zm} (h0 : (mWay6 m).1 180 17 = 0) : m.1 180 17 = 0 := by
  unfold mWay6 mWay5 mWay4 at h0
  exact mnum_0 (mnum_0 (mnum_0 (mme_0 h0)))
/-- one way read: the shape stands, and either a fault or one way more -/
theorem sOk_way {m : zm} (h : sOk m) : sOk (mWay m (sW m)) ∧ ((mWay m (sW m)).1 180 17 = 0 → sW m < 8 ∧ sW (mWay m (sW m)) = sW m + 1) := by
  obtain ⟨hT, ⟨h2, h28⟩, h3, h34⟩ := h
  unfold mWay mWayB mWayE
  split
  next q =>
    have hlt : sW m < 8 := mWay2_8 h2 h28 (mWay3_0 (mWay6_0 q))
    have r := sOk_of (m := mWayP (mWay6 (mWay3 m)) (sW m) (mNumR (mWay1 m)) (mNumR (mWay3 m)) (mNumR (mWay4 (mWay3 m))) (mNumR (mWay5 (mWay3 m)))) (mOk_wayP (mOk_way6 (mOk_way3 hT))) mWayP_2 (by omega) (by rw [mWayP_3, mWay6_o (by decide), mWay3_o (by decide)]; exact h3) h34
    exact ⟨r.1, fun _ => ⟨hlt, r.2.1⟩⟩
  next q =>
    have r := sOk_of (m := mWay6 (mWay3 m)) (mOk_way6 (mOk_way3 hT)) (by rw [mWay6_o (by decide), mWay3_o (by decide)]; exact h2) h28 (by rw [mWay6_o (by decide), mWay3_o (by decide)]; exact h3) h34
    exact ⟨r.1, fun z => absurd z q⟩
def mWaysL : Nat → zm → zm
  | 0, m => m
  | n + 1, m => if mName m = 7823737 then mWaysL n (mWay m (sW m)) else m
def mMu (m : zm) : Nat := if m.1 180 17 = 0 then 9 - sW m else 0
theorem mName_f {m : zm} (h : mName m = 7823737) : m.1 180 17 = 0 :=
  Classical.byContradiction (fun q => absurd ((if_neg q : mName m = 0).symm.trans h) (by decide))
theorem mMu_way {m : zm} (h : sOk m) (hn : mName m = 7823737) : mMu (mWay m (sW m)) < mMu m := by
  have r := (sOk_way h).2
  have hW := h.2.1.2
  unfold mMu
  rw [if_pos (mName_f hn)]
  split
  next q => have := r q; omega
  next q => omega
set_option maxHeartbeats 4000000 in
set_option maxRecDepth 100000 in
theorem lp_X8_lgw (d : Nat) (x : Int32) (Y : zX) : ∀ (n : Nat) (m : zm), mMu m < n → sOk m → ZW zM_X8_league (d + 5) 0 0 97 [some (.ref 180), some (.int x)] [] (lay (mWaysL (n + 0) m)) 0 0 Y → ZW zM_X8_league (d + 5) 0 0 79 [some (.ref 180), some (.int x)] [] (lay m) 0 0 (Y) := by
  intro n
  induction n with
  | zero => intro m hm; exact absurd hm (by omega)
  | succ n ih =>
    intro m hm hS hY
    have hT := hS.1
    refine z_aload_n (i := 0) (q := 80) dX8_league_79 rfl rfl rfl ?_
    refine m_callV_r (As := []) (q := 83) mk_X8_name dX8_league_80 wd_879 wd_881 wp_34 (ci := 8) rfl ⟨by decide, _, rfl⟩ (ev_X8_name _ _ hT) rfl (by decide) rfl (Nat.zero_le _) (Nat.zero_le _) rfl ?_
    refine z_ldc2 (q := 86) dX8_league_83 wd_904 rfl ?_
    refine z_lcmp (q := 87) dX8_league_86 rfl ?_
    refine zl_ne (tgt := 97) (q := 90) dX8_league_87 (by decide) rfl (fun c1 => ?_) (fun c1 => ?_)
    · skip
      rw [show mWaysL (n + 1 + 0) m = m from if_neg c1] at hY
      exact hY
    · skip
      refine z_aload_n (i := 0) (q := 91) dX8_league_90 rfl rfl rfl ?_
      refine m_callV_v (As := []) (q := 94) mk_X8_readWay dX8_league_91 wd_905 wd_907 wp_40 (ci := 8) rfl ⟨by decide, _, rfl⟩ (ev_X8_readWay _ _ (sW m) hT hS.2.1.1 hS.2.1.2) rfl (by decide) rfl (Nat.zero_le _) (Nat.zero_le _) rfl ?_
      refine z_goto (tgt := 79) dX8_league_94 (by decide) ?_
      rw [show mWaysL (n + 1 + 0) m = mWaysL n (mWay m (sW m)) from if_pos c1] at hY
      exact ih (mWay m (sW m)) (by have := mMu_way hS c1; omega) (sOk_way hS).1 hY
theorem mPer2_0 {m : zm} (h0 : (mPer2 m).1 180 17 = 0) : (mPer1 m).1 180 17 = 0 := by
  unfold mPer2 at h0
  split at h0
  next q => exact q
  next q => exact h0
theorem mOk_per2 {m : zm} (h : mOk m) : mOk (mPer2 m) := by
  unfold mPer2
  split
  · exact mOk_must (mOk_beg h)
  · exact mOk_beg h
theorem mPer2_o {m : zm} {a k : Nat} (ha : a ≠ 180) : (mPer2 m).1 a k = m.1 a k := by
  unfold mPer2
  split
  · unfold mPer1
    rw [mmust_o ha, mbeg_o ha]
  · unfold mPer1
    rw [mbeg_o ha]
theorem mPer4_o {m : zm} {a k : Nat} (ha : a ≠ 180) : (mPer4 m).1 a k = m.1 a k := by
  unfold mPer4 mPer3
  rw [mme_o ha, mnum_o ha, mnum_o ha]
theorem mPer4_0 {m : zm} (h0 : (mPer4 m).1 180 17 = 0) : m.1 180 17 = 0 := by
  unfold mPer4 mPer3 at h0
  exact mnum_0 (mnum_0 (mme_0 h0))
theorem mOk_per4 {m : zm} (h : mOk m) : mOk (mPer4 m) := mOk_me (mOk_num (mOk_num h))
theorem mOk_perP {m : zm} {P : Nat} {k c a : Int32} (h : mOk m) : mOk (mPerP m P k c a) := by
  unfold mPerP
  exact mOk_u (by decide) (by decide) (mOk_u (by decide) (by decide) (mOk_u (by decide) (by decide) (mOk_u (by decide) (by decide) (mOk_u (by decide) (by decide) h))))
theorem mPerP_3 {m : zm} {P : Nat} {k c a : Int32} : (mPerP m P k c a).1 185 3 = nI (P + 1) := upI_eq _ _ _ _
theorem mPerP_2 {m : zm} {P : Nat} {k c a : Int32} : (mPerP m P k c a).1 185 2 = m.1 185 2 := by
  unfold mPerP
  rw [upI_ne (by omega), upI_ne (by omega), upI_ne (by omega), upI_ne (by omega), upI_ne (by omega)]
theorem sOk_per {m : zm} (h : sOk m) : sOk (mPer m (sP m)) ∧ ((mPer m (sP m)).1 180 17 = 0 → sP m < 4 ∧ sP (mPer m (sP m)) = sP m + 1) := by
  obtain ⟨hT, ⟨h2, h28⟩, h3, h34⟩ := h
  unfold mPer mPerB mPerE
  split
  next q =>
    have hlt : sP m < 4 := mPer1_4 h3 h34 (mPer2_0 (mPer4_0 q))
    have r := sOk_of (m := mPerP (mPer4 (mPer2 m)) (sP m) (mKind m) (mNumR (mPer2 m)) (mNumR (mPer3 (mPer2 m)))) (mOk_perP (mOk_per4 (mOk_per2 hT))) (by rw [mPerP_2, mPer4_o (by decide), mPer2_o (by decide)]; exact h2) h28 mPerP_3 (by omega)
    exact ⟨r.1, fun _ => ⟨hlt, r.2.2⟩⟩
  next q =>
    have r := sOk_of (m := mPer4 (mPer2 m)) (mOk_per4 (mOk_per2 hT)) (by rw [mPer4_o (by decide), mPer2_o (by decide)]; exact h2) h28 (by rw [mPer4_o (by decide), mPer2_o (by decide)]; exact h3) h34
    exact ⟨r.1, fun z => absurd z q⟩
def mFolkL : Nat → zm → zm
  | 0, m => m
  | n + 1, m => if mName m = 123581014175598 then mFolkL n (mPer m (sP m)) else m
def mNu (m : zm) : Nat := if m.1 180 17 = 0 then 5 - sP m else 0
theorem mName_g {m : zm} (h : mName m = 123581014175598) : m.1 180 17 = 0 :=
  Classical.byContradiction (fun q => absurd ((if_neg q : mName m = 0).symm.trans h) (by decide))
theorem mNu_per {m : zm} (h : sOk m) (hn : mName m = 123581014175598) : mNu (mPer m (sP m)) < mNu m := by
  have r := (sOk_per h).2
  have hP := h.2.2.2
  unfold mNu
  rw [if_pos (mName_g hn)]
  split
  next q => have := r q; omega
  next q => omega
set_option maxHeartbeats 4000000 in
set_option maxRecDepth 100000 in
theorem lp_X8_lgp (d : Nat) (x : Int32) (Y : zX) : ∀ (n : Nat) (m : zm), mNu m < n → sOk m → ZW zM_X8_league (d + 5) 0 0 115 [some (.ref 180), some (.int x)] [] (lay (mFolkL (n + 0) m)) 0 0 Y → ZW zM_X8_league (d + 5) 0 0 97 [some (.ref 180), some (.int x)] [] (lay m) 0 0 (Y) := by
  intro n
  induction n with
  | zero => intro m hm; exact absurd hm (by omega)
  | succ n ih =>
    intro m hm hS hY
    have hT := hS.1
    refine z_aload_n (i := 0) (q := 98) dX8_league_97 rfl rfl rfl ?_
    refine m_callV_r (As := []) (q := 101) mk_X8_name dX8_league_98 wd_879 wd_881 wp_34 (ci := 8) rfl ⟨by decide, _, rfl⟩ (ev_X8_name _ _ hT) rfl (by decide) rfl (Nat.zero_le _) (Nat.zero_le _) rfl ?_
    refine z_ldc2 (q := 104) dX8_league_101 wd_913 rfl ?_
    refine z_lcmp (q := 105) dX8_league_104 rfl ?_
    refine zl_ne (tgt := 115) (q := 108) dX8_league_105 (by decide) rfl (fun c1 => ?_) (fun c1 => ?_)
    · skip
      rw [show mFolkL (n + 1 + 0) m = m from if_neg c1] at hY
      exact hY
    · skip
      refine z_aload_n (i := 0) (q := 109) dX8_league_108 rfl rfl rfl ?_
      refine m_callV_v (As := []) (q := 112) mk_X8_readPerson dX8_league_109 wd_914 wd_916 wp_42 (ci := 8) rfl ⟨by decide, _, rfl⟩ (ev_X8_readPerson _ _ (sP m) hT hS.2.2.1 hS.2.2.2) rfl (by decide) rfl (Nat.zero_le _) (Nat.zero_le _) rfl ?_
      refine z_goto (tgt := 97) dX8_league_112 (by decide) ?_
      rw [show mFolkL (n + 1 + 0) m = mFolkL n (mPer m (sP m)) from if_pos c1] at hY
      exact ih (mPer m (sP m)) (by have := mNu_per hS c1; omega) (sOk_per hS).1 hY
def mFin (m : zm) : zm := if m.1 180 17 = 0 ∧ ¬ m.1 180 14 = 1 then mBad m 1 else m
set_option maxHeartbeats 4000000 in
set_option maxRecDepth 100000 in
theorem sg_X8_lgbad (d : Nat) (m : zm) (x : Int32) (hf : ¬ m.1 180 17 ≤ 0) : ZW zM_X8_league (d + 5) 0 0 135 [some (.ref 180), some (.int x)] [] (lay m) 0 0 (some (.int (-1000100 - (upI m 180 11 (m.1 180 17)).1 180 18)), lay (upI m 180 11 (m.1 180 17))) := by
  refine z_aload_n (i := 0) (q := 136) dX8_league_135 rfl rfl rfl ?_
  refine m_getI (q := 139) dX8_league_136 fl_X8_106 ⟨by decide, _, rfl, rfl⟩ rfl ?_
  refine z_if_le (tgt := 158) (q := 142) dX8_league_139 (by decide) rfl (fun c1 => ?_) (fun c1 => ?_)
  · exact absurd c1 hf
  · skip
    refine z_aload_n (i := 0) (q := 143) dX8_league_142 rfl rfl rfl ?_
    refine z_aload_n (i := 0) (q := 144) dX8_league_143 rfl rfl rfl ?_
    refine m_getI (q := 147) dX8_league_144 fl_X8_106 ⟨by decide, _, rfl, rfl⟩ rfl ?_
    refine m_putI (q := 150) dX8_league_147 fp_X8_171 ⟨by decide, _, rfl, rfl⟩ ⟨rfl, rfl⟩ rfl ?_
    refine z_ldc (q := 152) dX8_league_150 wd_926 rfl ?_
    refine z_aload_n (i := 0) (q := 153) dX8_league_152 rfl rfl rfl ?_
    refine m_getI (q := 156) dX8_league_153 fl_X8_112 ⟨by decide, _, rfl, rfl⟩ rfl ?_
    refine z_isub (q := 157) dX8_league_156 rfl ?_
    refine z_ireturn dX8_league_157 rfl rfl ?_ (Nat.le_refl _) (Nat.le_refl _)
    rfl
set_option maxHeartbeats 4000000 in
set_option maxRecDepth 100000 in
theorem sg_X8_lgok (d : Nat) (m : zm) (x : Int32) (hf : m.1 180 17 ≤ 0) : ZW zM_X8_league (d + 5) 0 0 135 [some (.ref 180), some (.int x)] [] (lay m) 0 0 (some (.int ((mStd (upI m 180 8 0) 68).1 184 3)), lay (mStd (upI m 180 8 0) 68)) := by
  refine z_aload_n (i := 0) (q := 136) dX8_league_135 rfl rfl rfl ?_
  refine m_getI (q := 139) dX8_league_136 fl_X8_106 ⟨by decide, _, rfl, rfl⟩ rfl ?_
  refine z_if_le (tgt := 158) (q := 142) dX8_league_139 (by decide) rfl (fun c1 => ?_) (fun c1 => ?_)
  · skip
    refine z_aload_n (i := 0) (q := 159) dX8_league_158 rfl rfl rfl ?_
    refine z_iconst (v := 0) (q := 160) dX8_league_159 (by decide) rfl ?_
    refine m_putI (q := 163) dX8_league_160 fp_X8_175 ⟨by decide, _, rfl, rfl⟩ ⟨rfl, rfl⟩ rfl ?_
    refine z_iconst (v := 0) (q := 164) dX8_league_163 (by decide) rfl ?_
    refine z_istore_n (i := 1) (ls' := [_, _]) (q := 165) dX8_league_164 rfl (by decide) rfl rfl ?_
    have e := lp_X8_lgs d (upI m 180 8 0) (68 + 1) 0 (by omega) (by omega)
    rw [mStd_0] at e
    exact e
  · exact absurd hf c1
set_option maxHeartbeats 4000000 in
set_option maxRecDepth 100000 in
theorem sg_X8_lgfin (d : Nat) (m : zm) (x : Int32) (Y : zX) (hY : ZW zM_X8_league (d + 5) 0 0 135 [some (.ref 180), some (.int x)] [] (lay (mFin m)) 0 0 Y) : ZW zM_X8_league (d + 5) 0 0 115 [some (.ref 180), some (.int x)] [] (lay m) 0 0 (Y) := by
  refine z_aload_n (i := 0) (q := 116) dX8_league_115 rfl rfl rfl ?_
  refine m_getI (q := 119) dX8_league_116 fl_X8_106 ⟨by decide, _, rfl, rfl⟩ rfl ?_
  refine z_if_ne (tgt := 135) (q := 122) dX8_league_119 (by decide) rfl (fun c1 => ?_) (fun c1 => ?_)
  · skip
    rw [show mFin m = m from if_neg (fun q => c1 q.1)] at hY
    exact hY
  · skip
    refine z_aload_n (i := 0) (q := 123) dX8_league_122 rfl rfl rfl ?_
    refine m_getI (q := 126) dX8_league_123 fl_X8_94 ⟨by decide, _, rfl, rfl⟩ rfl ?_
    refine z_iconst (v := 1) (q := 127) dX8_league_126 (by decide) rfl ?_
    refine z_icmp_eq (tgt := 135) (q := 130) dX8_league_127 (by decide) rfl (fun c2 => ?_) (fun c2 => ?_)
    · skip
      rw [show mFin m = m from if_neg (fun q => q.2 c2)] at hY
      exact hY
    · skip
      refine z_aload_n (i := 0) (q := 131) dX8_league_130 rfl rfl rfl ?_
      refine z_iconst (v := 1) (q := 132) dX8_league_131 (by decide) rfl ?_
      refine m_callV_v (As := [_]) (q := 135) mk_X8_bad dX8_league_132 wd_888 wd_890 wp_36 (ci := 8) rfl ⟨by decide, _, rfl⟩ (ev_X8_bad _ _ _) rfl (by decide) rfl (Nat.zero_le _) (Nat.zero_le _) rfl ?_
      rw [show mFin m = mBad m 1 from if_pos ⟨c1, c2⟩] at hY
      exact hY
def mHd1 (m : zm) : zm := mMust m (if mName m = 7102839 then 1 else 0)
def mHd2 (m : zm) : zm := upI (mNumM (mHd1 m) 1 5) 185 0 (mNumR (mHd1 m))
def mHd3 (m : zm) : zm := upI (mNumM (mHd2 m) 0 20) 185 1 (mNumR (mHd2 m))
def mHead (m : zm) : zm := mMustEnd (mHd3 m)
theorem mOk_hd1 {m : zm} (h : mOk m) : mOk (mHd1 m) := mOk_must h
theorem mOk_hd2 {m : zm} (h : mOk m) : mOk (mHd2 m) := mOk_u (by decide) (by decide) (mOk_num (mOk_hd1 h))
theorem mOk_hd3 {m : zm} (h : mOk m) : mOk (mHd3 m) := mOk_u (by decide) (by decide) (mOk_num (mOk_hd2 h))
theorem mHead_o {m : zm} {k : Nat} (hk : 2 ≤ k) : (mHead m).1 185 k = m.1 185 k := by
  unfold mHead mHd3 mHd2 mHd1
  rw [mme_o (by decide), upI_ne (by omega), mnum_o (by decide), upI_ne (by omega), mnum_o (by decide), mmust_o (by decide)]
theorem mOk_head {m : zm} (h : mOk m) : mOk (mHead m) := by
  unfold mHead
  exact mOk_me (mOk_hd3 h)
theorem sOk_head {m : zm} (h : mOk m) (h2 : m.1 185 2 = 0) (h3 : m.1 185 3 = 0) : sOk (mHead m) :=
  (sOk_of (m := mHead m) (w := 0) (p := 0) (mOk_head h) ((mHead_o (m := m) (k := 2) (by decide)).trans h2) (by decide) ((mHead_o (m := m) (k := 3) (by decide)).trans h3) (by decide)).1
theorem sOk_waysL {n : Nat} : ∀ {m : zm}, sOk m → sOk (mWaysL n m) := by
  induction n with
  | zero => exact fun h => h
  | succ n ih =>
    intro m h
    rw [mWaysL]
    split
    · exact ih (sOk_way h).1
    · exact h
theorem mOk_fill {m : zm} {i : Nat} (h : mOk m) : mOk (mFill m 185 0 i) :=
  mOk_c (by funext k; simp [mFill]) (by simp [mFill]) (by simp [mFill]) (by simp [mFill]) (by simp [mFill]) h
def mLg0 (m : zm) (t : Nat) : zm := mFill (mBegin (mT m) t) 185 0 68
def mLg (m : zm) (t : Nat) : zm := mFin (mFolkL 6 (mWaysL 10 (mHead (mLg0 m t))))
theorem mMu_10 (m : zm) : mMu m < 10 := by
  unfold mMu
  split <;> omega
theorem mNu_6 (m : zm) : mNu m < 6 := by
  unfold mNu
  split <;> omega
set_option maxHeartbeats 4000000 in
set_option maxRecDepth 100000 in
theorem sg_X8_lg50 (d : Nat) (m : zm) (hT : mOk m) (x : Int32) (Y : zX) (hY : ZW zM_X8_league (d + 5) 0 0 79 [some (.ref 180), some (.int x)] [] (lay (mHead m)) 0 0 Y) : ZW zM_X8_league (d + 5) 0 0 50 [some (.ref 180), some (.int x)] [] (lay (mHd1 m)) 0 0 (Y) := by
  refine z_aload_n (i := 0) (q := 51) dX8_league_50 rfl rfl rfl ?_
  refine m_getR (r := 185) (q := 54) dX8_league_51 fl_X8_22 ⟨by decide, _, rfl, rfl⟩ rfl ?_
  refine z_iconst (v := 0) (q := 55) dX8_league_54 (by decide) rfl ?_
  refine z_aload_n (i := 0) (q := 56) dX8_league_55 rfl rfl rfl ?_
  refine z_iconst (v := 1) (q := 57) dX8_league_56 (by decide) rfl ?_
  refine z_iconst (v := 5) (q := 58) dX8_league_57 (by decide) rfl ?_
  refine m_callV_r (As := [_, _]) (q := 61) mk_X8_number dX8_league_58 wd_892 wd_894 wp_37 (ci := 8) rfl ⟨by decide, _, rfl⟩ (ev_X8_number _ _ _ _ (mOk_hd1 hT)) rfl (by simp [Value.category]) rfl (Nat.zero_le _) (Nat.zero_le _) rfl ?_
  refine m_iastJ (N := 68) (q := 62) dX8_league_61 ⟨by decide, _, rfl⟩ (j := 0) (by decide) (vp_c (by decide)) rfl ?_
  refine z_aload_n (i := 0) (q := 63) dX8_league_62 rfl rfl rfl ?_
  refine m_getR (r := 185) (q := 66) dX8_league_63 fl_X8_22 ⟨by decide, _, rfl, rfl⟩ rfl ?_
  refine z_iconst (v := 1) (q := 67) dX8_league_66 (by decide) rfl ?_
  refine z_aload_n (i := 0) (q := 68) dX8_league_67 rfl rfl rfl ?_
  refine z_iconst (v := 0) (q := 69) dX8_league_68 (by decide) rfl ?_
  refine z_bipush (v := 20) (q := 71) dX8_league_69 (by decide) rfl ?_
  refine m_callV_r (As := [_, _]) (q := 74) mk_X8_number dX8_league_71 wd_892 wd_894 wp_37 (ci := 8) rfl ⟨by decide, _, rfl⟩ (ev_X8_number _ _ _ _ (mOk_hd2 hT)) rfl (by simp [Value.category]) rfl (Nat.zero_le _) (Nat.zero_le _) rfl ?_
  refine m_iastJ (N := 68) (q := 75) dX8_league_74 ⟨by decide, _, rfl⟩ (j := 1) (by decide) (vp_c (by decide)) rfl ?_
  refine z_aload_n (i := 0) (q := 76) dX8_league_75 rfl rfl rfl ?_
  refine m_callV_v (As := []) (q := 79) mk_X8_mustEnd dX8_league_76 wd_900 wd_902 wp_39 (ci := 8) rfl ⟨by decide, _, rfl⟩ (ev_X8_mustEnd _ _ (mOk_hd3 hT)) rfl (by decide) rfl (Nat.zero_le _) (Nat.zero_le _) rfl ?_
  exact hY
set_option maxHeartbeats 4000000 in
set_option maxRecDepth 100000 in
theorem sg_X8_lg30 (d : Nat) (m : zm) (hT : mOk m) (x : Int32) (Y : zX) (hY : ZW zM_X8_league (d + 5) 0 0 79 [some (.ref 180), some (.int x)] [] (lay (mHead m)) 0 0 Y) : ZW zM_X8_league (d + 5) 0 0 30 [some (.ref 180), some (.int x)] [] (lay m) 0 0 (Y) := by
  refine z_aload_n (i := 0) (q := 31) dX8_league_30 rfl rfl rfl ?_
  refine z_aload_n (i := 0) (q := 32) dX8_league_31 rfl rfl rfl ?_
  refine m_callV_r (As := []) (q := 35) mk_X8_name dX8_league_32 wd_879 wd_881 wp_34 (ci := 8) rfl ⟨by decide, _, rfl⟩ (ev_X8_name _ _ hT) rfl (by simp [Value.category]) rfl (Nat.zero_le _) (Nat.zero_le _) rfl ?_
  refine z_ldc2 (q := 38) dX8_league_35 wd_883 rfl ?_
  refine z_lcmp (q := 39) dX8_league_38 rfl ?_
  refine zl_ne (tgt := 46) (q := 42) dX8_league_39 (by decide) rfl (fun c1 => ?_) (fun c1 => ?_)
  · skip
    refine z_iconst (v := 0) (q := 47) dX8_league_46 (by decide) rfl ?_
    refine m_callV_v (As := [_]) (q := 50) mk_X8_must dX8_league_47 wd_884 wd_886 wp_35 (ci := 8) rfl ⟨by decide, _, rfl⟩ (ev_X8_must _ _ _ hT) rfl (by decide) rfl (Nat.zero_le _) (Nat.zero_le _) rfl ?_
    have e := sg_X8_lg50 d m hT x Y hY
    rw [show mHd1 m = mMust m 0 from by unfold mHd1; rw [if_neg c1]] at e
    exact e
  · skip
    refine z_iconst (v := 1) (q := 43) dX8_league_42 (by decide) rfl ?_
    refine z_goto (tgt := 47) dX8_league_43 (by decide) ?_
    refine m_callV_v (As := [_]) (q := 50) mk_X8_must dX8_league_47 wd_884 wd_886 wp_35 (ci := 8) rfl ⟨by decide, _, rfl⟩ (ev_X8_must _ _ _ hT) rfl (by decide) rfl (Nat.zero_le _) (Nat.zero_le _) rfl ?_
    have e := sg_X8_lg50 d m hT x Y hY
    rw [show mHd1 m = mMust m 1 from by unfold mHd1; rw [if_pos c1]] at e
    exact e
set_option maxHeartbeats 4000000 in
set_option maxRecDepth 100000 in
theorem ev_X8_league_bad (d : Nat) (m : zm) (t : Nat) (ht : m.1 180 10 = nI t) (ht4 : t ≤ 400) (hby : ∀ k, k < t → 0 ≤ m.1 187 k) (hf : ¬ (mLg m t).1 180 17 ≤ 0) : zEv (d + 5) zM_X8_league 0 0 [.ref 180] (lay m) (some (.int (-1000100 - (upI (mLg m t) 180 11 ((mLg m t).1 180 17)).1 180 18)), lay (upI (mLg m t) 180 11 ((mLg m t).1 180 17))) := by
  refine zEv_of (by decide) (fun G => Nat.le_of_ble_eq_true rfl) ?_
  show ZW _ _ _ _ 0 [some (.ref 180), none] [] _ _ _ _
  refine z_aload_n (i := 0) (q := 1) dX8_league_0 rfl rfl rfl ?_
  refine z_iconst (v := 0) (q := 2) dX8_league_1 (by decide) rfl ?_
  refine m_putI (q := 5) dX8_league_2 fp_X8_48 ⟨by decide, _, rfl, rfl⟩ ⟨rfl, rfl⟩ rfl ?_
  refine z_aload_n (i := 0) (q := 6) dX8_league_5 rfl rfl rfl ?_
  refine m_callV_v (As := []) (q := 9) mk_X8_begin dX8_league_6 wd_860 wd_862 wp_31 (ci := 8) rfl ⟨by decide, _, rfl⟩ (ev_X8_begin _ (mT m) t ht ht4 hby) rfl (by decide) rfl (Nat.zero_le _) (Nat.zero_le _) rfl ?_
  refine z_iconst (v := 0) (q := 10) dX8_league_9 (by decide) rfl ?_
  refine z_istore_n (i := 1) (ls' := [_, _]) (q := 11) dX8_league_10 rfl (by decide) rfl rfl ?_
  have h0 : mOk (mLg0 m t) := mOk_fill (mOk_begin (m := mT m) ht ht4 hby)
  have hS := sOk_head h0 (by simp [mLg0, mFill]) (by simp [mLg0, mFill])
  have hS2 := sOk_waysL (n := 10) hS
  have e := lp_X8_lgz d (mBegin (mT m) t) _ (fun x => sg_X8_lg30 d (mLg0 m t) h0 x _ (lp_X8_lgw d x _ 10 (mHead (mLg0 m t)) (mMu_10 _) hS (lp_X8_lgp d x _ 6 _ (mNu_6 _) hS2 (sg_X8_lgfin d _ x _ (sg_X8_lgbad d (mLg m t) x hf))))) (68 + 1) 0 (by omega) (by omega)
  rw [mFill_0] at e
  exact e
set_option maxHeartbeats 4000000 in
set_option maxRecDepth 100000 in
theorem ev_X8_league_ok (d : Nat) (m : zm) (t : Nat) (ht : m.1 180 10 = nI t) (ht4 : t ≤ 400) (hby : ∀ k, k < t → 0 ≤ m.1 187 k) (hf : (mLg m t).1 180 17 ≤ 0) : zEv (d + 5) zM_X8_league 0 0 [.ref 180] (lay m) (some (.int ((mStd (upI (mLg m t) 180 8 0) 68).1 184 3)), lay (mStd (upI (mLg m t) 180 8 0) 68)) := by
  refine zEv_of (by decide) (fun G => Nat.le_of_ble_eq_true rfl) ?_
  show ZW _ _ _ _ 0 [some (.ref 180), none] [] _ _ _ _
  refine z_aload_n (i := 0) (q := 1) dX8_league_0 rfl rfl rfl ?_
  refine z_iconst (v := 0) (q := 2) dX8_league_1 (by decide) rfl ?_
  refine m_putI (q := 5) dX8_league_2 fp_X8_48 ⟨by decide, _, rfl, rfl⟩ ⟨rfl, rfl⟩ rfl ?_
  refine z_aload_n (i := 0) (q := 6) dX8_league_5 rfl rfl rfl ?_
  refine m_callV_v (As := []) (q := 9) mk_X8_begin dX8_league_6 wd_860 wd_862 wp_31 (ci := 8) rfl ⟨by decide, _, rfl⟩ (ev_X8_begin _ (mT m) t ht ht4 hby) rfl (by decide) rfl (Nat.zero_le _) (Nat.zero_le _) rfl ?_
  refine z_iconst (v := 0) (q := 10) dX8_league_9 (by decide) rfl ?_
  refine z_istore_n (i := 1) (ls' := [_, _]) (q := 11) dX8_league_10 rfl (by decide) rfl rfl ?_
  have h0 : mOk (mLg0 m t) := mOk_fill (mOk_begin (m := mT m) ht ht4 hby)
  have hS := sOk_head h0 (by simp [mLg0, mFill]) (by simp [mLg0, mFill])
  have hS2 := sOk_waysL (n := 10) hS
  have e := lp_X8_lgz d (mBegin (mT m) t) _ (fun x => sg_X8_lg30 d (mLg0 m t) h0 x _ (lp_X8_lgw d x _ 10 (mHead (mLg0 m t)) (mMu_10 _) hS (lp_X8_lgp d x _ 6 _ (mNu_6 _) hS2 (sg_X8_lgfin d _ x _ (sg_X8_lgok d (mLg m t) x hf))))) (68 + 1) 0 (by omega) (by omega)
  rw [mFill_0] at e
  exact e
