/-! ===== the model: the reader of ways and people ===== -/
def mWayP (m : zm) (W : Nat) (a b c e : Int32) : zm :=
  upI (upI (upI (upI (upI m 185 (4 + 4 * W) a) 185 (4 + 4 * W + 1) b) 185 (4 + 4 * W + 2) c) 185 (4 + 4 * W + 3) e) 185 2 (nI (W + 1))
def mWayE (m : zm) (W : Nat) (a b c e : Int32) : zm := if m.1 180 17 = 0 then mWayP m W a b c e else m
set_option maxHeartbeats 4000000 in
set_option maxRecDepth 100000 in
theorem sg_X8_wayE (d : Nat) (m : zm) (W : Nat) (a b c e : Int32) (hW : m.1 185 2 = nI W) (hW8 : m.1 180 17 = 0 → W < 8) : ZW zM_X8_readWay (d + 4) 0 0 83 [some (.ref 180), some (.int a), some (.int b), some (.int c), some (.int e), none] [] (lay m) 0 0 (none, lay (mWayE m W a b c e)) := by
  refine z_aload_n (i := 0) (q := 84) dX8_readWay_83 rfl rfl rfl ?_
  refine m_getI (q := 87) dX8_readWay_84 fl_X8_106 ⟨by decide, _, rfl, rfl⟩ rfl ?_
  refine z_if_ne (tgt := 151) (q := 90) dX8_readWay_87 (by decide) rfl (fun c1 => ?_) (fun c1 => ?_)
  · skip
    rw [show mWayE m W a b c e = m from if_neg c1]
    refine z_return dX8_readWay_151 rfl ?_ (Nat.le_refl _) (Nat.le_refl _)
    rfl
  · skip
    have hW8 := hW8 c1
    rw [show mWayE m W a b c e = mWayP m W a b c e from if_pos c1]
    refine z_iconst (v := 4) (q := 91) dX8_readWay_90 (by decide) rfl ?_
    refine z_iconst (v := 4) (q := 92) dX8_readWay_91 (by decide) rfl ?_
    refine z_aload_n (i := 0) (q := 93) dX8_readWay_92 rfl rfl rfl ?_
    refine m_getR (r := 185) (q := 96) dX8_readWay_93 fl_X8_22 ⟨by decide, _, rfl, rfl⟩ rfl ?_
    refine z_iconst (v := 2) (q := 97) dX8_readWay_96 (by decide) rfl ?_
    refine m_ialdJ (N := 68) (q := 98) dX8_readWay_97 ⟨by decide, _, rfl⟩ (j := 2) (by decide) (vp_c (by decide)) rfl ?_
    rw [hW]
    refine z_imul (q := 99) dX8_readWay_98 rfl ?_
    rw [show 4 * nI W = nI (4 * W) from nI_mul 4 _]
    refine z_iadd (q := 100) dX8_readWay_99 rfl ?_
    rw [show 4 + nI (4 * W) = nI (4 + (4 * W)) from nI_add 4 _]
    refine z_istore (i := 5) (ls' := [_, _, _, _, _, _]) (q := 102) dX8_readWay_100 (by decide) rfl rfl ?_
    refine z_aload_n (i := 0) (q := 103) dX8_readWay_102 rfl rfl rfl ?_
    refine m_getR (r := 185) (q := 106) dX8_readWay_103 fl_X8_22 ⟨by decide, _, rfl, rfl⟩ rfl ?_
    refine z_iload (i := 5) (q := 108) dX8_readWay_106 rfl rfl ?_
    refine z_iload_n (i := 1) (q := 109) dX8_readWay_108 rfl rfl rfl ?_
    refine m_iastJ (N := 68) (q := 110) dX8_readWay_109 ⟨by decide, _, rfl⟩ (j := (4 + (4 * W))) (nI_clamp (by omega)) (vp_in_nI (by omega) (by decide)) rfl ?_
    refine z_aload_n (i := 0) (q := 111) dX8_readWay_110 rfl rfl rfl ?_
    refine m_getR (r := 185) (q := 114) dX8_readWay_111 fl_X8_22 ⟨by decide, _, rfl, rfl⟩ rfl ?_
    refine z_iload (i := 5) (q := 116) dX8_readWay_114 rfl rfl ?_
    refine z_iconst (v := 1) (q := 117) dX8_readWay_116 (by decide) rfl ?_
    refine z_iadd (q := 118) dX8_readWay_117 rfl ?_
    rw [show nI (4 + (4 * W)) + 1 = nI ((4 + (4 * W)) + 1) from nI_add _ 1]
    refine z_iload_n (i := 2) (q := 119) dX8_readWay_118 rfl rfl rfl ?_
    refine m_iastJ (N := 68) (q := 120) dX8_readWay_119 ⟨by decide, _, rfl⟩ (j := ((4 + (4 * W)) + 1)) (nI_clamp (by omega)) (vp_in_nI (by omega) (by decide)) rfl ?_
    refine z_aload_n (i := 0) (q := 121) dX8_readWay_120 rfl rfl rfl ?_
    refine m_getR (r := 185) (q := 124) dX8_readWay_121 fl_X8_22 ⟨by decide, _, rfl, rfl⟩ rfl ?_
    refine z_iload (i := 5) (q := 126) dX8_readWay_124 rfl rfl ?_
    refine z_iconst (v := 2) (q := 127) dX8_readWay_126 (by decide) rfl ?_
    refine z_iadd (q := 128) dX8_readWay_127 rfl ?_
    rw [show nI (4 + (4 * W)) + 2 = nI ((4 + (4 * W)) + 2) from nI_add _ 2]
    refine z_iload_n (i := 3) (q := 129) dX8_readWay_128 rfl rfl rfl ?_
    refine m_iastJ (N := 68) (q := 130) dX8_readWay_129 ⟨by decide, _, rfl⟩ (j := ((4 + (4 * W)) + 2)) (nI_clamp (by omega)) (vp_in_nI (by omega) (by decide)) rfl ?_
    refine z_aload_n (i := 0) (q := 131) dX8_readWay_130 rfl rfl rfl ?_
    refine m_getR (r := 185) (q := 134) dX8_readWay_131 fl_X8_22 ⟨by decide, _, rfl, rfl⟩ rfl ?_
    refine z_iload (i := 5) (q := 136) dX8_readWay_134 rfl rfl ?_
    refine z_iconst (v := 3) (q := 137) dX8_readWay_136 (by decide) rfl ?_
    refine z_iadd (q := 138) dX8_readWay_137 rfl ?_
    rw [show nI (4 + (4 * W)) + 3 = nI ((4 + (4 * W)) + 3) from nI_add _ 3]
    refine z_iload (i := 4) (q := 140) dX8_readWay_138 rfl rfl ?_
    refine m_iastJ (N := 68) (q := 141) dX8_readWay_140 ⟨by decide, _, rfl⟩ (j := ((4 + (4 * W)) + 3)) (nI_clamp (by omega)) (vp_in_nI (by omega) (by decide)) rfl ?_
    refine z_aload_n (i := 0) (q := 142) dX8_readWay_141 rfl rfl rfl ?_
    refine m_getR (r := 185) (q := 145) dX8_readWay_142 fl_X8_22 ⟨by decide, _, rfl, rfl⟩ rfl ?_
    refine z_iconst (v := 2) (q := 146) dX8_readWay_145 (by decide) rfl ?_
    refine z_dup2 (q := 147) dX8_readWay_146 rfl rfl rfl ?_
    refine m_ialdJ (N := 68) (q := 148) dX8_readWay_147 ⟨by decide, _, rfl⟩ (j := 2) (by decide) (vp_c (by decide)) rfl ?_
    rw [upI_ne (by omega), upI_ne (by omega), upI_ne (by omega), upI_ne (by omega), hW]
    refine z_iconst (v := 1) (q := 149) dX8_readWay_148 (by decide) rfl ?_
    refine z_iadd (q := 150) dX8_readWay_149 rfl ?_
    rw [nI_1]
    refine m_iastJ (N := 68) (q := 151) dX8_readWay_150 ⟨by decide, _, rfl⟩ (j := 2) (by decide) (vp_c (by decide)) rfl ?_
    refine z_return dX8_readWay_151 rfl ?_ (Nat.le_refl _) (Nat.le_refl _)
    rfl
theorem mnext_o {m : zm} {t b a k : Nat} (ha : a ≠ 180) : (mNext m t b).1 a k = m.1 a k := by
  unfold mNext mTok mEnd
  repeat' split
  all_goals (repeat rw [upI_ne (fun z => ha z.1)])
theorem mbad_o {m : zm} {z : Int32} {a k : Nat} (ha : a ≠ 180) : (mBad m z).1 a k = m.1 a k := by
  unfold mBad
  split
  · rw [upI_ne (fun z => ha z.1), upI_ne (fun z => ha z.1)]
  · rfl
theorem mgo_o {m : zm} {a k : Nat} (ha : a ≠ 180) : (mGo m).1 a k = m.1 a k := by
  unfold mGo
  split
  · exact mnext_o ha
  · rfl
theorem mmust_o {m : zm} {so : Int32} {a k : Nat} (ha : a ≠ 180) : (mMust m so).1 a k = m.1 a k := by
  unfold mMust
  rw [mgo_o ha]
  split
  · exact mbad_o ha
  · rfl
theorem mme_o {m : zm} {a k : Nat} (ha : a ≠ 180) : (mMustEnd m).1 a k = m.1 a k := by
  unfold mMustEnd
  split
  · exact mmust_o ha
  · rfl
theorem mbeg_o {m : zm} {j : Nat} {z : Int32} {a k : Nat} (ha : a ≠ 180) : (mBeg m j z).1 a k = m.1 a k := by
  unfold mBeg
  rw [mmust_o ha]
  split
  · exact mbad_o ha
  · rfl
theorem mnum_o {m : zm} {l h : Int32} {a k : Nat} (ha : a ≠ 180) : (mNumM m l h).1 a k = m.1 a k := by
  unfold mNumM mMusT
  split
  · rw [mmust_o ha]
    split
    · exact mbad_o ha
    · rfl
  · rfl
/-- behind a fault nothing moves -/
theorem mbad_f {m : zm} {z : Int32} (h : ¬ m.1 180 17 = 0) : mBad m z = m := if_neg h
theorem mgo_f {m : zm} (h : ¬ m.1 180 17 = 0) : mGo m = m := if_neg h
theorem mmust_f {m : zm} {so : Int32} (h : ¬ m.1 180 17 = 0) : mMust m so = m := by
  unfold mMust
  rw [mbad_f h, ite_self, mgo_f h]
theorem mme_f {m : zm} (h : ¬ m.1 180 17 = 0) : mMustEnd m = m := if_neg h
theorem mbeg_f {m : zm} {j : Nat} {z : Int32} (h : ¬ m.1 180 17 = 0) : mBeg m j z = m := by
  unfold mBeg
  rw [mbad_f h, ite_self, mmust_f h]
theorem mnum_f {m : zm} {l h : Int32} (hf : ¬ m.1 180 17 = 0) : mNumM m l h = m := by
  unfold mNumM mMusT
  rw [mbad_f hf, ite_self, mmust_f hf, ite_self]
theorem mnum_0 {m : zm} {l h : Int32} (h0 : (mNumM m l h).1 180 17 = 0) : m.1 180 17 = 0 :=
  Classical.byContradiction (fun q => q ((mnum_f q (l := l) (h := h)) ▸ h0))
theorem mme_0 {m : zm} (h0 : (mMustEnd m).1 180 17 = 0) : m.1 180 17 = 0 :=
  Classical.byContradiction (fun q => q (mme_f q ▸ h0))
theorem mbad_0 {m : zm} {z : Int32} (h0 : (mBad m z).1 180 17 = 0) : m.1 180 17 = 0 :=
  Classical.byContradiction (fun q => q ((mbad_f q (z := z)) ▸ h0))
def mWay4 (m : zm) : zm := mNumM m 0 (m.1 185 0 - 1)
def mWay5 (m : zm) : zm := mNumM (mWay4 m) 1 20
def mWay6 (m : zm) : zm := mMustEnd (mNumM (mWay5 m) 0 (mNumR (mWay4 m)))
def mWayB (m : zm) (W : Nat) (a : Int32) : zm := mWayE (mWay6 m) W a (mNumR m) (mNumR (mWay4 m)) (mNumR (mWay5 m))
set_option maxHeartbeats 4000000 in
set_option maxRecDepth 100000 in
theorem sg_X8_wayB (d : Nat) (m : zm) (hT : mOk m) (W : Nat) (a : Int32) (hW : m.1 185 2 = nI W) (hW8 : m.1 180 17 = 0 → W < 8) : ZW zM_X8_readWay (d + 4) 0 0 49 [some (.ref 180), some (.int a), none, none, none, none] [] (lay m) 0 0 (none, lay (mWayB m W a)) := by
  refine z_aload_n (i := 0) (q := 50) dX8_readWay_49 rfl rfl rfl ?_
  refine z_iconst (v := 0) (q := 51) dX8_readWay_50 (by decide) rfl ?_
  refine z_aload_n (i := 0) (q := 52) dX8_readWay_51 rfl rfl rfl ?_
  refine m_getR (r := 185) (q := 55) dX8_readWay_52 fl_X8_22 ⟨by decide, _, rfl, rfl⟩ rfl ?_
  refine z_iconst (v := 0) (q := 56) dX8_readWay_55 (by decide) rfl ?_
  refine m_ialdJ (N := 68) (q := 57) dX8_readWay_56 ⟨by decide, _, rfl⟩ (j := 0) (by decide) (vp_c (by decide)) rfl ?_
  refine z_iconst (v := 1) (q := 58) dX8_readWay_57 (by decide) rfl ?_
  refine z_isub (q := 59) dX8_readWay_58 rfl ?_
  refine m_callV_r (As := [_, _]) (q := 62) mk_X8_number dX8_readWay_59 wd_892 wd_894 wp_37 (ci := 8) rfl ⟨by decide, _, rfl⟩ (ev_X8_number _ _ _ _ (by repeat (with_reducible first | exact hT | refine mOk_must ?_ | refine mOk_bad ?_ | refine mOk_me ?_ | refine mOk_beg ?_ | refine mOk_num ?_ | refine mOk_u (by omega) (by omega) ?_))) rfl (by decide) rfl (Nat.zero_le _) (Nat.zero_le _) rfl ?_
  refine z_istore_n (i := 2) (ls' := [_, _, _, _, _, _]) (q := 63) dX8_readWay_62 rfl (by decide) rfl rfl ?_
  refine z_aload_n (i := 0) (q := 64) dX8_readWay_63 rfl rfl rfl ?_
  refine z_iconst (v := 1) (q := 65) dX8_readWay_64 (by decide) rfl ?_
  refine z_bipush (v := 20) (q := 67) dX8_readWay_65 (by decide) rfl ?_
  refine m_callV_r (As := [_, _]) (q := 70) mk_X8_number dX8_readWay_67 wd_892 wd_894 wp_37 (ci := 8) rfl ⟨by decide, _, rfl⟩ (ev_X8_number _ _ _ _ (by repeat (with_reducible first | exact hT | refine mOk_must ?_ | refine mOk_bad ?_ | refine mOk_me ?_ | refine mOk_beg ?_ | refine mOk_num ?_ | refine mOk_u (by omega) (by omega) ?_))) rfl (by decide) rfl (Nat.zero_le _) (Nat.zero_le _) rfl ?_
  refine z_istore_n (i := 3) (ls' := [_, _, _, _, _, _]) (q := 71) dX8_readWay_70 rfl (by decide) rfl rfl ?_
  refine z_aload_n (i := 0) (q := 72) dX8_readWay_71 rfl rfl rfl ?_
  refine z_iconst (v := 0) (q := 73) dX8_readWay_72 (by decide) rfl ?_
  refine z_iload_n (i := 3) (q := 74) dX8_readWay_73 rfl rfl rfl ?_
  refine m_callV_r (As := [_, _]) (q := 77) mk_X8_number dX8_readWay_74 wd_892 wd_894 wp_37 (ci := 8) rfl ⟨by decide, _, rfl⟩ (ev_X8_number _ _ _ _ (by repeat (with_reducible first | exact hT | refine mOk_must ?_ | refine mOk_bad ?_ | refine mOk_me ?_ | refine mOk_beg ?_ | refine mOk_num ?_ | refine mOk_u (by omega) (by omega) ?_))) rfl (by decide) rfl (Nat.zero_le _) (Nat.zero_le _) rfl ?_
  refine z_istore (i := 4) (ls' := [_, _, _, _, _, _]) (q := 79) dX8_readWay_77 (by decide) rfl rfl ?_
  refine z_aload_n (i := 0) (q := 80) dX8_readWay_79 rfl rfl rfl ?_
  refine m_callV_v (As := []) (q := 83) mk_X8_mustEnd dX8_readWay_80 wd_900 wd_902 wp_39 (ci := 8) rfl ⟨by decide, _, rfl⟩ (ev_X8_mustEnd _ _ (by repeat (with_reducible first | exact hT | refine mOk_must ?_ | refine mOk_bad ?_ | refine mOk_me ?_ | refine mOk_beg ?_ | refine mOk_num ?_ | refine mOk_u (by omega) (by omega) ?_))) rfl (by decide) rfl (Nat.zero_le _) (Nat.zero_le _) rfl ?_
  exact sg_X8_wayE d (mWay6 m) W a (mNumR m) (mNumR (mWay4 m)) (mNumR (mWay5 m)) (by unfold mWay6 mWay5 mWay4; rw [mme_o (by decide), mnum_o (by decide), mnum_o (by decide), mnum_o (by decide), hW]) (fun q => hW8 (mnum_0 (mnum_0 (mnum_0 (mme_0 q)))))
def mWay1 (m : zm) : zm := mBeg m 2 8
def mWay2 (m : zm) : zm := mNumM (mWay1 m) 0 ((mWay1 m).1 185 0 - 1)
def mWay3 (m : zm) : zm := if (mWay2 m).1 180 17 = 0 ∧ (mWay2 m).1 180 14 = 3 ∧ mFig (mWay2 m) = mNumR (mWay1 m) then mBad (mWay2 m) 2 else mWay2 m
def mWay (m : zm) (W : Nat) : zm := mWayB (mWay3 m) W (mNumR (mWay1 m))
theorem mbad_n {m : zm} {z : Int32} (hz : ¬ z = 0) : ¬ (mBad m z).1 180 17 = 0 := by
  unfold mBad
  split
  · rw [upI_ne (by decide), upI_eq]
    exact hz
  next h => exact h
theorem mbeg_n {m : zm} {k : Nat} {z : Int32} (h : m.1 185 k = z) : ¬ (mBeg m k z).1 180 17 = 0 := by
  unfold mBeg
  rw [if_pos h, mmust_f (mbad_n (by decide))]
  exact mbad_n (by decide)
theorem mWay2_8 {m : zm} {W : Nat} (hW : m.1 185 2 = nI W) (hW8 : W ≤ 8) (h0 : (mWay2 m).1 180 17 = 0) : W < 8 := by
  rcases Nat.lt_or_ge W 8 with q | q
  · exact q
  · exact absurd (mnum_0 h0) (mbeg_n (by rw [hW, show W = 8 by omega]; rfl))
theorem mWay2_w {m : zm} : (mWay2 m).1 185 2 = m.1 185 2 := by
  unfold mWay2 mWay1
  rw [mnum_o (by decide), mbeg_o (by decide)]
theorem mOk_way2 {m : zm} (h : mOk m) : mOk (mWay2 m) := mOk_num (mOk_beg h)
set_option maxHeartbeats 4000000 in
set_option maxRecDepth 100000 in
theorem ev_X8_readWay (d : Nat) (m : zm) (W : Nat) (hT : mOk m) (hW : m.1 185 2 = nI W) (hW8 : W ≤ 8) : zEv (d + 4) zM_X8_readWay 0 0 [.ref 180] (lay m) (none, lay (mWay m W)) := by
  refine zEv_of (by decide) (fun G => Nat.le_of_ble_eq_true rfl) ?_
  show ZW _ _ _ _ 0 [some (.ref 180), none, none, none, none, none] [] _ _ _ _
  refine z_aload_n (i := 0) (q := 1) dX8_readWay_0 rfl rfl rfl ?_
  refine z_iconst (v := 2) (q := 2) dX8_readWay_1 (by decide) rfl ?_
  refine z_bipush (v := 8) (q := 4) dX8_readWay_2 (by decide) rfl ?_
  refine m_callV_v (As := [_, _]) (q := 7) mk_X8_begins dX8_readWay_4 wd_909 wd_911 wp_41 (ci := 8) rfl ⟨by decide, _, rfl⟩ (ev_X8_begins _ _ 2 _ (by repeat (with_reducible first | exact hT | refine mOk_must ?_ | refine mOk_bad ?_ | refine mOk_me ?_ | refine mOk_beg ?_ | refine mOk_num ?_ | refine mOk_u (by omega) (by omega) ?_)) (by decide)) rfl (by decide) rfl (Nat.zero_le _) (Nat.zero_le _) rfl ?_
  refine z_aload_n (i := 0) (q := 8) dX8_readWay_7 rfl rfl rfl ?_
  refine z_iconst (v := 0) (q := 9) dX8_readWay_8 (by decide) rfl ?_
  refine z_aload_n (i := 0) (q := 10) dX8_readWay_9 rfl rfl rfl ?_
  refine m_getR (r := 185) (q := 13) dX8_readWay_10 fl_X8_22 ⟨by decide, _, rfl, rfl⟩ rfl ?_
  refine z_iconst (v := 0) (q := 14) dX8_readWay_13 (by decide) rfl ?_
  refine m_ialdJ (N := 68) (q := 15) dX8_readWay_14 ⟨by decide, _, rfl⟩ (j := 0) (by decide) (vp_c (by decide)) rfl ?_
  refine z_iconst (v := 1) (q := 16) dX8_readWay_15 (by decide) rfl ?_
  refine z_isub (q := 17) dX8_readWay_16 rfl ?_
  refine m_callV_r (As := [_, _]) (q := 20) mk_X8_number dX8_readWay_17 wd_892 wd_894 wp_37 (ci := 8) rfl ⟨by decide, _, rfl⟩ (ev_X8_number _ _ _ _ (by repeat (with_reducible first | exact hT | refine mOk_must ?_ | refine mOk_bad ?_ | refine mOk_me ?_ | refine mOk_beg ?_ | refine mOk_num ?_ | refine mOk_u (by omega) (by omega) ?_))) rfl (by decide) rfl (Nat.zero_le _) (Nat.zero_le _) rfl ?_
  refine z_istore_n (i := 1) (ls' := [_, _, _, _, _, _]) (q := 21) dX8_readWay_20 rfl (by decide) rfl rfl ?_
  refine z_aload_n (i := 0) (q := 22) dX8_readWay_21 rfl rfl rfl ?_
  refine m_getI (q := 25) dX8_readWay_22 fl_X8_106 ⟨by decide, _, rfl, rfl⟩ rfl ?_
  refine z_if_ne (tgt := 49) (q := 28) dX8_readWay_25 (by decide) rfl (fun c1 => ?_) (fun c1 => ?_)
  · skip
    rw [show mWay m W = mWayB (mWay2 m) W (mNumR (mWay1 m)) from by unfold mWay mWay3; rw [if_neg (show ¬ ((mWay2 m).1 180 17 = 0 ∧ (mWay2 m).1 180 14 = 3 ∧ mFig (mWay2 m) = mNumR (mWay1 m)) from fun q => c1 q.1)]]
    exact sg_X8_wayB d (mWay2 m) (mOk_way2 hT) W _ (by rw [mWay2_w, hW]) (mWay2_8 hW hW8)
  · skip
    refine z_aload_n (i := 0) (q := 29) dX8_readWay_28 rfl rfl rfl ?_
    refine m_getI (q := 32) dX8_readWay_29 fl_X8_94 ⟨by decide, _, rfl, rfl⟩ rfl ?_
    refine z_iconst (v := 3) (q := 33) dX8_readWay_32 (by decide) rfl ?_
    refine z_icmp_ne (tgt := 49) (q := 36) dX8_readWay_33 (by decide) rfl (fun c2 => ?_) (fun c2 => ?_)
    · skip
      rw [show mWay m W = mWayB (mWay2 m) W (mNumR (mWay1 m)) from by unfold mWay mWay3; rw [if_neg (show ¬ ((mWay2 m).1 180 17 = 0 ∧ (mWay2 m).1 180 14 = 3 ∧ mFig (mWay2 m) = mNumR (mWay1 m)) from fun q => c2 q.2.1)]]
      exact sg_X8_wayB d (mWay2 m) (mOk_way2 hT) W _ (by rw [mWay2_w, hW]) (mWay2_8 hW hW8)
    · skip
      refine z_aload_n (i := 0) (q := 37) dX8_readWay_36 rfl rfl rfl ?_
      refine m_callV_r (As := []) (q := 40) mk_X8_figures dX8_readWay_37 wd_896 wd_898 wp_38 (ci := 8) rfl ⟨by decide, _, rfl⟩ (ev_X8_figures _ _ (by repeat (with_reducible first | exact hT | refine mOk_must ?_ | refine mOk_bad ?_ | refine mOk_me ?_ | refine mOk_beg ?_ | refine mOk_num ?_ | refine mOk_u (by omega) (by omega) ?_))) rfl (by decide) rfl (Nat.zero_le _) (Nat.zero_le _) rfl ?_
      refine z_iload_n (i := 1) (q := 41) dX8_readWay_40 rfl rfl rfl ?_
      refine z_icmp_ne (tgt := 49) (q := 44) dX8_readWay_41 (by decide) rfl (fun c3 => ?_) (fun c3 => ?_)
      · skip
        rw [show mWay m W = mWayB (mWay2 m) W (mNumR (mWay1 m)) from by unfold mWay mWay3; rw [if_neg (show ¬ ((mWay2 m).1 180 17 = 0 ∧ (mWay2 m).1 180 14 = 3 ∧ mFig (mWay2 m) = mNumR (mWay1 m)) from fun q => c3 q.2.2)]]
        exact sg_X8_wayB d (mWay2 m) (mOk_way2 hT) W _ (by rw [mWay2_w, hW]) (mWay2_8 hW hW8)
      · skip
        refine z_aload_n (i := 0) (q := 45) dX8_readWay_44 rfl rfl rfl ?_
        refine z_iconst (v := 2) (q := 46) dX8_readWay_45 (by decide) rfl ?_
        refine m_callV_v (As := [_]) (q := 49) mk_X8_bad dX8_readWay_46 wd_888 wd_890 wp_36 (ci := 8) rfl ⟨by decide, _, rfl⟩ (ev_X8_bad _ _ _) rfl (by decide) rfl (Nat.zero_le _) (Nat.zero_le _) rfl ?_
        rw [show mWay m W = mWayB (mBad (mWay2 m) 2) W (mNumR (mWay1 m)) from by unfold mWay mWay3; rw [if_pos (show (mWay2 m).1 180 17 = 0 ∧ (mWay2 m).1 180 14 = 3 ∧ mFig (mWay2 m) = mNumR (mWay1 m) from ⟨c1, c2, c3⟩)]]
        exact sg_X8_wayB d (mBad (mWay2 m) 2) (mOk_bad (mOk_way2 hT)) W _ (by rw [mbad_o (by decide), mWay2_w, hW]) (fun q => mWay2_8 hW hW8 (mbad_0 q))
def mPerP (m : zm) (P : Nat) (k h a : Int32) : zm :=
  upI (upI (upI (upI (upI m 185 (36 + 8 * P) k) 185 (36 + 8 * P + 1) h) 185 (36 + 8 * P + 2) a) 185 (36 + 8 * P + 4) a) 185 3 (nI (P + 1))
def mPerE (m : zm) (P : Nat) (k h a : Int32) : zm := if m.1 180 17 = 0 then mPerP m P k h a else m
def mPer3 (m : zm) : zm := mNumM m 0 (m.1 185 0 - 1)
def mPer4 (m : zm) : zm := mMustEnd (mNumM (mPer3 m) 0 99)
def mPerB (m : zm) (P : Nat) (k : Int32) : zm := mPerE (mPer4 m) P k (mNumR m) (mNumR (mPer3 m))
set_option maxHeartbeats 4000000 in
set_option maxRecDepth 100000 in
theorem sg_X8_perE (d : Nat) (m : zm) (P : Nat) (k h a : Int32) (hP : m.1 185 3 = nI P) (hP4 : m.1 180 17 = 0 → P < 4) : ZW zM_X8_readPerson (d + 4) 0 0 62 [some (.ref 180), some (.int k), some (.int h), some (.int a), none] [] (lay m) 0 0 (none, lay (mPerE m P k h a)) := by
  refine z_aload_n (i := 0) (q := 63) dX8_readPerson_62 rfl rfl rfl ?_
  refine m_getI (q := 66) dX8_readPerson_63 fl_X8_106 ⟨by decide, _, rfl, rfl⟩ rfl ?_
  refine z_if_ne (tgt := 131) (q := 69) dX8_readPerson_66 (by decide) rfl (fun c1 => ?_) (fun c1 => ?_)
  · skip
    rw [show mPerE m P k h a = m from if_neg c1]
    refine z_return dX8_readPerson_131 rfl ?_ (Nat.le_refl _) (Nat.le_refl _)
    rfl
  · skip
    have hP4 := hP4 c1
    rw [show mPerE m P k h a = mPerP m P k h a from if_pos c1]
    refine z_bipush (v := 36) (q := 71) dX8_readPerson_69 (by decide) rfl ?_
    refine z_bipush (v := 8) (q := 73) dX8_readPerson_71 (by decide) rfl ?_
    refine z_aload_n (i := 0) (q := 74) dX8_readPerson_73 rfl rfl rfl ?_
    refine m_getR (r := 185) (q := 77) dX8_readPerson_74 fl_X8_22 ⟨by decide, _, rfl, rfl⟩ rfl ?_
    refine z_iconst (v := 3) (q := 78) dX8_readPerson_77 (by decide) rfl ?_
    refine m_ialdJ (N := 68) (q := 79) dX8_readPerson_78 ⟨by decide, _, rfl⟩ (j := 3) (by decide) (vp_c (by decide)) rfl ?_
    rw [hP]
    refine z_imul (q := 80) dX8_readPerson_79 rfl ?_
    rw [show 8 * nI P = nI (8 * P) from nI_mul 8 _]
    refine z_iadd (q := 81) dX8_readPerson_80 rfl ?_
    rw [show 36 + nI (8 * P) = nI (36 + (8 * P)) from nI_add 36 _]
    refine z_istore (i := 4) (ls' := [_, _, _, _, _]) (q := 83) dX8_readPerson_81 (by decide) rfl rfl ?_
    refine z_aload_n (i := 0) (q := 84) dX8_readPerson_83 rfl rfl rfl ?_
    refine m_getR (r := 185) (q := 87) dX8_readPerson_84 fl_X8_22 ⟨by decide, _, rfl, rfl⟩ rfl ?_
    refine z_iload (i := 4) (q := 89) dX8_readPerson_87 rfl rfl ?_
    refine z_iload_n (i := 1) (q := 90) dX8_readPerson_89 rfl rfl rfl ?_
    refine m_iastJ (N := 68) (q := 91) dX8_readPerson_90 ⟨by decide, _, rfl⟩ (j := (36 + (8 * P))) (nI_clamp (by omega)) (vp_in_nI (by omega) (by decide)) rfl ?_
    refine z_aload_n (i := 0) (q := 92) dX8_readPerson_91 rfl rfl rfl ?_
    refine m_getR (r := 185) (q := 95) dX8_readPerson_92 fl_X8_22 ⟨by decide, _, rfl, rfl⟩ rfl ?_
    refine z_iload (i := 4) (q := 97) dX8_readPerson_95 rfl rfl ?_
    refine z_iconst (v := 1) (q := 98) dX8_readPerson_97 (by decide) rfl ?_
    refine z_iadd (q := 99) dX8_readPerson_98 rfl ?_
    rw [show nI (36 + (8 * P)) + 1 = nI ((36 + (8 * P)) + 1) from nI_add _ 1]
    refine z_iload_n (i := 2) (q := 100) dX8_readPerson_99 rfl rfl rfl ?_
    refine m_iastJ (N := 68) (q := 101) dX8_readPerson_100 ⟨by decide, _, rfl⟩ (j := ((36 + (8 * P)) + 1)) (nI_clamp (by omega)) (vp_in_nI (by omega) (by decide)) rfl ?_
    refine z_aload_n (i := 0) (q := 102) dX8_readPerson_101 rfl rfl rfl ?_
    refine m_getR (r := 185) (q := 105) dX8_readPerson_102 fl_X8_22 ⟨by decide, _, rfl, rfl⟩ rfl ?_
    refine z_iload (i := 4) (q := 107) dX8_readPerson_105 rfl rfl ?_
    refine z_iconst (v := 2) (q := 108) dX8_readPerson_107 (by decide) rfl ?_
    refine z_iadd (q := 109) dX8_readPerson_108 rfl ?_
    rw [show nI (36 + (8 * P)) + 2 = nI ((36 + (8 * P)) + 2) from nI_add _ 2]
    refine z_iload_n (i := 3) (q := 110) dX8_readPerson_109 rfl rfl rfl ?_
    refine m_iastJ (N := 68) (q := 111) dX8_readPerson_110 ⟨by decide, _, rfl⟩ (j := ((36 + (8 * P)) + 2)) (nI_clamp (by omega)) (vp_in_nI (by omega) (by decide)) rfl ?_
    refine z_aload_n (i := 0) (q := 112) dX8_readPerson_111 rfl rfl rfl ?_
    refine m_getR (r := 185) (q := 115) dX8_readPerson_112 fl_X8_22 ⟨by decide, _, rfl, rfl⟩ rfl ?_
    refine z_iload (i := 4) (q := 117) dX8_readPerson_115 rfl rfl ?_
    refine z_iconst (v := 4) (q := 118) dX8_readPerson_117 (by decide) rfl ?_
    refine z_iadd (q := 119) dX8_readPerson_118 rfl ?_
    rw [show nI (36 + (8 * P)) + 4 = nI ((36 + (8 * P)) + 4) from nI_add _ 4]
    refine z_iload_n (i := 3) (q := 120) dX8_readPerson_119 rfl rfl rfl ?_
    refine m_iastJ (N := 68) (q := 121) dX8_readPerson_120 ⟨by decide, _, rfl⟩ (j := ((36 + (8 * P)) + 4)) (nI_clamp (by omega)) (vp_in_nI (by omega) (by decide)) rfl ?_
    refine z_aload_n (i := 0) (q := 122) dX8_readPerson_121 rfl rfl rfl ?_
    refine m_getR (r := 185) (q := 125) dX8_readPerson_122 fl_X8_22 ⟨by decide, _, rfl, rfl⟩ rfl ?_
    refine z_iconst (v := 3) (q := 126) dX8_readPerson_125 (by decide) rfl ?_
    refine z_dup2 (q := 127) dX8_readPerson_126 rfl rfl rfl ?_
    refine m_ialdJ (N := 68) (q := 128) dX8_readPerson_127 ⟨by decide, _, rfl⟩ (j := 3) (by decide) (vp_c (by decide)) rfl ?_
    rw [upI_ne (by omega), upI_ne (by omega), upI_ne (by omega), upI_ne (by omega), hP]
    refine z_iconst (v := 1) (q := 129) dX8_readPerson_128 (by decide) rfl ?_
    refine z_iadd (q := 130) dX8_readPerson_129 rfl ?_
    rw [nI_1]
    refine m_iastJ (N := 68) (q := 131) dX8_readPerson_130 ⟨by decide, _, rfl⟩ (j := 3) (by decide) (vp_c (by decide)) rfl ?_
    refine z_return dX8_readPerson_131 rfl ?_ (Nat.le_refl _) (Nat.le_refl _)
    rfl
set_option maxHeartbeats 4000000 in
set_option maxRecDepth 100000 in
theorem sg_X8_perB (d : Nat) (m : zm) (hT : mOk m) (P : Nat) (k : Int32) (hP : m.1 185 3 = nI P) (hP4 : m.1 180 17 = 0 → P < 4) : ZW zM_X8_readPerson (d + 4) 0 0 36 [some (.ref 180), some (.int k), none, none, none] [] (lay m) 0 0 (none, lay (mPerB m P k)) := by
  refine z_aload_n (i := 0) (q := 37) dX8_readPerson_36 rfl rfl rfl ?_
  refine z_iconst (v := 0) (q := 38) dX8_readPerson_37 (by decide) rfl ?_
  refine z_aload_n (i := 0) (q := 39) dX8_readPerson_38 rfl rfl rfl ?_
  refine m_getR (r := 185) (q := 42) dX8_readPerson_39 fl_X8_22 ⟨by decide, _, rfl, rfl⟩ rfl ?_
  refine z_iconst (v := 0) (q := 43) dX8_readPerson_42 (by decide) rfl ?_
  refine m_ialdJ (N := 68) (q := 44) dX8_readPerson_43 ⟨by decide, _, rfl⟩ (j := 0) (by decide) (vp_c (by decide)) rfl ?_
  refine z_iconst (v := 1) (q := 45) dX8_readPerson_44 (by decide) rfl ?_
  refine z_isub (q := 46) dX8_readPerson_45 rfl ?_
  refine m_callV_r (As := [_, _]) (q := 49) mk_X8_number dX8_readPerson_46 wd_892 wd_894 wp_37 (ci := 8) rfl ⟨by decide, _, rfl⟩ (ev_X8_number _ _ _ _ (by repeat (with_reducible first | exact hT | refine mOk_must ?_ | refine mOk_bad ?_ | refine mOk_me ?_ | refine mOk_beg ?_ | refine mOk_num ?_ | refine mOk_u (by omega) (by omega) ?_))) rfl (by decide) rfl (Nat.zero_le _) (Nat.zero_le _) rfl ?_
  refine z_istore_n (i := 2) (ls' := [_, _, _, _, _]) (q := 50) dX8_readPerson_49 rfl (by decide) rfl rfl ?_
  refine z_aload_n (i := 0) (q := 51) dX8_readPerson_50 rfl rfl rfl ?_
  refine z_iconst (v := 0) (q := 52) dX8_readPerson_51 (by decide) rfl ?_
  refine z_bipush (v := 99) (q := 54) dX8_readPerson_52 (by decide) rfl ?_
  refine m_callV_r (As := [_, _]) (q := 57) mk_X8_number dX8_readPerson_54 wd_892 wd_894 wp_37 (ci := 8) rfl ⟨by decide, _, rfl⟩ (ev_X8_number _ _ _ _ (by repeat (with_reducible first | exact hT | refine mOk_must ?_ | refine mOk_bad ?_ | refine mOk_me ?_ | refine mOk_beg ?_ | refine mOk_num ?_ | refine mOk_u (by omega) (by omega) ?_))) rfl (by decide) rfl (Nat.zero_le _) (Nat.zero_le _) rfl ?_
  refine z_istore_n (i := 3) (ls' := [_, _, _, _, _]) (q := 58) dX8_readPerson_57 rfl (by decide) rfl rfl ?_
  refine z_aload_n (i := 0) (q := 59) dX8_readPerson_58 rfl rfl rfl ?_
  refine m_callV_v (As := []) (q := 62) mk_X8_mustEnd dX8_readPerson_59 wd_900 wd_902 wp_39 (ci := 8) rfl ⟨by decide, _, rfl⟩ (ev_X8_mustEnd _ _ (by repeat (with_reducible first | exact hT | refine mOk_must ?_ | refine mOk_bad ?_ | refine mOk_me ?_ | refine mOk_beg ?_ | refine mOk_num ?_ | refine mOk_u (by omega) (by omega) ?_))) rfl (by decide) rfl (Nat.zero_le _) (Nat.zero_le _) rfl ?_
  exact sg_X8_perE d (mPer4 m) P k (mNumR m) (mNumR (mPer3 m)) (by unfold mPer4 mPer3; rw [mme_o (by decide), mnum_o (by decide), mnum_o (by decide), hP]) (fun q => hP4 (mnum_0 (mnum_0 (mme_0 q))))
def mPer1 (m : zm) : zm := mBeg m 3 4
def mKind (m : zm) : Int32 := kindB (mName (mPer1 m))
def mPer2 (m : zm) : zm := if (mPer1 m).1 180 17 = 0 then mMust (mPer1 m) (if mKind m = -1000000 then 0 else 1) else mPer1 m
def mPer (m : zm) (P : Nat) : zm := mPerB (mPer2 m) P (mKind m)
theorem mmust_0 {m : zm} {so : Int32} (h0 : (mMust m so).1 180 17 = 0) : m.1 180 17 = 0 :=
  Classical.byContradiction (fun q => q ((mmust_f q (so := so)) ▸ h0))
theorem mPer1_4 {m : zm} {P : Nat} (hP : m.1 185 3 = nI P) (hP4 : P ≤ 4) (h0 : (mPer1 m).1 180 17 = 0) : P < 4 := by
  rcases Nat.lt_or_ge P 4 with q | q
  · exact q
  · exact absurd h0 (mbeg_n (by rw [hP, show P = 4 by omega]; rfl))
set_option maxHeartbeats 4000000 in
set_option maxRecDepth 100000 in
theorem ev_X8_readPerson (d : Nat) (m : zm) (P : Nat) (hT : mOk m) (hP : m.1 185 3 = nI P) (hP4 : P ≤ 4) : zEv (d + 4) zM_X8_readPerson 0 0 [.ref 180] (lay m) (none, lay (mPer m P)) := by
  refine zEv_of (by decide) (fun G => Nat.le_of_ble_eq_true rfl) ?_
  show ZW _ _ _ _ 0 [some (.ref 180), none, none, none, none] [] _ _ _ _
  refine z_aload_n (i := 0) (q := 1) dX8_readPerson_0 rfl rfl rfl ?_
  refine z_iconst (v := 3) (q := 2) dX8_readPerson_1 (by decide) rfl ?_
  refine z_iconst (v := 4) (q := 3) dX8_readPerson_2 (by decide) rfl ?_
  refine m_callV_v (As := [_, _]) (q := 6) mk_X8_begins dX8_readPerson_3 wd_909 wd_911 wp_41 (ci := 8) rfl ⟨by decide, _, rfl⟩ (ev_X8_begins _ _ 3 _ (by repeat (with_reducible first | exact hT | refine mOk_must ?_ | refine mOk_bad ?_ | refine mOk_me ?_ | refine mOk_beg ?_ | refine mOk_num ?_ | refine mOk_u (by omega) (by omega) ?_)) (by decide)) rfl (by decide) rfl (Nat.zero_le _) (Nat.zero_le _) rfl ?_
  refine z_aload_n (i := 0) (q := 7) dX8_readPerson_6 rfl rfl rfl ?_
  refine m_callV_r (As := []) (q := 10) mk_X8_name dX8_readPerson_7 wd_879 wd_881 wp_34 (ci := 8) rfl ⟨by decide, _, rfl⟩ (ev_X8_name _ _ (by repeat (with_reducible first | exact hT | refine mOk_must ?_ | refine mOk_bad ?_ | refine mOk_me ?_ | refine mOk_beg ?_ | refine mOk_num ?_ | refine mOk_u (by omega) (by omega) ?_))) rfl (by decide) rfl (Nat.zero_le _) (Nat.zero_le _) rfl ?_
  refine m_callS_r (As := [_]) (q := 13) mk_X8_kindBy dX8_readPerson_10 wd_918 wd_919 (ev_X8_kindBy _ _ _) rfl (by decide) rfl (Nat.zero_le _) (Nat.zero_le _) rfl ?_
  refine z_istore_n (i := 1) (ls' := [_, _, _, _, _]) (q := 14) dX8_readPerson_13 rfl (by decide) rfl rfl ?_
  refine z_aload_n (i := 0) (q := 15) dX8_readPerson_14 rfl rfl rfl ?_
  refine m_getI (q := 18) dX8_readPerson_15 fl_X8_106 ⟨by decide, _, rfl, rfl⟩ rfl ?_
  refine z_if_ne (tgt := 36) (q := 21) dX8_readPerson_18 (by decide) rfl (fun c1 => ?_) (fun c1 => ?_)
  · skip
    rw [show mPer m P = mPerB (mPer1 m) P (mKind m) from by unfold mPer mPer2; rw [if_neg (show ¬ (mPer1 m).1 180 17 = 0 from c1)]]
    exact sg_X8_perB d (mPer1 m) (mOk_beg hT) P (mKind m) (by unfold mPer1; rw [mbeg_o (by decide), hP]) (mPer1_4 hP hP4)
  · skip
    refine z_aload_n (i := 0) (q := 22) dX8_readPerson_21 rfl rfl rfl ?_
    refine z_iload_n (i := 1) (q := 23) dX8_readPerson_22 rfl rfl rfl ?_
    refine z_ldc (q := 25) dX8_readPerson_23 wd_872 rfl ?_
    refine z_icmp_eq (tgt := 32) (q := 28) dX8_readPerson_25 (by decide) rfl (fun c2 => ?_) (fun c2 => ?_)
    · skip
      refine z_iconst (v := 0) (q := 33) dX8_readPerson_32 (by decide) rfl ?_
      refine m_callV_v (As := [_]) (q := 36) mk_X8_must dX8_readPerson_33 wd_884 wd_886 wp_35 (ci := 8) rfl ⟨by decide, _, rfl⟩ (ev_X8_must _ _ _ (by repeat (with_reducible first | exact hT | refine mOk_must ?_ | refine mOk_bad ?_ | refine mOk_me ?_ | refine mOk_beg ?_ | refine mOk_num ?_ | refine mOk_u (by omega) (by omega) ?_))) rfl (by decide) rfl (Nat.zero_le _) (Nat.zero_le _) rfl ?_
      rw [show mPer m P = mPerB (mMust (mPer1 m) 0) P (mKind m) from by unfold mPer mPer2; rw [if_pos (show (mPer1 m).1 180 17 = 0 from c1), if_pos (show mKind m = -1000000 from c2)]]
      exact sg_X8_perB d (mMust (mPer1 m) 0) (mOk_must (mOk_beg hT)) P (mKind m) (by unfold mPer1; rw [mmust_o (by decide), mbeg_o (by decide), hP]) (fun q => mPer1_4 hP hP4 (mmust_0 q))
    · skip
      refine z_iconst (v := 1) (q := 29) dX8_readPerson_28 (by decide) rfl ?_
      refine z_goto (tgt := 33) dX8_readPerson_29 (by decide) ?_
      refine m_callV_v (As := [_]) (q := 36) mk_X8_must dX8_readPerson_33 wd_884 wd_886 wp_35 (ci := 8) rfl ⟨by decide, _, rfl⟩ (ev_X8_must _ _ _ (by repeat (with_reducible first | exact hT | refine mOk_must ?_ | refine mOk_bad ?_ | refine mOk_me ?_ | refine mOk_beg ?_ | refine mOk_num ?_ | refine mOk_u (by omega) (by omega) ?_))) rfl (by decide) rfl (Nat.zero_le _) (Nat.zero_le _) rfl ?_
      rw [show mPer m P = mPerB (mMust (mPer1 m) 1) P (mKind m) from by unfold mPer mPer2; rw [if_pos (show (mPer1 m).1 180 17 = 0 from c1), if_neg (show ¬ mKind m = -1000000 from c2)]]
      exact sg_X8_perB d (mMust (mPer1 m) 1) (mOk_must (mOk_beg hT)) P (mKind m) (by unfold mPer1; rw [mmust_o (by decide), mbeg_o (by decide), hP]) (fun q => mPer1_4 hP hP4 (mmust_0 q))
