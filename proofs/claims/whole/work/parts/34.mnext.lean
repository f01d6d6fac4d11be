/-! ===== the model: the next token ===== -/
def mEnd (m : zm) (e : Nat) : zm := upI m 180 16 (nI e)
def mTok (m : zm) (t s : Nat) : zm :=
  if t ≤ s then mEnd (upI (upI m 180 15 (nI s)) 180 14 1) s
  else if 97 ≤ m.1 187 s ∧ m.1 187 s ≤ 122 then mEnd (upI (upI (upI m 180 15 (nI s)) 180 13 (nI (cPass (m.1 187) t 97 122 (t - s) s))) 180 14 2) (cPass (m.1 187) t 97 122 (t - s) s)
  else if 48 ≤ m.1 187 s ∧ m.1 187 s ≤ 57 then mEnd (upI (upI (upI m 180 15 (nI s)) 180 13 (nI (cPass (m.1 187) t 48 57 (t - s) s))) 180 14 (if cPass (m.1 187) t 48 57 (t - s) s - s ≤ 3 then 3 else 0)) (cPass (m.1 187) t 48 57 (t - s) s)
  else mEnd (upI (upI (upI m 180 15 (nI s)) 180 13 (nI (s + 1))) 180 14 (if m.1 187 s = 59 then 4 else 0)) (s + 1)
def mNext (m : zm) (t b : Nat) : zm := mTok (upI m 180 13 (nI (cSkip (m.1 187) t (t - b) b))) t (cSkip (m.1 187) t (t - b) b)
theorem u187 (m : zm) (k : Nat) (v : Int32) : (upI m 180 k v).1 187 = m.1 187 := upI_na (by decide)
theorem mBy_u (m : zm) (k : Nat) (v : Int32) (t b : Nat) : mBy (upI m 180 k v) t b = mBy m t b := by
  unfold mBy
  rw [u187]
theorem mBy_in {m : zm} {t b : Nat} {lo hi : Int32} (hlo : (-1000000 : Int32) < lo) : (lo ≤ mBy m t b ∧ mBy m t b ≤ hi) ↔ (b < t ∧ lo ≤ m.1 187 b ∧ m.1 187 b ≤ hi) := by
  unfold mBy
  by_cases h : b < t
  · rw [if_pos h]
    exact ⟨fun q => ⟨h, q⟩, fun q => q.2⟩
  · rw [if_neg h]
    exact ⟨fun q => absurd q.1 (Int32.not_le.mpr hlo), fun q => absurd q.1 h⟩
theorem mBy_eq {m : zm} {t b : Nat} {v : Int32} (hv : ¬ (-1000000 : Int32) = v) : mBy m t b = v ↔ (b < t ∧ m.1 187 b = v) := by
  unfold mBy
  by_cases h : b < t
  · rw [if_pos h]
    exact ⟨fun q => ⟨h, q⟩, fun q => q.2⟩
  · rw [if_neg h]
    exact ⟨fun q => absurd q hv, fun q => absurd q.1 h⟩
set_option maxHeartbeats 4000000 in
set_option maxRecDepth 100000 in
theorem lp_X8_let (d : Nat) (m : zm) (x : Int32) (t : Nat) (hl : m.1 180 12 = nI t) (ht4 : t ≤ 400) (Y : zX) : ∀ (n : Nat) (b : Nat), t - b < n → b ≤ t → ZW zM_X8_next (d + 1) 0 0 104 [some (.ref 180), some (.int x)] [] (lay (upI m 180 13 (nI (cPass (m.1 187) t 97 122 (t - b) b)))) 0 0 Y → ZW zM_X8_next (d + 1) 0 0 77 [some (.ref 180), some (.int x)] [] (lay (upI m 180 13 (nI b))) 0 0 (Y) := by
  intro n
  induction n with
  | zero => intro b hm; exact absurd hm (by omega)
  | succ n ih =>
    intro b hm hb hY
    refine z_aload_n (i := 0) (q := 78) dX8_next_77 rfl rfl rfl ?_
    refine z_aload_n (i := 0) (q := 79) dX8_next_78 rfl rfl rfl ?_
    refine m_getI (q := 82) dX8_next_79 fl_X8_85 ⟨by decide, _, rfl, rfl⟩ rfl ?_
    rw [upI_eq]
    refine m_callV_r (As := [_]) (q := 85) mk_X8_byteAt dX8_next_82 wd_868 wd_870 wp_33 (ci := 8) rfl ⟨by decide, _, rfl⟩ (ev_X8_byteAt _ _ _ _  (by rw [upI_ne (by decide), hl]) ht4 (by omega)) rfl (by decide) rfl (Nat.zero_le _) (Nat.zero_le _) rfl ?_
    rw [mBy_u]
    refine m_callS_r (As := [_]) (q := 88) mk_X8_isLetter dX8_next_85 wd_873 wd_874 (ev_X8_isLetter _ _ _) rfl (by decide) rfl (Nat.zero_le _) (Nat.zero_le _) rfl ?_
    refine zb_eq (tgt := 104) (q := 91) dX8_next_88 (by decide) rfl (fun c1 => ?_) (fun c1 => ?_)
    · skip
      have hn : cPass (m.1 187) t 97 122 (t - b) b = b := by
        rcases Nat.eq_zero_or_pos (t - b) with q | q
        · rw [q]; rfl
        · rw [show t - b = (t - b - 1) + 1 by omega, cPass, if_neg (fun q => c1 ((mBy_in (by decide)).mpr q))]
      rw [hn] at hY
      exact hY
    · skip
      refine z_aload_n (i := 0) (q := 92) dX8_next_91 rfl rfl rfl ?_
      refine z_dup (q := 93) dX8_next_92 rfl rfl ?_
      refine m_getI (q := 96) dX8_next_93 fl_X8_85 ⟨by decide, _, rfl, rfl⟩ rfl ?_
      rw [upI_eq]
      refine z_iconst (v := 1) (q := 97) dX8_next_96 (by decide) rfl ?_
      refine z_iadd (q := 98) dX8_next_97 rfl ?_
      rw [nI_1]
      refine m_putI (q := 101) dX8_next_98 fp_X8_85 ⟨by decide, _, rfl, rfl⟩ ⟨rfl, rfl⟩ rfl ?_
      rw [upI_upI]
      refine z_goto (tgt := 77) dX8_next_101 (by decide) ?_
      have hc := (mBy_in (by decide)).mp c1
      exact ih (b + 1) (by omega) (by omega) (by rw [show t - b = (t - (b + 1)) + 1 by omega, cPass, if_pos hc] at hY; exact hY)
set_option maxHeartbeats 4000000 in
set_option maxRecDepth 100000 in
theorem lp_X8_fig (d : Nat) (m : zm) (x : Int32) (t : Nat) (hl : m.1 180 12 = nI t) (ht4 : t ≤ 400) (Y : zX) : ∀ (n : Nat) (b : Nat), t - b < n → b ≤ t → ZW zM_X8_next (d + 1) 0 0 146 [some (.ref 180), some (.int x)] [] (lay (upI m 180 13 (nI (cPass (m.1 187) t 48 57 (t - b) b)))) 0 0 Y → ZW zM_X8_next (d + 1) 0 0 119 [some (.ref 180), some (.int x)] [] (lay (upI m 180 13 (nI b))) 0 0 (Y) := by
  intro n
  induction n with
  | zero => intro b hm; exact absurd hm (by omega)
  | succ n ih =>
    intro b hm hb hY
    refine z_aload_n (i := 0) (q := 120) dX8_next_119 rfl rfl rfl ?_
    refine z_aload_n (i := 0) (q := 121) dX8_next_120 rfl rfl rfl ?_
    refine m_getI (q := 124) dX8_next_121 fl_X8_85 ⟨by decide, _, rfl, rfl⟩ rfl ?_
    rw [upI_eq]
    refine m_callV_r (As := [_]) (q := 127) mk_X8_byteAt dX8_next_124 wd_868 wd_870 wp_33 (ci := 8) rfl ⟨by decide, _, rfl⟩ (ev_X8_byteAt _ _ _ _  (by rw [upI_ne (by decide), hl]) ht4 (by omega)) rfl (by decide) rfl (Nat.zero_le _) (Nat.zero_le _) rfl ?_
    rw [mBy_u]
    refine m_callS_r (As := [_]) (q := 130) mk_X8_isFigure dX8_next_127 wd_876 wd_877 (ev_X8_isFigure _ _ _) rfl (by decide) rfl (Nat.zero_le _) (Nat.zero_le _) rfl ?_
    refine zb_eq (tgt := 146) (q := 133) dX8_next_130 (by decide) rfl (fun c1 => ?_) (fun c1 => ?_)
    · skip
      have hn : cPass (m.1 187) t 48 57 (t - b) b = b := by
        rcases Nat.eq_zero_or_pos (t - b) with q | q
        · rw [q]; rfl
        · rw [show t - b = (t - b - 1) + 1 by omega, cPass, if_neg (fun q => c1 ((mBy_in (by decide)).mpr q))]
      rw [hn] at hY
      exact hY
    · skip
      refine z_aload_n (i := 0) (q := 134) dX8_next_133 rfl rfl rfl ?_
      refine z_dup (q := 135) dX8_next_134 rfl rfl ?_
      refine m_getI (q := 138) dX8_next_135 fl_X8_85 ⟨by decide, _, rfl, rfl⟩ rfl ?_
      rw [upI_eq]
      refine z_iconst (v := 1) (q := 139) dX8_next_138 (by decide) rfl ?_
      refine z_iadd (q := 140) dX8_next_139 rfl ?_
      rw [nI_1]
      refine m_putI (q := 143) dX8_next_140 fp_X8_85 ⟨by decide, _, rfl, rfl⟩ ⟨rfl, rfl⟩ rfl ?_
      rw [upI_upI]
      refine z_goto (tgt := 119) dX8_next_143 (by decide) ?_
      have hc := (mBy_in (by decide)).mp c1
      exact ih (b + 1) (by omega) (by omega) (by rw [show t - b = (t - (b + 1)) + 1 by omega, cPass, if_pos hc] at hY; exact hY)
set_option maxHeartbeats 4000000 in
set_option maxRecDepth 100000 in
theorem sg_X8_let (d : Nat) (m : zm) (x : Int32) (e : Nat) : ZW zM_X8_next (d + 1) 0 0 104 [some (.ref 180), some (.int x)] [] (lay (upI m 180 13 (nI e))) 0 0 (none, lay (mEnd (upI (upI m 180 13 (nI e)) 180 14 2) e)) := by
  refine z_aload_n (i := 0) (q := 105) dX8_next_104 rfl rfl rfl ?_
  refine z_iconst (v := 2) (q := 106) dX8_next_105 (by decide) rfl ?_
  refine m_putI (q := 109) dX8_next_106 fp_X8_94 ⟨by decide, _, rfl, rfl⟩ ⟨rfl, rfl⟩ rfl ?_
  refine z_goto (tgt := 196) dX8_next_109 (by decide) ?_
  refine z_aload_n (i := 0) (q := 197) dX8_next_196 rfl rfl rfl ?_
  refine z_aload_n (i := 0) (q := 198) dX8_next_197 rfl rfl rfl ?_
  refine m_getI (q := 201) dX8_next_198 fl_X8_85 ⟨by decide, _, rfl, rfl⟩ rfl ?_
  rw [upI_ne (by decide), upI_eq]
  refine m_putI (q := 204) dX8_next_201 fp_X8_103 ⟨by decide, _, rfl, rfl⟩ ⟨rfl, rfl⟩ rfl ?_
  refine z_return dX8_next_204 rfl ?_ (Nat.le_refl _) (Nat.le_refl _)
  rfl
set_option maxHeartbeats 4000000 in
set_option maxRecDepth 100000 in
theorem sg_X8_fig (d : Nat) (m : zm) (x : Int32) (e s : Nat) (hs : m.1 180 15 = nI s) (hse : s ≤ e) (he : e ≤ 400) : ZW zM_X8_next (d + 1) 0 0 146 [some (.ref 180), some (.int x)] [] (lay (upI m 180 13 (nI e))) 0 0 (none, lay (mEnd (upI (upI m 180 13 (nI e)) 180 14 (if e - s ≤ 3 then 3 else 0)) e)) := by
  refine z_aload_n (i := 0) (q := 147) dX8_next_146 rfl rfl rfl ?_
  refine z_aload_n (i := 0) (q := 148) dX8_next_147 rfl rfl rfl ?_
  refine m_getI (q := 151) dX8_next_148 fl_X8_85 ⟨by decide, _, rfl, rfl⟩ rfl ?_
  rw [upI_eq]
  refine z_aload_n (i := 0) (q := 152) dX8_next_151 rfl rfl rfl ?_
  refine m_getI (q := 155) dX8_next_152 fl_X8_91 ⟨by decide, _, rfl, rfl⟩ rfl ?_
  rw [upI_ne (by decide), hs]
  refine z_isub (q := 156) dX8_next_155 rfl ?_
  rw [pk_sub hse]
  refine z_iconst (v := 3) (q := 157) dX8_next_156 (by decide) rfl ?_
  refine z_icmp_le (tgt := 164) (q := 160) dX8_next_157 (by decide) rfl (fun c1 => ?_) (fun c1 => ?_)
  · skip
    rw [if_pos (show e - s ≤ 3 from (nI_leI (a := e - s) (b := 3) (by omega) (by omega)).mp c1)]
    refine z_iconst (v := 3) (q := 165) dX8_next_164 (by decide) rfl ?_
    refine m_putI (q := 168) dX8_next_165 fp_X8_94 ⟨by decide, _, rfl, rfl⟩ ⟨rfl, rfl⟩ rfl ?_
    refine z_goto (tgt := 196) dX8_next_168 (by decide) ?_
    refine z_aload_n (i := 0) (q := 197) dX8_next_196 rfl rfl rfl ?_
    refine z_aload_n (i := 0) (q := 198) dX8_next_197 rfl rfl rfl ?_
    refine m_getI (q := 201) dX8_next_198 fl_X8_85 ⟨by decide, _, rfl, rfl⟩ rfl ?_
    rw [upI_ne (by decide), upI_eq]
    refine m_putI (q := 204) dX8_next_201 fp_X8_103 ⟨by decide, _, rfl, rfl⟩ ⟨rfl, rfl⟩ rfl ?_
    refine z_return dX8_next_204 rfl ?_ (Nat.le_refl _) (Nat.le_refl _)
    rfl
  · skip
    rw [if_neg (show ¬ e - s ≤ 3 from fun q => c1 ((nI_leI (a := e - s) (b := 3) (by omega) (by omega)).mpr q))]
    refine z_iconst (v := 0) (q := 161) dX8_next_160 (by decide) rfl ?_
    refine z_goto (tgt := 165) dX8_next_161 (by decide) ?_
    refine m_putI (q := 168) dX8_next_165 fp_X8_94 ⟨by decide, _, rfl, rfl⟩ ⟨rfl, rfl⟩ rfl ?_
    refine z_goto (tgt := 196) dX8_next_168 (by decide) ?_
    refine z_aload_n (i := 0) (q := 197) dX8_next_196 rfl rfl rfl ?_
    refine z_aload_n (i := 0) (q := 198) dX8_next_197 rfl rfl rfl ?_
    refine m_getI (q := 201) dX8_next_198 fl_X8_85 ⟨by decide, _, rfl, rfl⟩ rfl ?_
    rw [upI_ne (by decide), upI_eq]
    refine m_putI (q := 204) dX8_next_201 fp_X8_103 ⟨by decide, _, rfl, rfl⟩ ⟨rfl, rfl⟩ rfl ?_
    refine z_return dX8_next_204 rfl ?_ (Nat.le_refl _) (Nat.le_refl _)
    rfl
