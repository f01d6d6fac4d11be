/-! ===== the model: the next token ===== -/
def mEnd (m : zm) (e : Nat) : zm := upI m 180 16 (nI e)
def mTok (m : zm) (t s : Nat) : zm :=
  if t ≤ s then mEnd (upI (upI m 180 15 (nI s)) 180 14 1) s
  else if 97 ≤ m.1 187 s ∧ m.1 187 s ≤ 122 then mEnd (upI (upI (upI m 180 15 (nI s)) 180 13 (nI (cPass (m.1 187) t 97 122 (t - s) s))) 180 14 2) (cPass (m.1 187) t 97 122 (t - s) s)
  else if 48 ≤ m.1 187 s ∧ m.1 187 s ≤ 57 then mEnd (upI (upI (upI m 180 15 (nI s)) 180 13 (nI (cPass (m.1 187) t 48 57 (t - s) s))) 180 14 (if cPass (m.1 187) t 48 57 (t - s) s - s ≤ 3 then 3 else 0)) (cPass (m.1 187) t 48 57 (t - s) s)
  else mEnd (upI (upI (upI m 180 15 (nI s)) 180 13 (nI (s + 1))) 180 14 (if m.1 187 s = 59 then 4 else 0)) (s + 1)
def mNext (m : zm) (t b : Nat) : zm := mTok (upI m 180 13 (nI (cSkip (m.1 187) t (t - b) b))) t (cSkip (m.1 187) t (t - b) b)
theorem u187 (m : zm) (k : Nat) (v : Int32) : (upI m 180 k v).1 187 = m.1 187 := upI_na (by decide)
theorem mBy_u (m : zm) (k : Nat) (v : Int32) (t b : Nat) : mBy (upI m 180 k v) t b = mBy m t b := by
  unfold mBy
  rw [u187]
theorem mBy_in {m : zm} {t b : Nat} {lo hi : Int32} (hlo : (-1000000 : Int32) < lo) : (lo ≤ mBy m t b ∧ mBy m t b ≤ hi) ↔ (b < t ∧ lo ≤ m.1 187 b ∧ m.1 187 b ≤ hi) := by
  unfold mBy
  by_cases h : b < t
  · rw [if_pos h]
    exact ⟨fun q => ⟨h, q⟩, fun q => q.2⟩
  · rw [if_neg h]
    exact ⟨fun q => absurd q.1 (Int32.not_le.mpr hlo), fun q => absurd q.1 h⟩
theorem mBy_eq {m : zm} {t b : Nat} {v : Int32} (hv : ¬ (-1000000 : Int32) = v) : mBy m t b = v ↔ (b < t ∧ m.1 187 b = v) := by
  unfold mBy
  by_cases h : b < t
  · rw [if_pos h]
    exact ⟨fun q => ⟨h, q⟩, fun q => q.2⟩
  · rw [if_neg h]
    exact ⟨fun q => absurd q hv, fun q => absurd q.1 h⟩
set_option maxHeartbeats 4000000 in
set_option maxRecDepth 100000 in
theorem lp_X8_let (d : Nat) (m : zm) (x : Int32) (t : Nat) (hl : m.1 180 12 = nI t) (ht4 : t ≤ 400) (Y : zX) : ∀ (n : Nat) (b : Nat), t - b < n → b ≤ t → ZW zM_X8_next (d + 1) 0 0 104 [some (.ref 180), some (.int x)] [] (lay (upI m 180 13 (nI (cPass (m.1 187) t 97 122 (t - b) b)))) 0 0 Y → ZW zM_X8_next (d + 1) 0 0 77 [some (.ref 180), some (.int x)] [] (lay (upI m 180 13 (nI b))) 0 0 (Y) := by
  intro n
  induction n with
  | zero => intro b hm; exact absurd hm (by omega)
  | succ n ih =>
    intro b hm hb hY
    refine z_aload_n (i := 0) (q := 78) dX8_next_77 rfl rfl rfl ?_
    refine z_aload_n (i := 0) (q := 79) dX8_next_78 rfl rfl rfl ?_
    refine m_getI (q := 82) dX8_next_79 fl_X8_85 ⟨by decide, _, rfl, rfl⟩ rfl ?_
    rw [upI_eq]
    refine m_callV_r (As := [_]) (q := 85) mk_X8_byteAt dX8_next_82 wd_868 wd_870 wp_33 (ci := 8) rfl ⟨by decide, _, rfl⟩ (ev_X8_byteAt _ _ _ _  (by rw [upI_ne (by decide), hl]) ht4 (by omega)) rfl (by decide) rfl (Nat.zero_le _) (Nat.zero_le _) rfl ?_
    rw [mBy_u]
    refine m_callS_r (As := [_]) (q := 88) mk_X8_isLetter dX8_next_85 wd_873 wd_874 (ev_X8_isLetter _ _ _) rfl (by decide) rfl (Nat.zero_le _) (Nat.zero_le _) rfl ?_
    refine zb_eq (tgt := 104) (q := 91) dX8_next_88 (by decide) rfl (fun c1 => ?_) (fun c1 => ?_)
    · skip
      have hn : cPass (m.1 187) t 97 122 (t - b) b = b := by
        rcases Nat.eq_zero_or_pos (t - b) with q | q
        · rw [q]; rfl
        · rw [show t - b = (t - b - 1) + 1 by omega, cPass, if_neg (fun q => c1 ((mBy_in (by decide)).mpr q))]
      rw [hn] at hY
      exact hY
    · skip
      refine z_aload_n (i := 0) (q := 92) dX8_next_91 rfl rfl rfl ?_
      refine z_dup (q := 93) dX8_next_92 rfl rfl ?_
      refine m_getI (q := 96) dX8_next_93 fl_X8_85 ⟨by decide, _, rfl, rfl⟩ rfl ?_
      rw [upI_eq]
      refine z_iconst (v := 1) (q := 97) dX8_next_96 (by decide) rfl ?_
      refine z_iadd (q := 98) dX8_next_97 rfl ?_
      rw [nI_1]
      refine m_putI (q := 101) dX8_next_98 fp_X8_85 ⟨by decide, _, rfl, rfl⟩ ⟨rfl, rfl⟩ rfl ?_
      rw [upI_upI]
      refine z_goto (tgt := 77) dX8_next_101 (by decide) ?_
      have hc := (mBy_in (by decide)).mp c1
      exact ih (b + 1) (by omega) (by omega) (by rw [show t - b = (t - (b + 1)) + 1 by omega, cPass, if_pos hc] at hY; exact hY)
set_option maxHeartbeats 4000000 in
set_option maxRecDepth 100000 in
theorem lp_X8_fig (d : Nat) (m : zm) (x : Int32) (t : Nat) (hl : m.1 180 12 = nI t) (ht4 : t ≤ 400) (Y : zX) : ∀ (n : Nat) (b : Nat), t - b < n → b ≤ t → ZW zM_X8_next (d + 1) 0 0 146 [some (.ref 180), some (.int x)] [] (lay (upI m 180 13 (nI (cPass (m.1 187) t 48 57 (t - b) b)))) 0 0 Y → ZW zM_X8_next (d + 1) 0 0 119 [some (.ref 180), some (.int x)] [] (lay (upI m 180 13 (nI b))) 0 0 (Y) := by
  intro n
  induction n with
  | zero => intro b hm; exact absurd hm (by omega)
  | succ n ih =>
    intro b hm hb hY
    refine z_aload_n (i := 0) (q := 120) dX8_next_119 rfl rfl rfl ?_
    refine z_aload_n (i := 0) (q := 121) dX8_next_120 rfl rfl rfl ?_
    refine m_getI (q := 124) dX8_next_121 fl_X8_85 ⟨by decide, _, rfl, rfl⟩ rfl ?_
    rw [upI_eq]
    refine m_callV_r (As := [_]) (q := 127) mk_X8_byteAt dX8_next_124 wd_868 wd_870 wp_33 (ci := 8) rfl ⟨by decide, _, rfl⟩ (ev_X8_byteAt _ _ _ _  (by rw [upI_ne (by decide), hl]) ht4 (by omega)) rfl (by decide) rfl (Nat.zero_le _) (Nat.zero_le _) rfl ?_
    rw [mBy_u]
    refine m_callS_r (As := [_]) (q := 130) mk_X8_isFigure dX8_next_127 wd_876 wd_877 (ev_X8_isFigure _ _ _) rfl (by decide) rfl (Nat.zero_le _) (Nat.zero_le _) rfl ?_
    refine zb_eq (tgt := 146) (q := 133) dX8_next_130 (by decide) rfl (fun c1 => ?_) (fun c1 => ?_)
    · skip
      have hn : cPass (m.1 187) t 48 57 (t - b) b = b := by
        rcases Nat.eq_zero_or_pos (t - b) with q | q
        · rw [q]; rfl
        · rw [show t - b = (t - b - 1) + 1 by omega, cPass, if_neg (fun q => c1 ((mBy_in (by decide)).mpr q))]
      rw [hn] at hY
      exact hY
    · skip
      refine z_aload_n (i := 0) (q := 134) dX8_next_133 rfl rfl rfl ?_
      refine z_dup (q := 135) dX8_next_134 rfl rfl ?_
      refine m_getI (q := 138) dX8_next_135 fl_X8_85 ⟨by decide, _, rfl, rfl⟩ rfl ?_
      rw [upI_eq]
      refine z_iconst (v := 1) (q := 139) dX8_next_138 (by decide) rfl ?_
      refine z_iadd (q := 140) dX8_next_139 rfl ?_
      rw [nI_1]
      refine m_putI (q := 143) dX8_next_140 fp_X8_85 ⟨by decide, _, rfl, rfl⟩ ⟨rfl, rfl⟩ rfl ?_
      rw [upI_upI]
      refine z_goto (tgt := 119) dX8_next_143 (by decide) ?_
      have hc := (mBy_in (by decide)).mp c1
      exact ih (b + 1) (by omega) (by omega) (by rw [show t - b = (t - (b + 1)) + 1 by omega, cPass, if_pos hc] at hY; exact hY)
set_option maxHeartbeats 4000000 in
set_option maxRecDepth 100000 in
theorem sg_X8_let (d : Nat) (m : zm) (x : Int32) (e : Nat) : ZW zM_X8_next (d + 1) 0 0 104 [some (.ref 180), some (.int x)] [] (lay (upI m 180 13 (nI e))) 0 0 (none, lay (mEnd (upI (upI m 180 13 (nI e)) 180 14 2) e)) := by
  refine z_aload_n (i := 0) (q := 105) dX8_next_104 rfl rfl rfl ?_
  refine z_iconst (v := 2) (q := 106) dX8_next_105 (by decide) rfl ?_
  refine m_putI (q := 109) dX8_next_106 fp_X8_94 ⟨by decide, _, rfl, rfl⟩ ⟨rfl, rfl⟩ rfl ?_
  refine z_goto (tgt := 196) dX8_next_109 (by decide) ?_
  refine z_aload_n (i := 0) (q := 197) dX8_next_196 rfl rfl rfl ?_
  refine z_aload_n (i := 0) (q := 198) dX8_next_197 rfl rfl rfl ?_
  refine m_getI (q := 201) dX8_next_198 fl_X8_85 ⟨by decide, _, rfl, rfl⟩ rfl ?_
  rw [upI_ne (by decide), upI_eq]
  refine m_putI (q := 204) dX8_next_201 fp_X8_103 ⟨by decide, _, rfl, rfl⟩ ⟨rfl, rfl⟩ rfl ?_
  refine z_return dX8_next_204 rfl ?_ (Nat.le_refl _) (Nat.le_refl _)
  rfl
set_option maxHeartbeats 4000000 in
set_option maxRecDepth 100000 in
theorem sg_X8_fig (d : Nat) (m : zm) (x : Int32) (e s : Nat) (hs : m.1 180 15 = nI s) (hse : s ≤ e) (he : e ≤ 400) : ZW zM_X8_next (d + 1) 0 0 146 [some (.ref 180), some (.int x)] [] (lay (upI m 180 13 (nI e))) 0 0 (none, lay (mEnd (upI (upI m 180 13 (nI e)) 180 14 (if e - s ≤ 3 then 3 else 0)) e)) := by
  refine z_aload_n (i := 0) (q := 147) dX8_next_146 rfl rfl rfl ?_
  refine z_aload_n (i := 0) (q := 148) dX8_next_147 rfl rfl rfl ?_
  refine m_getI (q := 151) dX8_next_148 fl_X8_85 ⟨by decide, _, rfl, rfl⟩ rfl ?_
  rw [upI_eq]
  refine z_aload_n (i := 0) (q := 152) dX8_next_151 rfl rfl rfl ?_
  refine m_getI (q := 155) dX8_next_152 fl_X8_91 ⟨by decide, _, rfl, rfl⟩ rfl ?_
  rw [upI_ne (by decide), hs]
  refine z_isub (q := 156) dX8_next_155 rfl ?_
  rw [pk_sub hse]
  refine z_iconst (v := 3) (q := 157) dX8_next_156 (by decide) rfl ?_
  refine z_icmp_le (tgt := 164) (q := 160) dX8_next_157 (by decide) rfl (fun c1 => ?_) (fun c1 => ?_)
  · skip
    rw [if_pos (show e - s ≤ 3 from (nI_leI (a := e - s) (b := 3) (by omega) (by omega)).mp c1)]
    refine z_iconst (v := 3) (q := 165) dX8_next_164 (by decide) rfl ?_
    refine m_putI (q := 168) dX8_next_165 fp_X8_94 ⟨by decide, _, rfl, rfl⟩ ⟨rfl, rfl⟩ rfl ?_
    refine z_goto (tgt := 196) dX8_next_168 (by decide) ?_
    refine z_aload_n (i := 0) (q := 197) dX8_next_196 rfl rfl rfl ?_
    refine z_aload_n (i := 0) (q := 198) dX8_next_197 rfl rfl rfl ?_
    refine m_getI (q := 201) dX8_next_198 fl_X8_85 ⟨by decide, _, rfl, rfl⟩ rfl ?_
    rw [upI_ne (by decide), upI_eq]
    refine m_putI (q := 204) dX8_next_201 fp_X8_103 ⟨by decide, _, rfl, rfl⟩ ⟨rfl, rfl⟩ rfl ?_
    refine z_return dX8_next_204 rfl ?_ (Nat.le_refl _) (Nat.le_refl _)
    rfl
  · skip
    rw [if_neg (show ¬ e - s ≤ 3 from fun q => c1 ((nI_leI (a := e - s) (b := 3) (by omega) (by omega)).mpr q))]
    refine z_iconst (v := 0) (q := 161) dX8_next_160 (by decide) rfl ?_
    refine z_goto (tgt := 165) dX8_next_161 (by decide) ?_
    refine m_putI (q := 168) dX8_next_165 fp_X8_94 ⟨by decide, _, rfl, rfl⟩ ⟨rfl, rfl⟩ rfl ?_
    refine z_goto (tgt := 196) dX8_next_168 (by decide) ?_
    refine z_aload_n (i := 0) (q := 197) dX8_next_196 rfl rfl rfl ?_
    refine z_aload_n (i := 0) (q := 198) dX8_next_197 rfl rfl rfl ?_
    refine m_getI (q := 201) dX8_next_198 fl_X8_85 ⟨by decide, _, rfl, rfl⟩ rfl ?_
    rw [upI_ne (by decide), upI_eq]
    refine m_putI (q := 204) dX8_next_201 fp_X8_103 ⟨by decide, _, rfl, rfl⟩ ⟨rfl, rfl⟩ rfl ?_
    refine z_return dX8_next_204 rfl ?_ (Nat.le_refl _) (Nat.le_refl _)
    rfl
set_option maxHeartbeats 4000000 in
set_option maxRecDepth 100000 in
theorem sg_X8_tok (d : Nat) (m : zm) (t s : Nat) (hl : m.1 180 12 = nI t) (ht4 : t ≤ 400) (hby : ∀ k, k < t → 0 ≤ m.1 187 k) (hs : m.1 180 13 = nI s) (hst : s ≤ t) : ZW zM_X8_next (d + 1) 0 0 39 [some (.ref 180), none] [] (lay m) 0 0 (none, lay (mTok m t s)) := by
  refine z_aload_n (i := 0) (q := 40) dX8_next_39 rfl rfl rfl ?_
  refine z_aload_n (i := 0) (q := 41) dX8_next_40 rfl rfl rfl ?_
  refine m_getI (q := 44) dX8_next_41 fl_X8_85 ⟨by decide, _, rfl, rfl⟩ rfl ?_
  rw [hs]
  refine m_putI (q := 47) dX8_next_44 fp_X8_91 ⟨by decide, _, rfl, rfl⟩ ⟨rfl, rfl⟩ rfl ?_
  refine z_aload_n (i := 0) (q := 48) dX8_next_47 rfl rfl rfl ?_
  refine z_aload_n (i := 0) (q := 49) dX8_next_48 rfl rfl rfl ?_
  refine m_getI (q := 52) dX8_next_49 fl_X8_85 ⟨by decide, _, rfl, rfl⟩ rfl ?_
  rw [upI_ne (by decide), hs]
  refine m_callV_r (As := [_]) (q := 55) mk_X8_byteAt dX8_next_52 wd_868 wd_870 wp_33 (ci := 8) rfl ⟨by decide, _, rfl⟩ (ev_X8_byteAt _ _ _ _  (by rw [upI_ne (by decide), hl]) ht4 (by omega)) rfl (by decide) rfl (Nat.zero_le _) (Nat.zero_le _) rfl ?_
  rw [mBy_u]
  refine z_istore_n (i := 1) (ls' := [_, _]) (q := 56) dX8_next_55 rfl (by decide) rfl rfl ?_
  refine z_iload_n (i := 1) (q := 57) dX8_next_56 rfl rfl rfl ?_
  refine z_ldc (q := 59) dX8_next_57 wd_872 rfl ?_
  refine z_icmp_ne (tgt := 70) (q := 62) dX8_next_59 (by decide) rfl (fun c1 => ?_) (fun c1 => ?_)
  · skip
    have hlt : s < t := by
      rcases Nat.lt_or_ge s t with q | q
      · exact q
      · exact absurd (if_neg (by omega) : mBy m t s = -1000000) c1
    rw [show mBy m t s = m.1 187 s from if_pos hlt]
    refine z_iload_n (i := 1) (q := 71) dX8_next_70 rfl rfl rfl ?_
    refine m_callS_r (As := [_]) (q := 74) mk_X8_isLetter dX8_next_71 wd_873 wd_874 (ev_X8_isLetter _ _ _) rfl (by decide) rfl (Nat.zero_le _) (Nat.zero_le _) rfl ?_
    refine zb_eq (tgt := 112) (q := 77) dX8_next_74 (by decide) rfl (fun c2 => ?_) (fun c2 => ?_)
    · skip
      refine z_iload_n (i := 1) (q := 113) dX8_next_112 rfl rfl rfl ?_
      refine m_callS_r (As := [_]) (q := 116) mk_X8_isFigure dX8_next_113 wd_876 wd_877 (ev_X8_isFigure _ _ _) rfl (by decide) rfl (Nat.zero_le _) (Nat.zero_le _) rfl ?_
      refine zb_eq (tgt := 171) (q := 119) dX8_next_116 (by decide) rfl (fun c3 => ?_) (fun c3 => ?_)
      · skip
        refine z_aload_n (i := 0) (q := 172) dX8_next_171 rfl rfl rfl ?_
        refine z_dup (q := 173) dX8_next_172 rfl rfl ?_
        refine m_getI (q := 176) dX8_next_173 fl_X8_85 ⟨by decide, _, rfl, rfl⟩ rfl ?_
        rw [upI_ne (by decide), hs]
        refine z_iconst (v := 1) (q := 177) dX8_next_176 (by decide) rfl ?_
        refine z_iadd (q := 178) dX8_next_177 rfl ?_
        rw [nI_1]
        refine m_putI (q := 181) dX8_next_178 fp_X8_85 ⟨by decide, _, rfl, rfl⟩ ⟨rfl, rfl⟩ rfl ?_
        refine z_aload_n (i := 0) (q := 182) dX8_next_181 rfl rfl rfl ?_
        refine z_iload_n (i := 1) (q := 183) dX8_next_182 rfl rfl rfl ?_
        refine z_bipush (v := 59) (q := 185) dX8_next_183 (by decide) rfl ?_
        refine z_icmp_ne (tgt := 192) (q := 188) dX8_next_185 (by decide) rfl (fun c4 => ?_) (fun c4 => ?_)
        · skip
          refine z_iconst (v := 0) (q := 193) dX8_next_192 (by decide) rfl ?_
          refine m_putI (q := 196) dX8_next_193 fp_X8_94 ⟨by decide, _, rfl, rfl⟩ ⟨rfl, rfl⟩ rfl ?_
          refine z_aload_n (i := 0) (q := 197) dX8_next_196 rfl rfl rfl ?_
          refine z_aload_n (i := 0) (q := 198) dX8_next_197 rfl rfl rfl ?_
          refine m_getI (q := 201) dX8_next_198 fl_X8_85 ⟨by decide, _, rfl, rfl⟩ rfl ?_
          refine m_putI (q := 204) dX8_next_201 fp_X8_103 ⟨by decide, _, rfl, rfl⟩ ⟨rfl, rfl⟩ rfl ?_
          refine z_return dX8_next_204 rfl ?_ (Nat.le_refl _) (Nat.le_refl _)
          rw [show (upI (upI (upI m 180 15 (nI s)) 180 13 (nI (s + 1))) 180 14 0).1 180 13 = nI (s + 1) from by rw [upI_ne (by decide), upI_eq], show mTok m t s = mEnd (upI (upI (upI m 180 15 (nI s)) 180 13 (nI (s + 1))) 180 14 0) (s + 1) from by unfold mTok; rw [if_neg (show ¬ t ≤ s by omega), if_neg c2, if_neg c3, if_neg c4]]
          try rfl
        · skip
          refine z_iconst (v := 4) (q := 189) dX8_next_188 (by decide) rfl ?_
          refine z_goto (tgt := 193) dX8_next_189 (by decide) ?_
          refine m_putI (q := 196) dX8_next_193 fp_X8_94 ⟨by decide, _, rfl, rfl⟩ ⟨rfl, rfl⟩ rfl ?_
          refine z_aload_n (i := 0) (q := 197) dX8_next_196 rfl rfl rfl ?_
          refine z_aload_n (i := 0) (q := 198) dX8_next_197 rfl rfl rfl ?_
          refine m_getI (q := 201) dX8_next_198 fl_X8_85 ⟨by decide, _, rfl, rfl⟩ rfl ?_
          refine m_putI (q := 204) dX8_next_201 fp_X8_103 ⟨by decide, _, rfl, rfl⟩ ⟨rfl, rfl⟩ rfl ?_
          refine z_return dX8_next_204 rfl ?_ (Nat.le_refl _) (Nat.le_refl _)
          rw [show (upI (upI (upI m 180 15 (nI s)) 180 13 (nI (s + 1))) 180 14 4).1 180 13 = nI (s + 1) from by rw [upI_ne (by decide), upI_eq], show mTok m t s = mEnd (upI (upI (upI m 180 15 (nI s)) 180 13 (nI (s + 1))) 180 14 4) (s + 1) from by unfold mTok; rw [if_neg (show ¬ t ≤ s by omega), if_neg c2, if_neg c3, if_pos c4]]
          try rfl
      · skip
        have hp := cPass_le (m.1 187) t 48 57 (t - s) s hst
        have hY := sg_X8_fig d (upI m 180 15 (nI s)) (m.1 187 s) (cPass (m.1 187) t 48 57 (t - s) s) s (upI_eq _ _ _ _) (by omega) (by omega)
        rw [show mEnd (upI (upI (upI m 180 15 (nI s)) 180 13 (nI (cPass (m.1 187) t 48 57 (t - s) s))) 180 14 (if (cPass (m.1 187) t 48 57 (t - s) s) - s ≤ 3 then 3 else 0)) (cPass (m.1 187) t 48 57 (t - s) s) = mTok m t s from by unfold mTok; rw [if_neg (show ¬ t ≤ s by omega), if_neg c2, if_pos c3]] at hY
        have e := lp_X8_fig d (upI m 180 15 (nI s)) (m.1 187 s) t (by rw [upI_ne (by decide), hl]) ht4 (none, lay (mTok m t s)) (t + 1) s (by omega) hst (by rw [u187]; exact hY)
        rw [upI_self (show (upI m 180 15 (nI s)).1 180 13 = nI s from by rw [upI_ne (by decide), hs])] at e
        exact e
    · skip
      have hp := cPass_le (m.1 187) t 97 122 (t - s) s hst
      have hY := sg_X8_let d (upI m 180 15 (nI s)) (m.1 187 s) (cPass (m.1 187) t 97 122 (t - s) s)
      rw [show mEnd (upI (upI (upI m 180 15 (nI s)) 180 13 (nI (cPass (m.1 187) t 97 122 (t - s) s))) 180 14 2) (cPass (m.1 187) t 97 122 (t - s) s) = mTok m t s from by unfold mTok; rw [if_neg (show ¬ t ≤ s by omega), if_pos c2]] at hY
      have e := lp_X8_let d (upI m 180 15 (nI s)) (m.1 187 s) t (by rw [upI_ne (by decide), hl]) ht4 (none, lay (mTok m t s)) (t + 1) s (by omega) hst (by rw [u187]; exact hY)
      rw [upI_self (show (upI m 180 15 (nI s)).1 180 13 = nI s from by rw [upI_ne (by decide), hs])] at e
      exact e
  · skip
    have hts : t ≤ s := by
      rcases Nat.lt_or_ge s t with q | q
      · have h1 := hby s q
        have h2 : m.1 187 s = -1000000 := (c1 : mBy m t s = -1000000) ▸ (if_pos q : mBy m t s = m.1 187 s).symm
        rw [h2] at h1
        exact absurd h1 (by decide)
      · exact q
    refine z_aload_n (i := 0) (q := 63) dX8_next_62 rfl rfl rfl ?_
    refine z_iconst (v := 1) (q := 64) dX8_next_63 (by decide) rfl ?_
    refine m_putI (q := 67) dX8_next_64 fp_X8_94 ⟨by decide, _, rfl, rfl⟩ ⟨rfl, rfl⟩ rfl ?_
    refine z_goto (tgt := 196) dX8_next_67 (by decide) ?_
    refine z_aload_n (i := 0) (q := 197) dX8_next_196 rfl rfl rfl ?_
    refine z_aload_n (i := 0) (q := 198) dX8_next_197 rfl rfl rfl ?_
    refine m_getI (q := 201) dX8_next_198 fl_X8_85 ⟨by decide, _, rfl, rfl⟩ rfl ?_
    refine m_putI (q := 204) dX8_next_201 fp_X8_103 ⟨by decide, _, rfl, rfl⟩ ⟨rfl, rfl⟩ rfl ?_
    refine z_return dX8_next_204 rfl ?_ (Nat.le_refl _) (Nat.le_refl _)
    rw [show (upI (upI m 180 15 (nI s)) 180 14 1).1 180 13 = nI s from by rw [upI_ne (by decide), upI_ne (by decide), hs], show mTok m t s = mEnd (upI (upI m 180 15 (nI s)) 180 14 1) s from if_pos hts]
    try rfl
set_option maxHeartbeats 4000000 in
set_option maxRecDepth 100000 in
theorem lp_X8_skip (d : Nat) (m : zm) (t : Nat) (hl : m.1 180 12 = nI t) (ht4 : t ≤ 400) (hby : ∀ k, k < t → 0 ≤ m.1 187 k) : ∀ (n : Nat) (b : Nat), t - b < n → b ≤ t → ZW zM_X8_next (d + 1) 0 0 0 [some (.ref 180), none] [] (lay (upI m 180 13 (nI b))) 0 0 (none, lay (mTok (upI m 180 13 (nI (cSkip (m.1 187) t (t - b) b))) t (cSkip (m.1 187) t (t - b) b))) := by
  intro n
  induction n with
  | zero => intro b hm; exact absurd hm (by omega)
  | succ n ih =>
    intro b hm hb
    refine z_aload_n (i := 0) (q := 1) dX8_next_0 rfl rfl rfl ?_
    refine z_aload_n (i := 0) (q := 2) dX8_next_1 rfl rfl rfl ?_
    refine m_getI (q := 5) dX8_next_2 fl_X8_85 ⟨by decide, _, rfl, rfl⟩ rfl ?_
    rw [upI_eq]
    refine m_callV_r (As := [_]) (q := 8) mk_X8_byteAt dX8_next_5 wd_868 wd_870 wp_33 (ci := 8) rfl ⟨by decide, _, rfl⟩ (ev_X8_byteAt _ _ _ _  (by rw [upI_ne (by decide), hl]) ht4 (by omega)) rfl (by decide) rfl (Nat.zero_le _) (Nat.zero_le _) rfl ?_
    rw [mBy_u]
    refine z_bipush (v := 32) (q := 10) dX8_next_8 (by decide) rfl ?_
    refine z_icmp_eq (tgt := 26) (q := 13) dX8_next_10 (by decide) rfl (fun c1 => ?_) (fun c1 => ?_)
    · skip
      refine z_aload_n (i := 0) (q := 27) dX8_next_26 rfl rfl rfl ?_
      refine z_dup (q := 28) dX8_next_27 rfl rfl ?_
      refine m_getI (q := 31) dX8_next_28 fl_X8_85 ⟨by decide, _, rfl, rfl⟩ rfl ?_
      rw [upI_eq]
      refine z_iconst (v := 1) (q := 32) dX8_next_31 (by decide) rfl ?_
      refine z_iadd (q := 33) dX8_next_32 rfl ?_
      rw [nI_1]
      refine m_putI (q := 36) dX8_next_33 fp_X8_85 ⟨by decide, _, rfl, rfl⟩ ⟨rfl, rfl⟩ rfl ?_
      rw [upI_upI]
      refine z_goto (tgt := 0) dX8_next_36 (by decide) ?_
      have hc := (mBy_eq (by decide)).mp c1
      rw [show t - b = (t - (b + 1)) + 1 by omega, cSkip, if_pos ⟨hc.1, Or.inl hc.2⟩]
      exact ih (b + 1) (by omega) (by omega)
    · skip
      refine z_aload_n (i := 0) (q := 14) dX8_next_13 rfl rfl rfl ?_
      refine z_aload_n (i := 0) (q := 15) dX8_next_14 rfl rfl rfl ?_
      refine m_getI (q := 18) dX8_next_15 fl_X8_85 ⟨by decide, _, rfl, rfl⟩ rfl ?_
      rw [upI_eq]
      refine m_callV_r (As := [_]) (q := 21) mk_X8_byteAt dX8_next_18 wd_868 wd_870 wp_33 (ci := 8) rfl ⟨by decide, _, rfl⟩ (ev_X8_byteAt _ _ _ _  (by rw [upI_ne (by decide), hl]) ht4 (by omega)) rfl (by decide) rfl (Nat.zero_le _) (Nat.zero_le _) rfl ?_
      rw [mBy_u]
      refine z_bipush (v := 10) (q := 23) dX8_next_21 (by decide) rfl ?_
      refine z_icmp_ne (tgt := 39) (q := 26) dX8_next_23 (by decide) rfl (fun c2 => ?_) (fun c2 => ?_)
      · skip
        have hsk : cSkip (m.1 187) t (t - b) b = b := by
          rcases Nat.eq_zero_or_pos (t - b) with q | q
          · rw [q]; rfl
          · rw [show t - b = (t - b - 1) + 1 by omega, cSkip, if_neg (fun q => q.2.elim (fun z => c1 ((mBy_eq (by decide)).mpr ⟨q.1, z⟩)) (fun z => c2 ((mBy_eq (by decide)).mpr ⟨q.1, z⟩)))]
        rw [hsk]
        exact sg_X8_tok d (upI m 180 13 (nI b)) t b (by rw [upI_ne (by decide), hl]) ht4 (by rw [u187]; exact hby) (upI_eq _ _ _ _) hb
      · skip
        refine z_aload_n (i := 0) (q := 27) dX8_next_26 rfl rfl rfl ?_
        refine z_dup (q := 28) dX8_next_27 rfl rfl ?_
        refine m_getI (q := 31) dX8_next_28 fl_X8_85 ⟨by decide, _, rfl, rfl⟩ rfl ?_
        rw [upI_eq]
        refine z_iconst (v := 1) (q := 32) dX8_next_31 (by decide) rfl ?_
        refine z_iadd (q := 33) dX8_next_32 rfl ?_
        rw [nI_1]
        refine m_putI (q := 36) dX8_next_33 fp_X8_85 ⟨by decide, _, rfl, rfl⟩ ⟨rfl, rfl⟩ rfl ?_
        rw [upI_upI]
        refine z_goto (tgt := 0) dX8_next_36 (by decide) ?_
        have hc := (mBy_eq (by decide)).mp c2
        rw [show t - b = (t - (b + 1)) + 1 by omega, cSkip, if_pos ⟨hc.1, Or.inr hc.2⟩]
        exact ih (b + 1) (by omega) (by omega)
set_option maxHeartbeats 4000000 in
set_option maxRecDepth 100000 in
theorem ev_X8_next (d : Nat) (m : zm) (t : Nat) (b : Nat) (hl : m.1 180 12 = nI t) (ht4 : t ≤ 400) (hby : ∀ k, k < t → 0 ≤ m.1 187 k) (hb : m.1 180 13 = nI b) (hbt : b ≤ t) : zEv (d + 1) zM_X8_next 0 0 [.ref 180] (lay m) (none, lay (mNext m t b)) := by
  refine zEv_of (by decide) (fun G => Nat.le_of_ble_eq_true rfl) ?_
  show ZW _ _ _ _ 0 [some (.ref 180), none] [] _ _ _ _
  have e := lp_X8_skip d m t hl ht4 hby (t + 1) b (by omega) hbt
  rw [upI_self hb] at e
  exact e
