/-! ===== the model: gains are laid ===== -/
def lOk (m : zm) (H W : Nat) : Prop := m.1 184 0 = nI H ∧ H ≤ 5 ∧ m.1 184 2 = nI W ∧ W ≤ 8 ∧ ∀ w, w < W → (∃ a, a < 5 ∧ m.1 184 (4 + 4 * w + 0) = nI a) ∧ (∃ b, b < 5 ∧ m.1 184 (4 + 4 * w + 1) = nI b) ∧ ∃ s, s ≤ 20 ∧ m.1 184 (4 + 4 * w + 2) = nI s
theorem lOk_c {m m' : zm} {H W : Nat} (e : m'.1 = m.1) (h : lOk m H W) : lOk m' H W := by
  unfold lOk at h ⊢
  rw [e]
  exact h
def gTo (m : zm) (p w h : Nat) : Nat := (mEndOf m p w (nI h)).toNatClampNeg
def gSh (m : zm) (w : Nat) : Nat := (m.1 184 (4 + 4 * w + 2)).toNatClampNeg
theorem gSh_of {m : zm} {H W w : Nat} (h : lOk m H W) (hw : w < W) : m.1 184 (4 + 4 * w + 2) = nI (gSh m w) ∧ gSh m w ≤ 20 := by
  obtain ⟨s, h1, h2⟩ := (h.2.2.2.2 w hw).2.2
  have e : gSh m w = s := by
    unfold gSh
    rw [h2, nI_clamp (by omega)]
  rw [e]
  exact ⟨h2, h1⟩
theorem gTo_of {m : zm} {H W p w h : Nat} (hl : lOk m H W) (hw : w < W) (hn : ¬ mEndOf m p w (nI h) = -1000000) : mEndOf m p w (nI h) = nI (gTo m p w h) ∧ gTo m p w h < 5 := by
  have hx : ∃ t, t < 5 ∧ mEndOf m p w (nI h) = nI t := by
    have h5 := hl.2.2.2.2 w hw
    unfold mEndOf at hn ⊢
    by_cases q : mOf m p 0 = 5 ∧ 10 < mWy m w 2
    · rw [if_pos q] at hn; exact absurd rfl hn
    · rw [if_neg q] at hn ⊢
      unfold mTo at hn ⊢
      by_cases q1 : mWy m w 0 = nI h
      · rw [if_pos q1]; exact h5.2.1
      · rw [if_neg q1] at hn ⊢
        by_cases q2 : mWy m w 1 = nI h
        · rw [if_pos q2]; exact h5.1
        · rw [if_neg q2] at hn; exact absurd rfl hn
  obtain ⟨t, h1, h2⟩ := hx
  have e : gTo m p w h = t := by
    unfold gTo
    rw [h2, nI_clamp (by omega)]
  rw [e]
  exact ⟨h2, h1⟩
def gStep (m : zm) (p y h : Nat) (now : Int64) (w : Nat) : zm := if mEndOf m p w (nI h) = -1000000 ∨ 40 < y + gSh m w then m else upL m 188 (5 * (y + gSh m w) + gTo m p w h) (m.2 188 (5 * (y + gSh m w) + gTo m p w h) ||| (now <<< ((m.1 184 (4 + 4 * w + 2) - mAgesBy m p w).toInt64 &&& 63)))
def gWays (p y h : Nat) (now : Int64) : Nat → Nat → zm → zm
  | 0, _, m => m
  | n + 1, w, m => gWays p y h now n (w + 1) (gStep m p y h now w)
def gHar1 (m : zm) (y h : Nat) : zm := upL m 188 (5 * y + 5 + h) (m.2 188 (5 * y + 5 + h) ||| m.2 188 (5 * y + h))
def gHar (p y W : Nat) : Nat → Nat → zm → zm
  | 0, _, m => m
  | n + 1, h, m => gHar p y W n (h + 1) (gWays p y h (m.2 188 (5 * y + h)) W 0 (gHar1 m y h))
def gYear (p H W : Nat) : Nat → Nat → zm → zm
  | 0, _, m => m
  | n + 1, y, m => gYear p H W n (y + 1) (gHar p y W H 0 m)
def mZero (m : zm) (k : Nat) : zm := (m.1, fun c j => if c = 188 ∧ j < k then 0 else m.2 c j)
theorem mZero_0 (m : zm) : mZero m 0 = m := by
  refine Prod.ext rfl (funext fun c => funext fun j => ?_)
  simp [mZero]
theorem mZero_s (m : zm) (k : Nat) : upL (mZero m k) 188 k 0 = mZero m (k + 1) := by
  refine Prod.ext rfl (funext fun c => funext fun j => ?_)
  simp only [upL, mZero]
  by_cases h : c = 188 ∧ j = k
  · rw [if_pos h, if_pos (by omega)]
  · rw [if_neg h]
    by_cases h2 : c = 188 ∧ j < k
    · rw [if_pos h2, if_pos (by omega)]
    · rw [if_neg h2, if_neg (by omega)]
def mLay (m : zm) (p H W at0 : Nat) : zm := gYear p H W 40 0 (upL (mZero m 205) 188 at0 1)
theorem gStep_1 (m : zm) (p y h : Nat) (now : Int64) (w : Nat) : (gStep m p y h now w).1 = m.1 := by
  unfold gStep
  split <;> rfl
theorem gWays_1 (p y h : Nat) (now : Int64) (n : Nat) : ∀ (w : Nat) (m : zm), (gWays p y h now n w m).1 = m.1 := by
  induction n with
  | zero => intro w m; rfl
  | succ n ih => intro w m; rw [gWays, ih, gStep_1]
theorem gHar_1 (p y W : Nat) (n : Nat) : ∀ (h : Nat) (m : zm), (gHar p y W n h m).1 = m.1 := by
  induction n with
  | zero => intro w m; rfl
  | succ n ih => intro h m; rw [gHar, ih, gWays_1]; rfl
theorem gYear_1 (p H W : Nat) (n : Nat) : ∀ (y : Nat) (m : zm), (gYear p H W n y m).1 = m.1 := by
  induction n with
  | zero => intro y m; rfl
  | succ n ih => intro y m; rw [gYear, ih, gHar_1]
theorem mLay_1 (m : zm) (p H W at0 : Nat) : (mLay m p H W at0).1 = m.1 := by
  unfold mLay
  rw [gYear_1]
  rfl
set_option maxHeartbeats 4000000 in
set_option maxRecDepth 100000 in
theorem lp_X8_lw (d : Nat) (p y h H W : Nat) (now : Int64) (hp : p < 4) (hy : y < 40) (hh : h < 5) (Y : zX) : ∀ (n : Nat) (w : Nat) (m : zm), W - w < n → w ≤ W → lOk m H W → ZW zM_X8_layGains (d + 2) 0 0 171 [some (.ref 180), some (.int (nI p)), some (.int (nI y)), some (.int (nI h)), none, none, none, none, none] [] (lay (gWays p y h now (W - w) w m)) 0 0 Y → ZW zM_X8_layGains (d + 2) 0 0 86 [some (.ref 180), some (.int (nI p)), some (.int (nI y)), some (.int (nI h)), some (.long now), none, some (.int (nI w)), none, none] [] (lay m) 0 0 (Y) := by
  intro n
  induction n with
  | zero => intro w m hm; exact absurd hm (by omega)
  | succ n ih =>
    intro w m hm hw hG hY
    have hW8 := hG.2.2.2.1
    refine z_iload (i := 6) (q := 88) dX8_layGains_86 rfl rfl ?_
    refine z_aload_n (i := 0) (q := 89) dX8_layGains_88 rfl rfl rfl ?_
    refine m_getR (r := 184) (q := 92) dX8_layGains_89 fl_X8_19 ⟨by decide, _, rfl, rfl⟩ rfl ?_
    refine z_iconst (v := 2) (q := 93) dX8_layGains_92 (by decide) rfl ?_
    refine m_ialdJ (N := 68) (q := 94) dX8_layGains_93 ⟨by decide, _, rfl⟩ (j := 2) (by decide) (vp_c (by decide)) rfl ?_
    rw [hG.2.2.1]
    refine z_icmp_ge (tgt := 171) (q := 97) dX8_layGains_94 (by decide) rfl (fun c1 => ?_) (fun c1 => ?_)
    · skip
      have hge : W ≤ w := (nI_leI (a := W) (b := w) (by omega) (by omega)).mp c1
      rw [show W - w = 0 by omega] at hY
      exact z_loc (zle_s (zle_s (zle_s (zle_s (zle_n (zle_n (zle_n (zle_n (zle_n zle_0))))))))) hY
    · skip
      have hlt : w < W := by
        rcases Nat.lt_or_ge w W with q | q
        · exact q
        · exact absurd ((nI_leI (a := W) (b := w) (by omega) (by omega)).mpr q) c1
      have hs20 := gSh_of hG hlt
      refine z_aload_n (i := 0) (q := 98) dX8_layGains_97 rfl rfl rfl ?_
      refine z_iload_n (i := 1) (q := 99) dX8_layGains_98 rfl rfl rfl ?_
      refine z_iload (i := 6) (q := 101) dX8_layGains_99 rfl rfl ?_
      refine z_iload_n (i := 3) (q := 102) dX8_layGains_101 rfl rfl rfl ?_
      refine m_callV_r (As := [_, _, _]) (q := 105) mk_X8_endOf dX8_layGains_102 wd_951 wd_953 wp_47 (ci := 8) rfl ⟨by decide, _, rfl⟩ (ev_X8_endOf _ _ p w _ (by omega) (by omega)) rfl (by decide) rfl (Nat.zero_le _) (Nat.zero_le _) rfl ?_
      refine z_istore (i := 7) (ls' := [_, _, _, _, _, _, _, _, _]) (q := 107) dX8_layGains_105 (by decide) rfl rfl ?_
      refine z_iload_n (i := 2) (q := 108) dX8_layGains_107 rfl rfl rfl ?_
      refine z_aload_n (i := 0) (q := 109) dX8_layGains_108 rfl rfl rfl ?_
      refine z_iload (i := 6) (q := 111) dX8_layGains_109 rfl rfl ?_
      refine z_iconst (v := 2) (q := 112) dX8_layGains_111 (by decide) rfl ?_
      refine m_callV_r (As := [_, _]) (q := 115) mk_X8_wayOf dX8_layGains_112 wd_955 wd_957 wp_48 (ci := 8) rfl ⟨by decide, _, rfl⟩ (ev_X8_wayOf _ _ w 2 (by omega) (by omega)) rfl (by simp [Value.category]) rfl (Nat.zero_le _) (Nat.zero_le _) rfl ?_
      rw [hs20.1]
      refine z_iadd (q := 116) dX8_layGains_115 rfl ?_
      rw [show nI y + nI (gSh m w) = nI (y + (gSh m w)) from nI_add _ _]
      refine z_istore (i := 8) (ls' := [_, _, _, _, _, _, _, _, _]) (q := 118) dX8_layGains_116 (by decide) rfl rfl ?_
      refine z_iload (i := 7) (q := 120) dX8_layGains_118 rfl rfl ?_
      refine z_ldc (q := 122) dX8_layGains_120 wd_872 rfl ?_
      refine z_icmp_eq (tgt := 165) (q := 125) dX8_layGains_122 (by decide) rfl (fun c2 => ?_) (fun c2 => ?_)
      · skip
        refine z_iinc (i := 6) (ls' := [_, _, _, _, _, _, _, _, _]) (v := nI (w + 1)) (q := 168) dX8_layGains_165 rfl (nI_1 _) (by decide) rfl rfl ?_
        refine z_goto (tgt := 86) dX8_layGains_168 (by decide) ?_
        have hs : gStep m p y h now w = m := if_pos (Or.inl c2)
        have e := ih (w + 1) (gStep m p y h now w) (by omega) (by omega) (lOk_c (gStep_1 _ _ _ _ _ _) hG) (by rw [show W - w = (W - (w + 1)) + 1 by omega, gWays] at hY; exact hY)
        rw [hs] at e
        exact z_loc (zle_s (zle_s (zle_s (zle_s (zle_s (zle_n (zle_s (zle_n (zle_n zle_0))))))))) e
      · skip
        have hte := gTo_of hG hlt c2
        rw [hte.1]
        refine z_iload (i := 8) (q := 127) dX8_layGains_125 rfl rfl ?_
        refine z_bipush (v := 40) (q := 129) dX8_layGains_127 (by decide) rfl ?_
        refine z_icmp_gt (tgt := 165) (q := 132) dX8_layGains_129 (by decide) rfl (fun c3 => ?_) (fun c3 => ?_)
        · skip
          have hgt : 40 < y + gSh m w := (nI_ltI (a := 40) (b := y + gSh m w) (by omega) (by omega)).mp c3
          refine z_iinc (i := 6) (ls' := [_, _, _, _, _, _, _, _, _]) (v := nI (w + 1)) (q := 168) dX8_layGains_165 rfl (nI_1 _) (by decide) rfl rfl ?_
          refine z_goto (tgt := 86) dX8_layGains_168 (by decide) ?_
          have hs : gStep m p y h now w = m := if_pos (Or.inr hgt)
          have e := ih (w + 1) (gStep m p y h now w) (by omega) (by omega) (lOk_c (gStep_1 _ _ _ _ _ _) hG) (by rw [show W - w = (W - (w + 1)) + 1 by omega, gWays] at hY; exact hY)
          rw [hs] at e
          exact z_loc (zle_s (zle_s (zle_s (zle_s (zle_s (zle_n (zle_s (zle_n (zle_n zle_0))))))))) e
        · skip
          have hle : y + gSh m w ≤ 40 := by
            rcases Nat.lt_or_ge 40 (y + gSh m w) with q | q
            · exact absurd ((nI_ltI (a := 40) (b := y + gSh m w) (by omega) (by omega)).mpr q) c3
            · exact q
          refine z_aload_n (i := 0) (q := 133) dX8_layGains_132 rfl rfl rfl ?_
          refine m_getR (r := 188) (q := 136) dX8_layGains_133 fl_X8_31 ⟨by decide, _, rfl, rfl⟩ rfl ?_
          refine z_iconst (v := 5) (q := 137) dX8_layGains_136 (by decide) rfl ?_
          refine z_iload (i := 8) (q := 139) dX8_layGains_137 rfl rfl ?_
          refine z_imul (q := 140) dX8_layGains_139 rfl ?_
          rw [show 5 * nI (y + (gSh m w)) = nI (5 * (y + (gSh m w))) from nI_mul 5 _]
          refine z_iload (i := 7) (q := 142) dX8_layGains_140 rfl rfl ?_
          refine z_iadd (q := 143) dX8_layGains_142 rfl ?_
          rw [show nI (5 * (y + (gSh m w))) + nI (gTo m p w h) = nI ((5 * (y + (gSh m w))) + (gTo m p w h)) from nI_add _ _]
          refine z_dup2 (q := 144) dX8_layGains_143 rfl rfl rfl ?_
          refine m_laldJ (N := 205) (q := 145) dX8_layGains_144 ⟨by decide, _, rfl⟩ (j := ((5 * (y + (gSh m w))) + (gTo m p w h))) (nI_clamp (by omega)) (vp_in_nI (by omega) (by decide)) rfl ?_
          refine z_lload (i := 4) (q := 147) dX8_layGains_145 rfl rfl ?_
          refine z_aload_n (i := 0) (q := 148) dX8_layGains_147 rfl rfl rfl ?_
          refine z_iload (i := 6) (q := 150) dX8_layGains_148 rfl rfl ?_
          refine z_iconst (v := 2) (q := 151) dX8_layGains_150 (by decide) rfl ?_
          refine m_callV_r (As := [_, _]) (q := 154) mk_X8_wayOf dX8_layGains_151 wd_955 wd_957 wp_48 (ci := 8) rfl ⟨by decide, _, rfl⟩ (ev_X8_wayOf _ _ w 2 (by omega) (by omega)) rfl (by simp [Value.category]) rfl (Nat.zero_le _) (Nat.zero_le _) rfl ?_
          refine z_aload_n (i := 0) (q := 155) dX8_layGains_154 rfl rfl rfl ?_
          refine z_iload_n (i := 1) (q := 156) dX8_layGains_155 rfl rfl rfl ?_
          refine z_iload (i := 6) (q := 158) dX8_layGains_156 rfl rfl ?_
          refine m_callV_r (As := [_, _]) (q := 161) mk_X8_agesBy dX8_layGains_158 wd_964 wd_966 wp_50 (ci := 8) rfl ⟨by decide, _, rfl⟩ (ev_X8_agesBy _ _ p w (by omega) (by omega)) rfl (by simp [Value.category]) rfl (Nat.zero_le _) (Nat.zero_le _) rfl ?_
          refine z_isub (q := 162) dX8_layGains_161 rfl ?_
          refine z_lshl (q := 163) dX8_layGains_162 rfl ?_
          refine z_lor (q := 164) dX8_layGains_163 rfl ?_
          refine m_lastJ (N := 205) (q := 165) dX8_layGains_164 ⟨by decide, _, rfl⟩ (j := ((5 * (y + (gSh m w))) + (gTo m p w h))) (nI_clamp (by omega)) (vp_in_nI (by omega) (by decide)) rfl ?_
          refine z_iinc (i := 6) (ls' := [_, _, _, _, _, _, _, _, _]) (v := nI (w + 1)) (q := 168) dX8_layGains_165 rfl (nI_1 _) (by decide) rfl rfl ?_
          refine z_goto (tgt := 86) dX8_layGains_168 (by decide) ?_
          have hs : gStep m p y h now w = upL m 188 (5 * (y + gSh m w) + gTo m p w h) (m.2 188 (5 * (y + gSh m w) + gTo m p w h) ||| (now <<< ((m.1 184 (4 + 4 * w + 2) - mAgesBy m p w).toInt64 &&& 63))) := if_neg (fun q => q.elim c2 (by omega))
          have e := ih (w + 1) (gStep m p y h now w) (by omega) (by omega) (lOk_c (gStep_1 _ _ _ _ _ _) hG) (by rw [show W - w = (W - (w + 1)) + 1 by omega, gWays] at hY; exact hY)
          rw [hs] at e
          exact z_loc (zle_s (zle_s (zle_s (zle_s (zle_s (zle_n (zle_s (zle_n (zle_n zle_0))))))))) e
set_option maxHeartbeats 4000000 in
set_option maxRecDepth 100000 in
theorem lp_X8_lh (d : Nat) (p y H W : Nat) (hp : p < 4) (hy : y < 40) (Y : zX) : ∀ (n : Nat) (h : Nat) (m : zm), H - h < n → h ≤ H → lOk m H W → ZW zM_X8_layGains (d + 2) 0 0 177 [some (.ref 180), some (.int (nI p)), some (.int (nI y)), none, none, none, none, none, none] [] (lay (gHar p y W (H - h) h m)) 0 0 Y → ZW zM_X8_layGains (d + 2) 0 0 44 [some (.ref 180), some (.int (nI p)), some (.int (nI y)), some (.int (nI h)), none, none, none, none, none] [] (lay m) 0 0 (Y) := by
  intro n
  induction n with
  | zero => intro h m hm; exact absurd hm (by omega)
  | succ n ih =>
    intro h m hm hh hG hY
    have hH5 := hG.2.1
    refine z_iload_n (i := 3) (q := 45) dX8_layGains_44 rfl rfl rfl ?_
    refine z_aload_n (i := 0) (q := 46) dX8_layGains_45 rfl rfl rfl ?_
    refine m_getR (r := 184) (q := 49) dX8_layGains_46 fl_X8_19 ⟨by decide, _, rfl, rfl⟩ rfl ?_
    refine z_iconst (v := 0) (q := 50) dX8_layGains_49 (by decide) rfl ?_
    refine m_ialdJ (N := 68) (q := 51) dX8_layGains_50 ⟨by decide, _, rfl⟩ (j := 0) (by decide) (vp_c (by decide)) rfl ?_
    rw [hG.1]
    refine z_icmp_ge (tgt := 177) (q := 54) dX8_layGains_51 (by decide) rfl (fun c1 => ?_) (fun c1 => ?_)
    · skip
      have hge : H ≤ h := (nI_leI (a := H) (b := h) (by omega) (by omega)).mp c1
      rw [show H - h = 0 by omega] at hY
      exact z_loc (zle_s (zle_s (zle_s (zle_n (zle_n (zle_n (zle_n (zle_n (zle_n zle_0))))))))) hY
    · skip
      have hlt : h < H := by
        rcases Nat.lt_or_ge h H with q | q
        · exact q
        · exact absurd ((nI_leI (a := H) (b := h) (by omega) (by omega)).mpr q) c1
      refine z_aload_n (i := 0) (q := 55) dX8_layGains_54 rfl rfl rfl ?_
      refine m_getR (r := 188) (q := 58) dX8_layGains_55 fl_X8_31 ⟨by decide, _, rfl, rfl⟩ rfl ?_
      refine z_iconst (v := 5) (q := 59) dX8_layGains_58 (by decide) rfl ?_
      refine z_iload_n (i := 2) (q := 60) dX8_layGains_59 rfl rfl rfl ?_
      refine z_imul (q := 61) dX8_layGains_60 rfl ?_
      rw [show 5 * nI y = nI (5 * y) from nI_mul 5 _]
      refine z_iload_n (i := 3) (q := 62) dX8_layGains_61 rfl rfl rfl ?_
      refine z_iadd (q := 63) dX8_layGains_62 rfl ?_
      rw [show nI (5 * y) + nI h = nI ((5 * y) + h) from nI_add _ _]
      refine m_laldJ (N := 205) (q := 64) dX8_layGains_63 ⟨by decide, _, rfl⟩ (j := ((5 * y) + h)) (nI_clamp (by omega)) (vp_in_nI (by omega) (by decide)) rfl ?_
      refine z_lstore (i := 4) (ls' := [_, _, _, _, _, _, _, _, _]) (q := 66) dX8_layGains_64 (by decide) rfl rfl ?_
      refine z_aload_n (i := 0) (q := 67) dX8_layGains_66 rfl rfl rfl ?_
      refine m_getR (r := 188) (q := 70) dX8_layGains_67 fl_X8_31 ⟨by decide, _, rfl, rfl⟩ rfl ?_
      refine z_iconst (v := 5) (q := 71) dX8_layGains_70 (by decide) rfl ?_
      refine z_iload_n (i := 2) (q := 72) dX8_layGains_71 rfl rfl rfl ?_
      refine z_imul (q := 73) dX8_layGains_72 rfl ?_
      rw [show 5 * nI y = nI (5 * y) from nI_mul 5 _]
      refine z_iconst (v := 5) (q := 74) dX8_layGains_73 (by decide) rfl ?_
      refine z_iadd (q := 75) dX8_layGains_74 rfl ?_
      rw [show nI (5 * y) + 5 = nI ((5 * y) + 5) from nI_add _ 5]
      refine z_iload_n (i := 3) (q := 76) dX8_layGains_75 rfl rfl rfl ?_
      refine z_iadd (q := 77) dX8_layGains_76 rfl ?_
      rw [show nI ((5 * y) + 5) + nI h = nI (((5 * y) + 5) + h) from nI_add _ _]
      refine z_dup2 (q := 78) dX8_layGains_77 rfl rfl rfl ?_
      refine m_laldJ (N := 205) (q := 79) dX8_layGains_78 ⟨by decide, _, rfl⟩ (j := (((5 * y) + 5) + h)) (nI_clamp (by omega)) (vp_in_nI (by omega) (by decide)) rfl ?_
      refine z_lload (i := 4) (q := 81) dX8_layGains_79 rfl rfl ?_
      refine z_lor (q := 82) dX8_layGains_81 rfl ?_
      refine m_lastJ (N := 205) (q := 83) dX8_layGains_82 ⟨by decide, _, rfl⟩ (j := (((5 * y) + 5) + h)) (nI_clamp (by omega)) (vp_in_nI (by omega) (by decide)) rfl ?_
      refine z_iconst (v := 0) (q := 84) dX8_layGains_83 (by decide) rfl ?_
      refine z_istore (i := 6) (ls' := [_, _, _, _, _, _, _, _, _]) (q := 86) dX8_layGains_84 (by decide) rfl rfl ?_
      refine lp_X8_lw d p y h H W _ hp hy (by omega) Y (W + 1) 0 _ (by omega) (Nat.zero_le _) (lOk_c rfl hG) ?_
      refine z_iinc (i := 3) (ls' := [_, _, _, _, _, _, _, _, _]) (v := nI (h + 1)) (q := 174) dX8_layGains_171 rfl (nI_1 _) (by decide) rfl rfl ?_
      refine z_goto (tgt := 44) dX8_layGains_174 (by decide) ?_
      exact ih (h + 1) _ (by omega) (by omega) (lOk_c (gWays_1 _ _ _ _ _ _ _) hG) (by rw [show H - h = (H - (h + 1)) + 1 by omega, gHar] at hY; exact hY)
set_option maxHeartbeats 4000000 in
set_option maxRecDepth 100000 in
theorem lp_X8_ly (d : Nat) (p H W : Nat) (hp : p < 4) : ∀ (n : Nat) (y : Nat) (m : zm), 40 - y < n → y ≤ 40 → lOk m H W → ZW zM_X8_layGains (d + 2) 0 0 36 [some (.ref 180), some (.int (nI p)), some (.int (nI y)), none, none, none, none, none, none] [] (lay m) 0 0 (none, lay (gYear p H W (40 - y) y m)) := by
  intro n
  induction n with
  | zero => intro y m hm; exact absurd hm (by omega)
  | succ n ih =>
    intro y m hm hy hG
    refine z_iload_n (i := 2) (q := 37) dX8_layGains_36 rfl rfl rfl ?_
    refine z_bipush (v := 40) (q := 39) dX8_layGains_37 (by decide) rfl ?_
    refine z_icmp_ge (tgt := 183) (q := 42) dX8_layGains_39 (by decide) rfl (fun c1 => ?_) (fun c1 => ?_)
    · skip
      have hge : 40 ≤ y := (nI_leI (a := 40) (b := y) (by omega) (by omega)).mp c1
      rw [show 40 - y = 0 by omega]
      refine z_return dX8_layGains_183 rfl ?_ (Nat.le_refl _) (Nat.le_refl _)
      rfl
    · skip
      have hlt : y < 40 := by
        rcases Nat.lt_or_ge y 40 with q | q
        · exact q
        · exact absurd ((nI_leI (a := 40) (b := y) (by omega) (by omega)).mpr q) c1
      refine z_iconst (v := 0) (q := 43) dX8_layGains_42 (by decide) rfl ?_
      refine z_istore_n (i := 3) (ls' := [_, _, _, _, _, _, _, _, _]) (q := 44) dX8_layGains_43 rfl (by decide) rfl rfl ?_
      refine lp_X8_lh d p y H W hp hlt _ (H + 1) 0 _ (by omega) (Nat.zero_le _) hG ?_
      refine z_iinc (i := 2) (ls' := [_, _, _, _, _, _, _, _, _]) (v := nI (y + 1)) (q := 180) dX8_layGains_177 rfl (nI_1 _) (by decide) rfl rfl ?_
      refine z_goto (tgt := 36) dX8_layGains_180 (by decide) ?_
      rw [show 40 - y = (40 - (y + 1)) + 1 by omega, gYear]
      exact ih (y + 1) _ (by omega) (by omega) (lOk_c (gHar_1 _ _ _ _ _ _) hG)
set_option maxHeartbeats 4000000 in
set_option maxRecDepth 100000 in
theorem lp_X8_l0 (d : Nat) (m : zm) (p : Nat) (Y : zX) : ∀ (n : Nat) (k : Nat), 205 - k < n → k ≤ 205 → ZW zM_X8_layGains (d + 2) 0 0 22 [some (.ref 180), some (.int (nI p)), none, none, none, none, none, none, none] [] (lay (mZero m 205)) 0 0 Y → ZW zM_X8_layGains (d + 2) 0 0 2 [some (.ref 180), some (.int (nI p)), some (.int (nI k)), none, none, none, none, none, none] [] (lay (mZero m k)) 0 0 (Y) := by
  intro n
  induction n with
  | zero => intro k hm; exact absurd hm (by omega)
  | succ n ih =>
    intro k hm hk hY
    refine z_iload_n (i := 2) (q := 3) dX8_layGains_2 rfl rfl rfl ?_
    refine z_sipush (v := 205) (q := 6) dX8_layGains_3 (by decide) rfl ?_
    refine z_icmp_ge (tgt := 22) (q := 9) dX8_layGains_6 (by decide) rfl (fun c1 => ?_) (fun c1 => ?_)
    · skip
      have hge : 205 ≤ k := (nI_leI (a := 205) (b := k) (by omega) (by omega)).mp c1
      have hk8 : k = 205 := by omega
      subst hk8
      exact z_loc (zle_s (zle_s (zle_n (zle_n (zle_n (zle_n (zle_n (zle_n (zle_n zle_0))))))))) hY
    · skip
      have hlt : k < 205 := by
        rcases Nat.lt_or_ge k 205 with q | q
        · exact q
        · exact absurd ((nI_leI (a := 205) (b := k) (by omega) (by omega)).mpr q) c1
      refine z_aload_n (i := 0) (q := 10) dX8_layGains_9 rfl rfl rfl ?_
      refine m_getR (r := 188) (q := 13) dX8_layGains_10 fl_X8_31 ⟨by decide, _, rfl, rfl⟩ rfl ?_
      refine z_iload_n (i := 2) (q := 14) dX8_layGains_13 rfl rfl rfl ?_
      refine z_lconst (v := 0) (q := 15) dX8_layGains_14 (by decide) rfl ?_
      refine m_lastJ (N := 205) (q := 16) dX8_layGains_15 ⟨by decide, _, rfl⟩ (j := k) (nI_clamp (by omega)) (vp_in_nI (by omega) (by decide)) rfl ?_
      refine z_iinc (i := 2) (ls' := [_, _, _, _, _, _, _, _, _]) (v := nI (k + 1)) (q := 19) dX8_layGains_16 rfl (nI_1 _) (by decide) rfl rfl ?_
      refine z_goto (tgt := 2) dX8_layGains_19 (by decide) ?_
      rw [mZero_s]
      exact ih (k + 1) (by omega) (by omega) hY
set_option maxHeartbeats 4000000 in
set_option maxRecDepth 100000 in
theorem sg_X8_l22 (d : Nat) (m : zm) (p H W at0 : Nat) (hp : p < 4) (hG : lOk m H W) (hat : m.1 184 (36 + 8 * p + 1) = nI at0) (ha5 : at0 < 5) : ZW zM_X8_layGains (d + 2) 0 0 22 [some (.ref 180), some (.int (nI p)), none, none, none, none, none, none, none] [] (lay m) 0 0 (none, lay (gYear p H W 40 0 (upL m 188 at0 1))) := by
  refine z_aload_n (i := 0) (q := 23) dX8_layGains_22 rfl rfl rfl ?_
  refine m_getR (r := 188) (q := 26) dX8_layGains_23 fl_X8_31 ⟨by decide, _, rfl, rfl⟩ rfl ?_
  refine z_aload_n (i := 0) (q := 27) dX8_layGains_26 rfl rfl rfl ?_
  refine z_iload_n (i := 1) (q := 28) dX8_layGains_27 rfl rfl rfl ?_
  refine z_iconst (v := 1) (q := 29) dX8_layGains_28 (by decide) rfl ?_
  refine m_callV_r (As := [_, _]) (q := 32) mk_X8_of dX8_layGains_29 wd_947 wd_949 wp_46 (ci := 8) rfl ⟨by decide, _, rfl⟩ (ev_X8_of _ _ p 1 (by omega) (by omega)) rfl (by simp [Value.category]) rfl (Nat.zero_le _) (Nat.zero_le _) rfl ?_
  rw [hat]
  refine z_lconst (v := 1) (q := 33) dX8_layGains_32 (by decide) rfl ?_
  refine m_lastJ (N := 205) (q := 34) dX8_layGains_33 ⟨by decide, _, rfl⟩ (j := at0) (nI_clamp (by omega)) (vp_in_nI (by omega) (by decide)) rfl ?_
  refine z_iconst (v := 0) (q := 35) dX8_layGains_34 (by decide) rfl ?_
  refine z_istore_n (i := 2) (ls' := [_, _, _, _, _, _, _, _, _]) (q := 36) dX8_layGains_35 rfl (by decide) rfl rfl ?_
  exact lp_X8_ly d p H W hp (40 + 1) 0 _ (by omega) (by omega) (lOk_c rfl hG)
set_option maxHeartbeats 4000000 in
set_option maxRecDepth 100000 in
theorem ev_X8_layGains (d : Nat) (m : zm) (H : Nat) (W : Nat) (at0 : Nat) (p : Nat) (hG : lOk m H W) (hat : m.1 184 (36 + 8 * p + 1) = nI at0) (ha5 : at0 < 5) (hp : p < 4) : zEv (d + 2) zM_X8_layGains 0 0 [.ref 180, .int (nI p)] (lay m) (none, lay (mLay m p H W at0)) := by
  refine zEv_of (by decide) (fun G => Nat.le_of_ble_eq_true rfl) ?_
  show ZW _ _ _ _ 0 [some (.ref 180), some (.int (nI p)), none, none, none, none, none, none, none] [] _ _ _ _
  refine z_iconst (v := 0) (q := 1) dX8_layGains_0 (by decide) rfl ?_
  refine z_istore_n (i := 2) (ls' := [_, _, _, _, _, _, _, _, _]) (q := 2) dX8_layGains_1 rfl (by decide) rfl rfl ?_
  have e := lp_X8_l0 d m p _ (205 + 1) 0 (by omega) (by omega) (sg_X8_l22 d (mZero m 205) p H W at0 hp (lOk_c rfl hG) hat ha5)
  rw [mZero_0] at e
  exact e
