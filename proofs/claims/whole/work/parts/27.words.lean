/-! ===== the class: the next token, words ===== -/
set_option maxHeartbeats 4000000 in
set_option maxRecDepth 100000 in
theorem sg_X5_next (d : Nat) (m : zm) (t s : Nat) (ht : m.1 12 1 = nI t) (hs : m.1 12 4 = nI s) (ht4 : t ≤ 400) (hst4 : s ≤ t) : ZW zM_X5_nextToken (d + 2) 0 0 52 [some (.ref 12)] [] (lay m) 0 0 (none, lay (cTok m t s)) := by
  refine z_aload_n (i := 0) (q := 53) dX5_nextToken_52 rfl rfl rfl ?_
  refine z_aload_n (i := 0) (q := 54) dX5_nextToken_53 rfl rfl rfl ?_
  refine m_getI (q := 57) dX5_nextToken_54 fl_X5_25 ⟨by decide, _, rfl, rfl⟩ rfl ?_
  rw [hs]
  refine m_putI (q := 60) dX5_nextToken_57 fp_X5_22 ⟨by decide, _, rfl, rfl⟩ ⟨rfl, rfl⟩ rfl ?_
  refine z_aload_n (i := 0) (q := 61) dX5_nextToken_60 rfl rfl rfl ?_
  refine m_getI (q := 64) dX5_nextToken_61 fl_X5_25 ⟨by decide, _, rfl, rfl⟩ rfl ?_
  rw [upI_ne (by decide), hs]
  refine z_aload_n (i := 0) (q := 65) dX5_nextToken_64 rfl rfl rfl ?_
  refine m_getI (q := 68) dX5_nextToken_65 fl_X5_15 ⟨by decide, _, rfl, rfl⟩ rfl ?_
  rw [upI_ne (by decide), ht]
  refine z_icmp_lt (tgt := 79) (q := 71) dX5_nextToken_68 (by decide) rfl (fun c1 => ?_) (fun c1 => ?_)
  · skip
    have hst : s < t := (nI_ltI (by omega) (by omega)).mp c1
    refine z_aload_n (i := 0) (q := 80) dX5_nextToken_79 rfl rfl rfl ?_
    refine z_bipush (v := 97) (q := 82) dX5_nextToken_80 (by decide) rfl ?_
    refine z_bipush (v := 122) (q := 84) dX5_nextToken_82 (by decide) rfl ?_
    refine m_callV_r (As := [_, _]) (q := 87) mk_X5_isBetween dX5_nextToken_84 wd_337 wd_339 wp_5 (ci := 5) rfl ⟨by decide, _, rfl⟩ (ev_X5_isBetween _ _ _ _ _ _  (by rw [upI_ne (by decide), ht]) (by rw [upI_ne (by decide), hs]) ht4 (by omega)) rfl (by decide) rfl (Nat.zero_le _) (Nat.zero_le _) rfl ?_
    simp only [u13]
    refine zb_eq (tgt := 106) (q := 90) dX5_nextToken_87 (by decide) rfl (fun c2 => ?_) (fun c2 => ?_)
    · skip
      refine z_aload_n (i := 0) (q := 107) dX5_nextToken_106 rfl rfl rfl ?_
      refine z_bipush (v := 48) (q := 109) dX5_nextToken_107 (by decide) rfl ?_
      refine z_bipush (v := 57) (q := 111) dX5_nextToken_109 (by decide) rfl ?_
      refine m_callV_r (As := [_, _]) (q := 114) mk_X5_isBetween dX5_nextToken_111 wd_337 wd_339 wp_5 (ci := 5) rfl ⟨by decide, _, rfl⟩ (ev_X5_isBetween _ _ _ _ _ _  (by rw [upI_ne (by decide), ht]) (by rw [upI_ne (by decide), hs]) ht4 (by omega)) rfl (by decide) rfl (Nat.zero_le _) (Nat.zero_le _) rfl ?_
      simp only [u13]
      refine zb_eq (tgt := 132) (q := 117) dX5_nextToken_114 (by decide) rfl (fun c3 => ?_) (fun c3 => ?_)
      · skip
        refine z_aload_n (i := 0) (q := 133) dX5_nextToken_132 rfl rfl rfl ?_
        refine z_aload_n (i := 0) (q := 134) dX5_nextToken_133 rfl rfl rfl ?_
        refine m_getR (r := 13) (q := 137) dX5_nextToken_134 fl_X5_9 ⟨by decide, _, rfl, rfl⟩ rfl ?_
        refine z_aload_n (i := 0) (q := 138) dX5_nextToken_137 rfl rfl rfl ?_
        refine m_getI (q := 141) dX5_nextToken_138 fl_X5_25 ⟨by decide, _, rfl, rfl⟩ rfl ?_
        rw [upI_ne (by decide), hs]
        refine m_ialdJ (N := 400) (q := 142) dX5_nextToken_141 ⟨by decide, _, rfl⟩ (j := s) (nI_clamp (by omega)) (vp_in_nI (by omega) (by decide)) rfl ?_
        rw [u13]
        refine z_bipush (v := 59) (q := 144) dX5_nextToken_142 (by decide) rfl ?_
        refine z_icmp_ne (tgt := 151) (q := 147) dX5_nextToken_144 (by decide) rfl (fun c4 => ?_) (fun c4 => ?_)
        · skip
          refine z_iconst (v := 4) (q := 152) dX5_nextToken_151 (by decide) rfl ?_
          refine m_putI (q := 155) dX5_nextToken_152 fp_X5_19 ⟨by decide, _, rfl, rfl⟩ ⟨rfl, rfl⟩ rfl ?_
          refine z_aload_n (i := 0) (q := 156) dX5_nextToken_155 rfl rfl rfl ?_
          refine z_dup (q := 157) dX5_nextToken_156 rfl rfl ?_
          refine m_getI (q := 160) dX5_nextToken_157 fl_X5_25 ⟨by decide, _, rfl, rfl⟩ rfl ?_
          rw [upI_ne (by decide), upI_ne (by decide), hs]
          refine z_iconst (v := 1) (q := 161) dX5_nextToken_160 (by decide) rfl ?_
          refine z_iadd (q := 162) dX5_nextToken_161 rfl ?_
          rw [nI_1]
          refine m_putI (q := 165) dX5_nextToken_162 fp_X5_25 ⟨by decide, _, rfl, rfl⟩ ⟨rfl, rfl⟩ rfl ?_
          refine z_return dX5_nextToken_165 rfl ?_ (Nat.le_refl _) (Nat.le_refl _)
          unfold cTok
          rw [if_neg (by omega), if_neg (fun q => c2 ⟨hst, q⟩), if_neg (fun q => c3 ⟨hst, q⟩), if_neg c4]
        · skip
          refine z_iconst (v := 3) (q := 148) dX5_nextToken_147 (by decide) rfl ?_
          refine z_goto (tgt := 152) dX5_nextToken_148 (by decide) ?_
          refine m_putI (q := 155) dX5_nextToken_152 fp_X5_19 ⟨by decide, _, rfl, rfl⟩ ⟨rfl, rfl⟩ rfl ?_
          refine z_aload_n (i := 0) (q := 156) dX5_nextToken_155 rfl rfl rfl ?_
          refine z_dup (q := 157) dX5_nextToken_156 rfl rfl ?_
          refine m_getI (q := 160) dX5_nextToken_157 fl_X5_25 ⟨by decide, _, rfl, rfl⟩ rfl ?_
          rw [upI_ne (by decide), upI_ne (by decide), hs]
          refine z_iconst (v := 1) (q := 161) dX5_nextToken_160 (by decide) rfl ?_
          refine z_iadd (q := 162) dX5_nextToken_161 rfl ?_
          rw [nI_1]
          refine m_putI (q := 165) dX5_nextToken_162 fp_X5_25 ⟨by decide, _, rfl, rfl⟩ ⟨rfl, rfl⟩ rfl ?_
          refine z_return dX5_nextToken_165 rfl ?_ (Nat.le_refl _) (Nat.le_refl _)
          unfold cTok
          rw [if_neg (by omega), if_neg (fun q => c2 ⟨hst, q⟩), if_neg (fun q => c3 ⟨hst, q⟩), if_pos c4]
      · skip
        refine z_aload_n (i := 0) (q := 118) dX5_nextToken_117 rfl rfl rfl ?_
        refine z_bipush (v := 48) (q := 120) dX5_nextToken_118 (by decide) rfl ?_
        refine z_bipush (v := 57) (q := 122) dX5_nextToken_120 (by decide) rfl ?_
        refine m_callV_v (As := [_, _]) (q := 125) mk_X5_passRun dX5_nextToken_122 wd_341 wd_343 wp_6 (ci := 5) rfl ⟨by decide, _, rfl⟩ (ev_X5_passRun _ _ _ _ _ _  (by rw [upI_ne (by decide), ht]) (by rw [upI_ne (by decide), hs]) ht4 (by omega)) rfl (by decide) rfl (Nat.zero_le _) (Nat.zero_le _) rfl ?_
        simp only [u13]
        have he := cPass_le (m.1 13) t 48 57 (t - s) s (by omega)
        refine z_aload_n (i := 0) (q := 126) dX5_nextToken_125 rfl rfl rfl ?_
        refine m_callV_v (As := []) (q := 129) mk_X5_readNumber dX5_nextToken_126 wd_345 wd_347 wp_7 (ci := 5) rfl ⟨by decide, _, rfl⟩ (ev_X5_readNumber _ _ _ _  (upI_eq _ _ _ _) (by rw [upI_ne (by decide), upI_eq]) (by omega) (by omega)) rfl (by decide) rfl (Nat.zero_le _) (Nat.zero_le _) rfl ?_
        refine z_goto (tgt := 165) dX5_nextToken_129 (by decide) ?_
        refine z_return dX5_nextToken_165 rfl ?_ (Nat.le_refl _) (Nat.le_refl _)
        unfold cTok
        rw [if_neg (by omega), if_neg (fun q => c2 ⟨hst, q⟩), if_pos c3.2]
    · skip
      refine z_aload_n (i := 0) (q := 91) dX5_nextToken_90 rfl rfl rfl ?_
      refine z_bipush (v := 97) (q := 93) dX5_nextToken_91 (by decide) rfl ?_
      refine z_bipush (v := 122) (q := 95) dX5_nextToken_93 (by decide) rfl ?_
      refine m_callV_v (As := [_, _]) (q := 98) mk_X5_passRun dX5_nextToken_95 wd_341 wd_343 wp_6 (ci := 5) rfl ⟨by decide, _, rfl⟩ (ev_X5_passRun _ _ _ _ _ _  (by rw [upI_ne (by decide), ht]) (by rw [upI_ne (by decide), hs]) ht4 (by omega)) rfl (by decide) rfl (Nat.zero_le _) (Nat.zero_le _) rfl ?_
      simp only [u13]
      refine z_aload_n (i := 0) (q := 99) dX5_nextToken_98 rfl rfl rfl ?_
      refine z_iconst (v := 1) (q := 100) dX5_nextToken_99 (by decide) rfl ?_
      refine m_putI (q := 103) dX5_nextToken_100 fp_X5_19 ⟨by decide, _, rfl, rfl⟩ ⟨rfl, rfl⟩ rfl ?_
      refine z_goto (tgt := 165) dX5_nextToken_103 (by decide) ?_
      refine z_return dX5_nextToken_165 rfl ?_ (Nat.le_refl _) (Nat.le_refl _)
      unfold cTok
      rw [if_neg (by omega), if_pos c2.2]
  · skip
    have hst : t ≤ s := by
      rcases Nat.lt_or_ge s t with q | q
      · exact absurd ((nI_ltI (by omega) (by omega)).mpr q) c1
      · exact q
    refine z_aload_n (i := 0) (q := 72) dX5_nextToken_71 rfl rfl rfl ?_
    refine z_iconst (v := 0) (q := 73) dX5_nextToken_72 (by decide) rfl ?_
    refine m_putI (q := 76) dX5_nextToken_73 fp_X5_19 ⟨by decide, _, rfl, rfl⟩ ⟨rfl, rfl⟩ rfl ?_
    refine z_goto (tgt := 165) dX5_nextToken_76 (by decide) ?_
    refine z_return dX5_nextToken_165 rfl ?_ (Nat.le_refl _) (Nat.le_refl _)
    unfold cTok
    rw [if_pos hst]
set_option maxHeartbeats 4000000 in
set_option maxRecDepth 100000 in
theorem lp_X5_skip (d : Nat) (m : zm) (t : Nat) (ht : m.1 12 1 = nI t) (ht4 : t ≤ 400) : ∀ (n : Nat) (b : Nat), t - b < n → b ≤ t → ZW zM_X5_nextToken (d + 2) 0 0 0 [some (.ref 12)] [] (lay (upI m 12 4 (nI b))) 0 0 (none, lay (cTok (upI m 12 4 (nI (cSkip (m.1 13) t (t - b) b))) t (cSkip (m.1 13) t (t - b) b))) := by
  intro n
  induction n with
  | zero => intro b hm; exact absurd hm (by omega)
  | succ n ih =>
    intro b hm hb
    refine z_aload_n (i := 0) (q := 1) dX5_nextToken_0 rfl rfl rfl ?_
    refine m_getI (q := 4) dX5_nextToken_1 fl_X5_25 ⟨by decide, _, rfl, rfl⟩ rfl ?_
    rw [upI_eq]
    refine z_aload_n (i := 0) (q := 5) dX5_nextToken_4 rfl rfl rfl ?_
    refine m_getI (q := 8) dX5_nextToken_5 fl_X5_15 ⟨by decide, _, rfl, rfl⟩ rfl ?_
    rw [upI_ne (by decide), ht]
    refine z_icmp_ge (tgt := 52) (q := 11) dX5_nextToken_8 (by decide) rfl (fun c1 => ?_) (fun c1 => ?_)
    · skip
      have hbt := tge (t := t) (b := b) (by omega) (by omega) c1
      have hsk : cSkip (m.1 13) t (t - b) b = b := by
        rcases Nat.eq_zero_or_pos (t - b) with q | q
        · rw [q]; rfl
        · rw [show t - b = (t - b - 1) + 1 by omega, cSkip, if_neg (fun q => hbt q.1)]
      rw [hsk]
      exact sg_X5_next d _ t b (by rw [upI_ne (by decide), ht]) (upI_eq _ _ _ _) ht4 hb
    · skip
      have hbt := tlt (t := t) (b := b) (by omega) (by omega) c1
      refine z_aload_n (i := 0) (q := 12) dX5_nextToken_11 rfl rfl rfl ?_
      refine m_getR (r := 13) (q := 15) dX5_nextToken_12 fl_X5_9 ⟨by decide, _, rfl, rfl⟩ rfl ?_
      refine z_aload_n (i := 0) (q := 16) dX5_nextToken_15 rfl rfl rfl ?_
      refine m_getI (q := 19) dX5_nextToken_16 fl_X5_25 ⟨by decide, _, rfl, rfl⟩ rfl ?_
      rw [upI_eq]
      refine m_ialdJ (N := 400) (q := 20) dX5_nextToken_19 ⟨by decide, _, rfl⟩ (j := b) (nI_clamp (by omega)) (vp_in_nI (by omega) (by decide)) rfl ?_
      rw [u13]
      refine z_bipush (v := 32) (q := 22) dX5_nextToken_20 (by decide) rfl ?_
      refine z_icmp_eq (tgt := 39) (q := 25) dX5_nextToken_22 (by decide) rfl (fun c2 => ?_) (fun c2 => ?_)
      · skip
        refine z_aload_n (i := 0) (q := 40) dX5_nextToken_39 rfl rfl rfl ?_
        refine z_dup (q := 41) dX5_nextToken_40 rfl rfl ?_
        refine m_getI (q := 44) dX5_nextToken_41 fl_X5_25 ⟨by decide, _, rfl, rfl⟩ rfl ?_
        rw [upI_eq]
        refine z_iconst (v := 1) (q := 45) dX5_nextToken_44 (by decide) rfl ?_
        refine z_iadd (q := 46) dX5_nextToken_45 rfl ?_
        rw [nI_1]
        refine m_putI (q := 49) dX5_nextToken_46 fp_X5_25 ⟨by decide, _, rfl, rfl⟩ ⟨rfl, rfl⟩ rfl ?_
        rw [upI_upI]
        refine z_goto (tgt := 0) dX5_nextToken_49 (by decide) ?_
        rw [show t - b = (t - (b + 1)) + 1 by omega, cSkip, if_pos ⟨hbt, Or.inl c2⟩]
        exact ih (b + 1) (by omega) (by omega)
      · skip
        refine z_aload_n (i := 0) (q := 26) dX5_nextToken_25 rfl rfl rfl ?_
        refine m_getR (r := 13) (q := 29) dX5_nextToken_26 fl_X5_9 ⟨by decide, _, rfl, rfl⟩ rfl ?_
        refine z_aload_n (i := 0) (q := 30) dX5_nextToken_29 rfl rfl rfl ?_
        refine m_getI (q := 33) dX5_nextToken_30 fl_X5_25 ⟨by decide, _, rfl, rfl⟩ rfl ?_
        rw [upI_eq]
        refine m_ialdJ (N := 400) (q := 34) dX5_nextToken_33 ⟨by decide, _, rfl⟩ (j := b) (nI_clamp (by omega)) (vp_in_nI (by omega) (by decide)) rfl ?_
        rw [u13]
        refine z_bipush (v := 10) (q := 36) dX5_nextToken_34 (by decide) rfl ?_
        refine z_icmp_ne (tgt := 52) (q := 39) dX5_nextToken_36 (by decide) rfl (fun c3 => ?_) (fun c3 => ?_)
        · skip
          have hsk : cSkip (m.1 13) t (t - b) b = b := by
            rcases Nat.eq_zero_or_pos (t - b) with q | q
            · rw [q]; rfl
            · rw [show t - b = (t - b - 1) + 1 by omega, cSkip, if_neg (fun q => q.2.elim c2 c3)]
          rw [hsk]
          exact sg_X5_next d _ t b (by rw [upI_ne (by decide), ht]) (upI_eq _ _ _ _) ht4 hb
        · skip
          refine z_aload_n (i := 0) (q := 40) dX5_nextToken_39 rfl rfl rfl ?_
          refine z_dup (q := 41) dX5_nextToken_40 rfl rfl ?_
          refine m_getI (q := 44) dX5_nextToken_41 fl_X5_25 ⟨by decide, _, rfl, rfl⟩ rfl ?_
          rw [upI_eq]
          refine z_iconst (v := 1) (q := 45) dX5_nextToken_44 (by decide) rfl ?_
          refine z_iadd (q := 46) dX5_nextToken_45 rfl ?_
          rw [nI_1]
          refine m_putI (q := 49) dX5_nextToken_46 fp_X5_25 ⟨by decide, _, rfl, rfl⟩ ⟨rfl, rfl⟩ rfl ?_
          rw [upI_upI]
          refine z_goto (tgt := 0) dX5_nextToken_49 (by decide) ?_
          rw [show t - b = (t - (b + 1)) + 1 by omega, cSkip, if_pos ⟨hbt, Or.inr c3⟩]
          exact ih (b + 1) (by omega) (by omega)
set_option maxHeartbeats 4000000 in
set_option maxRecDepth 100000 in
theorem ev_X5_nextToken (d : Nat) (m : zm) (t : Nat) (b : Nat) (ht : m.1 12 1 = nI t) (hb : m.1 12 4 = nI b) (ht4 : t ≤ 400) (hbt : b ≤ t) : zEv (d + 2) zM_X5_nextToken 0 0 [.ref 12] (lay m) (none, lay (cNext m t b)) := by
  refine zEv_of (by decide) (fun G => Nat.le_of_ble_eq_true rfl) ?_
  show ZW _ _ _ _ 0 [some (.ref 12)] [] _ _ _ _
  have e := lp_X5_skip d m t ht ht4 (t + 1) b (by omega) hbt
  rw [upI_self hb] at e
  exact e
def cWordB (f : Nat → Int32) (i s : Nat) : Nat → Nat → Bool
  | 0, _ => true
  | n + 1, k => decide (f (s + k) = zch i k) && cWordB f i s n (k + 1)
abbrev isWd (m : zm) (i b s : Nat) : Prop := m.1 12 2 = 1 ∧ b - s = zLen.getD i 0 ∧ cWordB (m.1 13) i s (zLen.getD i 0) 0 = true
set_option maxHeartbeats 4000000 in
set_option maxRecDepth 100000 in
theorem lp_X5_word (d : Nat) (m : zm) (i b s : Nat) (hi8 : i < 8) (hb : m.1 12 4 = nI b) (hs : m.1 12 3 = nI s) (hsb : s ≤ b) (hb4 : b ≤ 400) (hlen : b - s = zLen.getD i 0) : ∀ (n : Nat) (k : Nat), zLen.getD i 0 - k < n → k ≤ zLen.getD i 0 → ZW zM_X5_isWord (d + 4) 0 0 28 [some (.ref 12), some (.ref (1000000 + i)), some (.int (nI k))] [] (lay m) 0 0 (some (.int (if cWordB (m.1 13) i s (zLen.getD i 0 - k) k = true then 1 else 0)), lay m) := by
  intro n
  induction n with
  | zero => intro k hm; exact absurd hm (by omega)
  | succ n ih =>
    intro k hm hk
    have hl7 := zLen_le i
    refine z_iload_n (i := 2) (q := 29) dX5_isWord_28 rfl rfl rfl ?_
    refine z_aload_n (i := 1) (q := 30) dX5_isWord_29 rfl rfl rfl ?_
    refine z_callVs (i := i) (As := []) (q := 33) (by omega) mk_J0_length_8abf5 rfl dX5_isWord_30 wd_358 wd_359 wd_360 (ev_J0_length_8abf5 _ _ _  (by omega)) rfl (by simp [Value.category]) rfl (Nat.zero_le _) (Nat.zero_le _) rfl ?_
    refine z_icmp_ge (tgt := 63) (q := 36) dX5_isWord_33 (by decide) rfl (fun c1 => ?_) (fun c1 => ?_)
    · skip
      have hz := tge (t := zLen.getD i 0) (b := k) (by omega) (by omega) c1
      rw [show zLen.getD i 0 - k = 0 by omega]
      refine z_iconst (v := 1) (q := 64) dX5_isWord_63 (by decide) rfl ?_
      refine z_ireturn dX5_isWord_64 rfl rfl ?_ (Nat.le_refl _) (Nat.le_refl _)
      rfl
    · skip
      have hz := tlt (t := zLen.getD i 0) (b := k) (by omega) (by omega) c1
      rw [show zLen.getD i 0 - k = (zLen.getD i 0 - (k + 1)) + 1 by omega, cWordB]
      refine z_aload_n (i := 0) (q := 37) dX5_isWord_36 rfl rfl rfl ?_
      refine m_getR (r := 13) (q := 40) dX5_isWord_37 fl_X5_9 ⟨by decide, _, rfl, rfl⟩ rfl ?_
      refine z_aload_n (i := 0) (q := 41) dX5_isWord_40 rfl rfl rfl ?_
      refine m_getI (q := 44) dX5_isWord_41 fl_X5_22 ⟨by decide, _, rfl, rfl⟩ rfl ?_
      rw [hs]
      refine z_iload_n (i := 2) (q := 45) dX5_isWord_44 rfl rfl rfl ?_
      refine z_iadd (q := 46) dX5_isWord_45 rfl ?_
      rw [show nI s + nI k = nI (s + k) from nI_add s k]
      refine m_ialdJ (N := 400) (q := 47) dX5_isWord_46 ⟨by decide, _, rfl⟩ (j := (s + k)) (nI_clamp (by omega)) (vp_in_nI (by omega) (by decide)) rfl ?_
      refine z_aload_n (i := 1) (q := 48) dX5_isWord_47 rfl rfl rfl ?_
      refine z_iload_n (i := 2) (q := 49) dX5_isWord_48 rfl rfl rfl ?_
      refine z_callVs (i := i) (As := [_]) (q := 52) (by omega) mk_J0_charAt_5068e rfl dX5_isWord_49 wd_368 wd_369 wd_370 (ev_J0_charAt_5068e _ _ _ _  (by omega) (by omega)) rfl (by simp [Value.category]) rfl (Nat.zero_le _) (Nat.zero_le _) rfl ?_
      refine z_icmp_eq (tgt := 57) (q := 55) dX5_isWord_52 (by decide) rfl (fun c2 => ?_) (fun c2 => ?_)
      · skip
        refine z_iinc (i := 2) (ls' := [_, _, _]) (v := nI (k + 1)) (q := 60) dX5_isWord_57 rfl (nI_1 _) (by decide) rfl rfl ?_
        refine z_goto (tgt := 28) dX5_isWord_60 (by decide) ?_
        rw [decide_eq_true c2, Bool.true_and]
        exact ih (k + 1) (by omega) (by omega)
      · skip
        refine z_iconst (v := 0) (q := 56) dX5_isWord_55 (by decide) rfl ?_
        refine z_ireturn dX5_isWord_56 rfl rfl ?_ (Nat.le_refl _) (Nat.le_refl _)
        simp [c2]
set_option maxHeartbeats 4000000 in
set_option maxRecDepth 100000 in
theorem ev_X5_isWord (d : Nat) (m : zm) (i : Nat) (b : Nat) (s : Nat) (hi8 : i < 8) (hb : m.1 12 4 = nI b) (hs : m.1 12 3 = nI s) (hsb : s ≤ b) (hb4 : b ≤ 400) : zEv (d + 4) zM_X5_isWord 0 0 [.ref 12, .ref (1000000 + i)] (lay m) (some (.int (if isWd m i b s then 1 else 0)), lay (m)) := by
  refine zEv_of (by decide) (fun G => Nat.le_of_ble_eq_true rfl) ?_
  show ZW _ _ _ _ 0 [some (.ref 12), some (.ref (1000000 + i)), none] [] _ _ _ _
  have hl7 := zLen_le i
  refine z_aload_n (i := 0) (q := 1) dX5_isWord_0 rfl rfl rfl ?_
  refine m_getI (q := 4) dX5_isWord_1 fl_X5_19 ⟨by decide, _, rfl, rfl⟩ rfl ?_
  refine z_iconst (v := 1) (q := 5) dX5_isWord_4 (by decide) rfl ?_
  refine z_icmp_ne (tgt := 24) (q := 8) dX5_isWord_5 (by decide) rfl (fun c1 => ?_) (fun c1 => ?_)
  · skip
    refine z_iconst (v := 0) (q := 25) dX5_isWord_24 (by decide) rfl ?_
    refine z_ireturn dX5_isWord_25 rfl rfl ?_ (Nat.le_refl _) (Nat.le_refl _)
    rw [if_neg (fun q => c1 q.1)]
  · skip
    refine z_aload_n (i := 0) (q := 9) dX5_isWord_8 rfl rfl rfl ?_
    refine m_getI (q := 12) dX5_isWord_9 fl_X5_25 ⟨by decide, _, rfl, rfl⟩ rfl ?_
    rw [hb]
    refine z_aload_n (i := 0) (q := 13) dX5_isWord_12 rfl rfl rfl ?_
    refine m_getI (q := 16) dX5_isWord_13 fl_X5_22 ⟨by decide, _, rfl, rfl⟩ rfl ?_
    rw [hs]
    refine z_isub (q := 17) dX5_isWord_16 rfl ?_
    rw [pk_sub hsb]
    refine z_aload_n (i := 1) (q := 18) dX5_isWord_17 rfl rfl rfl ?_
    refine z_callVs (i := i) (As := []) (q := 21) (by omega) mk_J0_length_8abf5 rfl dX5_isWord_18 wd_358 wd_359 wd_360 (ev_J0_length_8abf5 _ _ _  (by omega)) rfl (by simp [Value.category]) rfl (Nat.zero_le _) (Nat.zero_le _) rfl ?_
    refine z_icmp_eq (tgt := 26) (q := 24) dX5_isWord_21 (by decide) rfl (fun c2 => ?_) (fun c2 => ?_)
    · skip
      have hlen := (nI_eq (a := b - s) (b := zLen.getD i 0) (by omega) (by omega)).mp c2
      refine z_iconst (v := 0) (q := 27) dX5_isWord_26 (by decide) rfl ?_
      refine z_istore_n (i := 2) (ls' := [_, _, _]) (q := 28) dX5_isWord_27 rfl (by decide) rfl rfl ?_
      have e := lp_X5_word d m i b s hi8 hb hs hsb hb4 hlen (zLen.getD i 0 + 1) 0 (by omega) (by omega)
      by_cases hw : cWordB (m.1 13) i s (zLen.getD i 0) 0 = true
      · rw [Nat.sub_zero, if_pos hw] at e
        rw [if_pos ⟨c1, hlen, hw⟩]
        exact e
      · rw [Nat.sub_zero, if_neg hw] at e
        rw [if_neg (fun q => hw q.2.2)]
        exact e
    · skip
      refine z_iconst (v := 0) (q := 25) dX5_isWord_24 (by decide) rfl ?_
      refine z_ireturn dX5_isWord_25 rfl rfl ?_ (Nat.le_refl _) (Nat.le_refl _)
      rw [if_neg (fun q => c2 (by rw [q.2.1]))]
