/-! ===== the model: even ===== -/
theorem eEv_end {m : zm} {a b ca cb h n k : Nat} (hk : ¬ (k - ca ≤ 40 ∧ k - cb ≤ 40)) : eEv m a b ca cb h n k = -1000000 := by
  cases n with
  | zero => rfl
  | succ n => rw [eEv, if_neg hk]
def eMax (ca cb : Nat) : Nat := if ca ≤ cb then cb else ca
set_option maxHeartbeats 4000000 in
set_option maxRecDepth 100000 in
theorem lp_X8_ev (d : Nat) (m : zm) (a b h ca cb : Nat) (f : Int32) (ha : a < 4) (hb : b < 4) (hh : h < 5) (hca : m.1 184 (36 + 8 * a + 3) = nI ca) (hcb : m.1 184 (36 + 8 * b + 3) = nI cb) (hca2 : ca ≤ 200) (hcb2 : cb ≤ 200) : ∀ (n : Nat) (k : Nat), ca + 41 - k < n → ca ≤ k → cb ≤ k → k ≤ 241 → ZW zM_X8_even (d + 3) 0 0 114 [some (.ref 180), some (.int (nI a)), some (.int (nI b)), some (.int (nI h)), some (.int f), some (.int (nI k)), none, none, none, none, none] [] (lay m) 0 0 (some (.int (eEv m a b ca cb h (ca + 41 - k) k)), lay m) := by
  intro n
  induction n with
  | zero => intro k hm; exact absurd hm (by omega)
  | succ n ih =>
    intro k hm hka hkb hk2
    refine z_iload (i := 5) (q := 116) dX8_even_114 rfl rfl ?_
    refine z_aload_n (i := 0) (q := 117) dX8_even_116 rfl rfl rfl ?_
    refine z_iload_n (i := 1) (q := 118) dX8_even_117 rfl rfl rfl ?_
    refine z_iconst (v := 3) (q := 119) dX8_even_118 (by decide) rfl ?_
    refine m_callV_r (As := [_, _]) (q := 122) mk_X8_of dX8_even_119 wd_947 wd_949 wp_46 (ci := 8) rfl ⟨by decide, _, rfl⟩ (ev_X8_of _ _ a 3 (by omega) (by omega)) rfl (by simp [Value.category]) rfl (Nat.zero_le _) (Nat.zero_le _) rfl ?_
    rw [hca]
    refine z_isub (q := 123) dX8_even_122 rfl ?_
    rw [show nI k - nI ca = nI (k - ca) from pk_sub hka]
    refine z_bipush (v := 40) (q := 125) dX8_even_123 (by decide) rfl ?_
    refine z_icmp_gt (tgt := 272) (q := 128) dX8_even_125 (by decide) rfl (fun c1 => ?_) (fun c1 => ?_)
    · skip
      have hxa : 40 < k - ca := (nI_ltI (a := 40) (b := k - ca) (by omega) (by omega)).mp c1
      rw [eEv_end (by omega)]
      refine z_ldc (q := 274) dX8_even_272 wd_872 rfl ?_
      refine z_ireturn dX8_even_274 rfl rfl ?_ (Nat.le_refl _) (Nat.le_refl _)
      rfl
    · skip
      have hxa : k - ca ≤ 40 := by
        rcases Nat.lt_or_ge 40 (k - ca) with q | q
        · exact absurd ((nI_ltI (a := 40) (b := k - ca) (by omega) (by omega)).mpr q) c1
        · exact q
      refine z_iload (i := 5) (q := 130) dX8_even_128 rfl rfl ?_
      refine z_aload_n (i := 0) (q := 131) dX8_even_130 rfl rfl rfl ?_
      refine z_iload_n (i := 2) (q := 132) dX8_even_131 rfl rfl rfl ?_
      refine z_iconst (v := 3) (q := 133) dX8_even_132 (by decide) rfl ?_
      refine m_callV_r (As := [_, _]) (q := 136) mk_X8_of dX8_even_133 wd_947 wd_949 wp_46 (ci := 8) rfl ⟨by decide, _, rfl⟩ (ev_X8_of _ _ b 3 (by omega) (by omega)) rfl (by simp [Value.category]) rfl (Nat.zero_le _) (Nat.zero_le _) rfl ?_
      rw [hcb]
      refine z_isub (q := 137) dX8_even_136 rfl ?_
      rw [show nI k - nI cb = nI (k - cb) from pk_sub hkb]
      refine z_bipush (v := 40) (q := 139) dX8_even_137 (by decide) rfl ?_
      refine z_icmp_gt (tgt := 272) (q := 142) dX8_even_139 (by decide) rfl (fun c2 => ?_) (fun c2 => ?_)
      · skip
        have hxb : 40 < k - cb := (nI_ltI (a := 40) (b := k - cb) (by omega) (by omega)).mp c2
        rw [eEv_end (by omega)]
        refine z_ldc (q := 274) dX8_even_272 wd_872 rfl ?_
        refine z_ireturn dX8_even_274 rfl rfl ?_ (Nat.le_refl _) (Nat.le_refl _)
        rfl
      · skip
        have hxb : k - cb ≤ 40 := by
          rcases Nat.lt_or_ge 40 (k - cb) with q | q
          · exact absurd ((nI_ltI (a := 40) (b := k - cb) (by omega) (by omega)).mpr q) c2
          · exact q
        refine z_iload (i := 5) (q := 144) dX8_even_142 rfl rfl ?_
        refine z_aload_n (i := 0) (q := 145) dX8_even_144 rfl rfl rfl ?_
        refine z_iload_n (i := 1) (q := 146) dX8_even_145 rfl rfl rfl ?_
        refine z_iconst (v := 3) (q := 147) dX8_even_146 (by decide) rfl ?_
        refine m_callV_r (As := [_, _]) (q := 150) mk_X8_of dX8_even_147 wd_947 wd_949 wp_46 (ci := 8) rfl ⟨by decide, _, rfl⟩ (ev_X8_of _ _ a 3 (by omega) (by omega)) rfl (by simp [Value.category]) rfl (Nat.zero_le _) (Nat.zero_le _) rfl ?_
        rw [hca]
        refine z_isub (q := 151) dX8_even_150 rfl ?_
        rw [show nI k - nI ca = nI (k - ca) from pk_sub hka]
        refine z_istore (i := 6) (ls' := [_, _, _, _, _, _, _, _, _, _, _]) (q := 153) dX8_even_151 (by decide) rfl rfl ?_
        refine z_iload (i := 5) (q := 155) dX8_even_153 rfl rfl ?_
        refine z_aload_n (i := 0) (q := 156) dX8_even_155 rfl rfl rfl ?_
        refine z_iload_n (i := 2) (q := 157) dX8_even_156 rfl rfl rfl ?_
        refine z_iconst (v := 3) (q := 158) dX8_even_157 (by decide) rfl ?_
        refine m_callV_r (As := [_, _]) (q := 161) mk_X8_of dX8_even_158 wd_947 wd_949 wp_46 (ci := 8) rfl ⟨by decide, _, rfl⟩ (ev_X8_of _ _ b 3 (by omega) (by omega)) rfl (by simp [Value.category]) rfl (Nat.zero_le _) (Nat.zero_le _) rfl ?_
        rw [hcb]
        refine z_isub (q := 162) dX8_even_161 rfl ?_
        rw [show nI k - nI cb = nI (k - cb) from pk_sub hkb]
        refine z_istore (i := 7) (ls' := [_, _, _, _, _, _, _, _, _, _, _]) (q := 164) dX8_even_162 (by decide) rfl rfl ?_
        refine z_aload_n (i := 0) (q := 165) dX8_even_164 rfl rfl rfl ?_
        refine z_iload_n (i := 1) (q := 166) dX8_even_165 rfl rfl rfl ?_
        refine z_iconst (v := 4) (q := 167) dX8_even_166 (by decide) rfl ?_
        refine m_callV_r (As := [_, _]) (q := 170) mk_X8_of dX8_even_167 wd_947 wd_949 wp_46 (ci := 8) rfl ⟨by decide, _, rfl⟩ (ev_X8_of _ _ a 4 (by omega) (by omega)) rfl (by decide) rfl (Nat.zero_le _) (Nat.zero_le _) rfl ?_
        refine z_iload (i := 6) (q := 172) dX8_even_170 rfl rfl ?_
        refine z_iadd (q := 173) dX8_even_172 rfl ?_
        refine z_aload_n (i := 0) (q := 174) dX8_even_173 rfl rfl rfl ?_
        refine z_iload_n (i := 2) (q := 175) dX8_even_174 rfl rfl rfl ?_
        refine z_iconst (v := 4) (q := 176) dX8_even_175 (by decide) rfl ?_
        refine m_callV_r (As := [_, _]) (q := 179) mk_X8_of dX8_even_176 wd_947 wd_949 wp_46 (ci := 8) rfl ⟨by decide, _, rfl⟩ (ev_X8_of _ _ b 4 (by omega) (by omega)) rfl (by simp [Value.category]) rfl (Nat.zero_le _) (Nat.zero_le _) rfl ?_
        refine z_isub (q := 180) dX8_even_179 rfl ?_
        refine z_iload (i := 7) (q := 182) dX8_even_180 rfl rfl ?_
        refine z_isub (q := 183) dX8_even_182 rfl ?_
        refine z_istore (i := 8) (ls' := [_, _, _, _, _, _, _, _, _, _, _]) (q := 185) dX8_even_183 (by decide) rfl rfl ?_
        refine z_iconst (v := 0) (q := 186) dX8_even_185 (by decide) rfl ?_
        refine z_istore (i := 9) (ls' := [_, _, _, _, _, _, _, _, _, _, _]) (q := 188) dX8_even_186 (by decide) rfl rfl ?_
        refine lp_X8_evl d m a b h k (k - ca) (k - cb) _ _ hh (by omega) (by omega) _ (41 + 1) 0 (by omega) (by omega) ⟨fun hq => ?_, fun hq => ?_⟩
        · rw [show ca + 41 - k = (ca + 41 - (k + 1)) + 1 by omega, eEv, if_pos ⟨hxa, hxb⟩]
          exact congrArg (fun v => (some (Value.int v), lay m)) (if_pos hq)
        · rw [show ca + 41 - k = (ca + 41 - (k + 1)) + 1 by omega, eEv, if_pos ⟨hxa, hxb⟩]
          rw [if_neg (show ¬ (eAny (m.2 188 (5 * (k - ca) + h)) (m.2 189 (5 * (k - cb) + h)) (eBy m a b (k - ca) (k - cb)) 41 0 = true) from fun q => absurd (hq.symm.trans q) (by decide))]
          refine z_iinc (i := 5) (ls' := [_, _, _, _, _, _, _, _, _, _, _]) (v := nI (k + 1)) (q := 269) dX8_even_266 rfl (nI_1 _) (by decide) rfl rfl ?_
          refine z_goto (tgt := 114) dX8_even_269 (by decide) ?_
          exact ih (k + 1) (by omega) (by omega) (by omega) (by omega)
set_option maxHeartbeats 4000000 in
set_option maxRecDepth 100000 in
theorem sg_X8_ev78 (d : Nat) (m : zm) (a b h ca cb : Nat) (ha : a < 4) (hb : b < 4) (hh : h < 5) (hca : m.1 184 (36 + 8 * a + 3) = nI ca) (hcb : m.1 184 (36 + 8 * b + 3) = nI cb) (hca2 : ca ≤ 200) (hcb2 : cb ≤ 200) : ZW zM_X8_even (d + 3) 0 0 78 [some (.ref 180), some (.int (nI a)), some (.int (nI b)), some (.int (nI h)), none, none, none, none, none, none, none] [] (lay m) 0 0 (some (.int (eEv m a b ca cb h (ca + 41 - eMax ca cb) (eMax ca cb))), lay m) := by
  refine z_aload_n (i := 0) (q := 79) dX8_even_78 rfl rfl rfl ?_
  refine z_iload_n (i := 1) (q := 80) dX8_even_79 rfl rfl rfl ?_
  refine z_iconst (v := 3) (q := 81) dX8_even_80 (by decide) rfl ?_
  refine m_callV_r (As := [_, _]) (q := 84) mk_X8_of dX8_even_81 wd_947 wd_949 wp_46 (ci := 8) rfl ⟨by decide, _, rfl⟩ (ev_X8_of _ _ a 3 (by omega) (by omega)) rfl (by decide) rfl (Nat.zero_le _) (Nat.zero_le _) rfl ?_
  rw [hca]
  refine z_aload_n (i := 0) (q := 85) dX8_even_84 rfl rfl rfl ?_
  refine z_iload_n (i := 2) (q := 86) dX8_even_85 rfl rfl rfl ?_
  refine z_iconst (v := 3) (q := 87) dX8_even_86 (by decide) rfl ?_
  refine m_callV_r (As := [_, _]) (q := 90) mk_X8_of dX8_even_87 wd_947 wd_949 wp_46 (ci := 8) rfl ⟨by decide, _, rfl⟩ (ev_X8_of _ _ b 3 (by omega) (by omega)) rfl (by simp [Value.category]) rfl (Nat.zero_le _) (Nat.zero_le _) rfl ?_
  rw [hcb]
  refine z_icmp_le (tgt := 102) (q := 93) dX8_even_90 (by decide) rfl (fun c1 => ?_) (fun c1 => ?_)
  · skip
    have hle : ca ≤ cb := (nI_leI (a := ca) (b := cb) (by omega) (by omega)).mp c1
    refine z_aload_n (i := 0) (q := 103) dX8_even_102 rfl rfl rfl ?_
    refine z_iload_n (i := 2) (q := 104) dX8_even_103 rfl rfl rfl ?_
    refine z_iconst (v := 3) (q := 105) dX8_even_104 (by decide) rfl ?_
    refine m_callV_r (As := [_, _]) (q := 108) mk_X8_of dX8_even_105 wd_947 wd_949 wp_46 (ci := 8) rfl ⟨by decide, _, rfl⟩ (ev_X8_of _ _ b 3 (by omega) (by omega)) rfl (by decide) rfl (Nat.zero_le _) (Nat.zero_le _) rfl ?_
    rw [hcb]
    refine z_istore (i := 4) (ls' := [_, _, _, _, _, _, _, _, _, _, _]) (q := 110) dX8_even_108 (by decide) rfl rfl ?_
    refine z_iload (i := 4) (q := 112) dX8_even_110 rfl rfl ?_
    refine z_istore (i := 5) (ls' := [_, _, _, _, _, _, _, _, _, _, _]) (q := 114) dX8_even_112 (by decide) rfl rfl ?_
    rw [show eMax ca cb = cb from if_pos hle]
    exact lp_X8_ev d m a b h ca cb _ ha hb hh hca hcb hca2 hcb2 (ca + 41 - cb + 1) cb (by omega) (by omega) (by omega) (by omega)
  · skip
    have hle : ¬ ca ≤ cb := fun q => c1 ((nI_leI (a := ca) (b := cb) (by omega) (by omega)).mpr q)
    refine z_aload_n (i := 0) (q := 94) dX8_even_93 rfl rfl rfl ?_
    refine z_iload_n (i := 1) (q := 95) dX8_even_94 rfl rfl rfl ?_
    refine z_iconst (v := 3) (q := 96) dX8_even_95 (by decide) rfl ?_
    refine m_callV_r (As := [_, _]) (q := 99) mk_X8_of dX8_even_96 wd_947 wd_949 wp_46 (ci := 8) rfl ⟨by decide, _, rfl⟩ (ev_X8_of _ _ a 3 (by omega) (by omega)) rfl (by decide) rfl (Nat.zero_le _) (Nat.zero_le _) rfl ?_
    rw [hca]
    refine z_goto (tgt := 108) dX8_even_99 (by decide) ?_
    refine z_istore (i := 4) (ls' := [_, _, _, _, _, _, _, _, _, _, _]) (q := 110) dX8_even_108 (by decide) rfl rfl ?_
    refine z_iload (i := 4) (q := 112) dX8_even_110 rfl rfl ?_
    refine z_istore (i := 5) (ls' := [_, _, _, _, _, _, _, _, _, _, _]) (q := 114) dX8_even_112 (by decide) rfl rfl ?_
    rw [show eMax ca cb = ca from if_neg hle]
    exact lp_X8_ev d m a b h ca cb _ ha hb hh hca hcb hca2 hcb2 (ca + 41 - ca + 1) ca (by omega) (by omega) (by omega) (by omega)
set_option maxHeartbeats 4000000 in
set_option maxRecDepth 100000 in
theorem ev_X8_even_bad (d : Nat) (m : zm) (a : Int32) (b : Int32) (h : Int32) (hb : (a < 0 ∨ m.1 184 3 - 1 < a) ∨ (b < 0 ∨ m.1 184 3 - 1 < b) ∨ a = b ∨ (h < 0 ∨ m.1 184 0 - 1 < h)) : zEv (d + 3) zM_X8_even 0 0 [.ref 180, .int a, .int b, .int h] (lay m) (some (.int (-1000001)), lay (mT m)) := by
  refine zEv_of (by decide) (fun G => Nat.le_of_ble_eq_true rfl) ?_
  show ZW _ _ _ _ 0 [some (.ref 180), some (.int a), some (.int b), some (.int h), none, none, none, none, none, none, none] [] _ _ _ _
  refine z_aload_n (i := 0) (q := 1) dX8_even_0 rfl rfl rfl ?_
  refine z_iconst (v := 0) (q := 2) dX8_even_1 (by decide) rfl ?_
  refine m_putI (q := 5) dX8_even_2 fp_X8_48 ⟨by decide, _, rfl, rfl⟩ ⟨rfl, rfl⟩ rfl ?_
  refine z_aload_n (i := 0) (q := 6) dX8_even_5 rfl rfl rfl ?_
  refine z_iload_n (i := 1) (q := 7) dX8_even_6 rfl rfl rfl ?_
  refine m_callV_r (As := [_]) (q := 10) mk_X8_isPerson dX8_even_7 wd_935 wd_937 wp_43 (ci := 8) rfl ⟨by decide, _, rfl⟩ (ev_X8_isPerson _ _ _) rfl (by decide) rfl (Nat.zero_le _) (Nat.zero_le _) rfl ?_
  refine zb_eq (tgt := 34) (q := 13) dX8_even_10 (by decide) rfl (fun c1 => ?_) (fun c1 => ?_)
  · skip
    refine z_ldc (q := 36) dX8_even_34 wd_831 rfl ?_
    refine z_ireturn dX8_even_36 rfl rfl ?_ (Nat.le_refl _) (Nat.le_refl _)
    rfl
  · skip
    refine z_aload_n (i := 0) (q := 14) dX8_even_13 rfl rfl rfl ?_
    refine z_iload_n (i := 2) (q := 15) dX8_even_14 rfl rfl rfl ?_
    refine m_callV_r (As := [_]) (q := 18) mk_X8_isPerson dX8_even_15 wd_935 wd_937 wp_43 (ci := 8) rfl ⟨by decide, _, rfl⟩ (ev_X8_isPerson _ _ _) rfl (by decide) rfl (Nat.zero_le _) (Nat.zero_le _) rfl ?_
    refine zb_eq (tgt := 34) (q := 21) dX8_even_18 (by decide) rfl (fun c2 => ?_) (fun c2 => ?_)
    · skip
      refine z_ldc (q := 36) dX8_even_34 wd_831 rfl ?_
      refine z_ireturn dX8_even_36 rfl rfl ?_ (Nat.le_refl _) (Nat.le_refl _)
      rfl
    · skip
      refine z_iload_n (i := 1) (q := 22) dX8_even_21 rfl rfl rfl ?_
      refine z_iload_n (i := 2) (q := 23) dX8_even_22 rfl rfl rfl ?_
      refine z_icmp_eq (tgt := 34) (q := 26) dX8_even_23 (by decide) rfl (fun c3 => ?_) (fun c3 => ?_)
      · skip
        refine z_ldc (q := 36) dX8_even_34 wd_831 rfl ?_
        refine z_ireturn dX8_even_36 rfl rfl ?_ (Nat.le_refl _) (Nat.le_refl _)
        rfl
      · skip
        refine z_aload_n (i := 0) (q := 27) dX8_even_26 rfl rfl rfl ?_
        refine z_iload_n (i := 3) (q := 28) dX8_even_27 rfl rfl rfl ?_
        refine m_callV_r (As := [_]) (q := 31) mk_X8_isHarbour dX8_even_28 wd_1013 wd_1015 wp_54 (ci := 8) rfl ⟨by decide, _, rfl⟩ (ev_X8_isHarbour _ _ _) rfl (by decide) rfl (Nat.zero_le _) (Nat.zero_le _) rfl ?_
        refine zb_ne (tgt := 37) (q := 34) dX8_even_31 (by decide) rfl (fun c4 => ?_) (fun c4 => ?_)
        · exact absurd hb (fun q => q.elim c1 (fun q => q.elim c2 (fun q => q.elim c3 c4)))
        · skip
          refine z_ldc (q := 36) dX8_even_34 wd_831 rfl ?_
          refine z_ireturn dX8_even_36 rfl rfl ?_ (Nat.le_refl _) (Nat.le_refl _)
          rfl
set_option maxHeartbeats 4000000 in
set_option maxRecDepth 100000 in
theorem ev_X8_even (d : Nat) (m : zm) (H : Nat) (W : Nat) (xa : Nat) (xb : Nat) (ca : Nat) (cb : Nat) (a : Nat) (b : Nat) (h : Nat) (hn : ¬ (nI a < 0 ∨ m.1 184 3 - 1 < nI a)) (hn2 : ¬ (nI b < 0 ∨ m.1 184 3 - 1 < nI b)) (hab : ¬ nI a = nI b) (hn3 : ¬ (nI h < 0 ∨ m.1 184 0 - 1 < nI h)) (hG : lOk m H W) (hxa : m.1 184 (36 + 8 * a + 1) = nI xa) (hxa5 : xa < 5) (hxb : m.1 184 (36 + 8 * b + 1) = nI xb) (hxb5 : xb < 5) (hca : m.1 184 (36 + 8 * a + 3) = nI ca) (hcb : m.1 184 (36 + 8 * b + 3) = nI cb) (hca2 : ca ≤ 200) (hcb2 : cb ≤ 200) (ha : a < 4) (hb : b < 4) (hh : h < 5) : zEv (d + 3) zM_X8_even 0 0 [.ref 180, .int (nI a), .int (nI b), .int (nI h)] (lay m) (some (.int (eEv (mEvM (mT m) a b H W xa xb) a b ca cb h (ca + 41 - eMax ca cb) (eMax ca cb))), lay (mEvM (mT m) a b H W xa xb)) := by
  refine zEv_of (by decide) (fun G => Nat.le_of_ble_eq_true rfl) ?_
  show ZW _ _ _ _ 0 [some (.ref 180), some (.int (nI a)), some (.int (nI b)), some (.int (nI h)), none, none, none, none, none, none, none] [] _ _ _ _
  have h1 : lOk (mT m) H W := hG
  have h2 : (mT m).1 184 (36 + 8 * b + 1) = nI xb := hxb
  have h3 : (mLay (mT m) b H W xb).1 = (mT m).1 := mLay_1 _ _ _ _ _
  have h4 : lOk (mOth (mLay (mT m) b H W xb) 205) H W := lOk_c (show (mOth (mLay (mT m) b H W xb) 205).1 = (mT m).1 from h3) h1
  have h5 : (mOth (mLay (mT m) b H W xb) 205).1 184 (36 + 8 * a + 1) = nI xa := by
    show (mLay (mT m) b H W xb).1 184 (36 + 8 * a + 1) = nI xa
    rw [h3]
    exact hxa
  refine z_aload_n (i := 0) (q := 1) dX8_even_0 rfl rfl rfl ?_
  refine z_iconst (v := 0) (q := 2) dX8_even_1 (by decide) rfl ?_
  refine m_putI (q := 5) dX8_even_2 fp_X8_48 ⟨by decide, _, rfl, rfl⟩ ⟨rfl, rfl⟩ rfl ?_
  refine z_aload_n (i := 0) (q := 6) dX8_even_5 rfl rfl rfl ?_
  refine z_iload_n (i := 1) (q := 7) dX8_even_6 rfl rfl rfl ?_
  refine m_callV_r (As := [_]) (q := 10) mk_X8_isPerson dX8_even_7 wd_935 wd_937 wp_43 (ci := 8) rfl ⟨by decide, _, rfl⟩ (ev_X8_isPerson _ _ _) rfl (by decide) rfl (Nat.zero_le _) (Nat.zero_le _) rfl ?_
  refine zb_eq (tgt := 34) (q := 13) dX8_even_10 (by decide) rfl (fun c1 => ?_) (fun c1 => ?_)
  · exact absurd hn c1
  · skip
    refine z_aload_n (i := 0) (q := 14) dX8_even_13 rfl rfl rfl ?_
    refine z_iload_n (i := 2) (q := 15) dX8_even_14 rfl rfl rfl ?_
    refine m_callV_r (As := [_]) (q := 18) mk_X8_isPerson dX8_even_15 wd_935 wd_937 wp_43 (ci := 8) rfl ⟨by decide, _, rfl⟩ (ev_X8_isPerson _ _ _) rfl (by decide) rfl (Nat.zero_le _) (Nat.zero_le _) rfl ?_
    refine zb_eq (tgt := 34) (q := 21) dX8_even_18 (by decide) rfl (fun c2 => ?_) (fun c2 => ?_)
    · exact absurd hn2 c2
    · skip
      refine z_iload_n (i := 1) (q := 22) dX8_even_21 rfl rfl rfl ?_
      refine z_iload_n (i := 2) (q := 23) dX8_even_22 rfl rfl rfl ?_
      refine z_icmp_eq (tgt := 34) (q := 26) dX8_even_23 (by decide) rfl (fun c3 => ?_) (fun c3 => ?_)
      · exact absurd c3 hab
      · skip
        refine z_aload_n (i := 0) (q := 27) dX8_even_26 rfl rfl rfl ?_
        refine z_iload_n (i := 3) (q := 28) dX8_even_27 rfl rfl rfl ?_
        refine m_callV_r (As := [_]) (q := 31) mk_X8_isHarbour dX8_even_28 wd_1013 wd_1015 wp_54 (ci := 8) rfl ⟨by decide, _, rfl⟩ (ev_X8_isHarbour _ _ _) rfl (by decide) rfl (Nat.zero_le _) (Nat.zero_le _) rfl ?_
        refine zb_ne (tgt := 37) (q := 34) dX8_even_31 (by decide) rfl (fun c4 => ?_) (fun c4 => ?_)
        · skip
          refine z_aload_n (i := 0) (q := 38) dX8_even_37 rfl rfl rfl ?_
          refine z_iload_n (i := 2) (q := 39) dX8_even_38 rfl rfl rfl ?_
          refine m_callV_v (As := [_]) (q := 42) mk_X8_layGains dX8_even_39 wd_1018 wd_1020 wp_55 (ci := 8) rfl ⟨by decide, _, rfl⟩ (ev_X8_layGains _ _ _ _ _ _  h1 h2 hxb5 (by omega)) rfl (by decide) rfl (Nat.zero_le _) (Nat.zero_le _) rfl ?_
          refine z_iconst (v := 0) (q := 43) dX8_even_42 (by decide) rfl ?_
          refine z_istore (i := 4) (ls' := [_, _, _, _, _, _, _, _, _, _, _]) (q := 45) dX8_even_43 (by decide) rfl rfl ?_
          rw [← mOth_0 (mLay (mT m) b H W xb)]
          refine lp_X8_oth d (mLay (mT m) b H W xb) a b h _ (205 + 1) 0 (by omega) (by omega) ?_
          refine z_aload_n (i := 0) (q := 74) dX8_even_73 rfl rfl rfl ?_
          refine z_iload_n (i := 1) (q := 75) dX8_even_74 rfl rfl rfl ?_
          refine m_callV_v (As := [_]) (q := 78) mk_X8_layGains dX8_even_75 wd_1018 wd_1020 wp_55 (ci := 8) rfl ⟨by decide, _, rfl⟩ (ev_X8_layGains _ _ _ _ _ _  h4 h5 hxa5 (by omega)) rfl (by decide) rfl (Nat.zero_le _) (Nat.zero_le _) rfl ?_
          have hM : ∀ k, (mEvM (mT m) a b H W xa xb).1 184 k = m.1 184 k := fun k => by unfold mEvM; rw [mLay_1]; show (mLay (mT m) b H W xb).1 184 k = _; rw [mLay_1]; rfl
          exact sg_X8_ev78 d (mEvM (mT m) a b H W xa xb) a b h ca cb ha hb hh (by rw [hM, hca]) (by rw [hM, hcb]) hca2 hcb2
        · exact absurd hn3 c4
