/-! ===== the model: foretold ===== -/
abbrev gB (g : Int64) (l : Int32) : Prop := (g >>> (l.toInt64 &&& 63)) &&& 1 = 1
def gCnt (g : Int64) : Nat → Nat → Int32 → Int32 → Int32 → Int32 × Int32 × Int32
  | 0, _, a, b, c => (a, b, c)
  | n + 1, l, a, b, c => if gB g (nI l) then gCnt g n (l + 1) (a + 1) (if b = -1000000 then nI l else b) (nI l) else gCnt g n (l + 1) a b c
def gGains (g : Int64) (w : Int32) : Int32 := if w = 0 then (gCnt g 41 0 0 (-1000000) (-1000000)).1 else if w = 1 then (gCnt g 41 0 0 (-1000000) (-1000000)).2.1 else (gCnt g 41 0 0 (-1000000) (-1000000)).2.2
def gSoon (m : zm) (h : Nat) (l : Int32) : Nat → Nat → Int32
  | 0, _ => -1000000
  | n + 1, y => if gB (m.2 188 (5 * y + h)) l then nI y else gSoon m h l n (y + 1)
def gWh (m : zm) (y : Nat) (g : Int32) : Nat → Nat → Int32 → Int32
  | 0, _, a => a
  | n + 1, h, a => gWh m y g n (h + 1) (a ||| (if gB (m.2 188 (5 * y + h)) g then (1 : Int32) <<< (nI h &&& 31) else (0 : Int32)))
abbrev rB (r : Int32) (f : Int32) : Prop := (r >>> (f &&& 31)) &&& 1 = 1
def vWays (m : zm) (p f : Nat) : Nat → Nat → Int32 → Int32
  | 0, _, a => a
  | n + 1, w, a => vWays m p f n (w + 1) (a ||| (if mEndOf m p w (nI f) = -1000000 then (0 : Int32) else (1 : Int32) <<< (mEndOf m p w (nI f) &&& 31)))
def vFrom (m : zm) (p W : Nat) (r : Int32) : Nat → Nat → Int32 → Int32
  | 0, _, a => a
  | n + 1, f, a => vFrom m p W r n (f + 1) (if rB r (nI f) then vWays m p f W 0 a else a)
def vVoy (m : zm) (p H W : Nat) (h : Int32) : Nat → Nat → Int32 → Int32
  | 0, _, _ => -1000000
  | n + 1, s, r => if rB r h then nI s else vVoy m p H W h n (s + 1) (vFrom m p W r H 0 r)
abbrev mLayT (m : zm) (p H W at0 : Nat) : zm := mLay (mT m) p H W at0
set_option maxHeartbeats 4000000 in
set_option maxRecDepth 100000 in
theorem ev_X8_gains_bad (d : Nat) (m : zm) (p : Int32) (h : Int32) (n : Int32) (z : Int32) (hb : (p < 0 ∨ m.1 184 3 - 1 < p) ∨ (h < 0 ∨ m.1 184 0 - 1 < h) ∨ (n < 0 ∨ 40 < n) ∨ (z < 0 ∨ 2 < z)) : zEv (d + 3) zM_X8_gains 0 0 [.ref 180, .int p, .int h, .int n, .int z] (lay m) (some (.int (-1000001)), lay (mT m)) := by
  refine zEv_of (by decide) (fun G => Nat.le_of_ble_eq_true rfl) ?_
  show ZW _ _ _ _ 0 [some (.ref 180), some (.int p), some (.int h), some (.int n), some (.int z), none, none, none, none] [] _ _ _ _
  refine z_aload_n (i := 0) (q := 1) dX8_gains_0 rfl rfl rfl ?_
  refine z_iconst (v := 0) (q := 2) dX8_gains_1 (by decide) rfl ?_
  refine m_putI (q := 5) dX8_gains_2 fp_X8_48 ⟨by decide, _, rfl, rfl⟩ ⟨rfl, rfl⟩ rfl ?_
  refine z_aload_n (i := 0) (q := 6) dX8_gains_5 rfl rfl rfl ?_
  refine z_iload_n (i := 1) (q := 7) dX8_gains_6 rfl rfl rfl ?_
  refine m_callV_r (As := [_]) (q := 10) mk_X8_isPerson dX8_gains_7 wd_935 wd_937 wp_43 (ci := 8) rfl ⟨by decide, _, rfl⟩ (ev_X8_isPerson _ _ _) rfl (by decide) rfl (Nat.zero_le _) (Nat.zero_le _) rfl ?_
  refine zb_eq (tgt := 46) (q := 13) dX8_gains_10 (by decide) rfl (fun c1 => ?_) (fun c1 => ?_)
  · skip
    refine z_ldc (q := 48) dX8_gains_46 wd_831 rfl ?_
    refine z_ireturn dX8_gains_48 rfl rfl ?_ (Nat.le_refl _) (Nat.le_refl _)
    rfl
  · skip
    refine z_aload_n (i := 0) (q := 14) dX8_gains_13 rfl rfl rfl ?_
    refine z_iload_n (i := 2) (q := 15) dX8_gains_14 rfl rfl rfl ?_
    refine m_callV_r (As := [_]) (q := 18) mk_X8_isHarbour dX8_gains_15 wd_1013 wd_1015 wp_54 (ci := 8) rfl ⟨by decide, _, rfl⟩ (ev_X8_isHarbour _ _ _) rfl (by decide) rfl (Nat.zero_le _) (Nat.zero_le _) rfl ?_
    refine zb_eq (tgt := 46) (q := 21) dX8_gains_18 (by decide) rfl (fun c2 => ?_) (fun c2 => ?_)
    · skip
      refine z_ldc (q := 48) dX8_gains_46 wd_831 rfl ?_
      refine z_ireturn dX8_gains_48 rfl rfl ?_ (Nat.le_refl _) (Nat.le_refl _)
      rfl
    · skip
      refine z_iload_n (i := 3) (q := 22) dX8_gains_21 rfl rfl rfl ?_
      refine z_i2l (q := 23) dX8_gains_22 rfl ?_
      refine z_lconst (v := 0) (q := 24) dX8_gains_23 (by decide) rfl ?_
      refine z_ldc2 (q := 27) dX8_gains_24 wd_1017 rfl ?_
      refine m_callS_r (As := [_, _, _]) (q := 30) mk_X8_in dX8_gains_27 wd_827 wd_828 (ev_X8_in _ _ _ (0) (40) (by decide) (by decide)) rfl (by decide) rfl (Nat.zero_le _) (Nat.zero_le _) rfl ?_
      refine zb_eq (tgt := 46) (q := 33) dX8_gains_30 (by decide) rfl (fun c3 => ?_) (fun c3 => ?_)
      · skip
        refine z_ldc (q := 48) dX8_gains_46 wd_831 rfl ?_
        refine z_ireturn dX8_gains_48 rfl rfl ?_ (Nat.le_refl _) (Nat.le_refl _)
        rfl
      · skip
        refine z_iload (i := 4) (q := 35) dX8_gains_33 rfl rfl ?_
        refine z_i2l (q := 36) dX8_gains_35 rfl ?_
        refine z_lconst (v := 0) (q := 37) dX8_gains_36 (by decide) rfl ?_
        refine z_ldc2 (q := 40) dX8_gains_37 wd_830 rfl ?_
        refine m_callS_r (As := [_, _, _]) (q := 43) mk_X8_in dX8_gains_40 wd_827 wd_828 (ev_X8_in _ _ _ (0) (2) (by decide) (by decide)) rfl (by decide) rfl (Nat.zero_le _) (Nat.zero_le _) rfl ?_
        refine zb_ne (tgt := 49) (q := 46) dX8_gains_43 (by decide) rfl (fun c4 => ?_) (fun c4 => ?_)
        · exact absurd hb (fun q => q.elim c1 (fun q => q.elim c2 (fun q => q.elim c3 c4)))
        · skip
          refine z_ldc (q := 48) dX8_gains_46 wd_831 rfl ?_
          refine z_ireturn dX8_gains_48 rfl rfl ?_ (Nat.le_refl _) (Nat.le_refl _)
          rfl
set_option maxHeartbeats 4000000 in
set_option maxRecDepth 100000 in
theorem sg_X8_gains (d : Nat) (m : zm) (p h n : Nat) (z : Int32) (t : Int32 × Int32 × Int32) : ZW zM_X8_gains (d + 3) 0 0 124 [some (.ref 180), some (.int (nI p)), some (.int (nI h)), some (.int (nI n)), some (.int z), some (.int t.1), some (.int t.2.1), some (.int t.2.2), none] [] (lay m) 0 0 (some (.int (if z = 0 then t.1 else if z = 1 then t.2.1 else t.2.2)), lay m) := by
  refine z_iload (i := 4) (q := 126) dX8_gains_124 rfl rfl ?_
  refine z_if_ne (tgt := 134) (q := 129) dX8_gains_126 (by decide) rfl (fun c1 => ?_) (fun c1 => ?_)
  · skip
    refine z_iload (i := 4) (q := 136) dX8_gains_134 rfl rfl ?_
    refine z_iconst (v := 1) (q := 137) dX8_gains_136 (by decide) rfl ?_
    refine z_icmp_ne (tgt := 145) (q := 140) dX8_gains_137 (by decide) rfl (fun c2 => ?_) (fun c2 => ?_)
    · skip
      refine z_iload (i := 7) (q := 147) dX8_gains_145 rfl rfl ?_
      refine z_ireturn dX8_gains_147 rfl rfl ?_ (Nat.le_refl _) (Nat.le_refl _)
      simp only [if_neg c1, if_neg c2]
    · skip
      refine z_iload (i := 6) (q := 142) dX8_gains_140 rfl rfl ?_
      refine z_goto (tgt := 147) dX8_gains_142 (by decide) ?_
      refine z_ireturn dX8_gains_147 rfl rfl ?_ (Nat.le_refl _) (Nat.le_refl _)
      simp only [if_neg c1, if_pos c2]
  · skip
    refine z_iload (i := 5) (q := 131) dX8_gains_129 rfl rfl ?_
    refine z_goto (tgt := 147) dX8_gains_131 (by decide) ?_
    refine z_ireturn dX8_gains_147 rfl rfl ?_ (Nat.le_refl _) (Nat.le_refl _)
    simp only [if_pos c1]
set_option maxHeartbeats 4000000 in
set_option maxRecDepth 100000 in
theorem lp_X8_gains (d : Nat) (m : zm) (p h n0 : Nat) (z : Int32) (hh : h < 5) (hn : n0 < 41) : ∀ (n : Nat) (l : Nat) (a b c : Int32), 41 - l < n → l ≤ 41 → ZW zM_X8_gains (d + 3) 0 0 68 [some (.ref 180), some (.int (nI p)), some (.int (nI h)), some (.int (nI n0)), some (.int z), some (.int a), some (.int b), some (.int c), some (.int (nI l))] [] (lay m) 0 0 (some (.int (let t := gCnt (m.2 188 (5 * n0 + h)) (41 - l) l a b c; if z = 0 then t.1 else if z = 1 then t.2.1 else t.2.2)), lay m) := by
  intro n
  induction n with
  | zero => intro l a b c hm; exact absurd hm (by omega)
  | succ n ih =>
    intro l a b c hm hl
    refine z_iload (i := 8) (q := 70) dX8_gains_68 rfl rfl ?_
    refine z_bipush (v := 40) (q := 72) dX8_gains_70 (by decide) rfl ?_
    refine z_icmp_gt (tgt := 124) (q := 75) dX8_gains_72 (by decide) rfl (fun c1 => ?_) (fun c1 => ?_)
    · skip
      have hge : 41 ≤ l := by
        have := (nI_ltI (a := 40) (b := l) (by omega) (by omega)).mp c1
        omega
      rw [show 41 - l = 0 by omega]
      exact z_loc (zle_s (zle_s (zle_s (zle_s (zle_s (zle_s (zle_s (zle_s (zle_n zle_0))))))))) (sg_X8_gains _ m p h n0 z (a, b, c))
    · skip
      have hlt : l < 41 := by
        rcases Nat.lt_or_ge l 41 with q | q
        · exact q
        · exact absurd ((nI_ltI (a := 40) (b := l) (by omega) (by omega)).mpr (by omega)) c1
      refine z_aload_n (i := 0) (q := 76) dX8_gains_75 rfl rfl rfl ?_
      refine m_getR (r := 188) (q := 79) dX8_gains_76 fl_X8_31 ⟨by decide, _, rfl, rfl⟩ rfl ?_
      refine z_iconst (v := 5) (q := 80) dX8_gains_79 (by decide) rfl ?_
      refine z_iload_n (i := 3) (q := 81) dX8_gains_80 rfl rfl rfl ?_
      refine z_imul (q := 82) dX8_gains_81 rfl ?_
      rw [show 5 * nI n0 = nI (5 * n0) from nI_mul 5 _]
      refine z_iload_n (i := 2) (q := 83) dX8_gains_82 rfl rfl rfl ?_
      refine z_iadd (q := 84) dX8_gains_83 rfl ?_
      rw [show nI (5 * n0) + nI h = nI ((5 * n0) + h) from nI_add _ _]
      refine m_laldJ (N := 205) (q := 85) dX8_gains_84 ⟨by decide, _, rfl⟩ (j := ((5 * n0) + h)) (nI_clamp (by omega)) (vp_in_nI (by omega) (by decide)) rfl ?_
      refine z_iload (i := 8) (q := 87) dX8_gains_85 rfl rfl ?_
      refine z_lshr (q := 88) dX8_gains_87 rfl ?_
      refine z_lconst (v := 1) (q := 89) dX8_gains_88 (by decide) rfl ?_
      refine z_land (q := 90) dX8_gains_89 rfl ?_
      refine z_lconst (v := 1) (q := 91) dX8_gains_90 (by decide) rfl ?_
      refine z_lcmp (q := 92) dX8_gains_91 rfl ?_
      refine zl_ne (tgt := 118) (q := 95) dX8_gains_92 (by decide) rfl (fun c2 => ?_) (fun c2 => ?_)
      · skip
        refine z_iinc (i := 8) (ls' := [_, _, _, _, _, _, _, _, _]) (v := nI (l + 1)) (q := 121) dX8_gains_118 rfl (nI_1 _) (by decide) rfl rfl ?_
        refine z_goto (tgt := 68) dX8_gains_121 (by decide) ?_
        rw [show 41 - l = (41 - (l + 1)) + 1 by omega, gCnt, if_neg c2]
        exact ih (l + 1) a b c (by omega) (by omega)
      · skip
        refine z_iinc (i := 5) (ls' := [_, _, _, _, _, _, _, _, _]) (v := _ + 1) (q := 98) dX8_gains_95 rfl rfl (by decide) rfl rfl ?_
        refine z_iload (i := 6) (q := 100) dX8_gains_98 rfl rfl ?_
        refine z_ldc (q := 102) dX8_gains_100 wd_872 rfl ?_
        refine z_icmp_ne (tgt := 110) (q := 105) dX8_gains_102 (by decide) rfl (fun c3 => ?_) (fun c3 => ?_)
        · skip
          refine z_iload (i := 6) (q := 112) dX8_gains_110 rfl rfl ?_
          refine z_istore (i := 6) (ls' := [_, _, _, _, _, _, _, _, _]) (q := 114) dX8_gains_112 (by decide) rfl rfl ?_
          refine z_iload (i := 8) (q := 116) dX8_gains_114 rfl rfl ?_
          refine z_istore (i := 7) (ls' := [_, _, _, _, _, _, _, _, _]) (q := 118) dX8_gains_116 (by decide) rfl rfl ?_
          refine z_iinc (i := 8) (ls' := [_, _, _, _, _, _, _, _, _]) (v := nI (l + 1)) (q := 121) dX8_gains_118 rfl (nI_1 _) (by decide) rfl rfl ?_
          refine z_goto (tgt := 68) dX8_gains_121 (by decide) ?_
          rw [show 41 - l = (41 - (l + 1)) + 1 by omega, gCnt, if_pos c2, if_neg c3]
          exact ih (l + 1) (a + 1) (b) (nI l) (by omega) (by omega)
        · skip
          refine z_iload (i := 8) (q := 107) dX8_gains_105 rfl rfl ?_
          refine z_goto (tgt := 112) dX8_gains_107 (by decide) ?_
          refine z_istore (i := 6) (ls' := [_, _, _, _, _, _, _, _, _]) (q := 114) dX8_gains_112 (by decide) rfl rfl ?_
          refine z_iload (i := 8) (q := 116) dX8_gains_114 rfl rfl ?_
          refine z_istore (i := 7) (ls' := [_, _, _, _, _, _, _, _, _]) (q := 118) dX8_gains_116 (by decide) rfl rfl ?_
          refine z_iinc (i := 8) (ls' := [_, _, _, _, _, _, _, _, _]) (v := nI (l + 1)) (q := 121) dX8_gains_118 rfl (nI_1 _) (by decide) rfl rfl ?_
          refine z_goto (tgt := 68) dX8_gains_121 (by decide) ?_
          rw [show 41 - l = (41 - (l + 1)) + 1 by omega, gCnt, if_pos c2, if_pos c3]
          exact ih (l + 1) (a + 1) (nI l) (nI l) (by omega) (by omega)
set_option maxHeartbeats 4000000 in
set_option maxRecDepth 100000 in
theorem ev_X8_gains (d : Nat) (m : zm) (H : Nat) (W : Nat) (at0 : Nat) (p : Nat) (h : Nat) (n : Nat) (z : Int32) (hn : ¬ (nI p < 0 ∨ m.1 184 3 - 1 < nI p)) (hn2 : ¬ (nI h < 0 ∨ m.1 184 0 - 1 < nI h)) (h1 : ¬ (nI n < 0 ∨ 40 < nI n)) (h2 : ¬ (z < 0 ∨ 2 < z)) (hG : lOk m H W) (hat : m.1 184 (36 + 8 * p + 1) = nI at0) (ha5 : at0 < 5) (hp : p < 4) (hh : h < 5) (hn41 : n < 41) : zEv (d + 3) zM_X8_gains 0 0 [.ref 180, .int (nI p), .int (nI h), .int (nI n), .int z] (lay m) (some (.int (gGains ((mLayT m p H W at0).2 188 (5 * n + h)) z)), lay (mLayT m p H W at0)) := by
  refine zEv_of (by decide) (fun G => Nat.le_of_ble_eq_true rfl) ?_
  show ZW _ _ _ _ 0 [some (.ref 180), some (.int (nI p)), some (.int (nI h)), some (.int (nI n)), some (.int z), none, none, none, none] [] _ _ _ _
  have hGT : lOk (mT m) H W := hG
  have hatT : (mT m).1 184 (36 + 8 * p + 1) = nI at0 := hat
  refine z_aload_n (i := 0) (q := 1) dX8_gains_0 rfl rfl rfl ?_
  refine z_iconst (v := 0) (q := 2) dX8_gains_1 (by decide) rfl ?_
  refine m_putI (q := 5) dX8_gains_2 fp_X8_48 ⟨by decide, _, rfl, rfl⟩ ⟨rfl, rfl⟩ rfl ?_
  refine z_aload_n (i := 0) (q := 6) dX8_gains_5 rfl rfl rfl ?_
  refine z_iload_n (i := 1) (q := 7) dX8_gains_6 rfl rfl rfl ?_
  refine m_callV_r (As := [_]) (q := 10) mk_X8_isPerson dX8_gains_7 wd_935 wd_937 wp_43 (ci := 8) rfl ⟨by decide, _, rfl⟩ (ev_X8_isPerson _ _ _) rfl (by decide) rfl (Nat.zero_le _) (Nat.zero_le _) rfl ?_
  refine zb_eq (tgt := 46) (q := 13) dX8_gains_10 (by decide) rfl (fun c1 => ?_) (fun c1 => ?_)
  · exact absurd hn c1
  · skip
    refine z_aload_n (i := 0) (q := 14) dX8_gains_13 rfl rfl rfl ?_
    refine z_iload_n (i := 2) (q := 15) dX8_gains_14 rfl rfl rfl ?_
    refine m_callV_r (As := [_]) (q := 18) mk_X8_isHarbour dX8_gains_15 wd_1013 wd_1015 wp_54 (ci := 8) rfl ⟨by decide, _, rfl⟩ (ev_X8_isHarbour _ _ _) rfl (by decide) rfl (Nat.zero_le _) (Nat.zero_le _) rfl ?_
    refine zb_eq (tgt := 46) (q := 21) dX8_gains_18 (by decide) rfl (fun c2 => ?_) (fun c2 => ?_)
    · exact absurd hn2 c2
    · skip
      refine z_iload_n (i := 3) (q := 22) dX8_gains_21 rfl rfl rfl ?_
      refine z_i2l (q := 23) dX8_gains_22 rfl ?_
      refine z_lconst (v := 0) (q := 24) dX8_gains_23 (by decide) rfl ?_
      refine z_ldc2 (q := 27) dX8_gains_24 wd_1017 rfl ?_
      refine m_callS_r (As := [_, _, _]) (q := 30) mk_X8_in dX8_gains_27 wd_827 wd_828 (ev_X8_in _ _ _ (0) (40) (by decide) (by decide)) rfl (by decide) rfl (Nat.zero_le _) (Nat.zero_le _) rfl ?_
      refine zb_eq (tgt := 46) (q := 33) dX8_gains_30 (by decide) rfl (fun c3 => ?_) (fun c3 => ?_)
      · exact absurd h1 c3
      · skip
        refine z_iload (i := 4) (q := 35) dX8_gains_33 rfl rfl ?_
        refine z_i2l (q := 36) dX8_gains_35 rfl ?_
        refine z_lconst (v := 0) (q := 37) dX8_gains_36 (by decide) rfl ?_
        refine z_ldc2 (q := 40) dX8_gains_37 wd_830 rfl ?_
        refine m_callS_r (As := [_, _, _]) (q := 43) mk_X8_in dX8_gains_40 wd_827 wd_828 (ev_X8_in _ _ _ (0) (2) (by decide) (by decide)) rfl (by decide) rfl (Nat.zero_le _) (Nat.zero_le _) rfl ?_
        refine zb_ne (tgt := 49) (q := 46) dX8_gains_43 (by decide) rfl (fun c4 => ?_) (fun c4 => ?_)
        · skip
          refine z_aload_n (i := 0) (q := 50) dX8_gains_49 rfl rfl rfl ?_
          refine z_iload_n (i := 1) (q := 51) dX8_gains_50 rfl rfl rfl ?_
          refine m_callV_v (As := [_]) (q := 54) mk_X8_layGains dX8_gains_51 wd_1018 wd_1020 wp_55 (ci := 8) rfl ⟨by decide, _, rfl⟩ (ev_X8_layGains _ _ _ _ _ _  hGT hatT ha5 (by omega)) rfl (by decide) rfl (Nat.zero_le _) (Nat.zero_le _) rfl ?_
          refine z_iconst (v := 0) (q := 55) dX8_gains_54 (by decide) rfl ?_
          refine z_istore (i := 5) (ls' := [_, _, _, _, _, _, _, _, _]) (q := 57) dX8_gains_55 (by decide) rfl rfl ?_
          refine z_ldc (q := 59) dX8_gains_57 wd_872 rfl ?_
          refine z_istore (i := 6) (ls' := [_, _, _, _, _, _, _, _, _]) (q := 61) dX8_gains_59 (by decide) rfl rfl ?_
          refine z_ldc (q := 63) dX8_gains_61 wd_872 rfl ?_
          refine z_istore (i := 7) (ls' := [_, _, _, _, _, _, _, _, _]) (q := 65) dX8_gains_63 (by decide) rfl rfl ?_
          refine z_iconst (v := 0) (q := 66) dX8_gains_65 (by decide) rfl ?_
          refine z_istore (i := 8) (ls' := [_, _, _, _, _, _, _, _, _]) (q := 68) dX8_gains_66 (by decide) rfl rfl ?_
          exact lp_X8_gains _ (mLayT m p H W at0) p h n z hh hn41 (41 + 1) 0 0 (-1000000) (-1000000) (by omega) (by omega)
        · exact absurd h2 c4
set_option maxHeartbeats 4000000 in
set_option maxRecDepth 100000 in
theorem ev_X8_soonest_bad (d : Nat) (m : zm) (p : Int32) (h : Int32) (n : Int32) (hb : (p < 0 ∨ m.1 184 3 - 1 < p) ∨ (h < 0 ∨ m.1 184 0 - 1 < h) ∨ (n < 0 ∨ 40 < n)) : zEv (d + 3) zM_X8_soonest 0 0 [.ref 180, .int p, .int h, .int n] (lay m) (some (.int (-1000001)), lay (mT m)) := by
  refine zEv_of (by decide) (fun G => Nat.le_of_ble_eq_true rfl) ?_
  show ZW _ _ _ _ 0 [some (.ref 180), some (.int p), some (.int h), some (.int n), none] [] _ _ _ _
  refine z_aload_n (i := 0) (q := 1) dX8_soonest_0 rfl rfl rfl ?_
  refine z_iconst (v := 0) (q := 2) dX8_soonest_1 (by decide) rfl ?_
  refine m_putI (q := 5) dX8_soonest_2 fp_X8_48 ⟨by decide, _, rfl, rfl⟩ ⟨rfl, rfl⟩ rfl ?_
  refine z_aload_n (i := 0) (q := 6) dX8_soonest_5 rfl rfl rfl ?_
  refine z_iload_n (i := 1) (q := 7) dX8_soonest_6 rfl rfl rfl ?_
  refine m_callV_r (As := [_]) (q := 10) mk_X8_isPerson dX8_soonest_7 wd_935 wd_937 wp_43 (ci := 8) rfl ⟨by decide, _, rfl⟩ (ev_X8_isPerson _ _ _) rfl (by decide) rfl (Nat.zero_le _) (Nat.zero_le _) rfl ?_
  refine zb_eq (tgt := 33) (q := 13) dX8_soonest_10 (by decide) rfl (fun c1 => ?_) (fun c1 => ?_)
  · skip
    refine z_ldc (q := 35) dX8_soonest_33 wd_831 rfl ?_
    refine z_ireturn dX8_soonest_35 rfl rfl ?_ (Nat.le_refl _) (Nat.le_refl _)
    rfl
  · skip
    refine z_aload_n (i := 0) (q := 14) dX8_soonest_13 rfl rfl rfl ?_
    refine z_iload_n (i := 2) (q := 15) dX8_soonest_14 rfl rfl rfl ?_
    refine m_callV_r (As := [_]) (q := 18) mk_X8_isHarbour dX8_soonest_15 wd_1013 wd_1015 wp_54 (ci := 8) rfl ⟨by decide, _, rfl⟩ (ev_X8_isHarbour _ _ _) rfl (by decide) rfl (Nat.zero_le _) (Nat.zero_le _) rfl ?_
    refine zb_eq (tgt := 33) (q := 21) dX8_soonest_18 (by decide) rfl (fun c2 => ?_) (fun c2 => ?_)
    · skip
      refine z_ldc (q := 35) dX8_soonest_33 wd_831 rfl ?_
      refine z_ireturn dX8_soonest_35 rfl rfl ?_ (Nat.le_refl _) (Nat.le_refl _)
      rfl
    · skip
      refine z_iload_n (i := 3) (q := 22) dX8_soonest_21 rfl rfl rfl ?_
      refine z_i2l (q := 23) dX8_soonest_22 rfl ?_
      refine z_lconst (v := 0) (q := 24) dX8_soonest_23 (by decide) rfl ?_
      refine z_ldc2 (q := 27) dX8_soonest_24 wd_1017 rfl ?_
      refine m_callS_r (As := [_, _, _]) (q := 30) mk_X8_in dX8_soonest_27 wd_827 wd_828 (ev_X8_in _ _ _ (0) (40) (by decide) (by decide)) rfl (by decide) rfl (Nat.zero_le _) (Nat.zero_le _) rfl ?_
      refine zb_ne (tgt := 36) (q := 33) dX8_soonest_30 (by decide) rfl (fun c3 => ?_) (fun c3 => ?_)
      · exact absurd hb (fun q => q.elim c1 (fun q => q.elim c2 c3))
      · skip
        refine z_ldc (q := 35) dX8_soonest_33 wd_831 rfl ?_
        refine z_ireturn dX8_soonest_35 rfl rfl ?_ (Nat.le_refl _) (Nat.le_refl _)
        rfl
set_option maxHeartbeats 4000000 in
set_option maxRecDepth 100000 in
theorem lp_X8_soon (d : Nat) (m : zm) (p h : Nat) (l : Int32) (hh : h < 5) : ∀ (n : Nat) (y : Nat), 41 - y < n → y ≤ 41 → ZW zM_X8_soonest (d + 3) 0 0 44 [some (.ref 180), some (.int (nI p)), some (.int (nI h)), some (.int l), some (.int (nI y))] [] (lay m) 0 0 (some (.int (gSoon m h l (41 - y) y)), lay m) := by
  intro n
  induction n with
  | zero => intro y hm; exact absurd hm (by omega)
  | succ n ih =>
    intro y hm hy
    refine z_iload (i := 4) (q := 46) dX8_soonest_44 rfl rfl ?_
    refine z_bipush (v := 40) (q := 48) dX8_soonest_46 (by decide) rfl ?_
    refine z_icmp_gt (tgt := 80) (q := 51) dX8_soonest_48 (by decide) rfl (fun c1 => ?_) (fun c1 => ?_)
    · skip
      have hge : 41 ≤ y := by
        have := (nI_ltI (a := 40) (b := y) (by omega) (by omega)).mp c1
        omega
      rw [show 41 - y = 0 by omega]
      refine z_ldc (q := 82) dX8_soonest_80 wd_872 rfl ?_
      refine z_ireturn dX8_soonest_82 rfl rfl ?_ (Nat.le_refl _) (Nat.le_refl _)
      rfl
    · skip
      have hlt : y < 41 := by
        rcases Nat.lt_or_ge y 41 with q | q
        · exact q
        · exact absurd ((nI_ltI (a := 40) (b := y) (by omega) (by omega)).mpr (by omega)) c1
      refine z_aload_n (i := 0) (q := 52) dX8_soonest_51 rfl rfl rfl ?_
      refine m_getR (r := 188) (q := 55) dX8_soonest_52 fl_X8_31 ⟨by decide, _, rfl, rfl⟩ rfl ?_
      refine z_iconst (v := 5) (q := 56) dX8_soonest_55 (by decide) rfl ?_
      refine z_iload (i := 4) (q := 58) dX8_soonest_56 rfl rfl ?_
      refine z_imul (q := 59) dX8_soonest_58 rfl ?_
      rw [show 5 * nI y = nI (5 * y) from nI_mul 5 _]
      refine z_iload_n (i := 2) (q := 60) dX8_soonest_59 rfl rfl rfl ?_
      refine z_iadd (q := 61) dX8_soonest_60 rfl ?_
      rw [show nI (5 * y) + nI h = nI ((5 * y) + h) from nI_add _ _]
      refine m_laldJ (N := 205) (q := 62) dX8_soonest_61 ⟨by decide, _, rfl⟩ (j := ((5 * y) + h)) (nI_clamp (by omega)) (vp_in_nI (by omega) (by decide)) rfl ?_
      refine z_iload_n (i := 3) (q := 63) dX8_soonest_62 rfl rfl rfl ?_
      refine z_lshr (q := 64) dX8_soonest_63 rfl ?_
      refine z_lconst (v := 1) (q := 65) dX8_soonest_64 (by decide) rfl ?_
      refine z_land (q := 66) dX8_soonest_65 rfl ?_
      refine z_lconst (v := 1) (q := 67) dX8_soonest_66 (by decide) rfl ?_
      refine z_lcmp (q := 68) dX8_soonest_67 rfl ?_
      refine zl_ne (tgt := 74) (q := 71) dX8_soonest_68 (by decide) rfl (fun c2 => ?_) (fun c2 => ?_)
      · skip
        refine z_iinc (i := 4) (ls' := [_, _, _, _, _]) (v := nI (y + 1)) (q := 77) dX8_soonest_74 rfl (nI_1 _) (by decide) rfl rfl ?_
        refine z_goto (tgt := 44) dX8_soonest_77 (by decide) ?_
        rw [show 41 - y = (41 - (y + 1)) + 1 by omega, gSoon, if_neg c2]
        exact ih (y + 1) (by omega) (by omega)
      · skip
        refine z_iload (i := 4) (q := 73) dX8_soonest_71 rfl rfl ?_
        refine z_ireturn dX8_soonest_73 rfl rfl ?_ (Nat.le_refl _) (Nat.le_refl _)
        rw [show 41 - y = (41 - (y + 1)) + 1 by omega, gSoon, if_pos c2]
set_option maxHeartbeats 4000000 in
set_option maxRecDepth 100000 in
theorem ev_X8_soonest (d : Nat) (m : zm) (H : Nat) (W : Nat) (at0 : Nat) (p : Nat) (h : Nat) (l : Int32) (hn : ¬ (nI p < 0 ∨ m.1 184 3 - 1 < nI p)) (hn2 : ¬ (nI h < 0 ∨ m.1 184 0 - 1 < nI h)) (h1 : ¬ (l < 0 ∨ 40 < l)) (hG : lOk m H W) (hat : m.1 184 (36 + 8 * p + 1) = nI at0) (ha5 : at0 < 5) (hp : p < 4) (hh : h < 5) : zEv (d + 3) zM_X8_soonest 0 0 [.ref 180, .int (nI p), .int (nI h), .int l] (lay m) (some (.int (gSoon (mLayT m p H W at0) h l 41 0)), lay (mLayT m p H W at0)) := by
  refine zEv_of (by decide) (fun G => Nat.le_of_ble_eq_true rfl) ?_
  show ZW _ _ _ _ 0 [some (.ref 180), some (.int (nI p)), some (.int (nI h)), some (.int l), none] [] _ _ _ _
  have hGT : lOk (mT m) H W := hG
  have hatT : (mT m).1 184 (36 + 8 * p + 1) = nI at0 := hat
  refine z_aload_n (i := 0) (q := 1) dX8_soonest_0 rfl rfl rfl ?_
  refine z_iconst (v := 0) (q := 2) dX8_soonest_1 (by decide) rfl ?_
  refine m_putI (q := 5) dX8_soonest_2 fp_X8_48 ⟨by decide, _, rfl, rfl⟩ ⟨rfl, rfl⟩ rfl ?_
  refine z_aload_n (i := 0) (q := 6) dX8_soonest_5 rfl rfl rfl ?_
  refine z_iload_n (i := 1) (q := 7) dX8_soonest_6 rfl rfl rfl ?_
  refine m_callV_r (As := [_]) (q := 10) mk_X8_isPerson dX8_soonest_7 wd_935 wd_937 wp_43 (ci := 8) rfl ⟨by decide, _, rfl⟩ (ev_X8_isPerson _ _ _) rfl (by decide) rfl (Nat.zero_le _) (Nat.zero_le _) rfl ?_
  refine zb_eq (tgt := 33) (q := 13) dX8_soonest_10 (by decide) rfl (fun c1 => ?_) (fun c1 => ?_)
  · exact absurd hn c1
  · skip
    refine z_aload_n (i := 0) (q := 14) dX8_soonest_13 rfl rfl rfl ?_
    refine z_iload_n (i := 2) (q := 15) dX8_soonest_14 rfl rfl rfl ?_
    refine m_callV_r (As := [_]) (q := 18) mk_X8_isHarbour dX8_soonest_15 wd_1013 wd_1015 wp_54 (ci := 8) rfl ⟨by decide, _, rfl⟩ (ev_X8_isHarbour _ _ _) rfl (by decide) rfl (Nat.zero_le _) (Nat.zero_le _) rfl ?_
    refine zb_eq (tgt := 33) (q := 21) dX8_soonest_18 (by decide) rfl (fun c2 => ?_) (fun c2 => ?_)
    · exact absurd hn2 c2
    · skip
      refine z_iload_n (i := 3) (q := 22) dX8_soonest_21 rfl rfl rfl ?_
      refine z_i2l (q := 23) dX8_soonest_22 rfl ?_
      refine z_lconst (v := 0) (q := 24) dX8_soonest_23 (by decide) rfl ?_
      refine z_ldc2 (q := 27) dX8_soonest_24 wd_1017 rfl ?_
      refine m_callS_r (As := [_, _, _]) (q := 30) mk_X8_in dX8_soonest_27 wd_827 wd_828 (ev_X8_in _ _ _ (0) (40) (by decide) (by decide)) rfl (by decide) rfl (Nat.zero_le _) (Nat.zero_le _) rfl ?_
      refine zb_ne (tgt := 36) (q := 33) dX8_soonest_30 (by decide) rfl (fun c3 => ?_) (fun c3 => ?_)
      · skip
        refine z_aload_n (i := 0) (q := 37) dX8_soonest_36 rfl rfl rfl ?_
        refine z_iload_n (i := 1) (q := 38) dX8_soonest_37 rfl rfl rfl ?_
        refine m_callV_v (As := [_]) (q := 41) mk_X8_layGains dX8_soonest_38 wd_1018 wd_1020 wp_55 (ci := 8) rfl ⟨by decide, _, rfl⟩ (ev_X8_layGains _ _ _ _ _ _  hGT hatT ha5 (by omega)) rfl (by decide) rfl (Nat.zero_le _) (Nat.zero_le _) rfl ?_
        refine z_iconst (v := 0) (q := 42) dX8_soonest_41 (by decide) rfl ?_
        refine z_istore (i := 4) (ls' := [_, _, _, _, _]) (q := 44) dX8_soonest_42 (by decide) rfl rfl ?_
        exact lp_X8_soon _ (mLayT m p H W at0) p h l hh (41 + 1) 0 (by omega) (by omega)
      · exact absurd h1 c3
set_option maxHeartbeats 4000000 in
set_option maxRecDepth 100000 in
theorem ev_X8_where_bad (d : Nat) (m : zm) (p : Int32) (z : Int32) (a : Int32) (hb : (p < 0 ∨ m.1 184 3 - 1 < p) ∨ (z < 0 ∨ 200 < z) ∨ (a < 0 ∨ 399 < a)) : zEv (d + 3) zM_X8_where 0 0 [.ref 180, .int p, .int z, .int a] (lay m) (some (.int (-1000001)), lay (mT m)) := by
  refine zEv_of (by decide) (fun G => Nat.le_of_ble_eq_true rfl) ?_
  show ZW _ _ _ _ 0 [some (.ref 180), some (.int p), some (.int z), some (.int a), none, none, none, none] [] _ _ _ _
  refine z_aload_n (i := 0) (q := 1) dX8_where_0 rfl rfl rfl ?_
  refine z_iconst (v := 0) (q := 2) dX8_where_1 (by decide) rfl ?_
  refine m_putI (q := 5) dX8_where_2 fp_X8_48 ⟨by decide, _, rfl, rfl⟩ ⟨rfl, rfl⟩ rfl ?_
  refine z_aload_n (i := 0) (q := 6) dX8_where_5 rfl rfl rfl ?_
  refine z_iload_n (i := 1) (q := 7) dX8_where_6 rfl rfl rfl ?_
  refine m_callV_r (As := [_]) (q := 10) mk_X8_isPerson dX8_where_7 wd_935 wd_937 wp_43 (ci := 8) rfl ⟨by decide, _, rfl⟩ (ev_X8_isPerson _ _ _) rfl (by decide) rfl (Nat.zero_le _) (Nat.zero_le _) rfl ?_
  refine zb_eq (tgt := 37) (q := 13) dX8_where_10 (by decide) rfl (fun c1 => ?_) (fun c1 => ?_)
  · skip
    refine z_ldc (q := 39) dX8_where_37 wd_831 rfl ?_
    refine z_ireturn dX8_where_39 rfl rfl ?_ (Nat.le_refl _) (Nat.le_refl _)
    rfl
  · skip
    refine z_iload_n (i := 2) (q := 14) dX8_where_13 rfl rfl rfl ?_
    refine z_i2l (q := 15) dX8_where_14 rfl ?_
    refine z_lconst (v := 0) (q := 16) dX8_where_15 (by decide) rfl ?_
    refine z_ldc2 (q := 19) dX8_where_16 wd_1038 rfl ?_
    refine m_callS_r (As := [_, _, _]) (q := 22) mk_X8_in dX8_where_19 wd_827 wd_828 (ev_X8_in _ _ _ (0) (200) (by decide) (by decide)) rfl (by decide) rfl (Nat.zero_le _) (Nat.zero_le _) rfl ?_
    refine zb_eq (tgt := 37) (q := 25) dX8_where_22 (by decide) rfl (fun c2 => ?_) (fun c2 => ?_)
    · skip
      refine z_ldc (q := 39) dX8_where_37 wd_831 rfl ?_
      refine z_ireturn dX8_where_39 rfl rfl ?_ (Nat.le_refl _) (Nat.le_refl _)
      rfl
    · skip
      refine z_iload_n (i := 3) (q := 26) dX8_where_25 rfl rfl rfl ?_
      refine z_i2l (q := 27) dX8_where_26 rfl ?_
      refine z_lconst (v := 0) (q := 28) dX8_where_27 (by decide) rfl ?_
      refine z_ldc2 (q := 31) dX8_where_28 wd_1039 rfl ?_
      refine m_callS_r (As := [_, _, _]) (q := 34) mk_X8_in dX8_where_31 wd_827 wd_828 (ev_X8_in _ _ _ (0) (399) (by decide) (by decide)) rfl (by decide) rfl (Nat.zero_le _) (Nat.zero_le _) rfl ?_
      refine zb_ne (tgt := 40) (q := 37) dX8_where_34 (by decide) rfl (fun c3 => ?_) (fun c3 => ?_)
      · exact absurd hb (fun q => q.elim c1 (fun q => q.elim c2 c3))
      · skip
        refine z_ldc (q := 39) dX8_where_37 wd_831 rfl ?_
        refine z_ireturn dX8_where_39 rfl rfl ?_ (Nat.le_refl _) (Nat.le_refl _)
        rfl
set_option maxHeartbeats 4000000 in
set_option maxRecDepth 100000 in
theorem ev_X8_where_none (d : Nat) (m : zm) (p : Nat) (z : Int32) (a : Int32) (hn : ¬ (nI p < 0 ∨ m.1 184 3 - 1 < nI p)) (h1 : ¬ (z < 0 ∨ 200 < z)) (h2 : ¬ (a < 0 ∨ 399 < a)) (hb : ((z - mOf (mT m) p 3) < 0 ∨ 40 < (z - mOf (mT m) p 3)) ∨ ((mOf (mT m) p 4 + (z - mOf (mT m) p 3) - a) < 0 ∨ 40 < (mOf (mT m) p 4 + (z - mOf (mT m) p 3) - a))) (hp : p < 4) : zEv (d + 3) zM_X8_where 0 0 [.ref 180, .int (nI p), .int z, .int a] (lay m) (some (.int (0)), lay (mT m)) := by
  refine zEv_of (by decide) (fun G => Nat.le_of_ble_eq_true rfl) ?_
  show ZW _ _ _ _ 0 [some (.ref 180), some (.int (nI p)), some (.int z), some (.int a), none, none, none, none] [] _ _ _ _
  refine z_aload_n (i := 0) (q := 1) dX8_where_0 rfl rfl rfl ?_
  refine z_iconst (v := 0) (q := 2) dX8_where_1 (by decide) rfl ?_
  refine m_putI (q := 5) dX8_where_2 fp_X8_48 ⟨by decide, _, rfl, rfl⟩ ⟨rfl, rfl⟩ rfl ?_
  refine z_aload_n (i := 0) (q := 6) dX8_where_5 rfl rfl rfl ?_
  refine z_iload_n (i := 1) (q := 7) dX8_where_6 rfl rfl rfl ?_
  refine m_callV_r (As := [_]) (q := 10) mk_X8_isPerson dX8_where_7 wd_935 wd_937 wp_43 (ci := 8) rfl ⟨by decide, _, rfl⟩ (ev_X8_isPerson _ _ _) rfl (by decide) rfl (Nat.zero_le _) (Nat.zero_le _) rfl ?_
  refine zb_eq (tgt := 37) (q := 13) dX8_where_10 (by decide) rfl (fun c1 => ?_) (fun c1 => ?_)
  · exact absurd hn c1
  · skip
    refine z_iload_n (i := 2) (q := 14) dX8_where_13 rfl rfl rfl ?_
    refine z_i2l (q := 15) dX8_where_14 rfl ?_
    refine z_lconst (v := 0) (q := 16) dX8_where_15 (by decide) rfl ?_
    refine z_ldc2 (q := 19) dX8_where_16 wd_1038 rfl ?_
    refine m_callS_r (As := [_, _, _]) (q := 22) mk_X8_in dX8_where_19 wd_827 wd_828 (ev_X8_in _ _ _ (0) (200) (by decide) (by decide)) rfl (by decide) rfl (Nat.zero_le _) (Nat.zero_le _) rfl ?_
    refine zb_eq (tgt := 37) (q := 25) dX8_where_22 (by decide) rfl (fun c2 => ?_) (fun c2 => ?_)
    · exact absurd h1 c2
    · skip
      refine z_iload_n (i := 3) (q := 26) dX8_where_25 rfl rfl rfl ?_
      refine z_i2l (q := 27) dX8_where_26 rfl ?_
      refine z_lconst (v := 0) (q := 28) dX8_where_27 (by decide) rfl ?_
      refine z_ldc2 (q := 31) dX8_where_28 wd_1039 rfl ?_
      refine m_callS_r (As := [_, _, _]) (q := 34) mk_X8_in dX8_where_31 wd_827 wd_828 (ev_X8_in _ _ _ (0) (399) (by decide) (by decide)) rfl (by decide) rfl (Nat.zero_le _) (Nat.zero_le _) rfl ?_
      refine zb_ne (tgt := 40) (q := 37) dX8_where_34 (by decide) rfl (fun c3 => ?_) (fun c3 => ?_)
      · skip
        refine z_iload_n (i := 2) (q := 41) dX8_where_40 rfl rfl rfl ?_
        refine z_aload_n (i := 0) (q := 42) dX8_where_41 rfl rfl rfl ?_
        refine z_iload_n (i := 1) (q := 43) dX8_where_42 rfl rfl rfl ?_
        refine z_iconst (v := 3) (q := 44) dX8_where_43 (by decide) rfl ?_
        refine m_callV_r (As := [_, _]) (q := 47) mk_X8_of dX8_where_44 wd_947 wd_949 wp_46 (ci := 8) rfl ⟨by decide, _, rfl⟩ (ev_X8_of _ _ p 3 (by omega) (by omega)) rfl (by simp [Value.category]) rfl (Nat.zero_le _) (Nat.zero_le _) rfl ?_
        refine z_isub (q := 48) dX8_where_47 rfl ?_
        refine z_istore (i := 4) (ls' := [_, _, _, _, _, _, _, _]) (q := 50) dX8_where_48 (by decide) rfl rfl ?_
        refine z_aload_n (i := 0) (q := 51) dX8_where_50 rfl rfl rfl ?_
        refine z_iload_n (i := 1) (q := 52) dX8_where_51 rfl rfl rfl ?_
        refine z_iconst (v := 4) (q := 53) dX8_where_52 (by decide) rfl ?_
        refine m_callV_r (As := [_, _]) (q := 56) mk_X8_of dX8_where_53 wd_947 wd_949 wp_46 (ci := 8) rfl ⟨by decide, _, rfl⟩ (ev_X8_of _ _ p 4 (by omega) (by omega)) rfl (by decide) rfl (Nat.zero_le _) (Nat.zero_le _) rfl ?_
        refine z_iload (i := 4) (q := 58) dX8_where_56 rfl rfl ?_
        refine z_iadd (q := 59) dX8_where_58 rfl ?_
        refine z_iload_n (i := 3) (q := 60) dX8_where_59 rfl rfl rfl ?_
        refine z_isub (q := 61) dX8_where_60 rfl ?_
        refine z_istore (i := 5) (ls' := [_, _, _, _, _, _, _, _]) (q := 63) dX8_where_61 (by decide) rfl rfl ?_
        refine z_iload (i := 4) (q := 65) dX8_where_63 rfl rfl ?_
        refine z_i2l (q := 66) dX8_where_65 rfl ?_
        refine z_lconst (v := 0) (q := 67) dX8_where_66 (by decide) rfl ?_
        refine z_ldc2 (q := 70) dX8_where_67 wd_1017 rfl ?_
        refine m_callS_r (As := [_, _, _]) (q := 73) mk_X8_in dX8_where_70 wd_827 wd_828 (ev_X8_in _ _ _ (0) (40) (by decide) (by decide)) rfl (by decide) rfl (Nat.zero_le _) (Nat.zero_le _) rfl ?_
        refine zb_eq (tgt := 89) (q := 76) dX8_where_73 (by decide) rfl (fun c4 => ?_) (fun c4 => ?_)
        · skip
          refine z_iconst (v := 0) (q := 90) dX8_where_89 (by decide) rfl ?_
          refine z_ireturn dX8_where_90 rfl rfl ?_ (Nat.le_refl _) (Nat.le_refl _)
          rfl
        · skip
          refine z_iload (i := 5) (q := 78) dX8_where_76 rfl rfl ?_
          refine z_i2l (q := 79) dX8_where_78 rfl ?_
          refine z_lconst (v := 0) (q := 80) dX8_where_79 (by decide) rfl ?_
          refine z_ldc2 (q := 83) dX8_where_80 wd_1017 rfl ?_
          refine m_callS_r (As := [_, _, _]) (q := 86) mk_X8_in dX8_where_83 wd_827 wd_828 (ev_X8_in _ _ _ (0) (40) (by decide) (by decide)) rfl (by decide) rfl (Nat.zero_le _) (Nat.zero_le _) rfl ?_
          refine zb_ne (tgt := 91) (q := 89) dX8_where_86 (by decide) rfl (fun c5 => ?_) (fun c5 => ?_)
          · exact absurd hb (fun q => q.elim c4 c5)
          · skip
            refine z_iconst (v := 0) (q := 90) dX8_where_89 (by decide) rfl ?_
            refine z_ireturn dX8_where_90 rfl rfl ?_ (Nat.le_refl _) (Nat.le_refl _)
            rfl
      · exact absurd h2 c3
set_option maxHeartbeats 4000000 in
set_option maxRecDepth 100000 in
theorem lp_X8_where (d : Nat) (m : zm) (p y H : Nat) (z a g : Int32) (hy : y < 41) (hH : m.1 184 0 = nI H) (hH5 : H ≤ 5) : ∀ (n : Nat) (h : Nat) (s : Int32), H - h < n → h ≤ H → ZW zM_X8_where (d + 3) 0 0 102 [some (.ref 180), some (.int (nI p)), some (.int z), some (.int a), some (.int (nI y)), some (.int g), some (.int s), some (.int (nI h))] [] (lay m) 0 0 (some (.int (gWh m y g (H - h) h s)), lay m) := by
  intro n
  induction n with
  | zero => intro h s hm; exact absurd hm (by omega)
  | succ n ih =>
    intro h s hm hh
    refine z_iload (i := 7) (q := 104) dX8_where_102 rfl rfl ?_
    refine z_aload_n (i := 0) (q := 105) dX8_where_104 rfl rfl rfl ?_
    refine m_getR (r := 184) (q := 108) dX8_where_105 fl_X8_19 ⟨by decide, _, rfl, rfl⟩ rfl ?_
    refine z_iconst (v := 0) (q := 109) dX8_where_108 (by decide) rfl ?_
    refine m_ialdJ (N := 68) (q := 110) dX8_where_109 ⟨by decide, _, rfl⟩ (j := 0) (by decide) (vp_c (by decide)) rfl ?_
    rw [hH]
    refine z_icmp_ge (tgt := 154) (q := 113) dX8_where_110 (by decide) rfl (fun c1 => ?_) (fun c1 => ?_)
    · skip
      have hge : H ≤ h := (nI_leI (a := H) (b := h) (by omega) (by omega)).mp c1
      rw [show H - h = 0 by omega]
      refine z_iload (i := 6) (q := 156) dX8_where_154 rfl rfl ?_
      refine z_ireturn dX8_where_156 rfl rfl ?_ (Nat.le_refl _) (Nat.le_refl _)
      rfl
    · skip
      have hlt : h < H := by
        rcases Nat.lt_or_ge h H with q | q
        · exact q
        · exact absurd ((nI_leI (a := H) (b := h) (by omega) (by omega)).mpr q) c1
      refine z_iload (i := 6) (q := 115) dX8_where_113 rfl rfl ?_
      refine z_aload_n (i := 0) (q := 116) dX8_where_115 rfl rfl rfl ?_
      refine m_getR (r := 188) (q := 119) dX8_where_116 fl_X8_31 ⟨by decide, _, rfl, rfl⟩ rfl ?_
      refine z_iconst (v := 5) (q := 120) dX8_where_119 (by decide) rfl ?_
      refine z_iload (i := 4) (q := 122) dX8_where_120 rfl rfl ?_
      refine z_imul (q := 123) dX8_where_122 rfl ?_
      rw [show 5 * nI y = nI (5 * y) from nI_mul 5 _]
      refine z_iload (i := 7) (q := 125) dX8_where_123 rfl rfl ?_
      refine z_iadd (q := 126) dX8_where_125 rfl ?_
      rw [show nI (5 * y) + nI h = nI ((5 * y) + h) from nI_add _ _]
      refine m_laldJ (N := 205) (q := 127) dX8_where_126 ⟨by decide, _, rfl⟩ (j := ((5 * y) + h)) (nI_clamp (by omega)) (vp_in_nI (by omega) (by decide)) rfl ?_
      refine z_iload (i := 5) (q := 129) dX8_where_127 rfl rfl ?_
      refine z_lshr (q := 130) dX8_where_129 rfl ?_
      refine z_lconst (v := 1) (q := 131) dX8_where_130 (by decide) rfl ?_
      refine z_land (q := 132) dX8_where_131 rfl ?_
      refine z_lconst (v := 1) (q := 133) dX8_where_132 (by decide) rfl ?_
      refine z_lcmp (q := 134) dX8_where_133 rfl ?_
      refine zl_ne (tgt := 144) (q := 137) dX8_where_134 (by decide) rfl (fun c2 => ?_) (fun c2 => ?_)
      · skip
        refine z_iconst (v := 0) (q := 145) dX8_where_144 (by decide) rfl ?_
        refine z_ior (q := 146) dX8_where_145 rfl ?_
        refine z_istore (i := 6) (ls' := [_, _, _, _, _, _, _, _]) (q := 148) dX8_where_146 (by decide) rfl rfl ?_
        refine z_iinc (i := 7) (ls' := [_, _, _, _, _, _, _, _]) (v := nI (h + 1)) (q := 151) dX8_where_148 rfl (nI_1 _) (by decide) rfl rfl ?_
        refine z_goto (tgt := 102) dX8_where_151 (by decide) ?_
        rw [show H - h = (H - (h + 1)) + 1 by omega, gWh, if_neg c2]
        exact ih (h + 1) _ (by omega) (by omega)
      · skip
        refine z_iconst (v := 1) (q := 138) dX8_where_137 (by decide) rfl ?_
        refine z_iload (i := 7) (q := 140) dX8_where_138 rfl rfl ?_
        refine z_ishl (q := 141) dX8_where_140 rfl ?_
        refine z_goto (tgt := 145) dX8_where_141 (by decide) ?_
        refine z_ior (q := 146) dX8_where_145 rfl ?_
        refine z_istore (i := 6) (ls' := [_, _, _, _, _, _, _, _]) (q := 148) dX8_where_146 (by decide) rfl rfl ?_
        refine z_iinc (i := 7) (ls' := [_, _, _, _, _, _, _, _]) (v := nI (h + 1)) (q := 151) dX8_where_148 rfl (nI_1 _) (by decide) rfl rfl ?_
        refine z_goto (tgt := 102) dX8_where_151 (by decide) ?_
        rw [show H - h = (H - (h + 1)) + 1 by omega, gWh, if_pos c2]
        exact ih (h + 1) _ (by omega) (by omega)
set_option maxHeartbeats 4000000 in
set_option maxRecDepth 100000 in
theorem ev_X8_where (d : Nat) (m : zm) (y : Nat) (H : Nat) (W : Nat) (at0 : Nat) (p : Nat) (z : Int32) (a : Int32) (hn : ¬ (nI p < 0 ∨ m.1 184 3 - 1 < nI p)) (h1 : ¬ (z < 0 ∨ 200 < z)) (h2 : ¬ (a < 0 ∨ 399 < a)) (h3 : (z - mOf (mT m) p 3) = nI y) (hy : y < 41) (h4 : ¬ ((mOf (mT m) p 4 + (z - mOf (mT m) p 3) - a) < 0 ∨ 40 < (mOf (mT m) p 4 + (z - mOf (mT m) p 3) - a))) (hG : lOk m H W) (hat : m.1 184 (36 + 8 * p + 1) = nI at0) (ha5 : at0 < 5) (hp : p < 4) : zEv (d + 3) zM_X8_where 0 0 [.ref 180, .int (nI p), .int z, .int a] (lay m) (some (.int (gWh (mLayT m p H W at0) y (mOf (mT m) p 4 + (z - mOf (mT m) p 3) - a) H 0 0)), lay (mLayT m p H W at0)) := by
  refine zEv_of (by decide) (fun G => Nat.le_of_ble_eq_true rfl) ?_
  show ZW _ _ _ _ 0 [some (.ref 180), some (.int (nI p)), some (.int z), some (.int a), none, none, none, none] [] _ _ _ _
  have hGT : lOk (mT m) H W := hG
  have hatT : (mT m).1 184 (36 + 8 * p + 1) = nI at0 := hat
  refine z_aload_n (i := 0) (q := 1) dX8_where_0 rfl rfl rfl ?_
  refine z_iconst (v := 0) (q := 2) dX8_where_1 (by decide) rfl ?_
  refine m_putI (q := 5) dX8_where_2 fp_X8_48 ⟨by decide, _, rfl, rfl⟩ ⟨rfl, rfl⟩ rfl ?_
  refine z_aload_n (i := 0) (q := 6) dX8_where_5 rfl rfl rfl ?_
  refine z_iload_n (i := 1) (q := 7) dX8_where_6 rfl rfl rfl ?_
  refine m_callV_r (As := [_]) (q := 10) mk_X8_isPerson dX8_where_7 wd_935 wd_937 wp_43 (ci := 8) rfl ⟨by decide, _, rfl⟩ (ev_X8_isPerson _ _ _) rfl (by decide) rfl (Nat.zero_le _) (Nat.zero_le _) rfl ?_
  refine zb_eq (tgt := 37) (q := 13) dX8_where_10 (by decide) rfl (fun c1 => ?_) (fun c1 => ?_)
  · exact absurd hn c1
  · skip
    refine z_iload_n (i := 2) (q := 14) dX8_where_13 rfl rfl rfl ?_
    refine z_i2l (q := 15) dX8_where_14 rfl ?_
    refine z_lconst (v := 0) (q := 16) dX8_where_15 (by decide) rfl ?_
    refine z_ldc2 (q := 19) dX8_where_16 wd_1038 rfl ?_
    refine m_callS_r (As := [_, _, _]) (q := 22) mk_X8_in dX8_where_19 wd_827 wd_828 (ev_X8_in _ _ _ (0) (200) (by decide) (by decide)) rfl (by decide) rfl (Nat.zero_le _) (Nat.zero_le _) rfl ?_
    refine zb_eq (tgt := 37) (q := 25) dX8_where_22 (by decide) rfl (fun c2 => ?_) (fun c2 => ?_)
    · exact absurd h1 c2
    · skip
      refine z_iload_n (i := 3) (q := 26) dX8_where_25 rfl rfl rfl ?_
      refine z_i2l (q := 27) dX8_where_26 rfl ?_
      refine z_lconst (v := 0) (q := 28) dX8_where_27 (by decide) rfl ?_
      refine z_ldc2 (q := 31) dX8_where_28 wd_1039 rfl ?_
      refine m_callS_r (As := [_, _, _]) (q := 34) mk_X8_in dX8_where_31 wd_827 wd_828 (ev_X8_in _ _ _ (0) (399) (by decide) (by decide)) rfl (by decide) rfl (Nat.zero_le _) (Nat.zero_le _) rfl ?_
      refine zb_ne (tgt := 40) (q := 37) dX8_where_34 (by decide) rfl (fun c3 => ?_) (fun c3 => ?_)
      · skip
        refine z_iload_n (i := 2) (q := 41) dX8_where_40 rfl rfl rfl ?_
        refine z_aload_n (i := 0) (q := 42) dX8_where_41 rfl rfl rfl ?_
        refine z_iload_n (i := 1) (q := 43) dX8_where_42 rfl rfl rfl ?_
        refine z_iconst (v := 3) (q := 44) dX8_where_43 (by decide) rfl ?_
        refine m_callV_r (As := [_, _]) (q := 47) mk_X8_of dX8_where_44 wd_947 wd_949 wp_46 (ci := 8) rfl ⟨by decide, _, rfl⟩ (ev_X8_of _ _ p 3 (by omega) (by omega)) rfl (by simp [Value.category]) rfl (Nat.zero_le _) (Nat.zero_le _) rfl ?_
        refine z_isub (q := 48) dX8_where_47 rfl ?_
        rw [show z - (mT m).1 184 (36 + 8 * p + 3) = nI y from h3]
        refine z_istore (i := 4) (ls' := [_, _, _, _, _, _, _, _]) (q := 50) dX8_where_48 (by decide) rfl rfl ?_
        refine z_aload_n (i := 0) (q := 51) dX8_where_50 rfl rfl rfl ?_
        refine z_iload_n (i := 1) (q := 52) dX8_where_51 rfl rfl rfl ?_
        refine z_iconst (v := 4) (q := 53) dX8_where_52 (by decide) rfl ?_
        refine m_callV_r (As := [_, _]) (q := 56) mk_X8_of dX8_where_53 wd_947 wd_949 wp_46 (ci := 8) rfl ⟨by decide, _, rfl⟩ (ev_X8_of _ _ p 4 (by omega) (by omega)) rfl (by decide) rfl (Nat.zero_le _) (Nat.zero_le _) rfl ?_
        refine z_iload (i := 4) (q := 58) dX8_where_56 rfl rfl ?_
        refine z_iadd (q := 59) dX8_where_58 rfl ?_
        refine z_iload_n (i := 3) (q := 60) dX8_where_59 rfl rfl rfl ?_
        refine z_isub (q := 61) dX8_where_60 rfl ?_
        refine z_istore (i := 5) (ls' := [_, _, _, _, _, _, _, _]) (q := 63) dX8_where_61 (by decide) rfl rfl ?_
        refine z_iload (i := 4) (q := 65) dX8_where_63 rfl rfl ?_
        refine z_i2l (q := 66) dX8_where_65 rfl ?_
        refine z_lconst (v := 0) (q := 67) dX8_where_66 (by decide) rfl ?_
        refine z_ldc2 (q := 70) dX8_where_67 wd_1017 rfl ?_
        refine m_callS_r (As := [_, _, _]) (q := 73) mk_X8_in dX8_where_70 wd_827 wd_828 (ev_X8_in _ _ _ (0) (40) (by decide) (by decide)) rfl (by decide) rfl (Nat.zero_le _) (Nat.zero_le _) rfl ?_
        refine zb_eq (tgt := 89) (q := 76) dX8_where_73 (by decide) rfl (fun c4 => ?_) (fun c4 => ?_)
        · exact absurd (show ¬ (nI y < 0 ∨ 40 < nI y) from fun q => q.elim (nI_pos (by omega)) (nI_nlt (a := 40) (b := y) (by omega) (by omega))) c4
        · skip
          refine z_iload (i := 5) (q := 78) dX8_where_76 rfl rfl ?_
          refine z_i2l (q := 79) dX8_where_78 rfl ?_
          refine z_lconst (v := 0) (q := 80) dX8_where_79 (by decide) rfl ?_
          refine z_ldc2 (q := 83) dX8_where_80 wd_1017 rfl ?_
          refine m_callS_r (As := [_, _, _]) (q := 86) mk_X8_in dX8_where_83 wd_827 wd_828 (ev_X8_in _ _ _ (0) (40) (by decide) (by decide)) rfl (by decide) rfl (Nat.zero_le _) (Nat.zero_le _) rfl ?_
          refine zb_ne (tgt := 91) (q := 89) dX8_where_86 (by decide) rfl (fun c5 => ?_) (fun c5 => ?_)
          · skip
            refine z_aload_n (i := 0) (q := 92) dX8_where_91 rfl rfl rfl ?_
            refine z_iload_n (i := 1) (q := 93) dX8_where_92 rfl rfl rfl ?_
            refine m_callV_v (As := [_]) (q := 96) mk_X8_layGains dX8_where_93 wd_1018 wd_1020 wp_55 (ci := 8) rfl ⟨by decide, _, rfl⟩ (ev_X8_layGains _ _ _ _ _ _  hGT hatT ha5 (by omega)) rfl (by decide) rfl (Nat.zero_le _) (Nat.zero_le _) rfl ?_
            refine z_iconst (v := 0) (q := 97) dX8_where_96 (by decide) rfl ?_
            refine z_istore (i := 6) (ls' := [_, _, _, _, _, _, _, _]) (q := 99) dX8_where_97 (by decide) rfl rfl ?_
            refine z_iconst (v := 0) (q := 100) dX8_where_99 (by decide) rfl ?_
            refine z_istore (i := 7) (ls' := [_, _, _, _, _, _, _, _]) (q := 102) dX8_where_100 (by decide) rfl rfl ?_
            rw [h3]
            exact lp_X8_where _ (mLayT m p H W at0) p y H z a _ hy (by rw [mLay_1]; exact hG.1) hG.2.1 (H + 1) 0 0 (by omega) (by omega)
          · exact absurd h4 (by rw [h3]; exact c5)
      · exact absurd h2 c3
set_option maxHeartbeats 4000000 in
set_option maxRecDepth 100000 in
theorem ev_X8_voyages_bad (d : Nat) (m : zm) (p : Int32) (h : Int32) (hb : (p < 0 ∨ m.1 184 3 - 1 < p) ∨ (h < 0 ∨ m.1 184 0 - 1 < h)) : zEv (d + 2) zM_X8_voyages 0 0 [.ref 180, .int p, .int h] (lay m) (some (.int (-1000001)), lay (mT m)) := by
  refine zEv_of (by decide) (fun G => Nat.le_of_ble_eq_true rfl) ?_
  show ZW _ _ _ _ 0 [some (.ref 180), some (.int p), some (.int h), none, none, none, none, none, none] [] _ _ _ _
  refine z_aload_n (i := 0) (q := 1) dX8_voyages_0 rfl rfl rfl ?_
  refine z_iconst (v := 0) (q := 2) dX8_voyages_1 (by decide) rfl ?_
  refine m_putI (q := 5) dX8_voyages_2 fp_X8_48 ⟨by decide, _, rfl, rfl⟩ ⟨rfl, rfl⟩ rfl ?_
  refine z_aload_n (i := 0) (q := 6) dX8_voyages_5 rfl rfl rfl ?_
  refine z_iload_n (i := 1) (q := 7) dX8_voyages_6 rfl rfl rfl ?_
  refine m_callV_r (As := [_]) (q := 10) mk_X8_isPerson dX8_voyages_7 wd_935 wd_937 wp_43 (ci := 8) rfl ⟨by decide, _, rfl⟩ (ev_X8_isPerson _ _ _) rfl (by decide) rfl (Nat.zero_le _) (Nat.zero_le _) rfl ?_
  refine zb_eq (tgt := 21) (q := 13) dX8_voyages_10 (by decide) rfl (fun c1 => ?_) (fun c1 => ?_)
  · skip
    refine z_ldc (q := 23) dX8_voyages_21 wd_831 rfl ?_
    refine z_ireturn dX8_voyages_23 rfl rfl ?_ (Nat.le_refl _) (Nat.le_refl _)
    rfl
  · skip
    refine z_aload_n (i := 0) (q := 14) dX8_voyages_13 rfl rfl rfl ?_
    refine z_iload_n (i := 2) (q := 15) dX8_voyages_14 rfl rfl rfl ?_
    refine m_callV_r (As := [_]) (q := 18) mk_X8_isHarbour dX8_voyages_15 wd_1013 wd_1015 wp_54 (ci := 8) rfl ⟨by decide, _, rfl⟩ (ev_X8_isHarbour _ _ _) rfl (by decide) rfl (Nat.zero_le _) (Nat.zero_le _) rfl ?_
    refine zb_ne (tgt := 24) (q := 21) dX8_voyages_18 (by decide) rfl (fun c2 => ?_) (fun c2 => ?_)
    · exact absurd hb (fun q => q.elim c1 c2)
    · skip
      refine z_ldc (q := 23) dX8_voyages_21 wd_831 rfl ?_
      refine z_ireturn dX8_voyages_23 rfl rfl ?_ (Nat.le_refl _) (Nat.le_refl _)
      rfl
set_option maxHeartbeats 4000000 in
set_option maxRecDepth 100000 in
theorem lp_X8_vw (d : Nat) (m : zm) (p s f H W : Nat) (h r : Int32) (hp : p < 4) (hW : m.1 184 2 = nI W) (hW8 : W ≤ 8) (hr : rB r (nI f)) (Y : zX) : ∀ (n : Nat) (w : Nat) (a : Int32), W - w < n → w ≤ W → ZW zM_X8_voyages (d + 2) 0 0 132 [some (.ref 180), some (.int (nI p)), some (.int h), some (.int r), some (.int (nI s)), some (.int (vWays m p f (W - w) w a)), some (.int (nI f)), none, none] [] (lay m) 0 0 Y → ZW zM_X8_voyages (d + 2) 0 0 74 [some (.ref 180), some (.int (nI p)), some (.int h), some (.int r), some (.int (nI s)), some (.int a), some (.int (nI f)), some (.int (nI w)), none] [] (lay m) 0 0 (Y) := by
  intro n
  induction n with
  | zero => intro w a hm; exact absurd hm (by omega)
  | succ n ih =>
    intro w a hm hw hY
    refine z_iload (i := 7) (q := 76) dX8_voyages_74 rfl rfl ?_
    refine z_aload_n (i := 0) (q := 77) dX8_voyages_76 rfl rfl rfl ?_
    refine m_getR (r := 184) (q := 80) dX8_voyages_77 fl_X8_19 ⟨by decide, _, rfl, rfl⟩ rfl ?_
    refine z_iconst (v := 2) (q := 81) dX8_voyages_80 (by decide) rfl ?_
    refine m_ialdJ (N := 68) (q := 82) dX8_voyages_81 ⟨by decide, _, rfl⟩ (j := 2) (by decide) (vp_c (by decide)) rfl ?_
    rw [hW]
    refine z_icmp_ge (tgt := 132) (q := 85) dX8_voyages_82 (by decide) rfl (fun c1 => ?_) (fun c1 => ?_)
    · skip
      have hge : W ≤ w := (nI_leI (a := W) (b := w) (by omega) (by omega)).mp c1
      rw [show W - w = 0 by omega] at hY
      exact z_loc (zle_s (zle_s (zle_s (zle_s (zle_s (zle_s (zle_s (zle_n (zle_n zle_0))))))))) hY
    · skip
      have hlt : w < W := by
        rcases Nat.lt_or_ge w W with q | q
        · exact q
        · exact absurd ((nI_leI (a := W) (b := w) (by omega) (by omega)).mpr q) c1
      refine z_iload_n (i := 3) (q := 86) dX8_voyages_85 rfl rfl rfl ?_
      refine z_iload (i := 6) (q := 88) dX8_voyages_86 rfl rfl ?_
      refine z_ishr (q := 89) dX8_voyages_88 rfl ?_
      refine z_iconst (v := 1) (q := 90) dX8_voyages_89 (by decide) rfl ?_
      refine z_iand (q := 91) dX8_voyages_90 rfl ?_
      refine z_iconst (v := 1) (q := 92) dX8_voyages_91 (by decide) rfl ?_
      refine z_icmp_ne (tgt := 132) (q := 95) dX8_voyages_92 (by decide) rfl (fun c2 => ?_) (fun c2 => ?_)
      · exact absurd hr c2
      · skip
        refine z_aload_n (i := 0) (q := 96) dX8_voyages_95 rfl rfl rfl ?_
        refine z_iload_n (i := 1) (q := 97) dX8_voyages_96 rfl rfl rfl ?_
        refine z_iload (i := 7) (q := 99) dX8_voyages_97 rfl rfl ?_
        refine z_iload (i := 6) (q := 101) dX8_voyages_99 rfl rfl ?_
        refine m_callV_r (As := [_, _, _]) (q := 104) mk_X8_endOf dX8_voyages_101 wd_951 wd_953 wp_47 (ci := 8) rfl ⟨by decide, _, rfl⟩ (ev_X8_endOf _ _ p w _ (by omega) (by omega)) rfl (by decide) rfl (Nat.zero_le _) (Nat.zero_le _) rfl ?_
        refine z_istore (i := 8) (ls' := [_, _, _, _, _, _, _, _, _]) (q := 106) dX8_voyages_104 (by decide) rfl rfl ?_
        refine z_iload (i := 5) (q := 108) dX8_voyages_106 rfl rfl ?_
        refine z_iload (i := 8) (q := 110) dX8_voyages_108 rfl rfl ?_
        refine z_ldc (q := 112) dX8_voyages_110 wd_872 rfl ?_
        refine z_icmp_eq (tgt := 122) (q := 115) dX8_voyages_112 (by decide) rfl (fun c3 => ?_) (fun c3 => ?_)
        · skip
          refine z_iconst (v := 0) (q := 123) dX8_voyages_122 (by decide) rfl ?_
          refine z_ior (q := 124) dX8_voyages_123 rfl ?_
          refine z_istore (i := 5) (ls' := [_, _, _, _, _, _, _, _, _]) (q := 126) dX8_voyages_124 (by decide) rfl rfl ?_
          refine z_iinc (i := 7) (ls' := [_, _, _, _, _, _, _, _, _]) (v := nI (w + 1)) (q := 129) dX8_voyages_126 rfl (nI_1 _) (by decide) rfl rfl ?_
          refine z_goto (tgt := 74) dX8_voyages_129 (by decide) ?_
          rw [show W - w = (W - (w + 1)) + 1 by omega, vWays, if_pos c3] at hY
          exact z_loc (zle_s (zle_s (zle_s (zle_s (zle_s (zle_s (zle_s (zle_s (zle_n zle_0))))))))) (ih (w + 1) _ (by omega) (by omega) hY)
        · skip
          refine z_iconst (v := 1) (q := 116) dX8_voyages_115 (by decide) rfl ?_
          refine z_iload (i := 8) (q := 118) dX8_voyages_116 rfl rfl ?_
          refine z_ishl (q := 119) dX8_voyages_118 rfl ?_
          refine z_goto (tgt := 123) dX8_voyages_119 (by decide) ?_
          refine z_ior (q := 124) dX8_voyages_123 rfl ?_
          refine z_istore (i := 5) (ls' := [_, _, _, _, _, _, _, _, _]) (q := 126) dX8_voyages_124 (by decide) rfl rfl ?_
          refine z_iinc (i := 7) (ls' := [_, _, _, _, _, _, _, _, _]) (v := nI (w + 1)) (q := 129) dX8_voyages_126 rfl (nI_1 _) (by decide) rfl rfl ?_
          refine z_goto (tgt := 74) dX8_voyages_129 (by decide) ?_
          rw [show W - w = (W - (w + 1)) + 1 by omega, vWays, if_neg c3] at hY
          exact z_loc (zle_s (zle_s (zle_s (zle_s (zle_s (zle_s (zle_s (zle_s (zle_n zle_0))))))))) (ih (w + 1) _ (by omega) (by omega) hY)
set_option maxHeartbeats 4000000 in
set_option maxRecDepth 100000 in
theorem sg_X8_vf (d : Nat) (m : zm) (p s f W : Nat) (h r a : Int32) (hp : p < 4) (hW : m.1 184 2 = nI W) (hW8 : W ≤ 8) (hr : ¬ rB r (nI f)) (Y : zX) (hY : ZW zM_X8_voyages (d + 2) 0 0 132 [some (.ref 180), some (.int (nI p)), some (.int h), some (.int r), some (.int (nI s)), some (.int a), some (.int (nI f)), none, none] [] (lay m) 0 0 Y) : ZW zM_X8_voyages (d + 2) 0 0 74 [some (.ref 180), some (.int (nI p)), some (.int h), some (.int r), some (.int (nI s)), some (.int a), some (.int (nI f)), some (.int 0), none] [] (lay m) 0 0 (Y) := by
  refine z_iload (i := 7) (q := 76) dX8_voyages_74 rfl rfl ?_
  refine z_aload_n (i := 0) (q := 77) dX8_voyages_76 rfl rfl rfl ?_
  refine m_getR (r := 184) (q := 80) dX8_voyages_77 fl_X8_19 ⟨by decide, _, rfl, rfl⟩ rfl ?_
  refine z_iconst (v := 2) (q := 81) dX8_voyages_80 (by decide) rfl ?_
  refine m_ialdJ (N := 68) (q := 82) dX8_voyages_81 ⟨by decide, _, rfl⟩ (j := 2) (by decide) (vp_c (by decide)) rfl ?_
  rw [hW]
  refine z_icmp_ge (tgt := 132) (q := 85) dX8_voyages_82 (by decide) rfl (fun c1 => ?_) (fun c1 => ?_)
  · skip
    exact z_loc (zle_s (zle_s (zle_s (zle_s (zle_s (zle_s (zle_s (zle_n (zle_n zle_0))))))))) hY
  · skip
    refine z_iload_n (i := 3) (q := 86) dX8_voyages_85 rfl rfl rfl ?_
    refine z_iload (i := 6) (q := 88) dX8_voyages_86 rfl rfl ?_
    refine z_ishr (q := 89) dX8_voyages_88 rfl ?_
    refine z_iconst (v := 1) (q := 90) dX8_voyages_89 (by decide) rfl ?_
    refine z_iand (q := 91) dX8_voyages_90 rfl ?_
    refine z_iconst (v := 1) (q := 92) dX8_voyages_91 (by decide) rfl ?_
    refine z_icmp_ne (tgt := 132) (q := 95) dX8_voyages_92 (by decide) rfl (fun c2 => ?_) (fun c2 => ?_)
    · skip
      exact z_loc (zle_s (zle_s (zle_s (zle_s (zle_s (zle_s (zle_s (zle_n (zle_n zle_0))))))))) hY
    · exact absurd c2 hr
set_option maxHeartbeats 4000000 in
set_option maxRecDepth 100000 in
theorem lp_X8_vf (d : Nat) (m : zm) (p s H W : Nat) (h r : Int32) (hp : p < 4) (hH : m.1 184 0 = nI H) (hH5 : H ≤ 5) (hW : m.1 184 2 = nI W) (hW8 : W ≤ 8) (Y : zX) : ∀ (n : Nat) (f : Nat) (a : Int32), H - f < n → f ≤ H → ZW zM_X8_voyages (d + 2) 0 0 138 [some (.ref 180), some (.int (nI p)), some (.int h), some (.int r), some (.int (nI s)), some (.int (vFrom m p W r (H - f) f a)), none, none, none] [] (lay m) 0 0 Y → ZW zM_X8_voyages (d + 2) 0 0 60 [some (.ref 180), some (.int (nI p)), some (.int h), some (.int r), some (.int (nI s)), some (.int a), some (.int (nI f)), none, none] [] (lay m) 0 0 (Y) := by
  intro n
  induction n with
  | zero => intro f a hm; exact absurd hm (by omega)
  | succ n ih =>
    intro f a hm hf hY
    refine z_iload (i := 6) (q := 62) dX8_voyages_60 rfl rfl ?_
    refine z_aload_n (i := 0) (q := 63) dX8_voyages_62 rfl rfl rfl ?_
    refine m_getR (r := 184) (q := 66) dX8_voyages_63 fl_X8_19 ⟨by decide, _, rfl, rfl⟩ rfl ?_
    refine z_iconst (v := 0) (q := 67) dX8_voyages_66 (by decide) rfl ?_
    refine m_ialdJ (N := 68) (q := 68) dX8_voyages_67 ⟨by decide, _, rfl⟩ (j := 0) (by decide) (vp_c (by decide)) rfl ?_
    rw [hH]
    refine z_icmp_ge (tgt := 138) (q := 71) dX8_voyages_68 (by decide) rfl (fun c1 => ?_) (fun c1 => ?_)
    · skip
      have hge : H ≤ f := (nI_leI (a := H) (b := f) (by omega) (by omega)).mp c1
      rw [show H - f = 0 by omega] at hY
      exact z_loc (zle_s (zle_s (zle_s (zle_s (zle_s (zle_s (zle_n (zle_n (zle_n zle_0))))))))) hY
    · skip
      have hlt : f < H := by
        rcases Nat.lt_or_ge f H with q | q
        · exact q
        · exact absurd ((nI_leI (a := H) (b := f) (by omega) (by omega)).mpr q) c1
      refine z_iconst (v := 0) (q := 72) dX8_voyages_71 (by decide) rfl ?_
      refine z_istore (i := 7) (ls' := [_, _, _, _, _, _, _, _, _]) (q := 74) dX8_voyages_72 (by decide) rfl rfl ?_
      by_cases hr : rB r (nI f)
      · refine lp_X8_vw d m p s f H W h r hp hW hW8 hr _ (W + 1) 0 a (by omega) (Nat.zero_le _) ?_
        refine z_iinc (i := 6) (ls' := [_, _, _, _, _, _, _, _, _]) (v := nI (f + 1)) (q := 135) dX8_voyages_132 rfl (nI_1 _) (by decide) rfl rfl ?_
        refine z_goto (tgt := 60) dX8_voyages_135 (by decide) ?_
        exact ih (f + 1) _ (by omega) (by omega) (by rw [show H - f = (H - (f + 1)) + 1 by omega, vFrom, if_pos hr] at hY; exact hY)
      · refine sg_X8_vf d m p s f W h r a hp hW hW8 hr _ ?_
        refine z_iinc (i := 6) (ls' := [_, _, _, _, _, _, _, _, _]) (v := nI (f + 1)) (q := 135) dX8_voyages_132 rfl (nI_1 _) (by decide) rfl rfl ?_
        refine z_goto (tgt := 60) dX8_voyages_135 (by decide) ?_
        exact ih (f + 1) _ (by omega) (by omega) (by rw [show H - f = (H - (f + 1)) + 1 by omega, vFrom, if_neg hr] at hY; exact hY)
set_option maxHeartbeats 4000000 in
set_option maxRecDepth 100000 in
theorem lp_X8_voy (d : Nat) (m : zm) (p H W : Nat) (h : Int32) (hp : p < 4) (hH : m.1 184 0 = nI H) (hH5 : H ≤ 5) (hW : m.1 184 2 = nI W) (hW8 : W ≤ 8) : ∀ (n : Nat) (s : Nat) (r : Int32), 5 - s < n → s ≤ 5 → ZW zM_X8_voyages (d + 2) 0 0 36 [some (.ref 180), some (.int (nI p)), some (.int h), some (.int r), some (.int (nI s)), none, none, none, none] [] (lay m) 0 0 (some (.int (vVoy m p H W h (5 - s) s r)), lay m) := by
  intro n
  induction n with
  | zero => intro s r hm; exact absurd hm (by omega)
  | succ n ih =>
    intro s r hm hs
    refine z_iload (i := 4) (q := 38) dX8_voyages_36 rfl rfl ?_
    refine z_iconst (v := 5) (q := 39) dX8_voyages_38 (by decide) rfl ?_
    refine z_icmp_ge (tgt := 147) (q := 42) dX8_voyages_39 (by decide) rfl (fun c1 => ?_) (fun c1 => ?_)
    · skip
      have hge : 5 ≤ s := (nI_leI (a := 5) (b := s) (by omega) (by omega)).mp c1
      rw [show 5 - s = 0 by omega]
      refine z_ldc (q := 149) dX8_voyages_147 wd_872 rfl ?_
      refine z_ireturn dX8_voyages_149 rfl rfl ?_ (Nat.le_refl _) (Nat.le_refl _)
      rfl
    · skip
      have hlt : s < 5 := by
        rcases Nat.lt_or_ge s 5 with q | q
        · exact q
        · exact absurd ((nI_leI (a := 5) (b := s) (by omega) (by omega)).mpr q) c1
      rw [show 5 - s = (5 - (s + 1)) + 1 by omega, vVoy]
      refine z_iload_n (i := 3) (q := 43) dX8_voyages_42 rfl rfl rfl ?_
      refine z_iload_n (i := 2) (q := 44) dX8_voyages_43 rfl rfl rfl ?_
      refine z_ishr (q := 45) dX8_voyages_44 rfl ?_
      refine z_iconst (v := 1) (q := 46) dX8_voyages_45 (by decide) rfl ?_
      refine z_iand (q := 47) dX8_voyages_46 rfl ?_
      refine z_iconst (v := 1) (q := 48) dX8_voyages_47 (by decide) rfl ?_
      refine z_icmp_ne (tgt := 54) (q := 51) dX8_voyages_48 (by decide) rfl (fun c2 => ?_) (fun c2 => ?_)
      · skip
        rw [if_neg c2]
        refine z_iload_n (i := 3) (q := 55) dX8_voyages_54 rfl rfl rfl ?_
        refine z_istore (i := 5) (ls' := [_, _, _, _, _, _, _, _, _]) (q := 57) dX8_voyages_55 (by decide) rfl rfl ?_
        refine z_iconst (v := 0) (q := 58) dX8_voyages_57 (by decide) rfl ?_
        refine z_istore (i := 6) (ls' := [_, _, _, _, _, _, _, _, _]) (q := 60) dX8_voyages_58 (by decide) rfl rfl ?_
        refine lp_X8_vf d m p s H W h r hp hH hH5 hW hW8 _ (H + 1) 0 r (by omega) (Nat.zero_le _) ?_
        refine z_iload (i := 5) (q := 140) dX8_voyages_138 rfl rfl ?_
        refine z_istore_n (i := 3) (ls' := [_, _, _, _, _, _, _, _, _]) (q := 141) dX8_voyages_140 rfl (by decide) rfl rfl ?_
        refine z_iinc (i := 4) (ls' := [_, _, _, _, _, _, _, _, _]) (v := nI (s + 1)) (q := 144) dX8_voyages_141 rfl (nI_1 _) (by decide) rfl rfl ?_
        refine z_goto (tgt := 36) dX8_voyages_144 (by decide) ?_
        exact z_loc (zle_s (zle_s (zle_s (zle_s (zle_s (zle_n (zle_n (zle_n (zle_n zle_0))))))))) (ih (s + 1) _ (by omega) (by omega))
      · skip
        rw [if_pos c2]
        refine z_iload (i := 4) (q := 53) dX8_voyages_51 rfl rfl ?_
        refine z_ireturn dX8_voyages_53 rfl rfl ?_ (Nat.le_refl _) (Nat.le_refl _)
        rfl
set_option maxHeartbeats 4000000 in
set_option maxRecDepth 100000 in
theorem ev_X8_voyages (d : Nat) (m : zm) (H : Nat) (W : Nat) (p : Nat) (h : Int32) (hn : ¬ (nI p < 0 ∨ m.1 184 3 - 1 < nI p)) (hn2 : ¬ (h < 0 ∨ m.1 184 0 - 1 < h)) (hH : m.1 184 0 = nI H) (hH5 : H ≤ 5) (hW : m.1 184 2 = nI W) (hW8 : W ≤ 8) (hp : p < 4) : zEv (d + 2) zM_X8_voyages 0 0 [.ref 180, .int (nI p), .int h] (lay m) (some (.int (vVoy (mT m) p H W h 5 0 (1 <<< (mOf (mT m) p 1 &&& 31)))), lay (mT m)) := by
  refine zEv_of (by decide) (fun G => Nat.le_of_ble_eq_true rfl) ?_
  show ZW _ _ _ _ 0 [some (.ref 180), some (.int (nI p)), some (.int h), none, none, none, none, none, none] [] _ _ _ _
  refine z_aload_n (i := 0) (q := 1) dX8_voyages_0 rfl rfl rfl ?_
  refine z_iconst (v := 0) (q := 2) dX8_voyages_1 (by decide) rfl ?_
  refine m_putI (q := 5) dX8_voyages_2 fp_X8_48 ⟨by decide, _, rfl, rfl⟩ ⟨rfl, rfl⟩ rfl ?_
  refine z_aload_n (i := 0) (q := 6) dX8_voyages_5 rfl rfl rfl ?_
  refine z_iload_n (i := 1) (q := 7) dX8_voyages_6 rfl rfl rfl ?_
  refine m_callV_r (As := [_]) (q := 10) mk_X8_isPerson dX8_voyages_7 wd_935 wd_937 wp_43 (ci := 8) rfl ⟨by decide, _, rfl⟩ (ev_X8_isPerson _ _ _) rfl (by decide) rfl (Nat.zero_le _) (Nat.zero_le _) rfl ?_
  refine zb_eq (tgt := 21) (q := 13) dX8_voyages_10 (by decide) rfl (fun c1 => ?_) (fun c1 => ?_)
  · exact absurd hn c1
  · skip
    refine z_aload_n (i := 0) (q := 14) dX8_voyages_13 rfl rfl rfl ?_
    refine z_iload_n (i := 2) (q := 15) dX8_voyages_14 rfl rfl rfl ?_
    refine m_callV_r (As := [_]) (q := 18) mk_X8_isHarbour dX8_voyages_15 wd_1013 wd_1015 wp_54 (ci := 8) rfl ⟨by decide, _, rfl⟩ (ev_X8_isHarbour _ _ _) rfl (by decide) rfl (Nat.zero_le _) (Nat.zero_le _) rfl ?_
    refine zb_ne (tgt := 24) (q := 21) dX8_voyages_18 (by decide) rfl (fun c2 => ?_) (fun c2 => ?_)
    · skip
      refine z_iconst (v := 1) (q := 25) dX8_voyages_24 (by decide) rfl ?_
      refine z_aload_n (i := 0) (q := 26) dX8_voyages_25 rfl rfl rfl ?_
      refine z_iload_n (i := 1) (q := 27) dX8_voyages_26 rfl rfl rfl ?_
      refine z_iconst (v := 1) (q := 28) dX8_voyages_27 (by decide) rfl ?_
      refine m_callV_r (As := [_, _]) (q := 31) mk_X8_of dX8_voyages_28 wd_947 wd_949 wp_46 (ci := 8) rfl ⟨by decide, _, rfl⟩ (ev_X8_of _ _ p 1 (by omega) (by omega)) rfl (by simp [Value.category]) rfl (Nat.zero_le _) (Nat.zero_le _) rfl ?_
      refine z_ishl (q := 32) dX8_voyages_31 rfl ?_
      refine z_istore_n (i := 3) (ls' := [_, _, _, _, _, _, _, _, _]) (q := 33) dX8_voyages_32 rfl (by decide) rfl rfl ?_
      refine z_iconst (v := 0) (q := 34) dX8_voyages_33 (by decide) rfl ?_
      refine z_istore (i := 4) (ls' := [_, _, _, _, _, _, _, _, _]) (q := 36) dX8_voyages_34 (by decide) rfl rfl ?_
      exact lp_X8_voy _ (mT m) p H W h hp hH hH5 hW hW8 (5 + 1) 0 _ (by omega) (by omega)
    · exact absurd hn2 c2
