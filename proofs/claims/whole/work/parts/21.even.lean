/-! ===== the class: even, where, eldest, rows there, counts, images ===== -/
theorem imaxN {a b : Nat} (ha : a < 2 ^ 31) (hb : b < 2 ^ 31) : (if nI a < nI b then nI b else nI a) = nI (max a b) := by
  by_cases h : a < b
  · rw [if_pos ((nI_ltI ha hb).mpr h), Nat.max_eq_right (by omega)]
  · rw [if_neg (fun q => h ((nI_ltI ha hb).mp q)), Nat.max_eq_left (by omega)]
theorem iminN {a b : Nat} (ha : a < 2 ^ 31) (hb : b < 2 ^ 31) : (if nI b < nI a then nI b else nI a) = nI (min a b) := by
  by_cases h : b < a
  · rw [if_pos ((nI_ltI hb ha).mpr h), Nat.min_eq_right (by omega)]
  · rw [if_neg (fun q => h ((nI_ltI hb ha).mp q)), Nat.min_eq_left (by omega)]
/-- two sets of gains have two that are apart by just so much -/
def cApart (g h2 : Int64) (a : Int32) : Prop := ¬ (a < -40 ∨ 40 < a) ∧ ¬ (if a < 0 then (h2.toUInt64 >>> ((-a).toInt64.toUInt64 &&& Int64.toUInt64 63)).toInt64 &&& g else (g.toUInt64 >>> (a.toInt64.toUInt64 &&& Int64.toUInt64 63)).toInt64 &&& h2) = 0
def cEvL (m : zm) (x y : Nat) (z o : Int32) : Nat → Nat → Int32
  | 0, _ => -1000000
  | n + 1, k => if ¬ (o < -40 ∨ 40 < o) ∧ ¬ (if o < 0 then ((cG m 146 (nI k - m.1 y 3) z).toUInt64 >>> ((-o).toInt64.toUInt64 &&& Int64.toUInt64 63)).toInt64 &&& cG m 144 (nI k - m.1 x 3) z else ((cG m 144 (nI k - m.1 x 3) z).toUInt64 >>> (o.toInt64.toUInt64 &&& Int64.toUInt64 63)).toInt64 &&& cG m 146 (nI k - m.1 y 3) z) = 0 then nI k else cEvL m x y z o n (k + 1)
theorem leK {L k : Nat} (hL : L < 2 ^ 31) (hk : k < 2 ^ 31) (c : nI L < nI k) : L + 1 - k = 0 := by
  have := (nI_ltI hL hk).mp c
  omega
theorem nleK {L k : Nat} (hL : L < 2 ^ 31) (hk : k < 2 ^ 31) (c : ¬ nI L < nI k) : k ≤ L ∧ L + 1 - k = (L + 1 - (k + 1)) + 1 := by
  rcases Nat.lt_or_ge L k with q | q
  · exact absurd ((nI_ltI hL hk).mpr q) c
  · exact ⟨q, by omega⟩
set_option maxHeartbeats 4000000 in
set_option maxRecDepth 100000 in
theorem lp_X7_even (d : Nat) (m : zm) (a b L : Nat) (ha : a < 4) (hb : b < 4) (hL : L < 300) (z o : Int32) : ∀ (n : Nat) (k : Nat), L + 1 - k < n → k < 302 → ZW zM_X7_even (d + 4) 0 0 138 [some (.ref 0), some (.int (nI a)), some (.int (nI b)), some (.int z), some (.ref (25 + a)), some (.ref (25 + b)), some (.int o), some (.int (nI L)), some (.int (nI k)), none, none, none, none] [] (lay m) 0 0 (some (.int (cEvL m (25 + a) (25 + b) z o (L + 1 - k) k)), lay m) := by
  intro n
  induction n with
  | zero => intro k hm; exact absurd hm (by omega)
  | succ n ih =>
    intro k hm hk
    refine z_iload (i := 8) (q := 140) dX7_even_138 rfl rfl ?_
    refine z_iload (i := 7) (q := 142) dX7_even_140 rfl rfl ?_
    refine z_icmp_gt (tgt := 202) (q := 145) dX7_even_142 (by decide) rfl (fun c1 => ?_) (fun c1 => ?_)
    · skip
      rw [leK (by omega) (by omega) c1]
      refine z_ldc (q := 204) dX7_even_202 wd_604 rfl ?_
      refine z_ireturn dX7_even_204 rfl rfl ?_ (Nat.le_refl _) (Nat.le_refl _)
      rfl
    · skip
      have hz := nleK (by omega) (by omega) c1
      rw [hz.2, cEvL]
      refine z_aload_n (i := 0) (q := 146) dX7_even_145 rfl rfl rfl ?_
      refine m_getR (r := 144) (q := 149) dX7_even_146 fl_X7_67 ⟨by decide, _, rfl, rfl⟩ rfl ?_
      refine z_iload (i := 8) (q := 151) dX7_even_149 rfl rfl ?_
      refine z_aload (i := 4) (q := 153) dX7_even_151 rfl rfl ?_
      refine m_getI (q := 156) dX7_even_153 fl_X7_159 ⟨(isLea_14.2.2.2.2.2.2 a ha).1, _, (isLea_14.2.2.2.2.2.2 a ha).2, rfl⟩ rfl ?_
      refine z_isub (q := 157) dX7_even_156 rfl ?_
      refine z_iload_n (i := 3) (q := 158) dX7_even_157 rfl rfl rfl ?_
      refine m_callV_r (As := [_, _]) (q := 161) mk_X2_gainsAt dX7_even_158 wd_597 wd_587 wd_588 (ci := 2) rfl ⟨by decide, _, rfl⟩ (ev_X2_gainsAt _ _ _ _ _ isFor_144) rfl (by decide) rfl (Nat.zero_le _) (Nat.zero_le _) rfl ?_
      refine z_lstore (i := 9) (ls' := [_, _, _, _, _, _, _, _, _, _, _, _, _]) (q := 163) dX7_even_161 (by decide) rfl rfl ?_
      refine z_aload_n (i := 0) (q := 164) dX7_even_163 rfl rfl rfl ?_
      refine m_getR (r := 146) (q := 167) dX7_even_164 fl_X7_71 ⟨by decide, _, rfl, rfl⟩ rfl ?_
      refine z_iload (i := 8) (q := 169) dX7_even_167 rfl rfl ?_
      refine z_aload (i := 5) (q := 171) dX7_even_169 rfl rfl ?_
      refine m_getI (q := 174) dX7_even_171 fl_X7_159 ⟨(isLea_14.2.2.2.2.2.2 b hb).1, _, (isLea_14.2.2.2.2.2.2 b hb).2, rfl⟩ rfl ?_
      refine z_isub (q := 175) dX7_even_174 rfl ?_
      refine z_iload_n (i := 3) (q := 176) dX7_even_175 rfl rfl rfl ?_
      refine m_callV_r (As := [_, _]) (q := 179) mk_X2_gainsAt dX7_even_176 wd_597 wd_587 wd_588 (ci := 2) rfl ⟨by decide, _, rfl⟩ (ev_X2_gainsAt _ _ _ _ _ isFor_146) rfl (by decide) rfl (Nat.zero_le _) (Nat.zero_le _) rfl ?_
      refine z_lstore (i := 11) (ls' := [_, _, _, _, _, _, _, _, _, _, _, _, _]) (q := 181) dX7_even_179 (by decide) rfl rfl ?_
      refine z_lload (i := 9) (q := 183) dX7_even_181 rfl rfl ?_
      refine z_lload (i := 11) (q := 185) dX7_even_183 rfl rfl ?_
      refine z_iload (i := 6) (q := 187) dX7_even_185 rfl rfl ?_
      refine m_callS_r (As := [_, _, _]) (q := 190) mk_X7_haveGainsApart dX7_even_187 wd_642 wd_643 (ev_X7_haveGainsApart _ _ _ _ _) rfl (by decide) rfl (Nat.zero_le _) (Nat.zero_le _) rfl ?_
      refine zb_eq (tgt := 196) (q := 193) dX7_even_190 (by decide) rfl (fun c2 => ?_) (fun c2 => ?_)
      · skip
        refine z_iinc (i := 8) (ls' := [_, _, _, _, _, _, _, _, _, _, _, _, _]) (v := nI (k + 1)) (q := 199) dX7_even_196 rfl (nI_1 _) (by decide) rfl rfl ?_
        refine z_goto (tgt := 138) dX7_even_199 (by decide) ?_
        rw [if_neg c2]
        exact z_loc (zle_s (zle_s (zle_s (zle_s (zle_s (zle_s (zle_s (zle_s (zle_s (zle_n (zle_n (zle_n (zle_n zle_0))))))))))))) (ih (k + 1) (by omega) (by omega))
      · skip
        refine z_iload (i := 8) (q := 195) dX7_even_193 rfl rfl ?_
        refine z_ireturn dX7_even_195 rfl rfl ?_ (Nat.le_refl _) (Nat.le_refl _)
        rw [if_pos c2]
set_option maxHeartbeats 4000000 in
set_option maxRecDepth 100000 in
theorem ev_X7_even_bad (d : Nat) (m : zm) (a : Int32) (b : Int32) (z : Int32) (hb : (a < 0 ∨ m.1 14 3 - 1 < a) ∨ (b < 0 ∨ m.1 14 3 - 1 < b) ∨ a = b ∨ (z < 0 ∨ m.1 14 0 - 1 < z)) : zEv (d + 4) zM_X7_even 0 0 [.ref 0, .int a, .int b, .int z] (lay m) (some (.int (-1000001)), lay (m)) := by
  refine zEv_of (by decide) (fun G => Nat.le_of_ble_eq_true rfl) ?_
  show ZW _ _ _ _ 0 [some (.ref 0), some (.int a), some (.int b), some (.int z), none, none, none, none, none, none, none, none, none] [] _ _ _ _
  refine z_aload_n (i := 0) (q := 1) dX7_even_0 rfl rfl rfl ?_
  refine z_iload_n (i := 1) (q := 2) dX7_even_1 rfl rfl rfl ?_
  refine m_callV_r (As := [_]) (q := 5) mk_X7_isNobody dX7_even_2 wd_472 wd_474 wp_16 (ci := 7) rfl ⟨by decide, _, rfl⟩ (ev_X7_isNobody _ _ _) rfl (by decide) rfl (Nat.zero_le _) (Nat.zero_le _) rfl ?_
  refine zb_ne (tgt := 29) (q := 8) dX7_even_5 (by decide) rfl (fun c1 => ?_) (fun c1 => ?_)
  · skip
    refine z_ldc (q := 31) dX7_even_29 wd_279 rfl ?_
    refine z_ireturn dX7_even_31 rfl rfl ?_ (Nat.le_refl _) (Nat.le_refl _)
    rfl
  · skip
    refine z_aload_n (i := 0) (q := 9) dX7_even_8 rfl rfl rfl ?_
    refine z_iload_n (i := 2) (q := 10) dX7_even_9 rfl rfl rfl ?_
    refine m_callV_r (As := [_]) (q := 13) mk_X7_isNobody dX7_even_10 wd_472 wd_474 wp_16 (ci := 7) rfl ⟨by decide, _, rfl⟩ (ev_X7_isNobody _ _ _) rfl (by decide) rfl (Nat.zero_le _) (Nat.zero_le _) rfl ?_
    refine zb_ne (tgt := 29) (q := 16) dX7_even_13 (by decide) rfl (fun c2 => ?_) (fun c2 => ?_)
    · skip
      refine z_ldc (q := 31) dX7_even_29 wd_279 rfl ?_
      refine z_ireturn dX7_even_31 rfl rfl ?_ (Nat.le_refl _) (Nat.le_refl _)
      rfl
    · skip
      refine z_iload_n (i := 1) (q := 17) dX7_even_16 rfl rfl rfl ?_
      refine z_iload_n (i := 2) (q := 18) dX7_even_17 rfl rfl rfl ?_
      refine z_icmp_eq (tgt := 29) (q := 21) dX7_even_18 (by decide) rfl (fun c3 => ?_) (fun c3 => ?_)
      · skip
        refine z_ldc (q := 31) dX7_even_29 wd_279 rfl ?_
        refine z_ireturn dX7_even_31 rfl rfl ?_ (Nat.le_refl _) (Nat.le_refl _)
        rfl
      · skip
        refine z_aload_n (i := 0) (q := 22) dX7_even_21 rfl rfl rfl ?_
        refine z_iload_n (i := 3) (q := 23) dX7_even_22 rfl rfl rfl ?_
        refine m_callV_r (As := [_]) (q := 26) mk_X7_isNoHarbour dX7_even_23 wd_578 wd_580 wp_20 (ci := 7) rfl ⟨by decide, _, rfl⟩ (ev_X7_isNoHarbour _ _ _) rfl (by decide) rfl (Nat.zero_le _) (Nat.zero_le _) rfl ?_
        refine zb_eq (tgt := 32) (q := 29) dX7_even_26 (by decide) rfl (fun c4 => ?_) (fun c4 => ?_)
        · exact absurd hb (fun q => q.elim c1 (fun q => q.elim c2 (fun q => q.elim c3 c4)))
        · skip
          refine z_ldc (q := 31) dX7_even_29 wd_279 rfl ?_
          refine z_ireturn dX7_even_31 rfl rfl ?_ (Nat.le_refl _) (Nat.le_refl _)
          rfl
set_option maxHeartbeats 4000000 in
set_option maxRecDepth 100000 in
theorem ev_X7_even (d : Nat) (m : zm) (W : Nat) (ca : Nat) (cb : Nat) (a : Nat) (b : Nat) (z : Int32) (hn : ¬ (nI a < 0 ∨ m.1 14 3 - 1 < nI a)) (hn2 : ¬ (nI b < 0 ∨ m.1 14 3 - 1 < nI b)) (hab : ¬ nI a = nI b) (hn3 : ¬ (z < 0 ∨ m.1 14 0 - 1 < z)) (hW : m.1 14 2 = nI W) (hW8 : W ≤ 8) (hwk : wOk m W) (hca : m.1 (25 + a) 3 = nI ca) (hcb : m.1 (25 + b) 3 = nI cb) (ha2 : ca ≤ 200) (hb2 : cb ≤ 200) (ha : a < 4) (hb : b < 4) : zEv (d + 4) zM_X7_even 0 0 [.ref 0, .int (nI a), .int (nI b), .int z] (lay m) (some (.int (cEvL (cFore (cFore m 144 (25 + a) W) 146 (25 + b) W) (25 + a) (25 + b) z (m.1 (25 + a) 4 - m.1 (25 + a) 3 - (m.1 (25 + b) 4 - m.1 (25 + b) 3)) (min ca cb + 40 + 1 - max ca cb) (max ca cb))), lay ((cFore (cFore m 144 (25 + a) W) 146 (25 + b) W))) := by
  refine zEv_of (by decide) (fun G => Nat.le_of_ble_eq_true rfl) ?_
  show ZW _ _ _ _ 0 [some (.ref 0), some (.int (nI a)), some (.int (nI b)), some (.int z), none, none, none, none, none, none, none, none, none] [] _ _ _ _
  refine z_aload_n (i := 0) (q := 1) dX7_even_0 rfl rfl rfl ?_
  refine z_iload_n (i := 1) (q := 2) dX7_even_1 rfl rfl rfl ?_
  refine m_callV_r (As := [_]) (q := 5) mk_X7_isNobody dX7_even_2 wd_472 wd_474 wp_16 (ci := 7) rfl ⟨by decide, _, rfl⟩ (ev_X7_isNobody _ _ _) rfl (by decide) rfl (Nat.zero_le _) (Nat.zero_le _) rfl ?_
  refine zb_ne (tgt := 29) (q := 8) dX7_even_5 (by decide) rfl (fun c1 => ?_) (fun c1 => ?_)
  · contradiction
  · skip
    refine z_aload_n (i := 0) (q := 9) dX7_even_8 rfl rfl rfl ?_
    refine z_iload_n (i := 2) (q := 10) dX7_even_9 rfl rfl rfl ?_
    refine m_callV_r (As := [_]) (q := 13) mk_X7_isNobody dX7_even_10 wd_472 wd_474 wp_16 (ci := 7) rfl ⟨by decide, _, rfl⟩ (ev_X7_isNobody _ _ _) rfl (by decide) rfl (Nat.zero_le _) (Nat.zero_le _) rfl ?_
    refine zb_ne (tgt := 29) (q := 16) dX7_even_13 (by decide) rfl (fun c2 => ?_) (fun c2 => ?_)
    · contradiction
    · skip
      refine z_iload_n (i := 1) (q := 17) dX7_even_16 rfl rfl rfl ?_
      refine z_iload_n (i := 2) (q := 18) dX7_even_17 rfl rfl rfl ?_
      refine z_icmp_eq (tgt := 29) (q := 21) dX7_even_18 (by decide) rfl (fun c3 => ?_) (fun c3 => ?_)
      · contradiction
      · skip
        refine z_aload_n (i := 0) (q := 22) dX7_even_21 rfl rfl rfl ?_
        refine z_iload_n (i := 3) (q := 23) dX7_even_22 rfl rfl rfl ?_
        refine m_callV_r (As := [_]) (q := 26) mk_X7_isNoHarbour dX7_even_23 wd_578 wd_580 wp_20 (ci := 7) rfl ⟨by decide, _, rfl⟩ (ev_X7_isNoHarbour _ _ _) rfl (by decide) rfl (Nat.zero_le _) (Nat.zero_le _) rfl ?_
        refine zb_eq (tgt := 32) (q := 29) dX7_even_26 (by decide) rfl (fun c4 => ?_) (fun c4 => ?_)
        · skip
          refine z_aload_n (i := 0) (q := 33) dX7_even_32 rfl rfl rfl ?_
          refine m_getR (r := 14) (q := 36) dX7_even_33 fl_X7_42 ⟨by decide, _, rfl, rfl⟩ rfl ?_
          refine m_getR (r := 16) (q := 39) dX7_even_36 fl_X7_150 ⟨by decide, _, rfl, rfl⟩ rfl ?_
          refine z_iload_n (i := 1) (q := 40) dX7_even_39 rfl rfl rfl ?_
          refine m_aald (kd := 5) (N := 4) (b := 25 + a) (q := 41) dX7_even_40 (by decide) (okPn (by decide) rfl (by omega) (by decide)) (nI_pos' (by omega)) rfl ?_
          refine z_astore (i := 4) (ls' := [_, _, _, _, _, _, _, _, _, _, _, _, _]) (q := 43) dX7_even_41 (by decide) rfl rfl ?_
          refine z_aload_n (i := 0) (q := 44) dX7_even_43 rfl rfl rfl ?_
          refine m_getR (r := 14) (q := 47) dX7_even_44 fl_X7_42 ⟨by decide, _, rfl, rfl⟩ rfl ?_
          refine m_getR (r := 16) (q := 50) dX7_even_47 fl_X7_150 ⟨by decide, _, rfl, rfl⟩ rfl ?_
          refine z_iload_n (i := 2) (q := 51) dX7_even_50 rfl rfl rfl ?_
          refine m_aald (kd := 5) (N := 4) (b := 25 + b) (q := 52) dX7_even_51 (by decide) (okPn (by decide) rfl (by omega) (by decide)) (nI_pos' (by omega)) rfl ?_
          refine z_astore (i := 5) (ls' := [_, _, _, _, _, _, _, _, _, _, _, _, _]) (q := 54) dX7_even_52 (by decide) rfl rfl ?_
          refine z_aload_n (i := 0) (q := 55) dX7_even_54 rfl rfl rfl ?_
          refine m_getR (r := 144) (q := 58) dX7_even_55 fl_X7_67 ⟨by decide, _, rfl, rfl⟩ rfl ?_
          refine z_aload_n (i := 0) (q := 59) dX7_even_58 rfl rfl rfl ?_
          refine m_getR (r := 14) (q := 62) dX7_even_59 fl_X7_42 ⟨by decide, _, rfl, rfl⟩ rfl ?_
          refine z_aload (i := 4) (q := 64) dX7_even_62 rfl rfl ?_
          refine m_callV_v (As := [_, _]) (q := 67) mk_X2_foresee dX7_even_64 wd_582 wd_583 wd_584 (ci := 2) rfl ⟨by decide, _, rfl⟩ (ev_X2_foresee _ _ _ _ _ isFor_144 (isLea_14.2.2.2.2.2.2 a (by omega)) hW hW8 hwk) rfl (by decide) rfl (Nat.zero_le _) (Nat.zero_le _) rfl ?_
          refine z_aload_n (i := 0) (q := 68) dX7_even_67 rfl rfl rfl ?_
          refine m_getR (r := 146) (q := 71) dX7_even_68 fl_X7_71 ⟨by decide, _, rfl, rfl⟩ rfl ?_
          refine z_aload_n (i := 0) (q := 72) dX7_even_71 rfl rfl rfl ?_
          refine m_getR (r := 14) (q := 75) dX7_even_72 fl_X7_42 ⟨by decide, _, rfl, rfl⟩ rfl ?_
          refine z_aload (i := 5) (q := 77) dX7_even_75 rfl rfl ?_
          refine m_callV_v (As := [_, _]) (q := 80) mk_X2_foresee dX7_even_77 wd_582 wd_583 wd_584 (ci := 2) rfl ⟨by decide, _, rfl⟩ (ev_X2_foresee _ _ _ _ _ isFor_146 (isLea_14.2.2.2.2.2.2 b (by omega)) (by rw [cFore_1]; exact hW) hW8 (wOk_c (cFore_1 _ _ _ _) hwk)) rfl (by decide) rfl (Nat.zero_le _) (Nat.zero_le _) rfl ?_
          refine z_aload (i := 4) (q := 82) dX7_even_80 rfl rfl ?_
          refine m_getI (q := 85) dX7_even_82 fl_X7_169 ⟨(isLea_14.2.2.2.2.2.2 a (by omega)).1, _, (isLea_14.2.2.2.2.2.2 a (by omega)).2, rfl⟩ rfl ?_
          simp only [cFore_1]
          refine z_aload (i := 4) (q := 87) dX7_even_85 rfl rfl ?_
          refine m_getI (q := 90) dX7_even_87 fl_X7_159 ⟨(isLea_14.2.2.2.2.2.2 a (by omega)).1, _, (isLea_14.2.2.2.2.2.2 a (by omega)).2, rfl⟩ rfl ?_
          simp only [cFore_1]
          refine z_isub (q := 91) dX7_even_90 rfl ?_
          refine z_aload (i := 5) (q := 93) dX7_even_91 rfl rfl ?_
          refine m_getI (q := 96) dX7_even_93 fl_X7_169 ⟨(isLea_14.2.2.2.2.2.2 b (by omega)).1, _, (isLea_14.2.2.2.2.2.2 b (by omega)).2, rfl⟩ rfl ?_
          simp only [cFore_1]
          refine z_aload (i := 5) (q := 98) dX7_even_96 rfl rfl ?_
          refine m_getI (q := 101) dX7_even_98 fl_X7_159 ⟨(isLea_14.2.2.2.2.2.2 b (by omega)).1, _, (isLea_14.2.2.2.2.2.2 b (by omega)).2, rfl⟩ rfl ?_
          simp only [cFore_1]
          refine z_isub (q := 102) dX7_even_101 rfl ?_
          refine z_isub (q := 103) dX7_even_102 rfl ?_
          refine z_istore (i := 6) (ls' := [_, _, _, _, _, _, _, _, _, _, _, _, _]) (q := 105) dX7_even_103 (by decide) rfl rfl ?_
          refine z_aload (i := 4) (q := 107) dX7_even_105 rfl rfl ?_
          refine m_getI (q := 110) dX7_even_107 fl_X7_159 ⟨(isLea_14.2.2.2.2.2.2 a (by omega)).1, _, (isLea_14.2.2.2.2.2.2 a (by omega)).2, rfl⟩ rfl ?_
          simp only [cFore_1]
          refine z_aload (i := 5) (q := 112) dX7_even_110 rfl rfl ?_
          refine m_getI (q := 115) dX7_even_112 fl_X7_159 ⟨(isLea_14.2.2.2.2.2.2 b (by omega)).1, _, (isLea_14.2.2.2.2.2.2 b (by omega)).2, rfl⟩ rfl ?_
          simp only [cFore_1]
          refine z_imin (q := 118) dX7_even_115 wd_639 wd_640 wd_15 wd_641 (by decide) (Nat.zero_le _) (Nat.zero_le _) rfl ?_
          rw [show (if m.1 (25 + b) 3 < m.1 (25 + a) 3 then m.1 (25 + b) 3 else m.1 (25 + a) 3) = nI (min ca cb) from by rw [hca, hcb]; exact iminN (by omega) (by omega)]
          refine z_bipush (v := 40) (q := 120) dX7_even_118 (by decide) rfl ?_
          refine z_iadd (q := 121) dX7_even_120 rfl ?_
          rw [show nI (min ca cb) + 40 = nI ((min ca cb) + 40) from nI_add _ 40]
          refine z_istore (i := 7) (ls' := [_, _, _, _, _, _, _, _, _, _, _, _, _]) (q := 123) dX7_even_121 (by decide) rfl rfl ?_
          refine z_aload (i := 4) (q := 125) dX7_even_123 rfl rfl ?_
          refine m_getI (q := 128) dX7_even_125 fl_X7_159 ⟨(isLea_14.2.2.2.2.2.2 a (by omega)).1, _, (isLea_14.2.2.2.2.2.2 a (by omega)).2, rfl⟩ rfl ?_
          simp only [cFore_1]
          refine z_aload (i := 5) (q := 130) dX7_even_128 rfl rfl ?_
          refine m_getI (q := 133) dX7_even_130 fl_X7_159 ⟨(isLea_14.2.2.2.2.2.2 b (by omega)).1, _, (isLea_14.2.2.2.2.2.2 b (by omega)).2, rfl⟩ rfl ?_
          simp only [cFore_1]
          refine z_imax (q := 136) dX7_even_133 wd_533 wd_515 wd_15 wd_516 (by decide) (Nat.zero_le _) (Nat.zero_le _) rfl ?_
          rw [show (if m.1 (25 + a) 3 < m.1 (25 + b) 3 then m.1 (25 + b) 3 else m.1 (25 + a) 3) = nI (max ca cb) from by rw [hca, hcb]; exact imaxN (by omega) (by omega)]
          refine z_istore (i := 8) (ls' := [_, _, _, _, _, _, _, _, _, _, _, _, _]) (q := 138) dX7_even_136 (by decide) rfl rfl ?_
          exact lp_X7_even _ _ a b (min ca cb + 40) ha hb (by omega) z _ _ (max ca cb) (Nat.lt_succ_self _) (by omega)
        · contradiction
