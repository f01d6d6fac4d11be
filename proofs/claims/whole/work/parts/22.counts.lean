/-! ===== the class: where, eldest, rows there, counts, images ===== -/
def cWhL (m : zm) (y g : Int32) : Nat → Nat → Int32 → Int32
  | 0, _, acc => acc
  | n + 1, z, acc => cWhL m y g n (z + 1) (if ¬ (g < 0 ∨ 40 < g) ∧ ((cG m 144 y (nI z)).toUInt64 >>> (g.toInt64.toUInt64 &&& Int64.toUInt64 63)).toInt64 &&& 1 = 1 then acc ||| (1 <<< (nI z &&& 31)) else acc)
def cEldL (m : zm) (w : Int32) : Nat → Nat → Int32 → Int32 → Int32
  | 0, _, e, _ => e
  | n + 1, p, e, g => if g < (if w = 0 then m.1 (25 + p) 4 else m.1 (25 + p) 1) then cEldL m w n (p + 1) (nI p) (if w = 0 then m.1 (25 + p) 4 else m.1 (25 + p) 1) else cEldL m w n (p + 1) e g
def cRowsL (m : zm) : Nat → Nat → Int32 → Int32
  | 0, _, acc => acc
  | n + 1, r, acc => cRowsL m n (r + 1) (if m.1 11 r = -1 then acc else acc + 1)
set_option maxHeartbeats 4000000 in
set_option maxRecDepth 100000 in
theorem lp_X7_where (d : Nat) (m : zm) (p H : Nat) (c e y g : Int32) (hH : m.1 14 0 = nI H) (hH8 : H ≤ 8) : ∀ (n : Nat) (z : Nat) (acc : Int32), H - z < n → z ≤ H → ZW zM_X7_where (d + 4) 0 0 84 [some (.ref 0), some (.int (nI p)), some (.int c), some (.int e), some (.ref (25 + p)), some (.int y), some (.int g), some (.int acc), some (.int (nI z))] [] (lay m) 0 0 (some (.int (cWhL m y g (H - z) z acc)), lay m) := by
  intro n
  induction n with
  | zero => intro z acc hm; exact absurd hm (by omega)
  | succ n ih =>
    intro z acc hm hi
    refine z_iload (i := 8) (q := 86) dX7_where_84 rfl rfl ?_
    refine z_aload_n (i := 0) (q := 87) dX7_where_86 rfl rfl rfl ?_
    refine m_getR (r := 14) (q := 90) dX7_where_87 fl_X7_42 ⟨by decide, _, rfl, rfl⟩ rfl ?_
    refine m_getI (q := 93) dX7_where_90 fl_X7_236 ⟨by decide, _, rfl, rfl⟩ rfl ?_
    rw [hH]
    refine z_icmp_ge (tgt := 127) (q := 96) dX7_where_93 (by decide) rfl (fun c1 => ?_) (fun c1 => ?_)
    · skip
      rw [leW hH8 hi c1]
      refine z_iload (i := 7) (q := 129) dX7_where_127 rfl rfl ?_
      refine z_ireturn dX7_where_129 rfl rfl ?_ (Nat.le_refl _) (Nat.le_refl _)
      rfl
    · skip
      have hz := nleW hH8 hi c1
      rw [hz.2, cWhL]
      refine z_aload_n (i := 0) (q := 97) dX7_where_96 rfl rfl rfl ?_
      refine m_getR (r := 144) (q := 100) dX7_where_97 fl_X7_67 ⟨by decide, _, rfl, rfl⟩ rfl ?_
      refine z_iload (i := 5) (q := 102) dX7_where_100 rfl rfl ?_
      refine z_iload (i := 8) (q := 104) dX7_where_102 rfl rfl ?_
      refine z_iload (i := 6) (q := 106) dX7_where_104 rfl rfl ?_
      refine m_callV_r (As := [_, _, _]) (q := 109) mk_X2_hasGain dX7_where_106 wd_622 wd_623 wd_624 (ci := 2) rfl ⟨by decide, _, rfl⟩ (ev_X2_hasGain _ _ _ _ _ _ isFor_144) rfl (by decide) rfl (Nat.zero_le _) (Nat.zero_le _) rfl ?_
      refine zb_eq (tgt := 121) (q := 112) dX7_where_109 (by decide) rfl (fun c2 => ?_) (fun c2 => ?_)
      · skip
        refine z_iinc (i := 8) (ls' := [_, _, _, _, _, _, _, _, _]) (v := nI (z + 1)) (q := 124) dX7_where_121 rfl (nI_1 _) (by decide) rfl rfl ?_
        refine z_goto (tgt := 84) dX7_where_124 (by decide) ?_
        rw [if_neg c2]
        exact ih (z + 1) _ (by omega) (by omega)
      · skip
        refine z_iload (i := 7) (q := 114) dX7_where_112 rfl rfl ?_
        refine z_iconst (v := 1) (q := 115) dX7_where_114 (by decide) rfl ?_
        refine z_iload (i := 8) (q := 117) dX7_where_115 rfl rfl ?_
        refine z_ishl (q := 118) dX7_where_117 rfl ?_
        refine z_ior (q := 119) dX7_where_118 rfl ?_
        refine z_istore (i := 7) (ls' := [_, _, _, _, _, _, _, _, _]) (q := 121) dX7_where_119 (by decide) rfl rfl ?_
        refine z_iinc (i := 8) (ls' := [_, _, _, _, _, _, _, _, _]) (v := nI (z + 1)) (q := 124) dX7_where_121 rfl (nI_1 _) (by decide) rfl rfl ?_
        refine z_goto (tgt := 84) dX7_where_124 (by decide) ?_
        rw [if_pos c2]
        exact ih (z + 1) _ (by omega) (by omega)
set_option maxHeartbeats 4000000 in
set_option maxRecDepth 100000 in
theorem ev_X7_where_bad (d : Nat) (m : zm) (p : Int32) (c : Int32) (e : Int32) (hb : (p < 0 ∨ m.1 14 3 - 1 < p) ∨ (c < 0 ∨ 200 < c) ∨ (e < 0 ∨ 399 < e)) : zEv (d + 4) zM_X7_where 0 0 [.ref 0, .int p, .int c, .int e] (lay m) (some (.int (-1000001)), lay (m)) := by
  refine zEv_of (by decide) (fun G => Nat.le_of_ble_eq_true rfl) ?_
  show ZW _ _ _ _ 0 [some (.ref 0), some (.int p), some (.int c), some (.int e), none, none, none, none, none] [] _ _ _ _
  refine z_aload_n (i := 0) (q := 1) dX7_where_0 rfl rfl rfl ?_
  refine z_iload_n (i := 1) (q := 2) dX7_where_1 rfl rfl rfl ?_
  refine m_callV_r (As := [_]) (q := 5) mk_X7_isNobody dX7_where_2 wd_472 wd_474 wp_16 (ci := 7) rfl ⟨by decide, _, rfl⟩ (ev_X7_isNobody _ _ _) rfl (by decide) rfl (Nat.zero_le _) (Nat.zero_le _) rfl ?_
  refine zb_ne (tgt := 30) (q := 8) dX7_where_5 (by decide) rfl (fun c1 => ?_) (fun c1 => ?_)
  · skip
    refine z_ldc (q := 32) dX7_where_30 wd_279 rfl ?_
    refine z_ireturn dX7_where_32 rfl rfl ?_ (Nat.le_refl _) (Nat.le_refl _)
    rfl
  · skip
    refine z_iload_n (i := 2) (q := 9) dX7_where_8 rfl rfl rfl ?_
    refine z_iconst (v := 0) (q := 10) dX7_where_9 (by decide) rfl ?_
    refine z_sipush (v := 200) (q := 13) dX7_where_10 (by decide) rfl ?_
    refine m_callS_r (As := [_, _, _]) (q := 16) mk_X7_isOutside dX7_where_13 wd_276 wd_277 (ev_X7_isOutside _ _ _ _ _) rfl (by decide) rfl (Nat.zero_le _) (Nat.zero_le _) rfl ?_
    refine zb_ne (tgt := 30) (q := 19) dX7_where_16 (by decide) rfl (fun c2 => ?_) (fun c2 => ?_)
    · skip
      refine z_ldc (q := 32) dX7_where_30 wd_279 rfl ?_
      refine z_ireturn dX7_where_32 rfl rfl ?_ (Nat.le_refl _) (Nat.le_refl _)
      rfl
    · skip
      refine z_iload_n (i := 3) (q := 20) dX7_where_19 rfl rfl rfl ?_
      refine z_iconst (v := 0) (q := 21) dX7_where_20 (by decide) rfl ?_
      refine z_sipush (v := 399) (q := 24) dX7_where_21 (by decide) rfl ?_
      refine m_callS_r (As := [_, _, _]) (q := 27) mk_X7_isOutside dX7_where_24 wd_276 wd_277 (ev_X7_isOutside _ _ _ _ _) rfl (by decide) rfl (Nat.zero_le _) (Nat.zero_le _) rfl ?_
      refine zb_eq (tgt := 33) (q := 30) dX7_where_27 (by decide) rfl (fun c3 => ?_) (fun c3 => ?_)
      · exact absurd hb (fun q => q.elim c1 (fun q => q.elim c2 c3))
      · skip
        refine z_ldc (q := 32) dX7_where_30 wd_279 rfl ?_
        refine z_ireturn dX7_where_32 rfl rfl ?_ (Nat.le_refl _) (Nat.le_refl _)
        rfl
set_option maxHeartbeats 4000000 in
set_option maxRecDepth 100000 in
theorem ev_X7_where (d : Nat) (m : zm) (W : Nat) (H : Nat) (p : Nat) (c : Int32) (e : Int32) (hn : ¬ (nI p < 0 ∨ m.1 14 3 - 1 < nI p)) (h2 : ¬ (c < 0 ∨ 200 < c)) (h3 : ¬ (e < 0 ∨ 399 < e)) (hW : m.1 14 2 = nI W) (hW8 : W ≤ 8) (hwk : wOk m W) (hH : m.1 14 0 = nI H) (hH8 : H ≤ 8) (hp : p < 4) : zEv (d + 4) zM_X7_where 0 0 [.ref 0, .int (nI p), .int c, .int e] (lay m) (some (.int (cWhL (cFore m 144 (25 + p) W) (c - m.1 (25 + p) 3) (m.1 (25 + p) 4 + (c - m.1 (25 + p) 3) - e) H 0 0)), lay (cFore m 144 (25 + p) W)) := by
  refine zEv_of (by decide) (fun G => Nat.le_of_ble_eq_true rfl) ?_
  show ZW _ _ _ _ 0 [some (.ref 0), some (.int (nI p)), some (.int c), some (.int e), none, none, none, none, none] [] _ _ _ _
  refine z_aload_n (i := 0) (q := 1) dX7_where_0 rfl rfl rfl ?_
  refine z_iload_n (i := 1) (q := 2) dX7_where_1 rfl rfl rfl ?_
  refine m_callV_r (As := [_]) (q := 5) mk_X7_isNobody dX7_where_2 wd_472 wd_474 wp_16 (ci := 7) rfl ⟨by decide, _, rfl⟩ (ev_X7_isNobody _ _ _) rfl (by decide) rfl (Nat.zero_le _) (Nat.zero_le _) rfl ?_
  refine zb_ne (tgt := 30) (q := 8) dX7_where_5 (by decide) rfl (fun c1 => ?_) (fun c1 => ?_)
  · contradiction
  · skip
    refine z_iload_n (i := 2) (q := 9) dX7_where_8 rfl rfl rfl ?_
    refine z_iconst (v := 0) (q := 10) dX7_where_9 (by decide) rfl ?_
    refine z_sipush (v := 200) (q := 13) dX7_where_10 (by decide) rfl ?_
    refine m_callS_r (As := [_, _, _]) (q := 16) mk_X7_isOutside dX7_where_13 wd_276 wd_277 (ev_X7_isOutside _ _ _ _ _) rfl (by decide) rfl (Nat.zero_le _) (Nat.zero_le _) rfl ?_
    refine zb_ne (tgt := 30) (q := 19) dX7_where_16 (by decide) rfl (fun c2 => ?_) (fun c2 => ?_)
    · contradiction
    · skip
      refine z_iload_n (i := 3) (q := 20) dX7_where_19 rfl rfl rfl ?_
      refine z_iconst (v := 0) (q := 21) dX7_where_20 (by decide) rfl ?_
      refine z_sipush (v := 399) (q := 24) dX7_where_21 (by decide) rfl ?_
      refine m_callS_r (As := [_, _, _]) (q := 27) mk_X7_isOutside dX7_where_24 wd_276 wd_277 (ev_X7_isOutside _ _ _ _ _) rfl (by decide) rfl (Nat.zero_le _) (Nat.zero_le _) rfl ?_
      refine zb_eq (tgt := 33) (q := 30) dX7_where_27 (by decide) rfl (fun c3 => ?_) (fun c3 => ?_)
      · skip
        refine z_aload_n (i := 0) (q := 34) dX7_where_33 rfl rfl rfl ?_
        refine m_getR (r := 14) (q := 37) dX7_where_34 fl_X7_42 ⟨by decide, _, rfl, rfl⟩ rfl ?_
        refine m_getR (r := 16) (q := 40) dX7_where_37 fl_X7_150 ⟨by decide, _, rfl, rfl⟩ rfl ?_
        refine z_iload_n (i := 1) (q := 41) dX7_where_40 rfl rfl rfl ?_
        refine m_aald (kd := 5) (N := 4) (b := 25 + p) (q := 42) dX7_where_41 (by decide) (okPn (by decide) rfl (by omega) (by decide)) (nI_pos' (by omega)) rfl ?_
        refine z_astore (i := 4) (ls' := [_, _, _, _, _, _, _, _, _]) (q := 44) dX7_where_42 (by decide) rfl rfl ?_
        refine z_iload_n (i := 2) (q := 45) dX7_where_44 rfl rfl rfl ?_
        refine z_aload (i := 4) (q := 47) dX7_where_45 rfl rfl ?_
        refine m_getI (q := 50) dX7_where_47 fl_X7_159 ⟨(isLea_14.2.2.2.2.2.2 p (by omega)).1, _, (isLea_14.2.2.2.2.2.2 p (by omega)).2, rfl⟩ rfl ?_
        refine z_isub (q := 51) dX7_where_50 rfl ?_
        refine z_istore (i := 5) (ls' := [_, _, _, _, _, _, _, _, _]) (q := 53) dX7_where_51 (by decide) rfl rfl ?_
        refine z_aload (i := 4) (q := 55) dX7_where_53 rfl rfl ?_
        refine m_getI (q := 58) dX7_where_55 fl_X7_169 ⟨(isLea_14.2.2.2.2.2.2 p (by omega)).1, _, (isLea_14.2.2.2.2.2.2 p (by omega)).2, rfl⟩ rfl ?_
        refine z_iload (i := 5) (q := 60) dX7_where_58 rfl rfl ?_
        refine z_iadd (q := 61) dX7_where_60 rfl ?_
        refine z_iload_n (i := 3) (q := 62) dX7_where_61 rfl rfl rfl ?_
        refine z_isub (q := 63) dX7_where_62 rfl ?_
        refine z_istore (i := 6) (ls' := [_, _, _, _, _, _, _, _, _]) (q := 65) dX7_where_63 (by decide) rfl rfl ?_
        refine z_aload_n (i := 0) (q := 66) dX7_where_65 rfl rfl rfl ?_
        refine m_getR (r := 144) (q := 69) dX7_where_66 fl_X7_67 ⟨by decide, _, rfl, rfl⟩ rfl ?_
        refine z_aload_n (i := 0) (q := 70) dX7_where_69 rfl rfl rfl ?_
        refine m_getR (r := 14) (q := 73) dX7_where_70 fl_X7_42 ⟨by decide, _, rfl, rfl⟩ rfl ?_
        refine z_aload (i := 4) (q := 75) dX7_where_73 rfl rfl ?_
        refine m_callV_v (As := [_, _]) (q := 78) mk_X2_foresee dX7_where_75 wd_582 wd_583 wd_584 (ci := 2) rfl ⟨by decide, _, rfl⟩ (ev_X2_foresee _ _ _ _ _ isFor_144 (isLea_14.2.2.2.2.2.2 p (by omega)) hW hW8 hwk) rfl (by decide) rfl (Nat.zero_le _) (Nat.zero_le _) rfl ?_
        refine z_iconst (v := 0) (q := 79) dX7_where_78 (by decide) rfl ?_
        refine z_istore (i := 7) (ls' := [_, _, _, _, _, _, _, _, _]) (q := 81) dX7_where_79 (by decide) rfl rfl ?_
        refine z_iconst (v := 0) (q := 82) dX7_where_81 (by decide) rfl ?_
        refine z_istore (i := 8) (ls' := [_, _, _, _, _, _, _, _, _]) (q := 84) dX7_where_82 (by decide) rfl rfl ?_
        exact lp_X7_where _ _ p H c e _ _ (by rw [cFore_1]; exact hH) hH8 (H + 1) 0 0 (by omega) (by omega)
      · contradiction
set_option maxHeartbeats 4000000 in
set_option maxRecDepth 100000 in
theorem lp_X7_eldest (d : Nat) (m : zm) (w : Int32) (N : Nat) (hN : m.1 14 3 = nI N) (hN4 : N ≤ 4) : ∀ (n : Nat) (p : Nat) (e g : Int32), N - p < n → p ≤ N → ZW zM_X7_eldest (d + 1) 0 0 30 [some (.ref 0), some (.int w), some (.int e), some (.int g), some (.int (nI p)), none] [] (lay m) 0 0 (some (.int (cEldL m w (N - p) p e g)), lay m) := by
  intro n
  induction n with
  | zero => intro p e g hm; exact absurd hm (by omega)
  | succ n ih =>
    intro p e g hm hi
    refine z_iload (i := 4) (q := 32) dX7_eldest_30 rfl rfl ?_
    refine z_aload_n (i := 0) (q := 33) dX7_eldest_32 rfl rfl rfl ?_
    refine m_getR (r := 14) (q := 36) dX7_eldest_33 fl_X7_42 ⟨by decide, _, rfl, rfl⟩ rfl ?_
    refine m_getI (q := 39) dX7_eldest_36 fl_X7_138 ⟨by decide, _, rfl, rfl⟩ rfl ?_
    rw [hN]
    refine z_icmp_ge (tgt := 95) (q := 42) dX7_eldest_39 (by decide) rfl (fun c1 => ?_) (fun c1 => ?_)
    · skip
      rw [leW (by omega) hi c1]
      refine z_iload_n (i := 2) (q := 96) dX7_eldest_95 rfl rfl rfl ?_
      refine z_ireturn dX7_eldest_96 rfl rfl ?_ (Nat.le_refl _) (Nat.le_refl _)
      rfl
    · skip
      have hz := nleW (by omega) hi c1
      have hp4 : p < 4 := by omega
      rw [hz.2, cEldL]
      refine z_iload_n (i := 1) (q := 43) dX7_eldest_42 rfl rfl rfl ?_
      refine z_if_ne (tgt := 62) (q := 46) dX7_eldest_43 (by decide) rfl (fun c2 => ?_) (fun c2 => ?_)
      · skip
        refine z_aload_n (i := 0) (q := 63) dX7_eldest_62 rfl rfl rfl ?_
        refine m_getR (r := 14) (q := 66) dX7_eldest_63 fl_X7_42 ⟨by decide, _, rfl, rfl⟩ rfl ?_
        refine m_getR (r := 16) (q := 69) dX7_eldest_66 fl_X7_150 ⟨by decide, _, rfl, rfl⟩ rfl ?_
        refine z_iload (i := 4) (q := 71) dX7_eldest_69 rfl rfl ?_
        refine m_aald (kd := 5) (N := 4) (b := 25 + p) (q := 72) dX7_eldest_71 (by decide) (okPn (by decide) rfl (by omega) (by decide)) (nI_pos' (by omega)) rfl ?_
        refine m_getI (q := 75) dX7_eldest_72 fl_X7_239 ⟨(isLea_14.2.2.2.2.2.2 p (by omega)).1, _, (isLea_14.2.2.2.2.2.2 p (by omega)).2, rfl⟩ rfl ?_
        refine z_istore (i := 5) (ls' := [_, _, _, _, _, _]) (q := 77) dX7_eldest_75 (by decide) rfl rfl ?_
        refine z_iload (i := 5) (q := 79) dX7_eldest_77 rfl rfl ?_
        refine z_iload_n (i := 3) (q := 80) dX7_eldest_79 rfl rfl rfl ?_
        refine z_icmp_le (tgt := 89) (q := 83) dX7_eldest_80 (by decide) rfl (fun c3 => ?_) (fun c3 => ?_)
        · skip
          refine z_iinc (i := 4) (ls' := [_, _, _, _, _, _]) (v := nI (p + 1)) (q := 92) dX7_eldest_89 rfl (nI_1 _) (by decide) rfl rfl ?_
          refine z_goto (tgt := 30) dX7_eldest_92 (by decide) ?_
          rw [if_neg c2, if_neg (Int32.not_lt.mpr c3)]
          exact z_loc (zle_s (zle_s (zle_s (zle_s (zle_s (zle_n zle_0)))))) (ih (p + 1) _ _ (by omega) (by omega))
        · skip
          refine z_iload (i := 5) (q := 85) dX7_eldest_83 rfl rfl ?_
          refine z_istore_n (i := 3) (ls' := [_, _, _, _, _, _]) (q := 86) dX7_eldest_85 rfl (by decide) rfl rfl ?_
          refine z_iload (i := 4) (q := 88) dX7_eldest_86 rfl rfl ?_
          refine z_istore_n (i := 2) (ls' := [_, _, _, _, _, _]) (q := 89) dX7_eldest_88 rfl (by decide) rfl rfl ?_
          refine z_iinc (i := 4) (ls' := [_, _, _, _, _, _]) (v := nI (p + 1)) (q := 92) dX7_eldest_89 rfl (nI_1 _) (by decide) rfl rfl ?_
          refine z_goto (tgt := 30) dX7_eldest_92 (by decide) ?_
          rw [if_neg c2, if_pos (Int32.not_le.mp c3)]
          exact z_loc (zle_s (zle_s (zle_s (zle_s (zle_s (zle_n zle_0)))))) (ih (p + 1) _ _ (by omega) (by omega))
      · skip
        refine z_aload_n (i := 0) (q := 47) dX7_eldest_46 rfl rfl rfl ?_
        refine m_getR (r := 14) (q := 50) dX7_eldest_47 fl_X7_42 ⟨by decide, _, rfl, rfl⟩ rfl ?_
        refine m_getR (r := 16) (q := 53) dX7_eldest_50 fl_X7_150 ⟨by decide, _, rfl, rfl⟩ rfl ?_
        refine z_iload (i := 4) (q := 55) dX7_eldest_53 rfl rfl ?_
        refine m_aald (kd := 5) (N := 4) (b := 25 + p) (q := 56) dX7_eldest_55 (by decide) (okPn (by decide) rfl (by omega) (by decide)) (nI_pos' (by omega)) rfl ?_
        refine m_getI (q := 59) dX7_eldest_56 fl_X7_169 ⟨(isLea_14.2.2.2.2.2.2 p (by omega)).1, _, (isLea_14.2.2.2.2.2.2 p (by omega)).2, rfl⟩ rfl ?_
        refine z_goto (tgt := 75) dX7_eldest_59 (by decide) ?_
        refine z_istore (i := 5) (ls' := [_, _, _, _, _, _]) (q := 77) dX7_eldest_75 (by decide) rfl rfl ?_
        refine z_iload (i := 5) (q := 79) dX7_eldest_77 rfl rfl ?_
        refine z_iload_n (i := 3) (q := 80) dX7_eldest_79 rfl rfl rfl ?_
        refine z_icmp_le (tgt := 89) (q := 83) dX7_eldest_80 (by decide) rfl (fun c4 => ?_) (fun c4 => ?_)
        · skip
          refine z_iinc (i := 4) (ls' := [_, _, _, _, _, _]) (v := nI (p + 1)) (q := 92) dX7_eldest_89 rfl (nI_1 _) (by decide) rfl rfl ?_
          refine z_goto (tgt := 30) dX7_eldest_92 (by decide) ?_
          rw [if_pos c2, if_neg (Int32.not_lt.mpr c4)]
          exact z_loc (zle_s (zle_s (zle_s (zle_s (zle_s (zle_n zle_0)))))) (ih (p + 1) _ _ (by omega) (by omega))
        · skip
          refine z_iload (i := 5) (q := 85) dX7_eldest_83 rfl rfl ?_
          refine z_istore_n (i := 3) (ls' := [_, _, _, _, _, _]) (q := 86) dX7_eldest_85 rfl (by decide) rfl rfl ?_
          refine z_iload (i := 4) (q := 88) dX7_eldest_86 rfl rfl ?_
          refine z_istore_n (i := 2) (ls' := [_, _, _, _, _, _]) (q := 89) dX7_eldest_88 rfl (by decide) rfl rfl ?_
          refine z_iinc (i := 4) (ls' := [_, _, _, _, _, _]) (v := nI (p + 1)) (q := 92) dX7_eldest_89 rfl (nI_1 _) (by decide) rfl rfl ?_
          refine z_goto (tgt := 30) dX7_eldest_92 (by decide) ?_
          rw [if_pos c2, if_pos (Int32.not_le.mp c4)]
          exact z_loc (zle_s (zle_s (zle_s (zle_s (zle_s (zle_n zle_0)))))) (ih (p + 1) _ _ (by omega) (by omega))
set_option maxHeartbeats 4000000 in
set_option maxRecDepth 100000 in
theorem ev_X7_eldest_state (d : Nat) (m : zm) (w : Int32) (h1 : m.1 0 6 = 0) : zEv (d + 1) zM_X7_eldest 0 0 [.ref 0, .int w] (lay m) (some (.int (-1000002)), lay (m)) := by
  refine zEv_of (by decide) (fun G => Nat.le_of_ble_eq_true rfl) ?_
  show ZW _ _ _ _ 0 [some (.ref 0), some (.int w), none, none, none, none] [] _ _ _ _
  refine z_aload_n (i := 0) (q := 1) dX7_eldest_0 rfl rfl rfl ?_
  refine m_getI (q := 4) dX7_eldest_1 fl_X7_35 ⟨by decide, _, rfl, rfl⟩ rfl ?_
  refine z_if_ne (tgt := 10) (q := 7) dX7_eldest_4 (by decide) rfl (fun c1 => ?_) (fun c1 => ?_)
  · contradiction
  · skip
    refine z_ldc (q := 9) dX7_eldest_7 wd_492 rfl ?_
    refine z_ireturn dX7_eldest_9 rfl rfl ?_ (Nat.le_refl _) (Nat.le_refl _)
    rfl
set_option maxHeartbeats 4000000 in
set_option maxRecDepth 100000 in
theorem ev_X7_eldest_bad (d : Nat) (m : zm) (w : Int32) (h1 : ¬ m.1 0 6 = 0) (h2 : w < 0 ∨ 1 < w) : zEv (d + 1) zM_X7_eldest 0 0 [.ref 0, .int w] (lay m) (some (.int (-1000001)), lay (m)) := by
  refine zEv_of (by decide) (fun G => Nat.le_of_ble_eq_true rfl) ?_
  show ZW _ _ _ _ 0 [some (.ref 0), some (.int w), none, none, none, none] [] _ _ _ _
  refine z_aload_n (i := 0) (q := 1) dX7_eldest_0 rfl rfl rfl ?_
  refine m_getI (q := 4) dX7_eldest_1 fl_X7_35 ⟨by decide, _, rfl, rfl⟩ rfl ?_
  refine z_if_ne (tgt := 10) (q := 7) dX7_eldest_4 (by decide) rfl (fun c1 => ?_) (fun c1 => ?_)
  · skip
    refine z_iload_n (i := 1) (q := 11) dX7_eldest_10 rfl rfl rfl ?_
    refine z_iconst (v := 0) (q := 12) dX7_eldest_11 (by decide) rfl ?_
    refine z_iconst (v := 1) (q := 13) dX7_eldest_12 (by decide) rfl ?_
    refine m_callS_r (As := [_, _, _]) (q := 16) mk_X7_isOutside dX7_eldest_13 wd_276 wd_277 (ev_X7_isOutside _ _ _ _ _) rfl (by decide) rfl (Nat.zero_le _) (Nat.zero_le _) rfl ?_
    refine zb_eq (tgt := 22) (q := 19) dX7_eldest_16 (by decide) rfl (fun c2 => ?_) (fun c2 => ?_)
    · contradiction
    · skip
      refine z_ldc (q := 21) dX7_eldest_19 wd_279 rfl ?_
      refine z_ireturn dX7_eldest_21 rfl rfl ?_ (Nat.le_refl _) (Nat.le_refl _)
      rfl
  · contradiction
set_option maxHeartbeats 4000000 in
set_option maxRecDepth 100000 in
theorem ev_X7_eldest (d : Nat) (m : zm) (N : Nat) (w : Int32) (h1 : ¬ m.1 0 6 = 0) (h2 : ¬ (w < 0 ∨ 1 < w)) (hN : m.1 14 3 = nI N) (hN4 : N ≤ 4) : zEv (d + 1) zM_X7_eldest 0 0 [.ref 0, .int w] (lay m) (some (.int (cEldL m w N 0 (-1000000) (-1))), lay (m)) := by
  refine zEv_of (by decide) (fun G => Nat.le_of_ble_eq_true rfl) ?_
  show ZW _ _ _ _ 0 [some (.ref 0), some (.int w), none, none, none, none] [] _ _ _ _
  refine z_aload_n (i := 0) (q := 1) dX7_eldest_0 rfl rfl rfl ?_
  refine m_getI (q := 4) dX7_eldest_1 fl_X7_35 ⟨by decide, _, rfl, rfl⟩ rfl ?_
  refine z_if_ne (tgt := 10) (q := 7) dX7_eldest_4 (by decide) rfl (fun c1 => ?_) (fun c1 => ?_)
  · skip
    refine z_iload_n (i := 1) (q := 11) dX7_eldest_10 rfl rfl rfl ?_
    refine z_iconst (v := 0) (q := 12) dX7_eldest_11 (by decide) rfl ?_
    refine z_iconst (v := 1) (q := 13) dX7_eldest_12 (by decide) rfl ?_
    refine m_callS_r (As := [_, _, _]) (q := 16) mk_X7_isOutside dX7_eldest_13 wd_276 wd_277 (ev_X7_isOutside _ _ _ _ _) rfl (by decide) rfl (Nat.zero_le _) (Nat.zero_le _) rfl ?_
    refine zb_eq (tgt := 22) (q := 19) dX7_eldest_16 (by decide) rfl (fun c2 => ?_) (fun c2 => ?_)
    · skip
      refine z_ldc (q := 24) dX7_eldest_22 wd_604 rfl ?_
      refine z_istore_n (i := 2) (ls' := [_, _, _, _, _, _]) (q := 25) dX7_eldest_24 rfl (by decide) rfl rfl ?_
      refine z_iconst (v := (-1)) (q := 26) dX7_eldest_25 (by decide) rfl ?_
      refine z_istore_n (i := 3) (ls' := [_, _, _, _, _, _]) (q := 27) dX7_eldest_26 rfl (by decide) rfl rfl ?_
      refine z_iconst (v := 0) (q := 28) dX7_eldest_27 (by decide) rfl ?_
      refine z_istore (i := 4) (ls' := [_, _, _, _, _, _]) (q := 30) dX7_eldest_28 (by decide) rfl rfl ?_
      exact lp_X7_eldest d m w N hN hN4 (N + 1) 0 _ _ (by omega) (by omega)
    · contradiction
  · contradiction
set_option maxHeartbeats 4000000 in
set_option maxRecDepth 100000 in
theorem lp_X7_rows (d : Nat) (m : zm) : ∀ (n : Nat) (r : Nat) (acc : Int32), 8 - r < n → r ≤ 8 → ZW zM_X7_rowsThere (d + 1) 0 0 4 [some (.ref 0), some (.int acc), some (.int (nI r))] [] (lay m) 0 0 (some (.int (cRowsL m (8 - r) r acc)), lay m) := by
  intro n
  induction n with
  | zero => intro r acc hm; exact absurd hm (by omega)
  | succ n ih =>
    intro r acc hm hi
    refine z_iload_n (i := 2) (q := 5) dX7_rowsThere_4 rfl rfl rfl ?_
    refine z_bipush (v := 8) (q := 7) dX7_rowsThere_5 (by decide) rfl ?_
    refine z_icmp_ge (tgt := 27) (q := 10) dX7_rowsThere_7 (by decide) rfl (fun c1 => ?_) (fun c1 => ?_)
    · skip
      rw [leW (W := 8) (by omega) hi c1]
      refine z_iload_n (i := 1) (q := 28) dX7_rowsThere_27 rfl rfl rfl ?_
      refine z_ireturn dX7_rowsThere_28 rfl rfl ?_ (Nat.le_refl _) (Nat.le_refl _)
      rfl
    · skip
      have hz := nleW (W := 8) (by omega) hi c1
      rw [hz.2, cRowsL]
      refine z_aload_n (i := 0) (q := 11) dX7_rowsThere_10 rfl rfl rfl ?_
      refine z_iload_n (i := 2) (q := 12) dX7_rowsThere_11 rfl rfl rfl ?_
      refine m_callV_r (As := [_]) (q := 15) mk_X7_isMissing dX7_rowsThere_12 wd_293 wd_295 wp_2 (ci := 7) rfl ⟨by decide, _, rfl⟩ (ev_X7_isMissing _ _ _  (by omega)) rfl (by decide) rfl (Nat.zero_le _) (Nat.zero_le _) rfl ?_
      refine zb_ne (tgt := 21) (q := 18) dX7_rowsThere_15 (by decide) rfl (fun c2 => ?_) (fun c2 => ?_)
      · skip
        refine z_iinc (i := 2) (ls' := [_, _, _]) (v := nI (r + 1)) (q := 24) dX7_rowsThere_21 rfl (nI_1 _) (by decide) rfl rfl ?_
        refine z_goto (tgt := 4) dX7_rowsThere_24 (by decide) ?_
        rw [if_pos c2]
        exact ih (r + 1) _ (by omega) (by omega)
      · skip
        refine z_iinc (i := 1) (ls' := [_, _, _]) (v := _ + 1) (q := 21) dX7_rowsThere_18 rfl rfl (by decide) rfl rfl ?_
        refine z_iinc (i := 2) (ls' := [_, _, _]) (v := nI (r + 1)) (q := 24) dX7_rowsThere_21 rfl (nI_1 _) (by decide) rfl rfl ?_
        refine z_goto (tgt := 4) dX7_rowsThere_24 (by decide) ?_
        rw [if_neg c2]
        exact ih (r + 1) _ (by omega) (by omega)
set_option maxHeartbeats 4000000 in
set_option maxRecDepth 100000 in
theorem ev_X7_rowsThere (d : Nat) (m : zm) : zEv (d + 1) zM_X7_rowsThere 0 0 [.ref 0] (lay m) (some (.int (cRowsL m 8 0 0)), lay (m)) := by
  refine zEv_of (by decide) (fun G => Nat.le_of_ble_eq_true rfl) ?_
  show ZW _ _ _ _ 0 [some (.ref 0), none, none] [] _ _ _ _
  refine z_iconst (v := 0) (q := 1) dX7_rowsThere_0 (by decide) rfl ?_
  refine z_istore_n (i := 1) (ls' := [_, _, _]) (q := 2) dX7_rowsThere_1 rfl (by decide) rfl rfl ?_
  refine z_iconst (v := 0) (q := 3) dX7_rowsThere_2 (by decide) rfl ?_
  refine z_istore_n (i := 2) (ls' := [_, _, _]) (q := 4) dX7_rowsThere_3 rfl (by decide) rfl rfl ?_
  exact lp_X7_rows d m 9 0 0 (by omega) (by omega)
set_option maxHeartbeats 4000000 in
set_option maxRecDepth 100000 in
theorem ev_X7_count (d : Nat) (m : zm) (w : Int32) : zEv (d + 2) zM_X7_count 0 0 [.ref 0, .int w] (lay m) (some (.int (if w = 0 then cRowsL m 8 0 0 else if w = 1 then m.1 14 3 else if w = 2 then m.1 14 2 else if w = 3 then m.1 14 0 else if w = 4 then m.1 46 2 else if w = 5 then m.1 14 1 else if w = 6 then m.1 12 1 else -1000001)), lay (m)) := by
  refine zEv_of (by decide) (fun G => Nat.le_of_ble_eq_true rfl) ?_
  show ZW _ _ _ _ 0 [some (.ref 0), some (.int w)] [] _ _ _ _
  refine z_iload_n (i := 1) (q := 1) dX7_count_0 rfl rfl rfl ?_
  refine z_table (tgts := [44, 49, 57, 65, 73, 81, 89]) (dt := 97) dX7_count_1 (by decide) (by decide) (by decide) (fun j t ht c1 => ?_) (fun c1 => ?_)
  · match j, ht, c1 with
    | 0, ht, c1 =>
      cases ht
      have c1 : _ = (0 : Int32) := Int32.toInt_inj.mp c1
      refine z_aload_n (i := 0) (q := 45) dX7_count_44 rfl rfl rfl ?_
      refine m_callV_r (As := []) (q := 48) mk_X7_rowsThere dX7_count_45 wd_729 wd_731 wp_29 (ci := 7) rfl ⟨by decide, _, rfl⟩ (ev_X7_rowsThere _ _) rfl (by decide) rfl (Nat.zero_le _) (Nat.zero_le _) rfl ?_
      refine z_ireturn dX7_count_48 rfl rfl ?_ (Nat.le_refl _) (Nat.le_refl _)
      simp [c1]
    | 1, ht, c1 =>
      cases ht
      have c1 : _ = (1 : Int32) := Int32.toInt_inj.mp c1
      refine z_aload_n (i := 0) (q := 50) dX7_count_49 rfl rfl rfl ?_
      refine m_getR (r := 14) (q := 53) dX7_count_50 fl_X7_42 ⟨by decide, _, rfl, rfl⟩ rfl ?_
      refine m_getI (q := 56) dX7_count_53 fl_X7_138 ⟨by decide, _, rfl, rfl⟩ rfl ?_
      refine z_ireturn dX7_count_56 rfl rfl ?_ (Nat.le_refl _) (Nat.le_refl _)
      simp [c1]
    | 2, ht, c1 =>
      cases ht
      have c1 : _ = (2 : Int32) := Int32.toInt_inj.mp c1
      refine z_aload_n (i := 0) (q := 58) dX7_count_57 rfl rfl rfl ?_
      refine m_getR (r := 14) (q := 61) dX7_count_58 fl_X7_42 ⟨by decide, _, rfl, rfl⟩ rfl ?_
      refine m_getI (q := 64) dX7_count_61 fl_X7_264 ⟨by decide, _, rfl, rfl⟩ rfl ?_
      refine z_ireturn dX7_count_64 rfl rfl ?_ (Nat.le_refl _) (Nat.le_refl _)
      simp [c1]
    | 3, ht, c1 =>
      cases ht
      have c1 : _ = (3 : Int32) := Int32.toInt_inj.mp c1
      refine z_aload_n (i := 0) (q := 66) dX7_count_65 rfl rfl rfl ?_
      refine m_getR (r := 14) (q := 69) dX7_count_66 fl_X7_42 ⟨by decide, _, rfl, rfl⟩ rfl ?_
      refine m_getI (q := 72) dX7_count_69 fl_X7_236 ⟨by decide, _, rfl, rfl⟩ rfl ?_
      refine z_ireturn dX7_count_72 rfl rfl ?_ (Nat.le_refl _) (Nat.le_refl _)
      simp [c1]
    | 4, ht, c1 =>
      cases ht
      have c1 : _ = (4 : Int32) := Int32.toInt_inj.mp c1
      refine z_aload_n (i := 0) (q := 74) dX7_count_73 rfl rfl rfl ?_
      refine m_getR (r := 46) (q := 77) dX7_count_74 fl_X7_60 ⟨by decide, _, rfl, rfl⟩ rfl ?_
      refine m_getI (q := 80) dX7_count_77 fl_X7_187 ⟨by decide, _, rfl, rfl⟩ rfl ?_
      refine z_ireturn dX7_count_80 rfl rfl ?_ (Nat.le_refl _) (Nat.le_refl _)
      simp [c1]
    | 5, ht, c1 =>
      cases ht
      have c1 : _ = (5 : Int32) := Int32.toInt_inj.mp c1
      refine z_aload_n (i := 0) (q := 82) dX7_count_81 rfl rfl rfl ?_
      refine m_getR (r := 14) (q := 85) dX7_count_82 fl_X7_42 ⟨by decide, _, rfl, rfl⟩ rfl ?_
      refine m_getI (q := 88) dX7_count_85 fl_X7_178 ⟨by decide, _, rfl, rfl⟩ rfl ?_
      refine z_ireturn dX7_count_88 rfl rfl ?_ (Nat.le_refl _) (Nat.le_refl _)
      simp [c1]
    | 6, ht, c1 =>
      cases ht
      have c1 : _ = (6 : Int32) := Int32.toInt_inj.mp c1
      refine z_aload_n (i := 0) (q := 90) dX7_count_89 rfl rfl rfl ?_
      refine m_getR (r := 12) (q := 93) dX7_count_90 fl_X7_28 ⟨by decide, _, rfl, rfl⟩ rfl ?_
      refine m_getI (q := 96) dX7_count_93 fl_X7_113 ⟨by decide, _, rfl, rfl⟩ rfl ?_
      refine z_ireturn dX7_count_96 rfl rfl ?_ (Nat.le_refl _) (Nat.le_refl _)
      simp [c1]
    | j + 7, ht, c1 => exact absurd ht (by simp)
  · skip
    have c1_0 := zout (v := 0) c1 (by decide)
    have c1_1 := zout (v := 1) c1 (by decide)
    have c1_2 := zout (v := 2) c1 (by decide)
    have c1_3 := zout (v := 3) c1 (by decide)
    have c1_4 := zout (v := 4) c1 (by decide)
    have c1_5 := zout (v := 5) c1 (by decide)
    have c1_6 := zout (v := 6) c1 (by decide)
    refine z_ldc (q := 99) dX7_count_97 wd_279 rfl ?_
    refine z_ireturn dX7_count_99 rfl rfl ?_ (Nat.le_refl _) (Nat.le_refl _)
    simp [c1_0, c1_1, c1_2, c1_3, c1_4, c1_5, c1_6]
def cImg (m : zm) (k a : Nat) : zm := upI (cStands m a 14) 45 k 1
def cRest (m : zm) (a : Nat) : zm := upI (upI (cStands m 14 a) 46 1 0) 46 2 0
set_option maxHeartbeats 4000000 in
set_option maxRecDepth 100000 in
theorem ev_X7_image_bad (d : Nat) (m : zm) (k : Int32) (hb : k < 0 ∨ 1 < k) : zEv (d + 2) zM_X7_image 0 0 [.ref 0, .int k] (lay m) (some (.int (-1000001)), lay (m)) := by
  refine zEv_of (by decide) (fun G => Nat.le_of_ble_eq_true rfl) ?_
  show ZW _ _ _ _ 0 [some (.ref 0), some (.int k)] [] _ _ _ _
  refine z_iload_n (i := 1) (q := 1) dX7_image_0 rfl rfl rfl ?_
  refine z_iconst (v := 0) (q := 2) dX7_image_1 (by decide) rfl ?_
  refine z_iconst (v := 1) (q := 3) dX7_image_2 (by decide) rfl ?_
  refine m_callS_r (As := [_, _, _]) (q := 6) mk_X7_isOutside dX7_image_3 wd_276 wd_277 (ev_X7_isOutside _ _ _ _ _) rfl (by decide) rfl (Nat.zero_le _) (Nat.zero_le _) rfl ?_
  refine zb_eq (tgt := 12) (q := 9) dX7_image_6 (by decide) rfl (fun c1 => ?_) (fun c1 => ?_)
  · contradiction
  · skip
    refine z_ldc (q := 11) dX7_image_9 wd_279 rfl ?_
    refine z_ireturn dX7_image_11 rfl rfl ?_ (Nat.le_refl _) (Nat.le_refl _)
    rfl
set_option maxHeartbeats 4000000 in
set_option maxRecDepth 100000 in
theorem ev_X7_image_state (d : Nat) (m : zm) (k : Int32) (h2 : ¬ (k < 0 ∨ 1 < k)) (h1 : m.1 0 6 = 0) : zEv (d + 2) zM_X7_image 0 0 [.ref 0, .int k] (lay m) (some (.int (-1000002)), lay (m)) := by
  refine zEv_of (by decide) (fun G => Nat.le_of_ble_eq_true rfl) ?_
  show ZW _ _ _ _ 0 [some (.ref 0), some (.int k)] [] _ _ _ _
  refine z_iload_n (i := 1) (q := 1) dX7_image_0 rfl rfl rfl ?_
  refine z_iconst (v := 0) (q := 2) dX7_image_1 (by decide) rfl ?_
  refine z_iconst (v := 1) (q := 3) dX7_image_2 (by decide) rfl ?_
  refine m_callS_r (As := [_, _, _]) (q := 6) mk_X7_isOutside dX7_image_3 wd_276 wd_277 (ev_X7_isOutside _ _ _ _ _) rfl (by decide) rfl (Nat.zero_le _) (Nat.zero_le _) rfl ?_
  refine zb_eq (tgt := 12) (q := 9) dX7_image_6 (by decide) rfl (fun c1 => ?_) (fun c1 => ?_)
  · skip
    refine z_aload_n (i := 0) (q := 13) dX7_image_12 rfl rfl rfl ?_
    refine m_getI (q := 16) dX7_image_13 fl_X7_35 ⟨by decide, _, rfl, rfl⟩ rfl ?_
    refine z_if_ne (tgt := 22) (q := 19) dX7_image_16 (by decide) rfl (fun c2 => ?_) (fun c2 => ?_)
    · contradiction
    · skip
      refine z_ldc (q := 21) dX7_image_19 wd_492 rfl ?_
      refine z_ireturn dX7_image_21 rfl rfl ?_ (Nat.le_refl _) (Nat.le_refl _)
      rfl
  · contradiction
set_option maxHeartbeats 4000000 in
set_option maxRecDepth 100000 in
theorem ev_X7_restore_bad (d : Nat) (m : zm) (k : Int32) (hb : k < 0 ∨ 1 < k) : zEv (d + 2) zM_X7_restore 0 0 [.ref 0, .int k] (lay m) (some (.int (-1000001)), lay (m)) := by
  refine zEv_of (by decide) (fun G => Nat.le_of_ble_eq_true rfl) ?_
  show ZW _ _ _ _ 0 [some (.ref 0), some (.int k)] [] _ _ _ _
  refine z_iload_n (i := 1) (q := 1) dX7_restore_0 rfl rfl rfl ?_
  refine z_iconst (v := 0) (q := 2) dX7_restore_1 (by decide) rfl ?_
  refine z_iconst (v := 1) (q := 3) dX7_restore_2 (by decide) rfl ?_
  refine m_callS_r (As := [_, _, _]) (q := 6) mk_X7_isOutside dX7_restore_3 wd_276 wd_277 (ev_X7_isOutside _ _ _ _ _) rfl (by decide) rfl (Nat.zero_le _) (Nat.zero_le _) rfl ?_
  refine zb_eq (tgt := 12) (q := 9) dX7_restore_6 (by decide) rfl (fun c1 => ?_) (fun c1 => ?_)
  · contradiction
  · skip
    refine z_ldc (q := 11) dX7_restore_9 wd_279 rfl ?_
    refine z_ireturn dX7_restore_11 rfl rfl ?_ (Nat.le_refl _) (Nat.le_refl _)
    rfl
set_option maxHeartbeats 4000000 in
set_option maxRecDepth 100000 in
theorem ev_X7_image_0 (d : Nat) (m : zm) (h1 : ¬ m.1 0 6 = 0) : zEv (d + 2) zM_X7_image 0 0 [.ref 0, .int 0] (lay m) (some (.int (1)), lay (cImg m 0 150)) := by
  refine zEv_of (by decide) (fun G => Nat.le_of_ble_eq_true rfl) ?_
  show ZW _ _ _ _ 0 [some (.ref 0), some (.int 0)] [] _ _ _ _
  refine z_iload_n (i := 1) (q := 1) dX7_image_0 rfl rfl rfl ?_
  refine z_iconst (v := 0) (q := 2) dX7_image_1 (by decide) rfl ?_
  refine z_iconst (v := 1) (q := 3) dX7_image_2 (by decide) rfl ?_
  refine m_callS_r (As := [_, _, _]) (q := 6) mk_X7_isOutside dX7_image_3 wd_276 wd_277 (ev_X7_isOutside _ _ _ _ _) rfl (by decide) rfl (Nat.zero_le _) (Nat.zero_le _) rfl ?_
  refine zb_eq (tgt := 12) (q := 9) dX7_image_6 (by decide) rfl (fun c1 => ?_) (fun c1 => ?_)
  · skip
    refine z_aload_n (i := 0) (q := 13) dX7_image_12 rfl rfl rfl ?_
    refine m_getI (q := 16) dX7_image_13 fl_X7_35 ⟨by decide, _, rfl, rfl⟩ rfl ?_
    refine z_if_ne (tgt := 22) (q := 19) dX7_image_16 (by decide) rfl (fun c2 => ?_) (fun c2 => ?_)
    · skip
      refine z_aload_n (i := 0) (q := 23) dX7_image_22 rfl rfl rfl ?_
      refine m_getR (r := 44) (q := 26) dX7_image_23 fl_X7_49 ⟨by decide, _, rfl, rfl⟩ rfl ?_
      refine z_iload_n (i := 1) (q := 27) dX7_image_26 rfl rfl rfl ?_
      refine m_aald (kd := 6) (N := 2) (b := 150) (q := 28) dX7_image_27 (by decide) ⟨by decide, _, rfl, by decide, rfl⟩ (by decide) rfl ?_
      refine z_aload_n (i := 0) (q := 29) dX7_image_28 rfl rfl rfl ?_
      refine m_getR (r := 14) (q := 32) dX7_image_29 fl_X7_42 ⟨by decide, _, rfl, rfl⟩ rfl ?_
      refine m_callV_v (As := [_]) (q := 35) mk_X3_standsAs dX7_image_32 wd_447 wd_448 wd_449 (ci := 3) rfl ⟨isLea_150.1, _, isLea_150.2.2.1⟩ (ev_X3_standsAs _ _ _ _ isLea_150 isLea_14) rfl (by decide) rfl (Nat.zero_le _) (Nat.zero_le _) rfl ?_
      refine z_aload_n (i := 0) (q := 36) dX7_image_35 rfl rfl rfl ?_
      refine m_getR (r := 45) (q := 39) dX7_image_36 fl_X7_53 ⟨by decide, _, rfl, rfl⟩ rfl ?_
      refine z_iload_n (i := 1) (q := 40) dX7_image_39 rfl rfl rfl ?_
      refine z_iconst (v := 1) (q := 41) dX7_image_40 (by decide) rfl ?_
      refine m_zastJ (N := 2) (q := 42) dX7_image_41 ⟨by decide, _, rfl⟩ (j := 0) (by decide) (vp_c (by decide)) rfl ?_
      refine z_iconst (v := 1) (q := 43) dX7_image_42 (by decide) rfl ?_
      refine z_ireturn dX7_image_43 rfl rfl ?_ (Nat.le_refl _) (Nat.le_refl _)
      rfl
    · contradiction
  · exact absurd c1 (by decide)
set_option maxHeartbeats 4000000 in
set_option maxRecDepth 100000 in
theorem ev_X7_restore_state_0 (d : Nat) (m : zm) (h1 : m.1 45 0 = 0) : zEv (d + 2) zM_X7_restore 0 0 [.ref 0, .int 0] (lay m) (some (.int (-1000002)), lay (m)) := by
  refine zEv_of (by decide) (fun G => Nat.le_of_ble_eq_true rfl) ?_
  show ZW _ _ _ _ 0 [some (.ref 0), some (.int 0)] [] _ _ _ _
  refine z_iload_n (i := 1) (q := 1) dX7_restore_0 rfl rfl rfl ?_
  refine z_iconst (v := 0) (q := 2) dX7_restore_1 (by decide) rfl ?_
  refine z_iconst (v := 1) (q := 3) dX7_restore_2 (by decide) rfl ?_
  refine m_callS_r (As := [_, _, _]) (q := 6) mk_X7_isOutside dX7_restore_3 wd_276 wd_277 (ev_X7_isOutside _ _ _ _ _) rfl (by decide) rfl (Nat.zero_le _) (Nat.zero_le _) rfl ?_
  refine zb_eq (tgt := 12) (q := 9) dX7_restore_6 (by decide) rfl (fun c1 => ?_) (fun c1 => ?_)
  · skip
    refine z_aload_n (i := 0) (q := 13) dX7_restore_12 rfl rfl rfl ?_
    refine m_getR (r := 45) (q := 16) dX7_restore_13 fl_X7_53 ⟨by decide, _, rfl, rfl⟩ rfl ?_
    refine z_iload_n (i := 1) (q := 17) dX7_restore_16 rfl rfl rfl ?_
    refine m_zaldJ (N := 2) (q := 18) dX7_restore_17 ⟨by decide, _, rfl⟩ (j := 0) (by decide) (vp_c (by decide)) rfl ?_
    refine z_if_ne (tgt := 24) (q := 21) dX7_restore_18 (by decide) rfl (fun c2 => ?_) (fun c2 => ?_)
    · contradiction
    · skip
      refine z_ldc (q := 23) dX7_restore_21 wd_492 rfl ?_
      refine z_ireturn dX7_restore_23 rfl rfl ?_ (Nat.le_refl _) (Nat.le_refl _)
      rfl
  · exact absurd c1 (by decide)
set_option maxHeartbeats 4000000 in
set_option maxRecDepth 100000 in
theorem ev_X7_restore_0 (d : Nat) (m : zm) (h1 : ¬ m.1 45 0 = 0) : zEv (d + 2) zM_X7_restore 0 0 [.ref 0, .int 0] (lay m) (some (.int (1)), lay (cRest m 150)) := by
  refine zEv_of (by decide) (fun G => Nat.le_of_ble_eq_true rfl) ?_
  show ZW _ _ _ _ 0 [some (.ref 0), some (.int 0)] [] _ _ _ _
  refine z_iload_n (i := 1) (q := 1) dX7_restore_0 rfl rfl rfl ?_
  refine z_iconst (v := 0) (q := 2) dX7_restore_1 (by decide) rfl ?_
  refine z_iconst (v := 1) (q := 3) dX7_restore_2 (by decide) rfl ?_
  refine m_callS_r (As := [_, _, _]) (q := 6) mk_X7_isOutside dX7_restore_3 wd_276 wd_277 (ev_X7_isOutside _ _ _ _ _) rfl (by decide) rfl (Nat.zero_le _) (Nat.zero_le _) rfl ?_
  refine zb_eq (tgt := 12) (q := 9) dX7_restore_6 (by decide) rfl (fun c1 => ?_) (fun c1 => ?_)
  · skip
    refine z_aload_n (i := 0) (q := 13) dX7_restore_12 rfl rfl rfl ?_
    refine m_getR (r := 45) (q := 16) dX7_restore_13 fl_X7_53 ⟨by decide, _, rfl, rfl⟩ rfl ?_
    refine z_iload_n (i := 1) (q := 17) dX7_restore_16 rfl rfl rfl ?_
    refine m_zaldJ (N := 2) (q := 18) dX7_restore_17 ⟨by decide, _, rfl⟩ (j := 0) (by decide) (vp_c (by decide)) rfl ?_
    refine z_if_ne (tgt := 24) (q := 21) dX7_restore_18 (by decide) rfl (fun c2 => ?_) (fun c2 => ?_)
    · skip
      refine z_aload_n (i := 0) (q := 25) dX7_restore_24 rfl rfl rfl ?_
      refine m_getR (r := 14) (q := 28) dX7_restore_25 fl_X7_42 ⟨by decide, _, rfl, rfl⟩ rfl ?_
      refine z_aload_n (i := 0) (q := 29) dX7_restore_28 rfl rfl rfl ?_
      refine m_getR (r := 44) (q := 32) dX7_restore_29 fl_X7_49 ⟨by decide, _, rfl, rfl⟩ rfl ?_
      refine z_iload_n (i := 1) (q := 33) dX7_restore_32 rfl rfl rfl ?_
      refine m_aald (kd := 6) (N := 2) (b := 150) (q := 34) dX7_restore_33 (by decide) ⟨by decide, _, rfl, by decide, rfl⟩ (by decide) rfl ?_
      refine m_callV_v (As := [_]) (q := 37) mk_X3_standsAs dX7_restore_34 wd_447 wd_448 wd_449 (ci := 3) rfl ⟨by decide, _, rfl⟩ (ev_X3_standsAs _ _ _ _ isLea_14 isLea_150) rfl (by decide) rfl (Nat.zero_le _) (Nat.zero_le _) rfl ?_
      refine z_aload_n (i := 0) (q := 38) dX7_restore_37 rfl rfl rfl ?_
      refine m_getR (r := 46) (q := 41) dX7_restore_38 fl_X7_60 ⟨by decide, _, rfl, rfl⟩ rfl ?_
      refine m_callV_v (As := []) (q := 44) mk_X0_forget dX7_restore_41 wd_459 wd_460 wd_461 (ci := 0) rfl ⟨by decide, _, rfl⟩ (ev_X0_forget _ _) rfl (by decide) rfl (Nat.zero_le _) (Nat.zero_le _) rfl ?_
      refine z_iconst (v := 1) (q := 45) dX7_restore_44 (by decide) rfl ?_
      refine z_ireturn dX7_restore_45 rfl rfl ?_ (Nat.le_refl _) (Nat.le_refl _)
      rfl
    · contradiction
  · exact absurd c1 (by decide)
set_option maxHeartbeats 4000000 in
set_option maxRecDepth 100000 in
theorem ev_X7_image_1 (d : Nat) (m : zm) (h1 : ¬ m.1 0 6 = 0) : zEv (d + 2) zM_X7_image 0 0 [.ref 0, .int 1] (lay m) (some (.int (1)), lay (cImg m 1 165)) := by
  refine zEv_of (by decide) (fun G => Nat.le_of_ble_eq_true rfl) ?_
  show ZW _ _ _ _ 0 [some (.ref 0), some (.int 1)] [] _ _ _ _
  refine z_iload_n (i := 1) (q := 1) dX7_image_0 rfl rfl rfl ?_
  refine z_iconst (v := 0) (q := 2) dX7_image_1 (by decide) rfl ?_
  refine z_iconst (v := 1) (q := 3) dX7_image_2 (by decide) rfl ?_
  refine m_callS_r (As := [_, _, _]) (q := 6) mk_X7_isOutside dX7_image_3 wd_276 wd_277 (ev_X7_isOutside _ _ _ _ _) rfl (by decide) rfl (Nat.zero_le _) (Nat.zero_le _) rfl ?_
  refine zb_eq (tgt := 12) (q := 9) dX7_image_6 (by decide) rfl (fun c1 => ?_) (fun c1 => ?_)
  · skip
    refine z_aload_n (i := 0) (q := 13) dX7_image_12 rfl rfl rfl ?_
    refine m_getI (q := 16) dX7_image_13 fl_X7_35 ⟨by decide, _, rfl, rfl⟩ rfl ?_
    refine z_if_ne (tgt := 22) (q := 19) dX7_image_16 (by decide) rfl (fun c2 => ?_) (fun c2 => ?_)
    · skip
      refine z_aload_n (i := 0) (q := 23) dX7_image_22 rfl rfl rfl ?_
      refine m_getR (r := 44) (q := 26) dX7_image_23 fl_X7_49 ⟨by decide, _, rfl, rfl⟩ rfl ?_
      refine z_iload_n (i := 1) (q := 27) dX7_image_26 rfl rfl rfl ?_
      refine m_aald (kd := 6) (N := 2) (b := 165) (q := 28) dX7_image_27 (by decide) ⟨by decide, _, rfl, by decide, rfl⟩ (by decide) rfl ?_
      refine z_aload_n (i := 0) (q := 29) dX7_image_28 rfl rfl rfl ?_
      refine m_getR (r := 14) (q := 32) dX7_image_29 fl_X7_42 ⟨by decide, _, rfl, rfl⟩ rfl ?_
      refine m_callV_v (As := [_]) (q := 35) mk_X3_standsAs dX7_image_32 wd_447 wd_448 wd_449 (ci := 3) rfl ⟨isLea_165.1, _, isLea_165.2.2.1⟩ (ev_X3_standsAs _ _ _ _ isLea_165 isLea_14) rfl (by decide) rfl (Nat.zero_le _) (Nat.zero_le _) rfl ?_
      refine z_aload_n (i := 0) (q := 36) dX7_image_35 rfl rfl rfl ?_
      refine m_getR (r := 45) (q := 39) dX7_image_36 fl_X7_53 ⟨by decide, _, rfl, rfl⟩ rfl ?_
      refine z_iload_n (i := 1) (q := 40) dX7_image_39 rfl rfl rfl ?_
      refine z_iconst (v := 1) (q := 41) dX7_image_40 (by decide) rfl ?_
      refine m_zastJ (N := 2) (q := 42) dX7_image_41 ⟨by decide, _, rfl⟩ (j := 1) (by decide) (vp_c (by decide)) rfl ?_
      refine z_iconst (v := 1) (q := 43) dX7_image_42 (by decide) rfl ?_
      refine z_ireturn dX7_image_43 rfl rfl ?_ (Nat.le_refl _) (Nat.le_refl _)
      rfl
    · contradiction
  · exact absurd c1 (by decide)
set_option maxHeartbeats 4000000 in
set_option maxRecDepth 100000 in
theorem ev_X7_restore_state_1 (d : Nat) (m : zm) (h1 : m.1 45 1 = 0) : zEv (d + 2) zM_X7_restore 0 0 [.ref 0, .int 1] (lay m) (some (.int (-1000002)), lay (m)) := by
  refine zEv_of (by decide) (fun G => Nat.le_of_ble_eq_true rfl) ?_
  show ZW _ _ _ _ 0 [some (.ref 0), some (.int 1)] [] _ _ _ _
  refine z_iload_n (i := 1) (q := 1) dX7_restore_0 rfl rfl rfl ?_
  refine z_iconst (v := 0) (q := 2) dX7_restore_1 (by decide) rfl ?_
  refine z_iconst (v := 1) (q := 3) dX7_restore_2 (by decide) rfl ?_
  refine m_callS_r (As := [_, _, _]) (q := 6) mk_X7_isOutside dX7_restore_3 wd_276 wd_277 (ev_X7_isOutside _ _ _ _ _) rfl (by decide) rfl (Nat.zero_le _) (Nat.zero_le _) rfl ?_
  refine zb_eq (tgt := 12) (q := 9) dX7_restore_6 (by decide) rfl (fun c1 => ?_) (fun c1 => ?_)
  · skip
    refine z_aload_n (i := 0) (q := 13) dX7_restore_12 rfl rfl rfl ?_
    refine m_getR (r := 45) (q := 16) dX7_restore_13 fl_X7_53 ⟨by decide, _, rfl, rfl⟩ rfl ?_
    refine z_iload_n (i := 1) (q := 17) dX7_restore_16 rfl rfl rfl ?_
    refine m_zaldJ (N := 2) (q := 18) dX7_restore_17 ⟨by decide, _, rfl⟩ (j := 1) (by decide) (vp_c (by decide)) rfl ?_
    refine z_if_ne (tgt := 24) (q := 21) dX7_restore_18 (by decide) rfl (fun c2 => ?_) (fun c2 => ?_)
    · contradiction
    · skip
      refine z_ldc (q := 23) dX7_restore_21 wd_492 rfl ?_
      refine z_ireturn dX7_restore_23 rfl rfl ?_ (Nat.le_refl _) (Nat.le_refl _)
      rfl
  · exact absurd c1 (by decide)
set_option maxHeartbeats 4000000 in
set_option maxRecDepth 100000 in
theorem ev_X7_restore_1 (d : Nat) (m : zm) (h1 : ¬ m.1 45 1 = 0) : zEv (d + 2) zM_X7_restore 0 0 [.ref 0, .int 1] (lay m) (some (.int (1)), lay (cRest m 165)) := by
  refine zEv_of (by decide) (fun G => Nat.le_of_ble_eq_true rfl) ?_
  show ZW _ _ _ _ 0 [some (.ref 0), some (.int 1)] [] _ _ _ _
  refine z_iload_n (i := 1) (q := 1) dX7_restore_0 rfl rfl rfl ?_
  refine z_iconst (v := 0) (q := 2) dX7_restore_1 (by decide) rfl ?_
  refine z_iconst (v := 1) (q := 3) dX7_restore_2 (by decide) rfl ?_
  refine m_callS_r (As := [_, _, _]) (q := 6) mk_X7_isOutside dX7_restore_3 wd_276 wd_277 (ev_X7_isOutside _ _ _ _ _) rfl (by decide) rfl (Nat.zero_le _) (Nat.zero_le _) rfl ?_
  refine zb_eq (tgt := 12) (q := 9) dX7_restore_6 (by decide) rfl (fun c1 => ?_) (fun c1 => ?_)
  · skip
    refine z_aload_n (i := 0) (q := 13) dX7_restore_12 rfl rfl rfl ?_
    refine m_getR (r := 45) (q := 16) dX7_restore_13 fl_X7_53 ⟨by decide, _, rfl, rfl⟩ rfl ?_
    refine z_iload_n (i := 1) (q := 17) dX7_restore_16 rfl rfl rfl ?_
    refine m_zaldJ (N := 2) (q := 18) dX7_restore_17 ⟨by decide, _, rfl⟩ (j := 1) (by decide) (vp_c (by decide)) rfl ?_
    refine z_if_ne (tgt := 24) (q := 21) dX7_restore_18 (by decide) rfl (fun c2 => ?_) (fun c2 => ?_)
    · skip
      refine z_aload_n (i := 0) (q := 25) dX7_restore_24 rfl rfl rfl ?_
      refine m_getR (r := 14) (q := 28) dX7_restore_25 fl_X7_42 ⟨by decide, _, rfl, rfl⟩ rfl ?_
      refine z_aload_n (i := 0) (q := 29) dX7_restore_28 rfl rfl rfl ?_
      refine m_getR (r := 44) (q := 32) dX7_restore_29 fl_X7_49 ⟨by decide, _, rfl, rfl⟩ rfl ?_
      refine z_iload_n (i := 1) (q := 33) dX7_restore_32 rfl rfl rfl ?_
      refine m_aald (kd := 6) (N := 2) (b := 165) (q := 34) dX7_restore_33 (by decide) ⟨by decide, _, rfl, by decide, rfl⟩ (by decide) rfl ?_
      refine m_callV_v (As := [_]) (q := 37) mk_X3_standsAs dX7_restore_34 wd_447 wd_448 wd_449 (ci := 3) rfl ⟨by decide, _, rfl⟩ (ev_X3_standsAs _ _ _ _ isLea_14 isLea_165) rfl (by decide) rfl (Nat.zero_le _) (Nat.zero_le _) rfl ?_
      refine z_aload_n (i := 0) (q := 38) dX7_restore_37 rfl rfl rfl ?_
      refine m_getR (r := 46) (q := 41) dX7_restore_38 fl_X7_60 ⟨by decide, _, rfl, rfl⟩ rfl ?_
      refine m_callV_v (As := []) (q := 44) mk_X0_forget dX7_restore_41 wd_459 wd_460 wd_461 (ci := 0) rfl ⟨by decide, _, rfl⟩ (ev_X0_forget _ _) rfl (by decide) rfl (Nat.zero_le _) (Nat.zero_le _) rfl ?_
      refine z_iconst (v := 1) (q := 45) dX7_restore_44 (by decide) rfl ?_
      refine z_ireturn dX7_restore_45 rfl rfl ?_ (Nat.le_refl _) (Nat.le_refl _)
      rfl
    · contradiction
  · exact absurd c1 (by decide)
