/-! ===== the class: foretold ===== -/
def cG (m : zm) (a : Nat) (y z : Int32) : Int64 := if (y < 0 ∨ 40 < y) ∨ (z < 0 ∨ 4 < z) then 0 else m.2 (a + 1) (y * 5 + z).toNatClampNeg
theorem yix (y k : Nat) : nI y * 5 + nI k = nI (y * 5 + k) := by
  rw [show (5 : Int32) = nI 5 from rfl, pk_mul, nI_add]
theorem outN {x : Int32} {N : Nat} {M : Int32} (hM : M = nI N) (hN : N < 2 ^ 31) (h : ¬ (x < 0 ∨ M < x)) : ∃ j : Nat, j ≤ N ∧ x = nI j := by
  subst hM
  obtain ⟨j, hj, rfl⟩ := nI_of (fun q => h (Or.inl q))
  refine ⟨j, ?_, rfl⟩
  rcases Nat.lt_or_ge N j with q | q
  · exact absurd (Or.inr (nI_lt (by omega) (by omega))) h
  · exact q
theorem gidx {y z : Int32} (h1 : ¬ (y < 0 ∨ 40 < y)) (h2 : ¬ (z < 0 ∨ 4 < z)) : vp_in (y * 5 + z) 205 := by
  obtain ⟨i, hi, rfl⟩ := outN (N := 40) rfl (by omega) h1
  obtain ⟨j, hj, rfl⟩ := outN (N := 4) rfl (by omega) h2
  rw [yix]
  exact vp_in_nI (by omega) (by omega)
def cArr (m : zm) (a p w y wa wb : Nat) : zm :=
  let g := m.1 w 2 - cOwn m p w
  let m1 := upL m (a + 1) (y * 5 + wa) (m.2 (a + 1) (y * 5 + wa) ||| cG m a (nI y - m.1 w 2) (m.1 w 1) <<< (g.toInt64 &&& 63))
  upL m1 (a + 1) (y * 5 + wb) (m1.2 (a + 1) (y * 5 + wb) ||| cG m1 a (nI y - m.1 w 2) (m.1 w 0) <<< (g.toInt64 &&& 63))
set_option maxHeartbeats 4000000 in
set_option maxRecDepth 100000 in
theorem ev_X2_gainsAt (d : Nat) (m : zm) (a : Nat) (y : Int32) (z : Int32) (hf : isFor a) : zEv (d + 1) zM_X2_gainsAt 0 0 [.ref a, .int y, .int z] (lay m) (some (.long (cG m a y z)), lay (m)) := by
  refine zEv_of (by decide) (fun G => Nat.le_of_ble_eq_true rfl) ?_
  show ZW _ _ _ _ 0 [some (.ref a), some (.int y), some (.int z)] [] _ _ _ _
  refine z_iload_n (i := 1) (q := 1) dX2_gainsAt_0 rfl rfl rfl ?_
  refine z_iconst (v := 0) (q := 2) dX2_gainsAt_1 (by decide) rfl ?_
  refine z_bipush (v := 40) (q := 4) dX2_gainsAt_2 (by decide) rfl ?_
  refine m_callSN_r (host := RX7) (As := [_, _, _]) (q := 7) mk_X7_isOutside dX2_gainsAt_4 (by decide +kernel) wd_277 (ev_X7_isOutside _ _ _ _ _) rfl (by decide) rfl (Nat.zero_le _) (Nat.zero_le _) rfl ?_
  refine zb_ne (tgt := 19) (q := 10) dX2_gainsAt_7 (by decide) rfl (fun c1 => ?_) (fun c1 => ?_)
  · skip
    refine z_lconst (v := 0) (q := 20) dX2_gainsAt_19 (by decide) rfl ?_
    refine z_lreturn dX2_gainsAt_20 rfl ?_ (Nat.le_refl _) (Nat.le_refl _)
    first
    | rw [show cG m a y z = 0 from if_pos (Or.inl c1)]
    | rw [show cG m a y z = 0 from if_pos (Or.inr c2)]
  · skip
    refine z_iload_n (i := 2) (q := 11) dX2_gainsAt_10 rfl rfl rfl ?_
    refine z_iconst (v := 0) (q := 12) dX2_gainsAt_11 (by decide) rfl ?_
    refine z_iconst (v := 4) (q := 13) dX2_gainsAt_12 (by decide) rfl ?_
    refine m_callSN_r (host := RX7) (As := [_, _, _]) (q := 16) mk_X7_isOutside dX2_gainsAt_13 (by decide +kernel) wd_277 (ev_X7_isOutside _ _ _ _ _) rfl (by decide) rfl (Nat.zero_le _) (Nat.zero_le _) rfl ?_
    refine zb_eq (tgt := 21) (q := 19) dX2_gainsAt_16 (by decide) rfl (fun c2 => ?_) (fun c2 => ?_)
    · skip
      refine z_aload_n (i := 0) (q := 22) dX2_gainsAt_21 rfl rfl rfl ?_
      refine m_getR (r := (a + 1)) (q := 25) dX2_gainsAt_22 fl_X2_9 ⟨hf.1, _, hf.2.2.1, rfl⟩ rfl ?_
      refine z_iload_n (i := 1) (q := 26) dX2_gainsAt_25 rfl rfl rfl ?_
      refine z_iconst (v := 5) (q := 27) dX2_gainsAt_26 (by decide) rfl ?_
      refine z_imul (q := 28) dX2_gainsAt_27 rfl ?_
      refine z_iload_n (i := 2) (q := 29) dX2_gainsAt_28 rfl rfl rfl ?_
      refine z_iadd (q := 30) dX2_gainsAt_29 rfl ?_
      refine m_laldJ (N := 205) (q := 31) dX2_gainsAt_30 ⟨hf.2.1, _, hf.2.2.2⟩ (j := (y * 5 + z).toNatClampNeg) rfl (gidx c1 c2) rfl ?_
      refine z_lreturn dX2_gainsAt_31 rfl ?_ (Nat.le_refl _) (Nat.le_refl _)
      rw [show cG m a y z = _ from if_neg (fun q => q.elim c1 c2)]
    · skip
      refine z_lconst (v := 0) (q := 20) dX2_gainsAt_19 (by decide) rfl ?_
      refine z_lreturn dX2_gainsAt_20 rfl ?_ (Nat.le_refl _) (Nat.le_refl _)
      first
      | rw [show cG m a y z = 0 from if_pos (Or.inl c1)]
      | rw [show cG m a y z = 0 from if_pos (Or.inr c2)]
set_option maxHeartbeats 4000000 in
set_option maxRecDepth 100000 in
theorem ev_X2_hasGain (d : Nat) (m : zm) (a : Nat) (y : Int32) (z : Int32) (g : Int32) (hf : isFor a) : zEv (d + 2) zM_X2_hasGain 0 0 [.ref a, .int y, .int z, .int g] (lay m) (some (.int (if ¬ (g < 0 ∨ 40 < g) ∧ ((cG m a y z).toUInt64 >>> (g.toInt64.toUInt64 &&& Int64.toUInt64 63)).toInt64 &&& 1 = 1 then 1 else 0)), lay (m)) := by
  refine zEv_of (by decide) (fun G => Nat.le_of_ble_eq_true rfl) ?_
  show ZW _ _ _ _ 0 [some (.ref a), some (.int y), some (.int z), some (.int g)] [] _ _ _ _
  refine z_iload_n (i := 3) (q := 1) dX2_hasGain_0 rfl rfl rfl ?_
  refine z_iconst (v := 0) (q := 2) dX2_hasGain_1 (by decide) rfl ?_
  refine z_bipush (v := 40) (q := 4) dX2_hasGain_2 (by decide) rfl ?_
  refine m_callSN_r (host := RX7) (As := [_, _, _]) (q := 7) mk_X7_isOutside dX2_hasGain_4 (by decide +kernel) wd_277 (ev_X7_isOutside _ _ _ _ _) rfl (by decide) rfl (Nat.zero_le _) (Nat.zero_le _) rfl ?_
  refine zb_ne (tgt := 29) (q := 10) dX2_hasGain_7 (by decide) rfl (fun c1 => ?_) (fun c1 => ?_)
  · skip
    refine z_iconst (v := 0) (q := 30) dX2_hasGain_29 (by decide) rfl ?_
    refine z_ireturn dX2_hasGain_30 rfl rfl ?_ (Nat.le_refl _) (Nat.le_refl _)
    simp [c1]
  · skip
    refine z_aload_n (i := 0) (q := 11) dX2_hasGain_10 rfl rfl rfl ?_
    refine z_iload_n (i := 1) (q := 12) dX2_hasGain_11 rfl rfl rfl ?_
    refine z_iload_n (i := 2) (q := 13) dX2_hasGain_12 rfl rfl rfl ?_
    refine m_callV_r (As := [_, _]) (q := 16) mk_X2_gainsAt dX2_hasGain_13 wd_586 wd_587 wd_588 (ci := 2) rfl ⟨hf.1, _, hf.2.2.1⟩ (ev_X2_gainsAt _ _ _ _ _ hf) rfl (by decide) rfl (Nat.zero_le _) (Nat.zero_le _) rfl ?_
    refine z_iload_n (i := 3) (q := 17) dX2_hasGain_16 rfl rfl rfl ?_
    refine z_lushr (q := 18) dX2_hasGain_17 rfl ?_
    refine z_lconst (v := 1) (q := 19) dX2_hasGain_18 (by decide) rfl ?_
    refine z_land (q := 20) dX2_hasGain_19 rfl ?_
    refine z_lconst (v := 1) (q := 21) dX2_hasGain_20 (by decide) rfl ?_
    refine z_lcmp (q := 22) dX2_hasGain_21 rfl ?_
    refine zl_ne (tgt := 29) (q := 25) dX2_hasGain_22 (by decide) rfl (fun c2 => ?_) (fun c2 => ?_)
    · skip
      refine z_iconst (v := 0) (q := 30) dX2_hasGain_29 (by decide) rfl ?_
      refine z_ireturn dX2_hasGain_30 rfl rfl ?_ (Nat.le_refl _) (Nat.le_refl _)
      simp [c1, c2]
    · skip
      refine z_iconst (v := 1) (q := 26) dX2_hasGain_25 (by decide) rfl ?_
      refine z_goto (tgt := 30) dX2_hasGain_26 (by decide) ?_
      refine z_ireturn dX2_hasGain_30 rfl rfl ?_ (Nat.le_refl _) (Nat.le_refl _)
      simp [c1, c2]
set_option maxHeartbeats 4000000 in
set_option maxRecDepth 100000 in
theorem ev_X2_arrive (d : Nat) (m : zm) (wa : Nat) (wb : Nat) (a : Nat) (p : Nat) (w : Nat) (y : Nat) (hf : isFor a) (hp : isPer p) (hw : isWay w) (hwa : m.1 w 0 = nI wa) (hwb : m.1 w 1 = nI wb) (hA : wa < 5) (hB : wb < 5) (hy : y < 41) : zEv (d + 2) zM_X2_arrive 0 0 [.ref a, .ref p, .ref w, .int (nI y)] (lay m) (none, lay (cArr m a p w y wa wb)) := by
  refine zEv_of (by decide) (fun G => Nat.le_of_ble_eq_true rfl) ?_
  show ZW _ _ _ _ 0 [some (.ref a), some (.ref p), some (.ref w), some (.int (nI y)), none] [] _ _ _ _
  refine z_aload_n (i := 2) (q := 1) dX2_arrive_0 rfl rfl rfl ?_
  refine m_getI (q := 4) dX2_arrive_1 fl_X2_46 ⟨hw.1, _, hw.2, rfl⟩ rfl ?_
  refine z_aload_n (i := 1) (q := 5) dX2_arrive_4 rfl rfl rfl ?_
  refine z_aload_n (i := 2) (q := 6) dX2_arrive_5 rfl rfl rfl ?_
  refine m_callV_r (As := [_]) (q := 9) mk_X4_ownYears dX2_arrive_6 wd_596 wd_511 wd_512 (ci := 4) rfl ⟨hp.1, _, hp.2⟩ (ev_X4_ownYears _ _ _ _ hp hw) rfl (by simp [Value.category]) rfl (Nat.zero_le _) (Nat.zero_le _) rfl ?_
  refine z_isub (q := 10) dX2_arrive_9 rfl ?_
  refine z_istore (i := 4) (ls' := [_, _, _, _, _]) (q := 12) dX2_arrive_10 (by decide) rfl rfl ?_
  refine z_aload_n (i := 0) (q := 13) dX2_arrive_12 rfl rfl rfl ?_
  refine m_getR (r := (a + 1)) (q := 16) dX2_arrive_13 fl_X2_9 ⟨hf.1, _, hf.2.2.1, rfl⟩ rfl ?_
  refine z_iload_n (i := 3) (q := 17) dX2_arrive_16 rfl rfl rfl ?_
  refine z_iconst (v := 5) (q := 18) dX2_arrive_17 (by decide) rfl ?_
  refine z_imul (q := 19) dX2_arrive_18 rfl ?_
  refine z_aload_n (i := 2) (q := 20) dX2_arrive_19 rfl rfl rfl ?_
  refine m_getI (q := 23) dX2_arrive_20 fl_X2_55 ⟨hw.1, _, hw.2, rfl⟩ rfl ?_
  refine z_iadd (q := 24) dX2_arrive_23 rfl ?_
  rw [show nI y * 5 + m.1 w 0 = nI (y * 5 + wa) from by rw [hwa]; exact yix y wa]
  refine z_dup2 (q := 25) dX2_arrive_24 rfl rfl rfl ?_
  refine m_laldJ (N := 205) (q := 26) dX2_arrive_25 ⟨hf.2.1, _, hf.2.2.2⟩ (j := (y * 5 + wa)) (nI_clamp (by omega)) (vp_in_nI (by omega) (by decide)) rfl ?_
  refine z_aload_n (i := 0) (q := 27) dX2_arrive_26 rfl rfl rfl ?_
  refine z_iload_n (i := 3) (q := 28) dX2_arrive_27 rfl rfl rfl ?_
  refine z_aload_n (i := 2) (q := 29) dX2_arrive_28 rfl rfl rfl ?_
  refine m_getI (q := 32) dX2_arrive_29 fl_X2_46 ⟨hw.1, _, hw.2, rfl⟩ rfl ?_
  refine z_isub (q := 33) dX2_arrive_32 rfl ?_
  refine z_aload_n (i := 2) (q := 34) dX2_arrive_33 rfl rfl rfl ?_
  refine m_getI (q := 37) dX2_arrive_34 fl_X2_58 ⟨hw.1, _, hw.2, rfl⟩ rfl ?_
  refine m_callV_r (As := [_, _]) (q := 40) mk_X2_gainsAt dX2_arrive_37 wd_586 wd_587 wd_588 (ci := 2) rfl ⟨hf.1, _, hf.2.2.1⟩ (ev_X2_gainsAt _ _ _ _ _ hf) rfl (by simp [Value.category]) rfl (Nat.zero_le _) (Nat.zero_le _) rfl ?_
  refine z_iload (i := 4) (q := 42) dX2_arrive_40 rfl rfl ?_
  refine z_lshl (q := 43) dX2_arrive_42 rfl ?_
  refine z_lor (q := 44) dX2_arrive_43 rfl ?_
  refine m_lastJ (N := 205) (q := 45) dX2_arrive_44 ⟨hf.2.1, _, hf.2.2.2⟩ (j := (y * 5 + wa)) (nI_clamp (by omega)) (vp_in_nI (by omega) (by decide)) rfl ?_
  refine z_aload_n (i := 0) (q := 46) dX2_arrive_45 rfl rfl rfl ?_
  refine m_getR (r := (a + 1)) (q := 49) dX2_arrive_46 fl_X2_9 ⟨hf.1, _, hf.2.2.1, rfl⟩ rfl ?_
  refine z_iload_n (i := 3) (q := 50) dX2_arrive_49 rfl rfl rfl ?_
  refine z_iconst (v := 5) (q := 51) dX2_arrive_50 (by decide) rfl ?_
  refine z_imul (q := 52) dX2_arrive_51 rfl ?_
  refine z_aload_n (i := 2) (q := 53) dX2_arrive_52 rfl rfl rfl ?_
  refine m_getI (q := 56) dX2_arrive_53 fl_X2_58 ⟨hw.1, _, hw.2, rfl⟩ rfl ?_
  simp only [upL_1]
  refine z_iadd (q := 57) dX2_arrive_56 rfl ?_
  rw [show nI y * 5 + m.1 w 1 = nI (y * 5 + wb) from by rw [hwb]; exact yix y wb]
  refine z_dup2 (q := 58) dX2_arrive_57 rfl rfl rfl ?_
  refine m_laldJ (N := 205) (q := 59) dX2_arrive_58 ⟨hf.2.1, _, hf.2.2.2⟩ (j := (y * 5 + wb)) (nI_clamp (by omega)) (vp_in_nI (by omega) (by decide)) rfl ?_
  refine z_aload_n (i := 0) (q := 60) dX2_arrive_59 rfl rfl rfl ?_
  refine z_iload_n (i := 3) (q := 61) dX2_arrive_60 rfl rfl rfl ?_
  refine z_aload_n (i := 2) (q := 62) dX2_arrive_61 rfl rfl rfl ?_
  refine m_getI (q := 65) dX2_arrive_62 fl_X2_46 ⟨hw.1, _, hw.2, rfl⟩ rfl ?_
  simp only [upL_1]
  refine z_isub (q := 66) dX2_arrive_65 rfl ?_
  refine z_aload_n (i := 2) (q := 67) dX2_arrive_66 rfl rfl rfl ?_
  refine m_getI (q := 70) dX2_arrive_67 fl_X2_55 ⟨hw.1, _, hw.2, rfl⟩ rfl ?_
  simp only [upL_1]
  refine m_callV_r (As := [_, _]) (q := 73) mk_X2_gainsAt dX2_arrive_70 wd_586 wd_587 wd_588 (ci := 2) rfl ⟨hf.1, _, hf.2.2.1⟩ (ev_X2_gainsAt _ _ _ _ _ hf) rfl (by simp [Value.category]) rfl (Nat.zero_le _) (Nat.zero_le _) rfl ?_
  refine z_iload (i := 4) (q := 75) dX2_arrive_73 rfl rfl ?_
  refine z_lshl (q := 76) dX2_arrive_75 rfl ?_
  refine z_lor (q := 77) dX2_arrive_76 rfl ?_
  refine m_lastJ (N := 205) (q := 78) dX2_arrive_77 ⟨hf.2.1, _, hf.2.2.2⟩ (j := (y * 5 + wb)) (nI_clamp (by omega)) (vp_in_nI (by omega) (by decide)) rfl ?_
  refine z_return dX2_arrive_78 rfl ?_ (Nat.le_refl _) (Nat.le_refl _)
  rfl
