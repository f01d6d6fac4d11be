/-! ===== the model: rows ===== -/
theorem nI_mul (a b : Nat) : nI a * nI b = nI (a * b) := by
  unfold nI
  rw [← Int32.ofNat_mul]
theorem z_in64 {v lo hi : Int32} {lo' hi' : Int64} (e1 : lo.toInt64 = lo') (e2 : hi.toInt64 = hi') : (v.toInt64 < lo' ↔ v < lo) ∧ (hi' < v.toInt64 ↔ hi < v) := by
  subst e1
  subst e2
  exact ⟨zi64_lt _ _, zi64_lt _ _⟩
set_option maxHeartbeats 4000000 in
set_option maxRecDepth 100000 in
theorem ev_X8_inL (d : Nat) (h : zH) (v : Int64) (a : Int64) (b : Int64) : zEv (d) zM_X8_in 0 0 [.long v, .long a, .long b] (h) (some (.int (if ¬ (v < a ∨ b < v) then 1 else 0)), h) := by
  refine zEv_of (by decide) (fun G => Nat.le_of_ble_eq_true rfl) ?_
  show ZW _ _ _ _ 0 [some (.long v), none, some (.long a), none, some (.long b), none] [] _ _ _ _
  refine z_lload_n (i := 0) (q := 1) dX8_in_0 rfl rfl rfl ?_
  refine z_lload_n (i := 2) (q := 2) dX8_in_1 rfl rfl rfl ?_
  refine z_lcmp (q := 3) dX8_in_2 rfl ?_
  refine zl_lt (tgt := 17) (q := 6) dX8_in_3 (by decide) rfl (fun c1 => ?_) (fun c1 => ?_)
  · skip
    refine z_iconst (v := 0) (q := 18) dX8_in_17 (by decide) rfl ?_
    refine z_ireturn dX8_in_18 rfl rfl ?_ (Nat.le_refl _) (Nat.le_refl _)
    simp [c1]
  · skip
    refine z_lload_n (i := 0) (q := 7) dX8_in_6 rfl rfl rfl ?_
    refine z_lload (i := 4) (q := 9) dX8_in_7 rfl rfl ?_
    refine z_lcmp (q := 10) dX8_in_9 rfl ?_
    refine zl_gt (tgt := 17) (q := 13) dX8_in_10 (by decide) rfl (fun c2 => ?_) (fun c2 => ?_)
    · skip
      refine z_iconst (v := 0) (q := 18) dX8_in_17 (by decide) rfl ?_
      refine z_ireturn dX8_in_18 rfl rfl ?_ (Nat.le_refl _) (Nat.le_refl _)
      simp [c1, c2]
    · skip
      refine z_iconst (v := 1) (q := 14) dX8_in_13 (by decide) rfl ?_
      refine z_goto (tgt := 18) dX8_in_14 (by decide) ?_
      refine z_ireturn dX8_in_18 rfl rfl ?_ (Nat.le_refl _) (Nat.le_refl _)
      simp [c1, c2]
theorem ev_X8_in (d : Nat) (h : zH) (v lo hi : Int32) {lo' hi' : Int64} (e1 : lo.toInt64 = lo') (e2 : hi.toInt64 = hi') : zEv d zM_X8_in 0 0 [.long v.toInt64, .long lo', .long hi'] h (some (.int (if ¬ (v < lo ∨ hi < v) then 1 else 0)), h) := by
  have e := ev_X8_inL d h v.toInt64 lo' hi'
  have z := z_in64 (v := v) e1 e2
  rw [show (if ¬ (v.toInt64 < lo' ∨ hi' < v.toInt64) then (1 : Int32) else 0) = (if ¬ (v < lo ∨ hi < v) then 1 else 0) from ite_congr (by rw [z.1, z.2]) (fun _ => rfl) (fun _ => rfl)] at e
  exact e
set_option maxHeartbeats 4000000 in
set_option maxRecDepth 100000 in
theorem ev_X8_finding (d : Nat) (m : zm) (z : Int32) : zEv (d) zM_X8_finding 0 0 [.ref 180, .int z] (lay m) (some (.int (-1000010 - z)), lay (upI m 180 1 z)) := by
  refine zEv_of (by decide) (fun G => Nat.le_of_ble_eq_true rfl) ?_
  show ZW _ _ _ _ 0 [some (.ref 180), some (.int z)] [] _ _ _ _
  refine z_aload_n (i := 0) (q := 1) dX8_finding_0 rfl rfl rfl ?_
  refine z_iload_n (i := 1) (q := 2) dX8_finding_1 rfl rfl rfl ?_
  refine m_putI (q := 5) dX8_finding_2 fp_X8_52 ⟨by decide, _, rfl, rfl⟩ ⟨rfl, rfl⟩ rfl ?_
  refine z_ldc (q := 7) dX8_finding_5 wd_836 rfl ?_
  refine z_iload_n (i := 1) (q := 8) dX8_finding_7 rfl rfl rfl ?_
  refine z_isub (q := 9) dX8_finding_8 rfl ?_
  refine z_ireturn dX8_finding_9 rfl rfl ?_ (Nat.le_refl _) (Nat.le_refl _)
  rfl
set_option maxHeartbeats 4000000 in
set_option maxRecDepth 100000 in
theorem ev_X8_isRow (d : Nat) (h : zH) (r : Int32) : zEv (d + 1) zM_X8_isRow 0 0 [.int r] (h) (some (.int (if ¬ (r < 0 ∨ 7 < r) then 1 else 0)), h) := by
  refine zEv_of (by decide) (fun G => Nat.le_of_ble_eq_true rfl) ?_
  show ZW _ _ _ _ 0 [some (.int r)] [] _ _ _ _
  refine z_iload_n (i := 0) (q := 1) dX8_isRow_0 rfl rfl rfl ?_
  refine z_i2l (q := 2) dX8_isRow_1 rfl ?_
  refine z_lconst (v := 0) (q := 3) dX8_isRow_2 (by decide) rfl ?_
  refine z_ldc2 (q := 6) dX8_isRow_3 wd_826 rfl ?_
  refine m_callS_r (As := [_, _, _]) (q := 9) mk_X8_in dX8_isRow_6 wd_827 wd_828 (ev_X8_in _ _ _ (0) (7) (by decide) (by decide)) rfl (by decide) rfl (Nat.zero_le _) (Nat.zero_le _) rfl ?_
  refine z_ireturn dX8_isRow_9 rfl zb_nar ?_ (Nat.le_refl _) (Nat.le_refl _)
  rfl
abbrev mT (m : zm) : zm := upI m 180 0 0
def mFill (m : zm) (a b i : Nat) : zm := (fun c k => if c = a ∧ b ≤ k ∧ k < b + i then 0 else m.1 c k, m.2)
theorem mFill_0 (m : zm) (a b : Nat) : mFill m a b 0 = m := by
  refine Prod.ext (funext fun c => funext fun k => ?_) rfl
  simp only [mFill]
  rw [if_neg (by omega)]
theorem mFill_s (m : zm) (a b i : Nat) : upI (mFill m a b i) a (b + i) 0 = mFill m a b (i + 1) := by
  refine Prod.ext (funext fun c => funext fun k => ?_) rfl
  simp only [upI, mFill]
  by_cases h : c = a ∧ k = b + i
  · rw [if_pos h, if_pos (by omega)]
  · rw [if_neg h]
    by_cases h2 : c = a ∧ b ≤ k ∧ k < b + i
    · rw [if_pos h2, if_pos (by omega)]
    · rw [if_neg h2, if_neg (by omega)]
def mRow (m : zm) (r : Nat) (l n : Int32) : zm := mFill (upI (upI (upI (mT m) 180 1 0) 181 r l) 182 r n) 183 (40 * r) 40
def mST (m : zm) (z : Int32) : zm := upI (upI (mT m) 180 1 0) 180 1 z
set_option maxHeartbeats 4000000 in
set_option maxRecDepth 100000 in
theorem lp_X8_row (d : Nat) (m : zm) (r : Nat) (hr : r < 8) (l z : Int32) : ∀ (n : Nat) (i : Nat), 40 - i < n → i ≤ 40 → ZW zM_X8_row (d + 2) 0 0 65 [some (.ref 180), some (.int (nI r)), some (.int l), some (.int z), some (.int (nI i))] [] (lay (mFill m 183 (40 * r) i)) 0 0 (some (.int z), lay (mFill m 183 (40 * r) 40)) := by
  intro n
  induction n with
  | zero => intro i hm; exact absurd hm (by omega)
  | succ n ih =>
    intro i hm hi
    refine z_iload (i := 4) (q := 67) dX8_row_65 rfl rfl ?_
    refine z_bipush (v := 40) (q := 69) dX8_row_67 (by decide) rfl ?_
    refine z_icmp_ge (tgt := 91) (q := 72) dX8_row_69 (by decide) rfl (fun c1 => ?_) (fun c1 => ?_)
    · skip
      have hi40 := ge40 hi c1
      subst hi40
      refine z_iload_n (i := 3) (q := 92) dX8_row_91 rfl rfl rfl ?_
      refine z_ireturn dX8_row_92 rfl rfl ?_ (Nat.le_refl _) (Nat.le_refl _)
      rfl
    · skip
      have hi40 := nge40 hi c1
      refine z_aload_n (i := 0) (q := 73) dX8_row_72 rfl rfl rfl ?_
      refine m_getR (r := 183) (q := 76) dX8_row_73 fl_X8_16 ⟨by decide, _, rfl, rfl⟩ rfl ?_
      refine z_bipush (v := 40) (q := 78) dX8_row_76 (by decide) rfl ?_
      refine z_iload_n (i := 1) (q := 79) dX8_row_78 rfl rfl rfl ?_
      refine z_imul (q := 80) dX8_row_79 rfl ?_
      rw [show 40 * nI r = nI (40 * r) from nI_mul 40 _]
      refine z_iload (i := 4) (q := 82) dX8_row_80 rfl rfl ?_
      refine z_iadd (q := 83) dX8_row_82 rfl ?_
      rw [show nI (40 * r) + nI i = nI ((40 * r) + i) from nI_add _ _]
      refine z_iconst (v := 0) (q := 84) dX8_row_83 (by decide) rfl ?_
      refine m_iastJ (N := 320) (q := 85) dX8_row_84 ⟨by decide, _, rfl⟩ (j := ((40 * r) + i)) (nI_clamp (by omega)) (vp_in_nI (by omega) (by decide)) rfl ?_
      refine z_iinc (i := 4) (ls' := [_, _, _, _, _]) (v := nI (i + 1)) (q := 88) dX8_row_85 rfl (nI_1 _) (by decide) rfl rfl ?_
      refine z_goto (tgt := 65) dX8_row_88 (by decide) ?_
      rw [mFill_s]
      exact ih (i + 1) (by omega) (by omega)
set_option maxHeartbeats 4000000 in
set_option maxRecDepth 100000 in
theorem ev_X8_row_bad (d : Nat) (m : zm) (r : Int32) (l : Int32) (z : Int32) (hb : (r < 0 ∨ 7 < r) ∨ (l < 0 ∨ 2 < l) ∨ 40 < z) : zEv (d + 2) zM_X8_row 0 0 [.ref 180, .int r, .int l, .int z] (lay m) (some (.int (-1000001)), lay (mT m)) := by
  refine zEv_of (by decide) (fun G => Nat.le_of_ble_eq_true rfl) ?_
  show ZW _ _ _ _ 0 [some (.ref 180), some (.int r), some (.int l), some (.int z), none] [] _ _ _ _
  refine z_aload_n (i := 0) (q := 1) dX8_row_0 rfl rfl rfl ?_
  refine z_iconst (v := 0) (q := 2) dX8_row_1 (by decide) rfl ?_
  refine m_putI (q := 5) dX8_row_2 fp_X8_48 ⟨by decide, _, rfl, rfl⟩ ⟨rfl, rfl⟩ rfl ?_
  refine z_iload_n (i := 1) (q := 6) dX8_row_5 rfl rfl rfl ?_
  refine m_callS_r (As := [_]) (q := 9) mk_X8_isRow dX8_row_6 wd_823 wd_824 (ev_X8_isRow _ _ _) rfl (by decide) rfl (Nat.zero_le _) (Nat.zero_le _) rfl ?_
  refine zb_eq (tgt := 30) (q := 12) dX8_row_9 (by decide) rfl (fun c1 => ?_) (fun c1 => ?_)
  · skip
    refine z_ldc (q := 32) dX8_row_30 wd_831 rfl ?_
    refine z_ireturn dX8_row_32 rfl rfl ?_ (Nat.le_refl _) (Nat.le_refl _)
    rfl
  · skip
    refine z_iload_n (i := 2) (q := 13) dX8_row_12 rfl rfl rfl ?_
    refine z_i2l (q := 14) dX8_row_13 rfl ?_
    refine z_lconst (v := 0) (q := 15) dX8_row_14 (by decide) rfl ?_
    refine z_ldc2 (q := 18) dX8_row_15 wd_830 rfl ?_
    refine m_callS_r (As := [_, _, _]) (q := 21) mk_X8_in dX8_row_18 wd_827 wd_828 (ev_X8_in _ _ _ (0) (2) (by decide) (by decide)) rfl (by decide) rfl (Nat.zero_le _) (Nat.zero_le _) rfl ?_
    refine zb_eq (tgt := 30) (q := 24) dX8_row_21 (by decide) rfl (fun c2 => ?_) (fun c2 => ?_)
    · skip
      refine z_ldc (q := 32) dX8_row_30 wd_831 rfl ?_
      refine z_ireturn dX8_row_32 rfl rfl ?_ (Nat.le_refl _) (Nat.le_refl _)
      rfl
    · skip
      refine z_iload_n (i := 3) (q := 25) dX8_row_24 rfl rfl rfl ?_
      refine z_bipush (v := 40) (q := 27) dX8_row_25 (by decide) rfl ?_
      refine z_icmp_le (tgt := 33) (q := 30) dX8_row_27 (by decide) rfl (fun c3 => ?_) (fun c3 => ?_)
      · exact absurd hb (fun q => q.elim c1 (fun q => q.elim c2 (fun q => absurd c3 (Int32.not_le.mpr q))))
      · skip
        refine z_ldc (q := 32) dX8_row_30 wd_831 rfl ?_
        refine z_ireturn dX8_row_32 rfl rfl ?_ (Nat.le_refl _) (Nat.le_refl _)
        rfl
set_option maxHeartbeats 4000000 in
set_option maxRecDepth 100000 in
theorem ev_X8_row_size (d : Nat) (m : zm) (r : Int32) (l : Int32) (z : Int32) (h1 : ¬ (r < 0 ∨ 7 < r)) (h2 : ¬ (l < 0 ∨ 2 < l)) (h3 : z < 0) : zEv (d + 2) zM_X8_row 0 0 [.ref 180, .int r, .int l, .int z] (lay m) (some (.int (-1000010 - 4)), lay (mST m 4)) := by
  refine zEv_of (by decide) (fun G => Nat.le_of_ble_eq_true rfl) ?_
  show ZW _ _ _ _ 0 [some (.ref 180), some (.int r), some (.int l), some (.int z), none] [] _ _ _ _
  refine z_aload_n (i := 0) (q := 1) dX8_row_0 rfl rfl rfl ?_
  refine z_iconst (v := 0) (q := 2) dX8_row_1 (by decide) rfl ?_
  refine m_putI (q := 5) dX8_row_2 fp_X8_48 ⟨by decide, _, rfl, rfl⟩ ⟨rfl, rfl⟩ rfl ?_
  refine z_iload_n (i := 1) (q := 6) dX8_row_5 rfl rfl rfl ?_
  refine m_callS_r (As := [_]) (q := 9) mk_X8_isRow dX8_row_6 wd_823 wd_824 (ev_X8_isRow _ _ _) rfl (by decide) rfl (Nat.zero_le _) (Nat.zero_le _) rfl ?_
  refine zb_eq (tgt := 30) (q := 12) dX8_row_9 (by decide) rfl (fun c1 => ?_) (fun c1 => ?_)
  · exact absurd h1 c1
  · skip
    refine z_iload_n (i := 2) (q := 13) dX8_row_12 rfl rfl rfl ?_
    refine z_i2l (q := 14) dX8_row_13 rfl ?_
    refine z_lconst (v := 0) (q := 15) dX8_row_14 (by decide) rfl ?_
    refine z_ldc2 (q := 18) dX8_row_15 wd_830 rfl ?_
    refine m_callS_r (As := [_, _, _]) (q := 21) mk_X8_in dX8_row_18 wd_827 wd_828 (ev_X8_in _ _ _ (0) (2) (by decide) (by decide)) rfl (by decide) rfl (Nat.zero_le _) (Nat.zero_le _) rfl ?_
    refine zb_eq (tgt := 30) (q := 24) dX8_row_21 (by decide) rfl (fun c2 => ?_) (fun c2 => ?_)
    · exact absurd h2 c2
    · skip
      refine z_iload_n (i := 3) (q := 25) dX8_row_24 rfl rfl rfl ?_
      refine z_bipush (v := 40) (q := 27) dX8_row_25 (by decide) rfl ?_
      refine z_icmp_le (tgt := 33) (q := 30) dX8_row_27 (by decide) rfl (fun c3 => ?_) (fun c3 => ?_)
      · skip
        refine z_aload_n (i := 0) (q := 34) dX8_row_33 rfl rfl rfl ?_
        refine z_iconst (v := 0) (q := 35) dX8_row_34 (by decide) rfl ?_
        refine m_putI (q := 38) dX8_row_35 fp_X8_52 ⟨by decide, _, rfl, rfl⟩ ⟨rfl, rfl⟩ rfl ?_
        refine z_iload_n (i := 3) (q := 39) dX8_row_38 rfl rfl rfl ?_
        refine z_if_ge (tgt := 48) (q := 42) dX8_row_39 (by decide) rfl (fun c4 => ?_) (fun c4 => ?_)
        · exact absurd c4 (Int32.not_le.mpr h3)
        · skip
          refine z_aload_n (i := 0) (q := 43) dX8_row_42 rfl rfl rfl ?_
          refine z_iconst (v := 4) (q := 44) dX8_row_43 (by decide) rfl ?_
          refine m_callV_r (As := [_]) (q := 47) mk_X8_finding dX8_row_44 wd_832 wd_834 wp_30 (ci := 8) rfl ⟨by decide, _, rfl⟩ (ev_X8_finding _ _ _) rfl (by decide) rfl (Nat.zero_le _) (Nat.zero_le _) rfl ?_
          refine z_ireturn dX8_row_47 rfl rfl ?_ (Nat.le_refl _) (Nat.le_refl _)
          rfl
      · exact absurd (show z ≤ 40 from Int32.le_of_lt (Int32.lt_of_lt_of_le h3 (by decide))) c3
set_option maxHeartbeats 4000000 in
set_option maxRecDepth 100000 in
theorem ev_X8_row (d : Nat) (m : zm) (r : Nat) (l : Int32) (z : Int32) (h2 : ¬ (l < 0 ∨ 2 < l)) (h3 : ¬ z < 0) (h4 : ¬ 40 < z) (hr : r < 8) : zEv (d + 2) zM_X8_row 0 0 [.ref 180, .int (nI r), .int l, .int z] (lay m) (some (.int (z)), lay (mRow m r l z)) := by
  refine zEv_of (by decide) (fun G => Nat.le_of_ble_eq_true rfl) ?_
  show ZW _ _ _ _ 0 [some (.ref 180), some (.int (nI r)), some (.int l), some (.int z), none] [] _ _ _ _
  have hn := lt8 hr
  refine z_aload_n (i := 0) (q := 1) dX8_row_0 rfl rfl rfl ?_
  refine z_iconst (v := 0) (q := 2) dX8_row_1 (by decide) rfl ?_
  refine m_putI (q := 5) dX8_row_2 fp_X8_48 ⟨by decide, _, rfl, rfl⟩ ⟨rfl, rfl⟩ rfl ?_
  refine z_iload_n (i := 1) (q := 6) dX8_row_5 rfl rfl rfl ?_
  refine m_callS_r (As := [_]) (q := 9) mk_X8_isRow dX8_row_6 wd_823 wd_824 (ev_X8_isRow _ _ _) rfl (by decide) rfl (Nat.zero_le _) (Nat.zero_le _) rfl ?_
  refine zb_eq (tgt := 30) (q := 12) dX8_row_9 (by decide) rfl (fun c1 => ?_) (fun c1 => ?_)
  · exact absurd hn c1
  · skip
    refine z_iload_n (i := 2) (q := 13) dX8_row_12 rfl rfl rfl ?_
    refine z_i2l (q := 14) dX8_row_13 rfl ?_
    refine z_lconst (v := 0) (q := 15) dX8_row_14 (by decide) rfl ?_
    refine z_ldc2 (q := 18) dX8_row_15 wd_830 rfl ?_
    refine m_callS_r (As := [_, _, _]) (q := 21) mk_X8_in dX8_row_18 wd_827 wd_828 (ev_X8_in _ _ _ (0) (2) (by decide) (by decide)) rfl (by decide) rfl (Nat.zero_le _) (Nat.zero_le _) rfl ?_
    refine zb_eq (tgt := 30) (q := 24) dX8_row_21 (by decide) rfl (fun c2 => ?_) (fun c2 => ?_)
    · exact absurd h2 c2
    · skip
      refine z_iload_n (i := 3) (q := 25) dX8_row_24 rfl rfl rfl ?_
      refine z_bipush (v := 40) (q := 27) dX8_row_25 (by decide) rfl ?_
      refine z_icmp_le (tgt := 33) (q := 30) dX8_row_27 (by decide) rfl (fun c3 => ?_) (fun c3 => ?_)
      · skip
        refine z_aload_n (i := 0) (q := 34) dX8_row_33 rfl rfl rfl ?_
        refine z_iconst (v := 0) (q := 35) dX8_row_34 (by decide) rfl ?_
        refine m_putI (q := 38) dX8_row_35 fp_X8_52 ⟨by decide, _, rfl, rfl⟩ ⟨rfl, rfl⟩ rfl ?_
        refine z_iload_n (i := 3) (q := 39) dX8_row_38 rfl rfl rfl ?_
        refine z_if_ge (tgt := 48) (q := 42) dX8_row_39 (by decide) rfl (fun c4 => ?_) (fun c4 => ?_)
        · skip
          refine z_aload_n (i := 0) (q := 49) dX8_row_48 rfl rfl rfl ?_
          refine m_getR (r := 181) (q := 52) dX8_row_49 fl_X8_7 ⟨by decide, _, rfl, rfl⟩ rfl ?_
          refine z_iload_n (i := 1) (q := 53) dX8_row_52 rfl rfl rfl ?_
          refine z_iload_n (i := 2) (q := 54) dX8_row_53 rfl rfl rfl ?_
          refine m_iastJ (N := 8) (q := 55) dX8_row_54 ⟨by decide, _, rfl⟩ (j := r) (nI_clamp (by omega)) (vp_in_nI (by omega) (by decide)) rfl ?_
          refine z_aload_n (i := 0) (q := 56) dX8_row_55 rfl rfl rfl ?_
          refine m_getR (r := 182) (q := 59) dX8_row_56 fl_X8_13 ⟨by decide, _, rfl, rfl⟩ rfl ?_
          refine z_iload_n (i := 1) (q := 60) dX8_row_59 rfl rfl rfl ?_
          refine z_iload_n (i := 3) (q := 61) dX8_row_60 rfl rfl rfl ?_
          refine m_iastJ (N := 8) (q := 62) dX8_row_61 ⟨by decide, _, rfl⟩ (j := r) (nI_clamp (by omega)) (vp_in_nI (by omega) (by decide)) rfl ?_
          refine z_iconst (v := 0) (q := 63) dX8_row_62 (by decide) rfl ?_
          refine z_istore (i := 4) (ls' := [_, _, _, _, _]) (q := 65) dX8_row_63 (by decide) rfl rfl ?_
          have e := lp_X8_row d (upI (upI (upI (mT m) 180 1 0) 181 r l) 182 r z) r hr l z (40 + 1) 0 (by omega) (by omega)
          rw [mFill_0] at e
          exact e
        · exact absurd (Int32.not_lt.mp h3) c4
      · exact absurd (Int32.not_lt.mp h4) c3
set_option maxHeartbeats 4000000 in
set_option maxRecDepth 100000 in
theorem ev_X8_set_bad (d : Nat) (m : zm) (r : Int32) (i : Int32) (v : Int32) (hb : r < 0 ∨ 7 < r) : zEv (d + 2) zM_X8_set 0 0 [.ref 180, .int r, .int i, .int v] (lay m) (some (.int (-1000001)), lay (mT m)) := by
  refine zEv_of (by decide) (fun G => Nat.le_of_ble_eq_true rfl) ?_
  show ZW _ _ _ _ 0 [some (.ref 180), some (.int r), some (.int i), some (.int v)] [] _ _ _ _
  refine z_aload_n (i := 0) (q := 1) dX8_set_0 rfl rfl rfl ?_
  refine z_iconst (v := 0) (q := 2) dX8_set_1 (by decide) rfl ?_
  refine m_putI (q := 5) dX8_set_2 fp_X8_48 ⟨by decide, _, rfl, rfl⟩ ⟨rfl, rfl⟩ rfl ?_
  refine z_iload_n (i := 1) (q := 6) dX8_set_5 rfl rfl rfl ?_
  refine m_callS_r (As := [_]) (q := 9) mk_X8_isRow dX8_set_6 wd_823 wd_824 (ev_X8_isRow _ _ _) rfl (by decide) rfl (Nat.zero_le _) (Nat.zero_le _) rfl ?_
  refine zb_ne (tgt := 15) (q := 12) dX8_set_9 (by decide) rfl (fun c1 => ?_) (fun c1 => ?_)
  · exact absurd hb c1
  · skip
    refine z_ldc (q := 14) dX8_set_12 wd_831 rfl ?_
    refine z_ireturn dX8_set_14 rfl rfl ?_ (Nat.le_refl _) (Nat.le_refl _)
    rfl
set_option maxHeartbeats 4000000 in
set_option maxRecDepth 100000 in
theorem ev_X8_set_null (d : Nat) (m : zm) (r : Nat) (i : Int32) (v : Int32) (h1 : m.1 181 r < 0) (hr : r < 8) : zEv (d + 2) zM_X8_set 0 0 [.ref 180, .int (nI r), .int i, .int v] (lay m) (some (.int (-1000010 - 1)), lay (mST m 1)) := by
  refine zEv_of (by decide) (fun G => Nat.le_of_ble_eq_true rfl) ?_
  show ZW _ _ _ _ 0 [some (.ref 180), some (.int (nI r)), some (.int i), some (.int v)] [] _ _ _ _
  have hn := lt8 hr
  refine z_aload_n (i := 0) (q := 1) dX8_set_0 rfl rfl rfl ?_
  refine z_iconst (v := 0) (q := 2) dX8_set_1 (by decide) rfl ?_
  refine m_putI (q := 5) dX8_set_2 fp_X8_48 ⟨by decide, _, rfl, rfl⟩ ⟨rfl, rfl⟩ rfl ?_
  refine z_iload_n (i := 1) (q := 6) dX8_set_5 rfl rfl rfl ?_
  refine m_callS_r (As := [_]) (q := 9) mk_X8_isRow dX8_set_6 wd_823 wd_824 (ev_X8_isRow _ _ _) rfl (by decide) rfl (Nat.zero_le _) (Nat.zero_le _) rfl ?_
  refine zb_ne (tgt := 15) (q := 12) dX8_set_9 (by decide) rfl (fun c1 => ?_) (fun c1 => ?_)
  · skip
    refine z_aload_n (i := 0) (q := 16) dX8_set_15 rfl rfl rfl ?_
    refine z_iconst (v := 0) (q := 17) dX8_set_16 (by decide) rfl ?_
    refine m_putI (q := 20) dX8_set_17 fp_X8_52 ⟨by decide, _, rfl, rfl⟩ ⟨rfl, rfl⟩ rfl ?_
    refine z_aload_n (i := 0) (q := 21) dX8_set_20 rfl rfl rfl ?_
    refine m_getR (r := 181) (q := 24) dX8_set_21 fl_X8_7 ⟨by decide, _, rfl, rfl⟩ rfl ?_
    refine z_iload_n (i := 1) (q := 25) dX8_set_24 rfl rfl rfl ?_
    refine m_ialdJ (N := 8) (q := 26) dX8_set_25 ⟨by decide, _, rfl⟩ (j := r) (nI_clamp (by omega)) (vp_in_nI (by omega) (by decide)) rfl ?_
    refine z_if_ge (tgt := 35) (q := 29) dX8_set_26 (by decide) rfl (fun c2 => ?_) (fun c2 => ?_)
    · exact absurd c2 (Int32.not_le.mpr h1)
    · skip
      refine z_aload_n (i := 0) (q := 30) dX8_set_29 rfl rfl rfl ?_
      refine z_iconst (v := 1) (q := 31) dX8_set_30 (by decide) rfl ?_
      refine m_callV_r (As := [_]) (q := 34) mk_X8_finding dX8_set_31 wd_832 wd_834 wp_30 (ci := 8) rfl ⟨by decide, _, rfl⟩ (ev_X8_finding _ _ _) rfl (by decide) rfl (Nat.zero_le _) (Nat.zero_le _) rfl ?_
      refine z_ireturn dX8_set_34 rfl rfl ?_ (Nat.le_refl _) (Nat.le_refl _)
      rfl
  · exact absurd hn c1
set_option maxHeartbeats 4000000 in
set_option maxRecDepth 100000 in
theorem ev_X8_set_place (d : Nat) (m : zm) (r : Nat) (i : Int32) (v : Int32) (h1 : ¬ m.1 181 r < 0) (h2 : i < 0 ∨ m.1 182 r - 1 < i) (hr : r < 8) : zEv (d + 2) zM_X8_set 0 0 [.ref 180, .int (nI r), .int i, .int v] (lay m) (some (.int (-1000010 - 2)), lay (mST m 2)) := by
  refine zEv_of (by decide) (fun G => Nat.le_of_ble_eq_true rfl) ?_
  show ZW _ _ _ _ 0 [some (.ref 180), some (.int (nI r)), some (.int i), some (.int v)] [] _ _ _ _
  have hn := lt8 hr
  refine z_aload_n (i := 0) (q := 1) dX8_set_0 rfl rfl rfl ?_
  refine z_iconst (v := 0) (q := 2) dX8_set_1 (by decide) rfl ?_
  refine m_putI (q := 5) dX8_set_2 fp_X8_48 ⟨by decide, _, rfl, rfl⟩ ⟨rfl, rfl⟩ rfl ?_
  refine z_iload_n (i := 1) (q := 6) dX8_set_5 rfl rfl rfl ?_
  refine m_callS_r (As := [_]) (q := 9) mk_X8_isRow dX8_set_6 wd_823 wd_824 (ev_X8_isRow _ _ _) rfl (by decide) rfl (Nat.zero_le _) (Nat.zero_le _) rfl ?_
  refine zb_ne (tgt := 15) (q := 12) dX8_set_9 (by decide) rfl (fun c1 => ?_) (fun c1 => ?_)
  · skip
    refine z_aload_n (i := 0) (q := 16) dX8_set_15 rfl rfl rfl ?_
    refine z_iconst (v := 0) (q := 17) dX8_set_16 (by decide) rfl ?_
    refine m_putI (q := 20) dX8_set_17 fp_X8_52 ⟨by decide, _, rfl, rfl⟩ ⟨rfl, rfl⟩ rfl ?_
    refine z_aload_n (i := 0) (q := 21) dX8_set_20 rfl rfl rfl ?_
    refine m_getR (r := 181) (q := 24) dX8_set_21 fl_X8_7 ⟨by decide, _, rfl, rfl⟩ rfl ?_
    refine z_iload_n (i := 1) (q := 25) dX8_set_24 rfl rfl rfl ?_
    refine m_ialdJ (N := 8) (q := 26) dX8_set_25 ⟨by decide, _, rfl⟩ (j := r) (nI_clamp (by omega)) (vp_in_nI (by omega) (by decide)) rfl ?_
    refine z_if_ge (tgt := 35) (q := 29) dX8_set_26 (by decide) rfl (fun c2 => ?_) (fun c2 => ?_)
    · skip
      refine z_iload_n (i := 2) (q := 36) dX8_set_35 rfl rfl rfl ?_
      refine z_i2l (q := 37) dX8_set_36 rfl ?_
      refine z_lconst (v := 0) (q := 38) dX8_set_37 (by decide) rfl ?_
      refine z_aload_n (i := 0) (q := 39) dX8_set_38 rfl rfl rfl ?_
      refine m_getR (r := 182) (q := 42) dX8_set_39 fl_X8_13 ⟨by decide, _, rfl, rfl⟩ rfl ?_
      refine z_iload_n (i := 1) (q := 43) dX8_set_42 rfl rfl rfl ?_
      refine m_ialdJ (N := 8) (q := 44) dX8_set_43 ⟨by decide, _, rfl⟩ (j := r) (nI_clamp (by omega)) (vp_in_nI (by omega) (by decide)) rfl ?_
      refine z_iconst (v := 1) (q := 45) dX8_set_44 (by decide) rfl ?_
      refine z_isub (q := 46) dX8_set_45 rfl ?_
      refine z_i2l (q := 47) dX8_set_46 rfl ?_
      refine m_callS_r (As := [_, _, _]) (q := 50) mk_X8_in dX8_set_47 wd_827 wd_828 (ev_X8_in _ _ _ (0) _ (by decide) rfl) rfl (by decide) rfl (Nat.zero_le _) (Nat.zero_le _) rfl ?_
      refine zb_ne (tgt := 59) (q := 53) dX8_set_50 (by decide) rfl (fun c3 => ?_) (fun c3 => ?_)
      · exact absurd h2 c3
      · skip
        refine z_aload_n (i := 0) (q := 54) dX8_set_53 rfl rfl rfl ?_
        refine z_iconst (v := 2) (q := 55) dX8_set_54 (by decide) rfl ?_
        refine m_callV_r (As := [_]) (q := 58) mk_X8_finding dX8_set_55 wd_832 wd_834 wp_30 (ci := 8) rfl ⟨by decide, _, rfl⟩ (ev_X8_finding _ _ _) rfl (by decide) rfl (Nat.zero_le _) (Nat.zero_le _) rfl ?_
        refine z_ireturn dX8_set_58 rfl rfl ?_ (Nat.le_refl _) (Nat.le_refl _)
        rfl
    · exact absurd (Int32.not_lt.mp h1) c2
  · exact absurd hn c1
set_option maxHeartbeats 4000000 in
set_option maxRecDepth 100000 in
theorem ev_X8_set (d : Nat) (m : zm) (r : Nat) (i : Nat) (v : Int32) (h1 : ¬ m.1 181 r < 0) (h2 : ¬ (nI i < 0 ∨ m.1 182 r - 1 < nI i)) (hr : r < 8) (hi40 : i < 40) : zEv (d + 2) zM_X8_set 0 0 [.ref 180, .int (nI r), .int (nI i), .int v] (lay m) (some (.int (cLow (m.1 181 r) v)), lay (upI (upI (mT m) 180 1 0) 183 (40 * r + i) (cLow (m.1 181 r) v))) := by
  refine zEv_of (by decide) (fun G => Nat.le_of_ble_eq_true rfl) ?_
  show ZW _ _ _ _ 0 [some (.ref 180), some (.int (nI r)), some (.int (nI i)), some (.int v)] [] _ _ _ _
  have hn := lt8 hr
  refine z_aload_n (i := 0) (q := 1) dX8_set_0 rfl rfl rfl ?_
  refine z_iconst (v := 0) (q := 2) dX8_set_1 (by decide) rfl ?_
  refine m_putI (q := 5) dX8_set_2 fp_X8_48 ⟨by decide, _, rfl, rfl⟩ ⟨rfl, rfl⟩ rfl ?_
  refine z_iload_n (i := 1) (q := 6) dX8_set_5 rfl rfl rfl ?_
  refine m_callS_r (As := [_]) (q := 9) mk_X8_isRow dX8_set_6 wd_823 wd_824 (ev_X8_isRow _ _ _) rfl (by decide) rfl (Nat.zero_le _) (Nat.zero_le _) rfl ?_
  refine zb_ne (tgt := 15) (q := 12) dX8_set_9 (by decide) rfl (fun c1 => ?_) (fun c1 => ?_)
  · skip
    refine z_aload_n (i := 0) (q := 16) dX8_set_15 rfl rfl rfl ?_
    refine z_iconst (v := 0) (q := 17) dX8_set_16 (by decide) rfl ?_
    refine m_putI (q := 20) dX8_set_17 fp_X8_52 ⟨by decide, _, rfl, rfl⟩ ⟨rfl, rfl⟩ rfl ?_
    refine z_aload_n (i := 0) (q := 21) dX8_set_20 rfl rfl rfl ?_
    refine m_getR (r := 181) (q := 24) dX8_set_21 fl_X8_7 ⟨by decide, _, rfl, rfl⟩ rfl ?_
    refine z_iload_n (i := 1) (q := 25) dX8_set_24 rfl rfl rfl ?_
    refine m_ialdJ (N := 8) (q := 26) dX8_set_25 ⟨by decide, _, rfl⟩ (j := r) (nI_clamp (by omega)) (vp_in_nI (by omega) (by decide)) rfl ?_
    refine z_if_ge (tgt := 35) (q := 29) dX8_set_26 (by decide) rfl (fun c2 => ?_) (fun c2 => ?_)
    · skip
      refine z_iload_n (i := 2) (q := 36) dX8_set_35 rfl rfl rfl ?_
      refine z_i2l (q := 37) dX8_set_36 rfl ?_
      refine z_lconst (v := 0) (q := 38) dX8_set_37 (by decide) rfl ?_
      refine z_aload_n (i := 0) (q := 39) dX8_set_38 rfl rfl rfl ?_
      refine m_getR (r := 182) (q := 42) dX8_set_39 fl_X8_13 ⟨by decide, _, rfl, rfl⟩ rfl ?_
      refine z_iload_n (i := 1) (q := 43) dX8_set_42 rfl rfl rfl ?_
      refine m_ialdJ (N := 8) (q := 44) dX8_set_43 ⟨by decide, _, rfl⟩ (j := r) (nI_clamp (by omega)) (vp_in_nI (by omega) (by decide)) rfl ?_
      refine z_iconst (v := 1) (q := 45) dX8_set_44 (by decide) rfl ?_
      refine z_isub (q := 46) dX8_set_45 rfl ?_
      refine z_i2l (q := 47) dX8_set_46 rfl ?_
      refine m_callS_r (As := [_, _, _]) (q := 50) mk_X8_in dX8_set_47 wd_827 wd_828 (ev_X8_in _ _ _ (0) _ (by decide) rfl) rfl (by decide) rfl (Nat.zero_le _) (Nat.zero_le _) rfl ?_
      refine zb_ne (tgt := 59) (q := 53) dX8_set_50 (by decide) rfl (fun c3 => ?_) (fun c3 => ?_)
      · skip
        refine z_aload_n (i := 0) (q := 60) dX8_set_59 rfl rfl rfl ?_
        refine m_getR (r := 183) (q := 63) dX8_set_60 fl_X8_16 ⟨by decide, _, rfl, rfl⟩ rfl ?_
        refine z_bipush (v := 40) (q := 65) dX8_set_63 (by decide) rfl ?_
        refine z_iload_n (i := 1) (q := 66) dX8_set_65 rfl rfl rfl ?_
        refine z_imul (q := 67) dX8_set_66 rfl ?_
        rw [show 40 * nI r = nI (40 * r) from nI_mul 40 _]
        refine z_iload_n (i := 2) (q := 68) dX8_set_67 rfl rfl rfl ?_
        refine z_iadd (q := 69) dX8_set_68 rfl ?_
        rw [show nI (40 * r) + nI i = nI ((40 * r) + i) from nI_add _ _]
        refine z_aload_n (i := 0) (q := 70) dX8_set_69 rfl rfl rfl ?_
        refine m_getR (r := 181) (q := 73) dX8_set_70 fl_X8_7 ⟨by decide, _, rfl, rfl⟩ rfl ?_
        refine z_iload_n (i := 1) (q := 74) dX8_set_73 rfl rfl rfl ?_
        refine m_ialdJ (N := 8) (q := 75) dX8_set_74 ⟨by decide, _, rfl⟩ (j := r) (nI_clamp (by omega)) (vp_in_nI (by omega) (by decide)) rfl ?_
        refine z_if_ne (tgt := 83) (q := 78) dX8_set_75 (by decide) rfl (fun c4 => ?_) (fun c4 => ?_)
        · skip
          refine z_aload_n (i := 0) (q := 84) dX8_set_83 rfl rfl rfl ?_
          refine m_getR (r := 181) (q := 87) dX8_set_84 fl_X8_7 ⟨by decide, _, rfl, rfl⟩ rfl ?_
          refine z_iload_n (i := 1) (q := 88) dX8_set_87 rfl rfl rfl ?_
          refine m_ialdJ (N := 8) (q := 89) dX8_set_88 ⟨by decide, _, rfl⟩ (j := r) (nI_clamp (by omega)) (vp_in_nI (by omega) (by decide)) rfl ?_
          refine z_iconst (v := 1) (q := 90) dX8_set_89 (by decide) rfl ?_
          refine z_icmp_ne (tgt := 98) (q := 93) dX8_set_90 (by decide) rfl (fun c5 => ?_) (fun c5 => ?_)
          · skip
            refine z_iload_n (i := 3) (q := 99) dX8_set_98 rfl rfl rfl ?_
            refine m_iastJ (N := 320) (q := 100) dX8_set_99 ⟨by decide, _, rfl⟩ (j := ((40 * r) + i)) (nI_clamp (by omega)) (vp_in_nI (by omega) (by decide)) rfl ?_
            refine z_aload_n (i := 0) (q := 101) dX8_set_100 rfl rfl rfl ?_
            refine m_getR (r := 183) (q := 104) dX8_set_101 fl_X8_16 ⟨by decide, _, rfl, rfl⟩ rfl ?_
            refine z_bipush (v := 40) (q := 106) dX8_set_104 (by decide) rfl ?_
            refine z_iload_n (i := 1) (q := 107) dX8_set_106 rfl rfl rfl ?_
            refine z_imul (q := 108) dX8_set_107 rfl ?_
            rw [show 40 * nI r = nI (40 * r) from nI_mul 40 _]
            refine z_iload_n (i := 2) (q := 109) dX8_set_108 rfl rfl rfl ?_
            refine z_iadd (q := 110) dX8_set_109 rfl ?_
            rw [show nI (40 * r) + nI i = nI ((40 * r) + i) from nI_add _ _]
            refine m_ialdJ (N := 320) (q := 111) dX8_set_110 ⟨by decide, _, rfl⟩ (j := ((40 * r) + i)) (nI_clamp (by omega)) (vp_in_nI (by omega) (by decide)) rfl ?_
            refine z_ireturn dX8_set_111 rfl rfl ?_ (Nat.le_refl _) (Nat.le_refl _)
            rw [upI_eq, show cLow (m.1 181 r) v = v from (if_neg c4).trans (if_neg c5)]
          · skip
            refine z_iload_n (i := 3) (q := 94) dX8_set_93 rfl rfl rfl ?_
            refine z_i2s (q := 95) dX8_set_94 rfl ?_
            refine z_goto (tgt := 99) dX8_set_95 (by decide) ?_
            refine m_iastJ (N := 320) (q := 100) dX8_set_99 ⟨by decide, _, rfl⟩ (j := ((40 * r) + i)) (nI_clamp (by omega)) (vp_in_nI (by omega) (by decide)) rfl ?_
            refine z_aload_n (i := 0) (q := 101) dX8_set_100 rfl rfl rfl ?_
            refine m_getR (r := 183) (q := 104) dX8_set_101 fl_X8_16 ⟨by decide, _, rfl, rfl⟩ rfl ?_
            refine z_bipush (v := 40) (q := 106) dX8_set_104 (by decide) rfl ?_
            refine z_iload_n (i := 1) (q := 107) dX8_set_106 rfl rfl rfl ?_
            refine z_imul (q := 108) dX8_set_107 rfl ?_
            rw [show 40 * nI r = nI (40 * r) from nI_mul 40 _]
            refine z_iload_n (i := 2) (q := 109) dX8_set_108 rfl rfl rfl ?_
            refine z_iadd (q := 110) dX8_set_109 rfl ?_
            rw [show nI (40 * r) + nI i = nI ((40 * r) + i) from nI_add _ _]
            refine m_ialdJ (N := 320) (q := 111) dX8_set_110 ⟨by decide, _, rfl⟩ (j := ((40 * r) + i)) (nI_clamp (by omega)) (vp_in_nI (by omega) (by decide)) rfl ?_
            refine z_ireturn dX8_set_111 rfl rfl ?_ (Nat.le_refl _) (Nat.le_refl _)
            rw [upI_eq, show cLow (m.1 181 r) v = v.toInt16.toInt32 from (if_neg c4).trans (if_pos c5)]
        · skip
          refine z_iload_n (i := 3) (q := 79) dX8_set_78 rfl rfl rfl ?_
          refine z_i2b (q := 80) dX8_set_79 rfl ?_
          refine z_goto (tgt := 99) dX8_set_80 (by decide) ?_
          refine m_iastJ (N := 320) (q := 100) dX8_set_99 ⟨by decide, _, rfl⟩ (j := ((40 * r) + i)) (nI_clamp (by omega)) (vp_in_nI (by omega) (by decide)) rfl ?_
          refine z_aload_n (i := 0) (q := 101) dX8_set_100 rfl rfl rfl ?_
          refine m_getR (r := 183) (q := 104) dX8_set_101 fl_X8_16 ⟨by decide, _, rfl, rfl⟩ rfl ?_
          refine z_bipush (v := 40) (q := 106) dX8_set_104 (by decide) rfl ?_
          refine z_iload_n (i := 1) (q := 107) dX8_set_106 rfl rfl rfl ?_
          refine z_imul (q := 108) dX8_set_107 rfl ?_
          rw [show 40 * nI r = nI (40 * r) from nI_mul 40 _]
          refine z_iload_n (i := 2) (q := 109) dX8_set_108 rfl rfl rfl ?_
          refine z_iadd (q := 110) dX8_set_109 rfl ?_
          rw [show nI (40 * r) + nI i = nI ((40 * r) + i) from nI_add _ _]
          refine m_ialdJ (N := 320) (q := 111) dX8_set_110 ⟨by decide, _, rfl⟩ (j := ((40 * r) + i)) (nI_clamp (by omega)) (vp_in_nI (by omega) (by decide)) rfl ?_
          refine z_ireturn dX8_set_111 rfl rfl ?_ (Nat.le_refl _) (Nat.le_refl _)
          rw [upI_eq, show cLow (m.1 181 r) v = v.toInt8.toInt32 from if_pos c4]
      · exact absurd h2 c3
    · exact absurd (Int32.not_lt.mp h1) c2
  · exact absurd hn c1
set_option maxHeartbeats 4000000 in
set_option maxRecDepth 100000 in
theorem ev_X8_drop_bad (d : Nat) (m : zm) (r : Int32) (hb : r < 0 ∨ 7 < r) : zEv (d + 2) zM_X8_drop 0 0 [.ref 180, .int r] (lay m) (some (.int (-1000001)), lay (mT m)) := by
  refine zEv_of (by decide) (fun G => Nat.le_of_ble_eq_true rfl) ?_
  show ZW _ _ _ _ 0 [some (.ref 180), some (.int r)] [] _ _ _ _
  refine z_aload_n (i := 0) (q := 1) dX8_drop_0 rfl rfl rfl ?_
  refine z_iconst (v := 0) (q := 2) dX8_drop_1 (by decide) rfl ?_
  refine m_putI (q := 5) dX8_drop_2 fp_X8_48 ⟨by decide, _, rfl, rfl⟩ ⟨rfl, rfl⟩ rfl ?_
  refine z_iload_n (i := 1) (q := 6) dX8_drop_5 rfl rfl rfl ?_
  refine m_callS_r (As := [_]) (q := 9) mk_X8_isRow dX8_drop_6 wd_823 wd_824 (ev_X8_isRow _ _ _) rfl (by decide) rfl (Nat.zero_le _) (Nat.zero_le _) rfl ?_
  refine zb_ne (tgt := 15) (q := 12) dX8_drop_9 (by decide) rfl (fun c1 => ?_) (fun c1 => ?_)
  · exact absurd hb c1
  · skip
    refine z_ldc (q := 14) dX8_drop_12 wd_831 rfl ?_
    refine z_ireturn dX8_drop_14 rfl rfl ?_ (Nat.le_refl _) (Nat.le_refl _)
    rfl
set_option maxHeartbeats 4000000 in
set_option maxRecDepth 100000 in
theorem ev_X8_drop_null (d : Nat) (m : zm) (r : Nat) (h1 : m.1 181 r < 0) (hr : r < 8) : zEv (d + 2) zM_X8_drop 0 0 [.ref 180, .int (nI r)] (lay m) (some (.int (-1000010 - 1)), lay (mST m 1)) := by
  refine zEv_of (by decide) (fun G => Nat.le_of_ble_eq_true rfl) ?_
  show ZW _ _ _ _ 0 [some (.ref 180), some (.int (nI r))] [] _ _ _ _
  have hn := lt8 hr
  refine z_aload_n (i := 0) (q := 1) dX8_drop_0 rfl rfl rfl ?_
  refine z_iconst (v := 0) (q := 2) dX8_drop_1 (by decide) rfl ?_
  refine m_putI (q := 5) dX8_drop_2 fp_X8_48 ⟨by decide, _, rfl, rfl⟩ ⟨rfl, rfl⟩ rfl ?_
  refine z_iload_n (i := 1) (q := 6) dX8_drop_5 rfl rfl rfl ?_
  refine m_callS_r (As := [_]) (q := 9) mk_X8_isRow dX8_drop_6 wd_823 wd_824 (ev_X8_isRow _ _ _) rfl (by decide) rfl (Nat.zero_le _) (Nat.zero_le _) rfl ?_
  refine zb_ne (tgt := 15) (q := 12) dX8_drop_9 (by decide) rfl (fun c1 => ?_) (fun c1 => ?_)
  · skip
    refine z_aload_n (i := 0) (q := 16) dX8_drop_15 rfl rfl rfl ?_
    refine z_iconst (v := 0) (q := 17) dX8_drop_16 (by decide) rfl ?_
    refine m_putI (q := 20) dX8_drop_17 fp_X8_52 ⟨by decide, _, rfl, rfl⟩ ⟨rfl, rfl⟩ rfl ?_
    refine z_aload_n (i := 0) (q := 21) dX8_drop_20 rfl rfl rfl ?_
    refine m_getR (r := 181) (q := 24) dX8_drop_21 fl_X8_7 ⟨by decide, _, rfl, rfl⟩ rfl ?_
    refine z_iload_n (i := 1) (q := 25) dX8_drop_24 rfl rfl rfl ?_
    refine m_ialdJ (N := 8) (q := 26) dX8_drop_25 ⟨by decide, _, rfl⟩ (j := r) (nI_clamp (by omega)) (vp_in_nI (by omega) (by decide)) rfl ?_
    refine z_if_ge (tgt := 35) (q := 29) dX8_drop_26 (by decide) rfl (fun c2 => ?_) (fun c2 => ?_)
    · exact absurd c2 (Int32.not_le.mpr h1)
    · skip
      refine z_aload_n (i := 0) (q := 30) dX8_drop_29 rfl rfl rfl ?_
      refine z_iconst (v := 1) (q := 31) dX8_drop_30 (by decide) rfl ?_
      refine m_callV_r (As := [_]) (q := 34) mk_X8_finding dX8_drop_31 wd_832 wd_834 wp_30 (ci := 8) rfl ⟨by decide, _, rfl⟩ (ev_X8_finding _ _ _) rfl (by decide) rfl (Nat.zero_le _) (Nat.zero_le _) rfl ?_
      refine z_ireturn dX8_drop_34 rfl rfl ?_ (Nat.le_refl _) (Nat.le_refl _)
      rfl
  · exact absurd hn c1
set_option maxHeartbeats 4000000 in
set_option maxRecDepth 100000 in
theorem ev_X8_drop (d : Nat) (m : zm) (r : Nat) (h1 : ¬ m.1 181 r < 0) (hr : r < 8) : zEv (d + 2) zM_X8_drop 0 0 [.ref 180, .int (nI r)] (lay m) (some (.int (m.1 182 r)), lay (upI (upI (mT m) 180 1 0) 181 r (-1))) := by
  refine zEv_of (by decide) (fun G => Nat.le_of_ble_eq_true rfl) ?_
  show ZW _ _ _ _ 0 [some (.ref 180), some (.int (nI r))] [] _ _ _ _
  have hn := lt8 hr
  refine z_aload_n (i := 0) (q := 1) dX8_drop_0 rfl rfl rfl ?_
  refine z_iconst (v := 0) (q := 2) dX8_drop_1 (by decide) rfl ?_
  refine m_putI (q := 5) dX8_drop_2 fp_X8_48 ⟨by decide, _, rfl, rfl⟩ ⟨rfl, rfl⟩ rfl ?_
  refine z_iload_n (i := 1) (q := 6) dX8_drop_5 rfl rfl rfl ?_
  refine m_callS_r (As := [_]) (q := 9) mk_X8_isRow dX8_drop_6 wd_823 wd_824 (ev_X8_isRow _ _ _) rfl (by decide) rfl (Nat.zero_le _) (Nat.zero_le _) rfl ?_
  refine zb_ne (tgt := 15) (q := 12) dX8_drop_9 (by decide) rfl (fun c1 => ?_) (fun c1 => ?_)
  · skip
    refine z_aload_n (i := 0) (q := 16) dX8_drop_15 rfl rfl rfl ?_
    refine z_iconst (v := 0) (q := 17) dX8_drop_16 (by decide) rfl ?_
    refine m_putI (q := 20) dX8_drop_17 fp_X8_52 ⟨by decide, _, rfl, rfl⟩ ⟨rfl, rfl⟩ rfl ?_
    refine z_aload_n (i := 0) (q := 21) dX8_drop_20 rfl rfl rfl ?_
    refine m_getR (r := 181) (q := 24) dX8_drop_21 fl_X8_7 ⟨by decide, _, rfl, rfl⟩ rfl ?_
    refine z_iload_n (i := 1) (q := 25) dX8_drop_24 rfl rfl rfl ?_
    refine m_ialdJ (N := 8) (q := 26) dX8_drop_25 ⟨by decide, _, rfl⟩ (j := r) (nI_clamp (by omega)) (vp_in_nI (by omega) (by decide)) rfl ?_
    refine z_if_ge (tgt := 35) (q := 29) dX8_drop_26 (by decide) rfl (fun c2 => ?_) (fun c2 => ?_)
    · skip
      refine z_aload_n (i := 0) (q := 36) dX8_drop_35 rfl rfl rfl ?_
      refine m_getR (r := 181) (q := 39) dX8_drop_36 fl_X8_7 ⟨by decide, _, rfl, rfl⟩ rfl ?_
      refine z_iload_n (i := 1) (q := 40) dX8_drop_39 rfl rfl rfl ?_
      refine z_iconst (v := (-1)) (q := 41) dX8_drop_40 (by decide) rfl ?_
      refine m_iastJ (N := 8) (q := 42) dX8_drop_41 ⟨by decide, _, rfl⟩ (j := r) (nI_clamp (by omega)) (vp_in_nI (by omega) (by decide)) rfl ?_
      refine z_aload_n (i := 0) (q := 43) dX8_drop_42 rfl rfl rfl ?_
      refine m_getR (r := 182) (q := 46) dX8_drop_43 fl_X8_13 ⟨by decide, _, rfl, rfl⟩ rfl ?_
      refine z_iload_n (i := 1) (q := 47) dX8_drop_46 rfl rfl rfl ?_
      refine m_ialdJ (N := 8) (q := 48) dX8_drop_47 ⟨by decide, _, rfl⟩ (j := r) (nI_clamp (by omega)) (vp_in_nI (by omega) (by decide)) rfl ?_
      refine z_ireturn dX8_drop_48 rfl rfl ?_ (Nat.le_refl _) (Nat.le_refl _)
      rfl
    · exact absurd (Int32.not_lt.mp h1) c2
  · exact absurd hn c1
