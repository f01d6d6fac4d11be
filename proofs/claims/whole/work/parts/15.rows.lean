/-! ===== the class: rows ===== -/
/-- the first i numbers of the array a become 0 -/
def cFill (m : zm) (a i : Nat) : zm := (fun b k => if b = a ∧ k < i then 0 else m.1 b k, m.2)
theorem cFill_0 (m : zm) (a : Nat) : cFill m a 0 = m := by
  refine Prod.ext (funext fun c => funext fun k => ?_) rfl
  simp [cFill]
theorem cFill_s (m : zm) (a i : Nat) : upI (cFill m a i) a i 0 = cFill m a (i + 1) := by
  refine Prod.ext (funext fun c => funext fun k => ?_) rfl
  simp only [upI, cFill]
  by_cases hc : c = a
  · subst hc
    by_cases hk : k = i
    · subst hk; simp
    · have e : (k < i + 1) = (k < i) := propext ⟨fun z => by omega, fun z => by omega⟩
      simp [hk, e]
  · simp [hc]
theorem lt8 {r : Nat} (h : r < 8) : ¬ (nI r < 0 ∨ 7 < nI r) := by
  rintro (z | z)
  · exact nI_pos (by omega) z
  · exact nI_nlt (a := 7) (b := r) (by omega) (by omega) z
theorem ge40 {i : Nat} (hi : i ≤ 40) (c : (40 : Int32) ≤ nI i) : i = 40 := by
  have := (nI_leI (a := 40) (b := i) (by omega) (by omega)).mp c
  omega
theorem nge40 {i : Nat} (hi : i ≤ 40) (c : ¬ (40 : Int32) ≤ nI i) : i < 40 := by
  rcases Nat.lt_or_ge i 40 with q | q
  · exact q
  · exact absurd (nI_leI (a := 40) (b := i) (by omega) (by omega) |>.mpr q) c
def cRow (m : zm) (r : Nat) (l n : Int32) : zm := upI (upI (upI (cFill m (2 + r) 40) 10 r l) 11 r n) 0 3 0
set_option maxHeartbeats 4000000 in
set_option maxRecDepth 100000 in
theorem lp_X7_row (d : Nat) (m : zm) (r : Nat) (hr : r < 8) (l z : Int32) : ∀ (n : Nat) (i : Nat), 40 - i < n → i ≤ 40 → ZW zM_X7_row (d + 2) 0 0 38 [some (.ref 0), some (.int (nI r)), some (.int l), some (.int z), some (.int (nI i))] [] (lay (cFill m (2 + r) i)) 0 0 (some (.int z), lay (cRow m r l z)) := by
  intro n
  induction n with
  | zero => intro i hm; exact absurd hm (by omega)
  | succ n ih =>
    intro i hm hi
    refine z_iload (i := 4) (q := 40) dX7_row_38 rfl rfl ?_
    refine z_bipush (v := 40) (q := 42) dX7_row_40 (by decide) rfl ?_
    refine z_icmp_ge (tgt := 61) (q := 45) dX7_row_42 (by decide) rfl (fun c1 => ?_) (fun c1 => ?_)
    · skip
      have hi40 := ge40 hi c1
      subst hi40
      refine z_aload_n (i := 0) (q := 62) dX7_row_61 rfl rfl rfl ?_
      refine m_getR (r := 10) (q := 65) dX7_row_62 fl_X7_14 ⟨by decide, _, rfl, rfl⟩ rfl ?_
      refine z_iload_n (i := 1) (q := 66) dX7_row_65 rfl rfl rfl ?_
      refine z_iload_n (i := 2) (q := 67) dX7_row_66 rfl rfl rfl ?_
      refine m_iastJ (N := 8) (q := 68) dX7_row_67 ⟨by decide, _, rfl⟩ (j := r) (nI_clamp (by omega)) (vp_in_nI (by omega) (by decide)) rfl ?_
      refine z_aload_n (i := 0) (q := 69) dX7_row_68 rfl rfl rfl ?_
      refine m_getR (r := 11) (q := 72) dX7_row_69 fl_X7_18 ⟨by decide, _, rfl, rfl⟩ rfl ?_
      refine z_iload_n (i := 1) (q := 73) dX7_row_72 rfl rfl rfl ?_
      refine z_iload_n (i := 3) (q := 74) dX7_row_73 rfl rfl rfl ?_
      refine m_iastJ (N := 8) (q := 75) dX7_row_74 ⟨by decide, _, rfl⟩ (j := r) (nI_clamp (by omega)) (vp_in_nI (by omega) (by decide)) rfl ?_
      refine z_aload_n (i := 0) (q := 76) dX7_row_75 rfl rfl rfl ?_
      refine z_iload_n (i := 3) (q := 77) dX7_row_76 rfl rfl rfl ?_
      refine m_callV_r (As := [_]) (q := 80) mk_X7_foundNothing dX7_row_77 wd_285 wd_287 wp_1 (ci := 7) rfl ⟨by decide, _, rfl⟩ (ev_X7_foundNothing _ _ _) rfl (by decide) rfl (Nat.zero_le _) (Nat.zero_le _) rfl ?_
      refine z_ireturn dX7_row_80 rfl rfl ?_ (Nat.le_refl _) (Nat.le_refl _)
      rfl
    · skip
      have hi40 := nge40 hi c1
      refine z_aload_n (i := 0) (q := 46) dX7_row_45 rfl rfl rfl ?_
      refine m_getR (r := 1) (q := 49) dX7_row_46 fl_X7_11 ⟨by decide, _, rfl, rfl⟩ rfl ?_
      refine z_iload_n (i := 1) (q := 50) dX7_row_49 rfl rfl rfl ?_
      refine m_aald (kd := 3) (N := 8) (b := 2 + r) (q := 51) dX7_row_50 (by decide) (okPn (by decide) rfl (by omega) (by decide)) (nI_pos' (by omega)) rfl ?_
      refine z_iload (i := 4) (q := 53) dX7_row_51 rfl rfl ?_
      refine z_iconst (v := 0) (q := 54) dX7_row_53 (by decide) rfl ?_
      refine m_iastJ (N := 40) (q := 55) dX7_row_54 (okA_row (r := r) (by omega)) (j := i) (nI_clamp (by omega)) (vp_in_nI (by omega) (by decide)) rfl ?_
      refine z_iinc (i := 4) (ls' := [_, _, _, _, _]) (v := nI (i + 1)) (q := 58) dX7_row_55 rfl (nI_1 _) (by decide) rfl rfl ?_
      refine z_goto (tgt := 38) dX7_row_58 (by decide) ?_
      rw [cFill_s]
      exact ih (i + 1) (by omega) (by omega)
set_option maxHeartbeats 4000000 in
set_option maxRecDepth 100000 in
theorem ev_X7_row_bad (d : Nat) (m : zm) (r : Int32) (l : Int32) (z : Int32) (hb : (r < 0 ∨ 7 < r) ∨ (l < 0 ∨ 2 < l) ∨ 40 < z) : zEv (d + 2) zM_X7_row 0 0 [.ref 0, .int r, .int l, .int z] (lay m) (some (.int (-1000001)), lay (m)) := by
  refine zEv_of (by decide) (fun G => Nat.le_of_ble_eq_true rfl) ?_
  show ZW _ _ _ _ 0 [some (.ref 0), some (.int r), some (.int l), some (.int z), none] [] _ _ _ _
  refine z_iload_n (i := 1) (q := 1) dX7_row_0 rfl rfl rfl ?_
  refine m_callS_r (As := [_]) (q := 4) mk_X7_isNoRow dX7_row_1 wd_273 wd_274 (ev_X7_isNoRow _ _ _) rfl (by decide) rfl (Nat.zero_le _) (Nat.zero_le _) rfl ?_
  refine zb_ne (tgt := 22) (q := 7) dX7_row_4 (by decide) rfl (fun c1 => ?_) (fun c1 => ?_)
  · skip
    refine z_ldc (q := 24) dX7_row_22 wd_279 rfl ?_
    refine z_ireturn dX7_row_24 rfl rfl ?_ (Nat.le_refl _) (Nat.le_refl _)
    rfl
  · skip
    refine z_iload_n (i := 2) (q := 8) dX7_row_7 rfl rfl rfl ?_
    refine z_iconst (v := 0) (q := 9) dX7_row_8 (by decide) rfl ?_
    refine z_iconst (v := 2) (q := 10) dX7_row_9 (by decide) rfl ?_
    refine m_callS_r (As := [_, _, _]) (q := 13) mk_X7_isOutside dX7_row_10 wd_276 wd_277 (ev_X7_isOutside _ _ _ _ _) rfl (by decide) rfl (Nat.zero_le _) (Nat.zero_le _) rfl ?_
    refine zb_ne (tgt := 22) (q := 16) dX7_row_13 (by decide) rfl (fun c2 => ?_) (fun c2 => ?_)
    · skip
      refine z_ldc (q := 24) dX7_row_22 wd_279 rfl ?_
      refine z_ireturn dX7_row_24 rfl rfl ?_ (Nat.le_refl _) (Nat.le_refl _)
      rfl
    · skip
      refine z_iload_n (i := 3) (q := 17) dX7_row_16 rfl rfl rfl ?_
      refine z_bipush (v := 40) (q := 19) dX7_row_17 (by decide) rfl ?_
      refine z_icmp_le (tgt := 25) (q := 22) dX7_row_19 (by decide) rfl (fun c3 => ?_) (fun c3 => ?_)
      · exact absurd hb (by rintro (z1 | z1 | z1)
                    · exact c1 z1
                    · exact c2 z1
                    · exact absurd c3 (Int32.not_le.mpr z1))
      · skip
        refine z_ldc (q := 24) dX7_row_22 wd_279 rfl ?_
        refine z_ireturn dX7_row_24 rfl rfl ?_ (Nat.le_refl _) (Nat.le_refl _)
        rfl
set_option maxHeartbeats 4000000 in
set_option maxRecDepth 100000 in
theorem ev_X7_row_size (d : Nat) (m : zm) (r : Int32) (l : Int32) (z : Int32) (h1 : ¬ (r < 0 ∨ 7 < r)) (h2 : ¬ (l < 0 ∨ 2 < l)) (h3 : z < 0) : zEv (d + 2) zM_X7_row 0 0 [.ref 0, .int r, .int l, .int z] (lay m) (some (.int (-1000014)), lay (upI m 0 3 4)) := by
  refine zEv_of (by decide) (fun G => Nat.le_of_ble_eq_true rfl) ?_
  show ZW _ _ _ _ 0 [some (.ref 0), some (.int r), some (.int l), some (.int z), none] [] _ _ _ _
  refine z_iload_n (i := 1) (q := 1) dX7_row_0 rfl rfl rfl ?_
  refine m_callS_r (As := [_]) (q := 4) mk_X7_isNoRow dX7_row_1 wd_273 wd_274 (ev_X7_isNoRow _ _ _) rfl (by decide) rfl (Nat.zero_le _) (Nat.zero_le _) rfl ?_
  refine zb_ne (tgt := 22) (q := 7) dX7_row_4 (by decide) rfl (fun c1 => ?_) (fun c1 => ?_)
  · exact absurd c1 h1
  · skip
    refine z_iload_n (i := 2) (q := 8) dX7_row_7 rfl rfl rfl ?_
    refine z_iconst (v := 0) (q := 9) dX7_row_8 (by decide) rfl ?_
    refine z_iconst (v := 2) (q := 10) dX7_row_9 (by decide) rfl ?_
    refine m_callS_r (As := [_, _, _]) (q := 13) mk_X7_isOutside dX7_row_10 wd_276 wd_277 (ev_X7_isOutside _ _ _ _ _) rfl (by decide) rfl (Nat.zero_le _) (Nat.zero_le _) rfl ?_
    refine zb_ne (tgt := 22) (q := 16) dX7_row_13 (by decide) rfl (fun c2 => ?_) (fun c2 => ?_)
    · exact absurd c2 h2
    · skip
      refine z_iload_n (i := 3) (q := 17) dX7_row_16 rfl rfl rfl ?_
      refine z_bipush (v := 40) (q := 19) dX7_row_17 (by decide) rfl ?_
      refine z_icmp_le (tgt := 25) (q := 22) dX7_row_19 (by decide) rfl (fun c3 => ?_) (fun c3 => ?_)
      · skip
        refine z_iload_n (i := 3) (q := 26) dX7_row_25 rfl rfl rfl ?_
        refine z_if_ge (tgt := 35) (q := 29) dX7_row_26 (by decide) rfl (fun c4 => ?_) (fun c4 => ?_)
        · exact absurd c4 (Int32.not_le.mpr h3)
        · skip
          refine z_aload_n (i := 0) (q := 30) dX7_row_29 rfl rfl rfl ?_
          refine z_iconst (v := 4) (q := 31) dX7_row_30 (by decide) rfl ?_
          refine m_callV_r (As := [_]) (q := 34) mk_X7_found dX7_row_31 wd_280 wd_282 wp_0 (ci := 7) rfl ⟨by decide, _, rfl⟩ (ev_X7_found _ _ _) rfl (by decide) rfl (Nat.zero_le _) (Nat.zero_le _) rfl ?_
          refine z_ireturn dX7_row_34 rfl rfl ?_ (Nat.le_refl _) (Nat.le_refl _)
          rfl
      · exact absurd (show z ≤ 40 from Int32.le_of_lt (Int32.lt_of_lt_of_le h3 (by decide))) (by first | exact c3 | exact Int32.not_le.mpr c3)
set_option maxHeartbeats 4000000 in
set_option maxRecDepth 100000 in
theorem ev_X7_row (d : Nat) (m : zm) (r : Nat) (l : Int32) (z : Int32) (h2 : ¬ (l < 0 ∨ 2 < l)) (h3 : ¬ z < 0) (h4 : ¬ 40 < z) (hr : r < 8) : zEv (d + 2) zM_X7_row 0 0 [.ref 0, .int (nI r), .int l, .int z] (lay m) (some (.int (z)), lay (cRow m r l z)) := by
  refine zEv_of (by decide) (fun G => Nat.le_of_ble_eq_true rfl) ?_
  show ZW _ _ _ _ 0 [some (.ref 0), some (.int (nI r)), some (.int l), some (.int z), none] [] _ _ _ _
  refine z_iload_n (i := 1) (q := 1) dX7_row_0 rfl rfl rfl ?_
  refine m_callS_r (As := [_]) (q := 4) mk_X7_isNoRow dX7_row_1 wd_273 wd_274 (ev_X7_isNoRow _ _ _) rfl (by decide) rfl (Nat.zero_le _) (Nat.zero_le _) rfl ?_
  refine zb_ne (tgt := 22) (q := 7) dX7_row_4 (by decide) rfl (fun c1 => ?_) (fun c1 => ?_)
  · exact absurd c1 (lt8 hr)
  · skip
    refine z_iload_n (i := 2) (q := 8) dX7_row_7 rfl rfl rfl ?_
    refine z_iconst (v := 0) (q := 9) dX7_row_8 (by decide) rfl ?_
    refine z_iconst (v := 2) (q := 10) dX7_row_9 (by decide) rfl ?_
    refine m_callS_r (As := [_, _, _]) (q := 13) mk_X7_isOutside dX7_row_10 wd_276 wd_277 (ev_X7_isOutside _ _ _ _ _) rfl (by decide) rfl (Nat.zero_le _) (Nat.zero_le _) rfl ?_
    refine zb_ne (tgt := 22) (q := 16) dX7_row_13 (by decide) rfl (fun c2 => ?_) (fun c2 => ?_)
    · exact absurd c2 h2
    · skip
      refine z_iload_n (i := 3) (q := 17) dX7_row_16 rfl rfl rfl ?_
      refine z_bipush (v := 40) (q := 19) dX7_row_17 (by decide) rfl ?_
      refine z_icmp_le (tgt := 25) (q := 22) dX7_row_19 (by decide) rfl (fun c3 => ?_) (fun c3 => ?_)
      · skip
        refine z_iload_n (i := 3) (q := 26) dX7_row_25 rfl rfl rfl ?_
        refine z_if_ge (tgt := 35) (q := 29) dX7_row_26 (by decide) rfl (fun c4 => ?_) (fun c4 => ?_)
        · skip
          refine z_iconst (v := 0) (q := 36) dX7_row_35 (by decide) rfl ?_
          refine z_istore (i := 4) (ls' := [_, _, _, _, _]) (q := 38) dX7_row_36 (by decide) rfl rfl ?_
          have e := lp_X7_row d m r hr l z 41 0 (by omega) (by omega)
          rw [cFill_0] at e
          exact e
        · exact absurd (Int32.not_le.mp c4) h3
      · exact absurd (Int32.not_le.mp c3) h4
