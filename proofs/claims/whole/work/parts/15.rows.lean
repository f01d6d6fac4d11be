/-! ===== the class: rows ===== -/
/-- the first i numbers of the array a become 0 -/
def cFill (m : zm) (a i : Nat) : zm := (fun b k => if b = a ∧ k < i then 0 else m.1 b k, m.2)
theorem cFill_0 (m : zm) (a : Nat) : cFill m a 0 = m := by
  refine Prod.ext (funext fun c => funext fun k => ?_) rfl
  simp [cFill]
theorem cFill_s (m : zm) (a i : Nat) : upI (cFill m a i) a i 0 = cFill m a (i + 1) := by
  refine Prod.ext (funext fun c => funext fun k => ?_) rfl
  simp only [upI, cFill]
  by_cases hc : c = a
  · subst hc
    by_cases hk : k = i
    · subst hk; simp
    · have e : (k < i + 1) = (k < i) := propext ⟨fun z => by omega, fun z => by omega⟩
      simp [hk, e]
  · simp [hc]
theorem lt8 {r : Nat} (h : r < 8) : ¬ (nI r < 0 ∨ 7 < nI r) := by
  rintro (z | z)
  · exact nI_pos (by omega) z
  · exact nI_nlt (a := 7) (b := r) (by omega) (by omega) z
theorem ge40 {i : Nat} (hi : i ≤ 40) (c : (40 : Int32) ≤ nI i) : i = 40 := by
  have := (nI_leI (a := 40) (b := i) (by omega) (by omega)).mp c
  omega
theorem nge40 {i : Nat} (hi : i ≤ 40) (c : ¬ (40 : Int32) ≤ nI i) : i < 40 := by
  rcases Nat.lt_or_ge i 40 with q | q
  · exact q
  · exact absurd (nI_leI (a := 40) (b := i) (by omega) (by omega) |>.mpr q) c
def cRow (m : zm) (r : Nat) (l n : Int32) : zm := upI (upI (upI (cFill m (2 + r) 40) 10 r l) 11 r n) 0 3 0
set_option maxHeartbeats 4000000 in
set_option maxRecDepth 100000 in
theorem lp_X7_row (d : Nat) (m : zm) (r : Nat) (hr : r < 8) (l z : Int32) : ∀ (n : Nat) (i : Nat), 40 - i < n → i ≤ 40 → ZW zM_X7_row (d + 2) 0 0 38 [some (.ref 0), some (.int (nI r)), some (.int l), some (.int z), some (.int (nI i))] [] (lay (cFill m (2 + r) i)) 0 0 (some (.int z), lay (cRow m r l z)) := by
  intro n
  induction n with
  | zero => intro i hm; exact absurd hm (by omega)
  | succ n ih =>
    intro i hm hi
    refine z_iload (i := 4) (q := 40) dX7_row_38 rfl rfl ?_
    refine z_bipush (v := 40) (q := 42) dX7_row_40 (by decide) rfl ?_
    refine z_icmp_ge (tgt := 61) (q := 45) dX7_row_42 (by decide) rfl (fun c1 => ?_) (fun c1 => ?_)
    · skip
      have hi40 := ge40 hi c1
      subst hi40
      refine z_aload_n (i := 0) (q := 62) dX7_row_61 rfl rfl rfl ?_
      refine m_getR (r := 10) (q := 65) dX7_row_62 fl_X7_14 ⟨by decide, _, rfl, rfl⟩ rfl ?_
      refine z_iload_n (i := 1) (q := 66) dX7_row_65 rfl rfl rfl ?_
      refine z_iload_n (i := 2) (q := 67) dX7_row_66 rfl rfl rfl ?_
      refine m_iastJ (N := 8) (q := 68) dX7_row_67 ⟨by decide, _, rfl⟩ (j := r) (nI_clamp (by omega)) (vp_in_nI (by omega) (by decide)) rfl ?_
      refine z_aload_n (i := 0) (q := 69) dX7_row_68 rfl rfl rfl ?_
      refine m_getR (r := 11) (q := 72) dX7_row_69 fl_X7_18 ⟨by decide, _, rfl, rfl⟩ rfl ?_
      refine z_iload_n (i := 1) (q := 73) dX7_row_72 rfl rfl rfl ?_
      refine z_iload_n (i := 3) (q := 74) dX7_row_73 rfl rfl rfl ?_
      refine m_iastJ (N := 8) (q := 75) dX7_row_74 ⟨by decide, _, rfl⟩ (j := r) (nI_clamp (by omega)) (vp_in_nI (by omega) (by decide)) rfl ?_
      refine z_aload_n (i := 0) (q := 76) dX7_row_75 rfl rfl rfl ?_
      refine z_iload_n (i := 3) (q := 77) dX7_row_76 rfl rfl rfl ?_
      refine m_callV_r (As := [_]) (q := 80) mk_X7_foundNothing dX7_row_77 wd_285 wd_287 wp_1 (ci := 7) rfl ⟨by decide, _, rfl⟩ (ev_X7_foundNothing _ _ _) rfl (by decide) rfl (Nat.zero_le _) (Nat.zero_le _) rfl ?_
      refine z_ireturn dX7_row_80 rfl rfl ?_ (Nat.le_refl _) (Nat.le_refl _)
      rfl
    · skip
      have hi40 := nge40 hi c1
      refine z_aload_n (i := 0) (q := 46) dX7_row_45 rfl rfl rfl ?_
      refine m_getR (r := 1) (q := 49) dX7_row_46 fl_X7_11 ⟨by decide, _, rfl, rfl⟩ rfl ?_
      refine z_iload_n (i := 1) (q := 50) dX7_row_49 rfl rfl rfl ?_
      refine m_aald (kd := 3) (N := 8) (b := 2 + r) (q := 51) dX7_row_50 (by decide) (okPn (by decide) rfl (by omega) (by decide)) (nI_pos' (by omega)) rfl ?_
      refine z_iload (i := 4) (q := 53) dX7_row_51 rfl rfl ?_
      refine z_iconst (v := 0) (q := 54) dX7_row_53 (by decide) rfl ?_
      refine m_iastJ (N := 40) (q := 55) dX7_row_54 (okA_row (r := r) (by omega)) (j := i) (nI_clamp (by omega)) (vp_in_nI (by omega) (by decide)) rfl ?_
      refine z_iinc (i := 4) (ls' := [_, _, _, _, _]) (v := nI (i + 1)) (q := 58) dX7_row_55 rfl (nI_1 _) (by decide) rfl rfl ?_
      refine z_goto (tgt := 38) dX7_row_58 (by decide) ?_
      rw [cFill_s]
      exact ih (i + 1) (by omega) (by omega)
set_option maxHeartbeats 4000000 in
set_option maxRecDepth 100000 in
theorem ev_X7_row_bad (d : Nat) (m : zm) (r : Int32) (l : Int32) (z : Int32) (hb : (r < 0 ∨ 7 < r) ∨ (l < 0 ∨ 2 < l) ∨ 40 < z) : zEv (d + 2) zM_X7_row 0 0 [.ref 0, .int r, .int l, .int z] (lay m) (some (.int (-1000001)), lay (m)) := by
  refine zEv_of (by decide) (fun G => Nat.le_of_ble_eq_true rfl) ?_
  show ZW _ _ _ _ 0 [some (.ref 0), some (.int r), some (.int l), some (.int z), none] [] _ _ _ _
  refine z_iload_n (i := 1) (q := 1) dX7_row_0 rfl rfl rfl ?_
  refine m_callS_r (As := [_]) (q := 4) mk_X7_isNoRow dX7_row_1 wd_273 wd_274 (ev_X7_isNoRow _ _ _) rfl (by decide) rfl (Nat.zero_le _) (Nat.zero_le _) rfl ?_
  refine zb_ne (tgt := 22) (q := 7) dX7_row_4 (by decide) rfl (fun c1 => ?_) (fun c1 => ?_)
  · skip
    refine z_ldc (q := 24) dX7_row_22 wd_279 rfl ?_
    refine z_ireturn dX7_row_24 rfl rfl ?_ (Nat.le_refl _) (Nat.le_refl _)
    rfl
  · skip
    refine z_iload_n (i := 2) (q := 8) dX7_row_7 rfl rfl rfl ?_
    refine z_iconst (v := 0) (q := 9) dX7_row_8 (by decide) rfl ?_
    refine z_iconst (v := 2) (q := 10) dX7_row_9 (by decide) rfl ?_
    refine m_callS_r (As := [_, _, _]) (q := 13) mk_X7_isOutside dX7_row_10 wd_276 wd_277 (ev_X7_isOutside _ _ _ _ _) rfl (by decide) rfl (Nat.zero_le _) (Nat.zero_le _) rfl ?_
    refine zb_ne (tgt := 22) (q := 16) dX7_row_13 (by decide) rfl (fun c2 => ?_) (fun c2 => ?_)
    · skip
      refine z_ldc (q := 24) dX7_row_22 wd_279 rfl ?_
      refine z_ireturn dX7_row_24 rfl rfl ?_ (Nat.le_refl _) (Nat.le_refl _)
      rfl
    · skip
      refine z_iload_n (i := 3) (q := 17) dX7_row_16 rfl rfl rfl ?_
      refine z_bipush (v := 40) (q := 19) dX7_row_17 (by decide) rfl ?_
      refine z_icmp_le (tgt := 25) (q := 22) dX7_row_19 (by decide) rfl (fun c3 => ?_) (fun c3 => ?_)
      · exact absurd hb (fun z1 => z1.elim c1 (fun z1 => z1.elim c2 (fun z1 => absurd c3 (Int32.not_le.mpr z1))))
      · skip
        refine z_ldc (q := 24) dX7_row_22 wd_279 rfl ?_
        refine z_ireturn dX7_row_24 rfl rfl ?_ (Nat.le_refl _) (Nat.le_refl _)
        rfl
set_option maxHeartbeats 4000000 in
set_option maxRecDepth 100000 in
theorem ev_X7_row_size (d : Nat) (m : zm) (r : Int32) (l : Int32) (z : Int32) (h1 : ¬ (r < 0 ∨ 7 < r)) (h2 : ¬ (l < 0 ∨ 2 < l)) (h3 : z < 0) : zEv (d + 2) zM_X7_row 0 0 [.ref 0, .int r, .int l, .int z] (lay m) (some (.int (-1000014)), lay (upI m 0 3 4)) := by
  refine zEv_of (by decide) (fun G => Nat.le_of_ble_eq_true rfl) ?_
  show ZW _ _ _ _ 0 [some (.ref 0), some (.int r), some (.int l), some (.int z), none] [] _ _ _ _
  refine z_iload_n (i := 1) (q := 1) dX7_row_0 rfl rfl rfl ?_
  refine m_callS_r (As := [_]) (q := 4) mk_X7_isNoRow dX7_row_1 wd_273 wd_274 (ev_X7_isNoRow _ _ _) rfl (by decide) rfl (Nat.zero_le _) (Nat.zero_le _) rfl ?_
  refine zb_ne (tgt := 22) (q := 7) dX7_row_4 (by decide) rfl (fun c1 => ?_) (fun c1 => ?_)
  · exact absurd c1 h1
  · skip
    refine z_iload_n (i := 2) (q := 8) dX7_row_7 rfl rfl rfl ?_
    refine z_iconst (v := 0) (q := 9) dX7_row_8 (by decide) rfl ?_
    refine z_iconst (v := 2) (q := 10) dX7_row_9 (by decide) rfl ?_
    refine m_callS_r (As := [_, _, _]) (q := 13) mk_X7_isOutside dX7_row_10 wd_276 wd_277 (ev_X7_isOutside _ _ _ _ _) rfl (by decide) rfl (Nat.zero_le _) (Nat.zero_le _) rfl ?_
    refine zb_ne (tgt := 22) (q := 16) dX7_row_13 (by decide) rfl (fun c2 => ?_) (fun c2 => ?_)
    · exact absurd c2 h2
    · skip
      refine z_iload_n (i := 3) (q := 17) dX7_row_16 rfl rfl rfl ?_
      refine z_bipush (v := 40) (q := 19) dX7_row_17 (by decide) rfl ?_
      refine z_icmp_le (tgt := 25) (q := 22) dX7_row_19 (by decide) rfl (fun c3 => ?_) (fun c3 => ?_)
      · skip
        refine z_iload_n (i := 3) (q := 26) dX7_row_25 rfl rfl rfl ?_
        refine z_if_ge (tgt := 35) (q := 29) dX7_row_26 (by decide) rfl (fun c4 => ?_) (fun c4 => ?_)
        · exact absurd c4 (Int32.not_le.mpr h3)
        · skip
          refine z_aload_n (i := 0) (q := 30) dX7_row_29 rfl rfl rfl ?_
          refine z_iconst (v := 4) (q := 31) dX7_row_30 (by decide) rfl ?_
          refine m_callV_r (As := [_]) (q := 34) mk_X7_found dX7_row_31 wd_280 wd_282 wp_0 (ci := 7) rfl ⟨by decide, _, rfl⟩ (ev_X7_found _ _ _) rfl (by decide) rfl (Nat.zero_le _) (Nat.zero_le _) rfl ?_
          refine z_ireturn dX7_row_34 rfl rfl ?_ (Nat.le_refl _) (Nat.le_refl _)
          rfl
      · exact absurd (show z ≤ 40 from Int32.le_of_lt (Int32.lt_of_lt_of_le h3 (by decide))) (by first | exact c3 | exact Int32.not_le.mpr c3)
set_option maxHeartbeats 4000000 in
set_option maxRecDepth 100000 in
theorem ev_X7_row (d : Nat) (m : zm) (r : Nat) (l : Int32) (z : Int32) (h2 : ¬ (l < 0 ∨ 2 < l)) (h3 : ¬ z < 0) (h4 : ¬ 40 < z) (hr : r < 8) : zEv (d + 2) zM_X7_row 0 0 [.ref 0, .int (nI r), .int l, .int z] (lay m) (some (.int (z)), lay (cRow m r l z)) := by
  refine zEv_of (by decide) (fun G => Nat.le_of_ble_eq_true rfl) ?_
  show ZW _ _ _ _ 0 [some (.ref 0), some (.int (nI r)), some (.int l), some (.int z), none] [] _ _ _ _
  refine z_iload_n (i := 1) (q := 1) dX7_row_0 rfl rfl rfl ?_
  refine m_callS_r (As := [_]) (q := 4) mk_X7_isNoRow dX7_row_1 wd_273 wd_274 (ev_X7_isNoRow _ _ _) rfl (by decide) rfl (Nat.zero_le _) (Nat.zero_le _) rfl ?_
  refine zb_ne (tgt := 22) (q := 7) dX7_row_4 (by decide) rfl (fun c1 => ?_) (fun c1 => ?_)
  · exact absurd c1 (lt8 hr)
  · skip
    refine z_iload_n (i := 2) (q := 8) dX7_row_7 rfl rfl rfl ?_
    refine z_iconst (v := 0) (q := 9) dX7_row_8 (by decide) rfl ?_
    refine z_iconst (v := 2) (q := 10) dX7_row_9 (by decide) rfl ?_
    refine m_callS_r (As := [_, _, _]) (q := 13) mk_X7_isOutside dX7_row_10 wd_276 wd_277 (ev_X7_isOutside _ _ _ _ _) rfl (by decide) rfl (Nat.zero_le _) (Nat.zero_le _) rfl ?_
    refine zb_ne (tgt := 22) (q := 16) dX7_row_13 (by decide) rfl (fun c2 => ?_) (fun c2 => ?_)
    · exact absurd c2 h2
    · skip
      refine z_iload_n (i := 3) (q := 17) dX7_row_16 rfl rfl rfl ?_
      refine z_bipush (v := 40) (q := 19) dX7_row_17 (by decide) rfl ?_
      refine z_icmp_le (tgt := 25) (q := 22) dX7_row_19 (by decide) rfl (fun c3 => ?_) (fun c3 => ?_)
      · skip
        refine z_iload_n (i := 3) (q := 26) dX7_row_25 rfl rfl rfl ?_
        refine z_if_ge (tgt := 35) (q := 29) dX7_row_26 (by decide) rfl (fun c4 => ?_) (fun c4 => ?_)
        · skip
          refine z_iconst (v := 0) (q := 36) dX7_row_35 (by decide) rfl ?_
          refine z_istore (i := 4) (ls' := [_, _, _, _, _]) (q := 38) dX7_row_36 (by decide) rfl rfl ?_
          have e := lp_X7_row d m r hr l z 41 0 (by omega) (by omega)
          rw [cFill_0] at e
          exact e
        · exact absurd (Int32.not_le.mp c4) h3
      · exact absurd (Int32.not_le.mp c3) h4
def cBey (m : zm) (r : Nat) (i z : Int32) : Prop := i < 0 ∨ z < 0 ∨ (m.1 11 r).toInt64 < i.toInt64 + z.toInt64
theorem zsum64 (i z : Int32) : (i.toInt64 + z.toInt64).toInt = i.toInt + z.toInt := by
  rw [Int64.toInt_add, Int32.toInt_toInt64, Int32.toInt_toInt64]
  have h1 := Int32.toInt_lt i
  have h2 := Int32.le_toInt i
  have h3 := Int32.toInt_lt z
  have h4 := Int32.le_toInt z
  exact Int.bmod_eq_of_le (by omega) (by omega)
theorem bey_in {m : zm} {r : Nat} {i z : Int32} (hs : m.1 11 r ≤ 40) (h : ¬ (i < 0 ∨ z < 0 ∨ (m.1 11 r).toInt64 < i.toInt64 + z.toInt64)) : ¬ i < 0 ∧ ¬ z < 0 ∧ i.toNatClampNeg + z.toNatClampNeg ≤ 40 := by
  have h1 : ¬ i < 0 := fun q => h (Or.inl q)
  have h2 : ¬ z < 0 := fun q => h (Or.inr (Or.inl q))
  have h3 : ¬ (m.1 11 r).toInt64 < i.toInt64 + z.toInt64 := fun q => h (Or.inr (Or.inr q))
  refine ⟨h1, h2, ?_⟩
  rw [Int64.lt_iff_toInt_lt, zsum64, Int32.toInt_toInt64, znn i h1, znn z h2] at h3
  rw [Int32.le_iff_toInt_le] at hs
  have : (40 : Int32).toInt = 40 := by decide
  omega
theorem bey_in1 {m : zm} {r : Nat} {i : Int32} (hs : m.1 11 r ≤ 40) (h : ¬ (i < 0 ∨ (1 : Int32) < 0 ∨ (m.1 11 r).toInt64 < i.toInt64 + (1 : Int32).toInt64)) : vp_in i 40 := by
  obtain ⟨h1, -, h3⟩ := bey_in hs h
  have : (1 : Int32).toNatClampNeg = 1 := by decide
  rintro (q | q)
  · exact h1 q
  · omega
def cLow (l v : Int32) : Int32 := if l = 0 then v.toInt8.toInt32 else if l = 1 then v.toInt16.toInt32 else v
set_option maxHeartbeats 4000000 in
set_option maxRecDepth 100000 in
theorem ev_X7_set_bad (d : Nat) (m : zm) (r : Int32) (i : Int32) (v : Int32) (hb : r < 0 ∨ 7 < r) : zEv (d + 2) zM_X7_set 0 0 [.ref 0, .int r, .int i, .int v] (lay m) (some (.int (-1000001)), lay (m)) := by
  refine zEv_of (by decide) (fun G => Nat.le_of_ble_eq_true rfl) ?_
  show ZW _ _ _ _ 0 [some (.ref 0), some (.int r), some (.int i), some (.int v)] [] _ _ _ _
  refine z_iload_n (i := 1) (q := 1) dX7_set_0 rfl rfl rfl ?_
  refine m_callS_r (As := [_]) (q := 4) mk_X7_isNoRow dX7_set_1 wd_273 wd_274 (ev_X7_isNoRow _ _ _) rfl (by decide) rfl (Nat.zero_le _) (Nat.zero_le _) rfl ?_
  refine zb_eq (tgt := 10) (q := 7) dX7_set_4 (by decide) rfl (fun c1 => ?_) (fun c1 => ?_)
  · contradiction
  · skip
    refine z_ldc (q := 9) dX7_set_7 wd_279 rfl ?_
    refine z_ireturn dX7_set_9 rfl rfl ?_ (Nat.le_refl _) (Nat.le_refl _)
    rfl
set_option maxHeartbeats 4000000 in
set_option maxRecDepth 100000 in
theorem ev_X7_set_null (d : Nat) (m : zm) (r : Nat) (i : Int32) (v : Int32) (h1 : m.1 11 r = -1) (hr : r < 8) : zEv (d + 2) zM_X7_set 0 0 [.ref 0, .int (nI r), .int i, .int v] (lay m) (some (.int (-1000010 - 1)), lay (upI m 0 3 1)) := by
  refine zEv_of (by decide) (fun G => Nat.le_of_ble_eq_true rfl) ?_
  show ZW _ _ _ _ 0 [some (.ref 0), some (.int (nI r)), some (.int i), some (.int v)] [] _ _ _ _
  have hn := lt8 hr
  refine z_iload_n (i := 1) (q := 1) dX7_set_0 rfl rfl rfl ?_
  refine m_callS_r (As := [_]) (q := 4) mk_X7_isNoRow dX7_set_1 wd_273 wd_274 (ev_X7_isNoRow _ _ _) rfl (by decide) rfl (Nat.zero_le _) (Nat.zero_le _) rfl ?_
  refine zb_eq (tgt := 10) (q := 7) dX7_set_4 (by decide) rfl (fun c1 => ?_) (fun c1 => ?_)
  · skip
    refine z_aload_n (i := 0) (q := 11) dX7_set_10 rfl rfl rfl ?_
    refine z_iload_n (i := 1) (q := 12) dX7_set_11 rfl rfl rfl ?_
    refine m_callV_r (As := [_]) (q := 15) mk_X7_isMissing dX7_set_12 wd_293 wd_295 wp_2 (ci := 7) rfl ⟨by decide, _, rfl⟩ (ev_X7_isMissing _ _ _  (by omega)) rfl (by decide) rfl (Nat.zero_le _) (Nat.zero_le _) rfl ?_
    refine zb_eq (tgt := 24) (q := 18) dX7_set_15 (by decide) rfl (fun c2 => ?_) (fun c2 => ?_)
    · contradiction
    · skip
      refine z_aload_n (i := 0) (q := 19) dX7_set_18 rfl rfl rfl ?_
      refine z_iconst (v := 1) (q := 20) dX7_set_19 (by decide) rfl ?_
      refine m_callV_r (As := [_]) (q := 23) mk_X7_found dX7_set_20 wd_280 wd_282 wp_0 (ci := 7) rfl ⟨by decide, _, rfl⟩ (ev_X7_found _ _ _) rfl (by decide) rfl (Nat.zero_le _) (Nat.zero_le _) rfl ?_
      refine z_ireturn dX7_set_23 rfl rfl ?_ (Nat.le_refl _) (Nat.le_refl _)
      rfl
  · contradiction
set_option maxHeartbeats 4000000 in
set_option maxRecDepth 100000 in
theorem ev_X7_set_place (d : Nat) (m : zm) (r : Nat) (i : Int32) (v : Int32) (h1 : ¬ m.1 11 r = -1) (h2 : (i < 0 ∨ (1 : Int32) < 0 ∨ (m.1 11 r).toInt64 < i.toInt64 + (1 : Int32).toInt64)) (hr : r < 8) : zEv (d + 2) zM_X7_set 0 0 [.ref 0, .int (nI r), .int i, .int v] (lay m) (some (.int (-1000010 - 2)), lay (upI m 0 3 2)) := by
  refine zEv_of (by decide) (fun G => Nat.le_of_ble_eq_true rfl) ?_
  show ZW _ _ _ _ 0 [some (.ref 0), some (.int (nI r)), some (.int i), some (.int v)] [] _ _ _ _
  have hn := lt8 hr
  refine z_iload_n (i := 1) (q := 1) dX7_set_0 rfl rfl rfl ?_
  refine m_callS_r (As := [_]) (q := 4) mk_X7_isNoRow dX7_set_1 wd_273 wd_274 (ev_X7_isNoRow _ _ _) rfl (by decide) rfl (Nat.zero_le _) (Nat.zero_le _) rfl ?_
  refine zb_eq (tgt := 10) (q := 7) dX7_set_4 (by decide) rfl (fun c1 => ?_) (fun c1 => ?_)
  · skip
    refine z_aload_n (i := 0) (q := 11) dX7_set_10 rfl rfl rfl ?_
    refine z_iload_n (i := 1) (q := 12) dX7_set_11 rfl rfl rfl ?_
    refine m_callV_r (As := [_]) (q := 15) mk_X7_isMissing dX7_set_12 wd_293 wd_295 wp_2 (ci := 7) rfl ⟨by decide, _, rfl⟩ (ev_X7_isMissing _ _ _  (by omega)) rfl (by decide) rfl (Nat.zero_le _) (Nat.zero_le _) rfl ?_
    refine zb_eq (tgt := 24) (q := 18) dX7_set_15 (by decide) rfl (fun c2 => ?_) (fun c2 => ?_)
    · skip
      refine z_aload_n (i := 0) (q := 25) dX7_set_24 rfl rfl rfl ?_
      refine z_iload_n (i := 1) (q := 26) dX7_set_25 rfl rfl rfl ?_
      refine z_iload_n (i := 2) (q := 27) dX7_set_26 rfl rfl rfl ?_
      refine z_iconst (v := 1) (q := 28) dX7_set_27 (by decide) rfl ?_
      refine m_callV_r (As := [_, _, _]) (q := 31) mk_X7_isBeyond dX7_set_28 wd_297 wd_299 wp_3 (ci := 7) rfl ⟨by decide, _, rfl⟩ (ev_X7_isBeyond _ _ _ _ _  (by omega)) rfl (by decide) rfl (Nat.zero_le _) (Nat.zero_le _) rfl ?_
      refine zb_eq (tgt := 40) (q := 34) dX7_set_31 (by decide) rfl (fun c3 => ?_) (fun c3 => ?_)
      · contradiction
      · skip
        refine z_aload_n (i := 0) (q := 35) dX7_set_34 rfl rfl rfl ?_
        refine z_iconst (v := 2) (q := 36) dX7_set_35 (by decide) rfl ?_
        refine m_callV_r (As := [_]) (q := 39) mk_X7_found dX7_set_36 wd_280 wd_282 wp_0 (ci := 7) rfl ⟨by decide, _, rfl⟩ (ev_X7_found _ _ _) rfl (by decide) rfl (Nat.zero_le _) (Nat.zero_le _) rfl ?_
        refine z_ireturn dX7_set_39 rfl rfl ?_ (Nat.le_refl _) (Nat.le_refl _)
        rfl
    · contradiction
  · contradiction
set_option maxHeartbeats 4000000 in
set_option maxRecDepth 100000 in
theorem ev_X7_set (d : Nat) (m : zm) (r : Nat) (i : Int32) (v : Int32) (h1 : ¬ m.1 11 r = -1) (h2 : ¬ (i < 0 ∨ (1 : Int32) < 0 ∨ (m.1 11 r).toInt64 < i.toInt64 + (1 : Int32).toInt64)) (hs : m.1 11 r ≤ 40) (hr : r < 8) : zEv (d + 2) zM_X7_set 0 0 [.ref 0, .int (nI r), .int i, .int v] (lay m) (some (.int (cLow (m.1 10 r) v)), lay (upI (upI m (2 + r) i.toNatClampNeg (cLow (m.1 10 r) v)) 0 3 0)) := by
  refine zEv_of (by decide) (fun G => Nat.le_of_ble_eq_true rfl) ?_
  show ZW _ _ _ _ 0 [some (.ref 0), some (.int (nI r)), some (.int i), some (.int v)] [] _ _ _ _
  have hn := lt8 hr
  refine z_iload_n (i := 1) (q := 1) dX7_set_0 rfl rfl rfl ?_
  refine m_callS_r (As := [_]) (q := 4) mk_X7_isNoRow dX7_set_1 wd_273 wd_274 (ev_X7_isNoRow _ _ _) rfl (by decide) rfl (Nat.zero_le _) (Nat.zero_le _) rfl ?_
  refine zb_eq (tgt := 10) (q := 7) dX7_set_4 (by decide) rfl (fun c1 => ?_) (fun c1 => ?_)
  · skip
    refine z_aload_n (i := 0) (q := 11) dX7_set_10 rfl rfl rfl ?_
    refine z_iload_n (i := 1) (q := 12) dX7_set_11 rfl rfl rfl ?_
    refine m_callV_r (As := [_]) (q := 15) mk_X7_isMissing dX7_set_12 wd_293 wd_295 wp_2 (ci := 7) rfl ⟨by decide, _, rfl⟩ (ev_X7_isMissing _ _ _  (by omega)) rfl (by decide) rfl (Nat.zero_le _) (Nat.zero_le _) rfl ?_
    refine zb_eq (tgt := 24) (q := 18) dX7_set_15 (by decide) rfl (fun c2 => ?_) (fun c2 => ?_)
    · skip
      refine z_aload_n (i := 0) (q := 25) dX7_set_24 rfl rfl rfl ?_
      refine z_iload_n (i := 1) (q := 26) dX7_set_25 rfl rfl rfl ?_
      refine z_iload_n (i := 2) (q := 27) dX7_set_26 rfl rfl rfl ?_
      refine z_iconst (v := 1) (q := 28) dX7_set_27 (by decide) rfl ?_
      refine m_callV_r (As := [_, _, _]) (q := 31) mk_X7_isBeyond dX7_set_28 wd_297 wd_299 wp_3 (ci := 7) rfl ⟨by decide, _, rfl⟩ (ev_X7_isBeyond _ _ _ _ _  (by omega)) rfl (by decide) rfl (Nat.zero_le _) (Nat.zero_le _) rfl ?_
      refine zb_eq (tgt := 40) (q := 34) dX7_set_31 (by decide) rfl (fun c3 => ?_) (fun c3 => ?_)
      · skip
        refine z_aload_n (i := 0) (q := 41) dX7_set_40 rfl rfl rfl ?_
        refine m_getR (r := 1) (q := 44) dX7_set_41 fl_X7_11 ⟨by decide, _, rfl, rfl⟩ rfl ?_
        refine z_iload_n (i := 1) (q := 45) dX7_set_44 rfl rfl rfl ?_
        refine m_aald (kd := 3) (N := 8) (b := 2 + r) (q := 46) dX7_set_45 (by decide) (okPn (by decide) rfl (by omega) (by decide)) (nI_pos' (by omega)) rfl ?_
        refine z_iload_n (i := 2) (q := 47) dX7_set_46 rfl rfl rfl ?_
        refine z_aload_n (i := 0) (q := 48) dX7_set_47 rfl rfl rfl ?_
        refine m_getR (r := 10) (q := 51) dX7_set_48 fl_X7_14 ⟨by decide, _, rfl, rfl⟩ rfl ?_
        refine z_iload_n (i := 1) (q := 52) dX7_set_51 rfl rfl rfl ?_
        refine m_ialdJ (N := 8) (q := 53) dX7_set_52 ⟨by decide, _, rfl⟩ (j := r) (nI_clamp (by omega)) (vp_in_nI (by omega) (by decide)) rfl ?_
        refine z_iload_n (i := 3) (q := 54) dX7_set_53 rfl rfl rfl ?_
        refine m_callS_r (As := [_, _]) (q := 57) mk_X7_lowestBits dX7_set_54 wd_301 wd_302 (ev_X7_lowestBits _ _ _ _) rfl (by simp [Value.category]) rfl (Nat.zero_le _) (Nat.zero_le _) rfl ?_
        refine m_iastJ (N := 40) (q := 58) dX7_set_57 (okA_row (r := r) (by omega)) (j := i.toNatClampNeg) rfl (bey_in1 hs h2) rfl ?_
        refine z_aload_n (i := 0) (q := 59) dX7_set_58 rfl rfl rfl ?_
        refine z_aload_n (i := 0) (q := 60) dX7_set_59 rfl rfl rfl ?_
        refine m_getR (r := 1) (q := 63) dX7_set_60 fl_X7_11 ⟨by decide, _, rfl, rfl⟩ rfl ?_
        refine z_iload_n (i := 1) (q := 64) dX7_set_63 rfl rfl rfl ?_
        refine m_aald (kd := 3) (N := 8) (b := 2 + r) (q := 65) dX7_set_64 (by decide) (okPn (by decide) rfl (by omega) (by decide)) (nI_pos' (by omega)) rfl ?_
        refine z_iload_n (i := 2) (q := 66) dX7_set_65 rfl rfl rfl ?_
        refine m_ialdJ (N := 40) (q := 67) dX7_set_66 (okA_row (r := r) (by omega)) (j := i.toNatClampNeg) rfl (bey_in1 hs h2) rfl ?_
        refine m_callV_r (As := [_]) (q := 70) mk_X7_foundNothing dX7_set_67 wd_285 wd_287 wp_1 (ci := 7) rfl ⟨by decide, _, rfl⟩ (ev_X7_foundNothing _ _ _) rfl (by decide) rfl (Nat.zero_le _) (Nat.zero_le _) rfl ?_
        refine z_ireturn dX7_set_70 rfl rfl ?_ (Nat.le_refl _) (Nat.le_refl _)
        rw [upI_eq]
        rfl
      · contradiction
    · contradiction
  · contradiction
set_option maxHeartbeats 4000000 in
set_option maxRecDepth 100000 in
theorem ev_X7_drop_bad (d : Nat) (m : zm) (r : Int32) (hb : r < 0 ∨ 7 < r) : zEv (d + 2) zM_X7_drop 0 0 [.ref 0, .int r] (lay m) (some (.int (-1000001)), lay (m)) := by
  refine zEv_of (by decide) (fun G => Nat.le_of_ble_eq_true rfl) ?_
  show ZW _ _ _ _ 0 [some (.ref 0), some (.int r), none] [] _ _ _ _
  refine z_iload_n (i := 1) (q := 1) dX7_drop_0 rfl rfl rfl ?_
  refine m_callS_r (As := [_]) (q := 4) mk_X7_isNoRow dX7_drop_1 wd_273 wd_274 (ev_X7_isNoRow _ _ _) rfl (by decide) rfl (Nat.zero_le _) (Nat.zero_le _) rfl ?_
  refine zb_eq (tgt := 10) (q := 7) dX7_drop_4 (by decide) rfl (fun c1 => ?_) (fun c1 => ?_)
  · contradiction
  · skip
    refine z_ldc (q := 9) dX7_drop_7 wd_279 rfl ?_
    refine z_ireturn dX7_drop_9 rfl rfl ?_ (Nat.le_refl _) (Nat.le_refl _)
    rfl
set_option maxHeartbeats 4000000 in
set_option maxRecDepth 100000 in
theorem ev_X7_drop_null (d : Nat) (m : zm) (r : Nat) (h1 : m.1 11 r = -1) (hr : r < 8) : zEv (d + 2) zM_X7_drop 0 0 [.ref 0, .int (nI r)] (lay m) (some (.int (-1000010 - 1)), lay (upI m 0 3 1)) := by
  refine zEv_of (by decide) (fun G => Nat.le_of_ble_eq_true rfl) ?_
  show ZW _ _ _ _ 0 [some (.ref 0), some (.int (nI r)), none] [] _ _ _ _
  have hn := lt8 hr
  refine z_iload_n (i := 1) (q := 1) dX7_drop_0 rfl rfl rfl ?_
  refine m_callS_r (As := [_]) (q := 4) mk_X7_isNoRow dX7_drop_1 wd_273 wd_274 (ev_X7_isNoRow _ _ _) rfl (by decide) rfl (Nat.zero_le _) (Nat.zero_le _) rfl ?_
  refine zb_eq (tgt := 10) (q := 7) dX7_drop_4 (by decide) rfl (fun c1 => ?_) (fun c1 => ?_)
  · skip
    refine z_aload_n (i := 0) (q := 11) dX7_drop_10 rfl rfl rfl ?_
    refine z_iload_n (i := 1) (q := 12) dX7_drop_11 rfl rfl rfl ?_
    refine m_callV_r (As := [_]) (q := 15) mk_X7_isMissing dX7_drop_12 wd_293 wd_295 wp_2 (ci := 7) rfl ⟨by decide, _, rfl⟩ (ev_X7_isMissing _ _ _  (by omega)) rfl (by decide) rfl (Nat.zero_le _) (Nat.zero_le _) rfl ?_
    refine zb_eq (tgt := 24) (q := 18) dX7_drop_15 (by decide) rfl (fun c2 => ?_) (fun c2 => ?_)
    · contradiction
    · skip
      refine z_aload_n (i := 0) (q := 19) dX7_drop_18 rfl rfl rfl ?_
      refine z_iconst (v := 1) (q := 20) dX7_drop_19 (by decide) rfl ?_
      refine m_callV_r (As := [_]) (q := 23) mk_X7_found dX7_drop_20 wd_280 wd_282 wp_0 (ci := 7) rfl ⟨by decide, _, rfl⟩ (ev_X7_found _ _ _) rfl (by decide) rfl (Nat.zero_le _) (Nat.zero_le _) rfl ?_
      refine z_ireturn dX7_drop_23 rfl rfl ?_ (Nat.le_refl _) (Nat.le_refl _)
      rfl
  · contradiction
set_option maxHeartbeats 4000000 in
set_option maxRecDepth 100000 in
theorem ev_X7_drop (d : Nat) (m : zm) (r : Nat) (h1 : ¬ m.1 11 r = -1) (hr : r < 8) : zEv (d + 2) zM_X7_drop 0 0 [.ref 0, .int (nI r)] (lay m) (some (.int (m.1 11 r)), lay (upI (upI m 11 r (-1)) 0 3 0)) := by
  refine zEv_of (by decide) (fun G => Nat.le_of_ble_eq_true rfl) ?_
  show ZW _ _ _ _ 0 [some (.ref 0), some (.int (nI r)), none] [] _ _ _ _
  have hn := lt8 hr
  refine z_iload_n (i := 1) (q := 1) dX7_drop_0 rfl rfl rfl ?_
  refine m_callS_r (As := [_]) (q := 4) mk_X7_isNoRow dX7_drop_1 wd_273 wd_274 (ev_X7_isNoRow _ _ _) rfl (by decide) rfl (Nat.zero_le _) (Nat.zero_le _) rfl ?_
  refine zb_eq (tgt := 10) (q := 7) dX7_drop_4 (by decide) rfl (fun c1 => ?_) (fun c1 => ?_)
  · skip
    refine z_aload_n (i := 0) (q := 11) dX7_drop_10 rfl rfl rfl ?_
    refine z_iload_n (i := 1) (q := 12) dX7_drop_11 rfl rfl rfl ?_
    refine m_callV_r (As := [_]) (q := 15) mk_X7_isMissing dX7_drop_12 wd_293 wd_295 wp_2 (ci := 7) rfl ⟨by decide, _, rfl⟩ (ev_X7_isMissing _ _ _  (by omega)) rfl (by decide) rfl (Nat.zero_le _) (Nat.zero_le _) rfl ?_
    refine zb_eq (tgt := 24) (q := 18) dX7_drop_15 (by decide) rfl (fun c2 => ?_) (fun c2 => ?_)
    · skip
      refine z_aload_n (i := 0) (q := 25) dX7_drop_24 rfl rfl rfl ?_
      refine m_getR (r := 11) (q := 28) dX7_drop_25 fl_X7_18 ⟨by decide, _, rfl, rfl⟩ rfl ?_
      refine z_iload_n (i := 1) (q := 29) dX7_drop_28 rfl rfl rfl ?_
      refine m_ialdJ (N := 8) (q := 30) dX7_drop_29 ⟨by decide, _, rfl⟩ (j := r) (nI_clamp (by omega)) (vp_in_nI (by omega) (by decide)) rfl ?_
      refine z_istore_n (i := 2) (ls' := [_, _, _]) (q := 31) dX7_drop_30 rfl (by decide) rfl rfl ?_
      refine z_aload_n (i := 0) (q := 32) dX7_drop_31 rfl rfl rfl ?_
      refine m_getR (r := 11) (q := 35) dX7_drop_32 fl_X7_18 ⟨by decide, _, rfl, rfl⟩ rfl ?_
      refine z_iload_n (i := 1) (q := 36) dX7_drop_35 rfl rfl rfl ?_
      refine z_iconst (v := (-1)) (q := 37) dX7_drop_36 (by decide) rfl ?_
      refine m_iastJ (N := 8) (q := 38) dX7_drop_37 ⟨by decide, _, rfl⟩ (j := r) (nI_clamp (by omega)) (vp_in_nI (by omega) (by decide)) rfl ?_
      refine z_aload_n (i := 0) (q := 39) dX7_drop_38 rfl rfl rfl ?_
      refine z_iload_n (i := 2) (q := 40) dX7_drop_39 rfl rfl rfl ?_
      refine m_callV_r (As := [_]) (q := 43) mk_X7_foundNothing dX7_drop_40 wd_285 wd_287 wp_1 (ci := 7) rfl ⟨by decide, _, rfl⟩ (ev_X7_foundNothing _ _ _) rfl (by decide) rfl (Nat.zero_le _) (Nat.zero_le _) rfl ?_
      refine z_ireturn dX7_drop_43 rfl rfl ?_ (Nat.le_refl _) (Nat.le_refl _)
      rfl
    · contradiction
  · contradiction
set_option maxHeartbeats 4000000 in
set_option maxRecDepth 100000 in
theorem ev_X7_copy_bad (d : Nat) (m : zm) (r : Int32) (i : Int32) (r2 : Int32) (j : Int32) (z : Int32) (hb : (r < 0 ∨ 7 < r) ∨ (r2 < 0 ∨ 7 < r2)) : zEv (d + 2) zM_X7_copy 0 0 [.ref 0, .int r, .int i, .int r2, .int j, .int z] (lay m) (some (.int (-1000001)), lay (m)) := by
  refine zEv_of (by decide) (fun G => Nat.le_of_ble_eq_true rfl) ?_
  show ZW _ _ _ _ 0 [some (.ref 0), some (.int r), some (.int i), some (.int r2), some (.int j), some (.int z)] [] _ _ _ _
  refine z_iload_n (i := 1) (q := 1) dX7_copy_0 rfl rfl rfl ?_
  refine m_callS_r (As := [_]) (q := 4) mk_X7_isNoRow dX7_copy_1 wd_273 wd_274 (ev_X7_isNoRow _ _ _) rfl (by decide) rfl (Nat.zero_le _) (Nat.zero_le _) rfl ?_
  refine zb_ne (tgt := 14) (q := 7) dX7_copy_4 (by decide) rfl (fun c1 => ?_) (fun c1 => ?_)
  · skip
    refine z_ldc (q := 16) dX7_copy_14 wd_279 rfl ?_
    refine z_ireturn dX7_copy_16 rfl rfl ?_ (Nat.le_refl _) (Nat.le_refl _)
    rfl
  · skip
    refine z_iload_n (i := 3) (q := 8) dX7_copy_7 rfl rfl rfl ?_
    refine m_callS_r (As := [_]) (q := 11) mk_X7_isNoRow dX7_copy_8 wd_273 wd_274 (ev_X7_isNoRow _ _ _) rfl (by decide) rfl (Nat.zero_le _) (Nat.zero_le _) rfl ?_
    refine zb_eq (tgt := 17) (q := 14) dX7_copy_11 (by decide) rfl (fun c2 => ?_) (fun c2 => ?_)
    · exact absurd hb (fun q => q.elim c1 c2)
    · skip
      refine z_ldc (q := 16) dX7_copy_14 wd_279 rfl ?_
      refine z_ireturn dX7_copy_16 rfl rfl ?_ (Nat.le_refl _) (Nat.le_refl _)
      rfl
set_option maxHeartbeats 4000000 in
set_option maxRecDepth 100000 in
theorem ev_X7_copy_null (d : Nat) (m : zm) (r : Nat) (i : Int32) (r2 : Nat) (j : Int32) (z : Int32) (h1 : m.1 11 r = -1 ∨ m.1 11 r2 = -1) (hr : r < 8) (hr2 : r2 < 8) : zEv (d + 2) zM_X7_copy 0 0 [.ref 0, .int (nI r), .int i, .int (nI r2), .int j, .int z] (lay m) (some (.int (-1000010 - 1)), lay (upI m 0 3 1)) := by
  refine zEv_of (by decide) (fun G => Nat.le_of_ble_eq_true rfl) ?_
  show ZW _ _ _ _ 0 [some (.ref 0), some (.int (nI r)), some (.int i), some (.int (nI r2)), some (.int j), some (.int z)] [] _ _ _ _
  have hn := lt8 hr
  have hn2 := lt8 hr2
  refine z_iload_n (i := 1) (q := 1) dX7_copy_0 rfl rfl rfl ?_
  refine m_callS_r (As := [_]) (q := 4) mk_X7_isNoRow dX7_copy_1 wd_273 wd_274 (ev_X7_isNoRow _ _ _) rfl (by decide) rfl (Nat.zero_le _) (Nat.zero_le _) rfl ?_
  refine zb_ne (tgt := 14) (q := 7) dX7_copy_4 (by decide) rfl (fun c1 => ?_) (fun c1 => ?_)
  · contradiction
  · skip
    refine z_iload_n (i := 3) (q := 8) dX7_copy_7 rfl rfl rfl ?_
    refine m_callS_r (As := [_]) (q := 11) mk_X7_isNoRow dX7_copy_8 wd_273 wd_274 (ev_X7_isNoRow _ _ _) rfl (by decide) rfl (Nat.zero_le _) (Nat.zero_le _) rfl ?_
    refine zb_eq (tgt := 17) (q := 14) dX7_copy_11 (by decide) rfl (fun c2 => ?_) (fun c2 => ?_)
    · skip
      refine z_aload_n (i := 0) (q := 18) dX7_copy_17 rfl rfl rfl ?_
      refine z_iload_n (i := 1) (q := 19) dX7_copy_18 rfl rfl rfl ?_
      refine m_callV_r (As := [_]) (q := 22) mk_X7_isMissing dX7_copy_19 wd_293 wd_295 wp_2 (ci := 7) rfl ⟨by decide, _, rfl⟩ (ev_X7_isMissing _ _ _  (by omega)) rfl (by decide) rfl (Nat.zero_le _) (Nat.zero_le _) rfl ?_
      refine zb_ne (tgt := 33) (q := 25) dX7_copy_22 (by decide) rfl (fun c3 => ?_) (fun c3 => ?_)
      · skip
        refine z_aload_n (i := 0) (q := 34) dX7_copy_33 rfl rfl rfl ?_
        refine z_iconst (v := 1) (q := 35) dX7_copy_34 (by decide) rfl ?_
        refine m_callV_r (As := [_]) (q := 38) mk_X7_found dX7_copy_35 wd_280 wd_282 wp_0 (ci := 7) rfl ⟨by decide, _, rfl⟩ (ev_X7_found _ _ _) rfl (by decide) rfl (Nat.zero_le _) (Nat.zero_le _) rfl ?_
        refine z_ireturn dX7_copy_38 rfl rfl ?_ (Nat.le_refl _) (Nat.le_refl _)
        rfl
      · skip
        refine z_aload_n (i := 0) (q := 26) dX7_copy_25 rfl rfl rfl ?_
        refine z_iload_n (i := 3) (q := 27) dX7_copy_26 rfl rfl rfl ?_
        refine m_callV_r (As := [_]) (q := 30) mk_X7_isMissing dX7_copy_27 wd_293 wd_295 wp_2 (ci := 7) rfl ⟨by decide, _, rfl⟩ (ev_X7_isMissing _ _ _  (by omega)) rfl (by decide) rfl (Nat.zero_le _) (Nat.zero_le _) rfl ?_
        refine zb_eq (tgt := 39) (q := 33) dX7_copy_30 (by decide) rfl (fun c4 => ?_) (fun c4 => ?_)
        · exact absurd h1 (fun q => q.elim c3 c4)
        · skip
          refine z_aload_n (i := 0) (q := 34) dX7_copy_33 rfl rfl rfl ?_
          refine z_iconst (v := 1) (q := 35) dX7_copy_34 (by decide) rfl ?_
          refine m_callV_r (As := [_]) (q := 38) mk_X7_found dX7_copy_35 wd_280 wd_282 wp_0 (ci := 7) rfl ⟨by decide, _, rfl⟩ (ev_X7_found _ _ _) rfl (by decide) rfl (Nat.zero_le _) (Nat.zero_le _) rfl ?_
          refine z_ireturn dX7_copy_38 rfl rfl ?_ (Nat.le_refl _) (Nat.le_refl _)
          rfl
    · contradiction
set_option maxHeartbeats 4000000 in
set_option maxRecDepth 100000 in
theorem ev_X7_copy_store (d : Nat) (m : zm) (r : Nat) (i : Int32) (r2 : Nat) (j : Int32) (z : Int32) (h1 : ¬ m.1 11 r = -1) (h2 : ¬ m.1 11 r2 = -1) (h3 : ¬ m.1 10 r = m.1 10 r2) (hr : r < 8) (hr2 : r2 < 8) : zEv (d + 2) zM_X7_copy 0 0 [.ref 0, .int (nI r), .int i, .int (nI r2), .int j, .int z] (lay m) (some (.int (-1000010 - 5)), lay (upI m 0 3 5)) := by
  refine zEv_of (by decide) (fun G => Nat.le_of_ble_eq_true rfl) ?_
  show ZW _ _ _ _ 0 [some (.ref 0), some (.int (nI r)), some (.int i), some (.int (nI r2)), some (.int j), some (.int z)] [] _ _ _ _
  have hn := lt8 hr
  have hn2 := lt8 hr2
  refine z_iload_n (i := 1) (q := 1) dX7_copy_0 rfl rfl rfl ?_
  refine m_callS_r (As := [_]) (q := 4) mk_X7_isNoRow dX7_copy_1 wd_273 wd_274 (ev_X7_isNoRow _ _ _) rfl (by decide) rfl (Nat.zero_le _) (Nat.zero_le _) rfl ?_
  refine zb_ne (tgt := 14) (q := 7) dX7_copy_4 (by decide) rfl (fun c1 => ?_) (fun c1 => ?_)
  · contradiction
  · skip
    refine z_iload_n (i := 3) (q := 8) dX7_copy_7 rfl rfl rfl ?_
    refine m_callS_r (As := [_]) (q := 11) mk_X7_isNoRow dX7_copy_8 wd_273 wd_274 (ev_X7_isNoRow _ _ _) rfl (by decide) rfl (Nat.zero_le _) (Nat.zero_le _) rfl ?_
    refine zb_eq (tgt := 17) (q := 14) dX7_copy_11 (by decide) rfl (fun c2 => ?_) (fun c2 => ?_)
    · skip
      refine z_aload_n (i := 0) (q := 18) dX7_copy_17 rfl rfl rfl ?_
      refine z_iload_n (i := 1) (q := 19) dX7_copy_18 rfl rfl rfl ?_
      refine m_callV_r (As := [_]) (q := 22) mk_X7_isMissing dX7_copy_19 wd_293 wd_295 wp_2 (ci := 7) rfl ⟨by decide, _, rfl⟩ (ev_X7_isMissing _ _ _  (by omega)) rfl (by decide) rfl (Nat.zero_le _) (Nat.zero_le _) rfl ?_
      refine zb_ne (tgt := 33) (q := 25) dX7_copy_22 (by decide) rfl (fun c3 => ?_) (fun c3 => ?_)
      · contradiction
      · skip
        refine z_aload_n (i := 0) (q := 26) dX7_copy_25 rfl rfl rfl ?_
        refine z_iload_n (i := 3) (q := 27) dX7_copy_26 rfl rfl rfl ?_
        refine m_callV_r (As := [_]) (q := 30) mk_X7_isMissing dX7_copy_27 wd_293 wd_295 wp_2 (ci := 7) rfl ⟨by decide, _, rfl⟩ (ev_X7_isMissing _ _ _  (by omega)) rfl (by decide) rfl (Nat.zero_le _) (Nat.zero_le _) rfl ?_
        refine zb_eq (tgt := 39) (q := 33) dX7_copy_30 (by decide) rfl (fun c4 => ?_) (fun c4 => ?_)
        · skip
          refine z_aload_n (i := 0) (q := 40) dX7_copy_39 rfl rfl rfl ?_
          refine m_getR (r := 10) (q := 43) dX7_copy_40 fl_X7_14 ⟨by decide, _, rfl, rfl⟩ rfl ?_
          refine z_iload_n (i := 1) (q := 44) dX7_copy_43 rfl rfl rfl ?_
          refine m_ialdJ (N := 8) (q := 45) dX7_copy_44 ⟨by decide, _, rfl⟩ (j := r) (nI_clamp (by omega)) (vp_in_nI (by omega) (by decide)) rfl ?_
          refine z_aload_n (i := 0) (q := 46) dX7_copy_45 rfl rfl rfl ?_
          refine m_getR (r := 10) (q := 49) dX7_copy_46 fl_X7_14 ⟨by decide, _, rfl, rfl⟩ rfl ?_
          refine z_iload_n (i := 3) (q := 50) dX7_copy_49 rfl rfl rfl ?_
          refine m_ialdJ (N := 8) (q := 51) dX7_copy_50 ⟨by decide, _, rfl⟩ (j := r2) (nI_clamp (by omega)) (vp_in_nI (by omega) (by decide)) rfl ?_
          refine z_icmp_eq (tgt := 60) (q := 54) dX7_copy_51 (by decide) rfl (fun c5 => ?_) (fun c5 => ?_)
          · contradiction
          · skip
            refine z_aload_n (i := 0) (q := 55) dX7_copy_54 rfl rfl rfl ?_
            refine z_iconst (v := 5) (q := 56) dX7_copy_55 (by decide) rfl ?_
            refine m_callV_r (As := [_]) (q := 59) mk_X7_found dX7_copy_56 wd_280 wd_282 wp_0 (ci := 7) rfl ⟨by decide, _, rfl⟩ (ev_X7_found _ _ _) rfl (by decide) rfl (Nat.zero_le _) (Nat.zero_le _) rfl ?_
            refine z_ireturn dX7_copy_59 rfl rfl ?_ (Nat.le_refl _) (Nat.le_refl _)
            rfl
        · contradiction
    · contradiction
set_option maxHeartbeats 4000000 in
set_option maxRecDepth 100000 in
theorem ev_X7_copy_place (d : Nat) (m : zm) (r : Nat) (i : Int32) (r2 : Nat) (j : Int32) (z : Int32) (h1 : ¬ m.1 11 r = -1) (h2 : ¬ m.1 11 r2 = -1) (h3 : m.1 10 r = m.1 10 r2) (h5 : (i < 0 ∨ z < 0 ∨ (m.1 11 r).toInt64 < i.toInt64 + z.toInt64) ∨ (j < 0 ∨ z < 0 ∨ (m.1 11 r2).toInt64 < j.toInt64 + z.toInt64)) (hr : r < 8) (hr2 : r2 < 8) : zEv (d + 2) zM_X7_copy 0 0 [.ref 0, .int (nI r), .int i, .int (nI r2), .int j, .int z] (lay m) (some (.int (-1000010 - 2)), lay (upI m 0 3 2)) := by
  refine zEv_of (by decide) (fun G => Nat.le_of_ble_eq_true rfl) ?_
  show ZW _ _ _ _ 0 [some (.ref 0), some (.int (nI r)), some (.int i), some (.int (nI r2)), some (.int j), some (.int z)] [] _ _ _ _
  have hn := lt8 hr
  have hn2 := lt8 hr2
  refine z_iload_n (i := 1) (q := 1) dX7_copy_0 rfl rfl rfl ?_
  refine m_callS_r (As := [_]) (q := 4) mk_X7_isNoRow dX7_copy_1 wd_273 wd_274 (ev_X7_isNoRow _ _ _) rfl (by decide) rfl (Nat.zero_le _) (Nat.zero_le _) rfl ?_
  refine zb_ne (tgt := 14) (q := 7) dX7_copy_4 (by decide) rfl (fun c1 => ?_) (fun c1 => ?_)
  · contradiction
  · skip
    refine z_iload_n (i := 3) (q := 8) dX7_copy_7 rfl rfl rfl ?_
    refine m_callS_r (As := [_]) (q := 11) mk_X7_isNoRow dX7_copy_8 wd_273 wd_274 (ev_X7_isNoRow _ _ _) rfl (by decide) rfl (Nat.zero_le _) (Nat.zero_le _) rfl ?_
    refine zb_eq (tgt := 17) (q := 14) dX7_copy_11 (by decide) rfl (fun c2 => ?_) (fun c2 => ?_)
    · skip
      refine z_aload_n (i := 0) (q := 18) dX7_copy_17 rfl rfl rfl ?_
      refine z_iload_n (i := 1) (q := 19) dX7_copy_18 rfl rfl rfl ?_
      refine m_callV_r (As := [_]) (q := 22) mk_X7_isMissing dX7_copy_19 wd_293 wd_295 wp_2 (ci := 7) rfl ⟨by decide, _, rfl⟩ (ev_X7_isMissing _ _ _  (by omega)) rfl (by decide) rfl (Nat.zero_le _) (Nat.zero_le _) rfl ?_
      refine zb_ne (tgt := 33) (q := 25) dX7_copy_22 (by decide) rfl (fun c3 => ?_) (fun c3 => ?_)
      · contradiction
      · skip
        refine z_aload_n (i := 0) (q := 26) dX7_copy_25 rfl rfl rfl ?_
        refine z_iload_n (i := 3) (q := 27) dX7_copy_26 rfl rfl rfl ?_
        refine m_callV_r (As := [_]) (q := 30) mk_X7_isMissing dX7_copy_27 wd_293 wd_295 wp_2 (ci := 7) rfl ⟨by decide, _, rfl⟩ (ev_X7_isMissing _ _ _  (by omega)) rfl (by decide) rfl (Nat.zero_le _) (Nat.zero_le _) rfl ?_
        refine zb_eq (tgt := 39) (q := 33) dX7_copy_30 (by decide) rfl (fun c4 => ?_) (fun c4 => ?_)
        · skip
          refine z_aload_n (i := 0) (q := 40) dX7_copy_39 rfl rfl rfl ?_
          refine m_getR (r := 10) (q := 43) dX7_copy_40 fl_X7_14 ⟨by decide, _, rfl, rfl⟩ rfl ?_
          refine z_iload_n (i := 1) (q := 44) dX7_copy_43 rfl rfl rfl ?_
          refine m_ialdJ (N := 8) (q := 45) dX7_copy_44 ⟨by decide, _, rfl⟩ (j := r) (nI_clamp (by omega)) (vp_in_nI (by omega) (by decide)) rfl ?_
          refine z_aload_n (i := 0) (q := 46) dX7_copy_45 rfl rfl rfl ?_
          refine m_getR (r := 10) (q := 49) dX7_copy_46 fl_X7_14 ⟨by decide, _, rfl, rfl⟩ rfl ?_
          refine z_iload_n (i := 3) (q := 50) dX7_copy_49 rfl rfl rfl ?_
          refine m_ialdJ (N := 8) (q := 51) dX7_copy_50 ⟨by decide, _, rfl⟩ (j := r2) (nI_clamp (by omega)) (vp_in_nI (by omega) (by decide)) rfl ?_
          refine z_icmp_eq (tgt := 60) (q := 54) dX7_copy_51 (by decide) rfl (fun c5 => ?_) (fun c5 => ?_)
          · skip
            refine z_aload_n (i := 0) (q := 61) dX7_copy_60 rfl rfl rfl ?_
            refine z_iload_n (i := 1) (q := 62) dX7_copy_61 rfl rfl rfl ?_
            refine z_iload_n (i := 2) (q := 63) dX7_copy_62 rfl rfl rfl ?_
            refine z_iload (i := 5) (q := 65) dX7_copy_63 rfl rfl ?_
            refine m_callV_r (As := [_, _, _]) (q := 68) mk_X7_isBeyond dX7_copy_65 wd_297 wd_299 wp_3 (ci := 7) rfl ⟨by decide, _, rfl⟩ (ev_X7_isBeyond _ _ _ _ _  (by omega)) rfl (by decide) rfl (Nat.zero_le _) (Nat.zero_le _) rfl ?_
            refine zb_ne (tgt := 83) (q := 71) dX7_copy_68 (by decide) rfl (fun c6 => ?_) (fun c6 => ?_)
            · skip
              refine z_aload_n (i := 0) (q := 84) dX7_copy_83 rfl rfl rfl ?_
              refine z_iconst (v := 2) (q := 85) dX7_copy_84 (by decide) rfl ?_
              refine m_callV_r (As := [_]) (q := 88) mk_X7_found dX7_copy_85 wd_280 wd_282 wp_0 (ci := 7) rfl ⟨by decide, _, rfl⟩ (ev_X7_found _ _ _) rfl (by decide) rfl (Nat.zero_le _) (Nat.zero_le _) rfl ?_
              refine z_ireturn dX7_copy_88 rfl rfl ?_ (Nat.le_refl _) (Nat.le_refl _)
              rfl
            · skip
              refine z_aload_n (i := 0) (q := 72) dX7_copy_71 rfl rfl rfl ?_
              refine z_iload_n (i := 3) (q := 73) dX7_copy_72 rfl rfl rfl ?_
              refine z_iload (i := 4) (q := 75) dX7_copy_73 rfl rfl ?_
              refine z_iload (i := 5) (q := 77) dX7_copy_75 rfl rfl ?_
              refine m_callV_r (As := [_, _, _]) (q := 80) mk_X7_isBeyond dX7_copy_77 wd_297 wd_299 wp_3 (ci := 7) rfl ⟨by decide, _, rfl⟩ (ev_X7_isBeyond _ _ _ _ _  (by omega)) rfl (by decide) rfl (Nat.zero_le _) (Nat.zero_le _) rfl ?_
              refine zb_eq (tgt := 89) (q := 83) dX7_copy_80 (by decide) rfl (fun c7 => ?_) (fun c7 => ?_)
              · exact absurd h5 (fun q => q.elim c6 c7)
              · skip
                refine z_aload_n (i := 0) (q := 84) dX7_copy_83 rfl rfl rfl ?_
                refine z_iconst (v := 2) (q := 85) dX7_copy_84 (by decide) rfl ?_
                refine m_callV_r (As := [_]) (q := 88) mk_X7_found dX7_copy_85 wd_280 wd_282 wp_0 (ci := 7) rfl ⟨by decide, _, rfl⟩ (ev_X7_found _ _ _) rfl (by decide) rfl (Nat.zero_le _) (Nat.zero_le _) rfl ?_
                refine z_ireturn dX7_copy_88 rfl rfl ?_ (Nat.le_refl _) (Nat.le_refl _)
                rfl
          · contradiction
        · contradiction
    · contradiction
set_option maxHeartbeats 4000000 in
set_option maxRecDepth 100000 in
theorem ev_X7_copy (d : Nat) (m : zm) (r : Nat) (i : Int32) (r2 : Nat) (j : Int32) (z : Int32) (h1 : ¬ m.1 11 r = -1) (h2 : ¬ m.1 11 r2 = -1) (h3 : m.1 10 r = m.1 10 r2) (h5 : ¬ (i < 0 ∨ z < 0 ∨ (m.1 11 r).toInt64 < i.toInt64 + z.toInt64)) (h6 : ¬ (j < 0 ∨ z < 0 ∨ (m.1 11 r2).toInt64 < j.toInt64 + z.toInt64)) (hs : m.1 11 r ≤ 40) (hs2 : m.1 11 r2 ≤ 40) (hr : r < 8) (hr2 : r2 < 8) : zEv (d + 2) zM_X7_copy 0 0 [.ref 0, .int (nI r), .int i, .int (nI r2), .int j, .int z] (lay m) (some (.int (z)), lay (upI (setA m (2 + r2) (va_cpy (m.1 (2 + r)) (m.1 (2 + r2)) i.toNatClampNeg j.toNatClampNeg z.toNatClampNeg)) 0 3 0)) := by
  refine zEv_of (by decide) (fun G => Nat.le_of_ble_eq_true rfl) ?_
  show ZW _ _ _ _ 0 [some (.ref 0), some (.int (nI r)), some (.int i), some (.int (nI r2)), some (.int j), some (.int z)] [] _ _ _ _
  have hn := lt8 hr
  have hn2 := lt8 hr2
  refine z_iload_n (i := 1) (q := 1) dX7_copy_0 rfl rfl rfl ?_
  refine m_callS_r (As := [_]) (q := 4) mk_X7_isNoRow dX7_copy_1 wd_273 wd_274 (ev_X7_isNoRow _ _ _) rfl (by decide) rfl (Nat.zero_le _) (Nat.zero_le _) rfl ?_
  refine zb_ne (tgt := 14) (q := 7) dX7_copy_4 (by decide) rfl (fun c1 => ?_) (fun c1 => ?_)
  · contradiction
  · skip
    refine z_iload_n (i := 3) (q := 8) dX7_copy_7 rfl rfl rfl ?_
    refine m_callS_r (As := [_]) (q := 11) mk_X7_isNoRow dX7_copy_8 wd_273 wd_274 (ev_X7_isNoRow _ _ _) rfl (by decide) rfl (Nat.zero_le _) (Nat.zero_le _) rfl ?_
    refine zb_eq (tgt := 17) (q := 14) dX7_copy_11 (by decide) rfl (fun c2 => ?_) (fun c2 => ?_)
    · skip
      refine z_aload_n (i := 0) (q := 18) dX7_copy_17 rfl rfl rfl ?_
      refine z_iload_n (i := 1) (q := 19) dX7_copy_18 rfl rfl rfl ?_
      refine m_callV_r (As := [_]) (q := 22) mk_X7_isMissing dX7_copy_19 wd_293 wd_295 wp_2 (ci := 7) rfl ⟨by decide, _, rfl⟩ (ev_X7_isMissing _ _ _  (by omega)) rfl (by decide) rfl (Nat.zero_le _) (Nat.zero_le _) rfl ?_
      refine zb_ne (tgt := 33) (q := 25) dX7_copy_22 (by decide) rfl (fun c3 => ?_) (fun c3 => ?_)
      · contradiction
      · skip
        refine z_aload_n (i := 0) (q := 26) dX7_copy_25 rfl rfl rfl ?_
        refine z_iload_n (i := 3) (q := 27) dX7_copy_26 rfl rfl rfl ?_
        refine m_callV_r (As := [_]) (q := 30) mk_X7_isMissing dX7_copy_27 wd_293 wd_295 wp_2 (ci := 7) rfl ⟨by decide, _, rfl⟩ (ev_X7_isMissing _ _ _  (by omega)) rfl (by decide) rfl (Nat.zero_le _) (Nat.zero_le _) rfl ?_
        refine zb_eq (tgt := 39) (q := 33) dX7_copy_30 (by decide) rfl (fun c4 => ?_) (fun c4 => ?_)
        · skip
          refine z_aload_n (i := 0) (q := 40) dX7_copy_39 rfl rfl rfl ?_
          refine m_getR (r := 10) (q := 43) dX7_copy_40 fl_X7_14 ⟨by decide, _, rfl, rfl⟩ rfl ?_
          refine z_iload_n (i := 1) (q := 44) dX7_copy_43 rfl rfl rfl ?_
          refine m_ialdJ (N := 8) (q := 45) dX7_copy_44 ⟨by decide, _, rfl⟩ (j := r) (nI_clamp (by omega)) (vp_in_nI (by omega) (by decide)) rfl ?_
          refine z_aload_n (i := 0) (q := 46) dX7_copy_45 rfl rfl rfl ?_
          refine m_getR (r := 10) (q := 49) dX7_copy_46 fl_X7_14 ⟨by decide, _, rfl, rfl⟩ rfl ?_
          refine z_iload_n (i := 3) (q := 50) dX7_copy_49 rfl rfl rfl ?_
          refine m_ialdJ (N := 8) (q := 51) dX7_copy_50 ⟨by decide, _, rfl⟩ (j := r2) (nI_clamp (by omega)) (vp_in_nI (by omega) (by decide)) rfl ?_
          refine z_icmp_eq (tgt := 60) (q := 54) dX7_copy_51 (by decide) rfl (fun c5 => ?_) (fun c5 => ?_)
          · skip
            refine z_aload_n (i := 0) (q := 61) dX7_copy_60 rfl rfl rfl ?_
            refine z_iload_n (i := 1) (q := 62) dX7_copy_61 rfl rfl rfl ?_
            refine z_iload_n (i := 2) (q := 63) dX7_copy_62 rfl rfl rfl ?_
            refine z_iload (i := 5) (q := 65) dX7_copy_63 rfl rfl ?_
            refine m_callV_r (As := [_, _, _]) (q := 68) mk_X7_isBeyond dX7_copy_65 wd_297 wd_299 wp_3 (ci := 7) rfl ⟨by decide, _, rfl⟩ (ev_X7_isBeyond _ _ _ _ _  (by omega)) rfl (by decide) rfl (Nat.zero_le _) (Nat.zero_le _) rfl ?_
            refine zb_ne (tgt := 83) (q := 71) dX7_copy_68 (by decide) rfl (fun c6 => ?_) (fun c6 => ?_)
            · contradiction
            · skip
              refine z_aload_n (i := 0) (q := 72) dX7_copy_71 rfl rfl rfl ?_
              refine z_iload_n (i := 3) (q := 73) dX7_copy_72 rfl rfl rfl ?_
              refine z_iload (i := 4) (q := 75) dX7_copy_73 rfl rfl ?_
              refine z_iload (i := 5) (q := 77) dX7_copy_75 rfl rfl ?_
              refine m_callV_r (As := [_, _, _]) (q := 80) mk_X7_isBeyond dX7_copy_77 wd_297 wd_299 wp_3 (ci := 7) rfl ⟨by decide, _, rfl⟩ (ev_X7_isBeyond _ _ _ _ _  (by omega)) rfl (by decide) rfl (Nat.zero_le _) (Nat.zero_le _) rfl ?_
              refine zb_eq (tgt := 89) (q := 83) dX7_copy_80 (by decide) rfl (fun c7 => ?_) (fun c7 => ?_)
              · skip
                refine z_aload_n (i := 0) (q := 90) dX7_copy_89 rfl rfl rfl ?_
                refine m_getR (r := 1) (q := 93) dX7_copy_90 fl_X7_11 ⟨by decide, _, rfl, rfl⟩ rfl ?_
                refine z_iload_n (i := 1) (q := 94) dX7_copy_93 rfl rfl rfl ?_
                refine m_aald (kd := 3) (N := 8) (b := 2 + r) (q := 95) dX7_copy_94 (by decide) (okPn (by decide) rfl (by omega) (by decide)) (nI_pos' (by omega)) rfl ?_
                refine z_iload_n (i := 2) (q := 96) dX7_copy_95 rfl rfl rfl ?_
                refine z_aload_n (i := 0) (q := 97) dX7_copy_96 rfl rfl rfl ?_
                refine m_getR (r := 1) (q := 100) dX7_copy_97 fl_X7_11 ⟨by decide, _, rfl, rfl⟩ rfl ?_
                refine z_iload_n (i := 3) (q := 101) dX7_copy_100 rfl rfl rfl ?_
                refine m_aald (kd := 3) (N := 8) (b := 2 + r2) (q := 102) dX7_copy_101 (by decide) (okPn (by decide) rfl (by omega) (by decide)) (nI_pos' (by omega)) rfl ?_
                refine z_iload (i := 4) (q := 104) dX7_copy_102 rfl rfl ?_
                refine z_iload (i := 5) (q := 106) dX7_copy_104 rfl rfl ?_
                refine m_copyi (q := 109) dX7_copy_106 wd_308 wd_310 wd_309 wd_10 (okA_row (r := r) (by omega)) (okA_row (r := r2) (by omega)) (bey_in hs h5).1 (bey_in hs2 h6).1 (bey_in hs h5).2.1 (bey_in hs h5).2.2 (bey_in hs2 h6).2.2 (by decide) rfl ?_
                refine z_aload_n (i := 0) (q := 110) dX7_copy_109 rfl rfl rfl ?_
                refine z_iload (i := 5) (q := 112) dX7_copy_110 rfl rfl ?_
                refine m_callV_r (As := [_]) (q := 115) mk_X7_foundNothing dX7_copy_112 wd_285 wd_287 wp_1 (ci := 7) rfl ⟨by decide, _, rfl⟩ (ev_X7_foundNothing _ _ _) rfl (by decide) rfl (Nat.zero_le _) (Nat.zero_le _) rfl ?_
                refine z_ireturn dX7_copy_115 rfl rfl ?_ (Nat.le_refl _) (Nat.le_refl _)
                rfl
              · contradiction
          · contradiction
        · contradiction
    · contradiction
