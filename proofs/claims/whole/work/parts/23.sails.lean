/-! ===== the class: rows of ways sailed; the tape is fed ===== -/
def cOnce (m : zm) (p w : Nat) : zm := cSailOn (cKp m) (25 + p) (17 + w)
theorem cSailOn_n {m : zm} {a w c k : Nat} (h : c ≠ a) : (cSailOn m a w).1 c k = m.1 c k := by
  unfold cSailOn
  rw [upI_ne (fun z => h z.1), upI_ne (fun z => h z.1), upI_ne (fun z => h z.1)]
theorem cOnce_ok {m : zm} {p w : Nat} (hp : p < 4) (h : aOk m) : aOk (cOnce m p w) := by
  obtain ⟨⟨h1, h2, h3, h4⟩, -, -⟩ := cKp_ok h
  exact (aOk_of (by unfold cOnce; rw [cSailOn_n (by omega)]; exact h1) (by unfold cOnce; rw [cSailOn_n (by omega)]; exact h2) h3 h4).1
theorem cOnce_n {m : zm} {p w c k : Nat} (hp : p < 4) (h : c < 25 ∨ 29 ≤ c ∧ c < 46 ∨ c = 47 ∨ 144 ≤ c) : (cOnce m p w).1 c k = m.1 c k := by
  unfold cOnce
  rw [cSailOn_n (by omega), cKp_n (by omega)]
/-- how far he sails: how many, and what is then -/
def cSailL (p r i : Nat) : Nat → Nat → zm → Nat × zm
  | 0, j, m => (j, m)
  | n + 1, j, m => if cGo m p (m.1 (2 + r) (i + j)).toNatClampNeg ∧ m.1 (25 + p) 3 + m.1 (17 + (m.1 (2 + r) (i + j)).toNatClampNeg) 2 ≤ 200 then cSailL p r i n (j + 1) (cOnce m p (m.1 (2 + r) (i + j)).toNatClampNeg) else (j, m)
/-- the items from i on, n of them, are ways (fewer than W) -/
def allW (m : zm) (r i n W : Nat) : Prop := ∀ j, j < n → ∃ w, w < W ∧ m.1 (2 + r) (i + j) = nI w
set_option maxHeartbeats 4000000 in
set_option maxRecDepth 100000 in
theorem ev_X7_sails_bad (d : Nat) (m : zm) (p : Int32) (r : Int32) (i : Int32) (z : Int32) (hb : (r < 0 ∨ 7 < r) ∨ (z < 1 ∨ 24 < z) ∨ (p < 0 ∨ m.1 14 3 - 1 < p)) : zEv (d + 4) zM_X7_sails 0 0 [.ref 0, .int p, .int r, .int i, .int z] (lay m) (some (.int (-1000001)), lay (m)) := by
  refine zEv_of (by decide) (fun G => Nat.le_of_ble_eq_true rfl) ?_
  show ZW _ _ _ _ 0 [some (.ref 0), some (.int p), some (.int r), some (.int i), some (.int z), none] [] _ _ _ _
  refine z_iload_n (i := 2) (q := 1) dX7_sails_0 rfl rfl rfl ?_
  refine m_callS_r (As := [_]) (q := 4) mk_X7_isNoRow dX7_sails_1 wd_273 wd_274 (ev_X7_isNoRow _ _ _) rfl (by decide) rfl (Nat.zero_le _) (Nat.zero_le _) rfl ?_
  refine zb_ne (tgt := 26) (q := 7) dX7_sails_4 (by decide) rfl (fun c1 => ?_) (fun c1 => ?_)
  · skip
    refine z_ldc (q := 28) dX7_sails_26 wd_279 rfl ?_
    refine z_ireturn dX7_sails_28 rfl rfl ?_ (Nat.le_refl _) (Nat.le_refl _)
    rfl
  · skip
    refine z_iload (i := 4) (q := 9) dX7_sails_7 rfl rfl ?_
    refine z_iconst (v := 1) (q := 10) dX7_sails_9 (by decide) rfl ?_
    refine z_bipush (v := 24) (q := 12) dX7_sails_10 (by decide) rfl ?_
    refine m_callS_r (As := [_, _, _]) (q := 15) mk_X7_isOutside dX7_sails_12 wd_276 wd_277 (ev_X7_isOutside _ _ _ _ _) rfl (by decide) rfl (Nat.zero_le _) (Nat.zero_le _) rfl ?_
    refine zb_ne (tgt := 26) (q := 18) dX7_sails_15 (by decide) rfl (fun c2 => ?_) (fun c2 => ?_)
    · skip
      refine z_ldc (q := 28) dX7_sails_26 wd_279 rfl ?_
      refine z_ireturn dX7_sails_28 rfl rfl ?_ (Nat.le_refl _) (Nat.le_refl _)
      rfl
    · skip
      refine z_aload_n (i := 0) (q := 19) dX7_sails_18 rfl rfl rfl ?_
      refine z_iload_n (i := 1) (q := 20) dX7_sails_19 rfl rfl rfl ?_
      refine m_callV_r (As := [_]) (q := 23) mk_X7_isNobody dX7_sails_20 wd_472 wd_474 wp_16 (ci := 7) rfl ⟨by decide, _, rfl⟩ (ev_X7_isNobody _ _ _) rfl (by decide) rfl (Nat.zero_le _) (Nat.zero_le _) rfl ?_
      refine zb_eq (tgt := 29) (q := 26) dX7_sails_23 (by decide) rfl (fun c3 => ?_) (fun c3 => ?_)
      · exact absurd hb (fun q => q.elim c1 (fun q => q.elim c2 c3))
      · skip
        refine z_ldc (q := 28) dX7_sails_26 wd_279 rfl ?_
        refine z_ireturn dX7_sails_28 rfl rfl ?_ (Nat.le_refl _) (Nat.le_refl _)
        rfl
set_option maxHeartbeats 4000000 in
set_option maxRecDepth 100000 in
theorem ev_X7_sails_null (d : Nat) (m : zm) (p : Int32) (r : Nat) (i : Int32) (z : Int32) (h1 : ¬ (z < 1 ∨ 24 < z)) (h2 : ¬ (p < 0 ∨ m.1 14 3 - 1 < p)) (h3 : m.1 11 r = -1) (hr : r < 8) : zEv (d + 4) zM_X7_sails 0 0 [.ref 0, .int p, .int (nI r), .int i, .int z] (lay m) (some (.int (-1000010 - 1)), lay (upI m 0 3 1)) := by
  refine zEv_of (by decide) (fun G => Nat.le_of_ble_eq_true rfl) ?_
  show ZW _ _ _ _ 0 [some (.ref 0), some (.int p), some (.int (nI r)), some (.int i), some (.int z), none] [] _ _ _ _
  have hn0 := lt8 hr
  refine z_iload_n (i := 2) (q := 1) dX7_sails_0 rfl rfl rfl ?_
  refine m_callS_r (As := [_]) (q := 4) mk_X7_isNoRow dX7_sails_1 wd_273 wd_274 (ev_X7_isNoRow _ _ _) rfl (by decide) rfl (Nat.zero_le _) (Nat.zero_le _) rfl ?_
  refine zb_ne (tgt := 26) (q := 7) dX7_sails_4 (by decide) rfl (fun c1 => ?_) (fun c1 => ?_)
  · contradiction
  · skip
    refine z_iload (i := 4) (q := 9) dX7_sails_7 rfl rfl ?_
    refine z_iconst (v := 1) (q := 10) dX7_sails_9 (by decide) rfl ?_
    refine z_bipush (v := 24) (q := 12) dX7_sails_10 (by decide) rfl ?_
    refine m_callS_r (As := [_, _, _]) (q := 15) mk_X7_isOutside dX7_sails_12 wd_276 wd_277 (ev_X7_isOutside _ _ _ _ _) rfl (by decide) rfl (Nat.zero_le _) (Nat.zero_le _) rfl ?_
    refine zb_ne (tgt := 26) (q := 18) dX7_sails_15 (by decide) rfl (fun c2 => ?_) (fun c2 => ?_)
    · contradiction
    · skip
      refine z_aload_n (i := 0) (q := 19) dX7_sails_18 rfl rfl rfl ?_
      refine z_iload_n (i := 1) (q := 20) dX7_sails_19 rfl rfl rfl ?_
      refine m_callV_r (As := [_]) (q := 23) mk_X7_isNobody dX7_sails_20 wd_472 wd_474 wp_16 (ci := 7) rfl ⟨by decide, _, rfl⟩ (ev_X7_isNobody _ _ _) rfl (by decide) rfl (Nat.zero_le _) (Nat.zero_le _) rfl ?_
      refine zb_eq (tgt := 29) (q := 26) dX7_sails_23 (by decide) rfl (fun c3 => ?_) (fun c3 => ?_)
      · skip
        refine z_aload_n (i := 0) (q := 30) dX7_sails_29 rfl rfl rfl ?_
        refine z_iload_n (i := 2) (q := 31) dX7_sails_30 rfl rfl rfl ?_
        refine m_callV_r (As := [_]) (q := 34) mk_X7_isMissing dX7_sails_31 wd_293 wd_295 wp_2 (ci := 7) rfl ⟨by decide, _, rfl⟩ (ev_X7_isMissing _ _ _  (by omega)) rfl (by decide) rfl (Nat.zero_le _) (Nat.zero_le _) rfl ?_
        refine zb_eq (tgt := 43) (q := 37) dX7_sails_34 (by decide) rfl (fun c4 => ?_) (fun c4 => ?_)
        · contradiction
        · skip
          refine z_aload_n (i := 0) (q := 38) dX7_sails_37 rfl rfl rfl ?_
          refine z_iconst (v := 1) (q := 39) dX7_sails_38 (by decide) rfl ?_
          refine m_callV_r (As := [_]) (q := 42) mk_X7_found dX7_sails_39 wd_280 wd_282 wp_0 (ci := 7) rfl ⟨by decide, _, rfl⟩ (ev_X7_found _ _ _) rfl (by decide) rfl (Nat.zero_le _) (Nat.zero_le _) rfl ?_
          refine z_ireturn dX7_sails_42 rfl rfl ?_ (Nat.le_refl _) (Nat.le_refl _)
          rfl
      · contradiction
set_option maxHeartbeats 4000000 in
set_option maxRecDepth 100000 in
theorem ev_X7_sails_place (d : Nat) (m : zm) (p : Int32) (r : Nat) (i : Int32) (z : Int32) (h1 : ¬ (z < 1 ∨ 24 < z)) (h2 : ¬ (p < 0 ∨ m.1 14 3 - 1 < p)) (h3 : ¬ m.1 11 r = -1) (h4 : (i < 0 ∨ z < 0 ∨ (m.1 11 r).toInt64 < i.toInt64 + z.toInt64)) (hr : r < 8) : zEv (d + 4) zM_X7_sails 0 0 [.ref 0, .int p, .int (nI r), .int i, .int z] (lay m) (some (.int (-1000010 - 2)), lay (upI m 0 3 2)) := by
  refine zEv_of (by decide) (fun G => Nat.le_of_ble_eq_true rfl) ?_
  show ZW _ _ _ _ 0 [some (.ref 0), some (.int p), some (.int (nI r)), some (.int i), some (.int z), none] [] _ _ _ _
  have hn0 := lt8 hr
  refine z_iload_n (i := 2) (q := 1) dX7_sails_0 rfl rfl rfl ?_
  refine m_callS_r (As := [_]) (q := 4) mk_X7_isNoRow dX7_sails_1 wd_273 wd_274 (ev_X7_isNoRow _ _ _) rfl (by decide) rfl (Nat.zero_le _) (Nat.zero_le _) rfl ?_
  refine zb_ne (tgt := 26) (q := 7) dX7_sails_4 (by decide) rfl (fun c1 => ?_) (fun c1 => ?_)
  · contradiction
  · skip
    refine z_iload (i := 4) (q := 9) dX7_sails_7 rfl rfl ?_
    refine z_iconst (v := 1) (q := 10) dX7_sails_9 (by decide) rfl ?_
    refine z_bipush (v := 24) (q := 12) dX7_sails_10 (by decide) rfl ?_
    refine m_callS_r (As := [_, _, _]) (q := 15) mk_X7_isOutside dX7_sails_12 wd_276 wd_277 (ev_X7_isOutside _ _ _ _ _) rfl (by decide) rfl (Nat.zero_le _) (Nat.zero_le _) rfl ?_
    refine zb_ne (tgt := 26) (q := 18) dX7_sails_15 (by decide) rfl (fun c2 => ?_) (fun c2 => ?_)
    · contradiction
    · skip
      refine z_aload_n (i := 0) (q := 19) dX7_sails_18 rfl rfl rfl ?_
      refine z_iload_n (i := 1) (q := 20) dX7_sails_19 rfl rfl rfl ?_
      refine m_callV_r (As := [_]) (q := 23) mk_X7_isNobody dX7_sails_20 wd_472 wd_474 wp_16 (ci := 7) rfl ⟨by decide, _, rfl⟩ (ev_X7_isNobody _ _ _) rfl (by decide) rfl (Nat.zero_le _) (Nat.zero_le _) rfl ?_
      refine zb_eq (tgt := 29) (q := 26) dX7_sails_23 (by decide) rfl (fun c3 => ?_) (fun c3 => ?_)
      · skip
        refine z_aload_n (i := 0) (q := 30) dX7_sails_29 rfl rfl rfl ?_
        refine z_iload_n (i := 2) (q := 31) dX7_sails_30 rfl rfl rfl ?_
        refine m_callV_r (As := [_]) (q := 34) mk_X7_isMissing dX7_sails_31 wd_293 wd_295 wp_2 (ci := 7) rfl ⟨by decide, _, rfl⟩ (ev_X7_isMissing _ _ _  (by omega)) rfl (by decide) rfl (Nat.zero_le _) (Nat.zero_le _) rfl ?_
        refine zb_eq (tgt := 43) (q := 37) dX7_sails_34 (by decide) rfl (fun c4 => ?_) (fun c4 => ?_)
        · skip
          refine z_aload_n (i := 0) (q := 44) dX7_sails_43 rfl rfl rfl ?_
          refine z_iload_n (i := 2) (q := 45) dX7_sails_44 rfl rfl rfl ?_
          refine z_iload_n (i := 3) (q := 46) dX7_sails_45 rfl rfl rfl ?_
          refine z_iload (i := 4) (q := 48) dX7_sails_46 rfl rfl ?_
          refine m_callV_r (As := [_, _, _]) (q := 51) mk_X7_isBeyond dX7_sails_48 wd_297 wd_299 wp_3 (ci := 7) rfl ⟨by decide, _, rfl⟩ (ev_X7_isBeyond _ _ _ _ _  (by omega)) rfl (by decide) rfl (Nat.zero_le _) (Nat.zero_le _) rfl ?_
          refine zb_eq (tgt := 60) (q := 54) dX7_sails_51 (by decide) rfl (fun c5 => ?_) (fun c5 => ?_)
          · contradiction
          · skip
            refine z_aload_n (i := 0) (q := 55) dX7_sails_54 rfl rfl rfl ?_
            refine z_iconst (v := 2) (q := 56) dX7_sails_55 (by decide) rfl ?_
            refine m_callV_r (As := [_]) (q := 59) mk_X7_found dX7_sails_56 wd_280 wd_282 wp_0 (ci := 7) rfl ⟨by decide, _, rfl⟩ (ev_X7_found _ _ _) rfl (by decide) rfl (Nat.zero_le _) (Nat.zero_le _) rfl ?_
            refine z_ireturn dX7_sails_59 rfl rfl ?_ (Nat.le_refl _) (Nat.le_refl _)
            rfl
        · contradiction
      · contradiction
theorem geS {i j z : Nat} (hz : i + z ≤ 40) (hj : j ≤ z) (c : nI i + nI z ≤ nI (i + j)) : j = z := by
  rw [nI_add] at c
  have := (nI_leI (by omega) (by omega)).mp c
  omega
theorem ngeS {i j z : Nat} (hz : i + z ≤ 40) (hj : j ≤ z) (c : ¬ nI i + nI z ≤ nI (i + j)) : j < z := by
  rcases Nat.lt_or_ge j z with q | q
  · exact q
  · rw [nI_add] at c
    exact absurd ((nI_leI (by omega) (by omega)).mpr (by omega)) c
theorem isW {w W : Nat} (hW : W ≤ 8) (h : w < W) : ¬ (nI w < 0 ∨ nI W - 1 < nI w) := by
  have e : (nI W - 1).toInt = (W : Int) - 1 := pk_sub_toInt (a := W) (b := 1) (by omega) (by omega)
  rintro (z | z)
  · exact nI_pos (by omega) z
  · rw [Int32.lt_iff_toInt_lt, e, nI_toInt (by omega)] at z
    omega
set_option maxHeartbeats 4000000 in
set_option maxRecDepth 100000 in
theorem lp_X7_look (d : Nat) (m : zm) (p r i z W : Nat) (hp : p < 4) (hr : r < 8) (hz : i + z ≤ 40) (hW : m.1 14 2 = nI W) (hW8 : W ≤ 8) (X : zX) : ∀ (n : Nat) (j : Nat), z - j < n → j ≤ z → allW m r i z W → ZW zM_X7_sails (d + 4) 0 0 97 [some (.ref 0), some (.int (nI p)), some (.int (nI r)), some (.int (nI i)), some (.int (nI z)), none] [] (lay m) 0 0 X → ZW zM_X7_sails (d + 4) 0 0 63 [some (.ref 0), some (.int (nI p)), some (.int (nI r)), some (.int (nI i)), some (.int (nI z)), some (.int (nI (i + j)))] [] (lay m) 0 0 (X) := by
  intro n
  induction n with
  | zero => intro j hm; exact absurd hm (by omega)
  | succ n ih =>
    intro j hm hj hall kk
    refine z_iload (i := 5) (q := 65) dX7_sails_63 rfl rfl ?_
    refine z_iload_n (i := 3) (q := 66) dX7_sails_65 rfl rfl rfl ?_
    refine z_iload (i := 4) (q := 68) dX7_sails_66 rfl rfl ?_
    refine z_iadd (q := 69) dX7_sails_68 rfl ?_
    refine z_icmp_ge (tgt := 97) (q := 72) dX7_sails_69 (by decide) rfl (fun c1 => ?_) (fun c1 => ?_)
    · skip
      have hjz := geS hz hj c1
      exact z_loc (zle_s (zle_s (zle_s (zle_s (zle_s (zle_n zle_0)))))) kk
    · skip
      have hjz := ngeS hz hj c1
      obtain ⟨w, hw, hwe⟩ := hall j hjz
      refine z_aload_n (i := 0) (q := 73) dX7_sails_72 rfl rfl rfl ?_
      refine z_aload_n (i := 0) (q := 74) dX7_sails_73 rfl rfl rfl ?_
      refine m_getR (r := 1) (q := 77) dX7_sails_74 fl_X7_11 ⟨by decide, _, rfl, rfl⟩ rfl ?_
      refine z_iload_n (i := 2) (q := 78) dX7_sails_77 rfl rfl rfl ?_
      refine m_aald (kd := 3) (N := 8) (b := 2 + r) (q := 79) dX7_sails_78 (by decide) (okPn (by decide) rfl (by omega) (by decide)) (nI_pos' (by omega)) rfl ?_
      refine z_iload (i := 5) (q := 81) dX7_sails_79 rfl rfl ?_
      refine m_ialdJ (N := 40) (q := 82) dX7_sails_81 (okA_row (r := r) (by omega)) (j := (i + j)) (nI_clamp (by omega)) (vp_in_nI (by omega) (by decide)) rfl ?_
      refine m_callV_r (As := [_]) (q := 85) mk_X7_isNoWay dX7_sails_82 wd_476 wd_478 wp_17 (ci := 7) rfl ⟨by decide, _, rfl⟩ (ev_X7_isNoWay _ _ _) rfl (by decide) rfl (Nat.zero_le _) (Nat.zero_le _) rfl ?_
      refine zb_eq (tgt := 91) (q := 88) dX7_sails_85 (by decide) rfl (fun c2 => ?_) (fun c2 => ?_)
      · skip
        refine z_iinc (i := 5) (ls' := [_, _, _, _, _, _]) (v := nI ((i + j) + 1)) (q := 94) dX7_sails_91 rfl (nI_1 _) (by decide) rfl rfl ?_
        refine z_goto (tgt := 63) dX7_sails_94 (by decide) ?_
        exact ih (j + 1) (by omega) (by omega) hall kk
      · exact absurd c2 (by rw [hwe, hW]; exact isW hW8 hw)
set_option maxHeartbeats 4000000 in
set_option maxRecDepth 100000 in
theorem lp_X7_lookbad (d : Nat) (m : zm) (p r i z W : Nat) (hp : p < 4) (hr : r < 8) (hz : i + z ≤ 40) : ∀ (n : Nat) (j : Nat), z - j < n → j ≤ z → (∃ k, j ≤ k ∧ k < z ∧ (m.1 (2 + r) (i + k) < 0 ∨ m.1 14 2 - 1 < m.1 (2 + r) (i + k))) → ZW zM_X7_sails (d + 4) 0 0 63 [some (.ref 0), some (.int (nI p)), some (.int (nI r)), some (.int (nI i)), some (.int (nI z)), some (.int (nI (i + j)))] [] (lay m) 0 0 (some (.int (-1000001)), lay m) := by
  intro n
  induction n with
  | zero => intro j hm; exact absurd hm (by omega)
  | succ n ih =>
    intro j hm hj hbad
    refine z_iload (i := 5) (q := 65) dX7_sails_63 rfl rfl ?_
    refine z_iload_n (i := 3) (q := 66) dX7_sails_65 rfl rfl rfl ?_
    refine z_iload (i := 4) (q := 68) dX7_sails_66 rfl rfl ?_
    refine z_iadd (q := 69) dX7_sails_68 rfl ?_
    refine z_icmp_ge (tgt := 97) (q := 72) dX7_sails_69 (by decide) rfl (fun c1 => ?_) (fun c1 => ?_)
    · exact absurd hbad (by have := geS hz hj c1; rintro ⟨k, h1, h2, -⟩; omega)
    · skip
      have hjz := ngeS hz hj c1
      refine z_aload_n (i := 0) (q := 73) dX7_sails_72 rfl rfl rfl ?_
      refine z_aload_n (i := 0) (q := 74) dX7_sails_73 rfl rfl rfl ?_
      refine m_getR (r := 1) (q := 77) dX7_sails_74 fl_X7_11 ⟨by decide, _, rfl, rfl⟩ rfl ?_
      refine z_iload_n (i := 2) (q := 78) dX7_sails_77 rfl rfl rfl ?_
      refine m_aald (kd := 3) (N := 8) (b := 2 + r) (q := 79) dX7_sails_78 (by decide) (okPn (by decide) rfl (by omega) (by decide)) (nI_pos' (by omega)) rfl ?_
      refine z_iload (i := 5) (q := 81) dX7_sails_79 rfl rfl ?_
      refine m_ialdJ (N := 40) (q := 82) dX7_sails_81 (okA_row (r := r) (by omega)) (j := (i + j)) (nI_clamp (by omega)) (vp_in_nI (by omega) (by decide)) rfl ?_
      refine m_callV_r (As := [_]) (q := 85) mk_X7_isNoWay dX7_sails_82 wd_476 wd_478 wp_17 (ci := 7) rfl ⟨by decide, _, rfl⟩ (ev_X7_isNoWay _ _ _) rfl (by decide) rfl (Nat.zero_le _) (Nat.zero_le _) rfl ?_
      refine zb_eq (tgt := 91) (q := 88) dX7_sails_85 (by decide) rfl (fun c2 => ?_) (fun c2 => ?_)
      · skip
        refine z_iinc (i := 5) (ls' := [_, _, _, _, _, _]) (v := nI ((i + j) + 1)) (q := 94) dX7_sails_91 rfl (nI_1 _) (by decide) rfl rfl ?_
        refine z_goto (tgt := 63) dX7_sails_94 (by decide) ?_
        obtain ⟨k, h1, h2, h3⟩ := hbad
        refine ih (j + 1) (by omega) (by omega) ⟨k, ?_, h2, h3⟩
        rcases Nat.lt_or_ge j k with q | q
        · omega
        · exact absurd (by rw [show k = j by omega] at h3; exact h3) c2
      · skip
        refine z_ldc (q := 90) dX7_sails_88 wd_279 rfl ?_
        refine z_ireturn dX7_sails_90 rfl rfl ?_ (Nat.le_refl _) (Nat.le_refl _)
        rfl
set_option maxHeartbeats 4000000 in
set_option maxRecDepth 100000 in
theorem lp_X7_sails (d : Nat) (p r i z W : Nat) (hp : p < 4) (hr : r < 8) (hz : i + z ≤ 40) (hW8 : W ≤ 8) : ∀ (n : Nat) (j : Nat) (m : zm), z - j < n → j ≤ z → aOk m → allW m r i z W → ZW zM_X7_sails (d + 4) 0 0 100 [some (.ref 0), some (.int (nI p)), some (.int (nI r)), some (.int (nI i)), some (.int (nI z)), some (.int (nI j))] [] (lay m) 0 0 (some (.int (nI (cSailL p r i (z - j) j m).1)), lay (upI (cSailL p r i (z - j) j m).2 0 3 0)) := by
  intro n
  induction n with
  | zero => intro j m hm; exact absurd hm (by omega)
  | succ n ih =>
    intro j m hm hj hA hall
    refine z_iload (i := 5) (q := 102) dX7_sails_100 rfl rfl ?_
    refine z_iload (i := 4) (q := 104) dX7_sails_102 rfl rfl ?_
    refine z_icmp_ge (tgt := 132) (q := 107) dX7_sails_104 (by decide) rfl (fun c1 => ?_) (fun c1 => ?_)
    · skip
      have hjz := (nI_leI (a := z) (b := j) (by omega) (by omega)).mp c1
      rw [show z - j = 0 by omega]
      refine z_aload_n (i := 0) (q := 133) dX7_sails_132 rfl rfl rfl ?_
      refine z_iload (i := 5) (q := 135) dX7_sails_133 rfl rfl ?_
      refine m_callV_r (As := [_]) (q := 138) mk_X7_foundNothing dX7_sails_135 wd_285 wd_287 wp_1 (ci := 7) rfl ⟨by decide, _, rfl⟩ (ev_X7_foundNothing _ _ _) rfl (by decide) rfl (Nat.zero_le _) (Nat.zero_le _) rfl ?_
      refine z_ireturn dX7_sails_138 rfl rfl ?_ (Nat.le_refl _) (Nat.le_refl _)
      rfl
    · skip
      have hjz : j < z := by
        rcases Nat.lt_or_ge j z with q | q
        · exact q
        · exact absurd ((nI_leI (a := z) (b := j) (by omega) (by omega)).mpr q) c1
      obtain ⟨w, hw, hwe⟩ := hall j hjz
      rw [show z - j = (z - (j + 1)) + 1 by omega, cSailL]
      refine z_aload_n (i := 0) (q := 108) dX7_sails_107 rfl rfl rfl ?_
      refine z_iload_n (i := 1) (q := 109) dX7_sails_108 rfl rfl rfl ?_
      refine z_aload_n (i := 0) (q := 110) dX7_sails_109 rfl rfl rfl ?_
      refine m_getR (r := 1) (q := 113) dX7_sails_110 fl_X7_11 ⟨by decide, _, rfl, rfl⟩ rfl ?_
      refine z_iload_n (i := 2) (q := 114) dX7_sails_113 rfl rfl rfl ?_
      refine m_aald (kd := 3) (N := 8) (b := 2 + r) (q := 115) dX7_sails_114 (by decide) (okPn (by decide) rfl (by omega) (by decide)) (nI_pos' (by omega)) rfl ?_
      refine z_iload_n (i := 3) (q := 116) dX7_sails_115 rfl rfl rfl ?_
      refine z_iload (i := 5) (q := 118) dX7_sails_116 rfl rfl ?_
      refine z_iadd (q := 119) dX7_sails_118 rfl ?_
      rw [show nI i + nI j = nI (i + j) from nI_add i j]
      refine m_ialdJ (N := 40) (q := 120) dX7_sails_119 (okA_row (r := r) (by omega)) (j := (i + j)) (nI_clamp (by omega)) (vp_in_nI (by omega) (by decide)) rfl ?_
      rw [hwe]
      have hwn : (nI w).toNatClampNeg = w := nI_clamp (by omega)
      by_cases h2 : cGo m p w
      · by_cases h3 : m.1 (25 + p) 3 + m.1 (17 + w) 2 ≤ 200
        · skip
          refine m_callV_r (As := [_, _]) (q := 123) mk_X7_sailOnce dX7_sails_120 wd_480 wd_482 wp_18 (ci := 7) rfl ⟨by decide, _, rfl⟩ (ev_X7_sailOnce _ m p w h2 h3 hA hp (by omega)) rfl (by decide) rfl (Nat.zero_le _) (Nat.zero_le _) rfl ?_
          refine z_if_ne (tgt := 132) (q := 126) dX7_sails_123 (by decide) rfl (fun c2 => ?_) (fun c2 => ?_)
          · exact absurd c2 (by decide)
          · skip
            refine z_iinc (i := 5) (ls' := [_, _, _, _, _, _]) (v := nI (j + 1)) (q := 129) dX7_sails_126 rfl (nI_1 _) (by decide) rfl rfl ?_
            refine z_goto (tgt := 100) dX7_sails_129 (by decide) ?_
            rw [hwn, if_pos ⟨h2, h3⟩]
            exact ih (j + 1) _ (by omega) (by omega) (cOnce_ok hp hA) (fun k hk => by obtain ⟨v, h4, h5⟩ := hall k hk; exact ⟨v, h4, (cOnce_n (m := m) (p := p) (w := w) hp (by omega)).trans h5⟩)
        · skip
          refine m_callV_r (As := [_, _]) (q := 123) mk_X7_sailOnce dX7_sails_120 wd_480 wd_482 wp_18 (ci := 7) rfl ⟨by decide, _, rfl⟩ (ev_X7_sailOnce_full _ m p w h2 h3 hp (by omega)) rfl (by decide) rfl (Nat.zero_le _) (Nat.zero_le _) rfl ?_
          refine z_if_ne (tgt := 132) (q := 126) dX7_sails_123 (by decide) rfl (fun c3 => ?_) (fun c3 => ?_)
          · skip
            refine z_aload_n (i := 0) (q := 133) dX7_sails_132 rfl rfl rfl ?_
            refine z_iload (i := 5) (q := 135) dX7_sails_133 rfl rfl ?_
            refine m_callV_r (As := [_]) (q := 138) mk_X7_foundNothing dX7_sails_135 wd_285 wd_287 wp_1 (ci := 7) rfl ⟨by decide, _, rfl⟩ (ev_X7_foundNothing _ _ _) rfl (by decide) rfl (Nat.zero_le _) (Nat.zero_le _) rfl ?_
            refine z_ireturn dX7_sails_138 rfl rfl ?_ (Nat.le_refl _) (Nat.le_refl _)
            rw [hwn, if_neg (fun q => h3 q.2)]
          · exact absurd c3 (by decide)
      · skip
        refine m_callV_r (As := [_, _]) (q := 123) mk_X7_sailOnce dX7_sails_120 wd_480 wd_482 wp_18 (ci := 7) rfl ⟨by decide, _, rfl⟩ (ev_X7_sailOnce_state _ m p w h2 hp (by omega)) rfl (by decide) rfl (Nat.zero_le _) (Nat.zero_le _) rfl ?_
        refine z_if_ne (tgt := 132) (q := 126) dX7_sails_123 (by decide) rfl (fun c4 => ?_) (fun c4 => ?_)
        · skip
          refine z_aload_n (i := 0) (q := 133) dX7_sails_132 rfl rfl rfl ?_
          refine z_iload (i := 5) (q := 135) dX7_sails_133 rfl rfl ?_
          refine m_callV_r (As := [_]) (q := 138) mk_X7_foundNothing dX7_sails_135 wd_285 wd_287 wp_1 (ci := 7) rfl ⟨by decide, _, rfl⟩ (ev_X7_foundNothing _ _ _) rfl (by decide) rfl (Nat.zero_le _) (Nat.zero_le _) rfl ?_
          refine z_ireturn dX7_sails_138 rfl rfl ?_ (Nat.le_refl _) (Nat.le_refl _)
          rw [hwn, if_neg (fun q => h2 q.1)]
        · exact absurd c4 (by decide)
set_option maxHeartbeats 4000000 in
set_option maxRecDepth 100000 in
theorem ev_X7_sails_item (d : Nat) (m : zm) (p : Nat) (r : Nat) (i : Nat) (z : Nat) (hz1 : 1 ≤ z) (h2 : ¬ (nI p < 0 ∨ m.1 14 3 - 1 < nI p)) (h3 : ¬ m.1 11 r = -1) (h4 : ¬ (nI i < 0 ∨ nI z < 0 ∨ (m.1 11 r).toInt64 < (nI i).toInt64 + (nI z).toInt64)) (h5 : i + z ≤ 40) (hbad : ∃ k, 0 ≤ k ∧ k < z ∧ (m.1 (2 + r) (i + k) < 0 ∨ m.1 14 2 - 1 < m.1 (2 + r) (i + k))) (hp : p < 4) (hr : r < 8) (hi : i < 40) (hz : z < 25) : zEv (d + 4) zM_X7_sails 0 0 [.ref 0, .int (nI p), .int (nI r), .int (nI i), .int (nI z)] (lay m) (some (.int (-1000001)), lay (m)) := by
  refine zEv_of (by decide) (fun G => Nat.le_of_ble_eq_true rfl) ?_
  show ZW _ _ _ _ 0 [some (.ref 0), some (.int (nI p)), some (.int (nI r)), some (.int (nI i)), some (.int (nI z)), none] [] _ _ _ _
  have hn0 := lt8 hr
  have hz24 : ¬ (nI z < 1 ∨ 24 < nI z) := by
    rintro (q | q)
    · exact nI_nlt (a := z) (b := 1) (by omega) (by omega) q
    · exact nI_nlt (a := 24) (b := z) (by omega) (by omega) q
  refine z_iload_n (i := 2) (q := 1) dX7_sails_0 rfl rfl rfl ?_
  refine m_callS_r (As := [_]) (q := 4) mk_X7_isNoRow dX7_sails_1 wd_273 wd_274 (ev_X7_isNoRow _ _ _) rfl (by decide) rfl (Nat.zero_le _) (Nat.zero_le _) rfl ?_
  refine zb_ne (tgt := 26) (q := 7) dX7_sails_4 (by decide) rfl (fun c1 => ?_) (fun c1 => ?_)
  · contradiction
  · skip
    refine z_iload (i := 4) (q := 9) dX7_sails_7 rfl rfl ?_
    refine z_iconst (v := 1) (q := 10) dX7_sails_9 (by decide) rfl ?_
    refine z_bipush (v := 24) (q := 12) dX7_sails_10 (by decide) rfl ?_
    refine m_callS_r (As := [_, _, _]) (q := 15) mk_X7_isOutside dX7_sails_12 wd_276 wd_277 (ev_X7_isOutside _ _ _ _ _) rfl (by decide) rfl (Nat.zero_le _) (Nat.zero_le _) rfl ?_
    refine zb_ne (tgt := 26) (q := 18) dX7_sails_15 (by decide) rfl (fun c2 => ?_) (fun c2 => ?_)
    · contradiction
    · skip
      refine z_aload_n (i := 0) (q := 19) dX7_sails_18 rfl rfl rfl ?_
      refine z_iload_n (i := 1) (q := 20) dX7_sails_19 rfl rfl rfl ?_
      refine m_callV_r (As := [_]) (q := 23) mk_X7_isNobody dX7_sails_20 wd_472 wd_474 wp_16 (ci := 7) rfl ⟨by decide, _, rfl⟩ (ev_X7_isNobody _ _ _) rfl (by decide) rfl (Nat.zero_le _) (Nat.zero_le _) rfl ?_
      refine zb_eq (tgt := 29) (q := 26) dX7_sails_23 (by decide) rfl (fun c3 => ?_) (fun c3 => ?_)
      · skip
        refine z_aload_n (i := 0) (q := 30) dX7_sails_29 rfl rfl rfl ?_
        refine z_iload_n (i := 2) (q := 31) dX7_sails_30 rfl rfl rfl ?_
        refine m_callV_r (As := [_]) (q := 34) mk_X7_isMissing dX7_sails_31 wd_293 wd_295 wp_2 (ci := 7) rfl ⟨by decide, _, rfl⟩ (ev_X7_isMissing _ _ _  (by omega)) rfl (by decide) rfl (Nat.zero_le _) (Nat.zero_le _) rfl ?_
        refine zb_eq (tgt := 43) (q := 37) dX7_sails_34 (by decide) rfl (fun c4 => ?_) (fun c4 => ?_)
        · skip
          refine z_aload_n (i := 0) (q := 44) dX7_sails_43 rfl rfl rfl ?_
          refine z_iload_n (i := 2) (q := 45) dX7_sails_44 rfl rfl rfl ?_
          refine z_iload_n (i := 3) (q := 46) dX7_sails_45 rfl rfl rfl ?_
          refine z_iload (i := 4) (q := 48) dX7_sails_46 rfl rfl ?_
          refine m_callV_r (As := [_, _, _]) (q := 51) mk_X7_isBeyond dX7_sails_48 wd_297 wd_299 wp_3 (ci := 7) rfl ⟨by decide, _, rfl⟩ (ev_X7_isBeyond _ _ _ _ _  (by omega)) rfl (by decide) rfl (Nat.zero_le _) (Nat.zero_le _) rfl ?_
          refine zb_eq (tgt := 60) (q := 54) dX7_sails_51 (by decide) rfl (fun c5 => ?_) (fun c5 => ?_)
          · skip
            refine z_iload_n (i := 3) (q := 61) dX7_sails_60 rfl rfl rfl ?_
            refine z_istore (i := 5) (ls' := [_, _, _, _, _, _]) (q := 63) dX7_sails_61 (by decide) rfl rfl ?_
            exact lp_X7_lookbad _ m p r i z 8 hp hr h5 (z + 1) 0 (by omega) (by omega) hbad
          · contradiction
        · contradiction
      · contradiction
set_option maxHeartbeats 4000000 in
set_option maxRecDepth 100000 in
theorem ev_X7_sails (d : Nat) (m : zm) (W : Nat) (p : Nat) (r : Nat) (i : Nat) (z : Nat) (hz1 : 1 ≤ z) (h2 : ¬ (nI p < 0 ∨ m.1 14 3 - 1 < nI p)) (h3 : ¬ m.1 11 r = -1) (h4 : ¬ (nI i < 0 ∨ nI z < 0 ∨ (m.1 11 r).toInt64 < (nI i).toInt64 + (nI z).toInt64)) (h5 : i + z ≤ 40) (hW : m.1 14 2 = nI W) (hW8 : W ≤ 8) (hA : aOk m) (hall : allW m r i z W) (hp : p < 4) (hr : r < 8) (hi : i < 40) (hz : z < 25) : zEv (d + 4) zM_X7_sails 0 0 [.ref 0, .int (nI p), .int (nI r), .int (nI i), .int (nI z)] (lay m) (some (.int (nI (cSailL p r i z 0 m).1)), lay (upI (cSailL p r i z 0 m).2 0 3 0)) := by
  refine zEv_of (by decide) (fun G => Nat.le_of_ble_eq_true rfl) ?_
  show ZW _ _ _ _ 0 [some (.ref 0), some (.int (nI p)), some (.int (nI r)), some (.int (nI i)), some (.int (nI z)), none] [] _ _ _ _
  have hn0 := lt8 hr
  have hz24 : ¬ (nI z < 1 ∨ 24 < nI z) := by
    rintro (q | q)
    · exact nI_nlt (a := z) (b := 1) (by omega) (by omega) q
    · exact nI_nlt (a := 24) (b := z) (by omega) (by omega) q
  refine z_iload_n (i := 2) (q := 1) dX7_sails_0 rfl rfl rfl ?_
  refine m_callS_r (As := [_]) (q := 4) mk_X7_isNoRow dX7_sails_1 wd_273 wd_274 (ev_X7_isNoRow _ _ _) rfl (by decide) rfl (Nat.zero_le _) (Nat.zero_le _) rfl ?_
  refine zb_ne (tgt := 26) (q := 7) dX7_sails_4 (by decide) rfl (fun c1 => ?_) (fun c1 => ?_)
  · contradiction
  · skip
    refine z_iload (i := 4) (q := 9) dX7_sails_7 rfl rfl ?_
    refine z_iconst (v := 1) (q := 10) dX7_sails_9 (by decide) rfl ?_
    refine z_bipush (v := 24) (q := 12) dX7_sails_10 (by decide) rfl ?_
    refine m_callS_r (As := [_, _, _]) (q := 15) mk_X7_isOutside dX7_sails_12 wd_276 wd_277 (ev_X7_isOutside _ _ _ _ _) rfl (by decide) rfl (Nat.zero_le _) (Nat.zero_le _) rfl ?_
    refine zb_ne (tgt := 26) (q := 18) dX7_sails_15 (by decide) rfl (fun c2 => ?_) (fun c2 => ?_)
    · contradiction
    · skip
      refine z_aload_n (i := 0) (q := 19) dX7_sails_18 rfl rfl rfl ?_
      refine z_iload_n (i := 1) (q := 20) dX7_sails_19 rfl rfl rfl ?_
      refine m_callV_r (As := [_]) (q := 23) mk_X7_isNobody dX7_sails_20 wd_472 wd_474 wp_16 (ci := 7) rfl ⟨by decide, _, rfl⟩ (ev_X7_isNobody _ _ _) rfl (by decide) rfl (Nat.zero_le _) (Nat.zero_le _) rfl ?_
      refine zb_eq (tgt := 29) (q := 26) dX7_sails_23 (by decide) rfl (fun c3 => ?_) (fun c3 => ?_)
      · skip
        refine z_aload_n (i := 0) (q := 30) dX7_sails_29 rfl rfl rfl ?_
        refine z_iload_n (i := 2) (q := 31) dX7_sails_30 rfl rfl rfl ?_
        refine m_callV_r (As := [_]) (q := 34) mk_X7_isMissing dX7_sails_31 wd_293 wd_295 wp_2 (ci := 7) rfl ⟨by decide, _, rfl⟩ (ev_X7_isMissing _ _ _  (by omega)) rfl (by decide) rfl (Nat.zero_le _) (Nat.zero_le _) rfl ?_
        refine zb_eq (tgt := 43) (q := 37) dX7_sails_34 (by decide) rfl (fun c4 => ?_) (fun c4 => ?_)
        · skip
          refine z_aload_n (i := 0) (q := 44) dX7_sails_43 rfl rfl rfl ?_
          refine z_iload_n (i := 2) (q := 45) dX7_sails_44 rfl rfl rfl ?_
          refine z_iload_n (i := 3) (q := 46) dX7_sails_45 rfl rfl rfl ?_
          refine z_iload (i := 4) (q := 48) dX7_sails_46 rfl rfl ?_
          refine m_callV_r (As := [_, _, _]) (q := 51) mk_X7_isBeyond dX7_sails_48 wd_297 wd_299 wp_3 (ci := 7) rfl ⟨by decide, _, rfl⟩ (ev_X7_isBeyond _ _ _ _ _  (by omega)) rfl (by decide) rfl (Nat.zero_le _) (Nat.zero_le _) rfl ?_
          refine zb_eq (tgt := 60) (q := 54) dX7_sails_51 (by decide) rfl (fun c5 => ?_) (fun c5 => ?_)
          · skip
            refine z_iload_n (i := 3) (q := 61) dX7_sails_60 rfl rfl rfl ?_
            refine z_istore (i := 5) (ls' := [_, _, _, _, _, _]) (q := 63) dX7_sails_61 (by decide) rfl rfl ?_
            refine lp_X7_look _ m p r i z W hp hr h5 hW hW8 _ (z + 1) 0 (by omega) (by omega) hall ?_
            refine z_iconst (v := 0) (q := 98) dX7_sails_97 (by decide) rfl ?_
            refine z_istore (i := 5) (ls' := [_, _, _, _, _, _]) (q := 100) dX7_sails_98 (by decide) rfl rfl ?_
            exact lp_X7_sails _ p r i z W hp hr h5 hW8 (z + 1) 0 m (by omega) (by omega) hA hall
          · contradiction
        · contradiction
      · contradiction
