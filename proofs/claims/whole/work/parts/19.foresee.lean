/-! ===== the class: foresee ===== -/
def wOk (m : zm) (W : Nat) : Prop := ∀ i, i < W → (∃ k, k < 5 ∧ m.1 (17 + i) 0 = nI k) ∧ ∃ k, k < 5 ∧ m.1 (17 + i) 1 = nI k
theorem nI_self {x : Int32} {B : Nat} (hB : B < 2 ^ 31) (h : ∃ k, k < B ∧ x = nI k) : x = nI x.toNatClampNeg ∧ x.toNatClampNeg < B := by
  obtain ⟨k, hk, rfl⟩ := h
  rw [nI_clamp (by omega)]
  exact ⟨rfl, hk⟩
def cW1 (m : zm) (a p y w : Nat) : zm := if ¬ m.1 p 0 = 5 ∨ m.1 w 2 ≤ 10 then cArr m a p w y (m.1 w 0).toNatClampNeg (m.1 w 1).toNatClampNeg else m
def cWayL (a p y : Nat) : Nat → Nat → zm → zm
  | 0, _, m => m
  | n + 1, i, m => cWayL a p y n (i + 1) (cW1 m a p y (17 + i))
def cRow5 (m : zm) (a y : Nat) : zm :=
  let m1 := upL m (a + 1) (y * 5 + 0) (cG m a (nI y - 1) 0)
  let m2 := upL m1 (a + 1) (y * 5 + 1) (cG m1 a (nI y - 1) 1)
  let m3 := upL m2 (a + 1) (y * 5 + 2) (cG m2 a (nI y - 1) 2)
  let m4 := upL m3 (a + 1) (y * 5 + 3) (cG m3 a (nI y - 1) 3)
  upL m4 (a + 1) (y * 5 + 4) (cG m4 a (nI y - 1) 4)
def cYrL (a p W : Nat) : Nat → Nat → zm → zm
  | 0, _, m => m
  | n + 1, y, m => cYrL a p W n (y + 1) (cWayL a p y W 0 (cRow5 m a y))
def cRow0 (m : zm) (a p : Nat) : zm := upL (upL (upL (upL (upL m (a + 1) 0 (if 0 = m.1 p 2 then 1 else 0)) (a + 1) 1 (if 1 = m.1 p 2 then 1 else 0)) (a + 1) 2 (if 2 = m.1 p 2 then 1 else 0)) (a + 1) 3 (if 3 = m.1 p 2 then 1 else 0)) (a + 1) 4 (if 4 = m.1 p 2 then 1 else 0)
def cFore (m : zm) (a p W : Nat) : zm := cYrL a p W 40 1 (cRow0 m a p)
theorem cWayL_1 (a p y : Nat) : ∀ (n i : Nat) (m : zm), (cWayL a p y n i m).1 = m.1 := by
  intro n
  induction n with
  | zero => intro i m; rfl
  | succ n ih =>
    intro i m
    rw [cWayL, ih]
    unfold cW1
    split <;> rfl
theorem cYrL_1 (a p W : Nat) : ∀ (n y : Nat) (m : zm), (cYrL a p W n y m).1 = m.1 := by
  intro n
  induction n with
  | zero => intro y m; rfl
  | succ n ih =>
    intro y m
    rw [cYrL, ih, cWayL_1]
    rfl
theorem wOk_c {m m' : zm} {W : Nat} (h : m'.1 = m.1) (hw : wOk m W) : wOk m' W := by
  unfold wOk
  rw [h]
  exact hw
theorem cFore_1 (m : zm) (a p W : Nat) : (cFore m a p W).1 = m.1 := by
  unfold cFore
  rw [cYrL_1]
  rfl
theorem sl_X2_foresee {d : Nat} {ls : zL} {st : List Value} {h : zH} {X : zX} {x y : Int32} (kk : ZW zM_X2_foresee d 0 0 25 ls (.long (if x = y then 1 else 0) :: st) h 0 0 X) : ZW zM_X2_foresee d 0 0 17 ls (.int y :: .int x :: st) h 0 0 X := by
  refine z_icmp_ne (tgt := 24) (q := 20) dX2_foresee_17 (by decide) rfl (fun c => ?_) (fun c => ?_)
  · refine z_lconst (v := 0) (q := 25) dX2_foresee_24 (by decide) rfl ?_
    rw [if_neg c] at kk
    exact kk
  · refine z_lconst (v := 1) (q := 21) dX2_foresee_20 (by decide) rfl ?_
    refine z_goto (tgt := 25) dX2_foresee_21 (by decide) ?_
    rw [if_pos c] at kk
    exact kk
theorem ge41 {y : Nat} (hy : y ≤ 41) (c : (40 : Int32) < nI y) : y = 41 := by
  have := (nI_ltI (a := 40) (b := y) (by omega) (by omega)).mp c
  omega
theorem nge41 {y : Nat} (hy : y ≤ 41) (c : ¬ (40 : Int32) < nI y) : y < 41 := by
  rcases Nat.lt_or_ge y 41 with q | q
  · exact q
  · exact absurd (nI_ltI (a := 40) (b := y) (by omega) (by omega) |>.mpr (by omega)) c
set_option maxHeartbeats 4000000 in
set_option maxRecDepth 100000 in
theorem lp_X2_ways (d : Nat) (a p W : Nat) (hf : isFor a) (hp : isPer p) (hW8 : W ≤ 8) (y : Nat) (hy : y < 41) (X : zX) : ∀ (n : Nat) (i : Nat) (m : zm), W - i < n → i ≤ W → m.1 14 2 = nI W → wOk m W → ZW zM_X2_foresee (d + 3) 0 0 34 [some (.ref a), some (.ref 14), some (.ref p), some (.int (nI (y + 1))), none] [] (lay (cWayL a p y (W - i) i m)) 0 0 X → ZW zM_X2_foresee (d + 3) 0 0 78 [some (.ref a), some (.ref 14), some (.ref p), some (.int (nI y)), some (.int (nI i))] [] (lay m) 0 0 (X) := by
  intro n
  induction n with
  | zero => intro i m hm; exact absurd hm (by omega)
  | succ n ih =>
    intro i m hm hi hW hwk kk
    refine z_iload (i := 4) (q := 80) dX2_foresee_78 rfl rfl ?_
    refine z_aload_n (i := 1) (q := 81) dX2_foresee_80 rfl rfl rfl ?_
    refine m_getI (q := 84) dX2_foresee_81 fl_X2_29 ⟨by decide, _, rfl, rfl⟩ rfl ?_
    rw [hW]
    refine z_icmp_ge (tgt := 120) (q := 87) dX2_foresee_84 (by decide) rfl (fun c1 => ?_) (fun c1 => ?_)
    · skip
      have hz := leW hW8 hi c1
      rw [hz] at kk
      refine z_iinc (i := 3) (ls' := [_, _, _, _, _]) (v := nI (y + 1)) (q := 123) dX2_foresee_120 rfl (nI_1 _) (by decide) rfl rfl ?_
      refine z_goto (tgt := 34) dX2_foresee_123 (by decide) ?_
      exact z_loc (zle_s (zle_s (zle_s (zle_s (zle_n zle_0))))) kk
    · skip
      have hz := nleW hW8 hi c1
      have hz8 : i < 8 := by omega
      refine z_aload_n (i := 2) (q := 88) dX2_foresee_87 rfl rfl rfl ?_
      refine z_aload_n (i := 1) (q := 89) dX2_foresee_88 rfl rfl rfl ?_
      refine m_getR (r := 15) (q := 92) dX2_foresee_89 fl_X2_34 ⟨by decide, _, rfl, rfl⟩ rfl ?_
      refine z_iload (i := 4) (q := 94) dX2_foresee_92 rfl rfl ?_
      refine m_aald (kd := 4) (N := 8) (b := 17 + i) (q := 95) dX2_foresee_94 (by decide) (okPn (by decide) rfl (by omega) (by decide)) (nI_pos' (by omega)) rfl ?_
      refine m_callV_r (As := [_]) (q := 98) mk_X4_maySail dX2_foresee_95 wd_591 wd_489 wd_490 (ci := 4) rfl ⟨hp.1, _, hp.2⟩ (ev_X4_maySail _ _ _ _ hp (isLea_14.2.2.2.2.2.1 i (by omega))) rfl (by decide) rfl (Nat.zero_le _) (Nat.zero_le _) rfl ?_
      refine zb_eq (tgt := 114) (q := 101) dX2_foresee_98 (by decide) rfl (fun c2 => ?_) (fun c2 => ?_)
      · skip
        refine z_iinc (i := 4) (ls' := [_, _, _, _, _]) (v := nI (i + 1)) (q := 117) dX2_foresee_114 rfl (nI_1 _) (by decide) rfl rfl ?_
        refine z_goto (tgt := 78) dX2_foresee_117 (by decide) ?_
        have hs : cW1 m a p y (17 + i) = m := if_neg c2
        rw [hz.2, cWayL, hs] at kk
        exact ih (i + 1) m (by omega) (by omega) hW hwk kk
      · skip
        refine z_aload_n (i := 0) (q := 102) dX2_foresee_101 rfl rfl rfl ?_
        refine z_aload_n (i := 2) (q := 103) dX2_foresee_102 rfl rfl rfl ?_
        refine z_aload_n (i := 1) (q := 104) dX2_foresee_103 rfl rfl rfl ?_
        refine m_getR (r := 15) (q := 107) dX2_foresee_104 fl_X2_34 ⟨by decide, _, rfl, rfl⟩ rfl ?_
        refine z_iload (i := 4) (q := 109) dX2_foresee_107 rfl rfl ?_
        refine m_aald (kd := 4) (N := 8) (b := 17 + i) (q := 110) dX2_foresee_109 (by decide) (okPn (by decide) rfl (by omega) (by decide)) (nI_pos' (by omega)) rfl ?_
        refine z_iload_n (i := 3) (q := 111) dX2_foresee_110 rfl rfl rfl ?_
        refine m_callV_v (As := [_, _, _]) (q := 114) mk_X2_arrive dX2_foresee_111 wd_592 wd_594 wp_21 (ci := 2) rfl ⟨hf.1, _, hf.2.2.1⟩ (ev_X2_arrive _ _ _ _ _ _ _ _ hf hp (isLea_14.2.2.2.2.2.1 i (by omega)) (nI_self (B := 5) (by omega) (hwk i hz.1).1).1 (nI_self (B := 5) (by omega) (hwk i hz.1).2).1 (nI_self (B := 5) (by omega) (hwk i hz.1).1).2 (nI_self (B := 5) (by omega) (hwk i hz.1).2).2 (by omega)) rfl (by decide) rfl (Nat.zero_le _) (Nat.zero_le _) rfl ?_
        refine z_iinc (i := 4) (ls' := [_, _, _, _, _]) (v := nI (i + 1)) (q := 117) dX2_foresee_114 rfl (nI_1 _) (by decide) rfl rfl ?_
        refine z_goto (tgt := 78) dX2_foresee_117 (by decide) ?_
        have hs : cW1 m a p y (17 + i) = cArr m a p (17 + i) y (m.1 (17 + i) 0).toNatClampNeg (m.1 (17 + i) 1).toNatClampNeg := if_pos c2
        rw [hz.2, cWayL, hs] at kk
        exact ih (i + 1) _ (by omega) (by omega) hW hwk kk
set_option maxHeartbeats 4000000 in
set_option maxRecDepth 100000 in
theorem lp_X2_years (d : Nat) (a p W : Nat) (hf : isFor a) (hp : isPer p) (hW8 : W ≤ 8) : ∀ (n : Nat) (y : Nat) (m : zm), 41 - y < n → y ≤ 41 → m.1 14 2 = nI W → wOk m W → ZW zM_X2_foresee (d + 3) 0 0 34 [some (.ref a), some (.ref 14), some (.ref p), some (.int (nI y)), none] [] (lay m) 0 0 (none, lay (cYrL a p W (41 - y) y m)) := by
  intro n
  induction n with
  | zero => intro y m hm; exact absurd hm (by omega)
  | succ n ih =>
    intro y m hm hy hW hwk
    refine z_iload_n (i := 3) (q := 35) dX2_foresee_34 rfl rfl rfl ?_
    refine z_bipush (v := 40) (q := 37) dX2_foresee_35 (by decide) rfl ?_
    refine z_icmp_gt (tgt := 126) (q := 40) dX2_foresee_37 (by decide) rfl (fun c1 => ?_) (fun c1 => ?_)
    · skip
      have hz := ge41 hy c1
      subst hz
      refine z_return dX2_foresee_126 rfl ?_ (Nat.le_refl _) (Nat.le_refl _)
      rfl
    · skip
      have hz := nge41 hy c1
      refine z_iconst (v := 0) (q := 41) dX2_foresee_40 (by decide) rfl ?_
      refine z_istore (i := 4) (ls' := [_, _, _, _, _]) (q := 43) dX2_foresee_41 (by decide) rfl rfl ?_
      refine z_iload (i := 4) (q := 45) dX2_foresee_43 rfl rfl ?_
      refine z_iconst (v := 5) (q := 46) dX2_foresee_45 (by decide) rfl ?_
      refine z_icmp_ge (tgt := 75) (q := 49) dX2_foresee_46 (by decide) rfl (fun c2 => ?_) (fun c2 => ?_)
      · exact absurd c2 (by decide)
      · skip
        refine z_aload_n (i := 0) (q := 50) dX2_foresee_49 rfl rfl rfl ?_
        refine m_getR (r := (a + 1)) (q := 53) dX2_foresee_50 fl_X2_9 ⟨hf.1, _, hf.2.2.1, rfl⟩ rfl ?_
        refine z_iload_n (i := 3) (q := 54) dX2_foresee_53 rfl rfl rfl ?_
        refine z_iconst (v := 5) (q := 55) dX2_foresee_54 (by decide) rfl ?_
        refine z_imul (q := 56) dX2_foresee_55 rfl ?_
        refine z_iload (i := 4) (q := 58) dX2_foresee_56 rfl rfl ?_
        refine z_iadd (q := 59) dX2_foresee_58 rfl ?_
        rw [show nI y * 5 + 0 = nI (y * 5 + 0) from yix y 0]
        refine z_aload_n (i := 0) (q := 60) dX2_foresee_59 rfl rfl rfl ?_
        refine z_iload_n (i := 3) (q := 61) dX2_foresee_60 rfl rfl rfl ?_
        refine z_iconst (v := 1) (q := 62) dX2_foresee_61 (by decide) rfl ?_
        refine z_isub (q := 63) dX2_foresee_62 rfl ?_
        refine z_iload (i := 4) (q := 65) dX2_foresee_63 rfl rfl ?_
        refine m_callV_r (As := [_, _]) (q := 68) mk_X2_gainsAt dX2_foresee_65 wd_586 wd_587 wd_588 (ci := 2) rfl ⟨hf.1, _, hf.2.2.1⟩ (ev_X2_gainsAt _ _ _ _ _ hf) rfl (by simp [Value.category]) rfl (Nat.zero_le _) (Nat.zero_le _) rfl ?_
        refine m_lastJ (N := 205) (q := 69) dX2_foresee_68 ⟨hf.2.1, _, hf.2.2.2⟩ (j := (y * 5 + 0)) (nI_clamp (by omega)) (vp_in_nI (by omega) (by decide)) rfl ?_
        refine z_iinc (i := 4) (ls' := [_, _, _, _, _]) (v := 1) (q := 72) dX2_foresee_69 rfl (by decide) (by decide) rfl rfl ?_
        refine z_goto (tgt := 43) dX2_foresee_72 (by decide) ?_
        refine z_iload (i := 4) (q := 45) dX2_foresee_43 rfl rfl ?_
        refine z_iconst (v := 5) (q := 46) dX2_foresee_45 (by decide) rfl ?_
        refine z_icmp_ge (tgt := 75) (q := 49) dX2_foresee_46 (by decide) rfl (fun c3 => ?_) (fun c3 => ?_)
        · exact absurd c3 (by decide)
        · skip
          refine z_aload_n (i := 0) (q := 50) dX2_foresee_49 rfl rfl rfl ?_
          refine m_getR (r := (a + 1)) (q := 53) dX2_foresee_50 fl_X2_9 ⟨hf.1, _, hf.2.2.1, rfl⟩ rfl ?_
          refine z_iload_n (i := 3) (q := 54) dX2_foresee_53 rfl rfl rfl ?_
          refine z_iconst (v := 5) (q := 55) dX2_foresee_54 (by decide) rfl ?_
          refine z_imul (q := 56) dX2_foresee_55 rfl ?_
          refine z_iload (i := 4) (q := 58) dX2_foresee_56 rfl rfl ?_
          refine z_iadd (q := 59) dX2_foresee_58 rfl ?_
          rw [show nI y * 5 + 1 = nI (y * 5 + 1) from yix y 1]
          refine z_aload_n (i := 0) (q := 60) dX2_foresee_59 rfl rfl rfl ?_
          refine z_iload_n (i := 3) (q := 61) dX2_foresee_60 rfl rfl rfl ?_
          refine z_iconst (v := 1) (q := 62) dX2_foresee_61 (by decide) rfl ?_
          refine z_isub (q := 63) dX2_foresee_62 rfl ?_
          refine z_iload (i := 4) (q := 65) dX2_foresee_63 rfl rfl ?_
          refine m_callV_r (As := [_, _]) (q := 68) mk_X2_gainsAt dX2_foresee_65 wd_586 wd_587 wd_588 (ci := 2) rfl ⟨hf.1, _, hf.2.2.1⟩ (ev_X2_gainsAt _ _ _ _ _ hf) rfl (by simp [Value.category]) rfl (Nat.zero_le _) (Nat.zero_le _) rfl ?_
          refine m_lastJ (N := 205) (q := 69) dX2_foresee_68 ⟨hf.2.1, _, hf.2.2.2⟩ (j := (y * 5 + 1)) (nI_clamp (by omega)) (vp_in_nI (by omega) (by decide)) rfl ?_
          refine z_iinc (i := 4) (ls' := [_, _, _, _, _]) (v := 2) (q := 72) dX2_foresee_69 rfl (by decide) (by decide) rfl rfl ?_
          refine z_goto (tgt := 43) dX2_foresee_72 (by decide) ?_
          refine z_iload (i := 4) (q := 45) dX2_foresee_43 rfl rfl ?_
          refine z_iconst (v := 5) (q := 46) dX2_foresee_45 (by decide) rfl ?_
          refine z_icmp_ge (tgt := 75) (q := 49) dX2_foresee_46 (by decide) rfl (fun c4 => ?_) (fun c4 => ?_)
          · exact absurd c4 (by decide)
          · skip
            refine z_aload_n (i := 0) (q := 50) dX2_foresee_49 rfl rfl rfl ?_
            refine m_getR (r := (a + 1)) (q := 53) dX2_foresee_50 fl_X2_9 ⟨hf.1, _, hf.2.2.1, rfl⟩ rfl ?_
            refine z_iload_n (i := 3) (q := 54) dX2_foresee_53 rfl rfl rfl ?_
            refine z_iconst (v := 5) (q := 55) dX2_foresee_54 (by decide) rfl ?_
            refine z_imul (q := 56) dX2_foresee_55 rfl ?_
            refine z_iload (i := 4) (q := 58) dX2_foresee_56 rfl rfl ?_
            refine z_iadd (q := 59) dX2_foresee_58 rfl ?_
            rw [show nI y * 5 + 2 = nI (y * 5 + 2) from yix y 2]
            refine z_aload_n (i := 0) (q := 60) dX2_foresee_59 rfl rfl rfl ?_
            refine z_iload_n (i := 3) (q := 61) dX2_foresee_60 rfl rfl rfl ?_
            refine z_iconst (v := 1) (q := 62) dX2_foresee_61 (by decide) rfl ?_
            refine z_isub (q := 63) dX2_foresee_62 rfl ?_
            refine z_iload (i := 4) (q := 65) dX2_foresee_63 rfl rfl ?_
            refine m_callV_r (As := [_, _]) (q := 68) mk_X2_gainsAt dX2_foresee_65 wd_586 wd_587 wd_588 (ci := 2) rfl ⟨hf.1, _, hf.2.2.1⟩ (ev_X2_gainsAt _ _ _ _ _ hf) rfl (by simp [Value.category]) rfl (Nat.zero_le _) (Nat.zero_le _) rfl ?_
            refine m_lastJ (N := 205) (q := 69) dX2_foresee_68 ⟨hf.2.1, _, hf.2.2.2⟩ (j := (y * 5 + 2)) (nI_clamp (by omega)) (vp_in_nI (by omega) (by decide)) rfl ?_
            refine z_iinc (i := 4) (ls' := [_, _, _, _, _]) (v := 3) (q := 72) dX2_foresee_69 rfl (by decide) (by decide) rfl rfl ?_
            refine z_goto (tgt := 43) dX2_foresee_72 (by decide) ?_
            refine z_iload (i := 4) (q := 45) dX2_foresee_43 rfl rfl ?_
            refine z_iconst (v := 5) (q := 46) dX2_foresee_45 (by decide) rfl ?_
            refine z_icmp_ge (tgt := 75) (q := 49) dX2_foresee_46 (by decide) rfl (fun c5 => ?_) (fun c5 => ?_)
            · exact absurd c5 (by decide)
            · skip
              refine z_aload_n (i := 0) (q := 50) dX2_foresee_49 rfl rfl rfl ?_
              refine m_getR (r := (a + 1)) (q := 53) dX2_foresee_50 fl_X2_9 ⟨hf.1, _, hf.2.2.1, rfl⟩ rfl ?_
              refine z_iload_n (i := 3) (q := 54) dX2_foresee_53 rfl rfl rfl ?_
              refine z_iconst (v := 5) (q := 55) dX2_foresee_54 (by decide) rfl ?_
              refine z_imul (q := 56) dX2_foresee_55 rfl ?_
              refine z_iload (i := 4) (q := 58) dX2_foresee_56 rfl rfl ?_
              refine z_iadd (q := 59) dX2_foresee_58 rfl ?_
              rw [show nI y * 5 + 3 = nI (y * 5 + 3) from yix y 3]
              refine z_aload_n (i := 0) (q := 60) dX2_foresee_59 rfl rfl rfl ?_
              refine z_iload_n (i := 3) (q := 61) dX2_foresee_60 rfl rfl rfl ?_
              refine z_iconst (v := 1) (q := 62) dX2_foresee_61 (by decide) rfl ?_
              refine z_isub (q := 63) dX2_foresee_62 rfl ?_
              refine z_iload (i := 4) (q := 65) dX2_foresee_63 rfl rfl ?_
              refine m_callV_r (As := [_, _]) (q := 68) mk_X2_gainsAt dX2_foresee_65 wd_586 wd_587 wd_588 (ci := 2) rfl ⟨hf.1, _, hf.2.2.1⟩ (ev_X2_gainsAt _ _ _ _ _ hf) rfl (by simp [Value.category]) rfl (Nat.zero_le _) (Nat.zero_le _) rfl ?_
              refine m_lastJ (N := 205) (q := 69) dX2_foresee_68 ⟨hf.2.1, _, hf.2.2.2⟩ (j := (y * 5 + 3)) (nI_clamp (by omega)) (vp_in_nI (by omega) (by decide)) rfl ?_
              refine z_iinc (i := 4) (ls' := [_, _, _, _, _]) (v := 4) (q := 72) dX2_foresee_69 rfl (by decide) (by decide) rfl rfl ?_
              refine z_goto (tgt := 43) dX2_foresee_72 (by decide) ?_
              refine z_iload (i := 4) (q := 45) dX2_foresee_43 rfl rfl ?_
              refine z_iconst (v := 5) (q := 46) dX2_foresee_45 (by decide) rfl ?_
              refine z_icmp_ge (tgt := 75) (q := 49) dX2_foresee_46 (by decide) rfl (fun c6 => ?_) (fun c6 => ?_)
              · exact absurd c6 (by decide)
              · skip
                refine z_aload_n (i := 0) (q := 50) dX2_foresee_49 rfl rfl rfl ?_
                refine m_getR (r := (a + 1)) (q := 53) dX2_foresee_50 fl_X2_9 ⟨hf.1, _, hf.2.2.1, rfl⟩ rfl ?_
                refine z_iload_n (i := 3) (q := 54) dX2_foresee_53 rfl rfl rfl ?_
                refine z_iconst (v := 5) (q := 55) dX2_foresee_54 (by decide) rfl ?_
                refine z_imul (q := 56) dX2_foresee_55 rfl ?_
                refine z_iload (i := 4) (q := 58) dX2_foresee_56 rfl rfl ?_
                refine z_iadd (q := 59) dX2_foresee_58 rfl ?_
                rw [show nI y * 5 + 4 = nI (y * 5 + 4) from yix y 4]
                refine z_aload_n (i := 0) (q := 60) dX2_foresee_59 rfl rfl rfl ?_
                refine z_iload_n (i := 3) (q := 61) dX2_foresee_60 rfl rfl rfl ?_
                refine z_iconst (v := 1) (q := 62) dX2_foresee_61 (by decide) rfl ?_
                refine z_isub (q := 63) dX2_foresee_62 rfl ?_
                refine z_iload (i := 4) (q := 65) dX2_foresee_63 rfl rfl ?_
                refine m_callV_r (As := [_, _]) (q := 68) mk_X2_gainsAt dX2_foresee_65 wd_586 wd_587 wd_588 (ci := 2) rfl ⟨hf.1, _, hf.2.2.1⟩ (ev_X2_gainsAt _ _ _ _ _ hf) rfl (by simp [Value.category]) rfl (Nat.zero_le _) (Nat.zero_le _) rfl ?_
                refine m_lastJ (N := 205) (q := 69) dX2_foresee_68 ⟨hf.2.1, _, hf.2.2.2⟩ (j := (y * 5 + 4)) (nI_clamp (by omega)) (vp_in_nI (by omega) (by decide)) rfl ?_
                refine z_iinc (i := 4) (ls' := [_, _, _, _, _]) (v := 5) (q := 72) dX2_foresee_69 rfl (by decide) (by decide) rfl rfl ?_
                refine z_goto (tgt := 43) dX2_foresee_72 (by decide) ?_
                refine z_iload (i := 4) (q := 45) dX2_foresee_43 rfl rfl ?_
                refine z_iconst (v := 5) (q := 46) dX2_foresee_45 (by decide) rfl ?_
                refine z_icmp_ge (tgt := 75) (q := 49) dX2_foresee_46 (by decide) rfl (fun c7 => ?_) (fun c7 => ?_)
                · skip
                  refine z_iconst (v := 0) (q := 76) dX2_foresee_75 (by decide) rfl ?_
                  refine z_istore (i := 4) (ls' := [_, _, _, _, _]) (q := 78) dX2_foresee_76 (by decide) rfl rfl ?_
                  refine lp_X2_ways d a p W hf hp hW8 y hz _ (W + 1) 0 _ (by omega) (by omega) hW hwk ?_
                  rw [show 41 - y = (41 - (y + 1)) + 1 by omega, cYrL]
                  exact ih (y + 1) _ (by omega) (by omega) (by show (cWayL a p y W 0 (cRow5 m a y)).1 14 2 = nI W; rw [cWayL_1]; exact hW) (wOk_c (m := m) ((cWayL_1 a p y _ _ _).trans rfl) hwk)
                · exact absurd c7 (by decide)
set_option maxHeartbeats 4000000 in
set_option maxRecDepth 100000 in
theorem ev_X2_foresee (d : Nat) (m : zm) (W : Nat) (a : Nat) (p : Nat) (hf : isFor a) (hp : isPer p) (hW : m.1 14 2 = nI W) (hW8 : W ≤ 8) (hwk : wOk m W) : zEv (d + 3) zM_X2_foresee 0 0 [.ref a, .ref 14, .ref p] (lay m) (none, lay (cFore m a p W)) := by
  refine zEv_of (by decide) (fun G => Nat.le_of_ble_eq_true rfl) ?_
  show ZW _ _ _ _ 0 [some (.ref a), some (.ref 14), some (.ref p), none, none] [] _ _ _ _
  refine z_iconst (v := 0) (q := 1) dX2_foresee_0 (by decide) rfl ?_
  refine z_istore_n (i := 3) (ls' := [_, _, _, _, _]) (q := 2) dX2_foresee_1 rfl (by decide) rfl rfl ?_
  refine z_iload_n (i := 3) (q := 3) dX2_foresee_2 rfl rfl rfl ?_
  refine z_iconst (v := 5) (q := 4) dX2_foresee_3 (by decide) rfl ?_
  refine z_icmp_ge (tgt := 32) (q := 7) dX2_foresee_4 (by decide) rfl (fun c1 => ?_) (fun c1 => ?_)
  · exact absurd c1 (by decide)
  · skip
    refine z_aload_n (i := 0) (q := 8) dX2_foresee_7 rfl rfl rfl ?_
    refine m_getR (r := (a + 1)) (q := 11) dX2_foresee_8 fl_X2_9 ⟨hf.1, _, hf.2.2.1, rfl⟩ rfl ?_
    refine z_iload_n (i := 3) (q := 12) dX2_foresee_11 rfl rfl rfl ?_
    refine z_iload_n (i := 3) (q := 13) dX2_foresee_12 rfl rfl rfl ?_
    refine z_aload_n (i := 2) (q := 14) dX2_foresee_13 rfl rfl rfl ?_
    refine m_getI (q := 17) dX2_foresee_14 fl_X2_23 ⟨hp.1, _, hp.2, rfl⟩ rfl ?_
    try simp only [upL_1]
    refine sl_X2_foresee ?_
    refine m_lastJ (N := 205) (q := 26) dX2_foresee_25 ⟨hf.2.1, _, hf.2.2.2⟩ (j := 0) (by decide) (vp_c (by decide)) rfl ?_
    refine z_iinc (i := 3) (ls' := [_, _, _, _, _]) (v := 1) (q := 29) dX2_foresee_26 rfl (by decide) (by decide) rfl rfl ?_
    refine z_goto (tgt := 2) dX2_foresee_29 (by decide) ?_
    refine z_iload_n (i := 3) (q := 3) dX2_foresee_2 rfl rfl rfl ?_
    refine z_iconst (v := 5) (q := 4) dX2_foresee_3 (by decide) rfl ?_
    refine z_icmp_ge (tgt := 32) (q := 7) dX2_foresee_4 (by decide) rfl (fun c2 => ?_) (fun c2 => ?_)
    · exact absurd c2 (by decide)
    · skip
      refine z_aload_n (i := 0) (q := 8) dX2_foresee_7 rfl rfl rfl ?_
      refine m_getR (r := (a + 1)) (q := 11) dX2_foresee_8 fl_X2_9 ⟨hf.1, _, hf.2.2.1, rfl⟩ rfl ?_
      refine z_iload_n (i := 3) (q := 12) dX2_foresee_11 rfl rfl rfl ?_
      refine z_iload_n (i := 3) (q := 13) dX2_foresee_12 rfl rfl rfl ?_
      refine z_aload_n (i := 2) (q := 14) dX2_foresee_13 rfl rfl rfl ?_
      refine m_getI (q := 17) dX2_foresee_14 fl_X2_23 ⟨hp.1, _, hp.2, rfl⟩ rfl ?_
      try simp only [upL_1]
      refine sl_X2_foresee ?_
      refine m_lastJ (N := 205) (q := 26) dX2_foresee_25 ⟨hf.2.1, _, hf.2.2.2⟩ (j := 1) (by decide) (vp_c (by decide)) rfl ?_
      refine z_iinc (i := 3) (ls' := [_, _, _, _, _]) (v := 2) (q := 29) dX2_foresee_26 rfl (by decide) (by decide) rfl rfl ?_
      refine z_goto (tgt := 2) dX2_foresee_29 (by decide) ?_
      refine z_iload_n (i := 3) (q := 3) dX2_foresee_2 rfl rfl rfl ?_
      refine z_iconst (v := 5) (q := 4) dX2_foresee_3 (by decide) rfl ?_
      refine z_icmp_ge (tgt := 32) (q := 7) dX2_foresee_4 (by decide) rfl (fun c3 => ?_) (fun c3 => ?_)
      · exact absurd c3 (by decide)
      · skip
        refine z_aload_n (i := 0) (q := 8) dX2_foresee_7 rfl rfl rfl ?_
        refine m_getR (r := (a + 1)) (q := 11) dX2_foresee_8 fl_X2_9 ⟨hf.1, _, hf.2.2.1, rfl⟩ rfl ?_
        refine z_iload_n (i := 3) (q := 12) dX2_foresee_11 rfl rfl rfl ?_
        refine z_iload_n (i := 3) (q := 13) dX2_foresee_12 rfl rfl rfl ?_
        refine z_aload_n (i := 2) (q := 14) dX2_foresee_13 rfl rfl rfl ?_
        refine m_getI (q := 17) dX2_foresee_14 fl_X2_23 ⟨hp.1, _, hp.2, rfl⟩ rfl ?_
        try simp only [upL_1]
        refine sl_X2_foresee ?_
        refine m_lastJ (N := 205) (q := 26) dX2_foresee_25 ⟨hf.2.1, _, hf.2.2.2⟩ (j := 2) (by decide) (vp_c (by decide)) rfl ?_
        refine z_iinc (i := 3) (ls' := [_, _, _, _, _]) (v := 3) (q := 29) dX2_foresee_26 rfl (by decide) (by decide) rfl rfl ?_
        refine z_goto (tgt := 2) dX2_foresee_29 (by decide) ?_
        refine z_iload_n (i := 3) (q := 3) dX2_foresee_2 rfl rfl rfl ?_
        refine z_iconst (v := 5) (q := 4) dX2_foresee_3 (by decide) rfl ?_
        refine z_icmp_ge (tgt := 32) (q := 7) dX2_foresee_4 (by decide) rfl (fun c4 => ?_) (fun c4 => ?_)
        · exact absurd c4 (by decide)
        · skip
          refine z_aload_n (i := 0) (q := 8) dX2_foresee_7 rfl rfl rfl ?_
          refine m_getR (r := (a + 1)) (q := 11) dX2_foresee_8 fl_X2_9 ⟨hf.1, _, hf.2.2.1, rfl⟩ rfl ?_
          refine z_iload_n (i := 3) (q := 12) dX2_foresee_11 rfl rfl rfl ?_
          refine z_iload_n (i := 3) (q := 13) dX2_foresee_12 rfl rfl rfl ?_
          refine z_aload_n (i := 2) (q := 14) dX2_foresee_13 rfl rfl rfl ?_
          refine m_getI (q := 17) dX2_foresee_14 fl_X2_23 ⟨hp.1, _, hp.2, rfl⟩ rfl ?_
          try simp only [upL_1]
          refine sl_X2_foresee ?_
          refine m_lastJ (N := 205) (q := 26) dX2_foresee_25 ⟨hf.2.1, _, hf.2.2.2⟩ (j := 3) (by decide) (vp_c (by decide)) rfl ?_
          refine z_iinc (i := 3) (ls' := [_, _, _, _, _]) (v := 4) (q := 29) dX2_foresee_26 rfl (by decide) (by decide) rfl rfl ?_
          refine z_goto (tgt := 2) dX2_foresee_29 (by decide) ?_
          refine z_iload_n (i := 3) (q := 3) dX2_foresee_2 rfl rfl rfl ?_
          refine z_iconst (v := 5) (q := 4) dX2_foresee_3 (by decide) rfl ?_
          refine z_icmp_ge (tgt := 32) (q := 7) dX2_foresee_4 (by decide) rfl (fun c5 => ?_) (fun c5 => ?_)
          · exact absurd c5 (by decide)
          · skip
            refine z_aload_n (i := 0) (q := 8) dX2_foresee_7 rfl rfl rfl ?_
            refine m_getR (r := (a + 1)) (q := 11) dX2_foresee_8 fl_X2_9 ⟨hf.1, _, hf.2.2.1, rfl⟩ rfl ?_
            refine z_iload_n (i := 3) (q := 12) dX2_foresee_11 rfl rfl rfl ?_
            refine z_iload_n (i := 3) (q := 13) dX2_foresee_12 rfl rfl rfl ?_
            refine z_aload_n (i := 2) (q := 14) dX2_foresee_13 rfl rfl rfl ?_
            refine m_getI (q := 17) dX2_foresee_14 fl_X2_23 ⟨hp.1, _, hp.2, rfl⟩ rfl ?_
            try simp only [upL_1]
            refine sl_X2_foresee ?_
            refine m_lastJ (N := 205) (q := 26) dX2_foresee_25 ⟨hf.2.1, _, hf.2.2.2⟩ (j := 4) (by decide) (vp_c (by decide)) rfl ?_
            refine z_iinc (i := 3) (ls' := [_, _, _, _, _]) (v := 5) (q := 29) dX2_foresee_26 rfl (by decide) (by decide) rfl rfl ?_
            refine z_goto (tgt := 2) dX2_foresee_29 (by decide) ?_
            refine z_iload_n (i := 3) (q := 3) dX2_foresee_2 rfl rfl rfl ?_
            refine z_iconst (v := 5) (q := 4) dX2_foresee_3 (by decide) rfl ?_
            refine z_icmp_ge (tgt := 32) (q := 7) dX2_foresee_4 (by decide) rfl (fun c6 => ?_) (fun c6 => ?_)
            · skip
              refine z_iconst (v := 1) (q := 33) dX2_foresee_32 (by decide) rfl ?_
              refine z_istore_n (i := 3) (ls' := [_, _, _, _, _]) (q := 34) dX2_foresee_33 rfl (by decide) rfl rfl ?_
              exact z_loc (zle_s (zle_s (zle_s (zle_s (zle_n zle_0))))) (lp_X2_years d a p W hf hp hW8 41 1 _ (by omega) (by omega) hW hwk)
            · exact absurd c6 (by decide)
