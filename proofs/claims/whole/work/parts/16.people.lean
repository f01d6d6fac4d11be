/-! ===== the class: what people do ===== -/
def aO (m : zm) : Nat := (m.1 46 1).toNatClampNeg
def aK (m : zm) : Nat := (m.1 46 2).toNatClampNeg
def aOk (m : zm) : Prop := m.1 46 1 = nI (aO m) ∧ m.1 46 2 = nI (aK m) ∧ aO m < 24 ∧ aK m ≤ 24
abbrev cKp (m : zm) : zm := cKeep m (aO m) (aK m)
abbrev cTk (m : zm) : zm := cTake m (aO m) (aK m)
theorem aOk_of {m : zm} {o k : Nat} (h1 : m.1 46 1 = nI o) (h2 : m.1 46 2 = nI k) (h3 : o < 24) (h4 : k ≤ 24) : aOk m ∧ aO m = o ∧ aK m = k := by
  have e1 : aO m = o := by unfold aO; rw [h1, nI_clamp (by omega)]
  have e2 : aK m = k := by unfold aK; rw [h2, nI_clamp (by omega)]
  exact ⟨⟨by rw [e1]; exact h1, by rw [e2]; exact h2, by omega, by omega⟩, e1, e2⟩
theorem cCpy_n {m : zm} {a b n c k : Nat} (h : c ≠ a) : (cCpy m a b n).1 c k = m.1 c k := by simp [cCpy, h]
theorem cPers_n {m : zm} {x y c k : Nat} (h : c < x ∨ x + 4 ≤ c) : (cPers m x y).1 c k = m.1 c k := by
  unfold cPers
  rw [cCpy_n (by omega), cCpy_n (by omega), cCpy_n (by omega), cCpy_n (by omega)]
theorem cKeep1_n {m : zm} {f c k : Nat} (h : c < 48 + f ∨ 48 + f + 4 ≤ c) (h2 : ¬ (c = 46 ∧ k = 2)) : (cKeep1 m f).1 c k = m.1 c k := by
  unfold cKeep1
  rw [upI_ne h2, cPers_n h]
theorem cKeep1_k {m : zm} {f : Nat} : (cKeep1 m f).1 46 2 = m.1 46 2 + 1 := by
  unfold cKeep1
  rw [upI_eq, cPers_n (by omega)]
/-- the acts behind an act that is kept -/
theorem cKp_ok {m : zm} (h : aOk m) : aOk (cKp m) ∧ aO (cKp m) = (if aK m = 24 then (aO m + 1) % 24 else aO m) ∧ aK (cKp m) = (if aK m = 24 then 24 else aK m + 1) := by
  obtain ⟨h1, h2, h3, h4⟩ := h
  unfold cKp cKeep
  by_cases hk : aK m = 24
  · rw [if_pos hk, if_pos hk, if_pos hk]
    exact aOk_of (by rw [cKeep1_n (by omega) (by decide), upI_ne (by decide), upI_eq]) (by rw [cKeep1_k, upI_eq]; rfl) (by omega) (by omega)
  · rw [if_neg hk, if_neg hk, if_neg hk]
    exact aOk_of (by rw [cKeep1_n (by omega) (by decide)]; exact h1) (by rw [cKeep1_k, h2]; exact nI_1 _) (by omega) (by omega)
theorem cKp_n {m : zm} {c k : Nat} (h : c < 46 ∨ c = 47 ∨ 144 ≤ c) : (cKp m).1 c k = m.1 c k := by
  unfold cKp cKeep
  split
  · rw [cKeep1_n (by omega) (by omega), upI_ne (by omega), upI_ne (by omega)]
  · by_cases h2 : (aO m + aK m) % 24 * 4 < 93
    · rw [cKeep1_n (by omega) (by omega)]
    · omega
abbrev cGo (m : zm) (p w : Nat) : Prop := (m.1 (17 + w) 0 = m.1 (25 + p) 2 ∨ m.1 (17 + w) 1 = m.1 (25 + p) 2) ∧ (¬ m.1 (25 + p) 0 = 5 ∨ m.1 (17 + w) 2 ≤ 10)
set_option maxHeartbeats 4000000 in
set_option maxRecDepth 100000 in
theorem ev_X7_sailOnce_state (d : Nat) (m : zm) (p : Nat) (w : Nat) (h2 : ¬ cGo m p w) (hp : p < 4) (hw : w < 8) : zEv (d + 3) zM_X7_sailOnce 0 0 [.ref 0, .int (nI p), .int (nI w)] (lay m) (some (.int (-1000002)), lay (m)) := by
  refine zEv_of (by decide) (fun G => Nat.le_of_ble_eq_true rfl) ?_
  show ZW _ _ _ _ 0 [some (.ref 0), some (.int (nI p)), some (.int (nI w)), none, none] [] _ _ _ _
  refine z_aload_n (i := 0) (q := 1) dX7_sailOnce_0 rfl rfl rfl ?_
  refine m_getR (r := 14) (q := 4) dX7_sailOnce_1 fl_X7_42 ⟨by decide, _, rfl, rfl⟩ rfl ?_
  refine m_getR (r := 16) (q := 7) dX7_sailOnce_4 fl_X7_150 ⟨by decide, _, rfl, rfl⟩ rfl ?_
  refine z_iload_n (i := 1) (q := 8) dX7_sailOnce_7 rfl rfl rfl ?_
  refine m_aald (kd := 5) (N := 4) (b := 25 + p) (q := 9) dX7_sailOnce_8 (by decide) (okPn (by decide) rfl (by omega) (by decide)) (nI_pos' (by omega)) rfl ?_
  refine z_astore_n (i := 3) (ls' := [_, _, _, _, _]) (q := 10) dX7_sailOnce_9 rfl (by decide) rfl rfl ?_
  refine z_aload_n (i := 0) (q := 11) dX7_sailOnce_10 rfl rfl rfl ?_
  refine m_getR (r := 14) (q := 14) dX7_sailOnce_11 fl_X7_42 ⟨by decide, _, rfl, rfl⟩ rfl ?_
  refine m_getR (r := 15) (q := 17) dX7_sailOnce_14 fl_X7_268 ⟨by decide, _, rfl, rfl⟩ rfl ?_
  refine z_iload_n (i := 2) (q := 18) dX7_sailOnce_17 rfl rfl rfl ?_
  refine m_aald (kd := 4) (N := 8) (b := 17 + w) (q := 19) dX7_sailOnce_18 (by decide) (okPn (by decide) rfl (by omega) (by decide)) (nI_pos' (by omega)) rfl ?_
  refine z_astore (i := 4) (ls' := [_, _, _, _, _]) (q := 21) dX7_sailOnce_19 (by decide) rfl rfl ?_
  refine z_aload (i := 4) (q := 23) dX7_sailOnce_21 rfl rfl ?_
  refine z_aload_n (i := 3) (q := 24) dX7_sailOnce_23 rfl rfl rfl ?_
  refine m_getI (q := 27) dX7_sailOnce_24 fl_X7_154 ⟨(isLea_14.2.2.2.2.2.2 p (by omega)).1, _, (isLea_14.2.2.2.2.2.2 p (by omega)).2, rfl⟩ rfl ?_
  refine m_callV_r (As := [_]) (q := 30) mk_X6_endsIn dX7_sailOnce_27 wd_484 wd_485 wd_486 (ci := 6) rfl ⟨(isLea_14.2.2.2.2.2.1 w (by omega)).1, _, (isLea_14.2.2.2.2.2.1 w (by omega)).2⟩ (ev_X6_endsIn _ _ _ _ (isLea_14.2.2.2.2.2.1 w (by omega))) rfl (by decide) rfl (Nat.zero_le _) (Nat.zero_le _) rfl ?_
  refine zb_eq (tgt := 42) (q := 33) dX7_sailOnce_30 (by decide) rfl (fun c1 => ?_) (fun c1 => ?_)
  · skip
    refine z_ldc (q := 44) dX7_sailOnce_42 wd_492 rfl ?_
    refine z_ireturn dX7_sailOnce_44 rfl rfl ?_ (Nat.le_refl _) (Nat.le_refl _)
    rfl
  · skip
    refine z_aload_n (i := 3) (q := 34) dX7_sailOnce_33 rfl rfl rfl ?_
    refine z_aload (i := 4) (q := 36) dX7_sailOnce_34 rfl rfl ?_
    refine m_callV_r (As := [_]) (q := 39) mk_X4_maySail dX7_sailOnce_36 wd_488 wd_489 wd_490 (ci := 4) rfl ⟨(isLea_14.2.2.2.2.2.2 p (by omega)).1, _, (isLea_14.2.2.2.2.2.2 p (by omega)).2⟩ (ev_X4_maySail _ _ _ _ (isLea_14.2.2.2.2.2.2 p (by omega)) (isLea_14.2.2.2.2.2.1 w (by omega))) rfl (by decide) rfl (Nat.zero_le _) (Nat.zero_le _) rfl ?_
    refine zb_ne (tgt := 45) (q := 42) dX7_sailOnce_39 (by decide) rfl (fun c2 => ?_) (fun c2 => ?_)
    · exact absurd (show cGo m p w from ⟨c1, c2⟩) h2
    · skip
      refine z_ldc (q := 44) dX7_sailOnce_42 wd_492 rfl ?_
      refine z_ireturn dX7_sailOnce_44 rfl rfl ?_ (Nat.le_refl _) (Nat.le_refl _)
      rfl
set_option maxHeartbeats 4000000 in
set_option maxRecDepth 100000 in
theorem ev_X7_sailOnce_full (d : Nat) (m : zm) (p : Nat) (w : Nat) (h2 : cGo m p w) (h3 : ¬ m.1 (25 + p) 3 + m.1 (17 + w) 2 ≤ 200) (hp : p < 4) (hw : w < 8) : zEv (d + 3) zM_X7_sailOnce 0 0 [.ref 0, .int (nI p), .int (nI w)] (lay m) (some (.int (-1000003)), lay (m)) := by
  refine zEv_of (by decide) (fun G => Nat.le_of_ble_eq_true rfl) ?_
  show ZW _ _ _ _ 0 [some (.ref 0), some (.int (nI p)), some (.int (nI w)), none, none] [] _ _ _ _
  refine z_aload_n (i := 0) (q := 1) dX7_sailOnce_0 rfl rfl rfl ?_
  refine m_getR (r := 14) (q := 4) dX7_sailOnce_1 fl_X7_42 ⟨by decide, _, rfl, rfl⟩ rfl ?_
  refine m_getR (r := 16) (q := 7) dX7_sailOnce_4 fl_X7_150 ⟨by decide, _, rfl, rfl⟩ rfl ?_
  refine z_iload_n (i := 1) (q := 8) dX7_sailOnce_7 rfl rfl rfl ?_
  refine m_aald (kd := 5) (N := 4) (b := 25 + p) (q := 9) dX7_sailOnce_8 (by decide) (okPn (by decide) rfl (by omega) (by decide)) (nI_pos' (by omega)) rfl ?_
  refine z_astore_n (i := 3) (ls' := [_, _, _, _, _]) (q := 10) dX7_sailOnce_9 rfl (by decide) rfl rfl ?_
  refine z_aload_n (i := 0) (q := 11) dX7_sailOnce_10 rfl rfl rfl ?_
  refine m_getR (r := 14) (q := 14) dX7_sailOnce_11 fl_X7_42 ⟨by decide, _, rfl, rfl⟩ rfl ?_
  refine m_getR (r := 15) (q := 17) dX7_sailOnce_14 fl_X7_268 ⟨by decide, _, rfl, rfl⟩ rfl ?_
  refine z_iload_n (i := 2) (q := 18) dX7_sailOnce_17 rfl rfl rfl ?_
  refine m_aald (kd := 4) (N := 8) (b := 17 + w) (q := 19) dX7_sailOnce_18 (by decide) (okPn (by decide) rfl (by omega) (by decide)) (nI_pos' (by omega)) rfl ?_
  refine z_astore (i := 4) (ls' := [_, _, _, _, _]) (q := 21) dX7_sailOnce_19 (by decide) rfl rfl ?_
  refine z_aload (i := 4) (q := 23) dX7_sailOnce_21 rfl rfl ?_
  refine z_aload_n (i := 3) (q := 24) dX7_sailOnce_23 rfl rfl rfl ?_
  refine m_getI (q := 27) dX7_sailOnce_24 fl_X7_154 ⟨(isLea_14.2.2.2.2.2.2 p (by omega)).1, _, (isLea_14.2.2.2.2.2.2 p (by omega)).2, rfl⟩ rfl ?_
  refine m_callV_r (As := [_]) (q := 30) mk_X6_endsIn dX7_sailOnce_27 wd_484 wd_485 wd_486 (ci := 6) rfl ⟨(isLea_14.2.2.2.2.2.1 w (by omega)).1, _, (isLea_14.2.2.2.2.2.1 w (by omega)).2⟩ (ev_X6_endsIn _ _ _ _ (isLea_14.2.2.2.2.2.1 w (by omega))) rfl (by decide) rfl (Nat.zero_le _) (Nat.zero_le _) rfl ?_
  refine zb_eq (tgt := 42) (q := 33) dX7_sailOnce_30 (by decide) rfl (fun c1 => ?_) (fun c1 => ?_)
  · exact absurd h2.1 c1
  · skip
    refine z_aload_n (i := 3) (q := 34) dX7_sailOnce_33 rfl rfl rfl ?_
    refine z_aload (i := 4) (q := 36) dX7_sailOnce_34 rfl rfl ?_
    refine m_callV_r (As := [_]) (q := 39) mk_X4_maySail dX7_sailOnce_36 wd_488 wd_489 wd_490 (ci := 4) rfl ⟨(isLea_14.2.2.2.2.2.2 p (by omega)).1, _, (isLea_14.2.2.2.2.2.2 p (by omega)).2⟩ (ev_X4_maySail _ _ _ _ (isLea_14.2.2.2.2.2.2 p (by omega)) (isLea_14.2.2.2.2.2.1 w (by omega))) rfl (by decide) rfl (Nat.zero_le _) (Nat.zero_le _) rfl ?_
    refine zb_ne (tgt := 45) (q := 42) dX7_sailOnce_39 (by decide) rfl (fun c2 => ?_) (fun c2 => ?_)
    · skip
      refine z_aload_n (i := 3) (q := 46) dX7_sailOnce_45 rfl rfl rfl ?_
      refine m_getI (q := 49) dX7_sailOnce_46 fl_X7_159 ⟨(isLea_14.2.2.2.2.2.2 p (by omega)).1, _, (isLea_14.2.2.2.2.2.2 p (by omega)).2, rfl⟩ rfl ?_
      refine z_aload (i := 4) (q := 51) dX7_sailOnce_49 rfl rfl ?_
      refine m_getI (q := 54) dX7_sailOnce_51 fl_X7_281 ⟨(isLea_14.2.2.2.2.2.1 w (by omega)).1, _, (isLea_14.2.2.2.2.2.1 w (by omega)).2, rfl⟩ rfl ?_
      refine z_iadd (q := 55) dX7_sailOnce_54 rfl ?_
      refine z_sipush (v := 200) (q := 58) dX7_sailOnce_55 (by decide) rfl ?_
      refine z_icmp_le (tgt := 64) (q := 61) dX7_sailOnce_58 (by decide) rfl (fun c3 => ?_) (fun c3 => ?_)
      · contradiction
      · skip
        refine z_ldc (q := 63) dX7_sailOnce_61 wd_319 rfl ?_
        refine z_ireturn dX7_sailOnce_63 rfl rfl ?_ (Nat.le_refl _) (Nat.le_refl _)
        rfl
    · exact absurd h2.2 c2
set_option maxHeartbeats 4000000 in
set_option maxRecDepth 100000 in
theorem ev_X7_sailOnce (d : Nat) (m : zm) (p : Nat) (w : Nat) (h2 : cGo m p w) (h3 : m.1 (25 + p) 3 + m.1 (17 + w) 2 ≤ 200) (hA : aOk m) (hp : p < 4) (hw : w < 8) : zEv (d + 3) zM_X7_sailOnce 0 0 [.ref 0, .int (nI p), .int (nI w)] (lay m) (some (.int (0)), lay (cSailOn (cKp m) (25 + p) (17 + w))) := by
  refine zEv_of (by decide) (fun G => Nat.le_of_ble_eq_true rfl) ?_
  show ZW _ _ _ _ 0 [some (.ref 0), some (.int (nI p)), some (.int (nI w)), none, none] [] _ _ _ _
  refine z_aload_n (i := 0) (q := 1) dX7_sailOnce_0 rfl rfl rfl ?_
  refine m_getR (r := 14) (q := 4) dX7_sailOnce_1 fl_X7_42 ⟨by decide, _, rfl, rfl⟩ rfl ?_
  refine m_getR (r := 16) (q := 7) dX7_sailOnce_4 fl_X7_150 ⟨by decide, _, rfl, rfl⟩ rfl ?_
  refine z_iload_n (i := 1) (q := 8) dX7_sailOnce_7 rfl rfl rfl ?_
  refine m_aald (kd := 5) (N := 4) (b := 25 + p) (q := 9) dX7_sailOnce_8 (by decide) (okPn (by decide) rfl (by omega) (by decide)) (nI_pos' (by omega)) rfl ?_
  refine z_astore_n (i := 3) (ls' := [_, _, _, _, _]) (q := 10) dX7_sailOnce_9 rfl (by decide) rfl rfl ?_
  refine z_aload_n (i := 0) (q := 11) dX7_sailOnce_10 rfl rfl rfl ?_
  refine m_getR (r := 14) (q := 14) dX7_sailOnce_11 fl_X7_42 ⟨by decide, _, rfl, rfl⟩ rfl ?_
  refine m_getR (r := 15) (q := 17) dX7_sailOnce_14 fl_X7_268 ⟨by decide, _, rfl, rfl⟩ rfl ?_
  refine z_iload_n (i := 2) (q := 18) dX7_sailOnce_17 rfl rfl rfl ?_
  refine m_aald (kd := 4) (N := 8) (b := 17 + w) (q := 19) dX7_sailOnce_18 (by decide) (okPn (by decide) rfl (by omega) (by decide)) (nI_pos' (by omega)) rfl ?_
  refine z_astore (i := 4) (ls' := [_, _, _, _, _]) (q := 21) dX7_sailOnce_19 (by decide) rfl rfl ?_
  refine z_aload (i := 4) (q := 23) dX7_sailOnce_21 rfl rfl ?_
  refine z_aload_n (i := 3) (q := 24) dX7_sailOnce_23 rfl rfl rfl ?_
  refine m_getI (q := 27) dX7_sailOnce_24 fl_X7_154 ⟨(isLea_14.2.2.2.2.2.2 p (by omega)).1, _, (isLea_14.2.2.2.2.2.2 p (by omega)).2, rfl⟩ rfl ?_
  refine m_callV_r (As := [_]) (q := 30) mk_X6_endsIn dX7_sailOnce_27 wd_484 wd_485 wd_486 (ci := 6) rfl ⟨(isLea_14.2.2.2.2.2.1 w (by omega)).1, _, (isLea_14.2.2.2.2.2.1 w (by omega)).2⟩ (ev_X6_endsIn _ _ _ _ (isLea_14.2.2.2.2.2.1 w (by omega))) rfl (by decide) rfl (Nat.zero_le _) (Nat.zero_le _) rfl ?_
  refine zb_eq (tgt := 42) (q := 33) dX7_sailOnce_30 (by decide) rfl (fun c1 => ?_) (fun c1 => ?_)
  · exact absurd h2.1 c1
  · skip
    refine z_aload_n (i := 3) (q := 34) dX7_sailOnce_33 rfl rfl rfl ?_
    refine z_aload (i := 4) (q := 36) dX7_sailOnce_34 rfl rfl ?_
    refine m_callV_r (As := [_]) (q := 39) mk_X4_maySail dX7_sailOnce_36 wd_488 wd_489 wd_490 (ci := 4) rfl ⟨(isLea_14.2.2.2.2.2.2 p (by omega)).1, _, (isLea_14.2.2.2.2.2.2 p (by omega)).2⟩ (ev_X4_maySail _ _ _ _ (isLea_14.2.2.2.2.2.2 p (by omega)) (isLea_14.2.2.2.2.2.1 w (by omega))) rfl (by decide) rfl (Nat.zero_le _) (Nat.zero_le _) rfl ?_
    refine zb_ne (tgt := 45) (q := 42) dX7_sailOnce_39 (by decide) rfl (fun c2 => ?_) (fun c2 => ?_)
    · skip
      refine z_aload_n (i := 3) (q := 46) dX7_sailOnce_45 rfl rfl rfl ?_
      refine m_getI (q := 49) dX7_sailOnce_46 fl_X7_159 ⟨(isLea_14.2.2.2.2.2.2 p (by omega)).1, _, (isLea_14.2.2.2.2.2.2 p (by omega)).2, rfl⟩ rfl ?_
      refine z_aload (i := 4) (q := 51) dX7_sailOnce_49 rfl rfl ?_
      refine m_getI (q := 54) dX7_sailOnce_51 fl_X7_281 ⟨(isLea_14.2.2.2.2.2.1 w (by omega)).1, _, (isLea_14.2.2.2.2.2.1 w (by omega)).2, rfl⟩ rfl ?_
      refine z_iadd (q := 55) dX7_sailOnce_54 rfl ?_
      refine z_sipush (v := 200) (q := 58) dX7_sailOnce_55 (by decide) rfl ?_
      refine z_icmp_le (tgt := 64) (q := 61) dX7_sailOnce_58 (by decide) rfl (fun c3 => ?_) (fun c3 => ?_)
      · skip
        refine z_aload_n (i := 0) (q := 65) dX7_sailOnce_64 rfl rfl rfl ?_
        refine m_getR (r := 46) (q := 68) dX7_sailOnce_65 fl_X7_60 ⟨by decide, _, rfl, rfl⟩ rfl ?_
        refine z_aload_n (i := 0) (q := 69) dX7_sailOnce_68 rfl rfl rfl ?_
        refine m_getR (r := 14) (q := 72) dX7_sailOnce_69 fl_X7_42 ⟨by decide, _, rfl, rfl⟩ rfl ?_
        refine m_callV_v (As := [_]) (q := 75) mk_X0_keep dX7_sailOnce_72 wd_493 wd_494 wd_495 (ci := 0) rfl ⟨by decide, _, rfl⟩ (ev_X0_keep _ _ _ _  hA.1 hA.2.1 hA.2.2.1 hA.2.2.2) rfl (by decide) rfl (Nat.zero_le _) (Nat.zero_le _) rfl ?_
        refine z_aload_n (i := 3) (q := 76) dX7_sailOnce_75 rfl rfl rfl ?_
        refine z_aload (i := 4) (q := 78) dX7_sailOnce_76 rfl rfl ?_
        refine m_callV_v (As := [_]) (q := 81) mk_X4_sailOn dX7_sailOnce_78 wd_502 wd_503 wd_504 (ci := 4) rfl ⟨(isLea_14.2.2.2.2.2.2 p (by omega)).1, _, (isLea_14.2.2.2.2.2.2 p (by omega)).2⟩ (ev_X4_sailOn _ _ _ _ (isLea_14.2.2.2.2.2.2 p (by omega)) (isLea_14.2.2.2.2.2.1 w (by omega))) rfl (by decide) rfl (Nat.zero_le _) (Nat.zero_le _) rfl ?_
        refine z_iconst (v := 0) (q := 82) dX7_sailOnce_81 (by decide) rfl ?_
        refine z_ireturn dX7_sailOnce_82 rfl rfl ?_ (Nat.le_refl _) (Nat.le_refl _)
        rfl
      · contradiction
    · exact absurd h2.2 c2
set_option maxHeartbeats 4000000 in
set_option maxRecDepth 100000 in
theorem ev_X7_sail_bad (d : Nat) (m : zm) (p : Int32) (w : Int32) (hb : (p < 0 ∨ m.1 14 3 - 1 < p) ∨ (w < 0 ∨ m.1 14 2 - 1 < w)) : zEv (d + 4) zM_X7_sail 0 0 [.ref 0, .int p, .int w] (lay m) (some (.int (-1000001)), lay (m)) := by
  refine zEv_of (by decide) (fun G => Nat.le_of_ble_eq_true rfl) ?_
  show ZW _ _ _ _ 0 [some (.ref 0), some (.int p), some (.int w), none] [] _ _ _ _
  refine z_aload_n (i := 0) (q := 1) dX7_sail_0 rfl rfl rfl ?_
  refine z_iload_n (i := 1) (q := 2) dX7_sail_1 rfl rfl rfl ?_
  refine m_callV_r (As := [_]) (q := 5) mk_X7_isNobody dX7_sail_2 wd_472 wd_474 wp_16 (ci := 7) rfl ⟨by decide, _, rfl⟩ (ev_X7_isNobody _ _ _) rfl (by decide) rfl (Nat.zero_le _) (Nat.zero_le _) rfl ?_
  refine zb_ne (tgt := 16) (q := 8) dX7_sail_5 (by decide) rfl (fun c1 => ?_) (fun c1 => ?_)
  · skip
    refine z_ldc (q := 18) dX7_sail_16 wd_279 rfl ?_
    refine z_ireturn dX7_sail_18 rfl rfl ?_ (Nat.le_refl _) (Nat.le_refl _)
    rfl
  · skip
    refine z_aload_n (i := 0) (q := 9) dX7_sail_8 rfl rfl rfl ?_
    refine z_iload_n (i := 2) (q := 10) dX7_sail_9 rfl rfl rfl ?_
    refine m_callV_r (As := [_]) (q := 13) mk_X7_isNoWay dX7_sail_10 wd_476 wd_478 wp_17 (ci := 7) rfl ⟨by decide, _, rfl⟩ (ev_X7_isNoWay _ _ _) rfl (by decide) rfl (Nat.zero_le _) (Nat.zero_le _) rfl ?_
    refine zb_eq (tgt := 19) (q := 16) dX7_sail_13 (by decide) rfl (fun c2 => ?_) (fun c2 => ?_)
    · exact absurd hb (fun q => q.elim c1 c2)
    · skip
      refine z_ldc (q := 18) dX7_sail_16 wd_279 rfl ?_
      refine z_ireturn dX7_sail_18 rfl rfl ?_ (Nat.le_refl _) (Nat.le_refl _)
      rfl
set_option maxHeartbeats 4000000 in
set_option maxRecDepth 100000 in
theorem ev_X7_sail_state (d : Nat) (m : zm) (p : Nat) (w : Nat) (hn : ¬ (nI p < 0 ∨ m.1 14 3 - 1 < nI p)) (hn2 : ¬ (nI w < 0 ∨ m.1 14 2 - 1 < nI w)) (h2 : ¬ cGo m p w) (hp : p < 4) (hw : w < 8) : zEv (d + 4) zM_X7_sail 0 0 [.ref 0, .int (nI p), .int (nI w)] (lay m) (some (.int (-1000002)), lay (m)) := by
  refine zEv_of (by decide) (fun G => Nat.le_of_ble_eq_true rfl) ?_
  show ZW _ _ _ _ 0 [some (.ref 0), some (.int (nI p)), some (.int (nI w)), none] [] _ _ _ _
  refine z_aload_n (i := 0) (q := 1) dX7_sail_0 rfl rfl rfl ?_
  refine z_iload_n (i := 1) (q := 2) dX7_sail_1 rfl rfl rfl ?_
  refine m_callV_r (As := [_]) (q := 5) mk_X7_isNobody dX7_sail_2 wd_472 wd_474 wp_16 (ci := 7) rfl ⟨by decide, _, rfl⟩ (ev_X7_isNobody _ _ _) rfl (by decide) rfl (Nat.zero_le _) (Nat.zero_le _) rfl ?_
  refine zb_ne (tgt := 16) (q := 8) dX7_sail_5 (by decide) rfl (fun c1 => ?_) (fun c1 => ?_)
  · contradiction
  · skip
    refine z_aload_n (i := 0) (q := 9) dX7_sail_8 rfl rfl rfl ?_
    refine z_iload_n (i := 2) (q := 10) dX7_sail_9 rfl rfl rfl ?_
    refine m_callV_r (As := [_]) (q := 13) mk_X7_isNoWay dX7_sail_10 wd_476 wd_478 wp_17 (ci := 7) rfl ⟨by decide, _, rfl⟩ (ev_X7_isNoWay _ _ _) rfl (by decide) rfl (Nat.zero_le _) (Nat.zero_le _) rfl ?_
    refine zb_eq (tgt := 19) (q := 16) dX7_sail_13 (by decide) rfl (fun c2 => ?_) (fun c2 => ?_)
    · skip
      refine z_aload_n (i := 0) (q := 20) dX7_sail_19 rfl rfl rfl ?_
      refine z_iload_n (i := 1) (q := 21) dX7_sail_20 rfl rfl rfl ?_
      refine z_iload_n (i := 2) (q := 22) dX7_sail_21 rfl rfl rfl ?_
      refine m_callV_r (As := [_, _]) (q := 25) mk_X7_sailOnce dX7_sail_22 wd_480 wd_482 wp_18 (ci := 7) rfl ⟨by decide, _, rfl⟩ (ev_X7_sailOnce_state _ m p w h2 hp hw) rfl (by decide) rfl (Nat.zero_le _) (Nat.zero_le _) rfl ?_
      refine z_istore_n (i := 3) (ls' := [_, _, _, _]) (q := 26) dX7_sail_25 rfl (by decide) rfl rfl ?_
      refine z_iload_n (i := 3) (q := 27) dX7_sail_26 rfl rfl rfl ?_
      refine z_if_eq (tgt := 34) (q := 30) dX7_sail_27 (by decide) rfl (fun c3 => ?_) (fun c3 => ?_)
      · exact absurd c3 (by decide)
      · skip
        refine z_iload_n (i := 3) (q := 31) dX7_sail_30 rfl rfl rfl ?_
        refine z_goto (tgt := 46) dX7_sail_31 (by decide) ?_
        refine z_ireturn dX7_sail_46 rfl rfl ?_ (Nat.le_refl _) (Nat.le_refl _)
        rfl
    · contradiction
set_option maxHeartbeats 4000000 in
set_option maxRecDepth 100000 in
theorem ev_X7_sail_full (d : Nat) (m : zm) (p : Nat) (w : Nat) (hn : ¬ (nI p < 0 ∨ m.1 14 3 - 1 < nI p)) (hn2 : ¬ (nI w < 0 ∨ m.1 14 2 - 1 < nI w)) (h2 : cGo m p w) (h3 : ¬ m.1 (25 + p) 3 + m.1 (17 + w) 2 ≤ 200) (hp : p < 4) (hw : w < 8) : zEv (d + 4) zM_X7_sail 0 0 [.ref 0, .int (nI p), .int (nI w)] (lay m) (some (.int (-1000003)), lay (m)) := by
  refine zEv_of (by decide) (fun G => Nat.le_of_ble_eq_true rfl) ?_
  show ZW _ _ _ _ 0 [some (.ref 0), some (.int (nI p)), some (.int (nI w)), none] [] _ _ _ _
  refine z_aload_n (i := 0) (q := 1) dX7_sail_0 rfl rfl rfl ?_
  refine z_iload_n (i := 1) (q := 2) dX7_sail_1 rfl rfl rfl ?_
  refine m_callV_r (As := [_]) (q := 5) mk_X7_isNobody dX7_sail_2 wd_472 wd_474 wp_16 (ci := 7) rfl ⟨by decide, _, rfl⟩ (ev_X7_isNobody _ _ _) rfl (by decide) rfl (Nat.zero_le _) (Nat.zero_le _) rfl ?_
  refine zb_ne (tgt := 16) (q := 8) dX7_sail_5 (by decide) rfl (fun c1 => ?_) (fun c1 => ?_)
  · contradiction
  · skip
    refine z_aload_n (i := 0) (q := 9) dX7_sail_8 rfl rfl rfl ?_
    refine z_iload_n (i := 2) (q := 10) dX7_sail_9 rfl rfl rfl ?_
    refine m_callV_r (As := [_]) (q := 13) mk_X7_isNoWay dX7_sail_10 wd_476 wd_478 wp_17 (ci := 7) rfl ⟨by decide, _, rfl⟩ (ev_X7_isNoWay _ _ _) rfl (by decide) rfl (Nat.zero_le _) (Nat.zero_le _) rfl ?_
    refine zb_eq (tgt := 19) (q := 16) dX7_sail_13 (by decide) rfl (fun c2 => ?_) (fun c2 => ?_)
    · skip
      refine z_aload_n (i := 0) (q := 20) dX7_sail_19 rfl rfl rfl ?_
      refine z_iload_n (i := 1) (q := 21) dX7_sail_20 rfl rfl rfl ?_
      refine z_iload_n (i := 2) (q := 22) dX7_sail_21 rfl rfl rfl ?_
      refine m_callV_r (As := [_, _]) (q := 25) mk_X7_sailOnce dX7_sail_22 wd_480 wd_482 wp_18 (ci := 7) rfl ⟨by decide, _, rfl⟩ (ev_X7_sailOnce_full _ m p w h2 h3 hp hw) rfl (by decide) rfl (Nat.zero_le _) (Nat.zero_le _) rfl ?_
      refine z_istore_n (i := 3) (ls' := [_, _, _, _]) (q := 26) dX7_sail_25 rfl (by decide) rfl rfl ?_
      refine z_iload_n (i := 3) (q := 27) dX7_sail_26 rfl rfl rfl ?_
      refine z_if_eq (tgt := 34) (q := 30) dX7_sail_27 (by decide) rfl (fun c3 => ?_) (fun c3 => ?_)
      · exact absurd c3 (by decide)
      · skip
        refine z_iload_n (i := 3) (q := 31) dX7_sail_30 rfl rfl rfl ?_
        refine z_goto (tgt := 46) dX7_sail_31 (by decide) ?_
        refine z_ireturn dX7_sail_46 rfl rfl ?_ (Nat.le_refl _) (Nat.le_refl _)
        rfl
    · contradiction
set_option maxHeartbeats 4000000 in
set_option maxRecDepth 100000 in
theorem ev_X7_sail_ok (d : Nat) (m : zm) (p : Nat) (w : Nat) (hn : ¬ (nI p < 0 ∨ m.1 14 3 - 1 < nI p)) (hn2 : ¬ (nI w < 0 ∨ m.1 14 2 - 1 < nI w)) (h2 : cGo m p w) (h3 : m.1 (25 + p) 3 + m.1 (17 + w) 2 ≤ 200) (hA : aOk m) (hp : p < 4) (hw : w < 8) : zEv (d + 4) zM_X7_sail 0 0 [.ref 0, .int (nI p), .int (nI w)] (lay m) (some (.int ((cSailOn (cKp m) (25 + p) (17 + w)).1 (25 + p) 2)), lay (cSailOn (cKp m) (25 + p) (17 + w))) := by
  refine zEv_of (by decide) (fun G => Nat.le_of_ble_eq_true rfl) ?_
  show ZW _ _ _ _ 0 [some (.ref 0), some (.int (nI p)), some (.int (nI w)), none] [] _ _ _ _
  refine z_aload_n (i := 0) (q := 1) dX7_sail_0 rfl rfl rfl ?_
  refine z_iload_n (i := 1) (q := 2) dX7_sail_1 rfl rfl rfl ?_
  refine m_callV_r (As := [_]) (q := 5) mk_X7_isNobody dX7_sail_2 wd_472 wd_474 wp_16 (ci := 7) rfl ⟨by decide, _, rfl⟩ (ev_X7_isNobody _ _ _) rfl (by decide) rfl (Nat.zero_le _) (Nat.zero_le _) rfl ?_
  refine zb_ne (tgt := 16) (q := 8) dX7_sail_5 (by decide) rfl (fun c1 => ?_) (fun c1 => ?_)
  · contradiction
  · skip
    refine z_aload_n (i := 0) (q := 9) dX7_sail_8 rfl rfl rfl ?_
    refine z_iload_n (i := 2) (q := 10) dX7_sail_9 rfl rfl rfl ?_
    refine m_callV_r (As := [_]) (q := 13) mk_X7_isNoWay dX7_sail_10 wd_476 wd_478 wp_17 (ci := 7) rfl ⟨by decide, _, rfl⟩ (ev_X7_isNoWay _ _ _) rfl (by decide) rfl (Nat.zero_le _) (Nat.zero_le _) rfl ?_
    refine zb_eq (tgt := 19) (q := 16) dX7_sail_13 (by decide) rfl (fun c2 => ?_) (fun c2 => ?_)
    · skip
      refine z_aload_n (i := 0) (q := 20) dX7_sail_19 rfl rfl rfl ?_
      refine z_iload_n (i := 1) (q := 21) dX7_sail_20 rfl rfl rfl ?_
      refine z_iload_n (i := 2) (q := 22) dX7_sail_21 rfl rfl rfl ?_
      refine m_callV_r (As := [_, _]) (q := 25) mk_X7_sailOnce dX7_sail_22 wd_480 wd_482 wp_18 (ci := 7) rfl ⟨by decide, _, rfl⟩ (ev_X7_sailOnce _ m p w h2 h3 hA hp hw) rfl (by decide) rfl (Nat.zero_le _) (Nat.zero_le _) rfl ?_
      refine z_istore_n (i := 3) (ls' := [_, _, _, _]) (q := 26) dX7_sail_25 rfl (by decide) rfl rfl ?_
      refine z_iload_n (i := 3) (q := 27) dX7_sail_26 rfl rfl rfl ?_
      refine z_if_eq (tgt := 34) (q := 30) dX7_sail_27 (by decide) rfl (fun c3 => ?_) (fun c3 => ?_)
      · skip
        refine z_aload_n (i := 0) (q := 35) dX7_sail_34 rfl rfl rfl ?_
        refine m_getR (r := 14) (q := 38) dX7_sail_35 fl_X7_42 ⟨by decide, _, rfl, rfl⟩ rfl ?_
        refine m_getR (r := 16) (q := 41) dX7_sail_38 fl_X7_150 ⟨by decide, _, rfl, rfl⟩ rfl ?_
        refine z_iload_n (i := 1) (q := 42) dX7_sail_41 rfl rfl rfl ?_
        refine m_aald (kd := 5) (N := 4) (b := 25 + p) (q := 43) dX7_sail_42 (by decide) (okPn (by decide) rfl (by omega) (by decide)) (nI_pos' (by omega)) rfl ?_
        refine m_getI (q := 46) dX7_sail_43 fl_X7_154 ⟨(isLea_14.2.2.2.2.2.2 p (by omega)).1, _, (isLea_14.2.2.2.2.2.2 p (by omega)).2, rfl⟩ rfl ?_
        refine z_ireturn dX7_sail_46 rfl rfl ?_ (Nat.le_refl _) (Nat.le_refl _)
        rfl
      · exact absurd c3 (by decide)
    · contradiction
set_option maxHeartbeats 4000000 in
set_option maxRecDepth 100000 in
theorem ev_X7_stay_bad (d : Nat) (m : zm) (p : Int32) (z : Int32) (hb : (p < 0 ∨ m.1 14 3 - 1 < p) ∨ (z < 1 ∨ 99 < z)) : zEv (d + 2) zM_X7_stay 0 0 [.ref 0, .int p, .int z] (lay m) (some (.int (-1000001)), lay (m)) := by
  refine zEv_of (by decide) (fun G => Nat.le_of_ble_eq_true rfl) ?_
  show ZW _ _ _ _ 0 [some (.ref 0), some (.int p), some (.int z), none] [] _ _ _ _
  refine z_aload_n (i := 0) (q := 1) dX7_stay_0 rfl rfl rfl ?_
  refine z_iload_n (i := 1) (q := 2) dX7_stay_1 rfl rfl rfl ?_
  refine m_callV_r (As := [_]) (q := 5) mk_X7_isNobody dX7_stay_2 wd_472 wd_474 wp_16 (ci := 7) rfl ⟨by decide, _, rfl⟩ (ev_X7_isNobody _ _ _) rfl (by decide) rfl (Nat.zero_le _) (Nat.zero_le _) rfl ?_
  refine zb_ne (tgt := 18) (q := 8) dX7_stay_5 (by decide) rfl (fun c1 => ?_) (fun c1 => ?_)
  · skip
    refine z_ldc (q := 20) dX7_stay_18 wd_279 rfl ?_
    refine z_ireturn dX7_stay_20 rfl rfl ?_ (Nat.le_refl _) (Nat.le_refl _)
    rfl
  · skip
    refine z_iload_n (i := 2) (q := 9) dX7_stay_8 rfl rfl rfl ?_
    refine z_iconst (v := 1) (q := 10) dX7_stay_9 (by decide) rfl ?_
    refine z_bipush (v := 99) (q := 12) dX7_stay_10 (by decide) rfl ?_
    refine m_callS_r (As := [_, _, _]) (q := 15) mk_X7_isOutside dX7_stay_12 wd_276 wd_277 (ev_X7_isOutside _ _ _ _ _) rfl (by decide) rfl (Nat.zero_le _) (Nat.zero_le _) rfl ?_
    refine zb_eq (tgt := 21) (q := 18) dX7_stay_15 (by decide) rfl (fun c2 => ?_) (fun c2 => ?_)
    · exact absurd hb (fun q => q.elim c1 c2)
    · skip
      refine z_ldc (q := 20) dX7_stay_18 wd_279 rfl ?_
      refine z_ireturn dX7_stay_20 rfl rfl ?_ (Nat.le_refl _) (Nat.le_refl _)
      rfl
set_option maxHeartbeats 4000000 in
set_option maxRecDepth 100000 in
theorem ev_X7_stay_full (d : Nat) (m : zm) (p : Nat) (z : Int32) (hn : ¬ (nI p < 0 ∨ m.1 14 3 - 1 < nI p)) (h2 : ¬ (z < 1 ∨ 99 < z)) (h3 : ¬ m.1 (25 + p) 3 + z ≤ 200) (hp : p < 4) : zEv (d + 2) zM_X7_stay 0 0 [.ref 0, .int (nI p), .int z] (lay m) (some (.int (-1000003)), lay (m)) := by
  refine zEv_of (by decide) (fun G => Nat.le_of_ble_eq_true rfl) ?_
  show ZW _ _ _ _ 0 [some (.ref 0), some (.int (nI p)), some (.int z), none] [] _ _ _ _
  refine z_aload_n (i := 0) (q := 1) dX7_stay_0 rfl rfl rfl ?_
  refine z_iload_n (i := 1) (q := 2) dX7_stay_1 rfl rfl rfl ?_
  refine m_callV_r (As := [_]) (q := 5) mk_X7_isNobody dX7_stay_2 wd_472 wd_474 wp_16 (ci := 7) rfl ⟨by decide, _, rfl⟩ (ev_X7_isNobody _ _ _) rfl (by decide) rfl (Nat.zero_le _) (Nat.zero_le _) rfl ?_
  refine zb_ne (tgt := 18) (q := 8) dX7_stay_5 (by decide) rfl (fun c1 => ?_) (fun c1 => ?_)
  · contradiction
  · skip
    refine z_iload_n (i := 2) (q := 9) dX7_stay_8 rfl rfl rfl ?_
    refine z_iconst (v := 1) (q := 10) dX7_stay_9 (by decide) rfl ?_
    refine z_bipush (v := 99) (q := 12) dX7_stay_10 (by decide) rfl ?_
    refine m_callS_r (As := [_, _, _]) (q := 15) mk_X7_isOutside dX7_stay_12 wd_276 wd_277 (ev_X7_isOutside _ _ _ _ _) rfl (by decide) rfl (Nat.zero_le _) (Nat.zero_le _) rfl ?_
    refine zb_eq (tgt := 21) (q := 18) dX7_stay_15 (by decide) rfl (fun c2 => ?_) (fun c2 => ?_)
    · skip
      refine z_aload_n (i := 0) (q := 22) dX7_stay_21 rfl rfl rfl ?_
      refine m_getR (r := 14) (q := 25) dX7_stay_22 fl_X7_42 ⟨by decide, _, rfl, rfl⟩ rfl ?_
      refine m_getR (r := 16) (q := 28) dX7_stay_25 fl_X7_150 ⟨by decide, _, rfl, rfl⟩ rfl ?_
      refine z_iload_n (i := 1) (q := 29) dX7_stay_28 rfl rfl rfl ?_
      refine m_aald (kd := 5) (N := 4) (b := 25 + p) (q := 30) dX7_stay_29 (by decide) (okPn (by decide) rfl (by omega) (by decide)) (nI_pos' (by omega)) rfl ?_
      refine z_astore_n (i := 3) (ls' := [_, _, _, _]) (q := 31) dX7_stay_30 rfl (by decide) rfl rfl ?_
      refine z_aload_n (i := 3) (q := 32) dX7_stay_31 rfl rfl rfl ?_
      refine m_getI (q := 35) dX7_stay_32 fl_X7_159 ⟨(isLea_14.2.2.2.2.2.2 p (by omega)).1, _, (isLea_14.2.2.2.2.2.2 p (by omega)).2, rfl⟩ rfl ?_
      refine z_iload_n (i := 2) (q := 36) dX7_stay_35 rfl rfl rfl ?_
      refine z_iadd (q := 37) dX7_stay_36 rfl ?_
      refine z_sipush (v := 200) (q := 40) dX7_stay_37 (by decide) rfl ?_
      refine z_icmp_le (tgt := 46) (q := 43) dX7_stay_40 (by decide) rfl (fun c3 => ?_) (fun c3 => ?_)
      · contradiction
      · skip
        refine z_ldc (q := 45) dX7_stay_43 wd_319 rfl ?_
        refine z_ireturn dX7_stay_45 rfl rfl ?_ (Nat.le_refl _) (Nat.le_refl _)
        rfl
    · contradiction
set_option maxHeartbeats 4000000 in
set_option maxRecDepth 100000 in
theorem ev_X7_stay (d : Nat) (m : zm) (p : Nat) (z : Int32) (hn : ¬ (nI p < 0 ∨ m.1 14 3 - 1 < nI p)) (h2 : ¬ (z < 1 ∨ 99 < z)) (h3 : m.1 (25 + p) 3 + z ≤ 200) (hA : aOk m) (hp : p < 4) : zEv (d + 2) zM_X7_stay 0 0 [.ref 0, .int (nI p), .int z] (lay m) (some (.int ((cStay (cKp m) (25 + p) z).1 (25 + p) 4)), lay (cStay (cKp m) (25 + p) z)) := by
  refine zEv_of (by decide) (fun G => Nat.le_of_ble_eq_true rfl) ?_
  show ZW _ _ _ _ 0 [some (.ref 0), some (.int (nI p)), some (.int z), none] [] _ _ _ _
  refine z_aload_n (i := 0) (q := 1) dX7_stay_0 rfl rfl rfl ?_
  refine z_iload_n (i := 1) (q := 2) dX7_stay_1 rfl rfl rfl ?_
  refine m_callV_r (As := [_]) (q := 5) mk_X7_isNobody dX7_stay_2 wd_472 wd_474 wp_16 (ci := 7) rfl ⟨by decide, _, rfl⟩ (ev_X7_isNobody _ _ _) rfl (by decide) rfl (Nat.zero_le _) (Nat.zero_le _) rfl ?_
  refine zb_ne (tgt := 18) (q := 8) dX7_stay_5 (by decide) rfl (fun c1 => ?_) (fun c1 => ?_)
  · contradiction
  · skip
    refine z_iload_n (i := 2) (q := 9) dX7_stay_8 rfl rfl rfl ?_
    refine z_iconst (v := 1) (q := 10) dX7_stay_9 (by decide) rfl ?_
    refine z_bipush (v := 99) (q := 12) dX7_stay_10 (by decide) rfl ?_
    refine m_callS_r (As := [_, _, _]) (q := 15) mk_X7_isOutside dX7_stay_12 wd_276 wd_277 (ev_X7_isOutside _ _ _ _ _) rfl (by decide) rfl (Nat.zero_le _) (Nat.zero_le _) rfl ?_
    refine zb_eq (tgt := 21) (q := 18) dX7_stay_15 (by decide) rfl (fun c2 => ?_) (fun c2 => ?_)
    · skip
      refine z_aload_n (i := 0) (q := 22) dX7_stay_21 rfl rfl rfl ?_
      refine m_getR (r := 14) (q := 25) dX7_stay_22 fl_X7_42 ⟨by decide, _, rfl, rfl⟩ rfl ?_
      refine m_getR (r := 16) (q := 28) dX7_stay_25 fl_X7_150 ⟨by decide, _, rfl, rfl⟩ rfl ?_
      refine z_iload_n (i := 1) (q := 29) dX7_stay_28 rfl rfl rfl ?_
      refine m_aald (kd := 5) (N := 4) (b := 25 + p) (q := 30) dX7_stay_29 (by decide) (okPn (by decide) rfl (by omega) (by decide)) (nI_pos' (by omega)) rfl ?_
      refine z_astore_n (i := 3) (ls' := [_, _, _, _]) (q := 31) dX7_stay_30 rfl (by decide) rfl rfl ?_
      refine z_aload_n (i := 3) (q := 32) dX7_stay_31 rfl rfl rfl ?_
      refine m_getI (q := 35) dX7_stay_32 fl_X7_159 ⟨(isLea_14.2.2.2.2.2.2 p (by omega)).1, _, (isLea_14.2.2.2.2.2.2 p (by omega)).2, rfl⟩ rfl ?_
      refine z_iload_n (i := 2) (q := 36) dX7_stay_35 rfl rfl rfl ?_
      refine z_iadd (q := 37) dX7_stay_36 rfl ?_
      refine z_sipush (v := 200) (q := 40) dX7_stay_37 (by decide) rfl ?_
      refine z_icmp_le (tgt := 46) (q := 43) dX7_stay_40 (by decide) rfl (fun c3 => ?_) (fun c3 => ?_)
      · skip
        refine z_aload_n (i := 0) (q := 47) dX7_stay_46 rfl rfl rfl ?_
        refine m_getR (r := 46) (q := 50) dX7_stay_47 fl_X7_60 ⟨by decide, _, rfl, rfl⟩ rfl ?_
        refine z_aload_n (i := 0) (q := 51) dX7_stay_50 rfl rfl rfl ?_
        refine m_getR (r := 14) (q := 54) dX7_stay_51 fl_X7_42 ⟨by decide, _, rfl, rfl⟩ rfl ?_
        refine m_callV_v (As := [_]) (q := 57) mk_X0_keep dX7_stay_54 wd_493 wd_494 wd_495 (ci := 0) rfl ⟨by decide, _, rfl⟩ (ev_X0_keep _ _ _ _  hA.1 hA.2.1 hA.2.2.1 hA.2.2.2) rfl (by decide) rfl (Nat.zero_le _) (Nat.zero_le _) rfl ?_
        refine z_aload_n (i := 3) (q := 58) dX7_stay_57 rfl rfl rfl ?_
        refine z_iload_n (i := 2) (q := 59) dX7_stay_58 rfl rfl rfl ?_
        refine m_callV_v (As := [_]) (q := 62) mk_X4_stayFor dX7_stay_59 wd_525 wd_526 wd_527 (ci := 4) rfl ⟨(isLea_14.2.2.2.2.2.2 p (by omega)).1, _, (isLea_14.2.2.2.2.2.2 p (by omega)).2⟩ (ev_X4_stayFor _ _ _ _ (isLea_14.2.2.2.2.2.2 p (by omega))) rfl (by decide) rfl (Nat.zero_le _) (Nat.zero_le _) rfl ?_
        refine z_aload_n (i := 3) (q := 63) dX7_stay_62 rfl rfl rfl ?_
        refine m_getI (q := 66) dX7_stay_63 fl_X7_169 ⟨(isLea_14.2.2.2.2.2.2 p (by omega)).1, _, (isLea_14.2.2.2.2.2.2 p (by omega)).2, rfl⟩ rfl ?_
        refine z_ireturn dX7_stay_66 rfl rfl ?_ (Nat.le_refl _) (Nat.le_refl _)
        rfl
      · contradiction
    · contradiction
set_option maxHeartbeats 4000000 in
set_option maxRecDepth 100000 in
theorem ev_X7_meet_bad (d : Nat) (m : zm) (a : Int32) (b : Int32) (hb : (a < 0 ∨ m.1 14 3 - 1 < a) ∨ (b < 0 ∨ m.1 14 3 - 1 < b) ∨ a = b) : zEv (d + 2) zM_X7_meet 0 0 [.ref 0, .int a, .int b] (lay m) (some (.int (-1000001)), lay (m)) := by
  refine zEv_of (by decide) (fun G => Nat.le_of_ble_eq_true rfl) ?_
  show ZW _ _ _ _ 0 [some (.ref 0), some (.int a), some (.int b), none, none, none] [] _ _ _ _
  refine z_aload_n (i := 0) (q := 1) dX7_meet_0 rfl rfl rfl ?_
  refine z_iload_n (i := 1) (q := 2) dX7_meet_1 rfl rfl rfl ?_
  refine m_callV_r (As := [_]) (q := 5) mk_X7_isNobody dX7_meet_2 wd_472 wd_474 wp_16 (ci := 7) rfl ⟨by decide, _, rfl⟩ (ev_X7_isNobody _ _ _) rfl (by decide) rfl (Nat.zero_le _) (Nat.zero_le _) rfl ?_
  refine zb_ne (tgt := 21) (q := 8) dX7_meet_5 (by decide) rfl (fun c1 => ?_) (fun c1 => ?_)
  · skip
    refine z_ldc (q := 23) dX7_meet_21 wd_279 rfl ?_
    refine z_ireturn dX7_meet_23 rfl rfl ?_ (Nat.le_refl _) (Nat.le_refl _)
    rfl
  · skip
    refine z_aload_n (i := 0) (q := 9) dX7_meet_8 rfl rfl rfl ?_
    refine z_iload_n (i := 2) (q := 10) dX7_meet_9 rfl rfl rfl ?_
    refine m_callV_r (As := [_]) (q := 13) mk_X7_isNobody dX7_meet_10 wd_472 wd_474 wp_16 (ci := 7) rfl ⟨by decide, _, rfl⟩ (ev_X7_isNobody _ _ _) rfl (by decide) rfl (Nat.zero_le _) (Nat.zero_le _) rfl ?_
    refine zb_ne (tgt := 21) (q := 16) dX7_meet_13 (by decide) rfl (fun c2 => ?_) (fun c2 => ?_)
    · skip
      refine z_ldc (q := 23) dX7_meet_21 wd_279 rfl ?_
      refine z_ireturn dX7_meet_23 rfl rfl ?_ (Nat.le_refl _) (Nat.le_refl _)
      rfl
    · skip
      refine z_iload_n (i := 1) (q := 17) dX7_meet_16 rfl rfl rfl ?_
      refine z_iload_n (i := 2) (q := 18) dX7_meet_17 rfl rfl rfl ?_
      refine z_icmp_ne (tgt := 24) (q := 21) dX7_meet_18 (by decide) rfl (fun c3 => ?_) (fun c3 => ?_)
      · exact absurd hb (fun q => q.elim c1 (fun q => q.elim c2 c3))
      · skip
        refine z_ldc (q := 23) dX7_meet_21 wd_279 rfl ?_
        refine z_ireturn dX7_meet_23 rfl rfl ?_ (Nat.le_refl _) (Nat.le_refl _)
        rfl
set_option maxHeartbeats 4000000 in
set_option maxRecDepth 100000 in
theorem ev_X7_meet_state (d : Nat) (m : zm) (a : Nat) (b : Nat) (hn : ¬ (nI a < 0 ∨ m.1 14 3 - 1 < nI a)) (hn2 : ¬ (nI b < 0 ∨ m.1 14 3 - 1 < nI b)) (hab : ¬ nI a = nI b) (h3 : ¬ m.1 (25 + a) 2 = m.1 (25 + b) 2) (ha : a < 4) (hb : b < 4) : zEv (d + 2) zM_X7_meet 0 0 [.ref 0, .int (nI a), .int (nI b)] (lay m) (some (.int (-1000002)), lay (m)) := by
  refine zEv_of (by decide) (fun G => Nat.le_of_ble_eq_true rfl) ?_
  show ZW _ _ _ _ 0 [some (.ref 0), some (.int (nI a)), some (.int (nI b)), none, none, none] [] _ _ _ _
  refine z_aload_n (i := 0) (q := 1) dX7_meet_0 rfl rfl rfl ?_
  refine z_iload_n (i := 1) (q := 2) dX7_meet_1 rfl rfl rfl ?_
  refine m_callV_r (As := [_]) (q := 5) mk_X7_isNobody dX7_meet_2 wd_472 wd_474 wp_16 (ci := 7) rfl ⟨by decide, _, rfl⟩ (ev_X7_isNobody _ _ _) rfl (by decide) rfl (Nat.zero_le _) (Nat.zero_le _) rfl ?_
  refine zb_ne (tgt := 21) (q := 8) dX7_meet_5 (by decide) rfl (fun c1 => ?_) (fun c1 => ?_)
  · contradiction
  · skip
    refine z_aload_n (i := 0) (q := 9) dX7_meet_8 rfl rfl rfl ?_
    refine z_iload_n (i := 2) (q := 10) dX7_meet_9 rfl rfl rfl ?_
    refine m_callV_r (As := [_]) (q := 13) mk_X7_isNobody dX7_meet_10 wd_472 wd_474 wp_16 (ci := 7) rfl ⟨by decide, _, rfl⟩ (ev_X7_isNobody _ _ _) rfl (by decide) rfl (Nat.zero_le _) (Nat.zero_le _) rfl ?_
    refine zb_ne (tgt := 21) (q := 16) dX7_meet_13 (by decide) rfl (fun c2 => ?_) (fun c2 => ?_)
    · contradiction
    · skip
      refine z_iload_n (i := 1) (q := 17) dX7_meet_16 rfl rfl rfl ?_
      refine z_iload_n (i := 2) (q := 18) dX7_meet_17 rfl rfl rfl ?_
      refine z_icmp_ne (tgt := 24) (q := 21) dX7_meet_18 (by decide) rfl (fun c3 => ?_) (fun c3 => ?_)
      · skip
        refine z_aload_n (i := 0) (q := 25) dX7_meet_24 rfl rfl rfl ?_
        refine m_getR (r := 14) (q := 28) dX7_meet_25 fl_X7_42 ⟨by decide, _, rfl, rfl⟩ rfl ?_
        refine m_getR (r := 16) (q := 31) dX7_meet_28 fl_X7_150 ⟨by decide, _, rfl, rfl⟩ rfl ?_
        refine z_iload_n (i := 1) (q := 32) dX7_meet_31 rfl rfl rfl ?_
        refine m_aald (kd := 5) (N := 4) (b := 25 + a) (q := 33) dX7_meet_32 (by decide) (okPn (by decide) rfl (by omega) (by decide)) (nI_pos' (by omega)) rfl ?_
        refine z_astore_n (i := 3) (ls' := [_, _, _, _, _, _]) (q := 34) dX7_meet_33 rfl (by decide) rfl rfl ?_
        refine z_aload_n (i := 0) (q := 35) dX7_meet_34 rfl rfl rfl ?_
        refine m_getR (r := 14) (q := 38) dX7_meet_35 fl_X7_42 ⟨by decide, _, rfl, rfl⟩ rfl ?_
        refine m_getR (r := 16) (q := 41) dX7_meet_38 fl_X7_150 ⟨by decide, _, rfl, rfl⟩ rfl ?_
        refine z_iload_n (i := 2) (q := 42) dX7_meet_41 rfl rfl rfl ?_
        refine m_aald (kd := 5) (N := 4) (b := 25 + b) (q := 43) dX7_meet_42 (by decide) (okPn (by decide) rfl (by omega) (by decide)) (nI_pos' (by omega)) rfl ?_
        refine z_astore (i := 4) (ls' := [_, _, _, _, _, _]) (q := 45) dX7_meet_43 (by decide) rfl rfl ?_
        refine z_aload_n (i := 3) (q := 46) dX7_meet_45 rfl rfl rfl ?_
        refine m_getI (q := 49) dX7_meet_46 fl_X7_154 ⟨(isLea_14.2.2.2.2.2.2 a (by omega)).1, _, (isLea_14.2.2.2.2.2.2 a (by omega)).2, rfl⟩ rfl ?_
        refine z_aload (i := 4) (q := 51) dX7_meet_49 rfl rfl ?_
        refine m_getI (q := 54) dX7_meet_51 fl_X7_154 ⟨(isLea_14.2.2.2.2.2.2 b (by omega)).1, _, (isLea_14.2.2.2.2.2.2 b (by omega)).2, rfl⟩ rfl ?_
        refine z_icmp_eq (tgt := 60) (q := 57) dX7_meet_54 (by decide) rfl (fun c4 => ?_) (fun c4 => ?_)
        · contradiction
        · skip
          refine z_ldc (q := 59) dX7_meet_57 wd_492 rfl ?_
          refine z_ireturn dX7_meet_59 rfl rfl ?_ (Nat.le_refl _) (Nat.le_refl _)
          rfl
      · contradiction
def cMeet (m : zm) (x y : Nat) : zm :=
  let m1 := cKp m
  let t : Int32 := if m1.1 x 3 < m1.1 y 3 then m1.1 y 3 else m1.1 x 3
  let m2 := cStay m1 x (t - m1.1 x 3)
  cStay m2 y (t - m2.1 y 3)
set_option maxHeartbeats 4000000 in
set_option maxRecDepth 100000 in
theorem ev_X7_meet (d : Nat) (m : zm) (a : Nat) (b : Nat) (hn : ¬ (nI a < 0 ∨ m.1 14 3 - 1 < nI a)) (hn2 : ¬ (nI b < 0 ∨ m.1 14 3 - 1 < nI b)) (hab : ¬ nI a = nI b) (h3 : m.1 (25 + a) 2 = m.1 (25 + b) 2) (hA : aOk m) (ha : a < 4) (hb : b < 4) : zEv (d + 2) zM_X7_meet 0 0 [.ref 0, .int (nI a), .int (nI b)] (lay m) (some (.int ((cMeet m (25 + a) (25 + b)).1 (25 + a) 4 - (cMeet m (25 + a) (25 + b)).1 (25 + b) 4)), lay (cMeet m (25 + a) (25 + b))) := by
  refine zEv_of (by decide) (fun G => Nat.le_of_ble_eq_true rfl) ?_
  show ZW _ _ _ _ 0 [some (.ref 0), some (.int (nI a)), some (.int (nI b)), none, none, none] [] _ _ _ _
  refine z_aload_n (i := 0) (q := 1) dX7_meet_0 rfl rfl rfl ?_
  refine z_iload_n (i := 1) (q := 2) dX7_meet_1 rfl rfl rfl ?_
  refine m_callV_r (As := [_]) (q := 5) mk_X7_isNobody dX7_meet_2 wd_472 wd_474 wp_16 (ci := 7) rfl ⟨by decide, _, rfl⟩ (ev_X7_isNobody _ _ _) rfl (by decide) rfl (Nat.zero_le _) (Nat.zero_le _) rfl ?_
  refine zb_ne (tgt := 21) (q := 8) dX7_meet_5 (by decide) rfl (fun c1 => ?_) (fun c1 => ?_)
  · contradiction
  · skip
    refine z_aload_n (i := 0) (q := 9) dX7_meet_8 rfl rfl rfl ?_
    refine z_iload_n (i := 2) (q := 10) dX7_meet_9 rfl rfl rfl ?_
    refine m_callV_r (As := [_]) (q := 13) mk_X7_isNobody dX7_meet_10 wd_472 wd_474 wp_16 (ci := 7) rfl ⟨by decide, _, rfl⟩ (ev_X7_isNobody _ _ _) rfl (by decide) rfl (Nat.zero_le _) (Nat.zero_le _) rfl ?_
    refine zb_ne (tgt := 21) (q := 16) dX7_meet_13 (by decide) rfl (fun c2 => ?_) (fun c2 => ?_)
    · contradiction
    · skip
      refine z_iload_n (i := 1) (q := 17) dX7_meet_16 rfl rfl rfl ?_
      refine z_iload_n (i := 2) (q := 18) dX7_meet_17 rfl rfl rfl ?_
      refine z_icmp_ne (tgt := 24) (q := 21) dX7_meet_18 (by decide) rfl (fun c3 => ?_) (fun c3 => ?_)
      · skip
        refine z_aload_n (i := 0) (q := 25) dX7_meet_24 rfl rfl rfl ?_
        refine m_getR (r := 14) (q := 28) dX7_meet_25 fl_X7_42 ⟨by decide, _, rfl, rfl⟩ rfl ?_
        refine m_getR (r := 16) (q := 31) dX7_meet_28 fl_X7_150 ⟨by decide, _, rfl, rfl⟩ rfl ?_
        refine z_iload_n (i := 1) (q := 32) dX7_meet_31 rfl rfl rfl ?_
        refine m_aald (kd := 5) (N := 4) (b := 25 + a) (q := 33) dX7_meet_32 (by decide) (okPn (by decide) rfl (by omega) (by decide)) (nI_pos' (by omega)) rfl ?_
        refine z_astore_n (i := 3) (ls' := [_, _, _, _, _, _]) (q := 34) dX7_meet_33 rfl (by decide) rfl rfl ?_
        refine z_aload_n (i := 0) (q := 35) dX7_meet_34 rfl rfl rfl ?_
        refine m_getR (r := 14) (q := 38) dX7_meet_35 fl_X7_42 ⟨by decide, _, rfl, rfl⟩ rfl ?_
        refine m_getR (r := 16) (q := 41) dX7_meet_38 fl_X7_150 ⟨by decide, _, rfl, rfl⟩ rfl ?_
        refine z_iload_n (i := 2) (q := 42) dX7_meet_41 rfl rfl rfl ?_
        refine m_aald (kd := 5) (N := 4) (b := 25 + b) (q := 43) dX7_meet_42 (by decide) (okPn (by decide) rfl (by omega) (by decide)) (nI_pos' (by omega)) rfl ?_
        refine z_astore (i := 4) (ls' := [_, _, _, _, _, _]) (q := 45) dX7_meet_43 (by decide) rfl rfl ?_
        refine z_aload_n (i := 3) (q := 46) dX7_meet_45 rfl rfl rfl ?_
        refine m_getI (q := 49) dX7_meet_46 fl_X7_154 ⟨(isLea_14.2.2.2.2.2.2 a (by omega)).1, _, (isLea_14.2.2.2.2.2.2 a (by omega)).2, rfl⟩ rfl ?_
        refine z_aload (i := 4) (q := 51) dX7_meet_49 rfl rfl ?_
        refine m_getI (q := 54) dX7_meet_51 fl_X7_154 ⟨(isLea_14.2.2.2.2.2.2 b (by omega)).1, _, (isLea_14.2.2.2.2.2.2 b (by omega)).2, rfl⟩ rfl ?_
        refine z_icmp_eq (tgt := 60) (q := 57) dX7_meet_54 (by decide) rfl (fun c4 => ?_) (fun c4 => ?_)
        · skip
          refine z_aload_n (i := 0) (q := 61) dX7_meet_60 rfl rfl rfl ?_
          refine m_getR (r := 46) (q := 64) dX7_meet_61 fl_X7_60 ⟨by decide, _, rfl, rfl⟩ rfl ?_
          refine z_aload_n (i := 0) (q := 65) dX7_meet_64 rfl rfl rfl ?_
          refine m_getR (r := 14) (q := 68) dX7_meet_65 fl_X7_42 ⟨by decide, _, rfl, rfl⟩ rfl ?_
          refine m_callV_v (As := [_]) (q := 71) mk_X0_keep dX7_meet_68 wd_493 wd_494 wd_495 (ci := 0) rfl ⟨by decide, _, rfl⟩ (ev_X0_keep _ _ _ _  hA.1 hA.2.1 hA.2.2.1 hA.2.2.2) rfl (by decide) rfl (Nat.zero_le _) (Nat.zero_le _) rfl ?_
          refine z_aload_n (i := 3) (q := 72) dX7_meet_71 rfl rfl rfl ?_
          refine m_getI (q := 75) dX7_meet_72 fl_X7_159 ⟨(isLea_14.2.2.2.2.2.2 a (by omega)).1, _, (isLea_14.2.2.2.2.2.2 a (by omega)).2, rfl⟩ rfl ?_
          refine z_aload (i := 4) (q := 77) dX7_meet_75 rfl rfl ?_
          refine m_getI (q := 80) dX7_meet_77 fl_X7_159 ⟨(isLea_14.2.2.2.2.2.2 b (by omega)).1, _, (isLea_14.2.2.2.2.2.2 b (by omega)).2, rfl⟩ rfl ?_
          refine z_imax (q := 83) dX7_meet_80 wd_533 wd_515 wd_15 wd_516 (by decide) (Nat.zero_le _) (Nat.zero_le _) rfl ?_
          refine z_istore (i := 5) (ls' := [_, _, _, _, _, _]) (q := 85) dX7_meet_83 (by decide) rfl rfl ?_
          refine z_aload_n (i := 3) (q := 86) dX7_meet_85 rfl rfl rfl ?_
          refine z_iload (i := 5) (q := 88) dX7_meet_86 rfl rfl ?_
          refine z_aload_n (i := 3) (q := 89) dX7_meet_88 rfl rfl rfl ?_
          refine m_getI (q := 92) dX7_meet_89 fl_X7_159 ⟨(isLea_14.2.2.2.2.2.2 a (by omega)).1, _, (isLea_14.2.2.2.2.2.2 a (by omega)).2, rfl⟩ rfl ?_
          refine z_isub (q := 93) dX7_meet_92 rfl ?_
          refine m_callV_v (As := [_]) (q := 96) mk_X4_stayFor dX7_meet_93 wd_525 wd_526 wd_527 (ci := 4) rfl ⟨(isLea_14.2.2.2.2.2.2 a (by omega)).1, _, (isLea_14.2.2.2.2.2.2 a (by omega)).2⟩ (ev_X4_stayFor _ _ _ _ (isLea_14.2.2.2.2.2.2 a (by omega))) rfl (by decide) rfl (Nat.zero_le _) (Nat.zero_le _) rfl ?_
          refine z_aload (i := 4) (q := 98) dX7_meet_96 rfl rfl ?_
          refine z_iload (i := 5) (q := 100) dX7_meet_98 rfl rfl ?_
          refine z_aload (i := 4) (q := 102) dX7_meet_100 rfl rfl ?_
          refine m_getI (q := 105) dX7_meet_102 fl_X7_159 ⟨(isLea_14.2.2.2.2.2.2 b (by omega)).1, _, (isLea_14.2.2.2.2.2.2 b (by omega)).2, rfl⟩ rfl ?_
          refine z_isub (q := 106) dX7_meet_105 rfl ?_
          refine m_callV_v (As := [_]) (q := 109) mk_X4_stayFor dX7_meet_106 wd_525 wd_526 wd_527 (ci := 4) rfl ⟨(isLea_14.2.2.2.2.2.2 b (by omega)).1, _, (isLea_14.2.2.2.2.2.2 b (by omega)).2⟩ (ev_X4_stayFor _ _ _ _ (isLea_14.2.2.2.2.2.2 b (by omega))) rfl (by decide) rfl (Nat.zero_le _) (Nat.zero_le _) rfl ?_
          refine z_aload_n (i := 3) (q := 110) dX7_meet_109 rfl rfl rfl ?_
          refine m_getI (q := 113) dX7_meet_110 fl_X7_169 ⟨(isLea_14.2.2.2.2.2.2 a (by omega)).1, _, (isLea_14.2.2.2.2.2.2 a (by omega)).2, rfl⟩ rfl ?_
          refine z_aload (i := 4) (q := 115) dX7_meet_113 rfl rfl ?_
          refine m_getI (q := 118) dX7_meet_115 fl_X7_169 ⟨(isLea_14.2.2.2.2.2.2 b (by omega)).1, _, (isLea_14.2.2.2.2.2.2 b (by omega)).2, rfl⟩ rfl ?_
          refine z_isub (q := 119) dX7_meet_118 rfl ?_
          refine z_ireturn dX7_meet_119 rfl rfl ?_ (Nat.le_refl _) (Nat.le_refl _)
          rfl
        · contradiction
      · contradiction
set_option maxHeartbeats 4000000 in
set_option maxRecDepth 100000 in
theorem ev_X7_borrow_bad (d : Nat) (m : zm) (p : Int32) (z : Int32) (hb : (p < 0 ∨ m.1 14 3 - 1 < p) ∨ (z < 1 ∨ 9999 < z)) : zEv (d + 3) zM_X7_borrow 0 0 [.ref 0, .int p, .int z] (lay m) (some (.int (-1000001)), lay (m)) := by
  refine zEv_of (by decide) (fun G => Nat.le_of_ble_eq_true rfl) ?_
  show ZW _ _ _ _ 0 [some (.ref 0), some (.int p), some (.int z), none, none] [] _ _ _ _
  refine z_aload_n (i := 0) (q := 1) dX7_borrow_0 rfl rfl rfl ?_
  refine z_iload_n (i := 1) (q := 2) dX7_borrow_1 rfl rfl rfl ?_
  refine m_callV_r (As := [_]) (q := 5) mk_X7_isNobody dX7_borrow_2 wd_472 wd_474 wp_16 (ci := 7) rfl ⟨by decide, _, rfl⟩ (ev_X7_isNobody _ _ _) rfl (by decide) rfl (Nat.zero_le _) (Nat.zero_le _) rfl ?_
  refine zb_ne (tgt := 19) (q := 8) dX7_borrow_5 (by decide) rfl (fun c1 => ?_) (fun c1 => ?_)
  · skip
    refine z_ldc (q := 21) dX7_borrow_19 wd_279 rfl ?_
    refine z_ireturn dX7_borrow_21 rfl rfl ?_ (Nat.le_refl _) (Nat.le_refl _)
    rfl
  · skip
    refine z_iload_n (i := 2) (q := 9) dX7_borrow_8 rfl rfl rfl ?_
    refine z_iconst (v := 1) (q := 10) dX7_borrow_9 (by decide) rfl ?_
    refine z_sipush (v := 9999) (q := 13) dX7_borrow_10 (by decide) rfl ?_
    refine m_callS_r (As := [_, _, _]) (q := 16) mk_X7_isOutside dX7_borrow_13 wd_276 wd_277 (ev_X7_isOutside _ _ _ _ _) rfl (by decide) rfl (Nat.zero_le _) (Nat.zero_le _) rfl ?_
    refine zb_eq (tgt := 22) (q := 19) dX7_borrow_16 (by decide) rfl (fun c2 => ?_) (fun c2 => ?_)
    · exact absurd hb (fun q => q.elim c1 c2)
    · skip
      refine z_ldc (q := 21) dX7_borrow_19 wd_279 rfl ?_
      refine z_ireturn dX7_borrow_21 rfl rfl ?_ (Nat.le_refl _) (Nat.le_refl _)
      rfl
set_option maxHeartbeats 4000000 in
set_option maxRecDepth 100000 in
theorem ev_X7_borrow (d : Nat) (m : zm) (p : Nat) (z : Int32) (hn : ¬ (nI p < 0 ∨ m.1 14 3 - 1 < nI p)) (h2 : ¬ (z < 1 ∨ 9999 < z)) (hA : aOk m) (hp : p < 4) : zEv (d + 3) zM_X7_borrow 0 0 [.ref 0, .int (nI p), .int z] (lay m) (some (.int (cOwed (m.1 14 1) (m.1 (25 + p) 5) (m.1 (25 + p) 3 - m.1 (25 + p) 6))), lay (cLoan (cKp m) (25 + p) z)) := by
  refine zEv_of (by decide) (fun G => Nat.le_of_ble_eq_true rfl) ?_
  show ZW _ _ _ _ 0 [some (.ref 0), some (.int (nI p)), some (.int z), none, none] [] _ _ _ _
  refine z_aload_n (i := 0) (q := 1) dX7_borrow_0 rfl rfl rfl ?_
  refine z_iload_n (i := 1) (q := 2) dX7_borrow_1 rfl rfl rfl ?_
  refine m_callV_r (As := [_]) (q := 5) mk_X7_isNobody dX7_borrow_2 wd_472 wd_474 wp_16 (ci := 7) rfl ⟨by decide, _, rfl⟩ (ev_X7_isNobody _ _ _) rfl (by decide) rfl (Nat.zero_le _) (Nat.zero_le _) rfl ?_
  refine zb_ne (tgt := 19) (q := 8) dX7_borrow_5 (by decide) rfl (fun c1 => ?_) (fun c1 => ?_)
  · contradiction
  · skip
    refine z_iload_n (i := 2) (q := 9) dX7_borrow_8 rfl rfl rfl ?_
    refine z_iconst (v := 1) (q := 10) dX7_borrow_9 (by decide) rfl ?_
    refine z_sipush (v := 9999) (q := 13) dX7_borrow_10 (by decide) rfl ?_
    refine m_callS_r (As := [_, _, _]) (q := 16) mk_X7_isOutside dX7_borrow_13 wd_276 wd_277 (ev_X7_isOutside _ _ _ _ _) rfl (by decide) rfl (Nat.zero_le _) (Nat.zero_le _) rfl ?_
    refine zb_eq (tgt := 22) (q := 19) dX7_borrow_16 (by decide) rfl (fun c2 => ?_) (fun c2 => ?_)
    · skip
      refine z_aload_n (i := 0) (q := 23) dX7_borrow_22 rfl rfl rfl ?_
      refine m_getR (r := 14) (q := 26) dX7_borrow_23 fl_X7_42 ⟨by decide, _, rfl, rfl⟩ rfl ?_
      refine m_getR (r := 16) (q := 29) dX7_borrow_26 fl_X7_150 ⟨by decide, _, rfl, rfl⟩ rfl ?_
      refine z_iload_n (i := 1) (q := 30) dX7_borrow_29 rfl rfl rfl ?_
      refine m_aald (kd := 5) (N := 4) (b := 25 + p) (q := 31) dX7_borrow_30 (by decide) (okPn (by decide) rfl (by omega) (by decide)) (nI_pos' (by omega)) rfl ?_
      refine z_astore_n (i := 3) (ls' := [_, _, _, _, _]) (q := 32) dX7_borrow_31 rfl (by decide) rfl rfl ?_
      refine z_aload_n (i := 3) (q := 33) dX7_borrow_32 rfl rfl rfl ?_
      refine z_aload_n (i := 0) (q := 34) dX7_borrow_33 rfl rfl rfl ?_
      refine m_getR (r := 14) (q := 37) dX7_borrow_34 fl_X7_42 ⟨by decide, _, rfl, rfl⟩ rfl ?_
      refine m_getI (q := 40) dX7_borrow_37 fl_X7_178 ⟨by decide, _, rfl, rfl⟩ rfl ?_
      refine m_callV_r (As := [_]) (q := 43) mk_X4_owedByShore dX7_borrow_40 wd_538 wd_539 wd_540 (ci := 4) rfl ⟨(isLea_14.2.2.2.2.2.2 p (by omega)).1, _, (isLea_14.2.2.2.2.2.2 p (by omega)).2⟩ (ev_X4_owedByShore _ _ _ _ (isLea_14.2.2.2.2.2.2 p (by omega))) rfl (by decide) rfl (Nat.zero_le _) (Nat.zero_le _) rfl ?_
      refine z_istore (i := 4) (ls' := [_, _, _, _, _]) (q := 45) dX7_borrow_43 (by decide) rfl rfl ?_
      refine z_aload_n (i := 0) (q := 46) dX7_borrow_45 rfl rfl rfl ?_
      refine m_getR (r := 46) (q := 49) dX7_borrow_46 fl_X7_60 ⟨by decide, _, rfl, rfl⟩ rfl ?_
      refine z_aload_n (i := 0) (q := 50) dX7_borrow_49 rfl rfl rfl ?_
      refine m_getR (r := 14) (q := 53) dX7_borrow_50 fl_X7_42 ⟨by decide, _, rfl, rfl⟩ rfl ?_
      refine m_callV_v (As := [_]) (q := 56) mk_X0_keep dX7_borrow_53 wd_493 wd_494 wd_495 (ci := 0) rfl ⟨by decide, _, rfl⟩ (ev_X0_keep _ _ _ _  hA.1 hA.2.1 hA.2.2.1 hA.2.2.2) rfl (by decide) rfl (Nat.zero_le _) (Nat.zero_le _) rfl ?_
      refine z_aload_n (i := 3) (q := 57) dX7_borrow_56 rfl rfl rfl ?_
      refine z_iload_n (i := 2) (q := 58) dX7_borrow_57 rfl rfl rfl ?_
      refine m_callV_v (As := [_]) (q := 61) mk_X4_takeLoan dX7_borrow_58 wd_550 wd_551 wd_552 (ci := 4) rfl ⟨(isLea_14.2.2.2.2.2.2 p (by omega)).1, _, (isLea_14.2.2.2.2.2.2 p (by omega)).2⟩ (ev_X4_takeLoan _ _ _ _ (isLea_14.2.2.2.2.2.2 p (by omega))) rfl (by decide) rfl (Nat.zero_le _) (Nat.zero_le _) rfl ?_
      refine z_iload (i := 4) (q := 63) dX7_borrow_61 rfl rfl ?_
      refine z_ireturn dX7_borrow_63 rfl rfl ?_ (Nat.le_refl _) (Nat.le_refl _)
      rfl
    · contradiction
set_option maxHeartbeats 4000000 in
set_option maxRecDepth 100000 in
theorem ev_X7_undo_state (d : Nat) (m : zm) (h1 : m.1 46 2 = 0) : zEv (d + 2) zM_X7_undo 0 0 [.ref 0] (lay m) (some (.int (-1000002)), lay (m)) := by
  refine zEv_of (by decide) (fun G => Nat.le_of_ble_eq_true rfl) ?_
  show ZW _ _ _ _ 0 [some (.ref 0)] [] _ _ _ _
  refine z_aload_n (i := 0) (q := 1) dX7_undo_0 rfl rfl rfl ?_
  refine m_getR (r := 46) (q := 4) dX7_undo_1 fl_X7_60 ⟨by decide, _, rfl, rfl⟩ rfl ?_
  refine m_getI (q := 7) dX7_undo_4 fl_X7_187 ⟨by decide, _, rfl, rfl⟩ rfl ?_
  refine z_if_ne (tgt := 13) (q := 10) dX7_undo_7 (by decide) rfl (fun c1 => ?_) (fun c1 => ?_)
  · contradiction
  · skip
    refine z_ldc (q := 12) dX7_undo_10 wd_492 rfl ?_
    refine z_ireturn dX7_undo_12 rfl rfl ?_ (Nat.le_refl _) (Nat.le_refl _)
    rfl
set_option maxHeartbeats 4000000 in
set_option maxRecDepth 100000 in
theorem ev_X7_undo (d : Nat) (m : zm) (h1 : ¬ m.1 46 2 = 0) (hA : aOk m) : zEv (d + 2) zM_X7_undo 0 0 [.ref 0] (lay m) (some (.int ((cTk m).1 46 2)), lay (cTk m)) := by
  refine zEv_of (by decide) (fun G => Nat.le_of_ble_eq_true rfl) ?_
  show ZW _ _ _ _ 0 [some (.ref 0)] [] _ _ _ _
  refine z_aload_n (i := 0) (q := 1) dX7_undo_0 rfl rfl rfl ?_
  refine m_getR (r := 46) (q := 4) dX7_undo_1 fl_X7_60 ⟨by decide, _, rfl, rfl⟩ rfl ?_
  refine m_getI (q := 7) dX7_undo_4 fl_X7_187 ⟨by decide, _, rfl, rfl⟩ rfl ?_
  refine z_if_ne (tgt := 13) (q := 10) dX7_undo_7 (by decide) rfl (fun c1 => ?_) (fun c1 => ?_)
  · skip
    refine z_aload_n (i := 0) (q := 14) dX7_undo_13 rfl rfl rfl ?_
    refine m_getR (r := 46) (q := 17) dX7_undo_14 fl_X7_60 ⟨by decide, _, rfl, rfl⟩ rfl ?_
    refine z_aload_n (i := 0) (q := 18) dX7_undo_17 rfl rfl rfl ?_
    refine m_getR (r := 14) (q := 21) dX7_undo_18 fl_X7_42 ⟨by decide, _, rfl, rfl⟩ rfl ?_
    refine m_callV_v (As := [_]) (q := 24) mk_X0_takeBack dX7_undo_21 wd_558 wd_559 wd_560 (ci := 0) rfl ⟨by decide, _, rfl⟩ (ev_X0_takeBack _ _ _ _  hA.1 hA.2.1 hA.2.2.1 hA.2.2.2) rfl (by decide) rfl (Nat.zero_le _) (Nat.zero_le _) rfl ?_
    refine z_aload_n (i := 0) (q := 25) dX7_undo_24 rfl rfl rfl ?_
    refine m_getR (r := 46) (q := 28) dX7_undo_25 fl_X7_60 ⟨by decide, _, rfl, rfl⟩ rfl ?_
    refine m_getI (q := 31) dX7_undo_28 fl_X7_187 ⟨by decide, _, rfl, rfl⟩ rfl ?_
    refine z_ireturn dX7_undo_31 rfl rfl ?_ (Nat.le_refl _) (Nat.le_refl _)
    rfl
  · contradiction
set_option maxHeartbeats 4000000 in
set_option maxRecDepth 100000 in
theorem ev_X7_person_bad (d : Nat) (m : zm) (p : Int32) (z : Int32) (hb : (p < 0 ∨ m.1 14 3 - 1 < p)) : zEv (d + 3) zM_X7_person 0 0 [.ref 0, .int p, .int z] (lay m) (some (.int (-1000001)), lay (m)) := by
  refine zEv_of (by decide) (fun G => Nat.le_of_ble_eq_true rfl) ?_
  show ZW _ _ _ _ 0 [some (.ref 0), some (.int p), some (.int z), none] [] _ _ _ _
  refine z_aload_n (i := 0) (q := 1) dX7_person_0 rfl rfl rfl ?_
  refine z_iload_n (i := 1) (q := 2) dX7_person_1 rfl rfl rfl ?_
  refine m_callV_r (As := [_]) (q := 5) mk_X7_isNobody dX7_person_2 wd_472 wd_474 wp_16 (ci := 7) rfl ⟨by decide, _, rfl⟩ (ev_X7_isNobody _ _ _) rfl (by decide) rfl (Nat.zero_le _) (Nat.zero_le _) rfl ?_
  refine zb_eq (tgt := 11) (q := 8) dX7_person_5 (by decide) rfl (fun c1 => ?_) (fun c1 => ?_)
  · contradiction
  · skip
    refine z_ldc (q := 10) dX7_person_8 wd_279 rfl ?_
    refine z_ireturn dX7_person_10 rfl rfl ?_ (Nat.le_refl _) (Nat.le_refl _)
    rfl
set_option maxHeartbeats 4000000 in
set_option maxRecDepth 100000 in
theorem ev_X7_person (d : Nat) (m : zm) (p : Nat) (z : Int32) (hn : ¬ (nI p < 0 ∨ m.1 14 3 - 1 < nI p)) (hp : p < 4) : zEv (d + 3) zM_X7_person 0 0 [.ref 0, .int (nI p), .int z] (lay m) (some (.int (if z = 0 then m.1 (25 + p) 2 else if z = 1 then m.1 (25 + p) 3 else if z = 2 then m.1 (25 + p) 4 else if z = 3 then m.1 (25 + p) 3 + m.1 (25 + p) 1 - m.1 (25 + p) 4 else if z = 4 then cOwed (m.1 14 1) (m.1 (25 + p) 5) (m.1 (25 + p) 3 - m.1 (25 + p) 6) else if z = 5 then cOwed (m.1 14 1) (m.1 (25 + p) 5) (m.1 (25 + p) 4 - m.1 (25 + p) 7) else -1000001)), lay (m)) := by
  refine zEv_of (by decide) (fun G => Nat.le_of_ble_eq_true rfl) ?_
  show ZW _ _ _ _ 0 [some (.ref 0), some (.int (nI p)), some (.int z), none] [] _ _ _ _
  refine z_aload_n (i := 0) (q := 1) dX7_person_0 rfl rfl rfl ?_
  refine z_iload_n (i := 1) (q := 2) dX7_person_1 rfl rfl rfl ?_
  refine m_callV_r (As := [_]) (q := 5) mk_X7_isNobody dX7_person_2 wd_472 wd_474 wp_16 (ci := 7) rfl ⟨by decide, _, rfl⟩ (ev_X7_isNobody _ _ _) rfl (by decide) rfl (Nat.zero_le _) (Nat.zero_le _) rfl ?_
  refine zb_eq (tgt := 11) (q := 8) dX7_person_5 (by decide) rfl (fun c1 => ?_) (fun c1 => ?_)
  · skip
    refine z_aload_n (i := 0) (q := 12) dX7_person_11 rfl rfl rfl ?_
    refine m_getR (r := 14) (q := 15) dX7_person_12 fl_X7_42 ⟨by decide, _, rfl, rfl⟩ rfl ?_
    refine m_getR (r := 16) (q := 18) dX7_person_15 fl_X7_150 ⟨by decide, _, rfl, rfl⟩ rfl ?_
    refine z_iload_n (i := 1) (q := 19) dX7_person_18 rfl rfl rfl ?_
    refine m_aald (kd := 5) (N := 4) (b := 25 + p) (q := 20) dX7_person_19 (by decide) (okPn (by decide) rfl (by omega) (by decide)) (nI_pos' (by omega)) rfl ?_
    refine z_astore_n (i := 3) (ls' := [_, _, _, _]) (q := 21) dX7_person_20 rfl (by decide) rfl rfl ?_
    refine z_iload_n (i := 2) (q := 22) dX7_person_21 rfl rfl rfl ?_
    refine z_table (tgts := [60, 65, 70, 75, 80, 92]) (dt := 104) dX7_person_22 (by decide) (by decide) (by decide) (fun j t ht c2 => ?_) (fun c2 => ?_)
    · match j, ht, c2 with
      | 0, ht, c2 =>
        cases ht
        have c2 : _ = (0 : Int32) := Int32.toInt_inj.mp c2
        refine z_aload_n (i := 3) (q := 61) dX7_person_60 rfl rfl rfl ?_
        refine m_getI (q := 64) dX7_person_61 fl_X7_154 ⟨(isLea_14.2.2.2.2.2.2 p (by omega)).1, _, (isLea_14.2.2.2.2.2.2 p (by omega)).2, rfl⟩ rfl ?_
        refine z_ireturn dX7_person_64 rfl rfl ?_ (Nat.le_refl _) (Nat.le_refl _)
        simp [c1, c2]
      | 1, ht, c2 =>
        cases ht
        have c2 : _ = (1 : Int32) := Int32.toInt_inj.mp c2
        refine z_aload_n (i := 3) (q := 66) dX7_person_65 rfl rfl rfl ?_
        refine m_getI (q := 69) dX7_person_66 fl_X7_159 ⟨(isLea_14.2.2.2.2.2.2 p (by omega)).1, _, (isLea_14.2.2.2.2.2.2 p (by omega)).2, rfl⟩ rfl ?_
        refine z_ireturn dX7_person_69 rfl rfl ?_ (Nat.le_refl _) (Nat.le_refl _)
        simp [c1, c2]
      | 2, ht, c2 =>
        cases ht
        have c2 : _ = (2 : Int32) := Int32.toInt_inj.mp c2
        refine z_aload_n (i := 3) (q := 71) dX7_person_70 rfl rfl rfl ?_
        refine m_getI (q := 74) dX7_person_71 fl_X7_169 ⟨(isLea_14.2.2.2.2.2.2 p (by omega)).1, _, (isLea_14.2.2.2.2.2.2 p (by omega)).2, rfl⟩ rfl ?_
        refine z_ireturn dX7_person_74 rfl rfl ?_ (Nat.le_refl _) (Nat.le_refl _)
        simp [c1, c2]
      | 3, ht, c2 =>
        cases ht
        have c2 : _ = (3 : Int32) := Int32.toInt_inj.mp c2
        refine z_aload_n (i := 3) (q := 76) dX7_person_75 rfl rfl rfl ?_
        refine m_callV_r (As := []) (q := 79) mk_X4_lag dX7_person_76 wd_566 wd_567 wd_568 (ci := 4) rfl ⟨(isLea_14.2.2.2.2.2.2 p (by omega)).1, _, (isLea_14.2.2.2.2.2.2 p (by omega)).2⟩ (ev_X4_lag _ _ _ (isLea_14.2.2.2.2.2.2 p (by omega))) rfl (by decide) rfl (Nat.zero_le _) (Nat.zero_le _) rfl ?_
        refine z_ireturn dX7_person_79 rfl rfl ?_ (Nat.le_refl _) (Nat.le_refl _)
        simp [c1, c2]
      | 4, ht, c2 =>
        cases ht
        have c2 : _ = (4 : Int32) := Int32.toInt_inj.mp c2
        refine z_aload_n (i := 3) (q := 81) dX7_person_80 rfl rfl rfl ?_
        refine z_aload_n (i := 0) (q := 82) dX7_person_81 rfl rfl rfl ?_
        refine m_getR (r := 14) (q := 85) dX7_person_82 fl_X7_42 ⟨by decide, _, rfl, rfl⟩ rfl ?_
        refine m_getI (q := 88) dX7_person_85 fl_X7_178 ⟨by decide, _, rfl, rfl⟩ rfl ?_
        refine m_callV_r (As := [_]) (q := 91) mk_X4_owedByShore dX7_person_88 wd_538 wd_539 wd_540 (ci := 4) rfl ⟨(isLea_14.2.2.2.2.2.2 p (by omega)).1, _, (isLea_14.2.2.2.2.2.2 p (by omega)).2⟩ (ev_X4_owedByShore _ _ _ _ (isLea_14.2.2.2.2.2.2 p (by omega))) rfl (by decide) rfl (Nat.zero_le _) (Nat.zero_le _) rfl ?_
        refine z_ireturn dX7_person_91 rfl rfl ?_ (Nat.le_refl _) (Nat.le_refl _)
        simp [c1, c2]
      | 5, ht, c2 =>
        cases ht
        have c2 : _ = (5 : Int32) := Int32.toInt_inj.mp c2
        refine z_aload_n (i := 3) (q := 93) dX7_person_92 rfl rfl rfl ?_
        refine z_aload_n (i := 0) (q := 94) dX7_person_93 rfl rfl rfl ?_
        refine m_getR (r := 14) (q := 97) dX7_person_94 fl_X7_42 ⟨by decide, _, rfl, rfl⟩ rfl ?_
        refine m_getI (q := 100) dX7_person_97 fl_X7_178 ⟨by decide, _, rfl, rfl⟩ rfl ?_
        refine m_callV_r (As := [_]) (q := 103) mk_X4_owedByOwn dX7_person_100 wd_570 wd_571 wd_572 (ci := 4) rfl ⟨(isLea_14.2.2.2.2.2.2 p (by omega)).1, _, (isLea_14.2.2.2.2.2.2 p (by omega)).2⟩ (ev_X4_owedByOwn _ _ _ _ (isLea_14.2.2.2.2.2.2 p (by omega))) rfl (by decide) rfl (Nat.zero_le _) (Nat.zero_le _) rfl ?_
        refine z_ireturn dX7_person_103 rfl rfl ?_ (Nat.le_refl _) (Nat.le_refl _)
        simp [c1, c2]
      | j + 6, ht, c2 => exact absurd ht (by simp)
    · skip
      have c2_0 := zout (v := 0) c2 (by decide)
      have c2_1 := zout (v := 1) c2 (by decide)
      have c2_2 := zout (v := 2) c2 (by decide)
      have c2_3 := zout (v := 3) c2 (by decide)
      have c2_4 := zout (v := 4) c2 (by decide)
      have c2_5 := zout (v := 5) c2 (by decide)
      refine z_ldc (q := 106) dX7_person_104 wd_279 rfl ?_
      refine z_ireturn dX7_person_106 rfl rfl ?_ (Nat.le_refl _) (Nat.le_refl _)
      simp [c1, c2_0, c2_1, c2_2, c2_3, c2_4, c2_5]
  · contradiction
set_option maxHeartbeats 4000000 in
set_option maxRecDepth 100000 in
theorem ev_X7_gone_bad (d : Nat) (m : zm) (p : Int32) (hb : (p < 0 ∨ m.1 14 3 - 1 < p)) : zEv (d + 3) zM_X7_gone 0 0 [.ref 0, .int p] (lay m) (some (.int (-1000001)), lay (m)) := by
  refine zEv_of (by decide) (fun G => Nat.le_of_ble_eq_true rfl) ?_
  show ZW _ _ _ _ 0 [some (.ref 0), some (.int p), none] [] _ _ _ _
  refine z_aload_n (i := 0) (q := 1) dX7_gone_0 rfl rfl rfl ?_
  refine z_iload_n (i := 1) (q := 2) dX7_gone_1 rfl rfl rfl ?_
  refine m_callV_r (As := [_]) (q := 5) mk_X7_isNobody dX7_gone_2 wd_472 wd_474 wp_16 (ci := 7) rfl ⟨by decide, _, rfl⟩ (ev_X7_isNobody _ _ _) rfl (by decide) rfl (Nat.zero_le _) (Nat.zero_le _) rfl ?_
  refine zb_eq (tgt := 11) (q := 8) dX7_gone_5 (by decide) rfl (fun c1 => ?_) (fun c1 => ?_)
  · contradiction
  · skip
    refine z_ldc (q := 10) dX7_gone_8 wd_279 rfl ?_
    refine z_ireturn dX7_gone_10 rfl rfl ?_ (Nat.le_refl _) (Nat.le_refl _)
    rfl
set_option maxHeartbeats 4000000 in
set_option maxRecDepth 100000 in
theorem ev_X7_gone (d : Nat) (m : zm) (p : Nat) (hn : ¬ (nI p < 0 ∨ m.1 14 3 - 1 < nI p)) (hp : p < 4) : zEv (d + 3) zM_X7_gone 0 0 [.ref 0, .int (nI p)] (lay m) (some (.int (cOwed (m.1 14 1) (m.1 (25 + p) 5) (m.1 (25 + p) 3 - m.1 (25 + p) 6) - cOwed (m.1 14 1) (m.1 (25 + p) 5) (m.1 (25 + p) 4 - m.1 (25 + p) 7))), lay (m)) := by
  refine zEv_of (by decide) (fun G => Nat.le_of_ble_eq_true rfl) ?_
  show ZW _ _ _ _ 0 [some (.ref 0), some (.int (nI p)), none] [] _ _ _ _
  refine z_aload_n (i := 0) (q := 1) dX7_gone_0 rfl rfl rfl ?_
  refine z_iload_n (i := 1) (q := 2) dX7_gone_1 rfl rfl rfl ?_
  refine m_callV_r (As := [_]) (q := 5) mk_X7_isNobody dX7_gone_2 wd_472 wd_474 wp_16 (ci := 7) rfl ⟨by decide, _, rfl⟩ (ev_X7_isNobody _ _ _) rfl (by decide) rfl (Nat.zero_le _) (Nat.zero_le _) rfl ?_
  refine zb_eq (tgt := 11) (q := 8) dX7_gone_5 (by decide) rfl (fun c1 => ?_) (fun c1 => ?_)
  · skip
    refine z_aload_n (i := 0) (q := 12) dX7_gone_11 rfl rfl rfl ?_
    refine m_getR (r := 14) (q := 15) dX7_gone_12 fl_X7_42 ⟨by decide, _, rfl, rfl⟩ rfl ?_
    refine m_getR (r := 16) (q := 18) dX7_gone_15 fl_X7_150 ⟨by decide, _, rfl, rfl⟩ rfl ?_
    refine z_iload_n (i := 1) (q := 19) dX7_gone_18 rfl rfl rfl ?_
    refine m_aald (kd := 5) (N := 4) (b := 25 + p) (q := 20) dX7_gone_19 (by decide) (okPn (by decide) rfl (by omega) (by decide)) (nI_pos' (by omega)) rfl ?_
    refine z_astore_n (i := 2) (ls' := [_, _, _]) (q := 21) dX7_gone_20 rfl (by decide) rfl rfl ?_
    refine z_aload_n (i := 2) (q := 22) dX7_gone_21 rfl rfl rfl ?_
    refine z_aload_n (i := 0) (q := 23) dX7_gone_22 rfl rfl rfl ?_
    refine m_getR (r := 14) (q := 26) dX7_gone_23 fl_X7_42 ⟨by decide, _, rfl, rfl⟩ rfl ?_
    refine m_getI (q := 29) dX7_gone_26 fl_X7_178 ⟨by decide, _, rfl, rfl⟩ rfl ?_
    refine m_callV_r (As := [_]) (q := 32) mk_X4_owedByShore dX7_gone_29 wd_538 wd_539 wd_540 (ci := 4) rfl ⟨(isLea_14.2.2.2.2.2.2 p (by omega)).1, _, (isLea_14.2.2.2.2.2.2 p (by omega)).2⟩ (ev_X4_owedByShore _ _ _ _ (isLea_14.2.2.2.2.2.2 p (by omega))) rfl (by decide) rfl (Nat.zero_le _) (Nat.zero_le _) rfl ?_
    refine z_aload_n (i := 2) (q := 33) dX7_gone_32 rfl rfl rfl ?_
    refine z_aload_n (i := 0) (q := 34) dX7_gone_33 rfl rfl rfl ?_
    refine m_getR (r := 14) (q := 37) dX7_gone_34 fl_X7_42 ⟨by decide, _, rfl, rfl⟩ rfl ?_
    refine m_getI (q := 40) dX7_gone_37 fl_X7_178 ⟨by decide, _, rfl, rfl⟩ rfl ?_
    refine m_callV_r (As := [_]) (q := 43) mk_X4_owedByOwn dX7_gone_40 wd_570 wd_571 wd_572 (ci := 4) rfl ⟨(isLea_14.2.2.2.2.2.2 p (by omega)).1, _, (isLea_14.2.2.2.2.2.2 p (by omega)).2⟩ (ev_X4_owedByOwn _ _ _ _ (isLea_14.2.2.2.2.2.2 p (by omega))) rfl (by simp [Value.category]) rfl (Nat.zero_le _) (Nat.zero_le _) rfl ?_
    refine z_isub (q := 44) dX7_gone_43 rfl ?_
    refine z_ireturn dX7_gone_44 rfl rfl ?_ (Nat.le_refl _) (Nat.le_refl _)
    rfl
  · contradiction
set_option maxHeartbeats 4000000 in
set_option maxRecDepth 100000 in
theorem ev_X7_kind_bad (d : Nat) (m : zm) (p : Int32) (hb : (p < 0 ∨ m.1 14 3 - 1 < p)) : zEv (d + 2) zM_X7_kind 0 0 [.ref 0, .int p] (lay m) (some (.int (-1000001)), lay (m)) := by
  refine zEv_of (by decide) (fun G => Nat.le_of_ble_eq_true rfl) ?_
  show ZW _ _ _ _ 0 [some (.ref 0), some (.int p)] [] _ _ _ _
  refine z_aload_n (i := 0) (q := 1) dX7_kind_0 rfl rfl rfl ?_
  refine z_iload_n (i := 1) (q := 2) dX7_kind_1 rfl rfl rfl ?_
  refine m_callV_r (As := [_]) (q := 5) mk_X7_isNobody dX7_kind_2 wd_472 wd_474 wp_16 (ci := 7) rfl ⟨by decide, _, rfl⟩ (ev_X7_isNobody _ _ _) rfl (by decide) rfl (Nat.zero_le _) (Nat.zero_le _) rfl ?_
  refine zb_eq (tgt := 13) (q := 8) dX7_kind_5 (by decide) rfl (fun c1 => ?_) (fun c1 => ?_)
  · contradiction
  · skip
    refine z_ldc (q := 10) dX7_kind_8 wd_279 rfl ?_
    refine z_goto (tgt := 25) dX7_kind_10 (by decide) ?_
    refine z_ireturn dX7_kind_25 rfl rfl ?_ (Nat.le_refl _) (Nat.le_refl _)
    rfl
set_option maxHeartbeats 4000000 in
set_option maxRecDepth 100000 in
theorem ev_X7_kind (d : Nat) (m : zm) (p : Nat) (hn : ¬ (nI p < 0 ∨ m.1 14 3 - 1 < nI p)) (hp : p < 4) : zEv (d + 2) zM_X7_kind 0 0 [.ref 0, .int (nI p)] (lay m) (some (.int (m.1 (25 + p) 0)), lay (m)) := by
  refine zEv_of (by decide) (fun G => Nat.le_of_ble_eq_true rfl) ?_
  show ZW _ _ _ _ 0 [some (.ref 0), some (.int (nI p))] [] _ _ _ _
  refine z_aload_n (i := 0) (q := 1) dX7_kind_0 rfl rfl rfl ?_
  refine z_iload_n (i := 1) (q := 2) dX7_kind_1 rfl rfl rfl ?_
  refine m_callV_r (As := [_]) (q := 5) mk_X7_isNobody dX7_kind_2 wd_472 wd_474 wp_16 (ci := 7) rfl ⟨by decide, _, rfl⟩ (ev_X7_isNobody _ _ _) rfl (by decide) rfl (Nat.zero_le _) (Nat.zero_le _) rfl ?_
  refine zb_eq (tgt := 13) (q := 8) dX7_kind_5 (by decide) rfl (fun c1 => ?_) (fun c1 => ?_)
  · skip
    refine z_aload_n (i := 0) (q := 14) dX7_kind_13 rfl rfl rfl ?_
    refine m_getR (r := 14) (q := 17) dX7_kind_14 fl_X7_42 ⟨by decide, _, rfl, rfl⟩ rfl ?_
    refine m_getR (r := 16) (q := 20) dX7_kind_17 fl_X7_150 ⟨by decide, _, rfl, rfl⟩ rfl ?_
    refine z_iload_n (i := 1) (q := 21) dX7_kind_20 rfl rfl rfl ?_
    refine m_aald (kd := 5) (N := 4) (b := 25 + p) (q := 22) dX7_kind_21 (by decide) (okPn (by decide) rfl (by omega) (by decide)) (nI_pos' (by omega)) rfl ?_
    refine m_getI (q := 25) dX7_kind_22 fl_X7_242 ⟨(isLea_14.2.2.2.2.2.2 p (by omega)).1, _, (isLea_14.2.2.2.2.2.2 p (by omega)).2, rfl⟩ rfl ?_
    refine z_ireturn dX7_kind_25 rfl rfl ?_ (Nat.le_refl _) (Nat.le_refl _)
    rfl
  · contradiction
set_option maxHeartbeats 4000000 in
set_option maxRecDepth 100000 in
theorem ev_X7_as_bad (d : Nat) (m : zm) (p : Int32) (z : Int32) (hb : (p < 0 ∨ m.1 14 3 - 1 < p) ∨ (z < 0 ∨ 5 < z)) : zEv (d + 2) zM_X7_as 0 0 [.ref 0, .int p, .int z] (lay m) (some (.int (-1000001)), lay (m)) := by
  refine zEv_of (by decide) (fun G => Nat.le_of_ble_eq_true rfl) ?_
  show ZW _ _ _ _ 0 [some (.ref 0), some (.int p), some (.int z)] [] _ _ _ _
  refine z_aload_n (i := 0) (q := 1) dX7_as_0 rfl rfl rfl ?_
  refine z_iload_n (i := 1) (q := 2) dX7_as_1 rfl rfl rfl ?_
  refine m_callV_r (As := [_]) (q := 5) mk_X7_isNobody dX7_as_2 wd_472 wd_474 wp_16 (ci := 7) rfl ⟨by decide, _, rfl⟩ (ev_X7_isNobody _ _ _) rfl (by decide) rfl (Nat.zero_le _) (Nat.zero_le _) rfl ?_
  refine zb_ne (tgt := 17) (q := 8) dX7_as_5 (by decide) rfl (fun c1 => ?_) (fun c1 => ?_)
  · skip
    refine z_ldc (q := 19) dX7_as_17 wd_279 rfl ?_
    refine z_ireturn dX7_as_19 rfl rfl ?_ (Nat.le_refl _) (Nat.le_refl _)
    rfl
  · skip
    refine z_iload_n (i := 2) (q := 9) dX7_as_8 rfl rfl rfl ?_
    refine z_iconst (v := 0) (q := 10) dX7_as_9 (by decide) rfl ?_
    refine z_iconst (v := 5) (q := 11) dX7_as_10 (by decide) rfl ?_
    refine m_callS_r (As := [_, _, _]) (q := 14) mk_X7_isOutside dX7_as_11 wd_276 wd_277 (ev_X7_isOutside _ _ _ _ _) rfl (by decide) rfl (Nat.zero_le _) (Nat.zero_le _) rfl ?_
    refine zb_eq (tgt := 20) (q := 17) dX7_as_14 (by decide) rfl (fun c2 => ?_) (fun c2 => ?_)
    · exact absurd hb (fun q => q.elim c1 c2)
    · skip
      refine z_ldc (q := 19) dX7_as_17 wd_279 rfl ?_
      refine z_ireturn dX7_as_19 rfl rfl ?_ (Nat.le_refl _) (Nat.le_refl _)
      rfl
set_option maxHeartbeats 4000000 in
set_option maxRecDepth 100000 in
theorem ev_X7_as_not (d : Nat) (m : zm) (p : Nat) (z : Int32) (hn : ¬ (nI p < 0 ∨ m.1 14 3 - 1 < nI p)) (h2 : ¬ (z < 0 ∨ 5 < z)) (h3 : ¬ (z = 0 ∨ z = m.1 (25 + p) 0 ∨ z = (if m.1 (25 + p) 0 = 2 ∨ m.1 (25 + p) 0 = 3 then 1 else if m.1 (25 + p) 0 = 5 then 4 else 0))) (hp : p < 4) : zEv (d + 2) zM_X7_as 0 0 [.ref 0, .int (nI p), .int z] (lay m) (some (.int (-1000010 - 3)), lay (upI m 0 3 3)) := by
  refine zEv_of (by decide) (fun G => Nat.le_of_ble_eq_true rfl) ?_
  show ZW _ _ _ _ 0 [some (.ref 0), some (.int (nI p)), some (.int z)] [] _ _ _ _
  refine z_aload_n (i := 0) (q := 1) dX7_as_0 rfl rfl rfl ?_
  refine z_iload_n (i := 1) (q := 2) dX7_as_1 rfl rfl rfl ?_
  refine m_callV_r (As := [_]) (q := 5) mk_X7_isNobody dX7_as_2 wd_472 wd_474 wp_16 (ci := 7) rfl ⟨by decide, _, rfl⟩ (ev_X7_isNobody _ _ _) rfl (by decide) rfl (Nat.zero_le _) (Nat.zero_le _) rfl ?_
  refine zb_ne (tgt := 17) (q := 8) dX7_as_5 (by decide) rfl (fun c1 => ?_) (fun c1 => ?_)
  · contradiction
  · skip
    refine z_iload_n (i := 2) (q := 9) dX7_as_8 rfl rfl rfl ?_
    refine z_iconst (v := 0) (q := 10) dX7_as_9 (by decide) rfl ?_
    refine z_iconst (v := 5) (q := 11) dX7_as_10 (by decide) rfl ?_
    refine m_callS_r (As := [_, _, _]) (q := 14) mk_X7_isOutside dX7_as_11 wd_276 wd_277 (ev_X7_isOutside _ _ _ _ _) rfl (by decide) rfl (Nat.zero_le _) (Nat.zero_le _) rfl ?_
    refine zb_eq (tgt := 20) (q := 17) dX7_as_14 (by decide) rfl (fun c2 => ?_) (fun c2 => ?_)
    · skip
      refine z_aload_n (i := 0) (q := 21) dX7_as_20 rfl rfl rfl ?_
      refine m_getR (r := 14) (q := 24) dX7_as_21 fl_X7_42 ⟨by decide, _, rfl, rfl⟩ rfl ?_
      refine m_getR (r := 16) (q := 27) dX7_as_24 fl_X7_150 ⟨by decide, _, rfl, rfl⟩ rfl ?_
      refine z_iload_n (i := 1) (q := 28) dX7_as_27 rfl rfl rfl ?_
      refine m_aald (kd := 5) (N := 4) (b := 25 + p) (q := 29) dX7_as_28 (by decide) (okPn (by decide) rfl (by omega) (by decide)) (nI_pos' (by omega)) rfl ?_
      refine m_getI (q := 32) dX7_as_29 fl_X7_242 ⟨(isLea_14.2.2.2.2.2.2 p (by omega)).1, _, (isLea_14.2.2.2.2.2.2 p (by omega)).2, rfl⟩ rfl ?_
      refine z_iload_n (i := 2) (q := 33) dX7_as_32 rfl rfl rfl ?_
      refine m_callS_r (As := [_, _]) (q := 36) mk_X7_isOfKind dX7_as_33 wd_673 wd_674 (ev_X7_isOfKind _ _ _ _) rfl (by decide) rfl (Nat.zero_le _) (Nat.zero_le _) rfl ?_
      refine zb_ne (tgt := 45) (q := 39) dX7_as_36 (by decide) rfl (fun c3 => ?_) (fun c3 => ?_)
      · contradiction
      · skip
        refine z_aload_n (i := 0) (q := 40) dX7_as_39 rfl rfl rfl ?_
        refine z_iconst (v := 3) (q := 41) dX7_as_40 (by decide) rfl ?_
        refine m_callV_r (As := [_]) (q := 44) mk_X7_found dX7_as_41 wd_280 wd_282 wp_0 (ci := 7) rfl ⟨by decide, _, rfl⟩ (ev_X7_found _ _ _) rfl (by decide) rfl (Nat.zero_le _) (Nat.zero_le _) rfl ?_
        refine z_ireturn dX7_as_44 rfl rfl ?_ (Nat.le_refl _) (Nat.le_refl _)
        rfl
    · contradiction
set_option maxHeartbeats 4000000 in
set_option maxRecDepth 100000 in
theorem ev_X7_as (d : Nat) (m : zm) (p : Nat) (z : Int32) (hn : ¬ (nI p < 0 ∨ m.1 14 3 - 1 < nI p)) (h2 : ¬ (z < 0 ∨ 5 < z)) (h3 : (z = 0 ∨ z = m.1 (25 + p) 0 ∨ z = (if m.1 (25 + p) 0 = 2 ∨ m.1 (25 + p) 0 = 3 then 1 else if m.1 (25 + p) 0 = 5 then 4 else 0))) (hp : p < 4) : zEv (d + 2) zM_X7_as 0 0 [.ref 0, .int (nI p), .int z] (lay m) (some (.int (nI p)), lay (upI m 0 3 0)) := by
  refine zEv_of (by decide) (fun G => Nat.le_of_ble_eq_true rfl) ?_
  show ZW _ _ _ _ 0 [some (.ref 0), some (.int (nI p)), some (.int z)] [] _ _ _ _
  refine z_aload_n (i := 0) (q := 1) dX7_as_0 rfl rfl rfl ?_
  refine z_iload_n (i := 1) (q := 2) dX7_as_1 rfl rfl rfl ?_
  refine m_callV_r (As := [_]) (q := 5) mk_X7_isNobody dX7_as_2 wd_472 wd_474 wp_16 (ci := 7) rfl ⟨by decide, _, rfl⟩ (ev_X7_isNobody _ _ _) rfl (by decide) rfl (Nat.zero_le _) (Nat.zero_le _) rfl ?_
  refine zb_ne (tgt := 17) (q := 8) dX7_as_5 (by decide) rfl (fun c1 => ?_) (fun c1 => ?_)
  · contradiction
  · skip
    refine z_iload_n (i := 2) (q := 9) dX7_as_8 rfl rfl rfl ?_
    refine z_iconst (v := 0) (q := 10) dX7_as_9 (by decide) rfl ?_
    refine z_iconst (v := 5) (q := 11) dX7_as_10 (by decide) rfl ?_
    refine m_callS_r (As := [_, _, _]) (q := 14) mk_X7_isOutside dX7_as_11 wd_276 wd_277 (ev_X7_isOutside _ _ _ _ _) rfl (by decide) rfl (Nat.zero_le _) (Nat.zero_le _) rfl ?_
    refine zb_eq (tgt := 20) (q := 17) dX7_as_14 (by decide) rfl (fun c2 => ?_) (fun c2 => ?_)
    · skip
      refine z_aload_n (i := 0) (q := 21) dX7_as_20 rfl rfl rfl ?_
      refine m_getR (r := 14) (q := 24) dX7_as_21 fl_X7_42 ⟨by decide, _, rfl, rfl⟩ rfl ?_
      refine m_getR (r := 16) (q := 27) dX7_as_24 fl_X7_150 ⟨by decide, _, rfl, rfl⟩ rfl ?_
      refine z_iload_n (i := 1) (q := 28) dX7_as_27 rfl rfl rfl ?_
      refine m_aald (kd := 5) (N := 4) (b := 25 + p) (q := 29) dX7_as_28 (by decide) (okPn (by decide) rfl (by omega) (by decide)) (nI_pos' (by omega)) rfl ?_
      refine m_getI (q := 32) dX7_as_29 fl_X7_242 ⟨(isLea_14.2.2.2.2.2.2 p (by omega)).1, _, (isLea_14.2.2.2.2.2.2 p (by omega)).2, rfl⟩ rfl ?_
      refine z_iload_n (i := 2) (q := 33) dX7_as_32 rfl rfl rfl ?_
      refine m_callS_r (As := [_, _]) (q := 36) mk_X7_isOfKind dX7_as_33 wd_673 wd_674 (ev_X7_isOfKind _ _ _ _) rfl (by decide) rfl (Nat.zero_le _) (Nat.zero_le _) rfl ?_
      refine zb_ne (tgt := 45) (q := 39) dX7_as_36 (by decide) rfl (fun c3 => ?_) (fun c3 => ?_)
      · skip
        refine z_aload_n (i := 0) (q := 46) dX7_as_45 rfl rfl rfl ?_
        refine z_iload_n (i := 1) (q := 47) dX7_as_46 rfl rfl rfl ?_
        refine m_callV_r (As := [_]) (q := 50) mk_X7_foundNothing dX7_as_47 wd_285 wd_287 wp_1 (ci := 7) rfl ⟨by decide, _, rfl⟩ (ev_X7_foundNothing _ _ _) rfl (by decide) rfl (Nat.zero_le _) (Nat.zero_le _) rfl ?_
        refine z_ireturn dX7_as_50 rfl rfl ?_ (Nat.le_refl _) (Nat.le_refl _)
        rfl
      · contradiction
    · contradiction
set_option maxHeartbeats 4000000 in
set_option maxRecDepth 100000 in
theorem ev_X7_ask_bad (d : Nat) (m : zm) (p : Int32) (z : Int32) (hb : (p < 0 ∨ m.1 14 3 - 1 < p) ∨ (z < 0 ∨ 1 < z)) : zEv (d + 7) zM_X7_ask 0 0 [.ref 0, .int p, .int z] (lay m) (some (.int (-1000001)), lay (m)) := by
  refine zEv_of (by decide) (fun G => Nat.le_of_ble_eq_true rfl) ?_
  show ZW _ _ _ _ 0 [some (.ref 0), some (.int p), some (.int z), none] [] _ _ _ _
  refine z_aload_n (i := 0) (q := 1) dX7_ask_0 rfl rfl rfl ?_
  refine z_iload_n (i := 1) (q := 2) dX7_ask_1 rfl rfl rfl ?_
  refine m_callV_r (As := [_]) (q := 5) mk_X7_isNobody dX7_ask_2 wd_472 wd_474 wp_16 (ci := 7) rfl ⟨by decide, _, rfl⟩ (ev_X7_isNobody _ _ _) rfl (by decide) rfl (Nat.zero_le _) (Nat.zero_le _) rfl ?_
  refine zb_ne (tgt := 17) (q := 8) dX7_ask_5 (by decide) rfl (fun c1 => ?_) (fun c1 => ?_)
  · skip
    refine z_ldc (q := 19) dX7_ask_17 wd_279 rfl ?_
    refine z_ireturn dX7_ask_19 rfl rfl ?_ (Nat.le_refl _) (Nat.le_refl _)
    rfl
  · skip
    refine z_iload_n (i := 2) (q := 9) dX7_ask_8 rfl rfl rfl ?_
    refine z_iconst (v := 0) (q := 10) dX7_ask_9 (by decide) rfl ?_
    refine z_iconst (v := 1) (q := 11) dX7_ask_10 (by decide) rfl ?_
    refine m_callS_r (As := [_, _, _]) (q := 14) mk_X7_isOutside dX7_ask_11 wd_276 wd_277 (ev_X7_isOutside _ _ _ _ _) rfl (by decide) rfl (Nat.zero_le _) (Nat.zero_le _) rfl ?_
    refine zb_eq (tgt := 20) (q := 17) dX7_ask_14 (by decide) rfl (fun c2 => ?_) (fun c2 => ?_)
    · exact absurd hb (fun q => q.elim c1 c2)
    · skip
      refine z_ldc (q := 19) dX7_ask_17 wd_279 rfl ?_
      refine z_ireturn dX7_ask_19 rfl rfl ?_ (Nat.le_refl _) (Nat.le_refl _)
      rfl
theorem gOk_0 (m : zm) : gOk (upI m 148 1 0) := ⟨0, by omega, upI_eq _ _ _ _⟩
set_option maxHeartbeats 4000000 in
set_option maxRecDepth 100000 in
theorem ev_X7_ask (d : Nat) (m : zm) (p : Nat) (z : Int32) (hn : ¬ (nI p < 0 ∨ m.1 14 3 - 1 < nI p)) (h2 : ¬ (z < 0 ∨ 1 < z)) (hp : p < 4) : zEv (d + 7) zM_X7_ask 0 0 [.ref 0, .int (nI p), .int z] (lay m) (some (.int (if z = 0 then cSz (upI m 148 1 0) (25 + p) (nI p) else if m.1 (25 + p) 0 = 4 ∨ m.1 (25 + p) 0 = 5 then nI p - cSz (upI m 148 1 0) (25 + p) (nI p) else cMk (upI m 148 1 0) (25 + p) (nI p))), lay (if z = 0 then cSzM (upI m 148 1 0) (25 + p) else if m.1 (25 + p) 0 = 4 ∨ m.1 (25 + p) 0 = 5 then cSzM (cBegan (cBegan (upI m 148 1 0) 23) 20) (25 + p) else cMkM (upI m 148 1 0) (25 + p))) := by
  refine zEv_of (by decide) (fun G => Nat.le_of_ble_eq_true rfl) ?_
  show ZW _ _ _ _ 0 [some (.ref 0), some (.int (nI p)), some (.int z), none] [] _ _ _ _
  refine z_aload_n (i := 0) (q := 1) dX7_ask_0 rfl rfl rfl ?_
  refine z_iload_n (i := 1) (q := 2) dX7_ask_1 rfl rfl rfl ?_
  refine m_callV_r (As := [_]) (q := 5) mk_X7_isNobody dX7_ask_2 wd_472 wd_474 wp_16 (ci := 7) rfl ⟨by decide, _, rfl⟩ (ev_X7_isNobody _ _ _) rfl (by decide) rfl (Nat.zero_le _) (Nat.zero_le _) rfl ?_
  refine zb_ne (tgt := 17) (q := 8) dX7_ask_5 (by decide) rfl (fun c1 => ?_) (fun c1 => ?_)
  · contradiction
  · skip
    refine z_iload_n (i := 2) (q := 9) dX7_ask_8 rfl rfl rfl ?_
    refine z_iconst (v := 0) (q := 10) dX7_ask_9 (by decide) rfl ?_
    refine z_iconst (v := 1) (q := 11) dX7_ask_10 (by decide) rfl ?_
    refine m_callS_r (As := [_, _, _]) (q := 14) mk_X7_isOutside dX7_ask_11 wd_276 wd_277 (ev_X7_isOutside _ _ _ _ _) rfl (by decide) rfl (Nat.zero_le _) (Nat.zero_le _) rfl ?_
    refine zb_eq (tgt := 20) (q := 17) dX7_ask_14 (by decide) rfl (fun c2 => ?_) (fun c2 => ?_)
    · skip
      refine z_aload_n (i := 0) (q := 21) dX7_ask_20 rfl rfl rfl ?_
      refine m_getR (r := 148) (q := 24) dX7_ask_21 fl_X7_77 ⟨by decide, _, rfl, rfl⟩ rfl ?_
      refine z_iconst (v := 0) (q := 25) dX7_ask_24 (by decide) rfl ?_
      refine m_putI (q := 28) dX7_ask_25 fp_X7_249 ⟨by decide, _, rfl, rfl⟩ ⟨rfl, rfl⟩ rfl ?_
      refine z_aload_n (i := 0) (q := 29) dX7_ask_28 rfl rfl rfl ?_
      refine m_getR (r := 14) (q := 32) dX7_ask_29 fl_X7_42 ⟨by decide, _, rfl, rfl⟩ rfl ?_
      refine m_getR (r := 16) (q := 35) dX7_ask_32 fl_X7_150 ⟨by decide, _, rfl, rfl⟩ rfl ?_
      refine z_iload_n (i := 1) (q := 36) dX7_ask_35 rfl rfl rfl ?_
      refine m_aald (kd := 5) (N := 4) (b := 25 + p) (q := 37) dX7_ask_36 (by decide) (okPn (by decide) rfl (by omega) (by decide)) (nI_pos' (by omega)) rfl ?_
      refine z_astore_n (i := 3) (ls' := [_, _, _, _]) (q := 38) dX7_ask_37 rfl (by decide) rfl rfl ?_
      refine z_iload_n (i := 2) (q := 39) dX7_ask_38 rfl rfl rfl ?_
      refine z_if_ne (tgt := 54) (q := 42) dX7_ask_39 (by decide) rfl (fun c3 => ?_) (fun c3 => ?_)
      · skip
        refine z_aload_n (i := 0) (q := 55) dX7_ask_54 rfl rfl rfl ?_
        refine m_getR (r := 148) (q := 58) dX7_ask_55 fl_X7_77 ⟨by decide, _, rfl, rfl⟩ rfl ?_
        refine z_aload_n (i := 3) (q := 59) dX7_ask_58 rfl rfl rfl ?_
        refine z_iload_n (i := 1) (q := 60) dX7_ask_59 rfl rfl rfl ?_
        refine m_callV_r (As := [_, _]) (q := 63) mk_X1_mark dX7_ask_60 wd_715 wd_716 wd_717 (ci := 1) rfl ⟨by decide, _, rfl⟩ (ev_X1_mark _ _ _ _ (isLea_14.2.2.2.2.2.2 p (by omega)) (gOk_0 m)) rfl (by decide) rfl (Nat.zero_le _) (Nat.zero_le _) rfl ?_
        refine z_ireturn dX7_ask_63 rfl rfl ?_ (Nat.le_refl _) (Nat.le_refl _)
        have e0 : (upI m 148 1 0).1 (25 + p) 0 = m.1 (25 + p) 0 := upI_ne (by omega)
        simp [c1, c2, c3, e0]
      · skip
        refine z_aload_n (i := 0) (q := 43) dX7_ask_42 rfl rfl rfl ?_
        refine m_getR (r := 148) (q := 46) dX7_ask_43 fl_X7_77 ⟨by decide, _, rfl, rfl⟩ rfl ?_
        refine z_aload_n (i := 3) (q := 47) dX7_ask_46 rfl rfl rfl ?_
        refine z_iload_n (i := 1) (q := 48) dX7_ask_47 rfl rfl rfl ?_
        refine m_callV_r (As := [_, _]) (q := 51) mk_X1_size dX7_ask_48 wd_683 wd_684 wd_685 (ci := 1) rfl ⟨by decide, _, rfl⟩ (ev_X1_size _ _ _ _ (isLea_14.2.2.2.2.2.2 p (by omega)) (gOk_0 m)) rfl (by decide) rfl (Nat.zero_le _) (Nat.zero_le _) rfl ?_
        refine z_goto (tgt := 63) dX7_ask_51 (by decide) ?_
        refine z_ireturn dX7_ask_63 rfl rfl ?_ (Nat.le_refl _) (Nat.le_refl _)
        have e0 : (upI m 148 1 0).1 (25 + p) 0 = m.1 (25 + p) 0 := upI_ne (by omega)
        simp [c1, c2, c3, e0]
    · contradiction
set_option maxHeartbeats 4000000 in
set_option maxRecDepth 100000 in
theorem ev_X7_trace_none (d : Nat) (m : zm) (i : Int32) (hb : i < 0 ∨ m.1 148 1 - 1 < i) : zEv (d + 1) zM_X7_trace 0 0 [.ref 0, .int i] (lay m) (some (.int (-1000000)), lay (m)) := by
  refine zEv_of (by decide) (fun G => Nat.le_of_ble_eq_true rfl) ?_
  show ZW _ _ _ _ 0 [some (.ref 0), some (.int i)] [] _ _ _ _
  refine z_iload_n (i := 1) (q := 1) dX7_trace_0 rfl rfl rfl ?_
  refine z_iconst (v := 0) (q := 2) dX7_trace_1 (by decide) rfl ?_
  refine z_aload_n (i := 0) (q := 3) dX7_trace_2 rfl rfl rfl ?_
  refine m_getR (r := 148) (q := 6) dX7_trace_3 fl_X7_77 ⟨by decide, _, rfl, rfl⟩ rfl ?_
  refine m_getI (q := 9) dX7_trace_6 fl_X7_249 ⟨by decide, _, rfl, rfl⟩ rfl ?_
  refine z_iconst (v := 1) (q := 10) dX7_trace_9 (by decide) rfl ?_
  refine z_isub (q := 11) dX7_trace_10 rfl ?_
  refine m_callS_r (As := [_, _, _]) (q := 14) mk_X7_isOutside dX7_trace_11 wd_276 wd_277 (ev_X7_isOutside _ _ _ _ _) rfl (by decide) rfl (Nat.zero_le _) (Nat.zero_le _) rfl ?_
  refine zb_eq (tgt := 22) (q := 17) dX7_trace_14 (by decide) rfl (fun c1 => ?_) (fun c1 => ?_)
  · contradiction
  · skip
    refine z_ldc (q := 19) dX7_trace_17 wd_604 rfl ?_
    refine z_goto (tgt := 31) dX7_trace_19 (by decide) ?_
    refine z_ireturn dX7_trace_31 rfl rfl ?_ (Nat.le_refl _) (Nat.le_refl _)
    rfl
set_option maxHeartbeats 4000000 in
set_option maxRecDepth 100000 in
theorem ev_X7_trace (d : Nat) (m : zm) (i : Nat) (hn : ¬ (nI i < 0 ∨ m.1 148 1 - 1 < nI i)) (hi : i < 16) : zEv (d + 1) zM_X7_trace 0 0 [.ref 0, .int (nI i)] (lay m) (some (.int (m.1 149 i)), lay (m)) := by
  refine zEv_of (by decide) (fun G => Nat.le_of_ble_eq_true rfl) ?_
  show ZW _ _ _ _ 0 [some (.ref 0), some (.int (nI i))] [] _ _ _ _
  refine z_iload_n (i := 1) (q := 1) dX7_trace_0 rfl rfl rfl ?_
  refine z_iconst (v := 0) (q := 2) dX7_trace_1 (by decide) rfl ?_
  refine z_aload_n (i := 0) (q := 3) dX7_trace_2 rfl rfl rfl ?_
  refine m_getR (r := 148) (q := 6) dX7_trace_3 fl_X7_77 ⟨by decide, _, rfl, rfl⟩ rfl ?_
  refine m_getI (q := 9) dX7_trace_6 fl_X7_249 ⟨by decide, _, rfl, rfl⟩ rfl ?_
  refine z_iconst (v := 1) (q := 10) dX7_trace_9 (by decide) rfl ?_
  refine z_isub (q := 11) dX7_trace_10 rfl ?_
  refine m_callS_r (As := [_, _, _]) (q := 14) mk_X7_isOutside dX7_trace_11 wd_276 wd_277 (ev_X7_isOutside _ _ _ _ _) rfl (by decide) rfl (Nat.zero_le _) (Nat.zero_le _) rfl ?_
  refine zb_eq (tgt := 22) (q := 17) dX7_trace_14 (by decide) rfl (fun c1 => ?_) (fun c1 => ?_)
  · skip
    refine z_aload_n (i := 0) (q := 23) dX7_trace_22 rfl rfl rfl ?_
    refine m_getR (r := 148) (q := 26) dX7_trace_23 fl_X7_77 ⟨by decide, _, rfl, rfl⟩ rfl ?_
    refine m_getR (r := 149) (q := 29) dX7_trace_26 fl_X7_258 ⟨by decide, _, rfl, rfl⟩ rfl ?_
    refine z_iload_n (i := 1) (q := 30) dX7_trace_29 rfl rfl rfl ?_
    refine m_ialdJ (N := 16) (q := 31) dX7_trace_30 ⟨by decide, _, rfl⟩ (j := i) (nI_clamp (by omega)) (vp_in_nI (by omega) (by decide)) rfl ?_
    refine z_ireturn dX7_trace_31 rfl rfl ?_ (Nat.le_refl _) (Nat.le_refl _)
    rfl
  · contradiction
set_option maxHeartbeats 4000000 in
set_option maxRecDepth 100000 in
theorem ev_X7_status (d : Nat) (m : zm) : zEv (d) zM_X7_status 0 0 [.ref 0] (lay m) (some (.int (m.1 0 3)), lay (m)) := by
  refine zEv_of (by decide) (fun G => Nat.le_of_ble_eq_true rfl) ?_
  show ZW _ _ _ _ 0 [some (.ref 0)] [] _ _ _ _
  refine z_aload_n (i := 0) (q := 1) dX7_status_0 rfl rfl rfl ?_
  refine m_getI (q := 4) dX7_status_1 fl_X7_21 ⟨by decide, _, rfl, rfl⟩ rfl ?_
  refine z_ireturn dX7_status_4 rfl rfl ?_ (Nat.le_refl _) (Nat.le_refl _)
  rfl
set_option maxHeartbeats 4000000 in
set_option maxRecDepth 100000 in
theorem ev_X7_fault (d : Nat) (m : zm) : zEv (d) zM_X7_fault 0 0 [.ref 0] (lay m) (some (.int (m.1 0 5)), lay (m)) := by
  refine zEv_of (by decide) (fun G => Nat.le_of_ble_eq_true rfl) ?_
  show ZW _ _ _ _ 0 [some (.ref 0)] [] _ _ _ _
  refine z_aload_n (i := 0) (q := 1) dX7_fault_0 rfl rfl rfl ?_
  refine m_getI (q := 4) dX7_fault_1 fl_X7_32 ⟨by decide, _, rfl, rfl⟩ rfl ?_
  refine z_ireturn dX7_fault_4 rfl rfl ?_ (Nat.le_refl _) (Nat.le_refl _)
  rfl
