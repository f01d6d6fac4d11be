/-! ===== the class: asks ===== -/
def gOk (m : zm) : Prop := ∃ g : Nat, g ≤ 16 ∧ m.1 148 1 = nI g
def cBegan (m : zm) (b : Int32) : zm := if 16 ≤ m.1 148 1 then m else upI (upI m 149 (m.1 148 1).toNatClampNeg b) 148 1 (m.1 148 1 + 1)
theorem gOk_b {m : zm} {b : Int32} (h : gOk m) : gOk (cBegan m b) := by
  obtain ⟨g, h1, h2⟩ := h
  unfold cBegan
  by_cases h3 : 16 ≤ m.1 148 1
  · rw [if_pos h3]; exact ⟨g, h1, h2⟩
  · rw [if_neg h3]
    refine ⟨g + 1, ?_, by rw [upI_eq, h2]; exact nI_1 g⟩
    rw [h2, show (16 : Int32) = nI 16 from rfl, nI_leI (by omega) (by omega)] at h3
    omega
theorem began_f {m : zm} {b : Int32} {a k : Nat} (ha : isPer a) : (cBegan m b).1 a k = m.1 a k := by
  unfold cBegan
  split
  · rfl
  · rw [upI_ne (fun z => isPer_ne ha (by decide) z.1), upI_ne (fun z => isPer_ne ha (by decide) z.1)]
def cMkM (m : zm) (a : Nat) : zm := if m.1 a 0 = 2 then cBegan (cBegan (cBegan m 24) 21) 20 else if m.1 a 0 = 3 then cBegan (cBegan (cBegan m 22) 21) 20 else cBegan (cBegan m 21) 20
def cMk (m : zm) (a : Nat) (n : Int32) : Int32 := if m.1 a 0 = 2 then 2 * (n + m.1 a 2) else if m.1 a 0 = 3 then n + m.1 a 2 - 1000 else n + m.1 a 2
theorem gOk_mk {m : zm} {a : Nat} (h : gOk m) : gOk (cMkM m a) := by
  unfold cMkM
  split
  · exact gOk_b (gOk_b (gOk_b h))
  · split
    · exact gOk_b (gOk_b (gOk_b h))
    · exact gOk_b (gOk_b h)
theorem mk_f {m : zm} {a k : Nat} (ha : isPer a) : (cMkM m a).1 a k = m.1 a k := by
  unfold cMkM
  split
  · rw [began_f ha, began_f ha, began_f ha]
  · split
    · rw [began_f ha, began_f ha, began_f ha]
    · rw [began_f ha, began_f ha]
def cSzM (m : zm) (a : Nat) : zm := if m.1 a 0 = 2 then cMkM (cBegan (cBegan (cBegan m 12) 11) 10) a else if m.1 a 0 = 4 then cBegan (cBegan m 13) 10 else if m.1 a 0 = 5 then cBegan (cBegan (cBegan m 14) 13) 10 else cMkM (cBegan (cBegan m 11) 10) a
def cSz (m : zm) (a : Nat) (n : Int32) : Int32 := if m.1 a 0 = 2 then -(m.1 a 4 + cMk m a n) else if m.1 a 0 = 4 then m.1 a 4 - 100 else if m.1 a 0 = 5 then 2 * (m.1 a 4 - 100) else m.1 a 4 + cMk m a n
theorem isCl {s : Int32} : ((4 : Int32) = 0 ∨ (4 : Int32) = s ∨ (4 : Int32) = (if s = 2 ∨ s = 3 then (1 : Int32) else if s = 5 then 4 else 0)) ↔ (s = 4 ∨ s = 5) := by
  by_cases h2 : s = 2
  · subst h2; decide
  · by_cases h3 : s = 3
    · subst h3; decide
    · by_cases h5 : s = 5
      · subst h5; decide
      · simp [h2, h3, h5]
        exact eq_comm
theorem cMk_c {m m' : zm} {a : Nat} {n : Int32} (h : ∀ k, m'.1 a k = m.1 a k) : cMk m' a n = cMk m a n := by
  unfold cMk
  rw [h 0, h 2]
theorem cSz_c {m m' : zm} {a : Nat} {n : Int32} (h : ∀ k, m'.1 a k = m.1 a k) : cSz m' a n = cSz m a n := by
  unfold cSz
  rw [h 0, h 4, cMk_c h]
set_option maxHeartbeats 4000000 in
set_option maxRecDepth 100000 in
theorem sg_X1_begin (d : Nat) (m : zm) (z : Int32) (g : Nat) (hg1 : g < 16) (hg : m.1 148 1 = nI g) : ZW zM_X1_begin (d) 0 0 9 [some (.ref 148), some (.int z)] [] (lay m) 0 0 (none, lay (upI (upI m 149 (m.1 148 1).toNatClampNeg z) 148 1 (m.1 148 1 + 1))) := by
  refine z_aload_n (i := 0) (q := 10) dX1_begin_9 rfl rfl rfl ?_
  refine m_getR (r := 149) (q := 13) dX1_begin_10 fl_X1_9 ⟨by decide, _, rfl, rfl⟩ rfl ?_
  refine z_aload_n (i := 0) (q := 14) dX1_begin_13 rfl rfl rfl ?_
  refine m_getI (q := 17) dX1_begin_14 fl_X1_15 ⟨by decide, _, rfl, rfl⟩ rfl ?_
  refine z_iload_n (i := 1) (q := 18) dX1_begin_17 rfl rfl rfl ?_
  refine m_iastJ (N := 16) (q := 19) dX1_begin_18 ⟨by decide, _, rfl⟩ (j := (m.1 148 1).toNatClampNeg) rfl (by rw [hg]; exact vp_in_nI hg1 (by decide)) rfl ?_
  refine z_aload_n (i := 0) (q := 20) dX1_begin_19 rfl rfl rfl ?_
  refine z_dup (q := 21) dX1_begin_20 rfl rfl ?_
  refine m_getI (q := 24) dX1_begin_21 fl_X1_15 ⟨by decide, _, rfl, rfl⟩ rfl ?_
  refine z_iconst (v := 1) (q := 25) dX1_begin_24 (by decide) rfl ?_
  refine z_iadd (q := 26) dX1_begin_25 rfl ?_
  refine m_putI (q := 29) dX1_begin_26 fp_X1_15 ⟨by decide, _, rfl, rfl⟩ ⟨rfl, rfl⟩ rfl ?_
  refine z_return dX1_begin_29 rfl ?_ (Nat.le_refl _) (Nat.le_refl _)
  rfl
set_option maxHeartbeats 4000000 in
set_option maxRecDepth 100000 in
theorem ev_X1_begin (d : Nat) (m : zm) (z : Int32) (hg : gOk m) : zEv (d) zM_X1_begin 0 0 [.ref 148, .int z] (lay m) (none, lay (cBegan m z)) := by
  refine zEv_of (by decide) (fun G => Nat.le_of_ble_eq_true rfl) ?_
  show ZW _ _ _ _ 0 [some (.ref 148), some (.int z)] [] _ _ _ _
  refine z_aload_n (i := 0) (q := 1) dX1_begin_0 rfl rfl rfl ?_
  refine m_getI (q := 4) dX1_begin_1 fl_X1_15 ⟨by decide, _, rfl, rfl⟩ rfl ?_
  refine z_bipush (v := 16) (q := 6) dX1_begin_4 (by decide) rfl ?_
  refine z_icmp_ge (tgt := 29) (q := 9) dX1_begin_6 (by decide) rfl (fun c1 => ?_) (fun c1 => ?_)
  · skip
    refine z_return dX1_begin_29 rfl ?_ (Nat.le_refl _) (Nat.le_refl _)
    rw [show cBegan m z = m from if_pos c1]
  · skip
    obtain ⟨g, hg1, hg2⟩ := hg
    rw [show cBegan m z = _ from if_neg c1]
    refine sg_X1_begin d m z g ?_ hg2
    rw [hg2, show (16 : Int32) = nI 16 from rfl, nI_leI (by omega) (by omega)] at c1
    omega
set_option maxHeartbeats 4000000 in
set_option maxRecDepth 100000 in
theorem ev_X1_lentMark (d : Nat) (m : zm) (z : Int32) (hg : gOk m) : zEv (d + 1) zM_X1_lentMark 0 0 [.ref 148, .int z] (lay m) (some (.int (z)), lay (cBegan m 20)) := by
  refine zEv_of (by decide) (fun G => Nat.le_of_ble_eq_true rfl) ?_
  show ZW _ _ _ _ 0 [some (.ref 148), some (.int z)] [] _ _ _ _
  refine z_aload_n (i := 0) (q := 1) dX1_lentMark_0 rfl rfl rfl ?_
  refine z_bipush (v := 20) (q := 3) dX1_lentMark_1 (by decide) rfl ?_
  refine m_callV_v (As := [_]) (q := 6) mk_X1_begin dX1_lentMark_3 wd_687 wd_689 wp_22 (ci := 1) rfl ⟨by decide, _, rfl⟩ (ev_X1_begin _ _ _  (by repeat (first | exact hg | refine gOk_b ?_ | refine gOk_mk ?_))) rfl (by decide) rfl (Nat.zero_le _) (Nat.zero_le _) rfl ?_
  refine z_iload_n (i := 1) (q := 7) dX1_lentMark_6 rfl rfl rfl ?_
  refine z_ireturn dX1_lentMark_7 rfl rfl ?_ (Nat.le_refl _) (Nat.le_refl _)
  rfl
set_option maxHeartbeats 4000000 in
set_option maxRecDepth 100000 in
theorem ev_X1_lentSize (d : Nat) (m : zm) (a : Nat) (ha : isPer a) (hg : gOk m) : zEv (d + 1) zM_X1_lentSize 0 0 [.ref 148, .ref a] (lay m) (some (.int (m.1 a 4)), lay (cBegan m 10)) := by
  refine zEv_of (by decide) (fun G => Nat.le_of_ble_eq_true rfl) ?_
  show ZW _ _ _ _ 0 [some (.ref 148), some (.ref a)] [] _ _ _ _
  refine z_aload_n (i := 0) (q := 1) dX1_lentSize_0 rfl rfl rfl ?_
  refine z_bipush (v := 10) (q := 3) dX1_lentSize_1 (by decide) rfl ?_
  refine m_callV_v (As := [_]) (q := 6) mk_X1_begin dX1_lentSize_3 wd_687 wd_689 wp_22 (ci := 1) rfl ⟨by decide, _, rfl⟩ (ev_X1_begin _ _ _  (by repeat (first | exact hg | refine gOk_b ?_ | refine gOk_mk ?_))) rfl (by decide) rfl (Nat.zero_le _) (Nat.zero_le _) rfl ?_
  refine z_aload_n (i := 1) (q := 7) dX1_lentSize_6 rfl rfl rfl ?_
  refine m_getI (q := 10) dX1_lentSize_7 fl_X1_53 ⟨ha.1, _, ha.2, rfl⟩ rfl ?_
  refine z_ireturn dX1_lentSize_10 rfl rfl ?_ (Nat.le_refl _) (Nat.le_refl _)
  rw [began_f ha]
set_option maxHeartbeats 4000000 in
set_option maxRecDepth 100000 in
theorem ev_X1_markOfCaptain (d : Nat) (m : zm) (a : Nat) (z : Int32) (ha : isPer a) (hg : gOk m) : zEv (d + 2) zM_X1_markOfCaptain 0 0 [.ref 148, .ref a, .int z] (lay m) (some (.int (z + m.1 a 2)), lay (cBegan (cBegan m 21) 20)) := by
  refine zEv_of (by decide) (fun G => Nat.le_of_ble_eq_true rfl) ?_
  show ZW _ _ _ _ 0 [some (.ref 148), some (.ref a), some (.int z)] [] _ _ _ _
  refine z_aload_n (i := 0) (q := 1) dX1_markOfCaptain_0 rfl rfl rfl ?_
  refine z_bipush (v := 21) (q := 3) dX1_markOfCaptain_1 (by decide) rfl ?_
  refine m_callV_v (As := [_]) (q := 6) mk_X1_begin dX1_markOfCaptain_3 wd_687 wd_689 wp_22 (ci := 1) rfl ⟨by decide, _, rfl⟩ (ev_X1_begin _ _ _  (by repeat (first | exact hg | refine gOk_b ?_ | refine gOk_mk ?_))) rfl (by decide) rfl (Nat.zero_le _) (Nat.zero_le _) rfl ?_
  refine z_aload_n (i := 0) (q := 7) dX1_markOfCaptain_6 rfl rfl rfl ?_
  refine z_iload_n (i := 2) (q := 8) dX1_markOfCaptain_7 rfl rfl rfl ?_
  refine m_callV_r (As := [_]) (q := 11) mk_X1_lentMark dX1_markOfCaptain_8 wd_707 wd_709 wp_27 (ci := 1) rfl ⟨by decide, _, rfl⟩ (ev_X1_lentMark _ _ _  (by repeat (first | exact hg | refine gOk_b ?_ | refine gOk_mk ?_))) rfl (by decide) rfl (Nat.zero_le _) (Nat.zero_le _) rfl ?_
  refine z_aload_n (i := 1) (q := 12) dX1_markOfCaptain_11 rfl rfl rfl ?_
  refine m_getI (q := 15) dX1_markOfCaptain_12 fl_X1_59 ⟨ha.1, _, ha.2, rfl⟩ rfl ?_
  refine z_iadd (q := 16) dX1_markOfCaptain_15 rfl ?_
  refine z_ireturn dX1_markOfCaptain_16 rfl rfl ?_ (Nat.le_refl _) (Nat.le_refl _)
  rw [began_f ha, began_f ha]
set_option maxHeartbeats 4000000 in
set_option maxRecDepth 100000 in
theorem ev_X1_markAmongCaptains (d : Nat) (m : zm) (a : Nat) (z : Int32) (ha : isPer a) (hg : gOk m) : zEv (d + 3) zM_X1_markAmongCaptains 0 0 [.ref 148, .ref a, .int z] (lay m) (some (.int (cMk m a z)), lay (cMkM m a)) := by
  refine zEv_of (by decide) (fun G => Nat.le_of_ble_eq_true rfl) ?_
  show ZW _ _ _ _ 0 [some (.ref 148), some (.ref a), some (.int z)] [] _ _ _ _
  refine z_aload_n (i := 1) (q := 1) dX1_markAmongCaptains_0 rfl rfl rfl ?_
  refine m_getI (q := 4) dX1_markAmongCaptains_1 fl_X1_19 ⟨ha.1, _, ha.2, rfl⟩ rfl ?_
  refine z_look2 (v1 := 2) (v2 := 3) (t1 := 32) (t2 := 47) (dt := 64) dX1_markAmongCaptains_4 (by decide) (by decide) (by decide) (by decide) (by decide) (by decide) (fun c1 => ?_) (fun c1 => ?_) (fun c1 c1b => ?_)
  · skip
    refine z_aload_n (i := 0) (q := 33) dX1_markAmongCaptains_32 rfl rfl rfl ?_
    refine z_bipush (v := 24) (q := 35) dX1_markAmongCaptains_33 (by decide) rfl ?_
    refine m_callV_v (As := [_]) (q := 38) mk_X1_begin dX1_markAmongCaptains_35 wd_687 wd_689 wp_22 (ci := 1) rfl ⟨by decide, _, rfl⟩ (ev_X1_begin _ _ _  (by repeat (first | exact hg | refine gOk_b ?_ | refine gOk_mk ?_))) rfl (by decide) rfl (Nat.zero_le _) (Nat.zero_le _) rfl ?_
    refine z_iconst (v := 2) (q := 39) dX1_markAmongCaptains_38 (by decide) rfl ?_
    refine z_aload_n (i := 0) (q := 40) dX1_markAmongCaptains_39 rfl rfl rfl ?_
    refine z_aload_n (i := 1) (q := 41) dX1_markAmongCaptains_40 rfl rfl rfl ?_
    refine z_iload_n (i := 2) (q := 42) dX1_markAmongCaptains_41 rfl rfl rfl ?_
    refine m_callV_r (As := [_, _]) (q := 45) mk_X1_markOfCaptain dX1_markAmongCaptains_42 wd_703 wd_705 wp_26 (ci := 1) rfl ⟨by decide, _, rfl⟩ (ev_X1_markOfCaptain _ _ _ _ ha (by repeat (first | exact hg | refine gOk_b ?_ | refine gOk_mk ?_))) rfl (by simp [Value.category]) rfl (Nat.zero_le _) (Nat.zero_le _) rfl ?_
    refine z_imul (q := 46) dX1_markAmongCaptains_45 rfl ?_
    refine z_ireturn dX1_markAmongCaptains_46 rfl rfl ?_ (Nat.le_refl _) (Nat.le_refl _)
    simp [cMk, cMkM, c1, began_f ha]
  · skip
    refine z_aload_n (i := 0) (q := 48) dX1_markAmongCaptains_47 rfl rfl rfl ?_
    refine z_bipush (v := 22) (q := 50) dX1_markAmongCaptains_48 (by decide) rfl ?_
    refine m_callV_v (As := [_]) (q := 53) mk_X1_begin dX1_markAmongCaptains_50 wd_687 wd_689 wp_22 (ci := 1) rfl ⟨by decide, _, rfl⟩ (ev_X1_begin _ _ _  (by repeat (first | exact hg | refine gOk_b ?_ | refine gOk_mk ?_))) rfl (by decide) rfl (Nat.zero_le _) (Nat.zero_le _) rfl ?_
    refine z_aload_n (i := 0) (q := 54) dX1_markAmongCaptains_53 rfl rfl rfl ?_
    refine z_aload_n (i := 1) (q := 55) dX1_markAmongCaptains_54 rfl rfl rfl ?_
    refine z_iload_n (i := 2) (q := 56) dX1_markAmongCaptains_55 rfl rfl rfl ?_
    refine m_callV_r (As := [_, _]) (q := 59) mk_X1_markOfCaptain dX1_markAmongCaptains_56 wd_703 wd_705 wp_26 (ci := 1) rfl ⟨by decide, _, rfl⟩ (ev_X1_markOfCaptain _ _ _ _ ha (by repeat (first | exact hg | refine gOk_b ?_ | refine gOk_mk ?_))) rfl (by decide) rfl (Nat.zero_le _) (Nat.zero_le _) rfl ?_
    refine z_sipush (v := 1000) (q := 62) dX1_markAmongCaptains_59 (by decide) rfl ?_
    refine z_isub (q := 63) dX1_markAmongCaptains_62 rfl ?_
    refine z_ireturn dX1_markAmongCaptains_63 rfl rfl ?_ (Nat.le_refl _) (Nat.le_refl _)
    simp [cMk, cMkM, c1, began_f ha]
  · skip
    refine z_aload_n (i := 0) (q := 65) dX1_markAmongCaptains_64 rfl rfl rfl ?_
    refine z_aload_n (i := 1) (q := 66) dX1_markAmongCaptains_65 rfl rfl rfl ?_
    refine z_iload_n (i := 2) (q := 67) dX1_markAmongCaptains_66 rfl rfl rfl ?_
    refine m_callV_r (As := [_, _]) (q := 70) mk_X1_markOfCaptain dX1_markAmongCaptains_67 wd_703 wd_705 wp_26 (ci := 1) rfl ⟨by decide, _, rfl⟩ (ev_X1_markOfCaptain _ _ _ _ ha (by repeat (first | exact hg | refine gOk_b ?_ | refine gOk_mk ?_))) rfl (by decide) rfl (Nat.zero_le _) (Nat.zero_le _) rfl ?_
    refine z_ireturn dX1_markAmongCaptains_70 rfl rfl ?_ (Nat.le_refl _) (Nat.le_refl _)
    simp [cMk, cMkM, c1, c1b, began_f ha]
set_option maxHeartbeats 4000000 in
set_option maxRecDepth 100000 in
theorem ev_X1_sizeOfCaptain (d : Nat) (m : zm) (a : Nat) (z : Int32) (ha : isPer a) (hg : gOk m) : zEv (d + 4) zM_X1_sizeOfCaptain 0 0 [.ref 148, .ref a, .int z] (lay m) (some (.int (m.1 a 4 + cMk m a z)), lay (cMkM (cBegan (cBegan m 11) 10) a)) := by
  refine zEv_of (by decide) (fun G => Nat.le_of_ble_eq_true rfl) ?_
  show ZW _ _ _ _ 0 [some (.ref 148), some (.ref a), some (.int z), none] [] _ _ _ _
  refine z_aload_n (i := 0) (q := 1) dX1_sizeOfCaptain_0 rfl rfl rfl ?_
  refine z_bipush (v := 11) (q := 3) dX1_sizeOfCaptain_1 (by decide) rfl ?_
  refine m_callV_v (As := [_]) (q := 6) mk_X1_begin dX1_sizeOfCaptain_3 wd_687 wd_689 wp_22 (ci := 1) rfl ⟨by decide, _, rfl⟩ (ev_X1_begin _ _ _  (by repeat (first | exact hg | refine gOk_b ?_ | refine gOk_mk ?_))) rfl (by decide) rfl (Nat.zero_le _) (Nat.zero_le _) rfl ?_
  refine z_aload_n (i := 0) (q := 7) dX1_sizeOfCaptain_6 rfl rfl rfl ?_
  refine z_aload_n (i := 1) (q := 8) dX1_sizeOfCaptain_7 rfl rfl rfl ?_
  refine m_callV_r (As := [_]) (q := 11) mk_X1_lentSize dX1_sizeOfCaptain_8 wd_695 wd_697 wp_24 (ci := 1) rfl ⟨by decide, _, rfl⟩ (ev_X1_lentSize _ _ _ ha (by repeat (first | exact hg | refine gOk_b ?_ | refine gOk_mk ?_))) rfl (by decide) rfl (Nat.zero_le _) (Nat.zero_le _) rfl ?_
  refine z_istore_n (i := 3) (ls' := [_, _, _, _]) (q := 12) dX1_sizeOfCaptain_11 rfl (by decide) rfl rfl ?_
  refine z_iload_n (i := 3) (q := 13) dX1_sizeOfCaptain_12 rfl rfl rfl ?_
  refine z_aload_n (i := 0) (q := 14) dX1_sizeOfCaptain_13 rfl rfl rfl ?_
  refine z_aload_n (i := 1) (q := 15) dX1_sizeOfCaptain_14 rfl rfl rfl ?_
  refine z_iload_n (i := 2) (q := 16) dX1_sizeOfCaptain_15 rfl rfl rfl ?_
  refine m_callV_r (As := [_, _]) (q := 19) mk_X1_markAmongCaptains dX1_sizeOfCaptain_16 wd_699 wd_701 wp_25 (ci := 1) rfl ⟨by decide, _, rfl⟩ (ev_X1_markAmongCaptains _ _ _ _ ha (by repeat (first | exact hg | refine gOk_b ?_ | refine gOk_mk ?_))) rfl (by simp [Value.category]) rfl (Nat.zero_le _) (Nat.zero_le _) rfl ?_
  refine z_iadd (q := 20) dX1_sizeOfCaptain_19 rfl ?_
  refine z_ireturn dX1_sizeOfCaptain_20 rfl rfl ?_ (Nat.le_refl _) (Nat.le_refl _)
  rw [began_f ha, cMk_c (m := m) (m' := cBegan (cBegan m 11) 10) (fun k => by rw [began_f ha, began_f ha])]
set_option maxHeartbeats 4000000 in
set_option maxRecDepth 100000 in
theorem ev_X1_sizeOfClerk (d : Nat) (m : zm) (a : Nat) (ha : isPer a) (hg : gOk m) : zEv (d + 2) zM_X1_sizeOfClerk 0 0 [.ref 148, .ref a] (lay m) (some (.int (m.1 a 4 - 100)), lay (cBegan (cBegan m 13) 10)) := by
  refine zEv_of (by decide) (fun G => Nat.le_of_ble_eq_true rfl) ?_
  show ZW _ _ _ _ 0 [some (.ref 148), some (.ref a)] [] _ _ _ _
  refine z_aload_n (i := 0) (q := 1) dX1_sizeOfClerk_0 rfl rfl rfl ?_
  refine z_bipush (v := 13) (q := 3) dX1_sizeOfClerk_1 (by decide) rfl ?_
  refine m_callV_v (As := [_]) (q := 6) mk_X1_begin dX1_sizeOfClerk_3 wd_687 wd_689 wp_22 (ci := 1) rfl ⟨by decide, _, rfl⟩ (ev_X1_begin _ _ _  (by repeat (first | exact hg | refine gOk_b ?_ | refine gOk_mk ?_))) rfl (by decide) rfl (Nat.zero_le _) (Nat.zero_le _) rfl ?_
  refine z_aload_n (i := 0) (q := 7) dX1_sizeOfClerk_6 rfl rfl rfl ?_
  refine z_aload_n (i := 1) (q := 8) dX1_sizeOfClerk_7 rfl rfl rfl ?_
  refine m_callV_r (As := [_]) (q := 11) mk_X1_lentSize dX1_sizeOfClerk_8 wd_695 wd_697 wp_24 (ci := 1) rfl ⟨by decide, _, rfl⟩ (ev_X1_lentSize _ _ _ ha (by repeat (first | exact hg | refine gOk_b ?_ | refine gOk_mk ?_))) rfl (by decide) rfl (Nat.zero_le _) (Nat.zero_le _) rfl ?_
  refine z_bipush (v := 100) (q := 13) dX1_sizeOfClerk_11 (by decide) rfl ?_
  refine z_isub (q := 14) dX1_sizeOfClerk_13 rfl ?_
  refine z_ireturn dX1_sizeOfClerk_14 rfl rfl ?_ (Nat.le_refl _) (Nat.le_refl _)
  rw [began_f ha]
set_option maxHeartbeats 4000000 in
set_option maxRecDepth 100000 in
theorem ev_X1_size (d : Nat) (m : zm) (a : Nat) (z : Int32) (ha : isPer a) (hg : gOk m) : zEv (d + 5) zM_X1_size 0 0 [.ref 148, .ref a, .int z] (lay m) (some (.int (cSz m a z)), lay (cSzM m a)) := by
  refine zEv_of (by decide) (fun G => Nat.le_of_ble_eq_true rfl) ?_
  show ZW _ _ _ _ 0 [some (.ref 148), some (.ref a), some (.int z)] [] _ _ _ _
  refine z_aload_n (i := 1) (q := 1) dX1_size_0 rfl rfl rfl ?_
  refine m_getI (q := 4) dX1_size_1 fl_X1_19 ⟨ha.1, _, ha.2, rfl⟩ rfl ?_
  refine z_table (tgts := [36, 70, 50, 56]) (dt := 70) dX1_size_4 (by decide) (by decide) (by decide) (fun j t ht c1 => ?_) (fun c1 => ?_)
  · match j, ht, c1 with
    | 0, ht, c1 =>
      cases ht
      have c1 : _ = (2 : Int32) := Int32.toInt_inj.mp c1
      refine z_aload_n (i := 0) (q := 37) dX1_size_36 rfl rfl rfl ?_
      refine z_bipush (v := 12) (q := 39) dX1_size_37 (by decide) rfl ?_
      refine m_callV_v (As := [_]) (q := 42) mk_X1_begin dX1_size_39 wd_687 wd_689 wp_22 (ci := 1) rfl ⟨by decide, _, rfl⟩ (ev_X1_begin _ _ _  (by repeat (first | exact hg | refine gOk_b ?_ | refine gOk_mk ?_))) rfl (by decide) rfl (Nat.zero_le _) (Nat.zero_le _) rfl ?_
      refine z_aload_n (i := 0) (q := 43) dX1_size_42 rfl rfl rfl ?_
      refine z_aload_n (i := 1) (q := 44) dX1_size_43 rfl rfl rfl ?_
      refine z_iload_n (i := 2) (q := 45) dX1_size_44 rfl rfl rfl ?_
      refine m_callV_r (As := [_, _]) (q := 48) mk_X1_sizeOfCaptain dX1_size_45 wd_691 wd_693 wp_23 (ci := 1) rfl ⟨by decide, _, rfl⟩ (ev_X1_sizeOfCaptain _ _ _ _ ha (by repeat (first | exact hg | refine gOk_b ?_ | refine gOk_mk ?_))) rfl (by decide) rfl (Nat.zero_le _) (Nat.zero_le _) rfl ?_
      refine z_ineg (q := 49) dX1_size_48 rfl ?_
      refine z_ireturn dX1_size_49 rfl rfl ?_ (Nat.le_refl _) (Nat.le_refl _)
      simp [cSz, cSzM, c1, began_f ha, cMk, cMkM]
    | 1, ht, c1 =>
      cases ht
      have c1 : _ = (3 : Int32) := Int32.toInt_inj.mp c1
      refine z_aload_n (i := 0) (q := 71) dX1_size_70 rfl rfl rfl ?_
      refine z_aload_n (i := 1) (q := 72) dX1_size_71 rfl rfl rfl ?_
      refine z_iload_n (i := 2) (q := 73) dX1_size_72 rfl rfl rfl ?_
      refine m_callV_r (As := [_, _]) (q := 76) mk_X1_sizeOfCaptain dX1_size_73 wd_691 wd_693 wp_23 (ci := 1) rfl ⟨by decide, _, rfl⟩ (ev_X1_sizeOfCaptain _ _ _ _ ha (by repeat (first | exact hg | refine gOk_b ?_ | refine gOk_mk ?_))) rfl (by decide) rfl (Nat.zero_le _) (Nat.zero_le _) rfl ?_
      refine z_ireturn dX1_size_76 rfl rfl ?_ (Nat.le_refl _) (Nat.le_refl _)
      simp [cSz, cSzM, c1, began_f ha, cMk, cMkM]
    | 2, ht, c1 =>
      cases ht
      have c1 : _ = (4 : Int32) := Int32.toInt_inj.mp c1
      refine z_aload_n (i := 0) (q := 51) dX1_size_50 rfl rfl rfl ?_
      refine z_aload_n (i := 1) (q := 52) dX1_size_51 rfl rfl rfl ?_
      refine m_callV_r (As := [_]) (q := 55) mk_X1_sizeOfClerk dX1_size_52 wd_711 wd_713 wp_28 (ci := 1) rfl ⟨by decide, _, rfl⟩ (ev_X1_sizeOfClerk _ _ _ ha (by repeat (first | exact hg | refine gOk_b ?_ | refine gOk_mk ?_))) rfl (by decide) rfl (Nat.zero_le _) (Nat.zero_le _) rfl ?_
      refine z_ireturn dX1_size_55 rfl rfl ?_ (Nat.le_refl _) (Nat.le_refl _)
      simp [cSz, cSzM, c1, began_f ha, cMk, cMkM]
    | 3, ht, c1 =>
      cases ht
      have c1 : _ = (5 : Int32) := Int32.toInt_inj.mp c1
      refine z_aload_n (i := 0) (q := 57) dX1_size_56 rfl rfl rfl ?_
      refine z_bipush (v := 14) (q := 59) dX1_size_57 (by decide) rfl ?_
      refine m_callV_v (As := [_]) (q := 62) mk_X1_begin dX1_size_59 wd_687 wd_689 wp_22 (ci := 1) rfl ⟨by decide, _, rfl⟩ (ev_X1_begin _ _ _  (by repeat (first | exact hg | refine gOk_b ?_ | refine gOk_mk ?_))) rfl (by decide) rfl (Nat.zero_le _) (Nat.zero_le _) rfl ?_
      refine z_iconst (v := 2) (q := 63) dX1_size_62 (by decide) rfl ?_
      refine z_aload_n (i := 0) (q := 64) dX1_size_63 rfl rfl rfl ?_
      refine z_aload_n (i := 1) (q := 65) dX1_size_64 rfl rfl rfl ?_
      refine m_callV_r (As := [_]) (q := 68) mk_X1_sizeOfClerk dX1_size_65 wd_711 wd_713 wp_28 (ci := 1) rfl ⟨by decide, _, rfl⟩ (ev_X1_sizeOfClerk _ _ _ ha (by repeat (first | exact hg | refine gOk_b ?_ | refine gOk_mk ?_))) rfl (by simp [Value.category]) rfl (Nat.zero_le _) (Nat.zero_le _) rfl ?_
      refine z_imul (q := 69) dX1_size_68 rfl ?_
      refine z_ireturn dX1_size_69 rfl rfl ?_ (Nat.le_refl _) (Nat.le_refl _)
      simp [cSz, cSzM, c1, began_f ha, cMk, cMkM]
    | j + 4, ht, c1 => exact absurd ht (by simp)
  · skip
    have c1_0 := zout (v := 2) c1 (by decide)
    have c1_1 := zout (v := 3) c1 (by decide)
    have c1_2 := zout (v := 4) c1 (by decide)
    have c1_3 := zout (v := 5) c1 (by decide)
    refine z_aload_n (i := 0) (q := 71) dX1_size_70 rfl rfl rfl ?_
    refine z_aload_n (i := 1) (q := 72) dX1_size_71 rfl rfl rfl ?_
    refine z_iload_n (i := 2) (q := 73) dX1_size_72 rfl rfl rfl ?_
    refine m_callV_r (As := [_, _]) (q := 76) mk_X1_sizeOfCaptain dX1_size_73 wd_691 wd_693 wp_23 (ci := 1) rfl ⟨by decide, _, rfl⟩ (ev_X1_sizeOfCaptain _ _ _ _ ha (by repeat (first | exact hg | refine gOk_b ?_ | refine gOk_mk ?_))) rfl (by decide) rfl (Nat.zero_le _) (Nat.zero_le _) rfl ?_
    refine z_ireturn dX1_size_76 rfl rfl ?_ (Nat.le_refl _) (Nat.le_refl _)
    simp [cSz, cSzM, c1_0, c1_1, c1_2, c1_3, began_f ha, cMk, cMkM]
set_option maxHeartbeats 4000000 in
set_option maxRecDepth 100000 in
theorem ev_X1_mark (d : Nat) (m : zm) (a : Nat) (z : Int32) (ha : isPer a) (hg : gOk m) : zEv (d + 6) zM_X1_mark 0 0 [.ref 148, .ref a, .int z] (lay m) (some (.int (if m.1 a 0 = 4 ∨ m.1 a 0 = 5 then z - cSz m a z else cMk m a z)), lay (if m.1 a 0 = 4 ∨ m.1 a 0 = 5 then cSzM (cBegan (cBegan m 23) 20) a else cMkM m a)) := by
  refine zEv_of (by decide) (fun G => Nat.le_of_ble_eq_true rfl) ?_
  show ZW _ _ _ _ 0 [some (.ref 148), some (.ref a), some (.int z), none] [] _ _ _ _
  refine z_aload_n (i := 1) (q := 1) dX1_mark_0 rfl rfl rfl ?_
  refine m_getI (q := 4) dX1_mark_1 fl_X1_19 ⟨ha.1, _, ha.2, rfl⟩ rfl ?_
  refine z_iconst (v := 4) (q := 5) dX1_mark_4 (by decide) rfl ?_
  refine m_callSN_r (host := RX7) (As := [_, _]) (q := 8) mk_X7_isOfKind dX1_mark_5 (by decide +kernel) wd_674 (ev_X7_isOfKind _ _ _ _) rfl (by decide) rfl (Nat.zero_le _) (Nat.zero_le _) rfl ?_
  refine zb_ne (tgt := 18) (q := 11) dX1_mark_8 (by decide) rfl (fun c1 => ?_) (fun c1 => ?_)
  · skip
    refine z_aload_n (i := 0) (q := 19) dX1_mark_18 rfl rfl rfl ?_
    refine z_bipush (v := 23) (q := 21) dX1_mark_19 (by decide) rfl ?_
    refine m_callV_v (As := [_]) (q := 24) mk_X1_begin dX1_mark_21 wd_687 wd_689 wp_22 (ci := 1) rfl ⟨by decide, _, rfl⟩ (ev_X1_begin _ _ _  (by repeat (first | exact hg | refine gOk_b ?_ | refine gOk_mk ?_))) rfl (by decide) rfl (Nat.zero_le _) (Nat.zero_le _) rfl ?_
    refine z_aload_n (i := 0) (q := 25) dX1_mark_24 rfl rfl rfl ?_
    refine z_iload_n (i := 2) (q := 26) dX1_mark_25 rfl rfl rfl ?_
    refine m_callV_r (As := [_]) (q := 29) mk_X1_lentMark dX1_mark_26 wd_707 wd_709 wp_27 (ci := 1) rfl ⟨by decide, _, rfl⟩ (ev_X1_lentMark _ _ _  (by repeat (first | exact hg | refine gOk_b ?_ | refine gOk_mk ?_))) rfl (by decide) rfl (Nat.zero_le _) (Nat.zero_le _) rfl ?_
    refine z_istore_n (i := 3) (ls' := [_, _, _, _]) (q := 30) dX1_mark_29 rfl (by decide) rfl rfl ?_
    refine z_iload_n (i := 3) (q := 31) dX1_mark_30 rfl rfl rfl ?_
    refine z_aload_n (i := 0) (q := 32) dX1_mark_31 rfl rfl rfl ?_
    refine z_aload_n (i := 1) (q := 33) dX1_mark_32 rfl rfl rfl ?_
    refine z_iload_n (i := 2) (q := 34) dX1_mark_33 rfl rfl rfl ?_
    refine m_callV_r (As := [_, _]) (q := 37) mk_X1_size dX1_mark_34 wd_720 wd_684 wd_685 (ci := 1) rfl ⟨by decide, _, rfl⟩ (ev_X1_size _ _ _ _ ha (by repeat (first | exact hg | refine gOk_b ?_ | refine gOk_mk ?_))) rfl (by simp [Value.category]) rfl (Nat.zero_le _) (Nat.zero_le _) rfl ?_
    refine z_isub (q := 38) dX1_mark_37 rfl ?_
    refine z_ireturn dX1_mark_38 rfl rfl ?_ (Nat.le_refl _) (Nat.le_refl _)
    rw [isCl] at c1
    rw [if_pos c1, if_pos c1, cSz_c (m := m) (m' := cBegan (cBegan m 23) 20) (fun k => by rw [began_f ha, began_f ha])]
  · skip
    refine z_aload_n (i := 0) (q := 12) dX1_mark_11 rfl rfl rfl ?_
    refine z_aload_n (i := 1) (q := 13) dX1_mark_12 rfl rfl rfl ?_
    refine z_iload_n (i := 2) (q := 14) dX1_mark_13 rfl rfl rfl ?_
    refine m_callV_r (As := [_, _]) (q := 17) mk_X1_markAmongCaptains dX1_mark_14 wd_699 wd_701 wp_25 (ci := 1) rfl ⟨by decide, _, rfl⟩ (ev_X1_markAmongCaptains _ _ _ _ ha (by repeat (first | exact hg | refine gOk_b ?_ | refine gOk_mk ?_))) rfl (by decide) rfl (Nat.zero_le _) (Nat.zero_le _) rfl ?_
    refine z_ireturn dX1_mark_17 rfl rfl ?_ (Nat.le_refl _) (Nat.le_refl _)
    rw [isCl] at c1
    rw [if_neg c1, if_neg c1]
