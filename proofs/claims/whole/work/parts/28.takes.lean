/-! ===== the class: what is taken of the tape ===== -/
def tT (m : zm) : Nat := (m.1 12 1).toNatClampNeg
def tB (m : zm) : Nat := (m.1 12 4).toNatClampNeg
def tS (m : zm) : Nat := (m.1 12 3).toNatClampNeg
def tOk (m : zm) : Prop := m.1 12 1 = nI (tT m) ∧ tT m ≤ 400 ∧ m.1 12 4 = nI (tB m) ∧ tB m ≤ tT m ∧ m.1 12 3 = nI (tS m) ∧ tS m ≤ tB m
abbrev cNx (m : zm) : zm := cNext m (tT m) (tB m)
abbrev isWx (m : zm) (i : Nat) : Prop := isWd m i (tB m) (tS m)
theorem tOk_of {m : zm} {t b s : Nat} (h1 : m.1 12 1 = nI t) (h2 : t ≤ 400) (h3 : m.1 12 4 = nI b) (h4 : b ≤ t) (h5 : m.1 12 3 = nI s) (h6 : s ≤ b) : tOk m ∧ tT m = t ∧ tB m = b ∧ tS m = s := by
  have e1 : tT m = t := by unfold tT; rw [h1, nI_clamp (by omega)]
  have e2 : tB m = b := by unfold tB; rw [h3, nI_clamp (by omega)]
  have e3 : tS m = s := by unfold tS; rw [h5, nI_clamp (by omega)]
  exact ⟨⟨by rw [e1]; exact h1, by omega, by rw [e2]; exact h3, by omega, by rw [e3]; exact h5, by omega⟩, e1, e2, e3⟩
theorem tOk_tok {m : zm} {t s : Nat} (ht : m.1 12 1 = nI t) (ht4 : t ≤ 400) (hs : m.1 12 4 = nI s) (hst : s ≤ t) : tOk (cTok m t s) := by
  unfold cTok
  split
  next h => exact (tOk_of (t := t) (b := s) (s := s) (by simp [upI, ht]) ht4 (by simp [upI, hs]) hst (by simp [upI]) (Nat.le_refl _)).1
  next h =>
    split
    next h2 =>
      have he := cPass_le (m.1 13) t 97 122 (t - s) s hst
      exact (tOk_of (t := t) (s := s) (by simp [upI, ht]) ht4 (by simp [upI]) he.2 (by simp [upI]) he.1).1
    next h2 =>
      split
      next h3 =>
        have he := cPass_le (m.1 13) t 48 57 (t - s) s hst
        unfold cNumTok
        split
        · exact (tOk_of (t := t) (s := s) (by simp [upI, ht]) ht4 (by simp [upI]) he.2 (by simp [upI]) he.1).1
        · exact (tOk_of (t := t) (s := s) (by simp [upI, ht]) ht4 (by simp [upI]) he.2 (by simp [upI]) he.1).1
      next h3 => exact (tOk_of (t := t) (b := s + 1) (s := s) (by simp [upI, ht]) ht4 (by simp [upI]) (by omega) (by simp [upI]) (by omega)).1
theorem tOk_next {m : zm} {t b : Nat} (ht : m.1 12 1 = nI t) (ht4 : t ≤ 400) (hb : m.1 12 4 = nI b) (hbt : b ≤ t) : tOk (cNext m t b) := by
  have h := cSkip_le (m.1 13) t (t - b) b hbt
  exact tOk_tok (by simp [upI, ht]) ht4 (upI_eq _ _ _ _) h.2
theorem tOk_nx {m : zm} (h : tOk m) : tOk (cNx m) := tOk_next h.1 h.2.1 h.2.2.1 h.2.2.2.1
def cFail (m : zm) (z : Int32) : zm := if m.1 12 6 = 0 then upI (upI m 12 6 z) 12 7 ((upI m 12 6 z).1 12 3) else m
theorem tOk_c {m m' : zm} (h1 : m'.1 12 1 = m.1 12 1) (h2 : m'.1 12 3 = m.1 12 3) (h3 : m'.1 12 4 = m.1 12 4) (h : tOk m) : tOk m' := by
  obtain ⟨a1, a2, a3, a4, a5, a6⟩ := h
  exact (tOk_of (h1.trans a1) a2 (h3.trans a3) a4 (h2.trans a5) a6).1
theorem tOk_f {m : zm} {z : Int32} (h : tOk m) : tOk (cFail m z) := by
  unfold cFail
  split
  · exact tOk_c (by simp [upI]) (by simp [upI]) (by simp [upI]) h
  · exact h
theorem tOk_u {m : zm} {a k : Nat} {v : Int32} (ha : a ≠ 12) (h : tOk m) : tOk (upI m a k v) := tOk_c (upI_ne (fun z => ha z.1.symm)) (upI_ne (fun z => ha z.1.symm)) (upI_ne (fun z => ha z.1.symm)) h
def cTakeW (m : zm) (i : Nat) : zm := if m.1 12 6 = 0 ∧ isWx m i then cNx m else cFail m 1
def cTakeS (m : zm) : zm := if m.1 12 6 = 0 ∧ m.1 12 2 = 3 then cNx m else cFail m 1
theorem tOk_W {m : zm} {i : Nat} (h : tOk m) : tOk (cTakeW m i) := by
  unfold cTakeW
  split
  · exact tOk_nx h
  · exact tOk_f h
theorem tOk_S {m : zm} (h : tOk m) : tOk (cTakeS m) := by
  unfold cTakeS
  split
  · exact tOk_nx h
  · exact tOk_f h
def cNumR (m : zm) (l h u : Int32) : Int32 := if m.1 12 6 = 0 ∧ m.1 12 2 = 2 ∧ ¬ (m.1 12 5 < l ∨ h < m.1 12 5) ∧ ¬ m.1 12 5 = u then m.1 12 5 else l
def cNumM (m : zm) (l h u : Int32) : zm := if m.1 12 6 = 0 ∧ m.1 12 2 = 2 then (if (m.1 12 5 < l ∨ h < m.1 12 5) ∨ m.1 12 5 = u then cFail m 2 else cNx m) else cFail m 1
theorem tOk_N {m : zm} {l h u : Int32} (hT : tOk m) : tOk (cNumM m l h u) := by
  unfold cNumM
  split
  · split
    · exact tOk_f hT
    · exact tOk_nx hT
  · exact tOk_f hT
def cSortI (m : zm) : Int32 := if isWx m 3 then 1 else if isWx m 4 then 2 else if isWx m 5 then 3 else if isWx m 6 then 4 else if isWx m 7 then 5 else 0
def cSortR (m : zm) : Int32 := if m.1 12 6 = 0 ∧ ¬ cSortI m = 0 then cSortI m else 1
def cSortM (m : zm) : zm := if m.1 12 6 = 0 ∧ ¬ cSortI m = 0 then cNx m else cFail m 1
theorem tOk_so {m : zm} (h : tOk m) : tOk (cSortM m) := by
  unfold cSortM
  split
  · exact tOk_nx h
  · exact tOk_f h
set_option maxHeartbeats 4000000 in
set_option maxRecDepth 100000 in
theorem ev_X5_fail (d : Nat) (m : zm) (z : Int32) : zEv (d) zM_X5_fail 0 0 [.ref 12, .int z] (lay m) (none, lay (cFail m z)) := by
  refine zEv_of (by decide) (fun G => Nat.le_of_ble_eq_true rfl) ?_
  show ZW _ _ _ _ 0 [some (.ref 12), some (.int z)] [] _ _ _ _
  refine z_aload_n (i := 0) (q := 1) dX5_fail_0 rfl rfl rfl ?_
  refine m_getI (q := 4) dX5_fail_1 fl_X5_31 ⟨by decide, _, rfl, rfl⟩ rfl ?_
  refine z_if_ne (tgt := 20) (q := 7) dX5_fail_4 (by decide) rfl (fun c1 => ?_) (fun c1 => ?_)
  · skip
    refine z_return dX5_fail_20 rfl ?_ (Nat.le_refl _) (Nat.le_refl _)
    rw [show cFail m z = m from if_neg c1]
  · skip
    refine z_aload_n (i := 0) (q := 8) dX5_fail_7 rfl rfl rfl ?_
    refine z_iload_n (i := 1) (q := 9) dX5_fail_8 rfl rfl rfl ?_
    refine m_putI (q := 12) dX5_fail_9 fp_X5_31 ⟨by decide, _, rfl, rfl⟩ ⟨rfl, rfl⟩ rfl ?_
    refine z_aload_n (i := 0) (q := 13) dX5_fail_12 rfl rfl rfl ?_
    refine z_aload_n (i := 0) (q := 14) dX5_fail_13 rfl rfl rfl ?_
    refine m_getI (q := 17) dX5_fail_14 fl_X5_22 ⟨by decide, _, rfl, rfl⟩ rfl ?_
    refine m_putI (q := 20) dX5_fail_17 fp_X5_34 ⟨by decide, _, rfl, rfl⟩ ⟨rfl, rfl⟩ rfl ?_
    refine z_return dX5_fail_20 rfl ?_ (Nat.le_refl _) (Nat.le_refl _)
    rw [show cFail m z = _ from if_pos c1]
set_option maxHeartbeats 4000000 in
set_option maxRecDepth 100000 in
theorem ev_X5_takeWord (d : Nat) (m : zm) (i : Nat) (hi8 : i < 8) (hT : tOk m) : zEv (d + 5) zM_X5_takeWord 0 0 [.ref 12, .ref (1000000 + i)] (lay m) (none, lay (cTakeW m i)) := by
  refine zEv_of (by decide) (fun G => Nat.le_of_ble_eq_true rfl) ?_
  show ZW _ _ _ _ 0 [some (.ref 12), some (.ref (1000000 + i))] [] _ _ _ _
  refine z_aload_n (i := 0) (q := 1) dX5_takeWord_0 rfl rfl rfl ?_
  refine m_getI (q := 4) dX5_takeWord_1 fl_X5_31 ⟨by decide, _, rfl, rfl⟩ rfl ?_
  refine z_if_ne (tgt := 22) (q := 7) dX5_takeWord_4 (by decide) rfl (fun c1 => ?_) (fun c1 => ?_)
  · skip
    refine z_aload_n (i := 0) (q := 23) dX5_takeWord_22 rfl rfl rfl ?_
    refine z_iconst (v := 1) (q := 24) dX5_takeWord_23 (by decide) rfl ?_
    refine m_callV_v (As := [_]) (q := 27) mk_X5_fail dX5_takeWord_24 wd_406 wd_408 wp_10 (ci := 5) rfl ⟨by decide, _, rfl⟩ (ev_X5_fail _ _ _) rfl (by decide) rfl (Nat.zero_le _) (Nat.zero_le _) rfl ?_
    refine z_return dX5_takeWord_27 rfl ?_ (Nat.le_refl _) (Nat.le_refl _)
    rw [show cTakeW m i = cFail m 1 from if_neg (fun q => c1 q.1)]
  · skip
    refine z_aload_n (i := 0) (q := 8) dX5_takeWord_7 rfl rfl rfl ?_
    refine z_aload_n (i := 1) (q := 9) dX5_takeWord_8 rfl rfl rfl ?_
    refine m_callV_r (As := [_]) (q := 12) mk_X5_isWord dX5_takeWord_9 wd_354 wd_356 wp_9 (ci := 5) rfl ⟨by decide, _, rfl⟩ (ev_X5_isWord _ _ i _ _ (by omega) hT.2.2.1 hT.2.2.2.2.1 hT.2.2.2.2.2 (by have := hT.2.1; have := hT.2.2.2.1; omega)) rfl (by decide) rfl (Nat.zero_le _) (Nat.zero_le _) rfl ?_
    refine zb_eq (tgt := 22) (q := 15) dX5_takeWord_12 (by decide) rfl (fun c2 => ?_) (fun c2 => ?_)
    · skip
      refine z_aload_n (i := 0) (q := 23) dX5_takeWord_22 rfl rfl rfl ?_
      refine z_iconst (v := 1) (q := 24) dX5_takeWord_23 (by decide) rfl ?_
      refine m_callV_v (As := [_]) (q := 27) mk_X5_fail dX5_takeWord_24 wd_406 wd_408 wp_10 (ci := 5) rfl ⟨by decide, _, rfl⟩ (ev_X5_fail _ _ _) rfl (by decide) rfl (Nat.zero_le _) (Nat.zero_le _) rfl ?_
      refine z_return dX5_takeWord_27 rfl ?_ (Nat.le_refl _) (Nat.le_refl _)
      rw [show cTakeW m i = cFail m 1 from if_neg (fun q => c2 q.2)]
    · skip
      refine z_aload_n (i := 0) (q := 16) dX5_takeWord_15 rfl rfl rfl ?_
      refine m_callV_v (As := []) (q := 19) mk_X5_nextToken dX5_takeWord_16 wd_333 wd_335 wp_4 (ci := 5) rfl ⟨by decide, _, rfl⟩ (ev_X5_nextToken _ _ _ _  hT.1 hT.2.2.1 hT.2.1 hT.2.2.2.1) rfl (by decide) rfl (Nat.zero_le _) (Nat.zero_le _) rfl ?_
      refine z_goto (tgt := 27) dX5_takeWord_19 (by decide) ?_
      refine z_return dX5_takeWord_27 rfl ?_ (Nat.le_refl _) (Nat.le_refl _)
      rw [show cTakeW m i = cNx m from if_pos ⟨c1, c2⟩]
set_option maxHeartbeats 4000000 in
set_option maxRecDepth 100000 in
theorem ev_X5_takeSign (d : Nat) (m : zm) (hT : tOk m) : zEv (d + 3) zM_X5_takeSign 0 0 [.ref 12] (lay m) (none, lay (cTakeS m)) := by
  refine zEv_of (by decide) (fun G => Nat.le_of_ble_eq_true rfl) ?_
  show ZW _ _ _ _ 0 [some (.ref 12)] [] _ _ _ _
  refine z_aload_n (i := 0) (q := 1) dX5_takeSign_0 rfl rfl rfl ?_
  refine m_getI (q := 4) dX5_takeSign_1 fl_X5_31 ⟨by decide, _, rfl, rfl⟩ rfl ?_
  refine z_if_ne (tgt := 22) (q := 7) dX5_takeSign_4 (by decide) rfl (fun c1 => ?_) (fun c1 => ?_)
  · skip
    refine z_aload_n (i := 0) (q := 23) dX5_takeSign_22 rfl rfl rfl ?_
    refine z_iconst (v := 1) (q := 24) dX5_takeSign_23 (by decide) rfl ?_
    refine m_callV_v (As := [_]) (q := 27) mk_X5_fail dX5_takeSign_24 wd_406 wd_408 wp_10 (ci := 5) rfl ⟨by decide, _, rfl⟩ (ev_X5_fail _ _ _) rfl (by decide) rfl (Nat.zero_le _) (Nat.zero_le _) rfl ?_
    refine z_return dX5_takeSign_27 rfl ?_ (Nat.le_refl _) (Nat.le_refl _)
    rw [show cTakeS m = cFail m 1 from if_neg (fun q => c1 q.1)]
  · skip
    refine z_aload_n (i := 0) (q := 8) dX5_takeSign_7 rfl rfl rfl ?_
    refine m_getI (q := 11) dX5_takeSign_8 fl_X5_19 ⟨by decide, _, rfl, rfl⟩ rfl ?_
    refine z_iconst (v := 3) (q := 12) dX5_takeSign_11 (by decide) rfl ?_
    refine z_icmp_ne (tgt := 22) (q := 15) dX5_takeSign_12 (by decide) rfl (fun c2 => ?_) (fun c2 => ?_)
    · skip
      refine z_aload_n (i := 0) (q := 23) dX5_takeSign_22 rfl rfl rfl ?_
      refine z_iconst (v := 1) (q := 24) dX5_takeSign_23 (by decide) rfl ?_
      refine m_callV_v (As := [_]) (q := 27) mk_X5_fail dX5_takeSign_24 wd_406 wd_408 wp_10 (ci := 5) rfl ⟨by decide, _, rfl⟩ (ev_X5_fail _ _ _) rfl (by decide) rfl (Nat.zero_le _) (Nat.zero_le _) rfl ?_
      refine z_return dX5_takeSign_27 rfl ?_ (Nat.le_refl _) (Nat.le_refl _)
      rw [show cTakeS m = cFail m 1 from if_neg (fun q => c2 q.2)]
    · skip
      refine z_aload_n (i := 0) (q := 16) dX5_takeSign_15 rfl rfl rfl ?_
      refine m_callV_v (As := []) (q := 19) mk_X5_nextToken dX5_takeSign_16 wd_333 wd_335 wp_4 (ci := 5) rfl ⟨by decide, _, rfl⟩ (ev_X5_nextToken _ _ _ _  hT.1 hT.2.2.1 hT.2.1 hT.2.2.2.1) rfl (by decide) rfl (Nat.zero_le _) (Nat.zero_le _) rfl ?_
      refine z_goto (tgt := 27) dX5_takeSign_19 (by decide) ?_
      refine z_return dX5_takeSign_27 rfl ?_ (Nat.le_refl _) (Nat.le_refl _)
      rw [show cTakeS m = cNx m from if_pos ⟨c1, c2⟩]
set_option maxHeartbeats 4000000 in
set_option maxRecDepth 100000 in
theorem ev_X5_takeNumber (d : Nat) (m : zm) (l : Int32) (h : Int32) (u : Int32) (hT : tOk m) : zEv (d + 3) zM_X5_takeNumber 0 0 [.ref 12, .int l, .int h, .int u] (lay m) (some (.int (cNumR m l h u)), lay (cNumM m l h u)) := by
  refine zEv_of (by decide) (fun G => Nat.le_of_ble_eq_true rfl) ?_
  show ZW _ _ _ _ 0 [some (.ref 12), some (.int l), some (.int h), some (.int u), none] [] _ _ _ _
  refine z_aload_n (i := 0) (q := 1) dX5_takeNumber_0 rfl rfl rfl ?_
  refine m_getI (q := 4) dX5_takeNumber_1 fl_X5_31 ⟨by decide, _, rfl, rfl⟩ rfl ?_
  refine z_if_ne (tgt := 15) (q := 7) dX5_takeNumber_4 (by decide) rfl (fun c1 => ?_) (fun c1 => ?_)
  · skip
    refine z_aload_n (i := 0) (q := 16) dX5_takeNumber_15 rfl rfl rfl ?_
    refine z_iconst (v := 1) (q := 17) dX5_takeNumber_16 (by decide) rfl ?_
    refine m_callV_v (As := [_]) (q := 20) mk_X5_fail dX5_takeNumber_17 wd_406 wd_408 wp_10 (ci := 5) rfl ⟨by decide, _, rfl⟩ (ev_X5_fail _ _ _) rfl (by decide) rfl (Nat.zero_le _) (Nat.zero_le _) rfl ?_
    refine z_iload_n (i := 1) (q := 21) dX5_takeNumber_20 rfl rfl rfl ?_
    refine z_ireturn dX5_takeNumber_21 rfl rfl ?_ (Nat.le_refl _) (Nat.le_refl _)
    rw [show cNumR m l h u = l from if_neg (fun q => c1 q.1), show cNumM m l h u = cFail m 1 from if_neg (fun q => c1 q.1)]
  · skip
    refine z_aload_n (i := 0) (q := 8) dX5_takeNumber_7 rfl rfl rfl ?_
    refine m_getI (q := 11) dX5_takeNumber_8 fl_X5_19 ⟨by decide, _, rfl, rfl⟩ rfl ?_
    refine z_iconst (v := 2) (q := 12) dX5_takeNumber_11 (by decide) rfl ?_
    refine z_icmp_eq (tgt := 22) (q := 15) dX5_takeNumber_12 (by decide) rfl (fun c2 => ?_) (fun c2 => ?_)
    · skip
      refine z_aload_n (i := 0) (q := 23) dX5_takeNumber_22 rfl rfl rfl ?_
      refine m_getI (q := 26) dX5_takeNumber_23 fl_X5_28 ⟨by decide, _, rfl, rfl⟩ rfl ?_
      refine z_iload_n (i := 1) (q := 27) dX5_takeNumber_26 rfl rfl rfl ?_
      refine z_iload_n (i := 2) (q := 28) dX5_takeNumber_27 rfl rfl rfl ?_
      refine m_callSN_r (host := RX7) (As := [_, _, _]) (q := 31) mk_X7_isOutside dX5_takeNumber_28 (by decide +kernel) wd_277 (ev_X7_isOutside _ _ _ _ _) rfl (by decide) rfl (Nat.zero_le _) (Nat.zero_le _) rfl ?_
      refine zb_ne (tgt := 42) (q := 34) dX5_takeNumber_31 (by decide) rfl (fun c3 => ?_) (fun c3 => ?_)
      · skip
        refine z_aload_n (i := 0) (q := 43) dX5_takeNumber_42 rfl rfl rfl ?_
        refine z_iconst (v := 2) (q := 44) dX5_takeNumber_43 (by decide) rfl ?_
        refine m_callV_v (As := [_]) (q := 47) mk_X5_fail dX5_takeNumber_44 wd_406 wd_408 wp_10 (ci := 5) rfl ⟨by decide, _, rfl⟩ (ev_X5_fail _ _ _) rfl (by decide) rfl (Nat.zero_le _) (Nat.zero_le _) rfl ?_
        refine z_iload_n (i := 1) (q := 48) dX5_takeNumber_47 rfl rfl rfl ?_
        refine z_ireturn dX5_takeNumber_48 rfl rfl ?_ (Nat.le_refl _) (Nat.le_refl _)
        rw [show cNumR m l h u = l from if_neg (fun q => q.2.2.1 c3), show cNumM m l h u = cFail m 2 from (if_pos ⟨c1, c2⟩).trans (if_pos (Or.inl c3))]
      · skip
        refine z_aload_n (i := 0) (q := 35) dX5_takeNumber_34 rfl rfl rfl ?_
        refine m_getI (q := 38) dX5_takeNumber_35 fl_X5_28 ⟨by decide, _, rfl, rfl⟩ rfl ?_
        refine z_iload_n (i := 3) (q := 39) dX5_takeNumber_38 rfl rfl rfl ?_
        refine z_icmp_ne (tgt := 49) (q := 42) dX5_takeNumber_39 (by decide) rfl (fun c4 => ?_) (fun c4 => ?_)
        · skip
          refine z_aload_n (i := 0) (q := 50) dX5_takeNumber_49 rfl rfl rfl ?_
          refine m_getI (q := 53) dX5_takeNumber_50 fl_X5_28 ⟨by decide, _, rfl, rfl⟩ rfl ?_
          refine z_istore (i := 4) (ls' := [_, _, _, _, _]) (q := 55) dX5_takeNumber_53 (by decide) rfl rfl ?_
          refine z_aload_n (i := 0) (q := 56) dX5_takeNumber_55 rfl rfl rfl ?_
          refine m_callV_v (As := []) (q := 59) mk_X5_nextToken dX5_takeNumber_56 wd_333 wd_335 wp_4 (ci := 5) rfl ⟨by decide, _, rfl⟩ (ev_X5_nextToken _ _ _ _  hT.1 hT.2.2.1 hT.2.1 hT.2.2.2.1) rfl (by decide) rfl (Nat.zero_le _) (Nat.zero_le _) rfl ?_
          refine z_iload (i := 4) (q := 61) dX5_takeNumber_59 rfl rfl ?_
          refine z_ireturn dX5_takeNumber_61 rfl rfl ?_ (Nat.le_refl _) (Nat.le_refl _)
          rw [show cNumR m l h u = m.1 12 5 from if_pos ⟨c1, c2, c3, c4⟩, show cNumM m l h u = cNx m from (if_pos ⟨c1, c2⟩).trans (if_neg (fun q => q.elim c3 c4))]
        · skip
          refine z_aload_n (i := 0) (q := 43) dX5_takeNumber_42 rfl rfl rfl ?_
          refine z_iconst (v := 2) (q := 44) dX5_takeNumber_43 (by decide) rfl ?_
          refine m_callV_v (As := [_]) (q := 47) mk_X5_fail dX5_takeNumber_44 wd_406 wd_408 wp_10 (ci := 5) rfl ⟨by decide, _, rfl⟩ (ev_X5_fail _ _ _) rfl (by decide) rfl (Nat.zero_le _) (Nat.zero_le _) rfl ?_
          refine z_iload_n (i := 1) (q := 48) dX5_takeNumber_47 rfl rfl rfl ?_
          refine z_ireturn dX5_takeNumber_48 rfl rfl ?_ (Nat.le_refl _) (Nat.le_refl _)
          rw [show cNumR m l h u = l from if_neg (fun q => q.2.2.2 c4), show cNumM m l h u = cFail m 2 from (if_pos ⟨c1, c2⟩).trans (if_pos (Or.inr c4))]
    · skip
      refine z_aload_n (i := 0) (q := 16) dX5_takeNumber_15 rfl rfl rfl ?_
      refine z_iconst (v := 1) (q := 17) dX5_takeNumber_16 (by decide) rfl ?_
      refine m_callV_v (As := [_]) (q := 20) mk_X5_fail dX5_takeNumber_17 wd_406 wd_408 wp_10 (ci := 5) rfl ⟨by decide, _, rfl⟩ (ev_X5_fail _ _ _) rfl (by decide) rfl (Nat.zero_le _) (Nat.zero_le _) rfl ?_
      refine z_iload_n (i := 1) (q := 21) dX5_takeNumber_20 rfl rfl rfl ?_
      refine z_ireturn dX5_takeNumber_21 rfl rfl ?_ (Nat.le_refl _) (Nat.le_refl _)
      rw [show cNumR m l h u = l from if_neg (fun q => c2 q.2.1), show cNumM m l h u = cFail m 1 from if_neg (fun q => c2 q.2)]
set_option maxHeartbeats 4000000 in
set_option maxRecDepth 100000 in
theorem ev_X5_sortWord_1 (d : Nat) (h : zH) : zEv (d) zM_X5_sortWord 0 0 [.int 1] (h) (some (.ref (1000000 + 3)), h) := by
  refine zEv_of (by decide) (fun G => Nat.le_of_ble_eq_true rfl) ?_
  show ZW _ _ _ _ 0 [some (.int 1)] [] _ _ _ _
  refine z_iload_n (i := 0) (q := 1) dX5_sortWord_0 rfl rfl rfl ?_
  refine z_table (tgts := [32, 35, 38, 41]) (dt := 44) dX5_sortWord_1 (by decide) (by decide) (by decide) (fun j t ht c1 => ?_) (fun c1 => ?_)
  · match j, ht, c1 with
    | 0, ht, c1 =>
      cases ht
      have c1 : _ = (1 : Int32) := Int32.toInt_inj.mp c1
      refine z_ldcS (tx := "captain") (i := 3) (q := 34) dX5_sortWord_32 (by decide +kernel) rfl ?_
      refine z_areturn dX5_sortWord_34 rfl ?_ (Nat.le_refl _) (Nat.le_refl _)
      rfl
    | 1, ht, c1 =>
      exact absurd c1 (by decide)
    | 2, ht, c1 =>
      exact absurd c1 (by decide)
    | 3, ht, c1 =>
      exact absurd c1 (by decide)
    | j + 4, ht, c1 => exact absurd ht (by simp)
  · skip
    have c1_0 := zout (v := 1) c1 (by decide)
    have c1_1 := zout (v := 2) c1 (by decide)
    have c1_2 := zout (v := 3) c1 (by decide)
    have c1_3 := zout (v := 4) c1 (by decide)
    exact absurd rfl c1_0
set_option maxHeartbeats 4000000 in
set_option maxRecDepth 100000 in
theorem ev_X5_sortWord_2 (d : Nat) (h : zH) : zEv (d) zM_X5_sortWord 0 0 [.int 2] (h) (some (.ref (1000000 + 4)), h) := by
  refine zEv_of (by decide) (fun G => Nat.le_of_ble_eq_true rfl) ?_
  show ZW _ _ _ _ 0 [some (.int 2)] [] _ _ _ _
  refine z_iload_n (i := 0) (q := 1) dX5_sortWord_0 rfl rfl rfl ?_
  refine z_table (tgts := [32, 35, 38, 41]) (dt := 44) dX5_sortWord_1 (by decide) (by decide) (by decide) (fun j t ht c1 => ?_) (fun c1 => ?_)
  · match j, ht, c1 with
    | 0, ht, c1 =>
      exact absurd c1 (by decide)
    | 1, ht, c1 =>
      cases ht
      have c1 : _ = (2 : Int32) := Int32.toInt_inj.mp c1
      refine z_ldcS (tx := "pilot") (i := 4) (q := 37) dX5_sortWord_35 (by decide +kernel) rfl ?_
      refine z_areturn dX5_sortWord_37 rfl ?_ (Nat.le_refl _) (Nat.le_refl _)
      rfl
    | 2, ht, c1 =>
      exact absurd c1 (by decide)
    | 3, ht, c1 =>
      exact absurd c1 (by decide)
    | j + 4, ht, c1 => exact absurd ht (by simp)
  · skip
    have c1_0 := zout (v := 1) c1 (by decide)
    have c1_1 := zout (v := 2) c1 (by decide)
    have c1_2 := zout (v := 3) c1 (by decide)
    have c1_3 := zout (v := 4) c1 (by decide)
    exact absurd rfl c1_1
set_option maxHeartbeats 4000000 in
set_option maxRecDepth 100000 in
theorem ev_X5_sortWord_3 (d : Nat) (h : zH) : zEv (d) zM_X5_sortWord 0 0 [.int 3] (h) (some (.ref (1000000 + 5)), h) := by
  refine zEv_of (by decide) (fun G => Nat.le_of_ble_eq_true rfl) ?_
  show ZW _ _ _ _ 0 [some (.int 3)] [] _ _ _ _
  refine z_iload_n (i := 0) (q := 1) dX5_sortWord_0 rfl rfl rfl ?_
  refine z_table (tgts := [32, 35, 38, 41]) (dt := 44) dX5_sortWord_1 (by decide) (by decide) (by decide) (fun j t ht c1 => ?_) (fun c1 => ?_)
  · match j, ht, c1 with
    | 0, ht, c1 =>
      exact absurd c1 (by decide)
    | 1, ht, c1 =>
      exact absurd c1 (by decide)
    | 2, ht, c1 =>
      cases ht
      have c1 : _ = (3 : Int32) := Int32.toInt_inj.mp c1
      refine z_ldcS (tx := "monk") (i := 5) (q := 40) dX5_sortWord_38 (by decide +kernel) rfl ?_
      refine z_areturn dX5_sortWord_40 rfl ?_ (Nat.le_refl _) (Nat.le_refl _)
      rfl
    | 3, ht, c1 =>
      exact absurd c1 (by decide)
    | j + 4, ht, c1 => exact absurd ht (by simp)
  · skip
    have c1_0 := zout (v := 1) c1 (by decide)
    have c1_1 := zout (v := 2) c1 (by decide)
    have c1_2 := zout (v := 3) c1 (by decide)
    have c1_3 := zout (v := 4) c1 (by decide)
    exact absurd rfl c1_2
set_option maxHeartbeats 4000000 in
set_option maxRecDepth 100000 in
theorem ev_X5_sortWord_4 (d : Nat) (h : zH) : zEv (d) zM_X5_sortWord 0 0 [.int 4] (h) (some (.ref (1000000 + 6)), h) := by
  refine zEv_of (by decide) (fun G => Nat.le_of_ble_eq_true rfl) ?_
  show ZW _ _ _ _ 0 [some (.int 4)] [] _ _ _ _
  refine z_iload_n (i := 0) (q := 1) dX5_sortWord_0 rfl rfl rfl ?_
  refine z_table (tgts := [32, 35, 38, 41]) (dt := 44) dX5_sortWord_1 (by decide) (by decide) (by decide) (fun j t ht c1 => ?_) (fun c1 => ?_)
  · match j, ht, c1 with
    | 0, ht, c1 =>
      exact absurd c1 (by decide)
    | 1, ht, c1 =>
      exact absurd c1 (by decide)
    | 2, ht, c1 =>
      exact absurd c1 (by decide)
    | 3, ht, c1 =>
      cases ht
      have c1 : _ = (4 : Int32) := Int32.toInt_inj.mp c1
      refine z_ldcS (tx := "clerk") (i := 6) (q := 43) dX5_sortWord_41 (by decide +kernel) rfl ?_
      refine z_areturn dX5_sortWord_43 rfl ?_ (Nat.le_refl _) (Nat.le_refl _)
      rfl
    | j + 4, ht, c1 => exact absurd ht (by simp)
  · skip
    have c1_0 := zout (v := 1) c1 (by decide)
    have c1_1 := zout (v := 2) c1 (by decide)
    have c1_2 := zout (v := 3) c1 (by decide)
    have c1_3 := zout (v := 4) c1 (by decide)
    exact absurd rfl c1_3
set_option maxHeartbeats 4000000 in
set_option maxRecDepth 100000 in
theorem ev_X5_sortWord_5 (d : Nat) (h : zH) : zEv (d) zM_X5_sortWord 0 0 [.int 5] (h) (some (.ref (1000000 + 7)), h) := by
  refine zEv_of (by decide) (fun G => Nat.le_of_ble_eq_true rfl) ?_
  show ZW _ _ _ _ 0 [some (.int 5)] [] _ _ _ _
  refine z_iload_n (i := 0) (q := 1) dX5_sortWord_0 rfl rfl rfl ?_
  refine z_table (tgts := [32, 35, 38, 41]) (dt := 44) dX5_sortWord_1 (by decide) (by decide) (by decide) (fun j t ht c1 => ?_) (fun c1 => ?_)
  · match j, ht, c1 with
    | 0, ht, c1 =>
      exact absurd c1 (by decide)
    | 1, ht, c1 =>
      exact absurd c1 (by decide)
    | 2, ht, c1 =>
      exact absurd c1 (by decide)
    | 3, ht, c1 =>
      exact absurd c1 (by decide)
    | j + 4, ht, c1 => exact absurd ht (by simp)
  · skip
    have c1_0 := zout (v := 1) c1 (by decide)
    have c1_1 := zout (v := 2) c1 (by decide)
    have c1_2 := zout (v := 3) c1 (by decide)
    have c1_3 := zout (v := 4) c1 (by decide)
    refine z_ldcS (tx := "boy") (i := 7) (q := 46) dX5_sortWord_44 (by decide +kernel) rfl ?_
    refine z_areturn dX5_sortWord_46 rfl ?_ (Nat.le_refl _) (Nat.le_refl _)
    rfl
