/-! ===== the class: people, ways, acts ===== -/
/-- the first n numbers of a become those of b -/
def cCpy (m : zm) (a b n : Nat) : zm := (fun c k => if c = a ∧ k < n then m.1 b k else m.1 c k, m.2)
theorem cCpy_1 (m : zm) (a b : Nat) : upI m a 0 (m.1 b 0) = cCpy m a b 1 := by
  refine Prod.ext (funext fun c => funext fun k => ?_) rfl
  simp only [upI, cCpy]
  by_cases h : c = a ∧ k = 0
  · rw [if_pos h, if_pos ⟨h.1, by omega⟩, h.2]
  · rw [if_neg h, if_neg (fun z => h ⟨z.1, by omega⟩)]
theorem cCpy_s (m : zm) (a b : Nat) {n n1 : Nat} (hn : n + 1 = n1) : upI (cCpy m a b n) a n ((cCpy m a b n).1 b n) = cCpy m a b n1 := by
  subst hn
  refine Prod.ext (funext fun c => funext fun k => ?_) rfl
  simp only [upI, cCpy]
  by_cases hc : c = a
  · subst hc
    by_cases hk : k = n
    · subst hk; simp
    · have e : (k < n + 1) = (k < n) := propext ⟨fun z => by omega, fun z => by omega⟩
      simp [hk, e]
  · simp [hc]
def cOther (m : zm) (w : Nat) (z : Int32) : Int32 := if z = m.1 w 0 then m.1 w 1 else m.1 w 0
def cOwn (m : zm) (a w : Nat) : Int32 := if m.1 a 0 = 2 then (if m.1 w 3 - 1 < 0 then 0 else m.1 w 3 - 1) else if m.1 a 0 = 3 then 0 else if m.1 a 0 = 4 then m.1 w 2 else m.1 w 3
def cSailOn (m : zm) (a w : Nat) : zm :=
  let m1 := upI m a 2 (cOther m w (m.1 a 2))
  let m2 := upI m1 a 3 (m1.1 a 3 + m1.1 w 2)
  upI m2 a 4 (m2.1 a 4 + cOwn m2 a w)
def cStay (m : zm) (a : Nat) (n : Int32) : zm :=
  let m1 := upI m a 3 (m.1 a 3 + n)
  upI m1 a 4 (m1.1 a 4 + n)
def cLoan (m : zm) (a : Nat) (n : Int32) : zm :=
  let m1 := upI m a 5 n
  let m2 := upI m1 a 6 (m1.1 a 3)
  upI m2 a 7 (m2.1 a 4)
def cBegin (m : zm) (a : Nat) (s h n : Int32) : zm := upI (upI (upI (upI (upI (upI (upI (upI m a 0 s) a 1 n) a 2 h) a 3 0) a 4 n) a 5 0) a 6 0) a 7 0
def cGrow (rate : Int32) : Nat → Int64 → Int64
  | 0, o => o
  | n + 1, o => cGrow rate n (if 99999999 < o + o * rate.toInt64 / 100 then 99999999 else o + o * rate.toInt64 / 100)
def cYears (x y : Int32) : Nat := (x.toInt - y.toInt).toNat
theorem cYears_0 {x y : Int32} (h : x ≤ y) : cYears x y = 0 := by
  rw [Int32.le_iff_toInt_le] at h
  unfold cYears
  omega
theorem zadd1 {x y : Int32} (h : ¬ x ≤ y) : (y + 1).toInt = y.toInt + 1 := by
  rw [Int32.le_iff_toInt_le] at h
  have h1 := Int32.toInt_lt x
  have h2 := Int32.le_toInt y
  rw [Int32.toInt_add]
  have : (1 : Int32).toInt = 1 := by decide
  rw [this]
  exact Int.bmod_eq_of_le (by omega) (by omega)
theorem cYears_s {x y : Int32} (h : ¬ x ≤ y) : cYears x y = cYears x (y + 1) + 1 := by
  have h1 := zadd1 h
  rw [Int32.le_iff_toInt_le] at h
  unfold cYears
  omega
/-- what a sum has become -/
def cOwed (rate sum years : Int32) : Int32 := (cGrow rate (cYears years 0) sum.toInt64).toInt32
set_option maxHeartbeats 4000000 in
set_option maxRecDepth 100000 in
theorem ev_X4_beginsAs (d : Nat) (m : zm) (a : Nat) (s : Int32) (hh : Int32) (n : Int32) (ha : isPer a) : zEv (d) zM_X4_beginsAs 0 0 [.ref a, .int s, .int hh, .int n] (lay m) (none, lay (cBegin m a s hh n)) := by
  refine zEv_of (by decide) (fun G => Nat.le_of_ble_eq_true rfl) ?_
  show ZW _ _ _ _ 0 [some (.ref a), some (.int s), some (.int hh), some (.int n)] [] _ _ _ _
  refine z_aload_n (i := 0) (q := 1) dX4_beginsAs_0 rfl rfl rfl ?_
  refine z_iload_n (i := 1) (q := 2) dX4_beginsAs_1 rfl rfl rfl ?_
  refine m_putI (q := 5) dX4_beginsAs_2 fp_X4_9 ⟨ha.1, _, ha.2, rfl⟩ ⟨rfl, rfl⟩ rfl ?_
  refine z_aload_n (i := 0) (q := 6) dX4_beginsAs_5 rfl rfl rfl ?_
  refine z_iload_n (i := 3) (q := 7) dX4_beginsAs_6 rfl rfl rfl ?_
  refine m_putI (q := 10) dX4_beginsAs_7 fp_X4_15 ⟨ha.1, _, ha.2, rfl⟩ ⟨rfl, rfl⟩ rfl ?_
  refine z_aload_n (i := 0) (q := 11) dX4_beginsAs_10 rfl rfl rfl ?_
  refine z_iload_n (i := 2) (q := 12) dX4_beginsAs_11 rfl rfl rfl ?_
  refine m_putI (q := 15) dX4_beginsAs_12 fp_X4_18 ⟨ha.1, _, ha.2, rfl⟩ ⟨rfl, rfl⟩ rfl ?_
  refine z_aload_n (i := 0) (q := 16) dX4_beginsAs_15 rfl rfl rfl ?_
  refine z_iconst (v := 0) (q := 17) dX4_beginsAs_16 (by decide) rfl ?_
  refine m_putI (q := 20) dX4_beginsAs_17 fp_X4_21 ⟨ha.1, _, ha.2, rfl⟩ ⟨rfl, rfl⟩ rfl ?_
  refine z_aload_n (i := 0) (q := 21) dX4_beginsAs_20 rfl rfl rfl ?_
  refine z_iload_n (i := 3) (q := 22) dX4_beginsAs_21 rfl rfl rfl ?_
  refine m_putI (q := 25) dX4_beginsAs_22 fp_X4_24 ⟨ha.1, _, ha.2, rfl⟩ ⟨rfl, rfl⟩ rfl ?_
  refine z_aload_n (i := 0) (q := 26) dX4_beginsAs_25 rfl rfl rfl ?_
  refine z_iconst (v := 0) (q := 27) dX4_beginsAs_26 (by decide) rfl ?_
  refine m_putI (q := 30) dX4_beginsAs_27 fp_X4_27 ⟨ha.1, _, ha.2, rfl⟩ ⟨rfl, rfl⟩ rfl ?_
  refine z_aload_n (i := 0) (q := 31) dX4_beginsAs_30 rfl rfl rfl ?_
  refine z_iconst (v := 0) (q := 32) dX4_beginsAs_31 (by decide) rfl ?_
  refine m_putI (q := 35) dX4_beginsAs_32 fp_X4_30 ⟨ha.1, _, ha.2, rfl⟩ ⟨rfl, rfl⟩ rfl ?_
  refine z_aload_n (i := 0) (q := 36) dX4_beginsAs_35 rfl rfl rfl ?_
  refine z_iconst (v := 0) (q := 37) dX4_beginsAs_36 (by decide) rfl ?_
  refine m_putI (q := 40) dX4_beginsAs_37 fp_X4_33 ⟨ha.1, _, ha.2, rfl⟩ ⟨rfl, rfl⟩ rfl ?_
  refine z_return dX4_beginsAs_40 rfl ?_ (Nat.le_refl _) (Nat.le_refl _)
  rfl
set_option maxHeartbeats 4000000 in
set_option maxRecDepth 100000 in
theorem ev_X4_becomes (d : Nat) (m : zm) (a : Nat) (b : Nat) (ha : isPer a) (hb : isPer b) : zEv (d) zM_X4_becomes 0 0 [.ref a, .ref b] (lay m) (none, lay (cCpy m a b 8)) := by
  refine zEv_of (by decide) (fun G => Nat.le_of_ble_eq_true rfl) ?_
  show ZW _ _ _ _ 0 [some (.ref a), some (.ref b)] [] _ _ _ _
  refine z_aload_n (i := 0) (q := 1) dX4_becomes_0 rfl rfl rfl ?_
  refine z_aload_n (i := 1) (q := 2) dX4_becomes_1 rfl rfl rfl ?_
  refine m_getI (q := 5) dX4_becomes_2 fl_X4_9 ⟨hb.1, _, hb.2, rfl⟩ rfl ?_
  refine m_putI (q := 8) dX4_becomes_5 fp_X4_9 ⟨ha.1, _, ha.2, rfl⟩ ⟨rfl, rfl⟩ rfl ?_
  refine z_aload_n (i := 0) (q := 9) dX4_becomes_8 rfl rfl rfl ?_
  refine z_aload_n (i := 1) (q := 10) dX4_becomes_9 rfl rfl rfl ?_
  refine m_getI (q := 13) dX4_becomes_10 fl_X4_15 ⟨hb.1, _, hb.2, rfl⟩ rfl ?_
  refine m_putI (q := 16) dX4_becomes_13 fp_X4_15 ⟨ha.1, _, ha.2, rfl⟩ ⟨rfl, rfl⟩ rfl ?_
  refine z_aload_n (i := 0) (q := 17) dX4_becomes_16 rfl rfl rfl ?_
  refine z_aload_n (i := 1) (q := 18) dX4_becomes_17 rfl rfl rfl ?_
  refine m_getI (q := 21) dX4_becomes_18 fl_X4_18 ⟨hb.1, _, hb.2, rfl⟩ rfl ?_
  refine m_putI (q := 24) dX4_becomes_21 fp_X4_18 ⟨ha.1, _, ha.2, rfl⟩ ⟨rfl, rfl⟩ rfl ?_
  refine z_aload_n (i := 0) (q := 25) dX4_becomes_24 rfl rfl rfl ?_
  refine z_aload_n (i := 1) (q := 26) dX4_becomes_25 rfl rfl rfl ?_
  refine m_getI (q := 29) dX4_becomes_26 fl_X4_21 ⟨hb.1, _, hb.2, rfl⟩ rfl ?_
  refine m_putI (q := 32) dX4_becomes_29 fp_X4_21 ⟨ha.1, _, ha.2, rfl⟩ ⟨rfl, rfl⟩ rfl ?_
  refine z_aload_n (i := 0) (q := 33) dX4_becomes_32 rfl rfl rfl ?_
  refine z_aload_n (i := 1) (q := 34) dX4_becomes_33 rfl rfl rfl ?_
  refine m_getI (q := 37) dX4_becomes_34 fl_X4_24 ⟨hb.1, _, hb.2, rfl⟩ rfl ?_
  refine m_putI (q := 40) dX4_becomes_37 fp_X4_24 ⟨ha.1, _, ha.2, rfl⟩ ⟨rfl, rfl⟩ rfl ?_
  refine z_aload_n (i := 0) (q := 41) dX4_becomes_40 rfl rfl rfl ?_
  refine z_aload_n (i := 1) (q := 42) dX4_becomes_41 rfl rfl rfl ?_
  refine m_getI (q := 45) dX4_becomes_42 fl_X4_27 ⟨hb.1, _, hb.2, rfl⟩ rfl ?_
  refine m_putI (q := 48) dX4_becomes_45 fp_X4_27 ⟨ha.1, _, ha.2, rfl⟩ ⟨rfl, rfl⟩ rfl ?_
  refine z_aload_n (i := 0) (q := 49) dX4_becomes_48 rfl rfl rfl ?_
  refine z_aload_n (i := 1) (q := 50) dX4_becomes_49 rfl rfl rfl ?_
  refine m_getI (q := 53) dX4_becomes_50 fl_X4_30 ⟨hb.1, _, hb.2, rfl⟩ rfl ?_
  refine m_putI (q := 56) dX4_becomes_53 fp_X4_30 ⟨ha.1, _, ha.2, rfl⟩ ⟨rfl, rfl⟩ rfl ?_
  refine z_aload_n (i := 0) (q := 57) dX4_becomes_56 rfl rfl rfl ?_
  refine z_aload_n (i := 1) (q := 58) dX4_becomes_57 rfl rfl rfl ?_
  refine m_getI (q := 61) dX4_becomes_58 fl_X4_33 ⟨hb.1, _, hb.2, rfl⟩ rfl ?_
  refine m_putI (q := 64) dX4_becomes_61 fp_X4_33 ⟨ha.1, _, ha.2, rfl⟩ ⟨rfl, rfl⟩ rfl ?_
  refine z_return dX4_becomes_64 rfl ?_ (Nat.le_refl _) (Nat.le_refl _)
  rw [cCpy_1]
  rw [cCpy_s m _ _ (n := 1) (n1 := 2) rfl]
  rw [cCpy_s m _ _ (n := 2) (n1 := 3) rfl]
  rw [cCpy_s m _ _ (n := 3) (n1 := 4) rfl]
  rw [cCpy_s m _ _ (n := 4) (n1 := 5) rfl]
  rw [cCpy_s m _ _ (n := 5) (n1 := 6) rfl]
  rw [cCpy_s m _ _ (n := 6) (n1 := 7) rfl]
  rw [cCpy_s m _ _ (n := 7) (n1 := 8) rfl]
set_option maxHeartbeats 4000000 in
set_option maxRecDepth 100000 in
theorem ev_X6_becomes (d : Nat) (m : zm) (w : Nat) (b : Nat) (hw : isWay w) (hb : isWay b) : zEv (d) zM_X6_becomes 0 0 [.ref w, .ref b] (lay m) (none, lay (cCpy m w b 4)) := by
  refine zEv_of (by decide) (fun G => Nat.le_of_ble_eq_true rfl) ?_
  show ZW _ _ _ _ 0 [some (.ref w), some (.ref b)] [] _ _ _ _
  refine z_aload_n (i := 0) (q := 1) dX6_becomes_0 rfl rfl rfl ?_
  refine z_aload_n (i := 1) (q := 2) dX6_becomes_1 rfl rfl rfl ?_
  refine m_getI (q := 5) dX6_becomes_2 fl_X6_7 ⟨hb.1, _, hb.2, rfl⟩ rfl ?_
  refine m_putI (q := 8) dX6_becomes_5 fp_X6_7 ⟨hw.1, _, hw.2, rfl⟩ ⟨rfl, rfl⟩ rfl ?_
  refine z_aload_n (i := 0) (q := 9) dX6_becomes_8 rfl rfl rfl ?_
  refine z_aload_n (i := 1) (q := 10) dX6_becomes_9 rfl rfl rfl ?_
  refine m_getI (q := 13) dX6_becomes_10 fl_X6_13 ⟨hb.1, _, hb.2, rfl⟩ rfl ?_
  refine m_putI (q := 16) dX6_becomes_13 fp_X6_13 ⟨hw.1, _, hw.2, rfl⟩ ⟨rfl, rfl⟩ rfl ?_
  refine z_aload_n (i := 0) (q := 17) dX6_becomes_16 rfl rfl rfl ?_
  refine z_aload_n (i := 1) (q := 18) dX6_becomes_17 rfl rfl rfl ?_
  refine m_getI (q := 21) dX6_becomes_18 fl_X6_16 ⟨hb.1, _, hb.2, rfl⟩ rfl ?_
  refine m_putI (q := 24) dX6_becomes_21 fp_X6_16 ⟨hw.1, _, hw.2, rfl⟩ ⟨rfl, rfl⟩ rfl ?_
  refine z_aload_n (i := 0) (q := 25) dX6_becomes_24 rfl rfl rfl ?_
  refine z_aload_n (i := 1) (q := 26) dX6_becomes_25 rfl rfl rfl ?_
  refine m_getI (q := 29) dX6_becomes_26 fl_X6_19 ⟨hb.1, _, hb.2, rfl⟩ rfl ?_
  refine m_putI (q := 32) dX6_becomes_29 fp_X6_19 ⟨hw.1, _, hw.2, rfl⟩ ⟨rfl, rfl⟩ rfl ?_
  refine z_return dX6_becomes_32 rfl ?_ (Nat.le_refl _) (Nat.le_refl _)
  rw [cCpy_1]
  rw [cCpy_s m _ _ (n := 1) (n1 := 2) rfl]
  rw [cCpy_s m _ _ (n := 2) (n1 := 3) rfl]
  rw [cCpy_s m _ _ (n := 3) (n1 := 4) rfl]
set_option maxHeartbeats 4000000 in
set_option maxRecDepth 100000 in
theorem ev_X4_sailOn (d : Nat) (m : zm) (a : Nat) (w : Nat) (ha : isPer a) (hw : isWay w) : zEv (d + 2) zM_X4_sailOn 0 0 [.ref a, .ref w] (lay m) (none, lay (cSailOn m a w)) := by
  refine zEv_of (by decide) (fun G => Nat.le_of_ble_eq_true rfl) ?_
  show ZW _ _ _ _ 0 [some (.ref a), some (.ref w)] [] _ _ _ _
  refine z_aload_n (i := 0) (q := 1) dX4_sailOn_0 rfl rfl rfl ?_
  refine z_aload_n (i := 1) (q := 2) dX4_sailOn_1 rfl rfl rfl ?_
  refine z_aload_n (i := 0) (q := 3) dX4_sailOn_2 rfl rfl rfl ?_
  refine m_getI (q := 6) dX4_sailOn_3 fl_X4_18 ⟨ha.1, _, ha.2, rfl⟩ rfl ?_
  refine m_callV_r (As := [_]) (q := 9) mk_X6_otherEnd dX4_sailOn_6 wd_506 wd_507 wd_508 (ci := 6) rfl ⟨hw.1, _, hw.2⟩ (ev_X6_otherEnd _ _ _ _ hw) rfl (by simp [Value.category]) rfl (Nat.zero_le _) (Nat.zero_le _) rfl ?_
  refine m_putI (q := 12) dX4_sailOn_9 fp_X4_18 ⟨ha.1, _, ha.2, rfl⟩ ⟨rfl, rfl⟩ rfl ?_
  refine z_aload_n (i := 0) (q := 13) dX4_sailOn_12 rfl rfl rfl ?_
  refine z_dup (q := 14) dX4_sailOn_13 rfl rfl ?_
  refine m_getI (q := 17) dX4_sailOn_14 fl_X4_21 ⟨ha.1, _, ha.2, rfl⟩ rfl ?_
  refine z_aload_n (i := 1) (q := 18) dX4_sailOn_17 rfl rfl rfl ?_
  refine m_getI (q := 21) dX4_sailOn_18 fl_X4_36 ⟨hw.1, _, hw.2, rfl⟩ rfl ?_
  refine z_iadd (q := 22) dX4_sailOn_21 rfl ?_
  refine m_putI (q := 25) dX4_sailOn_22 fp_X4_21 ⟨ha.1, _, ha.2, rfl⟩ ⟨rfl, rfl⟩ rfl ?_
  refine z_aload_n (i := 0) (q := 26) dX4_sailOn_25 rfl rfl rfl ?_
  refine z_dup (q := 27) dX4_sailOn_26 rfl rfl ?_
  refine m_getI (q := 30) dX4_sailOn_27 fl_X4_24 ⟨ha.1, _, ha.2, rfl⟩ rfl ?_
  refine z_aload_n (i := 0) (q := 31) dX4_sailOn_30 rfl rfl rfl ?_
  refine z_aload_n (i := 1) (q := 32) dX4_sailOn_31 rfl rfl rfl ?_
  refine m_callV_r (As := [_]) (q := 35) mk_X4_ownYears dX4_sailOn_32 wd_510 wd_511 wd_512 (ci := 4) rfl ⟨ha.1, _, ha.2⟩ (ev_X4_ownYears _ _ _ _ ha hw) rfl (by simp [Value.category]) rfl (Nat.zero_le _) (Nat.zero_le _) rfl ?_
  refine z_iadd (q := 36) dX4_sailOn_35 rfl ?_
  refine m_putI (q := 39) dX4_sailOn_36 fp_X4_24 ⟨ha.1, _, ha.2, rfl⟩ ⟨rfl, rfl⟩ rfl ?_
  refine z_return dX4_sailOn_39 rfl ?_ (Nat.le_refl _) (Nat.le_refl _)
  rfl
set_option maxHeartbeats 4000000 in
set_option maxRecDepth 100000 in
theorem ev_X4_stayFor (d : Nat) (m : zm) (a : Nat) (n : Int32) (ha : isPer a) : zEv (d) zM_X4_stayFor 0 0 [.ref a, .int n] (lay m) (none, lay (cStay m a n)) := by
  refine zEv_of (by decide) (fun G => Nat.le_of_ble_eq_true rfl) ?_
  show ZW _ _ _ _ 0 [some (.ref a), some (.int n)] [] _ _ _ _
  refine z_aload_n (i := 0) (q := 1) dX4_stayFor_0 rfl rfl rfl ?_
  refine z_dup (q := 2) dX4_stayFor_1 rfl rfl ?_
  refine m_getI (q := 5) dX4_stayFor_2 fl_X4_21 ⟨ha.1, _, ha.2, rfl⟩ rfl ?_
  refine z_iload_n (i := 1) (q := 6) dX4_stayFor_5 rfl rfl rfl ?_
  refine z_iadd (q := 7) dX4_stayFor_6 rfl ?_
  refine m_putI (q := 10) dX4_stayFor_7 fp_X4_21 ⟨ha.1, _, ha.2, rfl⟩ ⟨rfl, rfl⟩ rfl ?_
  refine z_aload_n (i := 0) (q := 11) dX4_stayFor_10 rfl rfl rfl ?_
  refine z_dup (q := 12) dX4_stayFor_11 rfl rfl ?_
  refine m_getI (q := 15) dX4_stayFor_12 fl_X4_24 ⟨ha.1, _, ha.2, rfl⟩ rfl ?_
  refine z_iload_n (i := 1) (q := 16) dX4_stayFor_15 rfl rfl rfl ?_
  refine z_iadd (q := 17) dX4_stayFor_16 rfl ?_
  refine m_putI (q := 20) dX4_stayFor_17 fp_X4_24 ⟨ha.1, _, ha.2, rfl⟩ ⟨rfl, rfl⟩ rfl ?_
  refine z_return dX4_stayFor_20 rfl ?_ (Nat.le_refl _) (Nat.le_refl _)
  rfl
set_option maxHeartbeats 4000000 in
set_option maxRecDepth 100000 in
theorem ev_X4_takeLoan (d : Nat) (m : zm) (a : Nat) (n : Int32) (ha : isPer a) : zEv (d) zM_X4_takeLoan 0 0 [.ref a, .int n] (lay m) (none, lay (cLoan m a n)) := by
  refine zEv_of (by decide) (fun G => Nat.le_of_ble_eq_true rfl) ?_
  show ZW _ _ _ _ 0 [some (.ref a), some (.int n)] [] _ _ _ _
  refine z_aload_n (i := 0) (q := 1) dX4_takeLoan_0 rfl rfl rfl ?_
  refine z_iload_n (i := 1) (q := 2) dX4_takeLoan_1 rfl rfl rfl ?_
  refine m_putI (q := 5) dX4_takeLoan_2 fp_X4_27 ⟨ha.1, _, ha.2, rfl⟩ ⟨rfl, rfl⟩ rfl ?_
  refine z_aload_n (i := 0) (q := 6) dX4_takeLoan_5 rfl rfl rfl ?_
  refine z_aload_n (i := 0) (q := 7) dX4_takeLoan_6 rfl rfl rfl ?_
  refine m_getI (q := 10) dX4_takeLoan_7 fl_X4_21 ⟨ha.1, _, ha.2, rfl⟩ rfl ?_
  refine m_putI (q := 13) dX4_takeLoan_10 fp_X4_30 ⟨ha.1, _, ha.2, rfl⟩ ⟨rfl, rfl⟩ rfl ?_
  refine z_aload_n (i := 0) (q := 14) dX4_takeLoan_13 rfl rfl rfl ?_
  refine z_aload_n (i := 0) (q := 15) dX4_takeLoan_14 rfl rfl rfl ?_
  refine m_getI (q := 18) dX4_takeLoan_15 fl_X4_24 ⟨ha.1, _, ha.2, rfl⟩ rfl ?_
  refine m_putI (q := 21) dX4_takeLoan_18 fp_X4_33 ⟨ha.1, _, ha.2, rfl⟩ ⟨rfl, rfl⟩ rfl ?_
  refine z_return dX4_takeLoan_21 rfl ?_ (Nat.le_refl _) (Nat.le_refl _)
  rfl
set_option maxHeartbeats 4000000 in
set_option maxRecDepth 100000 in
theorem lp_X4_grown (d : Nat) (h : zH) (sum rate years : Int32) : ∀ (n : Nat) (y : Int32) (o : Int64), cYears years y < n → ZW zM_X4_grown (d + 1) 0 0 6 [some (.int sum), some (.int rate), some (.int years), some (.long o), none, some (.int y)] [] (h) 0 0 (some (.int (cGrow rate (cYears years y) o).toInt32), h) := by
  intro n
  induction n with
  | zero => intro y o hm; exact absurd hm (by omega)
  | succ n ih =>
    intro y o hm
    refine z_iload (i := 5) (q := 8) dX4_grown_6 rfl rfl ?_
    refine z_iload_n (i := 2) (q := 9) dX4_grown_8 rfl rfl rfl ?_
    refine z_icmp_ge (tgt := 35) (q := 12) dX4_grown_9 (by decide) rfl (fun c1 => ?_) (fun c1 => ?_)
    · skip
      refine z_lload_n (i := 3) (q := 36) dX4_grown_35 rfl rfl rfl ?_
      refine z_l2i (q := 37) dX4_grown_36 rfl ?_
      refine z_ireturn dX4_grown_37 rfl rfl ?_ (Nat.le_refl _) (Nat.le_refl _)
      rw [cYears_0 c1]
      rfl
    · skip
      refine z_lload_n (i := 3) (q := 13) dX4_grown_12 rfl rfl rfl ?_
      refine z_lload_n (i := 3) (q := 14) dX4_grown_13 rfl rfl rfl ?_
      refine z_iload_n (i := 1) (q := 15) dX4_grown_14 rfl rfl rfl ?_
      refine z_i2l (q := 16) dX4_grown_15 rfl ?_
      refine z_lmul (q := 17) dX4_grown_16 rfl ?_
      refine z_ldc2 (q := 20) dX4_grown_17 wd_545 rfl ?_
      refine z_ldiv (q := 21) dX4_grown_20 (by decide) rfl ?_
      refine z_ladd (q := 22) dX4_grown_21 rfl ?_
      refine z_ldc2 (q := 25) dX4_grown_22 wd_546 rfl ?_
      refine z_lmin (q := 28) dX4_grown_25 wd_547 wd_548 wd_15 wd_549 (by decide) (Nat.zero_le _) (Nat.zero_le _) rfl ?_
      refine z_lstore_n (i := 3) (ls' := [_, _, _, _, _, _]) (q := 29) dX4_grown_28 rfl (by decide) rfl rfl ?_
      refine z_iinc (i := 5) (ls' := [_, _, _, _, _, _]) (v := _ + 1) (q := 32) dX4_grown_29 rfl rfl (by decide) rfl rfl ?_
      refine z_goto (tgt := 6) dX4_grown_32 (by decide) ?_
      rw [cYears_s c1]
      exact ih _ _ (by have := cYears_s c1; omega)
set_option maxHeartbeats 4000000 in
set_option maxRecDepth 100000 in
theorem ev_X4_grown (d : Nat) (h : zH) (sum : Int32) (rate : Int32) (years : Int32) : zEv (d + 1) zM_X4_grown 0 0 [.int sum, .int rate, .int years] (h) (some (.int (cOwed rate sum years)), h) := by
  refine zEv_of (by decide) (fun G => Nat.le_of_ble_eq_true rfl) ?_
  show ZW _ _ _ _ 0 [some (.int sum), some (.int rate), some (.int years), none, none, none] [] _ _ _ _
  refine z_iload_n (i := 0) (q := 1) dX4_grown_0 rfl rfl rfl ?_
  refine z_i2l (q := 2) dX4_grown_1 rfl ?_
  refine z_lstore_n (i := 3) (ls' := [_, _, _, _, _, _]) (q := 3) dX4_grown_2 rfl (by decide) rfl rfl ?_
  refine z_iconst (v := 0) (q := 4) dX4_grown_3 (by decide) rfl ?_
  refine z_istore (i := 5) (ls' := [_, _, _, _, _, _]) (q := 6) dX4_grown_4 (by decide) rfl rfl ?_
  exact lp_X4_grown d h sum rate years _ _ _ (Nat.lt_succ_self _)
set_option maxHeartbeats 4000000 in
set_option maxRecDepth 100000 in
theorem ev_X4_owedByShore (d : Nat) (m : zm) (a : Nat) (rate : Int32) (ha : isPer a) : zEv (d + 2) zM_X4_owedByShore 0 0 [.ref a, .int rate] (lay m) (some (.int (cOwed rate (m.1 a 5) (m.1 a 3 - m.1 a 6))), lay (m)) := by
  refine zEv_of (by decide) (fun G => Nat.le_of_ble_eq_true rfl) ?_
  show ZW _ _ _ _ 0 [some (.ref a), some (.int rate)] [] _ _ _ _
  refine z_aload_n (i := 0) (q := 1) dX4_owedByShore_0 rfl rfl rfl ?_
  refine m_getI (q := 4) dX4_owedByShore_1 fl_X4_27 ⟨ha.1, _, ha.2, rfl⟩ rfl ?_
  refine z_iload_n (i := 1) (q := 5) dX4_owedByShore_4 rfl rfl rfl ?_
  refine z_aload_n (i := 0) (q := 6) dX4_owedByShore_5 rfl rfl rfl ?_
  refine m_getI (q := 9) dX4_owedByShore_6 fl_X4_21 ⟨ha.1, _, ha.2, rfl⟩ rfl ?_
  refine z_aload_n (i := 0) (q := 10) dX4_owedByShore_9 rfl rfl rfl ?_
  refine m_getI (q := 13) dX4_owedByShore_10 fl_X4_30 ⟨ha.1, _, ha.2, rfl⟩ rfl ?_
  refine z_isub (q := 14) dX4_owedByShore_13 rfl ?_
  refine m_callS_r (As := [_, _, _]) (q := 17) mk_X4_grown dX4_owedByShore_14 wd_542 wd_543 (ev_X4_grown _ _ _ _ _) rfl (by decide) rfl (Nat.zero_le _) (Nat.zero_le _) rfl ?_
  refine z_ireturn dX4_owedByShore_17 rfl rfl ?_ (Nat.le_refl _) (Nat.le_refl _)
  rfl
set_option maxHeartbeats 4000000 in
set_option maxRecDepth 100000 in
theorem ev_X4_owedByOwn (d : Nat) (m : zm) (a : Nat) (rate : Int32) (ha : isPer a) : zEv (d + 2) zM_X4_owedByOwn 0 0 [.ref a, .int rate] (lay m) (some (.int (cOwed rate (m.1 a 5) (m.1 a 4 - m.1 a 7))), lay (m)) := by
  refine zEv_of (by decide) (fun G => Nat.le_of_ble_eq_true rfl) ?_
  show ZW _ _ _ _ 0 [some (.ref a), some (.int rate)] [] _ _ _ _
  refine z_aload_n (i := 0) (q := 1) dX4_owedByOwn_0 rfl rfl rfl ?_
  refine m_getI (q := 4) dX4_owedByOwn_1 fl_X4_27 ⟨ha.1, _, ha.2, rfl⟩ rfl ?_
  refine z_iload_n (i := 1) (q := 5) dX4_owedByOwn_4 rfl rfl rfl ?_
  refine z_aload_n (i := 0) (q := 6) dX4_owedByOwn_5 rfl rfl rfl ?_
  refine m_getI (q := 9) dX4_owedByOwn_6 fl_X4_24 ⟨ha.1, _, ha.2, rfl⟩ rfl ?_
  refine z_aload_n (i := 0) (q := 10) dX4_owedByOwn_9 rfl rfl rfl ?_
  refine m_getI (q := 13) dX4_owedByOwn_10 fl_X4_33 ⟨ha.1, _, ha.2, rfl⟩ rfl ?_
  refine z_isub (q := 14) dX4_owedByOwn_13 rfl ?_
  refine m_callS_r (As := [_, _, _]) (q := 17) mk_X4_grown dX4_owedByOwn_14 wd_542 wd_543 (ev_X4_grown _ _ _ _ _) rfl (by decide) rfl (Nat.zero_le _) (Nat.zero_le _) rfl ?_
  refine z_ireturn dX4_owedByOwn_17 rfl rfl ?_ (Nat.le_refl _) (Nat.le_refl _)
  rfl
set_option maxHeartbeats 4000000 in
set_option maxRecDepth 100000 in
theorem ev_X0_forget (d : Nat) (m : zm) : zEv (d) zM_X0_forget 0 0 [.ref 46] (lay m) (none, lay (upI (upI m 46 1 0) 46 2 0)) := by
  refine zEv_of (by decide) (fun G => Nat.le_of_ble_eq_true rfl) ?_
  show ZW _ _ _ _ 0 [some (.ref 46)] [] _ _ _ _
  refine z_aload_n (i := 0) (q := 1) dX0_forget_0 rfl rfl rfl ?_
  refine z_iconst (v := 0) (q := 2) dX0_forget_1 (by decide) rfl ?_
  refine m_putI (q := 5) dX0_forget_2 fp_X0_17 ⟨by decide, _, rfl, rfl⟩ ⟨rfl, rfl⟩ rfl ?_
  refine z_aload_n (i := 0) (q := 6) dX0_forget_5 rfl rfl rfl ?_
  refine z_iconst (v := 0) (q := 7) dX0_forget_6 (by decide) rfl ?_
  refine m_putI (q := 10) dX0_forget_7 fp_X0_21 ⟨by decide, _, rfl, rfl⟩ ⟨rfl, rfl⟩ rfl ?_
  refine z_return dX0_forget_10 rfl ?_ (Nat.le_refl _) (Nat.le_refl _)
  rfl
