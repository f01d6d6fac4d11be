/-! ===== the class: tokens ===== -/
theorem upI_upI (m : zm) (a k : Nat) (v w : Int32) : upI (upI m a k v) a k w = upI m a k w := by
  refine Prod.ext (funext fun b => funext fun j => ?_) rfl
  simp only [upI]
  by_cases h : b = a ∧ j = k
  · simp [h]
  · simp [h]
theorem upI_self {m : zm} {a k : Nat} {v : Int32} (h : m.1 a k = v) : upI m a k v = m := by
  refine Prod.ext (funext fun b => funext fun j => ?_) rfl
  simp only [upI]
  by_cases h2 : b = a ∧ j = k
  · rw [if_pos h2, h2.1, h2.2, h]
  · rw [if_neg h2]
theorem u13 (m : zm) (k : Nat) (v : Int32) : (upI m 12 k v).1 13 = m.1 13 := upI_na (by decide)
def cPass (f : Nat → Int32) (t : Nat) (lo hi : Int32) : Nat → Nat → Nat
  | 0, b => b
  | n + 1, b => if b < t ∧ lo ≤ f b ∧ f b ≤ hi then cPass f t lo hi n (b + 1) else b
theorem cPass_le (f : Nat → Int32) (t : Nat) (lo hi : Int32) : ∀ (n b : Nat), b ≤ t → b ≤ cPass f t lo hi n b ∧ cPass f t lo hi n b ≤ t := by
  intro n
  induction n with
  | zero => intro b h; exact ⟨Nat.le_refl _, h⟩
  | succ n ih =>
    intro b h
    rw [cPass]
    split
    next hc =>
      have := ih (b + 1) (by omega)
      omega
    next hc => exact ⟨Nat.le_refl _, h⟩
theorem tge {t b : Nat} (ht : t ≤ 400) (hb : b ≤ 400) (c : nI t ≤ nI b) : ¬ b < t := by
  have := (nI_leI (a := t) (b := b) (by omega) (by omega)).mp c
  omega
theorem tlt {t b : Nat} (ht : t ≤ 400) (hb : b ≤ 400) (c : ¬ nI t ≤ nI b) : b < t := by
  rcases Nat.lt_or_ge b t with q | q
  · exact q
  · exact absurd ((nI_leI (a := t) (b := b) (by omega) (by omega)).mpr q) c
def cNum (f : Nat → Int32) : Nat → Nat → Int32 → Int32
  | 0, _, v => v
  | n + 1, k, v => cNum f n (k + 1) (v * 10 + f k - 48)
def cNumTok (m : zm) (b s : Nat) : zm := if b - s ≤ 3 then upI (upI m 12 2 2) 12 5 (cNum (m.1 13) (b - s) s 0) else upI (upI m 12 2 4) 12 5 0
def cSkip (f : Nat → Int32) (t : Nat) : Nat → Nat → Nat
  | 0, b => b
  | n + 1, b => if b < t ∧ (f b = 32 ∨ f b = 10) then cSkip f t n (b + 1) else b
theorem cSkip_le (f : Nat → Int32) (t : Nat) : ∀ (n b : Nat), b ≤ t → b ≤ cSkip f t n b ∧ cSkip f t n b ≤ t := by
  intro n
  induction n with
  | zero => intro b h; exact ⟨Nat.le_refl _, h⟩
  | succ n ih =>
    intro b h
    rw [cSkip]
    split
    next hc =>
      have := ih (b + 1) (by omega)
      omega
    next hc => exact ⟨Nat.le_refl _, h⟩
def cTok (m : zm) (t s : Nat) : zm :=
  if t ≤ s then upI (upI m 12 3 (nI s)) 12 2 0
  else if 97 ≤ m.1 13 s ∧ m.1 13 s ≤ 122 then upI (upI (upI m 12 3 (nI s)) 12 4 (nI (cPass (m.1 13) t 97 122 (t - s) s))) 12 2 1
  else if 48 ≤ m.1 13 s ∧ m.1 13 s ≤ 57 then cNumTok (upI (upI m 12 3 (nI s)) 12 4 (nI (cPass (m.1 13) t 48 57 (t - s) s))) (cPass (m.1 13) t 48 57 (t - s) s) s
  else upI (upI (upI m 12 3 (nI s)) 12 2 (if m.1 13 s = 59 then 3 else 4)) 12 4 (nI (s + 1))
def cNext (m : zm) (t b : Nat) : zm := cTok (upI m 12 4 (nI (cSkip (m.1 13) t (t - b) b))) t (cSkip (m.1 13) t (t - b) b)
set_option maxHeartbeats 4000000 in
set_option maxRecDepth 100000 in
theorem ev_X5_isBetween (d : Nat) (m : zm) (t : Nat) (b : Nat) (lo : Int32) (hi : Int32) (ht : m.1 12 1 = nI t) (hb : m.1 12 4 = nI b) (ht4 : t ≤ 400) (hb4 : b ≤ 400) : zEv (d) zM_X5_isBetween 0 0 [.ref 12, .int lo, .int hi] (lay m) (some (.int (if b < t ∧ lo ≤ m.1 13 b ∧ m.1 13 b ≤ hi then 1 else 0)), lay (m)) := by
  refine zEv_of (by decide) (fun G => Nat.le_of_ble_eq_true rfl) ?_
  show ZW _ _ _ _ 0 [some (.ref 12), some (.int lo), some (.int hi)] [] _ _ _ _
  refine z_aload_n (i := 0) (q := 1) dX5_isBetween_0 rfl rfl rfl ?_
  refine m_getI (q := 4) dX5_isBetween_1 fl_X5_25 ⟨by decide, _, rfl, rfl⟩ rfl ?_
  rw [hb]
  refine z_aload_n (i := 0) (q := 5) dX5_isBetween_4 rfl rfl rfl ?_
  refine m_getI (q := 8) dX5_isBetween_5 fl_X5_15 ⟨by decide, _, rfl, rfl⟩ rfl ?_
  rw [ht]
  refine z_icmp_ge (tgt := 41) (q := 11) dX5_isBetween_8 (by decide) rfl (fun c1 => ?_) (fun c1 => ?_)
  · skip
    have hbt := tge ht4 hb4 c1
    refine z_iconst (v := 0) (q := 42) dX5_isBetween_41 (by decide) rfl ?_
    refine z_ireturn dX5_isBetween_42 rfl rfl ?_ (Nat.le_refl _) (Nat.le_refl _)
    simp [hbt]
  · skip
    have hbt := tlt ht4 hb4 c1
    refine z_aload_n (i := 0) (q := 12) dX5_isBetween_11 rfl rfl rfl ?_
    refine m_getR (r := 13) (q := 15) dX5_isBetween_12 fl_X5_9 ⟨by decide, _, rfl, rfl⟩ rfl ?_
    refine z_aload_n (i := 0) (q := 16) dX5_isBetween_15 rfl rfl rfl ?_
    refine m_getI (q := 19) dX5_isBetween_16 fl_X5_25 ⟨by decide, _, rfl, rfl⟩ rfl ?_
    rw [hb]
    refine m_ialdJ (N := 400) (q := 20) dX5_isBetween_19 ⟨by decide, _, rfl⟩ (j := b) (nI_clamp (by omega)) (vp_in_nI (by omega) (by decide)) rfl ?_
    refine z_iload_n (i := 1) (q := 21) dX5_isBetween_20 rfl rfl rfl ?_
    refine z_icmp_lt (tgt := 41) (q := 24) dX5_isBetween_21 (by decide) rfl (fun c2 => ?_) (fun c2 => ?_)
    · skip
      refine z_iconst (v := 0) (q := 42) dX5_isBetween_41 (by decide) rfl ?_
      refine z_ireturn dX5_isBetween_42 rfl rfl ?_ (Nat.le_refl _) (Nat.le_refl _)
      rw [if_neg (fun q => absurd q.2.1 (Int32.not_le.mpr c2))]
    · skip
      refine z_aload_n (i := 0) (q := 25) dX5_isBetween_24 rfl rfl rfl ?_
      refine m_getR (r := 13) (q := 28) dX5_isBetween_25 fl_X5_9 ⟨by decide, _, rfl, rfl⟩ rfl ?_
      refine z_aload_n (i := 0) (q := 29) dX5_isBetween_28 rfl rfl rfl ?_
      refine m_getI (q := 32) dX5_isBetween_29 fl_X5_25 ⟨by decide, _, rfl, rfl⟩ rfl ?_
      rw [hb]
      refine m_ialdJ (N := 400) (q := 33) dX5_isBetween_32 ⟨by decide, _, rfl⟩ (j := b) (nI_clamp (by omega)) (vp_in_nI (by omega) (by decide)) rfl ?_
      refine z_iload_n (i := 2) (q := 34) dX5_isBetween_33 rfl rfl rfl ?_
      refine z_icmp_gt (tgt := 41) (q := 37) dX5_isBetween_34 (by decide) rfl (fun c3 => ?_) (fun c3 => ?_)
      · skip
        refine z_iconst (v := 0) (q := 42) dX5_isBetween_41 (by decide) rfl ?_
        refine z_ireturn dX5_isBetween_42 rfl rfl ?_ (Nat.le_refl _) (Nat.le_refl _)
        rw [if_neg (fun q => absurd q.2.2 (Int32.not_le.mpr c3))]
      · skip
        refine z_iconst (v := 1) (q := 38) dX5_isBetween_37 (by decide) rfl ?_
        refine z_goto (tgt := 42) dX5_isBetween_38 (by decide) ?_
        refine z_ireturn dX5_isBetween_42 rfl rfl ?_ (Nat.le_refl _) (Nat.le_refl _)
        rw [if_pos ⟨hbt, Int32.not_lt.mp c2, Int32.not_lt.mp c3⟩]
set_option maxHeartbeats 4000000 in
set_option maxRecDepth 100000 in
theorem lp_X5_pass (d : Nat) (m : zm) (lo hi : Int32) (t : Nat) (ht : m.1 12 1 = nI t) (ht4 : t ≤ 400) : ∀ (n : Nat) (b : Nat), t - b < n → b ≤ t → ZW zM_X5_passRun (d + 1) 0 0 0 [some (.ref 12), some (.int lo), some (.int hi)] [] (lay (upI m 12 4 (nI b))) 0 0 (none, lay (upI m 12 4 (nI (cPass (m.1 13) t lo hi (t - b) b)))) := by
  intro n
  induction n with
  | zero => intro b hm; exact absurd hm (by omega)
  | succ n ih =>
    intro b hm hb
    refine z_aload_n (i := 0) (q := 1) dX5_passRun_0 rfl rfl rfl ?_
    refine m_getI (q := 4) dX5_passRun_1 fl_X5_25 ⟨by decide, _, rfl, rfl⟩ rfl ?_
    rw [upI_eq]
    refine z_aload_n (i := 0) (q := 5) dX5_passRun_4 rfl rfl rfl ?_
    refine m_getI (q := 8) dX5_passRun_5 fl_X5_15 ⟨by decide, _, rfl, rfl⟩ rfl ?_
    rw [upI_ne (by decide), ht]
    refine z_icmp_ge (tgt := 33) (q := 11) dX5_passRun_8 (by decide) rfl (fun c1 => ?_) (fun c1 => ?_)
    · skip
      have hbt := tge ht4 (by omega) c1
      refine z_return dX5_passRun_33 rfl ?_ (Nat.le_refl _) (Nat.le_refl _)
      rw [show cPass (m.1 13) t lo hi (t - b) b = b from by
        have q : t - b = 0 := by omega
        rw [q]; rfl]
    · skip
      refine z_aload_n (i := 0) (q := 12) dX5_passRun_11 rfl rfl rfl ?_
      refine z_iload_n (i := 1) (q := 13) dX5_passRun_12 rfl rfl rfl ?_
      refine z_iload_n (i := 2) (q := 14) dX5_passRun_13 rfl rfl rfl ?_
      refine m_callV_r (As := [_, _]) (q := 17) mk_X5_isBetween dX5_passRun_14 wd_337 wd_339 wp_5 (ci := 5) rfl ⟨by decide, _, rfl⟩ (ev_X5_isBetween _ _ _ _ _ _  (by rw [upI_ne (by decide), ht]) (upI_eq _ _ _ _) ht4 (by omega)) rfl (by decide) rfl (Nat.zero_le _) (Nat.zero_le _) rfl ?_
      simp only [u13]
      refine zb_eq (tgt := 33) (q := 20) dX5_passRun_17 (by decide) rfl (fun c2 => ?_) (fun c2 => ?_)
      · skip
        refine z_return dX5_passRun_33 rfl ?_ (Nat.le_refl _) (Nat.le_refl _)
        rw [show cPass (m.1 13) t lo hi (t - b) b = b from by
          rcases Nat.eq_zero_or_pos (t - b) with q | q
          · rw [q]; rfl
          · rw [show t - b = (t - b - 1) + 1 by omega, cPass, if_neg c2]]
      · skip
        refine z_aload_n (i := 0) (q := 21) dX5_passRun_20 rfl rfl rfl ?_
        refine z_dup (q := 22) dX5_passRun_21 rfl rfl ?_
        refine m_getI (q := 25) dX5_passRun_22 fl_X5_25 ⟨by decide, _, rfl, rfl⟩ rfl ?_
        rw [upI_eq]
        refine z_iconst (v := 1) (q := 26) dX5_passRun_25 (by decide) rfl ?_
        refine z_iadd (q := 27) dX5_passRun_26 rfl ?_
        rw [nI_1]
        refine m_putI (q := 30) dX5_passRun_27 fp_X5_25 ⟨by decide, _, rfl, rfl⟩ ⟨rfl, rfl⟩ rfl ?_
        rw [upI_upI]
        refine z_goto (tgt := 0) dX5_passRun_30 (by decide) ?_
        rw [show t - b = (t - (b + 1)) + 1 by omega, cPass, if_pos c2]
        exact ih (b + 1) (by omega) (by omega)
set_option maxHeartbeats 4000000 in
set_option maxRecDepth 100000 in
theorem ev_X5_passRun (d : Nat) (m : zm) (t : Nat) (b : Nat) (lo : Int32) (hi : Int32) (ht : m.1 12 1 = nI t) (hb : m.1 12 4 = nI b) (ht4 : t ≤ 400) (hbt : b ≤ t) : zEv (d + 1) zM_X5_passRun 0 0 [.ref 12, .int lo, .int hi] (lay m) (none, lay (upI m 12 4 (nI (cPass (m.1 13) t lo hi (t - b) b)))) := by
  refine zEv_of (by decide) (fun G => Nat.le_of_ble_eq_true rfl) ?_
  show ZW _ _ _ _ 0 [some (.ref 12), some (.int lo), some (.int hi)] [] _ _ _ _
  have e := lp_X5_pass d m lo hi t ht ht4 (t + 1) b (by omega) hbt
  rw [upI_self hb] at e
  exact e
set_option maxHeartbeats 4000000 in
set_option maxRecDepth 100000 in
theorem lp_X5_num (d : Nat) (m : zm) (b s : Nat) (hb : m.1 12 4 = nI b) (hb4 : b ≤ 400) : ∀ (n : Nat) (k : Nat) (v : Int32), b - k < n → k ≤ b → ZW zM_X5_readNumber (d) 0 0 32 [some (.ref 12), some (.int (nI k))] [] (lay (upI (upI m 12 2 2) 12 5 v)) 0 0 (none, lay (upI (upI m 12 2 2) 12 5 (cNum (m.1 13) (b - k) k v))) := by
  intro n
  induction n with
  | zero => intro k v hm; exact absurd hm (by omega)
  | succ n ih =>
    intro k v hm hk
    refine z_aload_n (i := 0) (q := 33) dX5_readNumber_32 rfl rfl rfl ?_
    refine m_getI (q := 36) dX5_readNumber_33 fl_X5_19 ⟨by decide, _, rfl, rfl⟩ rfl ?_
    rw [upI_ne (by decide), upI_eq]
    refine z_iconst (v := 2) (q := 37) dX5_readNumber_36 (by decide) rfl ?_
    refine z_icmp_ne (tgt := 75) (q := 40) dX5_readNumber_37 (by decide) rfl (fun c1 => ?_) (fun c1 => ?_)
    · exact absurd rfl c1
    · skip
      refine z_iload_n (i := 1) (q := 41) dX5_readNumber_40 rfl rfl rfl ?_
      refine z_aload_n (i := 0) (q := 42) dX5_readNumber_41 rfl rfl rfl ?_
      refine m_getI (q := 45) dX5_readNumber_42 fl_X5_25 ⟨by decide, _, rfl, rfl⟩ rfl ?_
      rw [upI_ne (by decide), upI_ne (by decide), hb]
      refine z_icmp_ge (tgt := 75) (q := 48) dX5_readNumber_45 (by decide) rfl (fun c2 => ?_) (fun c2 => ?_)
      · skip
        have hkb := tge (t := b) (b := k) (by omega) (by omega) c2
        rw [show b - k = 0 by omega]
        refine z_return dX5_readNumber_75 rfl ?_ (Nat.le_refl _) (Nat.le_refl _)
        rfl
      · skip
        have hkb := tlt (t := b) (b := k) (by omega) (by omega) c2
        rw [show b - k = (b - (k + 1)) + 1 by omega, cNum]
        refine z_aload_n (i := 0) (q := 49) dX5_readNumber_48 rfl rfl rfl ?_
        refine z_aload_n (i := 0) (q := 50) dX5_readNumber_49 rfl rfl rfl ?_
        refine m_getI (q := 53) dX5_readNumber_50 fl_X5_28 ⟨by decide, _, rfl, rfl⟩ rfl ?_
        rw [upI_eq]
        refine z_bipush (v := 10) (q := 55) dX5_readNumber_53 (by decide) rfl ?_
        refine z_imul (q := 56) dX5_readNumber_55 rfl ?_
        refine z_aload_n (i := 0) (q := 57) dX5_readNumber_56 rfl rfl rfl ?_
        refine m_getR (r := 13) (q := 60) dX5_readNumber_57 fl_X5_9 ⟨by decide, _, rfl, rfl⟩ rfl ?_
        refine z_iload_n (i := 1) (q := 61) dX5_readNumber_60 rfl rfl rfl ?_
        refine m_ialdJ (N := 400) (q := 62) dX5_readNumber_61 ⟨by decide, _, rfl⟩ (j := k) (nI_clamp (by omega)) (vp_in_nI (by omega) (by decide)) rfl ?_
        rw [u13, u13]
        refine z_iadd (q := 63) dX5_readNumber_62 rfl ?_
        refine z_bipush (v := 48) (q := 65) dX5_readNumber_63 (by decide) rfl ?_
        refine z_isub (q := 66) dX5_readNumber_65 rfl ?_
        refine m_putI (q := 69) dX5_readNumber_66 fp_X5_28 ⟨by decide, _, rfl, rfl⟩ ⟨rfl, rfl⟩ rfl ?_
        rw [upI_upI]
        refine z_iinc (i := 1) (ls' := [_, _]) (v := nI (k + 1)) (q := 72) dX5_readNumber_69 rfl (nI_1 _) (by decide) rfl rfl ?_
        refine z_goto (tgt := 32) dX5_readNumber_72 (by decide) ?_
        exact ih (k + 1) _ (by omega) (by omega)
set_option maxHeartbeats 4000000 in
set_option maxRecDepth 100000 in
theorem ev_X5_readNumber (d : Nat) (m : zm) (b : Nat) (s : Nat) (hb : m.1 12 4 = nI b) (hs : m.1 12 3 = nI s) (hb4 : b ≤ 400) (hsb : s ≤ b) : zEv (d) zM_X5_readNumber 0 0 [.ref 12] (lay m) (none, lay (cNumTok m b s)) := by
  refine zEv_of (by decide) (fun G => Nat.le_of_ble_eq_true rfl) ?_
  show ZW _ _ _ _ 0 [some (.ref 12), none] [] _ _ _ _
  refine z_aload_n (i := 0) (q := 1) dX5_readNumber_0 rfl rfl rfl ?_
  refine z_aload_n (i := 0) (q := 2) dX5_readNumber_1 rfl rfl rfl ?_
  refine m_getI (q := 5) dX5_readNumber_2 fl_X5_25 ⟨by decide, _, rfl, rfl⟩ rfl ?_
  rw [hb]
  refine z_aload_n (i := 0) (q := 6) dX5_readNumber_5 rfl rfl rfl ?_
  refine m_getI (q := 9) dX5_readNumber_6 fl_X5_22 ⟨by decide, _, rfl, rfl⟩ rfl ?_
  rw [hs]
  refine z_isub (q := 10) dX5_readNumber_9 rfl ?_
  rw [pk_sub hsb]
  refine z_iconst (v := 3) (q := 11) dX5_readNumber_10 (by decide) rfl ?_
  refine z_icmp_gt (tgt := 18) (q := 14) dX5_readNumber_11 (by decide) rfl (fun c1 => ?_) (fun c1 => ?_)
  · skip
    have h3 : ¬ b - s ≤ 3 := by
      have := (nI_ltI (a := 3) (b := b - s) (by omega) (by omega)).mp c1
      omega
    rw [show cNumTok m b s = _ from if_neg h3]
    refine z_iconst (v := 4) (q := 19) dX5_readNumber_18 (by decide) rfl ?_
    refine m_putI (q := 22) dX5_readNumber_19 fp_X5_19 ⟨by decide, _, rfl, rfl⟩ ⟨rfl, rfl⟩ rfl ?_
    refine z_aload_n (i := 0) (q := 23) dX5_readNumber_22 rfl rfl rfl ?_
    refine z_iconst (v := 0) (q := 24) dX5_readNumber_23 (by decide) rfl ?_
    refine m_putI (q := 27) dX5_readNumber_24 fp_X5_28 ⟨by decide, _, rfl, rfl⟩ ⟨rfl, rfl⟩ rfl ?_
    refine z_aload_n (i := 0) (q := 28) dX5_readNumber_27 rfl rfl rfl ?_
    refine m_getI (q := 31) dX5_readNumber_28 fl_X5_22 ⟨by decide, _, rfl, rfl⟩ rfl ?_
    rw [upI_ne (by decide), upI_ne (by decide), hs]
    refine z_istore_n (i := 1) (ls' := [_, _]) (q := 32) dX5_readNumber_31 rfl (by decide) rfl rfl ?_
    refine z_aload_n (i := 0) (q := 33) dX5_readNumber_32 rfl rfl rfl ?_
    refine m_getI (q := 36) dX5_readNumber_33 fl_X5_19 ⟨by decide, _, rfl, rfl⟩ rfl ?_
    rw [upI_ne (by decide), upI_eq]
    refine z_iconst (v := 2) (q := 37) dX5_readNumber_36 (by decide) rfl ?_
    refine z_icmp_ne (tgt := 75) (q := 40) dX5_readNumber_37 (by decide) rfl (fun c2 => ?_) (fun c2 => ?_)
    · skip
      refine z_return dX5_readNumber_75 rfl ?_ (Nat.le_refl _) (Nat.le_refl _)
      rfl
    · exact absurd c2 (by decide)
  · skip
    have h3 : b - s ≤ 3 := by
      rcases Nat.lt_or_ge 3 (b - s) with q | q
      · exact absurd ((nI_ltI (a := 3) (b := b - s) (by omega) (by omega)).mpr q) c1
      · exact q
    rw [show cNumTok m b s = _ from if_pos h3]
    refine z_iconst (v := 2) (q := 15) dX5_readNumber_14 (by decide) rfl ?_
    refine z_goto (tgt := 19) dX5_readNumber_15 (by decide) ?_
    refine m_putI (q := 22) dX5_readNumber_19 fp_X5_19 ⟨by decide, _, rfl, rfl⟩ ⟨rfl, rfl⟩ rfl ?_
    refine z_aload_n (i := 0) (q := 23) dX5_readNumber_22 rfl rfl rfl ?_
    refine z_iconst (v := 0) (q := 24) dX5_readNumber_23 (by decide) rfl ?_
    refine m_putI (q := 27) dX5_readNumber_24 fp_X5_28 ⟨by decide, _, rfl, rfl⟩ ⟨rfl, rfl⟩ rfl ?_
    refine z_aload_n (i := 0) (q := 28) dX5_readNumber_27 rfl rfl rfl ?_
    refine m_getI (q := 31) dX5_readNumber_28 fl_X5_22 ⟨by decide, _, rfl, rfl⟩ rfl ?_
    rw [upI_ne (by decide), upI_ne (by decide), hs]
    refine z_istore_n (i := 1) (ls' := [_, _]) (q := 32) dX5_readNumber_31 rfl (by decide) rfl rfl ?_
    exact lp_X5_num _ m b s hb hb4 (b + 1) s 0 (by omega) (by omega)
