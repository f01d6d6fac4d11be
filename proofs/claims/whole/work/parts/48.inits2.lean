/-! ===== the constructors of leagues and acts ===== -/
def kL1 (c : Nat → zE) (a n0 i : Nat) : Nat → zE := fun b => if b = a then .inr (3, [.int 0, .int 0, .int 0, .int 0, .ref n0, .ref (n0 + 1)]) else if b = n0 then .inl (4, 8, .inr (.inr (.inr (.inr (fun j => if j < i then some (n0 + 2 + j) else none))))) else if b = n0 + 1 then .inl (5, 4, .inr (.inr (.inr (.inr (fun _ => none))))) else if n0 + 2 ≤ b ∧ b < n0 + 2 + i then .inr (6, [.int 0, .int 0, .int 0, .int 0]) else c b
def kL2 (c : Nat → zE) (a n0 i : Nat) : Nat → zE := fun b => if b = a then .inr (3, [.int 0, .int 0, .int 0, .int 0, .ref n0, .ref (n0 + 1)]) else if b = n0 then .inl (4, 8, .inr (.inr (.inr (.inr (fun j => if j < 8 then some (n0 + 2 + j) else none))))) else if b = n0 + 1 then .inl (5, 4, .inr (.inr (.inr (.inr (fun j => if j < i then some (n0 + 10 + j) else none))))) else if n0 + 2 ≤ b ∧ b < n0 + 10 then .inr (6, [.int 0, .int 0, .int 0, .int 0]) else if n0 + 10 ≤ b ∧ b < n0 + 10 + i then .inr (4, [.int 0, .int 0, .int 0, .int 0, .int 0, .int 0, .int 0, .int 0]) else c b
def kA1 (c : Nat → zE) (a n0 i : Nat) : Nat → zE := fun b => if b = a then .inr (0, [.ref n0, .int 0, .int 0]) else if b = n0 then .inl (5, 96, .inr (.inr (.inr (.inr (fun j => if j < i then some (n0 + 1 + j) else none))))) else if n0 + 1 ≤ b ∧ b < n0 + 1 + i then .inr (4, [.int 0, .int 0, .int 0, .int 0, .int 0, .int 0, .int 0, .int 0]) else c b

theorem kL1_s {c : Nat → zE} {a n0 i : Nat} (ha : a < n0) (hi : i < 8) : zup (zup (kL1 c a n0 i) (n0 + 2 + i) (.inr (6, [.int 0, .int 0, .int 0, .int 0]))) n0 (.inl (4, 8, .inr (.inr (.inr (.inr (va_up (fun j => if j < i then some (n0 + 2 + j) else none) (nI i).toNatClampNeg (some (n0 + 2 + i)))))))) = kL1 c a n0 (i + 1) := by
  have hf : va_up (fun j => if j < i then some (n0 + 2 + j) else none) i (some (n0 + 2 + i)) = (fun j => if j < i + 1 then some (n0 + 2 + j) else none) := by
    funext j
    simp only [va_up]
    by_cases hj : j = i
    · rw [if_pos hj, if_pos (by omega), hj]
    · rw [if_neg hj]
      by_cases h2 : j < i
      · rw [if_pos h2, if_pos (by omega)]
      · rw [if_neg h2, if_neg (by omega)]
  rw [nI_clamp (by omega), hf]
  funext b
  simp only [zup, kL1]
  by_cases h1 : b = n0
  · rw [if_pos h1, if_neg (show ¬ b = a by omega), if_pos h1]
  · rw [if_neg h1]
    by_cases h2 : b = n0 + 2 + i
    · rw [if_pos h2, if_neg (show ¬ b = a by omega), if_neg h1, if_neg (show ¬ b = n0 + 1 by omega), if_pos (by omega)]
    · rw [if_neg h2]
      by_cases h3 : b = a
      · rw [if_pos h3, if_pos h3]
      · simp only [if_neg h3, if_neg h1]
        by_cases h4 : b = n0 + 1
        · rw [if_pos h4, if_pos h4]
        · rw [if_neg h4, if_neg h4]
          by_cases h5 : n0 + 2 ≤ b ∧ b < n0 + 2 + i
          · rw [if_pos h5, if_pos (by omega)]
          · rw [if_neg h5, if_neg (by omega)]

theorem kL2_s {c : Nat → zE} {a n0 i : Nat} (ha : a < n0) (hi : i < 4) : zup (zup (kL2 c a n0 i) (n0 + 10 + i) (.inr (4, [.int 0, .int 0, .int 0, .int 0, .int 0, .int 0, .int 0, .int 0]))) (n0 + 1) (.inl (5, 4, .inr (.inr (.inr (.inr (va_up (fun j => if j < i then some (n0 + 10 + j) else none) (nI i).toNatClampNeg (some (n0 + 10 + i)))))))) = kL2 c a n0 (i + 1) := by
  have hf : va_up (fun j => if j < i then some (n0 + 10 + j) else none) i (some (n0 + 10 + i)) = (fun j => if j < i + 1 then some (n0 + 10 + j) else none) := by
    funext j
    simp only [va_up]
    by_cases hj : j = i
    · rw [if_pos hj, if_pos (by omega), hj]
    · rw [if_neg hj]
      by_cases h2 : j < i
      · rw [if_pos h2, if_pos (by omega)]
      · rw [if_neg h2, if_neg (by omega)]
  rw [nI_clamp (by omega), hf]
  funext b
  simp only [zup, kL2]
  by_cases h1 : b = (n0 + 1)
  · rw [if_pos h1, if_neg (show ¬ b = a by omega), if_neg (show ¬ b = n0 by omega), if_pos h1]
  · rw [if_neg h1]
    by_cases h2 : b = n0 + 10 + i
    · rw [if_pos h2, if_neg (show ¬ b = a by omega), if_neg (show ¬ b = n0 by omega), if_neg h1, if_neg (show ¬ (n0 + 2 ≤ b ∧ b < n0 + 10) by omega), if_pos (by omega)]
    · rw [if_neg h2]
      by_cases h3 : b = a
      · rw [if_pos h3, if_pos h3]
      · simp only [if_neg h3, if_neg h1]
        by_cases h4 : b = n0
        · rw [if_pos h4, if_pos h4]
        · rw [if_neg h4, if_neg h4]
          by_cases h6 : n0 + 2 ≤ b ∧ b < n0 + 10
          · rw [if_pos h6, if_pos h6]
          · rw [if_neg h6, if_neg h6]
            by_cases h5 : n0 + 10 ≤ b ∧ b < n0 + 10 + i
            · rw [if_pos h5, if_pos (by omega)]
            · rw [if_neg h5, if_neg (by omega)]

theorem kA1_s {c : Nat → zE} {a n0 i : Nat} (ha : a < n0) (hi : i < 96) : zup (zup (kA1 c a n0 i) (n0 + 1 + i) (.inr (4, [.int 0, .int 0, .int 0, .int 0, .int 0, .int 0, .int 0, .int 0]))) n0 (.inl (5, 96, .inr (.inr (.inr (.inr (va_up (fun j => if j < i then some (n0 + 1 + j) else none) (nI i).toNatClampNeg (some (n0 + 1 + i)))))))) = kA1 c a n0 (i + 1) := by
  have hf : va_up (fun j => if j < i then some (n0 + 1 + j) else none) i (some (n0 + 1 + i)) = (fun j => if j < i + 1 then some (n0 + 1 + j) else none) := by
    funext j
    simp only [va_up]
    by_cases hj : j = i
    · rw [if_pos hj, if_pos (by omega), hj]
    · rw [if_neg hj]
      by_cases h2 : j < i
      · rw [if_pos h2, if_pos (by omega)]
      · rw [if_neg h2, if_neg (by omega)]
  rw [nI_clamp (by omega), hf]
  funext b
  simp only [zup, kA1]
  by_cases h1 : b = n0
  · rw [if_pos h1, if_neg (show ¬ b = a by omega), if_pos h1]
  · rw [if_neg h1]
    by_cases h2 : b = n0 + 1 + i
    · rw [if_pos h2, if_neg (show ¬ b = a by omega), if_neg h1, if_pos (by omega)]
    · rw [if_neg h2]
      by_cases h3 : b = a
      · rw [if_pos h3, if_pos h3]
      · simp only [if_neg h3, if_neg h1]
        by_cases h5 : n0 + 1 ≤ b ∧ b < n0 + 1 + i
        · rw [if_pos h5, if_pos (by omega)]
        · rw [if_neg h5, if_neg (by omega)]

theorem kL12 {c : Nat → zE} {a n0 : Nat} : kL1 c a n0 8 = kL2 c a n0 0 := by
  have hf : (fun j => if j < 0 then some (n0 + 10 + j) else none : Nat → Option Nat) = fun _ => none := by
    funext j
    simp
  funext b
  simp only [kL1, kL2, hf]
  by_cases h1 : b = a
  · rw [if_pos h1, if_pos h1]
  · rw [if_neg h1, if_neg h1]
    by_cases h2 : b = n0
    · rw [if_pos h2, if_pos h2]
    · rw [if_neg h2, if_neg h2]
      by_cases h3 : b = n0 + 1
      · rw [if_pos h3, if_pos h3]
      · rw [if_neg h3, if_neg h3]
        by_cases h4 : n0 + 2 ≤ b ∧ b < n0 + 10
        · rw [if_pos h4, if_pos (by omega)]
        · rw [if_neg h4, if_neg (by omega), if_neg (by omega)]
theorem kL1_0 {c : Nat → zE} {a n0 : Nat} (ha : a < n0) : zup (zup (zup (zup c n0 (.inl (4, 8, .inr (.inr (.inr (.inr (fun _ => none))))))) a (.inr (3, [.int 0, .int 0, .int 0, .int 0, .ref n0, .null]))) (n0 + 1) (.inl (5, 4, .inr (.inr (.inr (.inr (fun _ => none))))))) a (.inr (3, [.int 0, .int 0, .int 0, .int 0, .ref n0, .ref (n0 + 1)])) = kL1 c a n0 0 := by
  have hf : (fun j => if j < 0 then some (n0 + 2 + j) else none : Nat → Option Nat) = fun _ => none := by
    funext j
    simp
  funext b
  simp only [kL1, zup, hf]
  by_cases h1 : b = a
  · rw [if_pos h1, if_pos h1]
  · simp only [if_neg h1]
    by_cases h3 : b = n0 + 1
    · rw [if_pos h3, if_neg (show ¬ b = n0 by omega), if_pos h3]
    · by_cases h2 : b = n0
      · simp only [if_neg h3, if_pos h2]
      · simp only [if_neg h3, if_neg h2, if_neg (show ¬ (n0 + 2 ≤ b ∧ b < n0 + 2 + 0) by omega)]
theorem kA1_0 {c : Nat → zE} {a n0 : Nat} : zup (zup c n0 (.inl (5, 96, .inr (.inr (.inr (.inr (fun _ => none))))))) a (.inr (0, [.ref n0, .int 0, .int 0])) = kA1 c a n0 0 := by
  have hf : (fun j => if j < 0 then some (n0 + 1 + j) else none : Nat → Option Nat) = fun _ => none := by
    funext j
    simp
  funext b
  simp only [kA1, zup, hf]
  by_cases h1 : b = a
  · rw [if_pos h1, if_pos h1]
  · simp only [if_neg h1]
    by_cases h2 : b = n0
    · simp only [if_pos h2]
    · simp only [if_neg h2, if_neg (show ¬ (n0 + 1 ≤ b ∧ b < n0 + 1 + 0) by omega)]
set_option maxHeartbeats 4000000 in
set_option maxRecDepth 100000 in
theorem lp_X3_i1 (d n0 a : Nat) (c : Nat → zE) (ha : a < n0) (hn0 : n0 < 100000) (Y : zX) (hY : ZW zM_X3_init (d + 2) 14 76 68 [some (.ref a), none] [] (zmk (n0 + 2 + 8) (kL1 c a n0 8)) (2 + 8) (12 + 4 * 8) Y) : ∀ (n i : Nat), 8 - i < n → i ≤ 8 → ZW zM_X3_init (d + 2) 14 76 43 [some (.ref a), some (.int (nI i))] [] (zmk (n0 + 2 + i) (kL1 c a n0 i)) (2 + i) (12 + 4 * i) Y := by
  intro n
  induction n with
  | zero => intro i hm; exact absurd hm (by omega)
  | succ n ih =>
    intro i hm hi
    refine z_iload_n (i := 1) (q := 44) dX3_init_43 rfl rfl rfl ?_
    refine z_bipush (v := 8) (q := 46) dX3_init_44 (by decide) rfl ?_
    refine z_icmp_ge (tgt := 68) (q := 49) dX3_init_46 (by decide) rfl (fun c => ?_) (fun c => ?_)
    · have hge : 8 ≤ i := (nI_leI (a := 8) (b := i) (by omega) (by omega)).mp c
      have hie : i = 8 := by omega
      subst hie
      exact z_loc (zle_s (zle_n zle_0)) hY
    · have hlt : i < 8 := by
        rcases Nat.lt_or_ge i 8 with q | q
        · exact q
        · exact absurd ((nI_leI (a := 8) (b := i) (by omega) (by omega)).mpr q) c
      refine z_aload_n (i := 0) (q := 50) dX3_init_49 rfl rfl rfl ?_
      refine c_getf (q := 53) dX3_init_50 fl_X3_26 (by omega) (if_pos rfl) rfl rfl ?_
      refine z_iload_n (i := 1) (q := 54) dX3_init_53 rfl rfl rfl ?_
      refine c_new (ci := 6) (N := 4) (fs := [.int 0, .int 0, .int 0, .int 0]) (q := 57) dX3_init_54 rfl zin6 tyX6_ok wd_69 wd_73 wd_4 (by intro j hj; match j, hj with | 0, _ => rfl | 1, _ => rfl | 2, _ => rfl | 3, _ => rfl) (fun _ => rfl) (by omega) (by omega) (by omega) rfl ?_
      refine z_dup (q := 58) dX3_init_57 rfl rfl ?_
      refine z_callIN (host := RX7) (As := []) (q := 61) mk_X6_init rfl rfl dX3_init_58 (by decide +kernel) wd_75 (ev_X6_init _ (n0 + 2 + i + 1) (n0 + 2 + i) _ (by omega) (if_pos rfl)) rfl (by simp [Value.category]) rfl (by omega) (by omega) rfl ?_
      refine c_aast (kd := 4) (N := 8) (ci := 6) (q := 62) dX3_init_61 (fun _ => rfl) (by omega) ((if_neg (by omega)).trans ((if_neg (by omega)).trans (if_pos rfl))) (by omega) (if_pos rfl) rfl (vp_in_nI (by omega) (by decide)) rfl ?_
      refine z_iinc (i := 1) (ls' := [_, _]) (v := nI (i + 1)) (q := 65) dX3_init_62 rfl (nI_1 _) (by decide) rfl rfl ?_
      refine z_goto (tgt := 43) dX3_init_65 (by decide) ?_
      refine zWless (congrArg (zmk (n0 + 2 + (i + 1))) (kL1_s ha hlt)) ?_
      exact ih (i + 1) (by omega) (by omega)
set_option maxHeartbeats 4000000 in
set_option maxRecDepth 100000 in
theorem lp_X3_i2 (d n0 a : Nat) (c : Nat → zE) (ha : a < n0) (hn0 : n0 < 100000) (Y : zX) (hY : ZW zM_X3_init (d + 2) 14 76 94 [some (.ref a), none] [] (zmk (n0 + 10 + 4) (kL2 c a n0 4)) (10 + 4) (44 + 8 * 4) Y) : ∀ (n i : Nat), 4 - i < n → i ≤ 4 → ZW zM_X3_init (d + 2) 14 76 70 [some (.ref a), some (.int (nI i))] [] (zmk (n0 + 10 + i) (kL2 c a n0 i)) (10 + i) (44 + 8 * i) Y := by
  intro n
  induction n with
  | zero => intro i hm; exact absurd hm (by omega)
  | succ n ih =>
    intro i hm hi
    refine z_iload_n (i := 1) (q := 71) dX3_init_70 rfl rfl rfl ?_
    refine z_iconst (v := 4) (q := 72) dX3_init_71 (by decide) rfl ?_
    refine z_icmp_ge (tgt := 94) (q := 75) dX3_init_72 (by decide) rfl (fun c => ?_) (fun c => ?_)
    · have hge : 4 ≤ i := (nI_leI (a := 4) (b := i) (by omega) (by omega)).mp c
      have hie : i = 4 := by omega
      subst hie
      exact z_loc (zle_s (zle_n zle_0)) hY
    · have hlt : i < 4 := by
        rcases Nat.lt_or_ge i 4 with q | q
        · exact q
        · exact absurd ((nI_leI (a := 4) (b := i) (by omega) (by omega)).mpr q) c
      refine z_aload_n (i := 0) (q := 76) dX3_init_75 rfl rfl rfl ?_
      refine c_getf (q := 79) dX3_init_76 fl_X3_32 (by omega) (if_pos rfl) rfl rfl ?_
      refine z_iload_n (i := 1) (q := 80) dX3_init_79 rfl rfl rfl ?_
      refine c_new (ci := 4) (N := 8) (fs := [.int 0, .int 0, .int 0, .int 0, .int 0, .int 0, .int 0, .int 0]) (q := 83) dX3_init_80 rfl zin4 tyX4_ok wd_71 wd_103 wd_5 (by intro j hj; match j, hj with | 0, _ => rfl | 1, _ => rfl | 2, _ => rfl | 3, _ => rfl | 4, _ => rfl | 5, _ => rfl | 6, _ => rfl | 7, _ => rfl) (fun _ => rfl) (by omega) (by omega) (by omega) rfl ?_
      refine z_dup (q := 84) dX3_init_83 rfl rfl ?_
      refine z_callIN (host := RX7) (As := []) (q := 87) mk_X4_init rfl rfl dX3_init_84 (by decide +kernel) wd_105 (ev_X4_init _ (n0 + 10 + i + 1) (n0 + 10 + i) _ (by omega) (if_pos rfl)) rfl (by simp [Value.category]) rfl (by omega) (by omega) rfl ?_
      refine c_aast (kd := 5) (N := 4) (ci := 4) (q := 88) dX3_init_87 (fun _ => rfl) (by omega) ((if_neg (by omega)).trans ((if_neg (by omega)).trans ((if_neg (by omega)).trans (if_pos rfl)))) (by omega) (if_pos rfl) rfl (vp_in_nI (by omega) (by decide)) rfl ?_
      refine z_iinc (i := 1) (ls' := [_, _]) (v := nI (i + 1)) (q := 91) dX3_init_88 rfl (nI_1 _) (by decide) rfl rfl ?_
      refine z_goto (tgt := 70) dX3_init_91 (by decide) ?_
      refine zWless (congrArg (zmk (n0 + 10 + (i + 1))) (kL2_s ha hlt)) ?_
      exact ih (i + 1) (by omega) (by omega)
set_option maxHeartbeats 4000000 in
set_option maxRecDepth 100000 in
theorem lp_X0_i1 (d n0 a : Nat) (c : Nat → zE) (ha : a < n0) (hn0 : n0 < 100000) (Y : zX) (hY : ZW zM_X0_init (d + 2) 97 864 50 [some (.ref a), none] [] (zmk (n0 + 1 + 96) (kA1 c a n0 96)) (1 + 96) (96 + 8 * 96) Y) : ∀ (n i : Nat), 96 - i < n → i ≤ 96 → ZW zM_X0_init (d + 2) 97 864 25 [some (.ref a), some (.int (nI i))] [] (zmk (n0 + 1 + i) (kA1 c a n0 i)) (1 + i) (96 + 8 * i) Y := by
  intro n
  induction n with
  | zero => intro i hm; exact absurd hm (by omega)
  | succ n ih =>
    intro i hm hi
    refine z_iload_n (i := 1) (q := 26) dX0_init_25 rfl rfl rfl ?_
    refine z_bipush (v := 96) (q := 28) dX0_init_26 (by decide) rfl ?_
    refine z_icmp_ge (tgt := 50) (q := 31) dX0_init_28 (by decide) rfl (fun c => ?_) (fun c => ?_)
    · have hge : 96 ≤ i := (nI_leI (a := 96) (b := i) (by omega) (by omega)).mp c
      have hie : i = 96 := by omega
      subst hie
      exact z_loc (zle_s (zle_n zle_0)) hY
    · have hlt : i < 96 := by
        rcases Nat.lt_or_ge i 96 with q | q
        · exact q
        · exact absurd ((nI_leI (a := 96) (b := i) (by omega) (by omega)).mpr q) c
      refine z_aload_n (i := 0) (q := 32) dX0_init_31 rfl rfl rfl ?_
      refine c_getf (q := 35) dX0_init_32 fl_X0_11 (by omega) (if_pos rfl) rfl rfl ?_
      refine z_iload_n (i := 1) (q := 36) dX0_init_35 rfl rfl rfl ?_
      refine c_new (ci := 4) (N := 8) (fs := [.int 0, .int 0, .int 0, .int 0, .int 0, .int 0, .int 0, .int 0]) (q := 39) dX0_init_36 rfl zin4 tyX4_ok wd_183 wd_103 wd_5 (by intro j hj; match j, hj with | 0, _ => rfl | 1, _ => rfl | 2, _ => rfl | 3, _ => rfl | 4, _ => rfl | 5, _ => rfl | 6, _ => rfl | 7, _ => rfl) (fun _ => rfl) (by omega) (by omega) (by omega) rfl ?_
      refine z_dup (q := 40) dX0_init_39 rfl rfl ?_
      refine z_callIN (host := RX7) (As := []) (q := 43) mk_X4_init rfl rfl dX0_init_40 (by decide +kernel) wd_105 (ev_X4_init _ (n0 + 1 + i + 1) (n0 + 1 + i) _ (by omega) (if_pos rfl)) rfl (by simp [Value.category]) rfl (by omega) (by omega) rfl ?_
      refine c_aast (kd := 5) (N := 96) (ci := 4) (q := 44) dX0_init_43 (fun _ => rfl) (by omega) ((if_neg (by omega)).trans ((if_neg (by omega)).trans (if_pos rfl))) (by omega) (if_pos rfl) rfl (vp_in_nI (by omega) (by decide)) rfl ?_
      refine z_iinc (i := 1) (ls' := [_, _]) (v := nI (i + 1)) (q := 47) dX0_init_44 rfl (nI_1 _) (by decide) rfl rfl ?_
      refine z_goto (tgt := 25) dX0_init_47 (by decide) ?_
      refine zWless (congrArg (zmk (n0 + 1 + (i + 1))) (kA1_s ha hlt)) ?_
      exact ih (i + 1) (by omega) (by omega)
set_option maxHeartbeats 4000000 in
set_option maxRecDepth 100000 in
theorem ev_X3_init (d n0 a : Nat) (c : Nat → zE) (ha : a < n0) (hn0 : n0 < 100000) (hc : c a = .inr (3, [.int 0, .int 0, .int 0, .int 0, .null, .null])) : zEv (d + 2) zM_X3_init 14 76 [.ref a] (zmk n0 c) (none, zmk (n0 + 14) (kL2 c a n0 4)) := by
  refine zEv_of (by decide) (fun G => Nat.le_of_ble_eq_true rfl) ?_
  show ZW _ _ _ _ 0 [some (.ref a), none] [] _ _ _ _
  refine z_aload_n (i := 0) (q := 1) dX3_init_0 rfl rfl rfl ?_
  refine z_objInit (q := 4) dX3_init_1 wd_68 wd_24 wd_25 (by simp [Value.category]) rfl ?_
  refine z_aload_n (i := 0) (q := 5) dX3_init_4 rfl rfl rfl ?_
  refine z_iconst (v := 0) (q := 6) dX3_init_5 (by decide) rfl ?_
  refine c_putf (q := 9) dX3_init_6 fp_X3_9 (fun _ => rfl) (by omega) hc (Nat.le_of_ble_eq_true rfl) (fun _ => ⟨rfl, rfl⟩) rfl ?_
  refine zWless (congrArg (zmk n0) (zup_self (a := a) (e := .inr (3, [.int 0, .int 0, .int 0, .int 0, .null, .null])) hc)) ?_
  refine z_aload_n (i := 0) (q := 10) dX3_init_9 rfl rfl rfl ?_
  refine z_iconst (v := 0) (q := 11) dX3_init_10 (by decide) rfl ?_
  refine c_putf (q := 14) dX3_init_11 fp_X3_15 (fun _ => rfl) (by omega) hc (Nat.le_of_ble_eq_true rfl) (fun _ => ⟨rfl, rfl⟩) rfl ?_
  refine zWless (congrArg (zmk n0) (zup_self (a := a) (e := .inr (3, [.int 0, .int 0, .int 0, .int 0, .null, .null])) hc)) ?_
  refine z_aload_n (i := 0) (q := 15) dX3_init_14 rfl rfl rfl ?_
  refine z_iconst (v := 0) (q := 16) dX3_init_15 (by decide) rfl ?_
  refine c_putf (q := 19) dX3_init_16 fp_X3_18 (fun _ => rfl) (by omega) hc (Nat.le_of_ble_eq_true rfl) (fun _ => ⟨rfl, rfl⟩) rfl ?_
  refine zWless (congrArg (zmk n0) (zup_self (a := a) (e := .inr (3, [.int 0, .int 0, .int 0, .int 0, .null, .null])) hc)) ?_
  refine z_aload_n (i := 0) (q := 20) dX3_init_19 rfl rfl rfl ?_
  refine z_iconst (v := 0) (q := 21) dX3_init_20 (by decide) rfl ?_
  refine c_putf (q := 24) dX3_init_21 fp_X3_21 (fun _ => rfl) (by omega) hc (Nat.le_of_ble_eq_true rfl) (fun _ => ⟨rfl, rfl⟩) rfl ?_
  refine zWless (congrArg (zmk n0) (zup_self (a := a) (e := .inr (3, [.int 0, .int 0, .int 0, .int 0, .null, .null])) hc)) ?_
  refine z_aload_n (i := 0) (q := 25) dX3_init_24 rfl rfl rfl ?_
  refine z_bipush (v := 8) (q := 27) dX3_init_25 (by decide) rfl ?_
  refine c_newq (kd := 4) (N := 8) (q := 30) dX3_init_27 wd_69 (by decide) (fun _ => rfl) (by decide) (by decide) (by decide) (by omega) (by decide) (by decide) rfl ?_
  refine c_putf (q := 33) dX3_init_30 fp_X3_26 (fun _ => rfl) (by omega) ((if_neg (by omega)).trans hc) (Nat.le_of_ble_eq_true rfl) (fun _ => ⟨rfl, rfl⟩) rfl ?_
  refine z_aload_n (i := 0) (q := 34) dX3_init_33 rfl rfl rfl ?_
  refine z_iconst (v := 4) (q := 35) dX3_init_34 (by decide) rfl ?_
  refine c_newq (kd := 5) (N := 4) (q := 38) dX3_init_35 wd_71 (by decide) (fun _ => rfl) (by decide) (by decide) (by decide) (by omega) (by decide) (by decide) rfl ?_
  refine c_putf (q := 41) dX3_init_38 fp_X3_32 (fun _ => rfl) (by omega) ((if_neg (by omega)).trans (if_pos rfl)) (Nat.le_of_ble_eq_true rfl) (fun _ => ⟨rfl, rfl⟩) rfl ?_
  refine zWless (congrArg (zmk (n0 + 2)) (kL1_0 ha)) ?_
  refine z_iconst (v := 0) (q := 42) dX3_init_41 (by decide) rfl ?_
  refine z_istore_n (i := 1) (ls' := [_, _]) (q := 43) dX3_init_42 rfl (by decide) rfl rfl ?_
  refine lp_X3_i1 d n0 a c ha hn0 _ ?_ (8 + 1) 0 (by omega) (by omega)
  refine z_iconst (v := 0) (q := 69) dX3_init_68 (by decide) rfl ?_
  refine z_istore_n (i := 1) (ls' := [_, _]) (q := 70) dX3_init_69 rfl (by decide) rfl rfl ?_
  refine zWless (congrArg (zmk (n0 + 10)) kL12) ?_
  refine lp_X3_i2 d n0 a c ha hn0 _ ?_ (4 + 1) 0 (by omega) (by omega)
  refine z_return dX3_init_94 rfl ?_ (by decide) (by decide)
  rfl
set_option maxHeartbeats 4000000 in
set_option maxRecDepth 100000 in
theorem ev_X0_init (d n0 a : Nat) (c : Nat → zE) (ha : a < n0) (hn0 : n0 < 100000) (hc : c a = .inr (0, [.null, .int 0, .int 0])) : zEv (d + 2) zM_X0_init 97 864 [.ref a] (zmk n0 c) (none, zmk (n0 + 97) (kA1 c a n0 96)) := by
  refine zEv_of (by decide) (fun G => Nat.le_of_ble_eq_true rfl) ?_
  show ZW _ _ _ _ 0 [some (.ref a), none] [] _ _ _ _
  refine z_aload_n (i := 0) (q := 1) dX0_init_0 rfl rfl rfl ?_
  refine z_objInit (q := 4) dX0_init_1 wd_182 wd_24 wd_25 (by simp [Value.category]) rfl ?_
  refine z_aload_n (i := 0) (q := 5) dX0_init_4 rfl rfl rfl ?_
  refine z_bipush (v := 96) (q := 7) dX0_init_5 (by decide) rfl ?_
  refine c_newq (kd := 5) (N := 96) (q := 10) dX0_init_7 wd_183 (by decide) (fun _ => rfl) (by decide) (by decide) (by decide) (by omega) (by decide) (by decide) rfl ?_
  refine c_putf (q := 13) dX0_init_10 fp_X0_11 (fun _ => rfl) (by omega) ((if_neg (by omega)).trans hc) (Nat.le_of_ble_eq_true rfl) (fun _ => ⟨rfl, rfl⟩) rfl ?_
  refine zWless (congrArg (zmk (n0 + 1)) kA1_0) ?_
  refine z_aload_n (i := 0) (q := 14) dX0_init_13 rfl rfl rfl ?_
  refine z_iconst (v := 0) (q := 15) dX0_init_14 (by decide) rfl ?_
  refine c_putf (q := 18) dX0_init_15 fp_X0_17 (fun _ => rfl) (by omega) (if_pos rfl) (Nat.le_of_ble_eq_true rfl) (fun _ => ⟨rfl, rfl⟩) rfl ?_
  refine zWless (congrArg (zmk (n0 + 1)) (zup_self (a := a) (e := .inr (0, [.ref n0, .int 0, .int 0])) (if_pos rfl))) ?_
  refine z_aload_n (i := 0) (q := 19) dX0_init_18 rfl rfl rfl ?_
  refine z_iconst (v := 0) (q := 20) dX0_init_19 (by decide) rfl ?_
  refine c_putf (q := 23) dX0_init_20 fp_X0_21 (fun _ => rfl) (by omega) (if_pos rfl) (Nat.le_of_ble_eq_true rfl) (fun _ => ⟨rfl, rfl⟩) rfl ?_
  refine zWless (congrArg (zmk (n0 + 1)) (zup_self (a := a) (e := .inr (0, [.ref n0, .int 0, .int 0])) (if_pos rfl))) ?_
  refine z_iconst (v := 0) (q := 24) dX0_init_23 (by decide) rfl ?_
  refine z_istore_n (i := 1) (ls' := [_, _]) (q := 25) dX0_init_24 rfl (by decide) rfl rfl ?_
  refine lp_X0_i1 d n0 a c ha hn0 _ ?_ (96 + 1) 0 (by omega) (by omega)
  refine z_return dX0_init_50 rfl ?_ (by decide) (by decide)
  rfl
