/-! ===== the constructors of the class and of the model ===== -/
def s8 : Nat → Int32 := upd (upd (upd (upd (upd (upd (upd (upd (fun _ => 0) (0 : Int32).toNatClampNeg (-1)) (1 : Int32).toNatClampNeg (-1)) (2 : Int32).toNatClampNeg (-1)) (3 : Int32).toNatClampNeg (-1)) (4 : Int32).toNatClampNeg (-1)) (5 : Int32).toNatClampNeg (-1)) (6 : Int32).toNatClampNeg (-1)) (7 : Int32).toNatClampNeg (-1)
def m0 : zm := (fun a => if a = 11 then s8 else if a = 181 then s8 else fun _ => 0, fun _ _ => 0)
def c00 : Nat → zE := fun _ => .inr (7, [])
theorem all_s {P : Nat → Prop} {n : Nat} (h : ∀ a, a < n → P a) (hn : P n) : ∀ a, a < n + 1 → P a := by
  intro a ha
  rcases Nat.lt_or_ge a n with q | q
  · exact h a q
  · rw [show a = n by omega]
    exact hn
theorem img_f : va_up (va_up (fun _ => none) (0 : Int32).toNatClampNeg (some 150)) (1 : Int32).toNatClampNeg (some 165) = (fun j => if j = 0 then some 150 else if j = 1 then some 165 else none) := by
  funext j
  have e0 : (0 : Int32).toNatClampNeg = 0 := by decide
  have e1 : (1 : Int32).toNatClampNeg = 1 := by decide
  simp only [va_up, e0, e1]
  by_cases h0 : j = 0
  · rw [if_neg (by omega), if_pos h0, if_pos h0]
  · rw [if_neg h0, if_neg h0]
theorem all_f {P : Nat → Prop} {b n : Nat} (h : ∀ a, b ≤ a → a < n → P a) (hn : P n) : ∀ a, b ≤ a → a < n + 1 → P a := by
  intro a hb ha
  rcases Nat.lt_or_ge a n with q | q
  · exact h a hb q
  · rw [show a = n by omega]
    exact hn
set_option maxHeartbeats 8000000 in
set_option maxRecDepth 200000 in
theorem ev_X7_init (d : Nat) : ∃ c : Nat → zE, zEv (d + 3) zM_X7_init 179 2381 [.ref 0] (zmk 1 (zup c00 0 (.inr (7, [.null, .null, .null, .int 0, .null, .int 0, .int 0, .null, .null, .null, .null, .null, .null, .null, .null])))) (none, zmk 180 c) ∧ ∀ a, a < 180 → c a = zcell m0 a := by
  refine ⟨?c, ?h1, ?h2⟩
  case h1 =>
    refine zEv_of (by decide) (fun G => Nat.le_of_ble_eq_true rfl) ?_
    show ZW _ _ _ _ 0 [some (.ref 0), none] [] _ _ _ _
    refine z_aload_n (i := 0) (q := 1) dX7_init_0 rfl rfl rfl ?_
    refine z_objInit (q := 4) dX7_init_1 wd_23 wd_24 wd_25 (by simp [Value.category]) rfl ?_
    refine z_aload_n (i := 0) (q := 5) dX7_init_4 rfl rfl rfl ?_
    refine z_bipush (v := 8) (q := 7) dX7_init_5 (by decide) rfl ?_
    refine z_bipush (v := 40) (q := 9) dX7_init_7 (by decide) rfl ?_
    refine c_multi (q := 13) dX7_init_9 wd_26 wd_62 (by decide) (by decide) (by decide) rfl ?_
    refine c_putf (q := 16) dX7_init_13 fp_X7_11 (fun _ => rfl) (by decide) rfl (Nat.le_of_ble_eq_true rfl) (fun _ => ⟨rfl, rfl⟩) rfl ?_
    refine z_aload_n (i := 0) (q := 17) dX7_init_16 rfl rfl rfl ?_
    refine z_bipush (v := 8) (q := 19) dX7_init_17 (by decide) rfl ?_
    refine c_newa (kd := 0) (N := 8) (x := .inl fun _ => 0) (q := 21) dX7_init_19 rfl wd_62 (fun _ => rfl) (fun _ _ h => h) (fun _ => rfl) (fun _ => rfl) (by decide) (by decide) (by decide) (by decide) (by decide) (by decide) rfl ?_
    refine c_putf (q := 24) dX7_init_21 fp_X7_14 (fun _ => rfl) (by decide) rfl (Nat.le_of_ble_eq_true rfl) (fun _ => ⟨rfl, rfl⟩) rfl ?_
    refine z_aload_n (i := 0) (q := 25) dX7_init_24 rfl rfl rfl ?_
    refine z_bipush (v := 8) (q := 27) dX7_init_25 (by decide) rfl ?_
    refine c_newa (kd := 0) (N := 8) (x := .inl fun _ => 0) (q := 29) dX7_init_27 rfl wd_62 (fun _ => rfl) (fun _ _ h => h) (fun _ => rfl) (fun _ => rfl) (by decide) (by decide) (by decide) (by decide) (by decide) (by decide) rfl ?_
    refine c_putf (q := 32) dX7_init_29 fp_X7_18 (fun _ => rfl) (by decide) rfl (Nat.le_of_ble_eq_true rfl) (fun _ => ⟨rfl, rfl⟩) rfl ?_
    refine z_aload_n (i := 0) (q := 33) dX7_init_32 rfl rfl rfl ?_
    refine z_iconst (v := 0) (q := 34) dX7_init_33 (by decide) rfl ?_
    refine c_putf (q := 37) dX7_init_34 fp_X7_21 (fun _ => rfl) (by decide) rfl (Nat.le_of_ble_eq_true rfl) (fun _ => ⟨rfl, rfl⟩) rfl ?_
    refine z_aload_n (i := 0) (q := 38) dX7_init_37 rfl rfl rfl ?_
    refine c_new (ci := 5) (N := 8) (fs := [.null, .int 0, .int 0, .int 0, .int 0, .int 0, .int 0, .int 0]) (q := 41) dX7_init_38 rfl zin5 tyX5_ok wd_28 wd_29 wd_2 (by intro j hj; match j, hj with | 0, _ => rfl | 1, _ => rfl | 2, _ => rfl | 3, _ => rfl | 4, _ => rfl | 5, _ => rfl | 6, _ => rfl | 7, _ => rfl) (fun _ => rfl) (by decide) (by decide) (by decide) rfl ?_
    refine z_dup (q := 42) dX7_init_41 rfl rfl ?_
    refine z_callIN (host := RX7) (As := []) (q := 45) mk_X5_init rfl rfl dX7_init_42 (by decide +kernel) wd_31 (ev_X5_init _ 13 12 _ (by decide) (by decide) rfl) rfl (by simp [Value.category]) rfl (by decide) (by decide) rfl ?_
    refine c_putf (q := 48) dX7_init_45 fp_X7_28 (fun _ => rfl) (by decide) rfl (Nat.le_of_ble_eq_true rfl) (fun _ => ⟨rfl, rfl⟩) rfl ?_
    refine z_aload_n (i := 0) (q := 49) dX7_init_48 rfl rfl rfl ?_
    refine z_iconst (v := 0) (q := 50) dX7_init_49 (by decide) rfl ?_
    refine c_putf (q := 53) dX7_init_50 fp_X7_32 (fun _ => rfl) (by decide) rfl (Nat.le_of_ble_eq_true rfl) (fun _ => ⟨rfl, rfl⟩) rfl ?_
    refine z_aload_n (i := 0) (q := 54) dX7_init_53 rfl rfl rfl ?_
    refine z_iconst (v := 0) (q := 55) dX7_init_54 (by decide) rfl ?_
    refine c_putf (q := 58) dX7_init_55 fp_X7_35 (fun _ => rfl) (by decide) rfl (Nat.le_of_ble_eq_true rfl) (fun _ => ⟨rfl, rfl⟩) rfl ?_
    refine z_aload_n (i := 0) (q := 59) dX7_init_58 rfl rfl rfl ?_
    refine c_new (ci := 3) (N := 6) (fs := [.int 0, .int 0, .int 0, .int 0, .null, .null]) (q := 62) dX7_init_59 rfl zin3 tyX3_ok wd_63 wd_64 wd_3 (by intro j hj; match j, hj with | 0, _ => rfl | 1, _ => rfl | 2, _ => rfl | 3, _ => rfl | 4, _ => rfl | 5, _ => rfl) (fun _ => rfl) (by decide) (by decide) (by decide) rfl ?_
    refine z_dup (q := 63) dX7_init_62 rfl rfl ?_
    refine z_callI (As := []) (q := 66) mk_X3_init rfl rfl dX7_init_63 wd_65 wd_66 (ev_X3_init _ 15 14 _ (by decide) (by decide) rfl) rfl (by simp [Value.category]) rfl (by decide) (by decide) rfl ?_
    refine c_putf (q := 69) dX7_init_66 fp_X7_42 (fun _ => rfl) (by decide) rfl (Nat.le_of_ble_eq_true rfl) (fun _ => ⟨rfl, rfl⟩) rfl ?_
    refine z_aload_n (i := 0) (q := 70) dX7_init_69 rfl rfl rfl ?_
    refine c_new (ci := 3) (N := 6) (fs := [.int 0, .int 0, .int 0, .int 0, .null, .null]) (q := 73) dX7_init_70 rfl zin3 tyX3_ok wd_63 wd_64 wd_3 (by intro j hj; match j, hj with | 0, _ => rfl | 1, _ => rfl | 2, _ => rfl | 3, _ => rfl | 4, _ => rfl | 5, _ => rfl) (fun _ => rfl) (by decide) (by decide) (by decide) rfl ?_
    refine z_dup (q := 74) dX7_init_73 rfl rfl ?_
    refine z_callI (As := []) (q := 77) mk_X3_init rfl rfl dX7_init_74 wd_65 wd_66 (ev_X3_init _ 30 29 _ (by decide) (by decide) rfl) rfl (by simp [Value.category]) rfl (by decide) (by decide) rfl ?_
    refine c_putf (q := 80) dX7_init_77 fp_X7_46 (fun _ => rfl) (by decide) rfl (Nat.le_of_ble_eq_true rfl) (fun _ => ⟨rfl, rfl⟩) rfl ?_
    refine z_aload_n (i := 0) (q := 81) dX7_init_80 rfl rfl rfl ?_
    refine z_iconst (v := 2) (q := 82) dX7_init_81 (by decide) rfl ?_
    refine c_newq (kd := 6) (N := 2) (q := 85) dX7_init_82 wd_63 (by decide) (fun _ => rfl) (by decide) (by decide) (by decide) (by decide) (by decide) (by decide) rfl ?_
    refine c_putf (q := 88) dX7_init_85 fp_X7_49 (fun _ => rfl) (by decide) rfl (Nat.le_of_ble_eq_true rfl) (fun _ => ⟨rfl, rfl⟩) rfl ?_
    refine z_aload_n (i := 0) (q := 89) dX7_init_88 rfl rfl rfl ?_
    refine z_iconst (v := 2) (q := 90) dX7_init_89 (by decide) rfl ?_
    refine c_newa (kd := 2) (N := 2) (x := .inl fun _ => 0) (q := 92) dX7_init_90 rfl wd_196 (fun _ => rfl) (fun _ _ h => h) (fun _ => rfl) (fun _ => rfl) (by decide) (by decide) (by decide) (by decide) (by decide) (by decide) rfl ?_
    refine c_putf (q := 95) dX7_init_92 fp_X7_53 (fun _ => rfl) (by decide) rfl (Nat.le_of_ble_eq_true rfl) (fun _ => ⟨rfl, rfl⟩) rfl ?_
    refine z_aload_n (i := 0) (q := 96) dX7_init_95 rfl rfl rfl ?_
    refine c_new (ci := 0) (N := 3) (fs := [.null, .int 0, .int 0]) (q := 99) dX7_init_96 rfl zin0 tyX0_ok wd_177 wd_178 wd_6 (by intro j hj; match j, hj with | 0, _ => rfl | 1, _ => rfl | 2, _ => rfl) (fun _ => rfl) (by decide) (by decide) (by decide) rfl ?_
    refine z_dup (q := 100) dX7_init_99 rfl rfl ?_
    refine z_callI (As := []) (q := 103) mk_X0_init rfl rfl dX7_init_100 wd_179 wd_180 (ev_X0_init _ 47 46 _ (by decide) (by decide) rfl) rfl (by simp [Value.category]) rfl (by decide) (by decide) rfl ?_
    refine c_putf (q := 106) dX7_init_103 fp_X7_60 (fun _ => rfl) (by decide) rfl (Nat.le_of_ble_eq_true rfl) (fun _ => ⟨rfl, rfl⟩) rfl ?_
    refine z_aload_n (i := 0) (q := 107) dX7_init_106 rfl rfl rfl ?_
    refine c_new (ci := 2) (N := 1) (fs := [.null]) (q := 110) dX7_init_107 rfl zin2 tyX2_ok wd_197 wd_198 wd_7 (by intro j hj; match j, hj with | 0, _ => rfl) (fun _ => rfl) (by decide) (by decide) (by decide) rfl ?_
    refine z_dup (q := 111) dX7_init_110 rfl rfl ?_
    refine z_callIN (host := RX7) (As := []) (q := 114) mk_X2_init rfl rfl dX7_init_111 (by decide +kernel) wd_200 (ev_X2_init _ 145 144 _ (by decide) (by decide) rfl) rfl (by simp [Value.category]) rfl (by decide) (by decide) rfl ?_
    refine c_putf (q := 117) dX7_init_114 fp_X7_67 (fun _ => rfl) (by decide) rfl (Nat.le_of_ble_eq_true rfl) (fun _ => ⟨rfl, rfl⟩) rfl ?_
    refine z_aload_n (i := 0) (q := 118) dX7_init_117 rfl rfl rfl ?_
    refine c_new (ci := 2) (N := 1) (fs := [.null]) (q := 121) dX7_init_118 rfl zin2 tyX2_ok wd_197 wd_198 wd_7 (by intro j hj; match j, hj with | 0, _ => rfl) (fun _ => rfl) (by decide) (by decide) (by decide) rfl ?_
    refine z_dup (q := 122) dX7_init_121 rfl rfl ?_
    refine z_callIN (host := RX7) (As := []) (q := 125) mk_X2_init rfl rfl dX7_init_122 (by decide +kernel) wd_200 (ev_X2_init _ 147 146 _ (by decide) (by decide) rfl) rfl (by simp [Value.category]) rfl (by decide) (by decide) rfl ?_
    refine c_putf (q := 128) dX7_init_125 fp_X7_71 (fun _ => rfl) (by decide) rfl (Nat.le_of_ble_eq_true rfl) (fun _ => ⟨rfl, rfl⟩) rfl ?_
    refine z_aload_n (i := 0) (q := 129) dX7_init_128 rfl rfl rfl ?_
    refine c_new (ci := 1) (N := 2) (fs := [.null, .int 0]) (q := 132) dX7_init_129 rfl zin1 tyX1_ok wd_208 wd_209 wd_8 (by intro j hj; match j, hj with | 0, _ => rfl | 1, _ => rfl) (fun _ => rfl) (by decide) (by decide) (by decide) rfl ?_
    refine z_dup (q := 133) dX7_init_132 rfl rfl ?_
    refine z_callIN (host := RX7) (As := []) (q := 136) mk_X1_init rfl rfl dX7_init_133 (by decide +kernel) wd_211 (ev_X1_init _ 149 148 _ (by decide) (by decide) rfl) rfl (by simp [Value.category]) rfl (by decide) (by decide) rfl ?_
    refine c_putf (q := 139) dX7_init_136 fp_X7_77 (fun _ => rfl) (by decide) rfl (Nat.le_of_ble_eq_true rfl) (fun _ => ⟨rfl, rfl⟩) rfl ?_
    refine z_iconst (v := 0) (q := 140) dX7_init_139 (by decide) rfl ?_
    refine z_istore_n (i := 1) (ls' := [_, _]) (q := 141) dX7_init_140 rfl (by decide) rfl rfl ?_
    refine z_iload_n (i := 1) (q := 142) dX7_init_141 rfl rfl rfl ?_
    refine z_bipush (v := 8) (q := 144) dX7_init_142 (by decide) rfl ?_
    refine z_icmp_ge (tgt := 160) (q := 147) dX7_init_144 (by decide) rfl (fun c => absurd c (by decide)) (fun c => ?_)
    refine z_aload_n (i := 0) (q := 148) dX7_init_147 rfl rfl rfl ?_
    refine c_getf (q := 151) dX7_init_148 fl_X7_18 (by decide) rfl rfl rfl ?_
    refine z_iload_n (i := 1) (q := 152) dX7_init_151 rfl rfl rfl ?_
    refine z_iconst (v := (-1)) (q := 153) dX7_init_152 (by decide) rfl ?_
    refine c_iast (q := 154) dX7_init_153 (by decide) rfl (vp_c (by decide)) rfl ?_
    refine z_iinc (i := 1) (ls' := [_, _]) (v := 1) (q := 157) dX7_init_154 rfl rfl (by decide) rfl rfl ?_
    refine z_goto (tgt := 141) dX7_init_157 (by decide) ?_
    refine z_iload_n (i := 1) (q := 142) dX7_init_141 rfl rfl rfl ?_
    refine z_bipush (v := 8) (q := 144) dX7_init_142 (by decide) rfl ?_
    refine z_icmp_ge (tgt := 160) (q := 147) dX7_init_144 (by decide) rfl (fun c => absurd c (by decide)) (fun c => ?_)
    refine z_aload_n (i := 0) (q := 148) dX7_init_147 rfl rfl rfl ?_
    refine c_getf (q := 151) dX7_init_148 fl_X7_18 (by decide) rfl rfl rfl ?_
    refine z_iload_n (i := 1) (q := 152) dX7_init_151 rfl rfl rfl ?_
    refine z_iconst (v := (-1)) (q := 153) dX7_init_152 (by decide) rfl ?_
    refine c_iast (q := 154) dX7_init_153 (by decide) rfl (vp_c (by decide)) rfl ?_
    refine z_iinc (i := 1) (ls' := [_, _]) (v := 2) (q := 157) dX7_init_154 rfl rfl (by decide) rfl rfl ?_
    refine z_goto (tgt := 141) dX7_init_157 (by decide) ?_
    refine z_iload_n (i := 1) (q := 142) dX7_init_141 rfl rfl rfl ?_
    refine z_bipush (v := 8) (q := 144) dX7_init_142 (by decide) rfl ?_
    refine z_icmp_ge (tgt := 160) (q := 147) dX7_init_144 (by decide) rfl (fun c => absurd c (by decide)) (fun c => ?_)
    refine z_aload_n (i := 0) (q := 148) dX7_init_147 rfl rfl rfl ?_
    refine c_getf (q := 151) dX7_init_148 fl_X7_18 (by decide) rfl rfl rfl ?_
    refine z_iload_n (i := 1) (q := 152) dX7_init_151 rfl rfl rfl ?_
    refine z_iconst (v := (-1)) (q := 153) dX7_init_152 (by decide) rfl ?_
    refine c_iast (q := 154) dX7_init_153 (by decide) rfl (vp_c (by decide)) rfl ?_
    refine z_iinc (i := 1) (ls' := [_, _]) (v := 3) (q := 157) dX7_init_154 rfl rfl (by decide) rfl rfl ?_
    refine z_goto (tgt := 141) dX7_init_157 (by decide) ?_
    refine z_iload_n (i := 1) (q := 142) dX7_init_141 rfl rfl rfl ?_
    refine z_bipush (v := 8) (q := 144) dX7_init_142 (by decide) rfl ?_
    refine z_icmp_ge (tgt := 160) (q := 147) dX7_init_144 (by decide) rfl (fun c => absurd c (by decide)) (fun c => ?_)
    refine z_aload_n (i := 0) (q := 148) dX7_init_147 rfl rfl rfl ?_
    refine c_getf (q := 151) dX7_init_148 fl_X7_18 (by decide) rfl rfl rfl ?_
    refine z_iload_n (i := 1) (q := 152) dX7_init_151 rfl rfl rfl ?_
    refine z_iconst (v := (-1)) (q := 153) dX7_init_152 (by decide) rfl ?_
    refine c_iast (q := 154) dX7_init_153 (by decide) rfl (vp_c (by decide)) rfl ?_
    refine z_iinc (i := 1) (ls' := [_, _]) (v := 4) (q := 157) dX7_init_154 rfl rfl (by decide) rfl rfl ?_
    refine z_goto (tgt := 141) dX7_init_157 (by decide) ?_
    refine z_iload_n (i := 1) (q := 142) dX7_init_141 rfl rfl rfl ?_
    refine z_bipush (v := 8) (q := 144) dX7_init_142 (by decide) rfl ?_
    refine z_icmp_ge (tgt := 160) (q := 147) dX7_init_144 (by decide) rfl (fun c => absurd c (by decide)) (fun c => ?_)
    refine z_aload_n (i := 0) (q := 148) dX7_init_147 rfl rfl rfl ?_
    refine c_getf (q := 151) dX7_init_148 fl_X7_18 (by decide) rfl rfl rfl ?_
    refine z_iload_n (i := 1) (q := 152) dX7_init_151 rfl rfl rfl ?_
    refine z_iconst (v := (-1)) (q := 153) dX7_init_152 (by decide) rfl ?_
    refine c_iast (q := 154) dX7_init_153 (by decide) rfl (vp_c (by decide)) rfl ?_
    refine z_iinc (i := 1) (ls' := [_, _]) (v := 5) (q := 157) dX7_init_154 rfl rfl (by decide) rfl rfl ?_
    refine z_goto (tgt := 141) dX7_init_157 (by decide) ?_
    refine z_iload_n (i := 1) (q := 142) dX7_init_141 rfl rfl rfl ?_
    refine z_bipush (v := 8) (q := 144) dX7_init_142 (by decide) rfl ?_
    refine z_icmp_ge (tgt := 160) (q := 147) dX7_init_144 (by decide) rfl (fun c => absurd c (by decide)) (fun c => ?_)
    refine z_aload_n (i := 0) (q := 148) dX7_init_147 rfl rfl rfl ?_
    refine c_getf (q := 151) dX7_init_148 fl_X7_18 (by decide) rfl rfl rfl ?_
    refine z_iload_n (i := 1) (q := 152) dX7_init_151 rfl rfl rfl ?_
    refine z_iconst (v := (-1)) (q := 153) dX7_init_152 (by decide) rfl ?_
    refine c_iast (q := 154) dX7_init_153 (by decide) rfl (vp_c (by decide)) rfl ?_
    refine z_iinc (i := 1) (ls' := [_, _]) (v := 6) (q := 157) dX7_init_154 rfl rfl (by decide) rfl rfl ?_
    refine z_goto (tgt := 141) dX7_init_157 (by decide) ?_
    refine z_iload_n (i := 1) (q := 142) dX7_init_141 rfl rfl rfl ?_
    refine z_bipush (v := 8) (q := 144) dX7_init_142 (by decide) rfl ?_
    refine z_icmp_ge (tgt := 160) (q := 147) dX7_init_144 (by decide) rfl (fun c => absurd c (by decide)) (fun c => ?_)
    refine z_aload_n (i := 0) (q := 148) dX7_init_147 rfl rfl rfl ?_
    refine c_getf (q := 151) dX7_init_148 fl_X7_18 (by decide) rfl rfl rfl ?_
    refine z_iload_n (i := 1) (q := 152) dX7_init_151 rfl rfl rfl ?_
    refine z_iconst (v := (-1)) (q := 153) dX7_init_152 (by decide) rfl ?_
    refine c_iast (q := 154) dX7_init_153 (by decide) rfl (vp_c (by decide)) rfl ?_
    refine z_iinc (i := 1) (ls' := [_, _]) (v := 7) (q := 157) dX7_init_154 rfl rfl (by decide) rfl rfl ?_
    refine z_goto (tgt := 141) dX7_init_157 (by decide) ?_
    refine z_iload_n (i := 1) (q := 142) dX7_init_141 rfl rfl rfl ?_
    refine z_bipush (v := 8) (q := 144) dX7_init_142 (by decide) rfl ?_
    refine z_icmp_ge (tgt := 160) (q := 147) dX7_init_144 (by decide) rfl (fun c => absurd c (by decide)) (fun c => ?_)
    refine z_aload_n (i := 0) (q := 148) dX7_init_147 rfl rfl rfl ?_
    refine c_getf (q := 151) dX7_init_148 fl_X7_18 (by decide) rfl rfl rfl ?_
    refine z_iload_n (i := 1) (q := 152) dX7_init_151 rfl rfl rfl ?_
    refine z_iconst (v := (-1)) (q := 153) dX7_init_152 (by decide) rfl ?_
    refine c_iast (q := 154) dX7_init_153 (by decide) rfl (vp_c (by decide)) rfl ?_
    refine z_iinc (i := 1) (ls' := [_, _]) (v := 8) (q := 157) dX7_init_154 rfl rfl (by decide) rfl rfl ?_
    refine z_goto (tgt := 141) dX7_init_157 (by decide) ?_
    refine z_iload_n (i := 1) (q := 142) dX7_init_141 rfl rfl rfl ?_
    refine z_bipush (v := 8) (q := 144) dX7_init_142 (by decide) rfl ?_
    refine z_icmp_ge (tgt := 160) (q := 147) dX7_init_144 (by decide) rfl (fun c => ?_) (fun c => absurd (by decide) c)
    refine z_iconst (v := 0) (q := 161) dX7_init_160 (by decide) rfl ?_
    refine z_istore_n (i := 1) (ls' := [_, _]) (q := 162) dX7_init_161 rfl (by decide) rfl rfl ?_
    refine z_iload_n (i := 1) (q := 163) dX7_init_162 rfl rfl rfl ?_
    refine z_iconst (v := 2) (q := 164) dX7_init_163 (by decide) rfl ?_
    refine z_icmp_ge (tgt := 186) (q := 167) dX7_init_164 (by decide) rfl (fun c => absurd c (by decide)) (fun c => ?_)
    refine z_aload_n (i := 0) (q := 168) dX7_init_167 rfl rfl rfl ?_
    refine c_getf (q := 171) dX7_init_168 fl_X7_49 (by decide) rfl rfl rfl ?_
    refine z_iload_n (i := 1) (q := 172) dX7_init_171 rfl rfl rfl ?_
    refine c_new (ci := 3) (N := 6) (fs := [.int 0, .int 0, .int 0, .int 0, .null, .null]) (q := 175) dX7_init_172 rfl zin3 tyX3_ok wd_63 wd_64 wd_3 (by intro j hj; match j, hj with | 0, _ => rfl | 1, _ => rfl | 2, _ => rfl | 3, _ => rfl | 4, _ => rfl | 5, _ => rfl) (fun _ => rfl) (by decide) (by decide) (by decide) rfl ?_
    refine z_dup (q := 176) dX7_init_175 rfl rfl ?_
    refine z_callI (As := []) (q := 179) mk_X3_init rfl rfl dX7_init_176 wd_65 wd_66 (ev_X3_init _ 151 150 _ (by decide) (by decide) rfl) rfl (by simp [Value.category]) rfl (by decide) (by decide) rfl ?_
    refine c_aast (kd := 6) (N := 2) (ci := 3) (q := 180) dX7_init_179 (fun _ => rfl) (by decide) rfl (by decide) rfl rfl (vp_c (by decide)) rfl ?_
    refine z_iinc (i := 1) (ls' := [_, _]) (v := 1) (q := 183) dX7_init_180 rfl rfl (by decide) rfl rfl ?_
    refine z_goto (tgt := 162) dX7_init_183 (by decide) ?_
    refine z_iload_n (i := 1) (q := 163) dX7_init_162 rfl rfl rfl ?_
    refine z_iconst (v := 2) (q := 164) dX7_init_163 (by decide) rfl ?_
    refine z_icmp_ge (tgt := 186) (q := 167) dX7_init_164 (by decide) rfl (fun c => absurd c (by decide)) (fun c => ?_)
    refine z_aload_n (i := 0) (q := 168) dX7_init_167 rfl rfl rfl ?_
    refine c_getf (q := 171) dX7_init_168 fl_X7_49 (by decide) rfl rfl rfl ?_
    refine z_iload_n (i := 1) (q := 172) dX7_init_171 rfl rfl rfl ?_
    refine c_new (ci := 3) (N := 6) (fs := [.int 0, .int 0, .int 0, .int 0, .null, .null]) (q := 175) dX7_init_172 rfl zin3 tyX3_ok wd_63 wd_64 wd_3 (by intro j hj; match j, hj with | 0, _ => rfl | 1, _ => rfl | 2, _ => rfl | 3, _ => rfl | 4, _ => rfl | 5, _ => rfl) (fun _ => rfl) (by decide) (by decide) (by decide) rfl ?_
    refine z_dup (q := 176) dX7_init_175 rfl rfl ?_
    refine z_callI (As := []) (q := 179) mk_X3_init rfl rfl dX7_init_176 wd_65 wd_66 (ev_X3_init _ 166 165 _ (by decide) (by decide) rfl) rfl (by simp [Value.category]) rfl (by decide) (by decide) rfl ?_
    refine c_aast (kd := 6) (N := 2) (ci := 3) (q := 180) dX7_init_179 (fun _ => rfl) (by decide) rfl (by decide) rfl rfl (vp_c (by decide)) rfl ?_
    refine z_iinc (i := 1) (ls' := [_, _]) (v := 2) (q := 183) dX7_init_180 rfl rfl (by decide) rfl rfl ?_
    refine z_goto (tgt := 162) dX7_init_183 (by decide) ?_
    refine z_iload_n (i := 1) (q := 163) dX7_init_162 rfl rfl rfl ?_
    refine z_iconst (v := 2) (q := 164) dX7_init_163 (by decide) rfl ?_
    refine z_icmp_ge (tgt := 186) (q := 167) dX7_init_164 (by decide) rfl (fun c => ?_) (fun c => absurd (by decide) c)
    refine z_return dX7_init_186 rfl ?_ (by decide) (by decide)
    rfl
  case h2 =>
    repeat (refine all_s ?_ rfl)
    refine all_s ?_ (congrArg (fun f => (Sum.inl (6, 2, Sum.inr (Sum.inr (Sum.inr (Sum.inr f)))) : zE)) img_f)
    repeat (refine all_s ?_ rfl)
    exact fun a ha => absurd ha (by omega)
set_option maxHeartbeats 8000000 in
set_option maxRecDepth 200000 in
theorem ev_X8_init (d : Nat) (c : Nat → zE) : ∃ c1 : Nat → zE, zEv (d + 1) zM_X8_init 12 3068 [.ref 180] (zmk 181 (zup c 180 (.inr (8, [.int 0, .int 0, .null, .null, .null, .null, .null, .null, .int 0, .null, .int 0, .int 0, .int 0, .int 0, .int 0, .int 0, .int 0, .int 0, .int 0, .null, .null, .null, .null, .null, .int 0])))) (none, zmk 193 c1) ∧ (∀ a, a < 180 → c1 a = c a) ∧ ∀ a, 180 ≤ a → a < 193 → c1 a = zcell m0 a := by
  refine ⟨?c, ?h1, ?h2, ?h3⟩
  case h1 =>
    refine zEv_of (by decide) (fun G => Nat.le_of_ble_eq_true rfl) ?_
    show ZW _ _ _ _ 0 [some (.ref 180)] [] _ _ _ _
    refine z_aload_n (i := 0) (q := 1) dX8_init_0 rfl rfl rfl ?_
    refine z_objInit (q := 4) dX8_init_1 wd_742 wd_24 wd_25 (by simp [Value.category]) rfl ?_
    refine z_aload_n (i := 0) (q := 5) dX8_init_4 rfl rfl rfl ?_
    refine z_bipush (v := 8) (q := 7) dX8_init_5 (by decide) rfl ?_
    refine c_newa (kd := 0) (N := 8) (x := .inl fun _ => 0) (q := 9) dX8_init_7 rfl wd_62 (fun _ => rfl) (fun _ _ h => h) (fun _ => rfl) (fun _ => rfl) (by decide) (by decide) (by decide) (by decide) (by decide) (by decide) rfl ?_
    refine z_dup (q := 10) dX8_init_9 rfl rfl ?_
    refine z_iconst (v := 0) (q := 11) dX8_init_10 (by decide) rfl ?_
    refine z_iconst (v := (-1)) (q := 12) dX8_init_11 (by decide) rfl ?_
    refine c_iast (q := 13) dX8_init_12 (by decide) rfl (vp_c (by decide)) rfl ?_
    refine z_dup (q := 14) dX8_init_13 rfl rfl ?_
    refine z_iconst (v := 1) (q := 15) dX8_init_14 (by decide) rfl ?_
    refine z_iconst (v := (-1)) (q := 16) dX8_init_15 (by decide) rfl ?_
    refine c_iast (q := 17) dX8_init_16 (by decide) rfl (vp_c (by decide)) rfl ?_
    refine z_dup (q := 18) dX8_init_17 rfl rfl ?_
    refine z_iconst (v := 2) (q := 19) dX8_init_18 (by decide) rfl ?_
    refine z_iconst (v := (-1)) (q := 20) dX8_init_19 (by decide) rfl ?_
    refine c_iast (q := 21) dX8_init_20 (by decide) rfl (vp_c (by decide)) rfl ?_
    refine z_dup (q := 22) dX8_init_21 rfl rfl ?_
    refine z_iconst (v := 3) (q := 23) dX8_init_22 (by decide) rfl ?_
    refine z_iconst (v := (-1)) (q := 24) dX8_init_23 (by decide) rfl ?_
    refine c_iast (q := 25) dX8_init_24 (by decide) rfl (vp_c (by decide)) rfl ?_
    refine z_dup (q := 26) dX8_init_25 rfl rfl ?_
    refine z_iconst (v := 4) (q := 27) dX8_init_26 (by decide) rfl ?_
    refine z_iconst (v := (-1)) (q := 28) dX8_init_27 (by decide) rfl ?_
    refine c_iast (q := 29) dX8_init_28 (by decide) rfl (vp_c (by decide)) rfl ?_
    refine z_dup (q := 30) dX8_init_29 rfl rfl ?_
    refine z_iconst (v := 5) (q := 31) dX8_init_30 (by decide) rfl ?_
    refine z_iconst (v := (-1)) (q := 32) dX8_init_31 (by decide) rfl ?_
    refine c_iast (q := 33) dX8_init_32 (by decide) rfl (vp_c (by decide)) rfl ?_
    refine z_dup (q := 34) dX8_init_33 rfl rfl ?_
    refine z_bipush (v := 6) (q := 36) dX8_init_34 (by decide) rfl ?_
    refine z_iconst (v := (-1)) (q := 37) dX8_init_36 (by decide) rfl ?_
    refine c_iast (q := 38) dX8_init_37 (by decide) rfl (vp_c (by decide)) rfl ?_
    refine z_dup (q := 39) dX8_init_38 rfl rfl ?_
    refine z_bipush (v := 7) (q := 41) dX8_init_39 (by decide) rfl ?_
    refine z_iconst (v := (-1)) (q := 42) dX8_init_41 (by decide) rfl ?_
    refine c_iast (q := 43) dX8_init_42 (by decide) rfl (vp_c (by decide)) rfl ?_
    refine c_putf (q := 46) dX8_init_43 fp_X8_7 (fun _ => rfl) (by decide) rfl (Nat.le_of_ble_eq_true rfl) (fun _ => ⟨rfl, rfl⟩) rfl ?_
    refine z_aload_n (i := 0) (q := 47) dX8_init_46 rfl rfl rfl ?_
    refine z_bipush (v := 8) (q := 49) dX8_init_47 (by decide) rfl ?_
    refine c_newa (kd := 0) (N := 8) (x := .inl fun _ => 0) (q := 51) dX8_init_49 rfl wd_62 (fun _ => rfl) (fun _ _ h => h) (fun _ => rfl) (fun _ => rfl) (by decide) (by decide) (by decide) (by decide) (by decide) (by decide) rfl ?_
    refine c_putf (q := 54) dX8_init_51 fp_X8_13 (fun _ => rfl) (by decide) rfl (Nat.le_of_ble_eq_true rfl) (fun _ => ⟨rfl, rfl⟩) rfl ?_
    refine z_aload_n (i := 0) (q := 55) dX8_init_54 rfl rfl rfl ?_
    refine z_sipush (v := 320) (q := 58) dX8_init_55 (by decide) rfl ?_
    refine c_newa (kd := 0) (N := 320) (x := .inl fun _ => 0) (q := 60) dX8_init_58 rfl wd_62 (fun _ => rfl) (fun _ _ h => h) (fun _ => rfl) (fun _ => rfl) (by decide) (by decide) (by decide) (by decide) (by decide) (by decide) rfl ?_
    refine c_putf (q := 63) dX8_init_60 fp_X8_16 (fun _ => rfl) (by decide) rfl (Nat.le_of_ble_eq_true rfl) (fun _ => ⟨rfl, rfl⟩) rfl ?_
    refine z_aload_n (i := 0) (q := 64) dX8_init_63 rfl rfl rfl ?_
    refine z_bipush (v := 68) (q := 66) dX8_init_64 (by decide) rfl ?_
    refine c_newa (kd := 0) (N := 68) (x := .inl fun _ => 0) (q := 68) dX8_init_66 rfl wd_62 (fun _ => rfl) (fun _ _ h => h) (fun _ => rfl) (fun _ => rfl) (by decide) (by decide) (by decide) (by decide) (by decide) (by decide) rfl ?_
    refine c_putf (q := 71) dX8_init_68 fp_X8_19 (fun _ => rfl) (by decide) rfl (Nat.le_of_ble_eq_true rfl) (fun _ => ⟨rfl, rfl⟩) rfl ?_
    refine z_aload_n (i := 0) (q := 72) dX8_init_71 rfl rfl rfl ?_
    refine z_bipush (v := 68) (q := 74) dX8_init_72 (by decide) rfl ?_
    refine c_newa (kd := 0) (N := 68) (x := .inl fun _ => 0) (q := 76) dX8_init_74 rfl wd_62 (fun _ => rfl) (fun _ _ h => h) (fun _ => rfl) (fun _ => rfl) (by decide) (by decide) (by decide) (by decide) (by decide) (by decide) rfl ?_
    refine c_putf (q := 79) dX8_init_76 fp_X8_22 (fun _ => rfl) (by decide) rfl (Nat.le_of_ble_eq_true rfl) (fun _ => ⟨rfl, rfl⟩) rfl ?_
    refine z_aload_n (i := 0) (q := 80) dX8_init_79 rfl rfl rfl ?_
    refine z_sipush (v := 1632) (q := 83) dX8_init_80 (by decide) rfl ?_
    refine c_newa (kd := 0) (N := 1632) (x := .inl fun _ => 0) (q := 85) dX8_init_83 rfl wd_62 (fun _ => rfl) (fun _ _ h => h) (fun _ => rfl) (fun _ => rfl) (by decide) (by decide) (by decide) (by decide) (by decide) (by decide) rfl ?_
    refine c_putf (q := 88) dX8_init_85 fp_X8_25 (fun _ => rfl) (by decide) rfl (Nat.le_of_ble_eq_true rfl) (fun _ => ⟨rfl, rfl⟩) rfl ?_
    refine z_aload_n (i := 0) (q := 89) dX8_init_88 rfl rfl rfl ?_
    refine z_sipush (v := 400) (q := 92) dX8_init_89 (by decide) rfl ?_
    refine c_newa (kd := 0) (N := 400) (x := .inl fun _ => 0) (q := 94) dX8_init_92 rfl wd_62 (fun _ => rfl) (fun _ _ h => h) (fun _ => rfl) (fun _ => rfl) (by decide) (by decide) (by decide) (by decide) (by decide) (by decide) rfl ?_
    refine c_putf (q := 97) dX8_init_94 fp_X8_28 (fun _ => rfl) (by decide) rfl (Nat.le_of_ble_eq_true rfl) (fun _ => ⟨rfl, rfl⟩) rfl ?_
    refine z_aload_n (i := 0) (q := 98) dX8_init_97 rfl rfl rfl ?_
    refine z_sipush (v := 205) (q := 101) dX8_init_98 (by decide) rfl ?_
    refine c_newa (kd := 1) (N := 205) (x := .inr (.inl fun _ => 0)) (q := 103) dX8_init_101 rfl wd_207 (fun _ => rfl) (fun _ _ h => h) (fun _ => rfl) (fun _ => rfl) (by decide) (by decide) (by decide) (by decide) (by decide) (by decide) rfl ?_
    refine c_putf (q := 106) dX8_init_103 fp_X8_31 (fun _ => rfl) (by decide) rfl (Nat.le_of_ble_eq_true rfl) (fun _ => ⟨rfl, rfl⟩) rfl ?_
    refine z_aload_n (i := 0) (q := 107) dX8_init_106 rfl rfl rfl ?_
    refine z_sipush (v := 205) (q := 110) dX8_init_107 (by decide) rfl ?_
    refine c_newa (kd := 1) (N := 205) (x := .inr (.inl fun _ => 0)) (q := 112) dX8_init_110 rfl wd_207 (fun _ => rfl) (fun _ _ h => h) (fun _ => rfl) (fun _ => rfl) (by decide) (by decide) (by decide) (by decide) (by decide) (by decide) rfl ?_
    refine c_putf (q := 115) dX8_init_112 fp_X8_35 (fun _ => rfl) (by decide) rfl (Nat.le_of_ble_eq_true rfl) (fun _ => ⟨rfl, rfl⟩) rfl ?_
    refine z_aload_n (i := 0) (q := 116) dX8_init_115 rfl rfl rfl ?_
    refine z_iconst (v := 2) (q := 117) dX8_init_116 (by decide) rfl ?_
    refine c_newa (kd := 2) (N := 2) (x := .inl fun _ => 0) (q := 119) dX8_init_117 rfl wd_196 (fun _ => rfl) (fun _ _ h => h) (fun _ => rfl) (fun _ => rfl) (by decide) (by decide) (by decide) (by decide) (by decide) (by decide) rfl ?_
    refine c_putf (q := 122) dX8_init_119 fp_X8_38 (fun _ => rfl) (by decide) rfl (Nat.le_of_ble_eq_true rfl) (fun _ => ⟨rfl, rfl⟩) rfl ?_
    refine z_aload_n (i := 0) (q := 123) dX8_init_122 rfl rfl rfl ?_
    refine z_sipush (v := 136) (q := 126) dX8_init_123 (by decide) rfl ?_
    refine c_newa (kd := 0) (N := 136) (x := .inl fun _ => 0) (q := 128) dX8_init_126 rfl wd_62 (fun _ => rfl) (fun _ _ h => h) (fun _ => rfl) (fun _ => rfl) (by decide) (by decide) (by decide) (by decide) (by decide) (by decide) rfl ?_
    refine c_putf (q := 131) dX8_init_128 fp_X8_42 (fun _ => rfl) (by decide) rfl (Nat.le_of_ble_eq_true rfl) (fun _ => ⟨rfl, rfl⟩) rfl ?_
    refine z_aload_n (i := 0) (q := 132) dX8_init_131 rfl rfl rfl ?_
    refine z_bipush (v := 16) (q := 134) dX8_init_132 (by decide) rfl ?_
    refine c_newa (kd := 0) (N := 16) (x := .inl fun _ => 0) (q := 136) dX8_init_134 rfl wd_62 (fun _ => rfl) (fun _ _ h => h) (fun _ => rfl) (fun _ => rfl) (by decide) (by decide) (by decide) (by decide) (by decide) (by decide) rfl ?_
    refine c_putf (q := 139) dX8_init_136 fp_X8_45 (fun _ => rfl) (by decide) rfl (Nat.le_of_ble_eq_true rfl) (fun _ => ⟨rfl, rfl⟩) rfl ?_
    refine z_return dX8_init_139 rfl ?_ (by decide) (by decide)
    rfl
  case h2 =>
    intro a ha
    simp only [zup]
    repeat rw [if_neg (by omega)]
  case h3 =>
    repeat (refine all_f (n := _) ?_ rfl)
    exact fun a h1 h2 => absurd h2 (by omega)
