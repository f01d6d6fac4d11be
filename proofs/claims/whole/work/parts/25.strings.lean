/-! ===== strings: the JDK's own members over the constants ===== -/
theorem zLen_le (i : Nat) : zLen.getD i 0 ≤ 7 := by
  match i with
  | 0 => decide
  | 1 => decide
  | 2 => decide
  | 3 => decide
  | 4 => decide
  | 5 => decide
  | 6 => decide
  | 7 => decide
  | i + 8 => exact Nat.zero_le _
/-- the char at k of the constant i -/
def zch (i k : Nat) : Int32 := (zByt.getD i []).getD k 0
theorem zch_all : ∀ i, i < 8 → ∀ k, k < 8 → (((zch i k &&& 255).toUInt32 % 65536).toInt32 = zch i k ∧ narrow .char (.int (zch i k)) = .int (zch i k)) := by decide +kernel
theorem zlen_sh : ∀ i, i < 8 → nI (zLen.getD i 0) >>> ((0 : Int32) &&& 31) = nI (zLen.getD i 0) := by decide +kernel
set_option maxHeartbeats 4000000 in
set_option maxRecDepth 100000 in
theorem ev_J0_coder_7d493 (d : Nat) (h : zH) (i : Nat) (hi8 : i < 8) : zEv (d) zM_J0_coder_7d493 0 0 [.ref (1000000 + i)] (h) (some (.int (0)), h) := by
  refine zEv_of (by decide) (fun G => Nat.le_of_ble_eq_true rfl) ?_
  show ZW _ _ _ _ 0 [some (.ref (1000000 + i))] [] _ _ _ _
  refine z_gets1 (q := 3) dJ0_coder_7d493_0 wd_366 rfl ?_
  refine z_if_eq (tgt := 13) (q := 6) dJ0_coder_7d493_3 (by decide) rfl (fun c1 => ?_) (fun c1 => ?_)
  · exact absurd c1 (by decide)
  · skip
    refine z_aload_n (i := 0) (q := 7) dJ0_coder_7d493_6 rfl rfl rfl ?_
    refine z_strcod (i := i) (q := 10) (by omega) dJ0_coder_7d493_7 wd_1109 rfl ?_
    refine z_goto (tgt := 14) dJ0_coder_7d493_10 (by decide) ?_
    refine z_ireturn dJ0_coder_7d493_14 rfl rfl ?_ (Nat.le_refl _) (Nat.le_refl _)
    rfl
set_option maxHeartbeats 4000000 in
set_option maxRecDepth 100000 in
theorem ev_J0_isLatin1_aae02 (d : Nat) (h : zH) (i : Nat) (hi8 : i < 8) : zEv (d) zM_J0_isLatin1_aae02 0 0 [.ref (1000000 + i)] (h) (some (.int (1)), h) := by
  refine zEv_of (by decide) (fun G => Nat.le_of_ble_eq_true rfl) ?_
  show ZW _ _ _ _ 0 [some (.ref (1000000 + i))] [] _ _ _ _
  refine z_gets1 (q := 3) dJ0_isLatin1_aae02_0 wd_366 rfl ?_
  refine z_if_eq (tgt := 17) (q := 6) dJ0_isLatin1_aae02_3 (by decide) rfl (fun c1 => ?_) (fun c1 => ?_)
  · exact absurd c1 (by decide)
  · skip
    refine z_aload_n (i := 0) (q := 7) dJ0_isLatin1_aae02_6 rfl rfl rfl ?_
    refine z_strcod (i := i) (q := 10) (by omega) dJ0_isLatin1_aae02_7 wd_1109 rfl ?_
    refine z_if_ne (tgt := 17) (q := 13) dJ0_isLatin1_aae02_10 (by decide) rfl (fun c2 => ?_) (fun c2 => ?_)
    · exact absurd c2 (by decide)
    · skip
      refine z_iconst (v := 1) (q := 14) dJ0_isLatin1_aae02_13 (by decide) rfl ?_
      refine z_goto (tgt := 18) dJ0_isLatin1_aae02_14 (by decide) ?_
      refine z_ireturn dJ0_isLatin1_aae02_18 rfl rfl ?_ (Nat.le_refl _) (Nat.le_refl _)
      rfl
set_option maxHeartbeats 4000000 in
set_option maxRecDepth 100000 in
theorem ev_J0_length_8abf5 (d : Nat) (h : zH) (i : Nat) (hi8 : i < 8) : zEv (d + 1) zM_J0_length_8abf5 0 0 [.ref (1000000 + i)] (h) (some (.int (nI (zLen.getD i 0))), h) := by
  refine zEv_of (by decide) (fun G => Nat.le_of_ble_eq_true rfl) ?_
  show ZW _ _ _ _ 0 [some (.ref (1000000 + i))] [] _ _ _ _
  refine z_aload_n (i := 0) (q := 1) dJ0_length_8abf5_0 rfl rfl rfl ?_
  refine z_strval (i := i) (q := 4) (by omega) dJ0_length_8abf5_1 wd_1108 rfl ?_
  refine z_strlen (i := i) (q := 5) (by omega) dJ0_length_8abf5_4 rfl ?_
  refine z_aload_n (i := 0) (q := 6) dJ0_length_8abf5_5 rfl rfl rfl ?_
  refine z_callVs (i := i) (As := []) (q := 9) (by omega) mk_J0_coder_7d493 rfl dJ0_length_8abf5_6 wd_362 wd_363 wd_364 (ev_J0_coder_7d493 _ _ _  (by omega)) rfl (by simp [Value.category]) rfl (Nat.zero_le _) (Nat.zero_le _) rfl ?_
  refine z_ishr (q := 10) dJ0_length_8abf5_9 rfl ?_
  rw [zlen_sh i hi8]
  refine z_ireturn dJ0_length_8abf5_10 rfl rfl ?_ (Nat.le_refl _) (Nat.le_refl _)
  rfl
set_option maxHeartbeats 4000000 in
set_option maxRecDepth 100000 in
theorem ev_J3_checkIndex_null (d : Nat) (h : zH) (j : Int32) (z : Int32) (h1 : ¬ j < 0) (h2 : j < z) : zEv (d) zM_J3_checkIndex_8e157 0 0 [.int j, .int z, .null] (h) (some (.int (j)), h) := by
  refine zEv_of (by decide) (fun G => Nat.le_of_ble_eq_true rfl) ?_
  show ZW _ _ _ _ 0 [some (.int j), some (.int z), some (.null)] [] _ _ _ _
  refine z_iload_n (i := 0) (q := 1) dJ3_checkIndex_8e157_0 rfl rfl rfl ?_
  refine z_if_lt (tgt := 9) (q := 4) dJ3_checkIndex_8e157_1 (by decide) rfl (fun c1 => ?_) (fun c1 => ?_)
  · contradiction
  · skip
    refine z_iload_n (i := 0) (q := 5) dJ3_checkIndex_8e157_4 rfl rfl rfl ?_
    refine z_iload_n (i := 1) (q := 6) dJ3_checkIndex_8e157_5 rfl rfl rfl ?_
    refine z_icmp_lt (tgt := 16) (q := 9) dJ3_checkIndex_8e157_6 (by decide) rfl (fun c2 => ?_) (fun c2 => ?_)
    · skip
      refine z_iload_n (i := 0) (q := 17) dJ3_checkIndex_8e157_16 rfl rfl rfl ?_
      refine z_ireturn dJ3_checkIndex_8e157_17 rfl rfl ?_ (Nat.le_refl _) (Nat.le_refl _)
      rfl
    · contradiction
set_option maxHeartbeats 4000000 in
set_option maxRecDepth 100000 in
theorem ev_J3_checkIndex_fm (d : Nat) (h : zH) (j : Int32) (z : Int32) (h1 : ¬ j < 0) (h2 : j < z) : zEv (d) zM_J3_checkIndex_8e157 0 0 [.int j, .int z, .ref 3000000] (h) (some (.int (j)), h) := by
  refine zEv_of (by decide) (fun G => Nat.le_of_ble_eq_true rfl) ?_
  show ZW _ _ _ _ 0 [some (.int j), some (.int z), some (.ref 3000000)] [] _ _ _ _
  refine z_iload_n (i := 0) (q := 1) dJ3_checkIndex_8e157_0 rfl rfl rfl ?_
  refine z_if_lt (tgt := 9) (q := 4) dJ3_checkIndex_8e157_1 (by decide) rfl (fun c1 => ?_) (fun c1 => ?_)
  · contradiction
  · skip
    refine z_iload_n (i := 0) (q := 5) dJ3_checkIndex_8e157_4 rfl rfl rfl ?_
    refine z_iload_n (i := 1) (q := 6) dJ3_checkIndex_8e157_5 rfl rfl rfl ?_
    refine z_icmp_lt (tgt := 16) (q := 9) dJ3_checkIndex_8e157_6 (by decide) rfl (fun c2 => ?_) (fun c2 => ?_)
    · skip
      refine z_iload_n (i := 0) (q := 17) dJ3_checkIndex_8e157_16 rfl rfl rfl ?_
      refine z_ireturn dJ3_checkIndex_8e157_17 rfl rfl ?_ (Nat.le_refl _) (Nat.le_refl _)
      rfl
    · contradiction
set_option maxHeartbeats 4000000 in
set_option maxRecDepth 100000 in
theorem ev_J0_checkIndex_df160 (d : Nat) (h : zH) (j : Int32) (z : Int32) (h1 : ¬ j < 0) (h2 : j < z) : zEv (d + 1) zM_J0_checkIndex_df160 0 0 [.int j, .int z] (h) (none, h) := by
  refine zEv_of (by decide) (fun G => Nat.le_of_ble_eq_true rfl) ?_
  show ZW _ _ _ _ 0 [some (.int j), some (.int z)] [] _ _ _ _
  refine z_iload_n (i := 0) (q := 1) dJ0_checkIndex_df160_0 rfl rfl rfl ?_
  refine z_iload_n (i := 1) (q := 2) dJ0_checkIndex_df160_1 rfl rfl rfl ?_
  refine z_gets2 (q := 5) dJ0_checkIndex_df160_2 wd_382 rfl ?_ ?_
  · skip
    refine m_callS_r (As := [_, _, _]) (q := 8) mk_J3_checkIndex_8e157 dJ0_checkIndex_df160_5 wd_384 wd_385 (ev_J3_checkIndex_null _ _ _ _ h1 h2) rfl (by decide) rfl (Nat.zero_le _) (Nat.zero_le _) rfl ?_
    refine z_pop (q := 9) dJ0_checkIndex_df160_8 rfl rfl ?_
    refine z_return dJ0_checkIndex_df160_9 rfl ?_ (Nat.le_refl _) (Nat.le_refl _)
    rfl
  · skip
    refine m_callS_r (As := [_, _, _]) (q := 8) mk_J3_checkIndex_8e157 dJ0_checkIndex_df160_5 wd_384 wd_385 (ev_J3_checkIndex_fm _ _ _ _ h1 h2) rfl (by decide) rfl (Nat.zero_le _) (Nat.zero_le _) rfl ?_
    refine z_pop (q := 9) dJ0_checkIndex_df160_8 rfl rfl ?_
    refine z_return dJ0_checkIndex_df160_9 rfl ?_ (Nat.le_refl _) (Nat.le_refl _)
    rfl
set_option maxHeartbeats 4000000 in
set_option maxRecDepth 100000 in
theorem ev_J1_charAt_3b067 (d : Nat) (h : zH) (i : Nat) (k : Nat) (hi8 : i < 8) (hk : k < zLen.getD i 0) : zEv (d + 2) zM_J1_charAt_3b067 0 0 [.ref (1000100 + i), .int (nI k)] (h) (some (.int (zch i k)), h) := by
  refine zEv_of (by decide) (fun G => Nat.le_of_ble_eq_true rfl) ?_
  show ZW _ _ _ _ 0 [some (.ref (1000100 + i)), some (.int (nI k))] [] _ _ _ _
  have hl7 := zLen_le i
  have hk7 : k < 8 := by omega
  refine z_iload_n (i := 1) (q := 1) dJ1_charAt_3b067_0 rfl rfl rfl ?_
  refine z_aload_n (i := 0) (q := 2) dJ1_charAt_3b067_1 rfl rfl rfl ?_
  refine z_strlen (i := i) (q := 3) (by omega) dJ1_charAt_3b067_2 rfl ?_
  refine m_callS_v (As := [_, _]) (q := 6) mk_J0_checkIndex_df160 dJ1_charAt_3b067_3 wd_379 wd_380 (ev_J0_checkIndex_df160 _ _ _ _  (nI_pos (by omega)) (nI_lt (by omega) (by omega))) rfl (by decide) rfl (Nat.zero_le _) (Nat.zero_le _) rfl ?_
  refine z_aload_n (i := 0) (q := 7) dJ1_charAt_3b067_6 rfl rfl rfl ?_
  refine z_iload_n (i := 1) (q := 8) dJ1_charAt_3b067_7 rfl rfl rfl ?_
  refine z_strb (i := i) (q := 9) (by omega) dJ1_charAt_3b067_8 (vp_in_nI (by omega) (by omega)) rfl ?_
  refine z_sipush (v := 255) (q := 12) dJ1_charAt_3b067_9 (by decide) rfl ?_
  refine z_iand (q := 13) dJ1_charAt_3b067_12 rfl ?_
  refine z_i2c (q := 14) dJ1_charAt_3b067_13 rfl ?_
  rw [nI_clamp (by omega), show ((((zByt.getD i []).getD k 0) &&& 255).toUInt32 % 65536).toInt32 = zch i k from (zch_all i hi8 k hk7).1]
  refine z_ireturn dJ1_charAt_3b067_14 rfl (zch_all i hi8 k hk7).2 ?_ (Nat.le_refl _) (Nat.le_refl _)
  rfl
set_option maxHeartbeats 4000000 in
set_option maxRecDepth 100000 in
theorem ev_J0_charAt_5068e (d : Nat) (h : zH) (i : Nat) (k : Nat) (hi8 : i < 8) (hk : k < zLen.getD i 0) : zEv (d + 3) zM_J0_charAt_5068e 0 0 [.ref (1000000 + i), .int (nI k)] (h) (some (.int (zch i k)), h) := by
  refine zEv_of (by decide) (fun G => Nat.le_of_ble_eq_true rfl) ?_
  show ZW _ _ _ _ 0 [some (.ref (1000000 + i)), some (.int (nI k))] [] _ _ _ _
  have hl7 := zLen_le i
  have hk7 : k < 8 := by omega
  refine z_aload_n (i := 0) (q := 1) dJ0_charAt_5068e_0 rfl rfl rfl ?_
  refine z_callVs (i := i) (As := []) (q := 4) (by omega) mk_J0_isLatin1_aae02 rfl dJ0_charAt_5068e_1 wd_372 wd_373 wd_374 (ev_J0_isLatin1_aae02 _ _ _  (by omega)) rfl (by decide) rfl (Nat.zero_le _) (Nat.zero_le _) rfl ?_
  refine z_if_eq (tgt := 16) (q := 7) dJ0_charAt_5068e_4 (by decide) rfl (fun c1 => ?_) (fun c1 => ?_)
  · exact absurd c1 (by decide)
  · skip
    refine z_aload_n (i := 0) (q := 8) dJ0_charAt_5068e_7 rfl rfl rfl ?_
    refine z_strval (i := i) (q := 11) (by omega) dJ0_charAt_5068e_8 wd_1108 rfl ?_
    refine z_iload_n (i := 1) (q := 12) dJ0_charAt_5068e_11 rfl rfl rfl ?_
    refine m_callS_r (As := [_, _]) (q := 15) mk_J1_charAt_3b067 dJ0_charAt_5068e_12 wd_376 wd_377 (ev_J1_charAt_3b067 _ _ _ _  (by omega) (by omega)) rfl (by decide) rfl (Nat.zero_le _) (Nat.zero_le _) rfl ?_
    refine z_ireturn dJ0_charAt_5068e_15 rfl (zch_all i hi8 k hk7).2 ?_ (Nat.le_refl _) (Nat.le_refl _)
    rfl
