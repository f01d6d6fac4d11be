/-! ===== bits of longs: the JDK's own; what is foretold ===== -/
def jl (x : Int64) (k : Int32) : Int64 := (x.toUInt64 >>> (k.toInt64.toUInt64 &&& Int64.toUInt64 63)).toInt64
def jBit (x : Int64) : Int32 :=
  let a := x - (jl x 1 &&& 6148914691236517205)
  let b := (a &&& 3689348814741910323) + (jl a 2 &&& 3689348814741910323)
  let c := (b + jl b 4) &&& 1085102592571150095
  let e := c + jl c 8
  let f := e + jl e 16
  let g := f + jl f 32
  g.toInt32 &&& 127
def jN4 (n i : Int32) : Int32 := n - ju i 1
def jN3 (n i : Int32) : Int32 := if i < 4 then jN4 n i else jN4 (n - 2) (ju i 2)
def jN2 (n i : Int32) : Int32 := if i < 16 then jN3 n i else jN3 (n - 4) (ju i 4)
def jN1 (n i : Int32) : Int32 := if i < 256 then jN2 n i else jN2 (n - 8) (ju i 8)
def jNlz (i : Int32) : Int32 := if 0 < i then (if i < 65536 then jN1 31 i else jN1 15 (ju i 16)) else if i = 0 then 32 else 0
def jT4 (n i : Int32) : Int32 := n + ju i 1
def jT3 (n i : Int32) : Int32 := if i ≤ 4 then jT4 n i else jT4 (n + 2) (ju i 2)
def jT2 (n i : Int32) : Int32 := if i ≤ 16 then jT3 n i else jT3 (n + 4) (ju i 4)
def jT1 (n i : Int32) : Int32 := if i ≤ 256 then jT2 n i else jT2 (n + 8) (ju i 8)
def jNt2 (i : Int32) : Int32 := if 0 < i then (if i ≤ 65536 then jT1 1 i else jT1 17 (ju i 16)) else i &&& 32
def jNtz (i : Int32) : Int32 := jNt2 ((i ^^^ (-1)) &&& (i - 1))
def jNtzL (x : Int64) : Int32 := if x.toInt32 = 0 then 32 + jNtz (jl x 32).toInt32 else jNtz x.toInt32
def jNlzL (x : Int64) : Int32 := if (jl x 32).toInt32 = 0 then 32 + jNlz x.toInt32 else jNlz (jl x 32).toInt32
set_option maxHeartbeats 4000000 in
set_option maxRecDepth 100000 in
theorem ev_J13_bitCount_95d88 (d : Nat) (h : zH) (x : Int64) : zEv (d) zM_J13_bitCount_95d88 0 0 [.long x] (h) (some (.int (jBit x)), h) := by
  refine zEv_of (by decide) (fun G => Nat.le_of_ble_eq_true rfl) ?_
  show ZW _ _ _ _ 0 [some (.long x), none] [] _ _ _ _
  refine z_lload_n (i := 0) (q := 1) dJ13_bitCount_95d88_0 rfl rfl rfl ?_
  refine z_lload_n (i := 0) (q := 2) dJ13_bitCount_95d88_1 rfl rfl rfl ?_
  refine z_iconst (v := 1) (q := 3) dJ13_bitCount_95d88_2 (by decide) rfl ?_
  refine z_lushr (q := 4) dJ13_bitCount_95d88_3 rfl ?_
  refine z_ldc2 (q := 7) dJ13_bitCount_95d88_4 wd_601 rfl ?_
  refine z_land (q := 8) dJ13_bitCount_95d88_7 rfl ?_
  refine z_lsub (q := 9) dJ13_bitCount_95d88_8 rfl ?_
  refine z_lstore_n (i := 0) (ls' := [_, _]) (q := 10) dJ13_bitCount_95d88_9 rfl (by decide) rfl rfl ?_
  refine z_lload_n (i := 0) (q := 11) dJ13_bitCount_95d88_10 rfl rfl rfl ?_
  refine z_ldc2 (q := 14) dJ13_bitCount_95d88_11 wd_602 rfl ?_
  refine z_land (q := 15) dJ13_bitCount_95d88_14 rfl ?_
  refine z_lload_n (i := 0) (q := 16) dJ13_bitCount_95d88_15 rfl rfl rfl ?_
  refine z_iconst (v := 2) (q := 17) dJ13_bitCount_95d88_16 (by decide) rfl ?_
  refine z_lushr (q := 18) dJ13_bitCount_95d88_17 rfl ?_
  refine z_ldc2 (q := 21) dJ13_bitCount_95d88_18 wd_602 rfl ?_
  refine z_land (q := 22) dJ13_bitCount_95d88_21 rfl ?_
  refine z_ladd (q := 23) dJ13_bitCount_95d88_22 rfl ?_
  refine z_lstore_n (i := 0) (ls' := [_, _]) (q := 24) dJ13_bitCount_95d88_23 rfl (by decide) rfl rfl ?_
  refine z_lload_n (i := 0) (q := 25) dJ13_bitCount_95d88_24 rfl rfl rfl ?_
  refine z_lload_n (i := 0) (q := 26) dJ13_bitCount_95d88_25 rfl rfl rfl ?_
  refine z_iconst (v := 4) (q := 27) dJ13_bitCount_95d88_26 (by decide) rfl ?_
  refine z_lushr (q := 28) dJ13_bitCount_95d88_27 rfl ?_
  refine z_ladd (q := 29) dJ13_bitCount_95d88_28 rfl ?_
  refine z_ldc2 (q := 32) dJ13_bitCount_95d88_29 wd_603 rfl ?_
  refine z_land (q := 33) dJ13_bitCount_95d88_32 rfl ?_
  refine z_lstore_n (i := 0) (ls' := [_, _]) (q := 34) dJ13_bitCount_95d88_33 rfl (by decide) rfl rfl ?_
  refine z_lload_n (i := 0) (q := 35) dJ13_bitCount_95d88_34 rfl rfl rfl ?_
  refine z_lload_n (i := 0) (q := 36) dJ13_bitCount_95d88_35 rfl rfl rfl ?_
  refine z_bipush (v := 8) (q := 38) dJ13_bitCount_95d88_36 (by decide) rfl ?_
  refine z_lushr (q := 39) dJ13_bitCount_95d88_38 rfl ?_
  refine z_ladd (q := 40) dJ13_bitCount_95d88_39 rfl ?_
  refine z_lstore_n (i := 0) (ls' := [_, _]) (q := 41) dJ13_bitCount_95d88_40 rfl (by decide) rfl rfl ?_
  refine z_lload_n (i := 0) (q := 42) dJ13_bitCount_95d88_41 rfl rfl rfl ?_
  refine z_lload_n (i := 0) (q := 43) dJ13_bitCount_95d88_42 rfl rfl rfl ?_
  refine z_bipush (v := 16) (q := 45) dJ13_bitCount_95d88_43 (by decide) rfl ?_
  refine z_lushr (q := 46) dJ13_bitCount_95d88_45 rfl ?_
  refine z_ladd (q := 47) dJ13_bitCount_95d88_46 rfl ?_
  refine z_lstore_n (i := 0) (ls' := [_, _]) (q := 48) dJ13_bitCount_95d88_47 rfl (by decide) rfl rfl ?_
  refine z_lload_n (i := 0) (q := 49) dJ13_bitCount_95d88_48 rfl rfl rfl ?_
  refine z_lload_n (i := 0) (q := 50) dJ13_bitCount_95d88_49 rfl rfl rfl ?_
  refine z_bipush (v := 32) (q := 52) dJ13_bitCount_95d88_50 (by decide) rfl ?_
  refine z_lushr (q := 53) dJ13_bitCount_95d88_52 rfl ?_
  refine z_ladd (q := 54) dJ13_bitCount_95d88_53 rfl ?_
  refine z_lstore_n (i := 0) (ls' := [_, _]) (q := 55) dJ13_bitCount_95d88_54 rfl (by decide) rfl rfl ?_
  refine z_lload_n (i := 0) (q := 56) dJ13_bitCount_95d88_55 rfl rfl rfl ?_
  refine z_l2i (q := 57) dJ13_bitCount_95d88_56 rfl ?_
  refine z_bipush (v := 127) (q := 59) dJ13_bitCount_95d88_57 (by decide) rfl ?_
  refine z_iand (q := 60) dJ13_bitCount_95d88_59 rfl ?_
  refine z_ireturn dJ13_bitCount_95d88_60 rfl rfl ?_ (Nat.le_refl _) (Nat.le_refl _)
  rfl
set_option maxHeartbeats 4000000 in
set_option maxRecDepth 100000 in
theorem ev_J6_numberOfLeadingZeros_0f7a4 (d : Nat) (h : zH) (i : Int32) : zEv (d) zM_J6_numberOfLeadingZeros_0f7a4 0 0 [.int i] (h) (some (.int (jNlz i)), h) := by
  refine zEv_of (by decide) (fun G => Nat.le_of_ble_eq_true rfl) ?_
  show ZW _ _ _ _ 0 [some (.int i), none] [] _ _ _ _
  refine z_iload_n (i := 0) (q := 1) dJ6_numberOfLeadingZeros_0f7a4_0 rfl rfl rfl ?_
  refine z_if_gt (tgt := 15) (q := 4) dJ6_numberOfLeadingZeros_0f7a4_1 (by decide) rfl (fun c1 => ?_) (fun c1 => ?_)
  · skip
    refine z_bipush (v := 31) (q := 17) dJ6_numberOfLeadingZeros_0f7a4_15 (by decide) rfl ?_
    refine z_istore_n (i := 1) (ls' := [_, _]) (q := 18) dJ6_numberOfLeadingZeros_0f7a4_17 rfl (by decide) rfl rfl ?_
    refine z_iload_n (i := 0) (q := 19) dJ6_numberOfLeadingZeros_0f7a4_18 rfl rfl rfl ?_
    refine z_ldcw (q := 22) dJ6_numberOfLeadingZeros_0f7a4_19 wd_611 rfl ?_
    refine z_icmp_lt (tgt := 33) (q := 25) dJ6_numberOfLeadingZeros_0f7a4_22 (by decide) rfl (fun c2 => ?_) (fun c2 => ?_)
    · skip
      refine z_iload_n (i := 0) (q := 34) dJ6_numberOfLeadingZeros_0f7a4_33 rfl rfl rfl ?_
      refine z_sipush (v := 256) (q := 37) dJ6_numberOfLeadingZeros_0f7a4_34 (by decide) rfl ?_
      refine z_icmp_lt (tgt := 48) (q := 40) dJ6_numberOfLeadingZeros_0f7a4_37 (by decide) rfl (fun c3 => ?_) (fun c3 => ?_)
      · skip
        refine z_iload_n (i := 0) (q := 49) dJ6_numberOfLeadingZeros_0f7a4_48 rfl rfl rfl ?_
        refine z_bipush (v := 16) (q := 51) dJ6_numberOfLeadingZeros_0f7a4_49 (by decide) rfl ?_
        refine z_icmp_lt (tgt := 61) (q := 54) dJ6_numberOfLeadingZeros_0f7a4_51 (by decide) rfl (fun c4 => ?_) (fun c4 => ?_)
        · skip
          refine z_iload_n (i := 0) (q := 62) dJ6_numberOfLeadingZeros_0f7a4_61 rfl rfl rfl ?_
          refine z_iconst (v := 4) (q := 63) dJ6_numberOfLeadingZeros_0f7a4_62 (by decide) rfl ?_
          refine z_icmp_lt (tgt := 73) (q := 66) dJ6_numberOfLeadingZeros_0f7a4_63 (by decide) rfl (fun c5 => ?_) (fun c5 => ?_)
          · skip
            refine z_iload_n (i := 1) (q := 74) dJ6_numberOfLeadingZeros_0f7a4_73 rfl rfl rfl ?_
            refine z_iload_n (i := 0) (q := 75) dJ6_numberOfLeadingZeros_0f7a4_74 rfl rfl rfl ?_
            refine z_iconst (v := 1) (q := 76) dJ6_numberOfLeadingZeros_0f7a4_75 (by decide) rfl ?_
            refine z_iushr (q := 77) dJ6_numberOfLeadingZeros_0f7a4_76 rfl ?_
            refine z_isub (q := 78) dJ6_numberOfLeadingZeros_0f7a4_77 rfl ?_
            refine z_ireturn dJ6_numberOfLeadingZeros_0f7a4_78 rfl rfl ?_ (Nat.le_refl _) (Nat.le_refl _)
            simp [jNlz, jN1, jN2, jN3, jN4, c1, c2, c3, c4, c5]
          · skip
            refine z_iinc (i := 1) (ls' := [_, _]) (v := 29) (q := 69) dJ6_numberOfLeadingZeros_0f7a4_66 rfl (by decide) (by decide) rfl rfl ?_
            refine z_iload_n (i := 0) (q := 70) dJ6_numberOfLeadingZeros_0f7a4_69 rfl rfl rfl ?_
            refine z_iconst (v := 2) (q := 71) dJ6_numberOfLeadingZeros_0f7a4_70 (by decide) rfl ?_
            refine z_iushr (q := 72) dJ6_numberOfLeadingZeros_0f7a4_71 rfl ?_
            refine z_istore_n (i := 0) (ls' := [_, _]) (q := 73) dJ6_numberOfLeadingZeros_0f7a4_72 rfl (by decide) rfl rfl ?_
            refine z_iload_n (i := 1) (q := 74) dJ6_numberOfLeadingZeros_0f7a4_73 rfl rfl rfl ?_
            refine z_iload_n (i := 0) (q := 75) dJ6_numberOfLeadingZeros_0f7a4_74 rfl rfl rfl ?_
            refine z_iconst (v := 1) (q := 76) dJ6_numberOfLeadingZeros_0f7a4_75 (by decide) rfl ?_
            refine z_iushr (q := 77) dJ6_numberOfLeadingZeros_0f7a4_76 rfl ?_
            refine z_isub (q := 78) dJ6_numberOfLeadingZeros_0f7a4_77 rfl ?_
            refine z_ireturn dJ6_numberOfLeadingZeros_0f7a4_78 rfl rfl ?_ (Nat.le_refl _) (Nat.le_refl _)
            simp [jNlz, jN1, jN2, jN3, jN4, c1, c2, c3, c4, c5]
        · skip
          refine z_iinc (i := 1) (ls' := [_, _]) (v := 27) (q := 57) dJ6_numberOfLeadingZeros_0f7a4_54 rfl (by decide) (by decide) rfl rfl ?_
          refine z_iload_n (i := 0) (q := 58) dJ6_numberOfLeadingZeros_0f7a4_57 rfl rfl rfl ?_
          refine z_iconst (v := 4) (q := 59) dJ6_numberOfLeadingZeros_0f7a4_58 (by decide) rfl ?_
          refine z_iushr (q := 60) dJ6_numberOfLeadingZeros_0f7a4_59 rfl ?_
          refine z_istore_n (i := 0) (ls' := [_, _]) (q := 61) dJ6_numberOfLeadingZeros_0f7a4_60 rfl (by decide) rfl rfl ?_
          refine z_iload_n (i := 0) (q := 62) dJ6_numberOfLeadingZeros_0f7a4_61 rfl rfl rfl ?_
          refine z_iconst (v := 4) (q := 63) dJ6_numberOfLeadingZeros_0f7a4_62 (by decide) rfl ?_
          refine z_icmp_lt (tgt := 73) (q := 66) dJ6_numberOfLeadingZeros_0f7a4_63 (by decide) rfl (fun c6 => ?_) (fun c6 => ?_)
          · skip
            refine z_iload_n (i := 1) (q := 74) dJ6_numberOfLeadingZeros_0f7a4_73 rfl rfl rfl ?_
            refine z_iload_n (i := 0) (q := 75) dJ6_numberOfLeadingZeros_0f7a4_74 rfl rfl rfl ?_
            refine z_iconst (v := 1) (q := 76) dJ6_numberOfLeadingZeros_0f7a4_75 (by decide) rfl ?_
            refine z_iushr (q := 77) dJ6_numberOfLeadingZeros_0f7a4_76 rfl ?_
            refine z_isub (q := 78) dJ6_numberOfLeadingZeros_0f7a4_77 rfl ?_
            refine z_ireturn dJ6_numberOfLeadingZeros_0f7a4_78 rfl rfl ?_ (Nat.le_refl _) (Nat.le_refl _)
            simp [jNlz, jN1, jN2, jN3, jN4, c1, c2, c3, c4, c6]
          · skip
            refine z_iinc (i := 1) (ls' := [_, _]) (v := 25) (q := 69) dJ6_numberOfLeadingZeros_0f7a4_66 rfl (by decide) (by decide) rfl rfl ?_
            refine z_iload_n (i := 0) (q := 70) dJ6_numberOfLeadingZeros_0f7a4_69 rfl rfl rfl ?_
            refine z_iconst (v := 2) (q := 71) dJ6_numberOfLeadingZeros_0f7a4_70 (by decide) rfl ?_
            refine z_iushr (q := 72) dJ6_numberOfLeadingZeros_0f7a4_71 rfl ?_
            refine z_istore_n (i := 0) (ls' := [_, _]) (q := 73) dJ6_numberOfLeadingZeros_0f7a4_72 rfl (by decide) rfl rfl ?_
            refine z_iload_n (i := 1) (q := 74) dJ6_numberOfLeadingZeros_0f7a4_73 rfl rfl rfl ?_
            refine z_iload_n (i := 0) (q := 75) dJ6_numberOfLeadingZeros_0f7a4_74 rfl rfl rfl ?_
            refine z_iconst (v := 1) (q := 76) dJ6_numberOfLeadingZeros_0f7a4_75 (by decide) rfl ?_
            refine z_iushr (q := 77) dJ6_numberOfLeadingZeros_0f7a4_76 rfl ?_
            refine z_isub (q := 78) dJ6_numberOfLeadingZeros_0f7a4_77 rfl ?_
            refine z_ireturn dJ6_numberOfLeadingZeros_0f7a4_78 rfl rfl ?_ (Nat.le_refl _) (Nat.le_refl _)
            simp [jNlz, jN1, jN2, jN3, jN4, c1, c2, c3, c4, c6]
      · skip
        refine z_iinc (i := 1) (ls' := [_, _]) (v := 23) (q := 43) dJ6_numberOfLeadingZeros_0f7a4_40 rfl (by decide) (by decide) rfl rfl ?_
        refine z_iload_n (i := 0) (q := 44) dJ6_numberOfLeadingZeros_0f7a4_43 rfl rfl rfl ?_
        refine z_bipush (v := 8) (q := 46) dJ6_numberOfLeadingZeros_0f7a4_44 (by decide) rfl ?_
        refine z_iushr (q := 47) dJ6_numberOfLeadingZeros_0f7a4_46 rfl ?_
        refine z_istore_n (i := 0) (ls' := [_, _]) (q := 48) dJ6_numberOfLeadingZeros_0f7a4_47 rfl (by decide) rfl rfl ?_
        refine z_iload_n (i := 0) (q := 49) dJ6_numberOfLeadingZeros_0f7a4_48 rfl rfl rfl ?_
        refine z_bipush (v := 16) (q := 51) dJ6_numberOfLeadingZeros_0f7a4_49 (by decide) rfl ?_
        refine z_icmp_lt (tgt := 61) (q := 54) dJ6_numberOfLeadingZeros_0f7a4_51 (by decide) rfl (fun c7 => ?_) (fun c7 => ?_)
        · skip
          refine z_iload_n (i := 0) (q := 62) dJ6_numberOfLeadingZeros_0f7a4_61 rfl rfl rfl ?_
          refine z_iconst (v := 4) (q := 63) dJ6_numberOfLeadingZeros_0f7a4_62 (by decide) rfl ?_
          refine z_icmp_lt (tgt := 73) (q := 66) dJ6_numberOfLeadingZeros_0f7a4_63 (by decide) rfl (fun c8 => ?_) (fun c8 => ?_)
          · skip
            refine z_iload_n (i := 1) (q := 74) dJ6_numberOfLeadingZeros_0f7a4_73 rfl rfl rfl ?_
            refine z_iload_n (i := 0) (q := 75) dJ6_numberOfLeadingZeros_0f7a4_74 rfl rfl rfl ?_
            refine z_iconst (v := 1) (q := 76) dJ6_numberOfLeadingZeros_0f7a4_75 (by decide) rfl ?_
            refine z_iushr (q := 77) dJ6_numberOfLeadingZeros_0f7a4_76 rfl ?_
            refine z_isub (q := 78) dJ6_numberOfLeadingZeros_0f7a4_77 rfl ?_
            refine z_ireturn dJ6_numberOfLeadingZeros_0f7a4_78 rfl rfl ?_ (Nat.le_refl _) (Nat.le_refl _)
            simp [jNlz, jN1, jN2, jN3, jN4, c1, c2, c3, c7, c8]
          · skip
            refine z_iinc (i := 1) (ls' := [_, _]) (v := 21) (q := 69) dJ6_numberOfLeadingZeros_0f7a4_66 rfl (by decide) (by decide) rfl rfl ?_
            refine z_iload_n (i := 0) (q := 70) dJ6_numberOfLeadingZeros_0f7a4_69 rfl rfl rfl ?_
            refine z_iconst (v := 2) (q := 71) dJ6_numberOfLeadingZeros_0f7a4_70 (by decide) rfl ?_
            refine z_iushr (q := 72) dJ6_numberOfLeadingZeros_0f7a4_71 rfl ?_
            refine z_istore_n (i := 0) (ls' := [_, _]) (q := 73) dJ6_numberOfLeadingZeros_0f7a4_72 rfl (by decide) rfl rfl ?_
            refine z_iload_n (i := 1) (q := 74) dJ6_numberOfLeadingZeros_0f7a4_73 rfl rfl rfl ?_
            refine z_iload_n (i := 0) (q := 75) dJ6_numberOfLeadingZeros_0f7a4_74 rfl rfl rfl ?_
            refine z_iconst (v := 1) (q := 76) dJ6_numberOfLeadingZeros_0f7a4_75 (by decide) rfl ?_
            refine z_iushr (q := 77) dJ6_numberOfLeadingZeros_0f7a4_76 rfl ?_
            refine z_isub (q := 78) dJ6_numberOfLeadingZeros_0f7a4_77 rfl ?_
            refine z_ireturn dJ6_numberOfLeadingZeros_0f7a4_78 rfl rfl ?_ (Nat.le_refl _) (Nat.le_refl _)
            simp [jNlz, jN1, jN2, jN3, jN4, c1, c2, c3, c7, c8]
        · skip
          refine z_iinc (i := 1) (ls' := [_, _]) (v := 19) (q := 57) dJ6_numberOfLeadingZeros_0f7a4_54 rfl (by decide) (by decide) rfl rfl ?_
          refine z_iload_n (i := 0) (q := 58) dJ6_numberOfLeadingZeros_0f7a4_57 rfl rfl rfl ?_
          refine z_iconst (v := 4) (q := 59) dJ6_numberOfLeadingZeros_0f7a4_58 (by decide) rfl ?_
          refine z_iushr (q := 60) dJ6_numberOfLeadingZeros_0f7a4_59 rfl ?_
          refine z_istore_n (i := 0) (ls' := [_, _]) (q := 61) dJ6_numberOfLeadingZeros_0f7a4_60 rfl (by decide) rfl rfl ?_
          refine z_iload_n (i := 0) (q := 62) dJ6_numberOfLeadingZeros_0f7a4_61 rfl rfl rfl ?_
          refine z_iconst (v := 4) (q := 63) dJ6_numberOfLeadingZeros_0f7a4_62 (by decide) rfl ?_
          refine z_icmp_lt (tgt := 73) (q := 66) dJ6_numberOfLeadingZeros_0f7a4_63 (by decide) rfl (fun c9 => ?_) (fun c9 => ?_)
          · skip
            refine z_iload_n (i := 1) (q := 74) dJ6_numberOfLeadingZeros_0f7a4_73 rfl rfl rfl ?_
            refine z_iload_n (i := 0) (q := 75) dJ6_numberOfLeadingZeros_0f7a4_74 rfl rfl rfl ?_
            refine z_iconst (v := 1) (q := 76) dJ6_numberOfLeadingZeros_0f7a4_75 (by decide) rfl ?_
            refine z_iushr (q := 77) dJ6_numberOfLeadingZeros_0f7a4_76 rfl ?_
            refine z_isub (q := 78) dJ6_numberOfLeadingZeros_0f7a4_77 rfl ?_
            refine z_ireturn dJ6_numberOfLeadingZeros_0f7a4_78 rfl rfl ?_ (Nat.le_refl _) (Nat.le_refl _)
            simp [jNlz, jN1, jN2, jN3, jN4, c1, c2, c3, c7, c9]
          · skip
            refine z_iinc (i := 1) (ls' := [_, _]) (v := 17) (q := 69) dJ6_numberOfLeadingZeros_0f7a4_66 rfl (by decide) (by decide) rfl rfl ?_
            refine z_iload_n (i := 0) (q := 70) dJ6_numberOfLeadingZeros_0f7a4_69 rfl rfl rfl ?_
            refine z_iconst (v := 2) (q := 71) dJ6_numberOfLeadingZeros_0f7a4_70 (by decide) rfl ?_
            refine z_iushr (q := 72) dJ6_numberOfLeadingZeros_0f7a4_71 rfl ?_
            refine z_istore_n (i := 0) (ls' := [_, _]) (q := 73) dJ6_numberOfLeadingZeros_0f7a4_72 rfl (by decide) rfl rfl ?_
            refine z_iload_n (i := 1) (q := 74) dJ6_numberOfLeadingZeros_0f7a4_73 rfl rfl rfl ?_
            refine z_iload_n (i := 0) (q := 75) dJ6_numberOfLeadingZeros_0f7a4_74 rfl rfl rfl ?_
            refine z_iconst (v := 1) (q := 76) dJ6_numberOfLeadingZeros_0f7a4_75 (by decide) rfl ?_
            refine z_iushr (q := 77) dJ6_numberOfLeadingZeros_0f7a4_76 rfl ?_
            refine z_isub (q := 78) dJ6_numberOfLeadingZeros_0f7a4_77 rfl ?_
            refine z_ireturn dJ6_numberOfLeadingZeros_0f7a4_78 rfl rfl ?_ (Nat.le_refl _) (Nat.le_refl _)
            simp [jNlz, jN1, jN2, jN3, jN4, c1, c2, c3, c7, c9]
    · skip
      refine z_iinc (i := 1) (ls' := [_, _]) (v := 15) (q := 28) dJ6_numberOfLeadingZeros_0f7a4_25 rfl (by decide) (by decide) rfl rfl ?_
      refine z_iload_n (i := 0) (q := 29) dJ6_numberOfLeadingZeros_0f7a4_28 rfl rfl rfl ?_
      refine z_bipush (v := 16) (q := 31) dJ6_numberOfLeadingZeros_0f7a4_29 (by decide) rfl ?_
      refine z_iushr (q := 32) dJ6_numberOfLeadingZeros_0f7a4_31 rfl ?_
      refine z_istore_n (i := 0) (ls' := [_, _]) (q := 33) dJ6_numberOfLeadingZeros_0f7a4_32 rfl (by decide) rfl rfl ?_
      refine z_iload_n (i := 0) (q := 34) dJ6_numberOfLeadingZeros_0f7a4_33 rfl rfl rfl ?_
      refine z_sipush (v := 256) (q := 37) dJ6_numberOfLeadingZeros_0f7a4_34 (by decide) rfl ?_
      refine z_icmp_lt (tgt := 48) (q := 40) dJ6_numberOfLeadingZeros_0f7a4_37 (by decide) rfl (fun c10 => ?_) (fun c10 => ?_)
      · skip
        refine z_iload_n (i := 0) (q := 49) dJ6_numberOfLeadingZeros_0f7a4_48 rfl rfl rfl ?_
        refine z_bipush (v := 16) (q := 51) dJ6_numberOfLeadingZeros_0f7a4_49 (by decide) rfl ?_
        refine z_icmp_lt (tgt := 61) (q := 54) dJ6_numberOfLeadingZeros_0f7a4_51 (by decide) rfl (fun c11 => ?_) (fun c11 => ?_)
        · skip
          refine z_iload_n (i := 0) (q := 62) dJ6_numberOfLeadingZeros_0f7a4_61 rfl rfl rfl ?_
          refine z_iconst (v := 4) (q := 63) dJ6_numberOfLeadingZeros_0f7a4_62 (by decide) rfl ?_
          refine z_icmp_lt (tgt := 73) (q := 66) dJ6_numberOfLeadingZeros_0f7a4_63 (by decide) rfl (fun c12 => ?_) (fun c12 => ?_)
          · skip
            refine z_iload_n (i := 1) (q := 74) dJ6_numberOfLeadingZeros_0f7a4_73 rfl rfl rfl ?_
            refine z_iload_n (i := 0) (q := 75) dJ6_numberOfLeadingZeros_0f7a4_74 rfl rfl rfl ?_
            refine z_iconst (v := 1) (q := 76) dJ6_numberOfLeadingZeros_0f7a4_75 (by decide) rfl ?_
            refine z_iushr (q := 77) dJ6_numberOfLeadingZeros_0f7a4_76 rfl ?_
            refine z_isub (q := 78) dJ6_numberOfLeadingZeros_0f7a4_77 rfl ?_
            refine z_ireturn dJ6_numberOfLeadingZeros_0f7a4_78 rfl rfl ?_ (Nat.le_refl _) (Nat.le_refl _)
            simp [jNlz, jN1, jN2, jN3, jN4, c1, c2, c10, c11, c12]
          · skip
            refine z_iinc (i := 1) (ls' := [_, _]) (v := 13) (q := 69) dJ6_numberOfLeadingZeros_0f7a4_66 rfl (by decide) (by decide) rfl rfl ?_
            refine z_iload_n (i := 0) (q := 70) dJ6_numberOfLeadingZeros_0f7a4_69 rfl rfl rfl ?_
            refine z_iconst (v := 2) (q := 71) dJ6_numberOfLeadingZeros_0f7a4_70 (by decide) rfl ?_
            refine z_iushr (q := 72) dJ6_numberOfLeadingZeros_0f7a4_71 rfl ?_
            refine z_istore_n (i := 0) (ls' := [_, _]) (q := 73) dJ6_numberOfLeadingZeros_0f7a4_72 rfl (by decide) rfl rfl ?_
            refine z_iload_n (i := 1) (q := 74) dJ6_numberOfLeadingZeros_0f7a4_73 rfl rfl rfl ?_
            refine z_iload_n (i := 0) (q := 75) dJ6_numberOfLeadingZeros_0f7a4_74 rfl rfl rfl ?_
            refine z_iconst (v := 1) (q := 76) dJ6_numberOfLeadingZeros_0f7a4_75 (by decide) rfl ?_
            refine z_iushr (q := 77) dJ6_numberOfLeadingZeros_0f7a4_76 rfl ?_
            refine z_isub (q := 78) dJ6_numberOfLeadingZeros_0f7a4_77 rfl ?_
            refine z_ireturn dJ6_numberOfLeadingZeros_0f7a4_78 rfl rfl ?_ (Nat.le_refl _) (Nat.le_refl _)
            simp [jNlz, jN1, jN2, jN3, jN4, c1, c2, c10, c11, c12]
        · skip
          refine z_iinc (i := 1) (ls' := [_, _]) (v := 11) (q := 57) dJ6_numberOfLeadingZeros_0f7a4_54 rfl (by decide) (by decide) rfl rfl ?_
          refine z_iload_n (i := 0) (q := 58) dJ6_numberOfLeadingZeros_0f7a4_57 rfl rfl rfl ?_
          refine z_iconst (v := 4) (q := 59) dJ6_numberOfLeadingZeros_0f7a4_58 (by decide) rfl ?_
          refine z_iushr (q := 60) dJ6_numberOfLeadingZeros_0f7a4_59 rfl ?_
          refine z_istore_n (i := 0) (ls' := [_, _]) (q := 61) dJ6_numberOfLeadingZeros_0f7a4_60 rfl (by decide) rfl rfl ?_
          refine z_iload_n (i := 0) (q := 62) dJ6_numberOfLeadingZeros_0f7a4_61 rfl rfl rfl ?_
          refine z_iconst (v := 4) (q := 63) dJ6_numberOfLeadingZeros_0f7a4_62 (by decide) rfl ?_
          refine z_icmp_lt (tgt := 73) (q := 66) dJ6_numberOfLeadingZeros_0f7a4_63 (by decide) rfl (fun c13 => ?_) (fun c13 => ?_)
          · skip
            refine z_iload_n (i := 1) (q := 74) dJ6_numberOfLeadingZeros_0f7a4_73 rfl rfl rfl ?_
            refine z_iload_n (i := 0) (q := 75) dJ6_numberOfLeadingZeros_0f7a4_74 rfl rfl rfl ?_
            refine z_iconst (v := 1) (q := 76) dJ6_numberOfLeadingZeros_0f7a4_75 (by decide) rfl ?_
            refine z_iushr (q := 77) dJ6_numberOfLeadingZeros_0f7a4_76 rfl ?_
            refine z_isub (q := 78) dJ6_numberOfLeadingZeros_0f7a4_77 rfl ?_
            refine z_ireturn dJ6_numberOfLeadingZeros_0f7a4_78 rfl rfl ?_ (Nat.le_refl _) (Nat.le_refl _)
            simp [jNlz, jN1, jN2, jN3, jN4, c1, c2, c10, c11, c13]
          · skip
            refine z_iinc (i := 1) (ls' := [_, _]) (v := 9) (q := 69) dJ6_numberOfLeadingZeros_0f7a4_66 rfl (by decide) (by decide) rfl rfl ?_
            refine z_iload_n (i := 0) (q := 70) dJ6_numberOfLeadingZeros_0f7a4_69 rfl rfl rfl ?_
            refine z_iconst (v := 2) (q := 71) dJ6_numberOfLeadingZeros_0f7a4_70 (by decide) rfl ?_
            refine z_iushr (q := 72) dJ6_numberOfLeadingZeros_0f7a4_71 rfl ?_
            refine z_istore_n (i := 0) (ls' := [_, _]) (q := 73) dJ6_numberOfLeadingZeros_0f7a4_72 rfl (by decide) rfl rfl ?_
            refine z_iload_n (i := 1) (q := 74) dJ6_numberOfLeadingZeros_0f7a4_73 rfl rfl rfl ?_
            refine z_iload_n (i := 0) (q := 75) dJ6_numberOfLeadingZeros_0f7a4_74 rfl rfl rfl ?_
            refine z_iconst (v := 1) (q := 76) dJ6_numberOfLeadingZeros_0f7a4_75 (by decide) rfl ?_
            refine z_iushr (q := 77) dJ6_numberOfLeadingZeros_0f7a4_76 rfl ?_
            refine z_isub (q := 78) dJ6_numberOfLeadingZeros_0f7a4_77 rfl ?_
            refine z_ireturn dJ6_numberOfLeadingZeros_0f7a4_78 rfl rfl ?_ (Nat.le_refl _) (Nat.le_refl _)
            simp [jNlz, jN1, jN2, jN3, jN4, c1, c2, c10, c11, c13]
      · skip
        refine z_iinc (i := 1) (ls' := [_, _]) (v := 7) (q := 43) dJ6_numberOfLeadingZeros_0f7a4_40 rfl (by decide) (by decide) rfl rfl ?_
        refine z_iload_n (i := 0) (q := 44) dJ6_numberOfLeadingZeros_0f7a4_43 rfl rfl rfl ?_
        refine z_bipush (v := 8) (q := 46) dJ6_numberOfLeadingZeros_0f7a4_44 (by decide) rfl ?_
        refine z_iushr (q := 47) dJ6_numberOfLeadingZeros_0f7a4_46 rfl ?_
        refine z_istore_n (i := 0) (ls' := [_, _]) (q := 48) dJ6_numberOfLeadingZeros_0f7a4_47 rfl (by decide) rfl rfl ?_
        refine z_iload_n (i := 0) (q := 49) dJ6_numberOfLeadingZeros_0f7a4_48 rfl rfl rfl ?_
        refine z_bipush (v := 16) (q := 51) dJ6_numberOfLeadingZeros_0f7a4_49 (by decide) rfl ?_
        refine z_icmp_lt (tgt := 61) (q := 54) dJ6_numberOfLeadingZeros_0f7a4_51 (by decide) rfl (fun c14 => ?_) (fun c14 => ?_)
        · skip
          refine z_iload_n (i := 0) (q := 62) dJ6_numberOfLeadingZeros_0f7a4_61 rfl rfl rfl ?_
          refine z_iconst (v := 4) (q := 63) dJ6_numberOfLeadingZeros_0f7a4_62 (by decide) rfl ?_
          refine z_icmp_lt (tgt := 73) (q := 66) dJ6_numberOfLeadingZeros_0f7a4_63 (by decide) rfl (fun c15 => ?_) (fun c15 => ?_)
          · skip
            refine z_iload_n (i := 1) (q := 74) dJ6_numberOfLeadingZeros_0f7a4_73 rfl rfl rfl ?_
            refine z_iload_n (i := 0) (q := 75) dJ6_numberOfLeadingZeros_0f7a4_74 rfl rfl rfl ?_
            refine z_iconst (v := 1) (q := 76) dJ6_numberOfLeadingZeros_0f7a4_75 (by decide) rfl ?_
            refine z_iushr (q := 77) dJ6_numberOfLeadingZeros_0f7a4_76 rfl ?_
            refine z_isub (q := 78) dJ6_numberOfLeadingZeros_0f7a4_77 rfl ?_
            refine z_ireturn dJ6_numberOfLeadingZeros_0f7a4_78 rfl rfl ?_ (Nat.le_refl _) (Nat.le_refl _)
            simp [jNlz, jN1, jN2, jN3, jN4, c1, c2, c10, c14, c15]
          · skip
            refine z_iinc (i := 1) (ls' := [_, _]) (v := 5) (q := 69) dJ6_numberOfLeadingZeros_0f7a4_66 rfl (by decide) (by decide) rfl rfl ?_
            refine z_iload_n (i := 0) (q := 70) dJ6_numberOfLeadingZeros_0f7a4_69 rfl rfl rfl ?_
            refine z_iconst (v := 2) (q := 71) dJ6_numberOfLeadingZeros_0f7a4_70 (by decide) rfl ?_
            refine z_iushr (q := 72) dJ6_numberOfLeadingZeros_0f7a4_71 rfl ?_
            refine z_istore_n (i := 0) (ls' := [_, _]) (q := 73) dJ6_numberOfLeadingZeros_0f7a4_72 rfl (by decide) rfl rfl ?_
            refine z_iload_n (i := 1) (q := 74) dJ6_numberOfLeadingZeros_0f7a4_73 rfl rfl rfl ?_
            refine z_iload_n (i := 0) (q := 75) dJ6_numberOfLeadingZeros_0f7a4_74 rfl rfl rfl ?_
            refine z_iconst (v := 1) (q := 76) dJ6_numberOfLeadingZeros_0f7a4_75 (by decide) rfl ?_
            refine z_iushr (q := 77) dJ6_numberOfLeadingZeros_0f7a4_76 rfl ?_
            refine z_isub (q := 78) dJ6_numberOfLeadingZeros_0f7a4_77 rfl ?_
            refine z_ireturn dJ6_numberOfLeadingZeros_0f7a4_78 rfl rfl ?_ (Nat.le_refl _) (Nat.le_refl _)
            simp [jNlz, jN1, jN2, jN3, jN4, c1, c2, c10, c14, c15]
        · skip
          refine z_iinc (i := 1) (ls' := [_, _]) (v := 3) (q := 57) dJ6_numberOfLeadingZeros_0f7a4_54 rfl (by decide) (by decide) rfl rfl ?_
          refine z_iload_n (i := 0) (q := 58) dJ6_numberOfLeadingZeros_0f7a4_57 rfl rfl rfl ?_
          refine z_iconst (v := 4) (q := 59) dJ6_numberOfLeadingZeros_0f7a4_58 (by decide) rfl ?_
          refine z_iushr (q := 60) dJ6_numberOfLeadingZeros_0f7a4_59 rfl ?_
          refine z_istore_n (i := 0) (ls' := [_, _]) (q := 61) dJ6_numberOfLeadingZeros_0f7a4_60 rfl (by decide) rfl rfl ?_
          refine z_iload_n (i := 0) (q := 62) dJ6_numberOfLeadingZeros_0f7a4_61 rfl rfl rfl ?_
          refine z_iconst (v := 4) (q := 63) dJ6_numberOfLeadingZeros_0f7a4_62 (by decide) rfl ?_
          refine z_icmp_lt (tgt := 73) (q := 66) dJ6_numberOfLeadingZeros_0f7a4_63 (by decide) rfl (fun c16 => ?_) (fun c16 => ?_)
          · skip
            refine z_iload_n (i := 1) (q := 74) dJ6_numberOfLeadingZeros_0f7a4_73 rfl rfl rfl ?_
            refine z_iload_n (i := 0) (q := 75) dJ6_numberOfLeadingZeros_0f7a4_74 rfl rfl rfl ?_
            refine z_iconst (v := 1) (q := 76) dJ6_numberOfLeadingZeros_0f7a4_75 (by decide) rfl ?_
            refine z_iushr (q := 77) dJ6_numberOfLeadingZeros_0f7a4_76 rfl ?_
            refine z_isub (q := 78) dJ6_numberOfLeadingZeros_0f7a4_77 rfl ?_
            refine z_ireturn dJ6_numberOfLeadingZeros_0f7a4_78 rfl rfl ?_ (Nat.le_refl _) (Nat.le_refl _)
            simp [jNlz, jN1, jN2, jN3, jN4, c1, c2, c10, c14, c16]
          · skip
            refine z_iinc (i := 1) (ls' := [_, _]) (v := 1) (q := 69) dJ6_numberOfLeadingZeros_0f7a4_66 rfl (by decide) (by decide) rfl rfl ?_
            refine z_iload_n (i := 0) (q := 70) dJ6_numberOfLeadingZeros_0f7a4_69 rfl rfl rfl ?_
            refine z_iconst (v := 2) (q := 71) dJ6_numberOfLeadingZeros_0f7a4_70 (by decide) rfl ?_
            refine z_iushr (q := 72) dJ6_numberOfLeadingZeros_0f7a4_71 rfl ?_
            refine z_istore_n (i := 0) (ls' := [_, _]) (q := 73) dJ6_numberOfLeadingZeros_0f7a4_72 rfl (by decide) rfl rfl ?_
            refine z_iload_n (i := 1) (q := 74) dJ6_numberOfLeadingZeros_0f7a4_73 rfl rfl rfl ?_
            refine z_iload_n (i := 0) (q := 75) dJ6_numberOfLeadingZeros_0f7a4_74 rfl rfl rfl ?_
            refine z_iconst (v := 1) (q := 76) dJ6_numberOfLeadingZeros_0f7a4_75 (by decide) rfl ?_
            refine z_iushr (q := 77) dJ6_numberOfLeadingZeros_0f7a4_76 rfl ?_
            refine z_isub (q := 78) dJ6_numberOfLeadingZeros_0f7a4_77 rfl ?_
            refine z_ireturn dJ6_numberOfLeadingZeros_0f7a4_78 rfl rfl ?_ (Nat.le_refl _) (Nat.le_refl _)
            simp [jNlz, jN1, jN2, jN3, jN4, c1, c2, c10, c14, c16]
  · skip
    refine z_iload_n (i := 0) (q := 5) dJ6_numberOfLeadingZeros_0f7a4_4 rfl rfl rfl ?_
    refine z_if_ne (tgt := 13) (q := 8) dJ6_numberOfLeadingZeros_0f7a4_5 (by decide) rfl (fun c17 => ?_) (fun c17 => ?_)
    · skip
      refine z_iconst (v := 0) (q := 14) dJ6_numberOfLeadingZeros_0f7a4_13 (by decide) rfl ?_
      refine z_ireturn dJ6_numberOfLeadingZeros_0f7a4_14 rfl rfl ?_ (Nat.le_refl _) (Nat.le_refl _)
      simp [jNlz, jN1, jN2, jN3, jN4, c1, c17]
    · skip
      refine z_bipush (v := 32) (q := 10) dJ6_numberOfLeadingZeros_0f7a4_8 (by decide) rfl ?_
      refine z_goto (tgt := 14) dJ6_numberOfLeadingZeros_0f7a4_10 (by decide) ?_
      refine z_ireturn dJ6_numberOfLeadingZeros_0f7a4_14 rfl rfl ?_ (Nat.le_refl _) (Nat.le_refl _)
      simp [jNlz, jN1, jN2, jN3, jN4, c1, c17]
set_option maxHeartbeats 4000000 in
set_option maxRecDepth 100000 in
theorem ev_J6_numberOfTrailingZeros_0f7a4 (d : Nat) (h : zH) (i : Int32) : zEv (d) zM_J6_numberOfTrailingZeros_0f7a4 0 0 [.int i] (h) (some (.int (jNtz i)), h) := by
  refine zEv_of (by decide) (fun G => Nat.le_of_ble_eq_true rfl) ?_
  show ZW _ _ _ _ 0 [some (.int i), none] [] _ _ _ _
  refine z_iload_n (i := 0) (q := 1) dJ6_numberOfTrailingZeros_0f7a4_0 rfl rfl rfl ?_
  refine z_iconst (v := (-1)) (q := 2) dJ6_numberOfTrailingZeros_0f7a4_1 (by decide) rfl ?_
  refine z_ixor (q := 3) dJ6_numberOfTrailingZeros_0f7a4_2 rfl ?_
  refine z_iload_n (i := 0) (q := 4) dJ6_numberOfTrailingZeros_0f7a4_3 rfl rfl rfl ?_
  refine z_iconst (v := 1) (q := 5) dJ6_numberOfTrailingZeros_0f7a4_4 (by decide) rfl ?_
  refine z_isub (q := 6) dJ6_numberOfTrailingZeros_0f7a4_5 rfl ?_
  refine z_iand (q := 7) dJ6_numberOfTrailingZeros_0f7a4_6 rfl ?_
  refine z_istore_n (i := 0) (ls' := [_, _]) (q := 8) dJ6_numberOfTrailingZeros_0f7a4_7 rfl (by decide) rfl rfl ?_
  rw [show jNtz i = jNt2 ((i ^^^ (-1)) &&& (i - 1)) from rfl]
  generalize (i ^^^ (-1)) &&& (i - 1) = z
  refine z_iload_n (i := 0) (q := 9) dJ6_numberOfTrailingZeros_0f7a4_8 rfl rfl rfl ?_
  refine z_if_gt (tgt := 17) (q := 12) dJ6_numberOfTrailingZeros_0f7a4_9 (by decide) rfl (fun c1 => ?_) (fun c1 => ?_)
  · skip
    refine z_iconst (v := 1) (q := 18) dJ6_numberOfTrailingZeros_0f7a4_17 (by decide) rfl ?_
    refine z_istore_n (i := 1) (ls' := [_, _]) (q := 19) dJ6_numberOfTrailingZeros_0f7a4_18 rfl (by decide) rfl rfl ?_
    refine z_iload_n (i := 0) (q := 20) dJ6_numberOfTrailingZeros_0f7a4_19 rfl rfl rfl ?_
    refine z_ldcw (q := 23) dJ6_numberOfTrailingZeros_0f7a4_20 wd_611 rfl ?_
    refine z_icmp_le (tgt := 34) (q := 26) dJ6_numberOfTrailingZeros_0f7a4_23 (by decide) rfl (fun c2 => ?_) (fun c2 => ?_)
    · skip
      refine z_iload_n (i := 0) (q := 35) dJ6_numberOfTrailingZeros_0f7a4_34 rfl rfl rfl ?_
      refine z_sipush (v := 256) (q := 38) dJ6_numberOfTrailingZeros_0f7a4_35 (by decide) rfl ?_
      refine z_icmp_le (tgt := 49) (q := 41) dJ6_numberOfTrailingZeros_0f7a4_38 (by decide) rfl (fun c3 => ?_) (fun c3 => ?_)
      · skip
        refine z_iload_n (i := 0) (q := 50) dJ6_numberOfTrailingZeros_0f7a4_49 rfl rfl rfl ?_
        refine z_bipush (v := 16) (q := 52) dJ6_numberOfTrailingZeros_0f7a4_50 (by decide) rfl ?_
        refine z_icmp_le (tgt := 62) (q := 55) dJ6_numberOfTrailingZeros_0f7a4_52 (by decide) rfl (fun c4 => ?_) (fun c4 => ?_)
        · skip
          refine z_iload_n (i := 0) (q := 63) dJ6_numberOfTrailingZeros_0f7a4_62 rfl rfl rfl ?_
          refine z_iconst (v := 4) (q := 64) dJ6_numberOfTrailingZeros_0f7a4_63 (by decide) rfl ?_
          refine z_icmp_le (tgt := 74) (q := 67) dJ6_numberOfTrailingZeros_0f7a4_64 (by decide) rfl (fun c5 => ?_) (fun c5 => ?_)
          · skip
            refine z_iload_n (i := 1) (q := 75) dJ6_numberOfTrailingZeros_0f7a4_74 rfl rfl rfl ?_
            refine z_iload_n (i := 0) (q := 76) dJ6_numberOfTrailingZeros_0f7a4_75 rfl rfl rfl ?_
            refine z_iconst (v := 1) (q := 77) dJ6_numberOfTrailingZeros_0f7a4_76 (by decide) rfl ?_
            refine z_iushr (q := 78) dJ6_numberOfTrailingZeros_0f7a4_77 rfl ?_
            refine z_iadd (q := 79) dJ6_numberOfTrailingZeros_0f7a4_78 rfl ?_
            refine z_ireturn dJ6_numberOfTrailingZeros_0f7a4_79 rfl rfl ?_ (Nat.le_refl _) (Nat.le_refl _)
            simp [jNt2, jT1, jT2, jT3, jT4, c1, c2, c3, c4, c5]
          · skip
            refine z_iinc (i := 1) (ls' := [_, _]) (v := 3) (q := 70) dJ6_numberOfTrailingZeros_0f7a4_67 rfl (by decide) (by decide) rfl rfl ?_
            refine z_iload_n (i := 0) (q := 71) dJ6_numberOfTrailingZeros_0f7a4_70 rfl rfl rfl ?_
            refine z_iconst (v := 2) (q := 72) dJ6_numberOfTrailingZeros_0f7a4_71 (by decide) rfl ?_
            refine z_iushr (q := 73) dJ6_numberOfTrailingZeros_0f7a4_72 rfl ?_
            refine z_istore_n (i := 0) (ls' := [_, _]) (q := 74) dJ6_numberOfTrailingZeros_0f7a4_73 rfl (by decide) rfl rfl ?_
            refine z_iload_n (i := 1) (q := 75) dJ6_numberOfTrailingZeros_0f7a4_74 rfl rfl rfl ?_
            refine z_iload_n (i := 0) (q := 76) dJ6_numberOfTrailingZeros_0f7a4_75 rfl rfl rfl ?_
            refine z_iconst (v := 1) (q := 77) dJ6_numberOfTrailingZeros_0f7a4_76 (by decide) rfl ?_
            refine z_iushr (q := 78) dJ6_numberOfTrailingZeros_0f7a4_77 rfl ?_
            refine z_iadd (q := 79) dJ6_numberOfTrailingZeros_0f7a4_78 rfl ?_
            refine z_ireturn dJ6_numberOfTrailingZeros_0f7a4_79 rfl rfl ?_ (Nat.le_refl _) (Nat.le_refl _)
            simp [jNt2, jT1, jT2, jT3, jT4, c1, c2, c3, c4, c5]
        · skip
          refine z_iinc (i := 1) (ls' := [_, _]) (v := 5) (q := 58) dJ6_numberOfTrailingZeros_0f7a4_55 rfl (by decide) (by decide) rfl rfl ?_
          refine z_iload_n (i := 0) (q := 59) dJ6_numberOfTrailingZeros_0f7a4_58 rfl rfl rfl ?_
          refine z_iconst (v := 4) (q := 60) dJ6_numberOfTrailingZeros_0f7a4_59 (by decide) rfl ?_
          refine z_iushr (q := 61) dJ6_numberOfTrailingZeros_0f7a4_60 rfl ?_
          refine z_istore_n (i := 0) (ls' := [_, _]) (q := 62) dJ6_numberOfTrailingZeros_0f7a4_61 rfl (by decide) rfl rfl ?_
          refine z_iload_n (i := 0) (q := 63) dJ6_numberOfTrailingZeros_0f7a4_62 rfl rfl rfl ?_
          refine z_iconst (v := 4) (q := 64) dJ6_numberOfTrailingZeros_0f7a4_63 (by decide) rfl ?_
          refine z_icmp_le (tgt := 74) (q := 67) dJ6_numberOfTrailingZeros_0f7a4_64 (by decide) rfl (fun c6 => ?_) (fun c6 => ?_)
          · skip
            refine z_iload_n (i := 1) (q := 75) dJ6_numberOfTrailingZeros_0f7a4_74 rfl rfl rfl ?_
            refine z_iload_n (i := 0) (q := 76) dJ6_numberOfTrailingZeros_0f7a4_75 rfl rfl rfl ?_
            refine z_iconst (v := 1) (q := 77) dJ6_numberOfTrailingZeros_0f7a4_76 (by decide) rfl ?_
            refine z_iushr (q := 78) dJ6_numberOfTrailingZeros_0f7a4_77 rfl ?_
            refine z_iadd (q := 79) dJ6_numberOfTrailingZeros_0f7a4_78 rfl ?_
            refine z_ireturn dJ6_numberOfTrailingZeros_0f7a4_79 rfl rfl ?_ (Nat.le_refl _) (Nat.le_refl _)
            simp [jNt2, jT1, jT2, jT3, jT4, c1, c2, c3, c4, c6]
          · skip
            refine z_iinc (i := 1) (ls' := [_, _]) (v := 7) (q := 70) dJ6_numberOfTrailingZeros_0f7a4_67 rfl (by decide) (by decide) rfl rfl ?_
            refine z_iload_n (i := 0) (q := 71) dJ6_numberOfTrailingZeros_0f7a4_70 rfl rfl rfl ?_
            refine z_iconst (v := 2) (q := 72) dJ6_numberOfTrailingZeros_0f7a4_71 (by decide) rfl ?_
            refine z_iushr (q := 73) dJ6_numberOfTrailingZeros_0f7a4_72 rfl ?_
            refine z_istore_n (i := 0) (ls' := [_, _]) (q := 74) dJ6_numberOfTrailingZeros_0f7a4_73 rfl (by decide) rfl rfl ?_
            refine z_iload_n (i := 1) (q := 75) dJ6_numberOfTrailingZeros_0f7a4_74 rfl rfl rfl ?_
            refine z_iload_n (i := 0) (q := 76) dJ6_numberOfTrailingZeros_0f7a4_75 rfl rfl rfl ?_
            refine z_iconst (v := 1) (q := 77) dJ6_numberOfTrailingZeros_0f7a4_76 (by decide) rfl ?_
            refine z_iushr (q := 78) dJ6_numberOfTrailingZeros_0f7a4_77 rfl ?_
            refine z_iadd (q := 79) dJ6_numberOfTrailingZeros_0f7a4_78 rfl ?_
            refine z_ireturn dJ6_numberOfTrailingZeros_0f7a4_79 rfl rfl ?_ (Nat.le_refl _) (Nat.le_refl _)
            simp [jNt2, jT1, jT2, jT3, jT4, c1, c2, c3, c4, c6]
      · skip
        refine z_iinc (i := 1) (ls' := [_, _]) (v := 9) (q := 44) dJ6_numberOfTrailingZeros_0f7a4_41 rfl (by decide) (by decide) rfl rfl ?_
        refine z_iload_n (i := 0) (q := 45) dJ6_numberOfTrailingZeros_0f7a4_44 rfl rfl rfl ?_
        refine z_bipush (v := 8) (q := 47) dJ6_numberOfTrailingZeros_0f7a4_45 (by decide) rfl ?_
        refine z_iushr (q := 48) dJ6_numberOfTrailingZeros_0f7a4_47 rfl ?_
        refine z_istore_n (i := 0) (ls' := [_, _]) (q := 49) dJ6_numberOfTrailingZeros_0f7a4_48 rfl (by decide) rfl rfl ?_
        refine z_iload_n (i := 0) (q := 50) dJ6_numberOfTrailingZeros_0f7a4_49 rfl rfl rfl ?_
        refine z_bipush (v := 16) (q := 52) dJ6_numberOfTrailingZeros_0f7a4_50 (by decide) rfl ?_
        refine z_icmp_le (tgt := 62) (q := 55) dJ6_numberOfTrailingZeros_0f7a4_52 (by decide) rfl (fun c7 => ?_) (fun c7 => ?_)
        · skip
          refine z_iload_n (i := 0) (q := 63) dJ6_numberOfTrailingZeros_0f7a4_62 rfl rfl rfl ?_
          refine z_iconst (v := 4) (q := 64) dJ6_numberOfTrailingZeros_0f7a4_63 (by decide) rfl ?_
          refine z_icmp_le (tgt := 74) (q := 67) dJ6_numberOfTrailingZeros_0f7a4_64 (by decide) rfl (fun c8 => ?_) (fun c8 => ?_)
          · skip
            refine z_iload_n (i := 1) (q := 75) dJ6_numberOfTrailingZeros_0f7a4_74 rfl rfl rfl ?_
            refine z_iload_n (i := 0) (q := 76) dJ6_numberOfTrailingZeros_0f7a4_75 rfl rfl rfl ?_
            refine z_iconst (v := 1) (q := 77) dJ6_numberOfTrailingZeros_0f7a4_76 (by decide) rfl ?_
            refine z_iushr (q := 78) dJ6_numberOfTrailingZeros_0f7a4_77 rfl ?_
            refine z_iadd (q := 79) dJ6_numberOfTrailingZeros_0f7a4_78 rfl ?_
            refine z_ireturn dJ6_numberOfTrailingZeros_0f7a4_79 rfl rfl ?_ (Nat.le_refl _) (Nat.le_refl _)
            simp [jNt2, jT1, jT2, jT3, jT4, c1, c2, c3, c7, c8]
          · skip
            refine z_iinc (i := 1) (ls' := [_, _]) (v := 11) (q := 70) dJ6_numberOfTrailingZeros_0f7a4_67 rfl (by decide) (by decide) rfl rfl ?_
            refine z_iload_n (i := 0) (q := 71) dJ6_numberOfTrailingZeros_0f7a4_70 rfl rfl rfl ?_
            refine z_iconst (v := 2) (q := 72) dJ6_numberOfTrailingZeros_0f7a4_71 (by decide) rfl ?_
            refine z_iushr (q := 73) dJ6_numberOfTrailingZeros_0f7a4_72 rfl ?_
            refine z_istore_n (i := 0) (ls' := [_, _]) (q := 74) dJ6_numberOfTrailingZeros_0f7a4_73 rfl (by decide) rfl rfl ?_
            refine z_iload_n (i := 1) (q := 75) dJ6_numberOfTrailingZeros_0f7a4_74 rfl rfl rfl ?_
            refine z_iload_n (i := 0) (q := 76) dJ6_numberOfTrailingZeros_0f7a4_75 rfl rfl rfl ?_
            refine z_iconst (v := 1) (q := 77) dJ6_numberOfTrailingZeros_0f7a4_76 (by decide) rfl ?_
            refine z_iushr (q := 78) dJ6_numberOfTrailingZeros_0f7a4_77 rfl ?_
            refine z_iadd (q := 79) dJ6_numberOfTrailingZeros_0f7a4_78 rfl ?_
            refine z_ireturn dJ6_numberOfTrailingZeros_0f7a4_79 rfl rfl ?_ (Nat.le_refl _) (Nat.le_refl _)
            simp [jNt2, jT1, jT2, jT3, jT4, c1, c2, c3, c7, c8]
        · skip
          refine z_iinc (i := 1) (ls' := [_, _]) (v := 13) (q := 58) dJ6_numberOfTrailingZeros_0f7a4_55 rfl (by decide) (by decide) rfl rfl ?_
          refine z_iload_n (i := 0) (q := 59) dJ6_numberOfTrailingZeros_0f7a4_58 rfl rfl rfl ?_
          refine z_iconst (v := 4) (q := 60) dJ6_numberOfTrailingZeros_0f7a4_59 (by decide) rfl ?_
          refine z_iushr (q := 61) dJ6_numberOfTrailingZeros_0f7a4_60 rfl ?_
          refine z_istore_n (i := 0) (ls' := [_, _]) (q := 62) dJ6_numberOfTrailingZeros_0f7a4_61 rfl (by decide) rfl rfl ?_
          refine z_iload_n (i := 0) (q := 63) dJ6_numberOfTrailingZeros_0f7a4_62 rfl rfl rfl ?_
          refine z_iconst (v := 4) (q := 64) dJ6_numberOfTrailingZeros_0f7a4_63 (by decide) rfl ?_
          refine z_icmp_le (tgt := 74) (q := 67) dJ6_numberOfTrailingZeros_0f7a4_64 (by decide) rfl (fun c9 => ?_) (fun c9 => ?_)
          · skip
            refine z_iload_n (i := 1) (q := 75) dJ6_numberOfTrailingZeros_0f7a4_74 rfl rfl rfl ?_
            refine z_iload_n (i := 0) (q := 76) dJ6_numberOfTrailingZeros_0f7a4_75 rfl rfl rfl ?_
            refine z_iconst (v := 1) (q := 77) dJ6_numberOfTrailingZeros_0f7a4_76 (by decide) rfl ?_
            refine z_iushr (q := 78) dJ6_numberOfTrailingZeros_0f7a4_77 rfl ?_
            refine z_iadd (q := 79) dJ6_numberOfTrailingZeros_0f7a4_78 rfl ?_
            refine z_ireturn dJ6_numberOfTrailingZeros_0f7a4_79 rfl rfl ?_ (Nat.le_refl _) (Nat.le_refl _)
            simp [jNt2, jT1, jT2, jT3, jT4, c1, c2, c3, c7, c9]
          · skip
            refine z_iinc (i := 1) (ls' := [_, _]) (v := 15) (q := 70) dJ6_numberOfTrailingZeros_0f7a4_67 rfl (by decide) (by decide) rfl rfl ?_
            refine z_iload_n (i := 0) (q := 71) dJ6_numberOfTrailingZeros_0f7a4_70 rfl rfl rfl ?_
            refine z_iconst (v := 2) (q := 72) dJ6_numberOfTrailingZeros_0f7a4_71 (by decide) rfl ?_
            refine z_iushr (q := 73) dJ6_numberOfTrailingZeros_0f7a4_72 rfl ?_
            refine z_istore_n (i := 0) (ls' := [_, _]) (q := 74) dJ6_numberOfTrailingZeros_0f7a4_73 rfl (by decide) rfl rfl ?_
            refine z_iload_n (i := 1) (q := 75) dJ6_numberOfTrailingZeros_0f7a4_74 rfl rfl rfl ?_
            refine z_iload_n (i := 0) (q := 76) dJ6_numberOfTrailingZeros_0f7a4_75 rfl rfl rfl ?_
            refine z_iconst (v := 1) (q := 77) dJ6_numberOfTrailingZeros_0f7a4_76 (by decide) rfl ?_
            refine z_iushr (q := 78) dJ6_numberOfTrailingZeros_0f7a4_77 rfl ?_
            refine z_iadd (q := 79) dJ6_numberOfTrailingZeros_0f7a4_78 rfl ?_
            refine z_ireturn dJ6_numberOfTrailingZeros_0f7a4_79 rfl rfl ?_ (Nat.le_refl _) (Nat.le_refl _)
            simp [jNt2, jT1, jT2, jT3, jT4, c1, c2, c3, c7, c9]
    · skip
      refine z_iinc (i := 1) (ls' := [_, _]) (v := 17) (q := 29) dJ6_numberOfTrailingZeros_0f7a4_26 rfl (by decide) (by decide) rfl rfl ?_
      refine z_iload_n (i := 0) (q := 30) dJ6_numberOfTrailingZeros_0f7a4_29 rfl rfl rfl ?_
      refine z_bipush (v := 16) (q := 32) dJ6_numberOfTrailingZeros_0f7a4_30 (by decide) rfl ?_
      refine z_iushr (q := 33) dJ6_numberOfTrailingZeros_0f7a4_32 rfl ?_
      refine z_istore_n (i := 0) (ls' := [_, _]) (q := 34) dJ6_numberOfTrailingZeros_0f7a4_33 rfl (by decide) rfl rfl ?_
      refine z_iload_n (i := 0) (q := 35) dJ6_numberOfTrailingZeros_0f7a4_34 rfl rfl rfl ?_
      refine z_sipush (v := 256) (q := 38) dJ6_numberOfTrailingZeros_0f7a4_35 (by decide) rfl ?_
      refine z_icmp_le (tgt := 49) (q := 41) dJ6_numberOfTrailingZeros_0f7a4_38 (by decide) rfl (fun c10 => ?_) (fun c10 => ?_)
      · skip
        refine z_iload_n (i := 0) (q := 50) dJ6_numberOfTrailingZeros_0f7a4_49 rfl rfl rfl ?_
        refine z_bipush (v := 16) (q := 52) dJ6_numberOfTrailingZeros_0f7a4_50 (by decide) rfl ?_
        refine z_icmp_le (tgt := 62) (q := 55) dJ6_numberOfTrailingZeros_0f7a4_52 (by decide) rfl (fun c11 => ?_) (fun c11 => ?_)
        · skip
          refine z_iload_n (i := 0) (q := 63) dJ6_numberOfTrailingZeros_0f7a4_62 rfl rfl rfl ?_
          refine z_iconst (v := 4) (q := 64) dJ6_numberOfTrailingZeros_0f7a4_63 (by decide) rfl ?_
          refine z_icmp_le (tgt := 74) (q := 67) dJ6_numberOfTrailingZeros_0f7a4_64 (by decide) rfl (fun c12 => ?_) (fun c12 => ?_)
          · skip
            refine z_iload_n (i := 1) (q := 75) dJ6_numberOfTrailingZeros_0f7a4_74 rfl rfl rfl ?_
            refine z_iload_n (i := 0) (q := 76) dJ6_numberOfTrailingZeros_0f7a4_75 rfl rfl rfl ?_
            refine z_iconst (v := 1) (q := 77) dJ6_numberOfTrailingZeros_0f7a4_76 (by decide) rfl ?_
            refine z_iushr (q := 78) dJ6_numberOfTrailingZeros_0f7a4_77 rfl ?_
            refine z_iadd (q := 79) dJ6_numberOfTrailingZeros_0f7a4_78 rfl ?_
            refine z_ireturn dJ6_numberOfTrailingZeros_0f7a4_79 rfl rfl ?_ (Nat.le_refl _) (Nat.le_refl _)
            simp [jNt2, jT1, jT2, jT3, jT4, c1, c2, c10, c11, c12]
          · skip
            refine z_iinc (i := 1) (ls' := [_, _]) (v := 19) (q := 70) dJ6_numberOfTrailingZeros_0f7a4_67 rfl (by decide) (by decide) rfl rfl ?_
            refine z_iload_n (i := 0) (q := 71) dJ6_numberOfTrailingZeros_0f7a4_70 rfl rfl rfl ?_
            refine z_iconst (v := 2) (q := 72) dJ6_numberOfTrailingZeros_0f7a4_71 (by decide) rfl ?_
            refine z_iushr (q := 73) dJ6_numberOfTrailingZeros_0f7a4_72 rfl ?_
            refine z_istore_n (i := 0) (ls' := [_, _]) (q := 74) dJ6_numberOfTrailingZeros_0f7a4_73 rfl (by decide) rfl rfl ?_
            refine z_iload_n (i := 1) (q := 75) dJ6_numberOfTrailingZeros_0f7a4_74 rfl rfl rfl ?_
            refine z_iload_n (i := 0) (q := 76) dJ6_numberOfTrailingZeros_0f7a4_75 rfl rfl rfl ?_
            refine z_iconst (v := 1) (q := 77) dJ6_numberOfTrailingZeros_0f7a4_76 (by decide) rfl ?_
            refine z_iushr (q := 78) dJ6_numberOfTrailingZeros_0f7a4_77 rfl ?_
            refine z_iadd (q := 79) dJ6_numberOfTrailingZeros_0f7a4_78 rfl ?_
            refine z_ireturn dJ6_numberOfTrailingZeros_0f7a4_79 rfl rfl ?_ (Nat.le_refl _) (Nat.le_refl _)
            simp [jNt2, jT1, jT2, jT3, jT4, c1, c2, c10, c11, c12]
        · skip
          refine z_iinc (i := 1) (ls' := [_, _]) (v := 21) (q := 58) dJ6_numberOfTrailingZeros_0f7a4_55 rfl (by decide) (by decide) rfl rfl ?_
          refine z_iload_n (i := 0) (q := 59) dJ6_numberOfTrailingZeros_0f7a4_58 rfl rfl rfl ?_
          refine z_iconst (v := 4) (q := 60) dJ6_numberOfTrailingZeros_0f7a4_59 (by decide) rfl ?_
          refine z_iushr (q := 61) dJ6_numberOfTrailingZeros_0f7a4_60 rfl ?_
          refine z_istore_n (i := 0) (ls' := [_, _]) (q := 62) dJ6_numberOfTrailingZeros_0f7a4_61 rfl (by decide) rfl rfl ?_
          refine z_iload_n (i := 0) (q := 63) dJ6_numberOfTrailingZeros_0f7a4_62 rfl rfl rfl ?_
          refine z_iconst (v := 4) (q := 64) dJ6_numberOfTrailingZeros_0f7a4_63 (by decide) rfl ?_
          refine z_icmp_le (tgt := 74) (q := 67) dJ6_numberOfTrailingZeros_0f7a4_64 (by decide) rfl (fun c13 => ?_) (fun c13 => ?_)
          · skip
            refine z_iload_n (i := 1) (q := 75) dJ6_numberOfTrailingZeros_0f7a4_74 rfl rfl rfl ?_
            refine z_iload_n (i := 0) (q := 76) dJ6_numberOfTrailingZeros_0f7a4_75 rfl rfl rfl ?_
            refine z_iconst (v := 1) (q := 77) dJ6_numberOfTrailingZeros_0f7a4_76 (by decide) rfl ?_
            refine z_iushr (q := 78) dJ6_numberOfTrailingZeros_0f7a4_77 rfl ?_
            refine z_iadd (q := 79) dJ6_numberOfTrailingZeros_0f7a4_78 rfl ?_
            refine z_ireturn dJ6_numberOfTrailingZeros_0f7a4_79 rfl rfl ?_ (Nat.le_refl _) (Nat.le_refl _)
            simp [jNt2, jT1, jT2, jT3, jT4, c1, c2, c10, c11, c13]
          · skip
            refine z_iinc (i := 1) (ls' := [_, _]) (v := 23) (q := 70) dJ6_numberOfTrailingZeros_0f7a4_67 rfl (by decide) (by decide) rfl rfl ?_
            refine z_iload_n (i := 0) (q := 71) dJ6_numberOfTrailingZeros_0f7a4_70 rfl rfl rfl ?_
            refine z_iconst (v := 2) (q := 72) dJ6_numberOfTrailingZeros_0f7a4_71 (by decide) rfl ?_
            refine z_iushr (q := 73) dJ6_numberOfTrailingZeros_0f7a4_72 rfl ?_
            refine z_istore_n (i := 0) (ls' := [_, _]) (q := 74) dJ6_numberOfTrailingZeros_0f7a4_73 rfl (by decide) rfl rfl ?_
            refine z_iload_n (i := 1) (q := 75) dJ6_numberOfTrailingZeros_0f7a4_74 rfl rfl rfl ?_
            refine z_iload_n (i := 0) (q := 76) dJ6_numberOfTrailingZeros_0f7a4_75 rfl rfl rfl ?_
            refine z_iconst (v := 1) (q := 77) dJ6_numberOfTrailingZeros_0f7a4_76 (by decide) rfl ?_
            refine z_iushr (q := 78) dJ6_numberOfTrailingZeros_0f7a4_77 rfl ?_
            refine z_iadd (q := 79) dJ6_numberOfTrailingZeros_0f7a4_78 rfl ?_
            refine z_ireturn dJ6_numberOfTrailingZeros_0f7a4_79 rfl rfl ?_ (Nat.le_refl _) (Nat.le_refl _)
            simp [jNt2, jT1, jT2, jT3, jT4, c1, c2, c10, c11, c13]
      · skip
        refine z_iinc (i := 1) (ls' := [_, _]) (v := 25) (q := 44) dJ6_numberOfTrailingZeros_0f7a4_41 rfl (by decide) (by decide) rfl rfl ?_
        refine z_iload_n (i := 0) (q := 45) dJ6_numberOfTrailingZeros_0f7a4_44 rfl rfl rfl ?_
        refine z_bipush (v := 8) (q := 47) dJ6_numberOfTrailingZeros_0f7a4_45 (by decide) rfl ?_
        refine z_iushr (q := 48) dJ6_numberOfTrailingZeros_0f7a4_47 rfl ?_
        refine z_istore_n (i := 0) (ls' := [_, _]) (q := 49) dJ6_numberOfTrailingZeros_0f7a4_48 rfl (by decide) rfl rfl ?_
        refine z_iload_n (i := 0) (q := 50) dJ6_numberOfTrailingZeros_0f7a4_49 rfl rfl rfl ?_
        refine z_bipush (v := 16) (q := 52) dJ6_numberOfTrailingZeros_0f7a4_50 (by decide) rfl ?_
        refine z_icmp_le (tgt := 62) (q := 55) dJ6_numberOfTrailingZeros_0f7a4_52 (by decide) rfl (fun c14 => ?_) (fun c14 => ?_)
        · skip
          refine z_iload_n (i := 0) (q := 63) dJ6_numberOfTrailingZeros_0f7a4_62 rfl rfl rfl ?_
          refine z_iconst (v := 4) (q := 64) dJ6_numberOfTrailingZeros_0f7a4_63 (by decide) rfl ?_
          refine z_icmp_le (tgt := 74) (q := 67) dJ6_numberOfTrailingZeros_0f7a4_64 (by decide) rfl (fun c15 => ?_) (fun c15 => ?_)
          · skip
            refine z_iload_n (i := 1) (q := 75) dJ6_numberOfTrailingZeros_0f7a4_74 rfl rfl rfl ?_
            refine z_iload_n (i := 0) (q := 76) dJ6_numberOfTrailingZeros_0f7a4_75 rfl rfl rfl ?_
            refine z_iconst (v := 1) (q := 77) dJ6_numberOfTrailingZeros_0f7a4_76 (by decide) rfl ?_
            refine z_iushr (q := 78) dJ6_numberOfTrailingZeros_0f7a4_77 rfl ?_
            refine z_iadd (q := 79) dJ6_numberOfTrailingZeros_0f7a4_78 rfl ?_
            refine z_ireturn dJ6_numberOfTrailingZeros_0f7a4_79 rfl rfl ?_ (Nat.le_refl _) (Nat.le_refl _)
            simp [jNt2, jT1, jT2, jT3, jT4, c1, c2, c10, c14, c15]
          · skip
            refine z_iinc (i := 1) (ls' := [_, _]) (v := 27) (q := 70) dJ6_numberOfTrailingZeros_0f7a4_67 rfl (by decide) (by decide) rfl rfl ?_
            refine z_iload_n (i := 0) (q := 71) dJ6_numberOfTrailingZeros_0f7a4_70 rfl rfl rfl ?_
            refine z_iconst (v := 2) (q := 72) dJ6_numberOfTrailingZeros_0f7a4_71 (by decide) rfl ?_
            refine z_iushr (q := 73) dJ6_numberOfTrailingZeros_0f7a4_72 rfl ?_
            refine z_istore_n (i := 0) (ls' := [_, _]) (q := 74) dJ6_numberOfTrailingZeros_0f7a4_73 rfl (by decide) rfl rfl ?_
            refine z_iload_n (i := 1) (q := 75) dJ6_numberOfTrailingZeros_0f7a4_74 rfl rfl rfl ?_
            refine z_iload_n (i := 0) (q := 76) dJ6_numberOfTrailingZeros_0f7a4_75 rfl rfl rfl ?_
            refine z_iconst (v := 1) (q := 77) dJ6_numberOfTrailingZeros_0f7a4_76 (by decide) rfl ?_
            refine z_iushr (q := 78) dJ6_numberOfTrailingZeros_0f7a4_77 rfl ?_
            refine z_iadd (q := 79) dJ6_numberOfTrailingZeros_0f7a4_78 rfl ?_
            refine z_ireturn dJ6_numberOfTrailingZeros_0f7a4_79 rfl rfl ?_ (Nat.le_refl _) (Nat.le_refl _)
            simp [jNt2, jT1, jT2, jT3, jT4, c1, c2, c10, c14, c15]
        · skip
          refine z_iinc (i := 1) (ls' := [_, _]) (v := 29) (q := 58) dJ6_numberOfTrailingZeros_0f7a4_55 rfl (by decide) (by decide) rfl rfl ?_
          refine z_iload_n (i := 0) (q := 59) dJ6_numberOfTrailingZeros_0f7a4_58 rfl rfl rfl ?_
          refine z_iconst (v := 4) (q := 60) dJ6_numberOfTrailingZeros_0f7a4_59 (by decide) rfl ?_
          refine z_iushr (q := 61) dJ6_numberOfTrailingZeros_0f7a4_60 rfl ?_
          refine z_istore_n (i := 0) (ls' := [_, _]) (q := 62) dJ6_numberOfTrailingZeros_0f7a4_61 rfl (by decide) rfl rfl ?_
          refine z_iload_n (i := 0) (q := 63) dJ6_numberOfTrailingZeros_0f7a4_62 rfl rfl rfl ?_
          refine z_iconst (v := 4) (q := 64) dJ6_numberOfTrailingZeros_0f7a4_63 (by decide) rfl ?_
          refine z_icmp_le (tgt := 74) (q := 67) dJ6_numberOfTrailingZeros_0f7a4_64 (by decide) rfl (fun c16 => ?_) (fun c16 => ?_)
          · skip
            refine z_iload_n (i := 1) (q := 75) dJ6_numberOfTrailingZeros_0f7a4_74 rfl rfl rfl ?_
            refine z_iload_n (i := 0) (q := 76) dJ6_numberOfTrailingZeros_0f7a4_75 rfl rfl rfl ?_
            refine z_iconst (v := 1) (q := 77) dJ6_numberOfTrailingZeros_0f7a4_76 (by decide) rfl ?_
            refine z_iushr (q := 78) dJ6_numberOfTrailingZeros_0f7a4_77 rfl ?_
            refine z_iadd (q := 79) dJ6_numberOfTrailingZeros_0f7a4_78 rfl ?_
            refine z_ireturn dJ6_numberOfTrailingZeros_0f7a4_79 rfl rfl ?_ (Nat.le_refl _) (Nat.le_refl _)
            simp [jNt2, jT1, jT2, jT3, jT4, c1, c2, c10, c14, c16]
          · skip
            refine z_iinc (i := 1) (ls' := [_, _]) (v := 31) (q := 70) dJ6_numberOfTrailingZeros_0f7a4_67 rfl (by decide) (by decide) rfl rfl ?_
            refine z_iload_n (i := 0) (q := 71) dJ6_numberOfTrailingZeros_0f7a4_70 rfl rfl rfl ?_
            refine z_iconst (v := 2) (q := 72) dJ6_numberOfTrailingZeros_0f7a4_71 (by decide) rfl ?_
            refine z_iushr (q := 73) dJ6_numberOfTrailingZeros_0f7a4_72 rfl ?_
            refine z_istore_n (i := 0) (ls' := [_, _]) (q := 74) dJ6_numberOfTrailingZeros_0f7a4_73 rfl (by decide) rfl rfl ?_
            refine z_iload_n (i := 1) (q := 75) dJ6_numberOfTrailingZeros_0f7a4_74 rfl rfl rfl ?_
            refine z_iload_n (i := 0) (q := 76) dJ6_numberOfTrailingZeros_0f7a4_75 rfl rfl rfl ?_
            refine z_iconst (v := 1) (q := 77) dJ6_numberOfTrailingZeros_0f7a4_76 (by decide) rfl ?_
            refine z_iushr (q := 78) dJ6_numberOfTrailingZeros_0f7a4_77 rfl ?_
            refine z_iadd (q := 79) dJ6_numberOfTrailingZeros_0f7a4_78 rfl ?_
            refine z_ireturn dJ6_numberOfTrailingZeros_0f7a4_79 rfl rfl ?_ (Nat.le_refl _) (Nat.le_refl _)
            simp [jNt2, jT1, jT2, jT3, jT4, c1, c2, c10, c14, c16]
  · skip
    refine z_iload_n (i := 0) (q := 13) dJ6_numberOfTrailingZeros_0f7a4_12 rfl rfl rfl ?_
    refine z_bipush (v := 32) (q := 15) dJ6_numberOfTrailingZeros_0f7a4_13 (by decide) rfl ?_
    refine z_iand (q := 16) dJ6_numberOfTrailingZeros_0f7a4_15 rfl ?_
    refine z_ireturn dJ6_numberOfTrailingZeros_0f7a4_16 rfl rfl ?_ (Nat.le_refl _) (Nat.le_refl _)
    simp [jNt2, jT1, jT2, jT3, jT4, c1]
set_option maxHeartbeats 4000000 in
set_option maxRecDepth 100000 in
theorem ev_J13_numberOfLeadingZeros_95d88 (d : Nat) (h : zH) (x : Int64) : zEv (d + 1) zM_J13_numberOfLeadingZeros_95d88 0 0 [.long x] (h) (some (.int (jNlzL x)), h) := by
  refine zEv_of (by decide) (fun G => Nat.le_of_ble_eq_true rfl) ?_
  show ZW _ _ _ _ 0 [some (.long x), none, none] [] _ _ _ _
  refine z_lload_n (i := 0) (q := 1) dJ13_numberOfLeadingZeros_95d88_0 rfl rfl rfl ?_
  refine z_bipush (v := 32) (q := 3) dJ13_numberOfLeadingZeros_95d88_1 (by decide) rfl ?_
  refine z_lushr (q := 4) dJ13_numberOfLeadingZeros_95d88_3 rfl ?_
  refine z_l2i (q := 5) dJ13_numberOfLeadingZeros_95d88_4 rfl ?_
  refine z_istore_n (i := 2) (ls' := [_, _, _]) (q := 6) dJ13_numberOfLeadingZeros_95d88_5 rfl (by decide) rfl rfl ?_
  refine z_iload_n (i := 2) (q := 7) dJ13_numberOfLeadingZeros_95d88_6 rfl rfl rfl ?_
  refine z_if_ne (tgt := 21) (q := 10) dJ13_numberOfLeadingZeros_95d88_7 (by decide) rfl (fun c1 => ?_) (fun c1 => ?_)
  · skip
    refine z_iload_n (i := 2) (q := 22) dJ13_numberOfLeadingZeros_95d88_21 rfl rfl rfl ?_
    refine m_callS_r (As := [_]) (q := 25) mk_J6_numberOfLeadingZeros_0f7a4 dJ13_numberOfLeadingZeros_95d88_22 wd_615 wd_616 (ev_J6_numberOfLeadingZeros_0f7a4 _ _ _) rfl (by decide) rfl (Nat.zero_le _) (Nat.zero_le _) rfl ?_
    refine z_ireturn dJ13_numberOfLeadingZeros_95d88_25 rfl rfl ?_ (Nat.le_refl _) (Nat.le_refl _)
    first
    | rw [show jNlzL x = _ from if_neg c1]; try rfl
    | rw [show jNlzL x = _ from if_pos c1]; try rfl
  · skip
    refine z_bipush (v := 32) (q := 12) dJ13_numberOfLeadingZeros_95d88_10 (by decide) rfl ?_
    refine z_lload_n (i := 0) (q := 13) dJ13_numberOfLeadingZeros_95d88_12 rfl rfl rfl ?_
    refine z_l2i (q := 14) dJ13_numberOfLeadingZeros_95d88_13 rfl ?_
    refine m_callS_r (As := [_]) (q := 17) mk_J6_numberOfLeadingZeros_0f7a4 dJ13_numberOfLeadingZeros_95d88_14 wd_615 wd_616 (ev_J6_numberOfLeadingZeros_0f7a4 _ _ _) rfl (by simp [Value.category]) rfl (Nat.zero_le _) (Nat.zero_le _) rfl ?_
    refine z_iadd (q := 18) dJ13_numberOfLeadingZeros_95d88_17 rfl ?_
    refine z_goto (tgt := 25) dJ13_numberOfLeadingZeros_95d88_18 (by decide) ?_
    refine z_ireturn dJ13_numberOfLeadingZeros_95d88_25 rfl rfl ?_ (Nat.le_refl _) (Nat.le_refl _)
    first
    | rw [show jNlzL x = _ from if_neg c1]; try rfl
    | rw [show jNlzL x = _ from if_pos c1]; try rfl
set_option maxHeartbeats 4000000 in
set_option maxRecDepth 100000 in
theorem ev_J13_numberOfTrailingZeros_95d88 (d : Nat) (h : zH) (x : Int64) : zEv (d + 1) zM_J13_numberOfTrailingZeros_95d88 0 0 [.long x] (h) (some (.int (jNtzL x)), h) := by
  refine zEv_of (by decide) (fun G => Nat.le_of_ble_eq_true rfl) ?_
  show ZW _ _ _ _ 0 [some (.long x), none, none] [] _ _ _ _
  refine z_lload_n (i := 0) (q := 1) dJ13_numberOfTrailingZeros_95d88_0 rfl rfl rfl ?_
  refine z_l2i (q := 2) dJ13_numberOfTrailingZeros_95d88_1 rfl ?_
  refine z_istore_n (i := 2) (ls' := [_, _, _]) (q := 3) dJ13_numberOfTrailingZeros_95d88_2 rfl (by decide) rfl rfl ?_
  refine z_iload_n (i := 2) (q := 4) dJ13_numberOfTrailingZeros_95d88_3 rfl rfl rfl ?_
  refine z_if_ne (tgt := 21) (q := 7) dJ13_numberOfTrailingZeros_95d88_4 (by decide) rfl (fun c1 => ?_) (fun c1 => ?_)
  · skip
    refine z_iload_n (i := 2) (q := 22) dJ13_numberOfTrailingZeros_95d88_21 rfl rfl rfl ?_
    refine m_callS_r (As := [_]) (q := 25) mk_J6_numberOfTrailingZeros_0f7a4 dJ13_numberOfTrailingZeros_95d88_22 wd_608 wd_609 (ev_J6_numberOfTrailingZeros_0f7a4 _ _ _) rfl (by decide) rfl (Nat.zero_le _) (Nat.zero_le _) rfl ?_
    refine z_ireturn dJ13_numberOfTrailingZeros_95d88_25 rfl rfl ?_ (Nat.le_refl _) (Nat.le_refl _)
    first
    | rw [show jNtzL x = _ from if_neg c1]; try rfl
    | rw [show jNtzL x = _ from if_pos c1]; try rfl
  · skip
    refine z_bipush (v := 32) (q := 9) dJ13_numberOfTrailingZeros_95d88_7 (by decide) rfl ?_
    refine z_lload_n (i := 0) (q := 10) dJ13_numberOfTrailingZeros_95d88_9 rfl rfl rfl ?_
    refine z_bipush (v := 32) (q := 12) dJ13_numberOfTrailingZeros_95d88_10 (by decide) rfl ?_
    refine z_lushr (q := 13) dJ13_numberOfTrailingZeros_95d88_12 rfl ?_
    refine z_l2i (q := 14) dJ13_numberOfTrailingZeros_95d88_13 rfl ?_
    refine m_callS_r (As := [_]) (q := 17) mk_J6_numberOfTrailingZeros_0f7a4 dJ13_numberOfTrailingZeros_95d88_14 wd_608 wd_609 (ev_J6_numberOfTrailingZeros_0f7a4 _ _ _) rfl (by simp [Value.category]) rfl (Nat.zero_le _) (Nat.zero_le _) rfl ?_
    refine z_iadd (q := 18) dJ13_numberOfTrailingZeros_95d88_17 rfl ?_
    refine z_goto (tgt := 25) dJ13_numberOfTrailingZeros_95d88_18 (by decide) ?_
    refine z_ireturn dJ13_numberOfTrailingZeros_95d88_25 rfl rfl ?_ (Nat.le_refl _) (Nat.le_refl _)
    first
    | rw [show jNtzL x = _ from if_neg c1]; try rfl
    | rw [show jNtzL x = _ from if_pos c1]; try rfl
set_option maxHeartbeats 4000000 in
set_option maxRecDepth 100000 in
theorem ev_X7_gains_bad (d : Nat) (m : zm) (p : Int32) (z : Int32) (y : Int32) (w : Int32) (hb : (p < 0 ∨ m.1 14 3 - 1 < p) ∨ (z < 0 ∨ m.1 14 0 - 1 < z) ∨ (y < 0 ∨ 40 < y) ∨ (w < 0 ∨ 2 < w)) : zEv (d + 4) zM_X7_gains 0 0 [.ref 0, .int p, .int z, .int y, .int w] (lay m) (some (.int (-1000001)), lay (m)) := by
  refine zEv_of (by decide) (fun G => Nat.le_of_ble_eq_true rfl) ?_
  show ZW _ _ _ _ 0 [some (.ref 0), some (.int p), some (.int z), some (.int y), some (.int w), none, none] [] _ _ _ _
  refine z_aload_n (i := 0) (q := 1) dX7_gains_0 rfl rfl rfl ?_
  refine z_iload_n (i := 1) (q := 2) dX7_gains_1 rfl rfl rfl ?_
  refine m_callV_r (As := [_]) (q := 5) mk_X7_isNobody dX7_gains_2 wd_472 wd_474 wp_16 (ci := 7) rfl ⟨by decide, _, rfl⟩ (ev_X7_isNobody _ _ _) rfl (by decide) rfl (Nat.zero_le _) (Nat.zero_le _) rfl ?_
  refine zb_ne (tgt := 16) (q := 8) dX7_gains_5 (by decide) rfl (fun c1 => ?_) (fun c1 => ?_)
  · skip
    refine z_ldc (q := 18) dX7_gains_16 wd_279 rfl ?_
    refine z_ireturn dX7_gains_18 rfl rfl ?_ (Nat.le_refl _) (Nat.le_refl _)
    rfl
  · skip
    refine z_aload_n (i := 0) (q := 9) dX7_gains_8 rfl rfl rfl ?_
    refine z_iload_n (i := 2) (q := 10) dX7_gains_9 rfl rfl rfl ?_
    refine m_callV_r (As := [_]) (q := 13) mk_X7_isNoHarbour dX7_gains_10 wd_578 wd_580 wp_20 (ci := 7) rfl ⟨by decide, _, rfl⟩ (ev_X7_isNoHarbour _ _ _) rfl (by decide) rfl (Nat.zero_le _) (Nat.zero_le _) rfl ?_
    refine zb_eq (tgt := 19) (q := 16) dX7_gains_13 (by decide) rfl (fun c2 => ?_) (fun c2 => ?_)
    · skip
      refine z_iload_n (i := 3) (q := 20) dX7_gains_19 rfl rfl rfl ?_
      refine z_iconst (v := 0) (q := 21) dX7_gains_20 (by decide) rfl ?_
      refine z_bipush (v := 40) (q := 23) dX7_gains_21 (by decide) rfl ?_
      refine m_callS_r (As := [_, _, _]) (q := 26) mk_X7_isOutside dX7_gains_23 wd_276 wd_277 (ev_X7_isOutside _ _ _ _ _) rfl (by decide) rfl (Nat.zero_le _) (Nat.zero_le _) rfl ?_
      refine zb_ne (tgt := 39) (q := 29) dX7_gains_26 (by decide) rfl (fun c3 => ?_) (fun c3 => ?_)
      · skip
        refine z_ldc (q := 41) dX7_gains_39 wd_279 rfl ?_
        refine z_ireturn dX7_gains_41 rfl rfl ?_ (Nat.le_refl _) (Nat.le_refl _)
        rfl
      · skip
        refine z_iload (i := 4) (q := 31) dX7_gains_29 rfl rfl ?_
        refine z_iconst (v := 0) (q := 32) dX7_gains_31 (by decide) rfl ?_
        refine z_iconst (v := 2) (q := 33) dX7_gains_32 (by decide) rfl ?_
        refine m_callS_r (As := [_, _, _]) (q := 36) mk_X7_isOutside dX7_gains_33 wd_276 wd_277 (ev_X7_isOutside _ _ _ _ _) rfl (by decide) rfl (Nat.zero_le _) (Nat.zero_le _) rfl ?_
        refine zb_eq (tgt := 42) (q := 39) dX7_gains_36 (by decide) rfl (fun c4 => ?_) (fun c4 => ?_)
        · exact absurd hb (fun q => q.elim c1 (fun q => q.elim c2 (fun q => q.elim c3 c4)))
        · skip
          refine z_ldc (q := 41) dX7_gains_39 wd_279 rfl ?_
          refine z_ireturn dX7_gains_41 rfl rfl ?_ (Nat.le_refl _) (Nat.le_refl _)
          rfl
    · skip
      refine z_ldc (q := 18) dX7_gains_16 wd_279 rfl ?_
      refine z_ireturn dX7_gains_18 rfl rfl ?_ (Nat.le_refl _) (Nat.le_refl _)
      rfl
def cGainsR (g : Int64) (w : Int32) : Int32 := if w = 0 then jBit g else if g = 0 then -1000000 else if w = 1 then jNtzL g else 63 - jNlzL g
set_option maxHeartbeats 4000000 in
set_option maxRecDepth 100000 in
theorem ev_X7_gains (d : Nat) (m : zm) (W : Nat) (p : Nat) (z : Int32) (y : Int32) (w : Int32) (hn : ¬ (nI p < 0 ∨ m.1 14 3 - 1 < nI p)) (hn2 : ¬ (z < 0 ∨ m.1 14 0 - 1 < z)) (h3 : ¬ (y < 0 ∨ 40 < y)) (h4 : ¬ (w < 0 ∨ 2 < w)) (hW : m.1 14 2 = nI W) (hW8 : W ≤ 8) (hwk : wOk m W) (hp : p < 4) : zEv (d + 4) zM_X7_gains 0 0 [.ref 0, .int (nI p), .int z, .int y, .int w] (lay m) (some (.int (cGainsR (cG (cFore m 144 (25 + p) W) 144 y z) w)), lay (cFore m 144 (25 + p) W)) := by
  refine zEv_of (by decide) (fun G => Nat.le_of_ble_eq_true rfl) ?_
  show ZW _ _ _ _ 0 [some (.ref 0), some (.int (nI p)), some (.int z), some (.int y), some (.int w), none, none] [] _ _ _ _
  refine z_aload_n (i := 0) (q := 1) dX7_gains_0 rfl rfl rfl ?_
  refine z_iload_n (i := 1) (q := 2) dX7_gains_1 rfl rfl rfl ?_
  refine m_callV_r (As := [_]) (q := 5) mk_X7_isNobody dX7_gains_2 wd_472 wd_474 wp_16 (ci := 7) rfl ⟨by decide, _, rfl⟩ (ev_X7_isNobody _ _ _) rfl (by decide) rfl (Nat.zero_le _) (Nat.zero_le _) rfl ?_
  refine zb_ne (tgt := 16) (q := 8) dX7_gains_5 (by decide) rfl (fun c1 => ?_) (fun c1 => ?_)
  · contradiction
  · skip
    refine z_aload_n (i := 0) (q := 9) dX7_gains_8 rfl rfl rfl ?_
    refine z_iload_n (i := 2) (q := 10) dX7_gains_9 rfl rfl rfl ?_
    refine m_callV_r (As := [_]) (q := 13) mk_X7_isNoHarbour dX7_gains_10 wd_578 wd_580 wp_20 (ci := 7) rfl ⟨by decide, _, rfl⟩ (ev_X7_isNoHarbour _ _ _) rfl (by decide) rfl (Nat.zero_le _) (Nat.zero_le _) rfl ?_
    refine zb_eq (tgt := 19) (q := 16) dX7_gains_13 (by decide) rfl (fun c2 => ?_) (fun c2 => ?_)
    · skip
      refine z_iload_n (i := 3) (q := 20) dX7_gains_19 rfl rfl rfl ?_
      refine z_iconst (v := 0) (q := 21) dX7_gains_20 (by decide) rfl ?_
      refine z_bipush (v := 40) (q := 23) dX7_gains_21 (by decide) rfl ?_
      refine m_callS_r (As := [_, _, _]) (q := 26) mk_X7_isOutside dX7_gains_23 wd_276 wd_277 (ev_X7_isOutside _ _ _ _ _) rfl (by decide) rfl (Nat.zero_le _) (Nat.zero_le _) rfl ?_
      refine zb_ne (tgt := 39) (q := 29) dX7_gains_26 (by decide) rfl (fun c3 => ?_) (fun c3 => ?_)
      · contradiction
      · skip
        refine z_iload (i := 4) (q := 31) dX7_gains_29 rfl rfl ?_
        refine z_iconst (v := 0) (q := 32) dX7_gains_31 (by decide) rfl ?_
        refine z_iconst (v := 2) (q := 33) dX7_gains_32 (by decide) rfl ?_
        refine m_callS_r (As := [_, _, _]) (q := 36) mk_X7_isOutside dX7_gains_33 wd_276 wd_277 (ev_X7_isOutside _ _ _ _ _) rfl (by decide) rfl (Nat.zero_le _) (Nat.zero_le _) rfl ?_
        refine zb_eq (tgt := 42) (q := 39) dX7_gains_36 (by decide) rfl (fun c4 => ?_) (fun c4 => ?_)
        · skip
          refine z_aload_n (i := 0) (q := 43) dX7_gains_42 rfl rfl rfl ?_
          refine m_getR (r := 144) (q := 46) dX7_gains_43 fl_X7_67 ⟨by decide, _, rfl, rfl⟩ rfl ?_
          refine z_aload_n (i := 0) (q := 47) dX7_gains_46 rfl rfl rfl ?_
          refine m_getR (r := 14) (q := 50) dX7_gains_47 fl_X7_42 ⟨by decide, _, rfl, rfl⟩ rfl ?_
          refine z_aload_n (i := 0) (q := 51) dX7_gains_50 rfl rfl rfl ?_
          refine m_getR (r := 14) (q := 54) dX7_gains_51 fl_X7_42 ⟨by decide, _, rfl, rfl⟩ rfl ?_
          refine m_getR (r := 16) (q := 57) dX7_gains_54 fl_X7_150 ⟨by decide, _, rfl, rfl⟩ rfl ?_
          refine z_iload_n (i := 1) (q := 58) dX7_gains_57 rfl rfl rfl ?_
          refine m_aald (kd := 5) (N := 4) (b := 25 + p) (q := 59) dX7_gains_58 (by decide) (okPn (by decide) rfl (by omega) (by decide)) (nI_pos' (by omega)) rfl ?_
          refine m_callV_v (As := [_, _]) (q := 62) mk_X2_foresee dX7_gains_59 wd_582 wd_583 wd_584 (ci := 2) rfl ⟨by decide, _, rfl⟩ (ev_X2_foresee _ _ _ _ _ isFor_144 (isLea_14.2.2.2.2.2.2 p (by omega)) hW hW8 hwk) rfl (by decide) rfl (Nat.zero_le _) (Nat.zero_le _) rfl ?_
          refine z_aload_n (i := 0) (q := 63) dX7_gains_62 rfl rfl rfl ?_
          refine m_getR (r := 144) (q := 66) dX7_gains_63 fl_X7_67 ⟨by decide, _, rfl, rfl⟩ rfl ?_
          refine z_iload_n (i := 3) (q := 67) dX7_gains_66 rfl rfl rfl ?_
          refine z_iload_n (i := 2) (q := 68) dX7_gains_67 rfl rfl rfl ?_
          refine m_callV_r (As := [_, _]) (q := 71) mk_X2_gainsAt dX7_gains_68 wd_597 wd_587 wd_588 (ci := 2) rfl ⟨by decide, _, rfl⟩ (ev_X2_gainsAt _ _ _ _ _ isFor_144) rfl (by decide) rfl (Nat.zero_le _) (Nat.zero_le _) rfl ?_
          refine z_lstore (i := 5) (ls' := [_, _, _, _, _, _, _]) (q := 73) dX7_gains_71 (by decide) rfl rfl ?_
          refine z_iload (i := 4) (q := 75) dX7_gains_73 rfl rfl ?_
          refine z_if_ne (tgt := 84) (q := 78) dX7_gains_75 (by decide) rfl (fun c5 => ?_) (fun c5 => ?_)
          · skip
            refine z_lload (i := 5) (q := 86) dX7_gains_84 rfl rfl ?_
            refine z_lconst (v := 0) (q := 87) dX7_gains_86 (by decide) rfl ?_
            refine z_lcmp (q := 88) dX7_gains_87 rfl ?_
            refine zl_ne (tgt := 94) (q := 91) dX7_gains_88 (by decide) rfl (fun c6 => ?_) (fun c6 => ?_)
            · skip
              refine z_iload (i := 4) (q := 96) dX7_gains_94 rfl rfl ?_
              refine z_iconst (v := 1) (q := 97) dX7_gains_96 (by decide) rfl ?_
              refine z_icmp_ne (tgt := 108) (q := 100) dX7_gains_97 (by decide) rfl (fun c7 => ?_) (fun c7 => ?_)
              · skip
                refine z_bipush (v := 63) (q := 110) dX7_gains_108 (by decide) rfl ?_
                refine z_lload (i := 5) (q := 112) dX7_gains_110 rfl rfl ?_
                refine m_callS_r (As := [_]) (q := 115) mk_J13_numberOfLeadingZeros_95d88 dX7_gains_112 wd_612 wd_613 (ev_J13_numberOfLeadingZeros_95d88 _ _ _) rfl (by simp [Value.category]) rfl (Nat.zero_le _) (Nat.zero_le _) rfl ?_
                refine z_isub (q := 116) dX7_gains_115 rfl ?_
                refine z_ireturn dX7_gains_116 rfl rfl ?_ (Nat.le_refl _) (Nat.le_refl _)
                simp [cGainsR, c1, c2, c3, c4, c5, c6, c7]
              · skip
                refine z_lload (i := 5) (q := 102) dX7_gains_100 rfl rfl ?_
                refine m_callS_r (As := [_]) (q := 105) mk_J13_numberOfTrailingZeros_95d88 dX7_gains_102 wd_605 wd_606 (ev_J13_numberOfTrailingZeros_95d88 _ _ _) rfl (by decide) rfl (Nat.zero_le _) (Nat.zero_le _) rfl ?_
                refine z_goto (tgt := 116) dX7_gains_105 (by decide) ?_
                refine z_ireturn dX7_gains_116 rfl rfl ?_ (Nat.le_refl _) (Nat.le_refl _)
                simp [cGainsR, c1, c2, c3, c4, c5, c6, c7]
            · skip
              refine z_ldc (q := 93) dX7_gains_91 wd_604 rfl ?_
              refine z_ireturn dX7_gains_93 rfl rfl ?_ (Nat.le_refl _) (Nat.le_refl _)
              simp [cGainsR, c1, c2, c3, c4, c5, c6]
          · skip
            refine z_lload (i := 5) (q := 80) dX7_gains_78 rfl rfl ?_
            refine m_callS_r (As := [_]) (q := 83) mk_J13_bitCount_95d88 dX7_gains_80 wd_598 wd_599 (ev_J13_bitCount_95d88 _ _ _) rfl (by decide) rfl (Nat.zero_le _) (Nat.zero_le _) rfl ?_
            refine z_ireturn dX7_gains_83 rfl rfl ?_ (Nat.le_refl _) (Nat.le_refl _)
            simp [cGainsR, c1, c2, c3, c4, c5]
        · contradiction
    · contradiction
set_option maxHeartbeats 4000000 in
set_option maxRecDepth 100000 in
theorem ev_X7_voyages_bad (d : Nat) (m : zm) (p : Int32) (z : Int32) (hb : (p < 0 ∨ m.1 14 3 - 1 < p) ∨ (z < 0 ∨ m.1 14 0 - 1 < z)) : zEv (d + 2) zM_X7_voyages 0 0 [.ref 0, .int p, .int z] (lay m) (some (.int (-1000001)), lay (m)) := by
  refine zEv_of (by decide) (fun G => Nat.le_of_ble_eq_true rfl) ?_
  show ZW _ _ _ _ 0 [some (.ref 0), some (.int p), some (.int z), none, none, none] [] _ _ _ _
  refine z_aload_n (i := 0) (q := 1) dX7_voyages_0 rfl rfl rfl ?_
  refine z_iload_n (i := 1) (q := 2) dX7_voyages_1 rfl rfl rfl ?_
  refine m_callV_r (As := [_]) (q := 5) mk_X7_isNobody dX7_voyages_2 wd_472 wd_474 wp_16 (ci := 7) rfl ⟨by decide, _, rfl⟩ (ev_X7_isNobody _ _ _) rfl (by decide) rfl (Nat.zero_le _) (Nat.zero_le _) rfl ?_
  refine zb_ne (tgt := 16) (q := 8) dX7_voyages_5 (by decide) rfl (fun c1 => ?_) (fun c1 => ?_)
  · skip
    refine z_ldc (q := 18) dX7_voyages_16 wd_279 rfl ?_
    refine z_ireturn dX7_voyages_18 rfl rfl ?_ (Nat.le_refl _) (Nat.le_refl _)
    rfl
  · skip
    refine z_aload_n (i := 0) (q := 9) dX7_voyages_8 rfl rfl rfl ?_
    refine z_iload_n (i := 2) (q := 10) dX7_voyages_9 rfl rfl rfl ?_
    refine m_callV_r (As := [_]) (q := 13) mk_X7_isNoHarbour dX7_voyages_10 wd_578 wd_580 wp_20 (ci := 7) rfl ⟨by decide, _, rfl⟩ (ev_X7_isNoHarbour _ _ _) rfl (by decide) rfl (Nat.zero_le _) (Nat.zero_le _) rfl ?_
    refine zb_eq (tgt := 19) (q := 16) dX7_voyages_13 (by decide) rfl (fun c2 => ?_) (fun c2 => ?_)
    · exact absurd hb (fun q => q.elim c1 c2)
    · skip
      refine z_ldc (q := 18) dX7_voyages_16 wd_279 rfl ?_
      refine z_ireturn dX7_voyages_18 rfl rfl ?_ (Nat.le_refl _) (Nat.le_refl _)
      rfl
set_option maxHeartbeats 4000000 in
set_option maxRecDepth 100000 in
theorem lp_X7_voy (d : Nat) (m : zm) (p W : Nat) (hp : p < 4) (z : Int32) (hW : m.1 14 2 = nI W) (hW8 : W ≤ 8) : ∀ (n : Nat) (i : Nat) (r : Int32), 5 - i < n → i ≤ 5 → ZW zM_X7_voyages (d + 2) 0 0 40 [some (.ref 0), some (.int (nI p)), some (.int z), some (.ref (25 + p)), some (.int r), some (.int (nI i))] [] (lay m) 0 0 (some (.int (cVoy m (25 + p) W z (5 - i) r (nI i))), lay m) := by
  intro n
  induction n with
  | zero => intro i r hm; exact absurd hm (by omega)
  | succ n ih =>
    intro i r hm hi
    refine z_iload (i := 5) (q := 42) dX7_voyages_40 rfl rfl ?_
    refine z_iconst (v := 5) (q := 43) dX7_voyages_42 (by decide) rfl ?_
    refine z_icmp_ge (tgt := 77) (q := 46) dX7_voyages_43 (by decide) rfl (fun c1 => ?_) (fun c1 => ?_)
    · skip
      have hz := (nI_leI (a := 5) (b := i) (by omega) (by omega)).mp c1
      rw [show 5 - i = 0 by omega]
      refine z_ldc (q := 79) dX7_voyages_77 wd_604 rfl ?_
      refine z_ireturn dX7_voyages_79 rfl rfl ?_ (Nat.le_refl _) (Nat.le_refl _)
      rfl
    · skip
      have hz : i < 5 := by
        rcases Nat.lt_or_ge i 5 with q | q
        · exact q
        · exact absurd (nI_leI (a := 5) (b := i) (by omega) (by omega) |>.mpr q) c1
      rw [show 5 - i = (5 - (i + 1)) + 1 by omega, cVoy]
      refine z_iload (i := 4) (q := 48) dX7_voyages_46 rfl rfl ?_
      refine z_iload_n (i := 2) (q := 49) dX7_voyages_48 rfl rfl rfl ?_
      refine z_ishr (q := 50) dX7_voyages_49 rfl ?_
      refine z_iconst (v := 1) (q := 51) dX7_voyages_50 (by decide) rfl ?_
      refine z_iand (q := 52) dX7_voyages_51 rfl ?_
      refine z_iconst (v := 1) (q := 53) dX7_voyages_52 (by decide) rfl ?_
      refine z_icmp_ne (tgt := 59) (q := 56) dX7_voyages_53 (by decide) rfl (fun c2 => ?_) (fun c2 => ?_)
      · skip
        refine z_aload_n (i := 0) (q := 60) dX7_voyages_59 rfl rfl rfl ?_
        refine m_getR (r := 14) (q := 63) dX7_voyages_60 fl_X7_42 ⟨by decide, _, rfl, rfl⟩ rfl ?_
        refine z_aload_n (i := 3) (q := 64) dX7_voyages_63 rfl rfl rfl ?_
        refine z_iload (i := 4) (q := 66) dX7_voyages_64 rfl rfl ?_
        refine m_callV_r (As := [_, _]) (q := 69) mk_X3_oneVoyageMore dX7_voyages_66 wd_630 wd_631 wd_632 (ci := 3) rfl ⟨by decide, _, rfl⟩ (ev_X3_oneVoyageMore _ _ _ _ _ (isLea_14.2.2.2.2.2.2 p hp) hW hW8) rfl (by decide) rfl (Nat.zero_le _) (Nat.zero_le _) rfl ?_
        refine z_istore (i := 4) (ls' := [_, _, _, _, _, _]) (q := 71) dX7_voyages_69 (by decide) rfl rfl ?_
        refine z_iinc (i := 5) (ls' := [_, _, _, _, _, _]) (v := nI (i + 1)) (q := 74) dX7_voyages_71 rfl (nI_1 _) (by decide) rfl rfl ?_
        refine z_goto (tgt := 40) dX7_voyages_74 (by decide) ?_
        rw [if_neg c2, nI_1]
        exact ih (i + 1) _ (by omega) (by omega)
      · skip
        refine z_iload (i := 5) (q := 58) dX7_voyages_56 rfl rfl ?_
        refine z_ireturn dX7_voyages_58 rfl rfl ?_ (Nat.le_refl _) (Nat.le_refl _)
        rw [if_pos c2]
set_option maxHeartbeats 4000000 in
set_option maxRecDepth 100000 in
theorem ev_X7_voyages (d : Nat) (m : zm) (W : Nat) (p : Nat) (z : Int32) (hn : ¬ (nI p < 0 ∨ m.1 14 3 - 1 < nI p)) (hn2 : ¬ (z < 0 ∨ m.1 14 0 - 1 < z)) (hW : m.1 14 2 = nI W) (hW8 : W ≤ 8) (hp : p < 4) : zEv (d + 2) zM_X7_voyages 0 0 [.ref 0, .int (nI p), .int z] (lay m) (some (.int (cVoy m (25 + p) W z 5 (1 <<< (m.1 (25 + p) 2 &&& 31)) 0)), lay (m)) := by
  refine zEv_of (by decide) (fun G => Nat.le_of_ble_eq_true rfl) ?_
  show ZW _ _ _ _ 0 [some (.ref 0), some (.int (nI p)), some (.int z), none, none, none] [] _ _ _ _
  refine z_aload_n (i := 0) (q := 1) dX7_voyages_0 rfl rfl rfl ?_
  refine z_iload_n (i := 1) (q := 2) dX7_voyages_1 rfl rfl rfl ?_
  refine m_callV_r (As := [_]) (q := 5) mk_X7_isNobody dX7_voyages_2 wd_472 wd_474 wp_16 (ci := 7) rfl ⟨by decide, _, rfl⟩ (ev_X7_isNobody _ _ _) rfl (by decide) rfl (Nat.zero_le _) (Nat.zero_le _) rfl ?_
  refine zb_ne (tgt := 16) (q := 8) dX7_voyages_5 (by decide) rfl (fun c1 => ?_) (fun c1 => ?_)
  · contradiction
  · skip
    refine z_aload_n (i := 0) (q := 9) dX7_voyages_8 rfl rfl rfl ?_
    refine z_iload_n (i := 2) (q := 10) dX7_voyages_9 rfl rfl rfl ?_
    refine m_callV_r (As := [_]) (q := 13) mk_X7_isNoHarbour dX7_voyages_10 wd_578 wd_580 wp_20 (ci := 7) rfl ⟨by decide, _, rfl⟩ (ev_X7_isNoHarbour _ _ _) rfl (by decide) rfl (Nat.zero_le _) (Nat.zero_le _) rfl ?_
    refine zb_eq (tgt := 19) (q := 16) dX7_voyages_13 (by decide) rfl (fun c2 => ?_) (fun c2 => ?_)
    · skip
      refine z_aload_n (i := 0) (q := 20) dX7_voyages_19 rfl rfl rfl ?_
      refine m_getR (r := 14) (q := 23) dX7_voyages_20 fl_X7_42 ⟨by decide, _, rfl, rfl⟩ rfl ?_
      refine m_getR (r := 16) (q := 26) dX7_voyages_23 fl_X7_150 ⟨by decide, _, rfl, rfl⟩ rfl ?_
      refine z_iload_n (i := 1) (q := 27) dX7_voyages_26 rfl rfl rfl ?_
      refine m_aald (kd := 5) (N := 4) (b := 25 + p) (q := 28) dX7_voyages_27 (by decide) (okPn (by decide) rfl (by omega) (by decide)) (nI_pos' (by omega)) rfl ?_
      refine z_astore_n (i := 3) (ls' := [_, _, _, _, _, _]) (q := 29) dX7_voyages_28 rfl (by decide) rfl rfl ?_
      refine z_iconst (v := 1) (q := 30) dX7_voyages_29 (by decide) rfl ?_
      refine z_aload_n (i := 3) (q := 31) dX7_voyages_30 rfl rfl rfl ?_
      refine m_getI (q := 34) dX7_voyages_31 fl_X7_154 ⟨(isLea_14.2.2.2.2.2.2 p (by omega)).1, _, (isLea_14.2.2.2.2.2.2 p (by omega)).2, rfl⟩ rfl ?_
      refine z_ishl (q := 35) dX7_voyages_34 rfl ?_
      refine z_istore (i := 4) (ls' := [_, _, _, _, _, _]) (q := 37) dX7_voyages_35 (by decide) rfl rfl ?_
      refine z_iconst (v := 0) (q := 38) dX7_voyages_37 (by decide) rfl ?_
      refine z_istore (i := 5) (ls' := [_, _, _, _, _, _]) (q := 40) dX7_voyages_38 (by decide) rfl rfl ?_
      exact lp_X7_voy d m p W hp z hW hW8 6 0 _ (by omega) (by omega)
    · contradiction
set_option maxHeartbeats 4000000 in
set_option maxRecDepth 100000 in
theorem ev_X7_soonest_bad (d : Nat) (m : zm) (p : Int32) (z : Int32) (g : Int32) (hb : (p < 0 ∨ m.1 14 3 - 1 < p) ∨ (z < 0 ∨ m.1 14 0 - 1 < z) ∨ (g < 0 ∨ 40 < g)) : zEv (d + 4) zM_X7_soonest 0 0 [.ref 0, .int p, .int z, .int g] (lay m) (some (.int (-1000001)), lay (m)) := by
  refine zEv_of (by decide) (fun G => Nat.le_of_ble_eq_true rfl) ?_
  show ZW _ _ _ _ 0 [some (.ref 0), some (.int p), some (.int z), some (.int g), none] [] _ _ _ _
  refine z_aload_n (i := 0) (q := 1) dX7_soonest_0 rfl rfl rfl ?_
  refine z_iload_n (i := 1) (q := 2) dX7_soonest_1 rfl rfl rfl ?_
  refine m_callV_r (As := [_]) (q := 5) mk_X7_isNobody dX7_soonest_2 wd_472 wd_474 wp_16 (ci := 7) rfl ⟨by decide, _, rfl⟩ (ev_X7_isNobody _ _ _) rfl (by decide) rfl (Nat.zero_le _) (Nat.zero_le _) rfl ?_
  refine zb_ne (tgt := 26) (q := 8) dX7_soonest_5 (by decide) rfl (fun c1 => ?_) (fun c1 => ?_)
  · skip
    refine z_ldc (q := 28) dX7_soonest_26 wd_279 rfl ?_
    refine z_ireturn dX7_soonest_28 rfl rfl ?_ (Nat.le_refl _) (Nat.le_refl _)
    rfl
  · skip
    refine z_aload_n (i := 0) (q := 9) dX7_soonest_8 rfl rfl rfl ?_
    refine z_iload_n (i := 2) (q := 10) dX7_soonest_9 rfl rfl rfl ?_
    refine m_callV_r (As := [_]) (q := 13) mk_X7_isNoHarbour dX7_soonest_10 wd_578 wd_580 wp_20 (ci := 7) rfl ⟨by decide, _, rfl⟩ (ev_X7_isNoHarbour _ _ _) rfl (by decide) rfl (Nat.zero_le _) (Nat.zero_le _) rfl ?_
    refine zb_ne (tgt := 26) (q := 16) dX7_soonest_13 (by decide) rfl (fun c2 => ?_) (fun c2 => ?_)
    · skip
      refine z_ldc (q := 28) dX7_soonest_26 wd_279 rfl ?_
      refine z_ireturn dX7_soonest_28 rfl rfl ?_ (Nat.le_refl _) (Nat.le_refl _)
      rfl
    · skip
      refine z_iload_n (i := 3) (q := 17) dX7_soonest_16 rfl rfl rfl ?_
      refine z_iconst (v := 0) (q := 18) dX7_soonest_17 (by decide) rfl ?_
      refine z_bipush (v := 40) (q := 20) dX7_soonest_18 (by decide) rfl ?_
      refine m_callS_r (As := [_, _, _]) (q := 23) mk_X7_isOutside dX7_soonest_20 wd_276 wd_277 (ev_X7_isOutside _ _ _ _ _) rfl (by decide) rfl (Nat.zero_le _) (Nat.zero_le _) rfl ?_
      refine zb_eq (tgt := 29) (q := 26) dX7_soonest_23 (by decide) rfl (fun c3 => ?_) (fun c3 => ?_)
      · exact absurd hb (fun q => q.elim c1 (fun q => q.elim c2 c3))
      · skip
        refine z_ldc (q := 28) dX7_soonest_26 wd_279 rfl ?_
        refine z_ireturn dX7_soonest_28 rfl rfl ?_ (Nat.le_refl _) (Nat.le_refl _)
        rfl
def cHas (m : zm) (a : Nat) (y z g : Int32) : Prop := ¬ (g < 0 ∨ 40 < g) ∧ ((cG m a y z).toUInt64 >>> (g.toInt64.toUInt64 &&& Int64.toUInt64 63)).toInt64 &&& 1 = 1
def cSoon (m : zm) (a : Nat) (z g : Int32) : Nat → Nat → Int32
  | 0, _ => -1000000
  | n + 1, y => if ¬ (g < 0 ∨ 40 < g) ∧ ((cG m a (nI y) z).toUInt64 >>> (g.toInt64.toUInt64 &&& Int64.toUInt64 63)).toInt64 &&& 1 = 1 then nI y else cSoon m a z g n (y + 1)
set_option maxHeartbeats 4000000 in
set_option maxRecDepth 100000 in
theorem lp_X7_soon (d : Nat) (m : zm) (p : Nat) (z g : Int32) : ∀ (n : Nat) (y : Nat), 41 - y < n → y ≤ 41 → ZW zM_X7_soonest (d + 4) 0 0 52 [some (.ref 0), some (.int (nI p)), some (.int z), some (.int g), some (.int (nI y))] [] (lay m) 0 0 (some (.int (cSoon m 144 z g (41 - y) y)), lay m) := by
  intro n
  induction n with
  | zero => intro y hm; exact absurd hm (by omega)
  | succ n ih =>
    intro y hm hy
    refine z_iload (i := 4) (q := 54) dX7_soonest_52 rfl rfl ?_
    refine z_bipush (v := 40) (q := 56) dX7_soonest_54 (by decide) rfl ?_
    refine z_icmp_gt (tgt := 82) (q := 59) dX7_soonest_56 (by decide) rfl (fun c1 => ?_) (fun c1 => ?_)
    · skip
      have hz := ge41 hy c1
      subst hz
      refine z_ldc (q := 84) dX7_soonest_82 wd_604 rfl ?_
      refine z_ireturn dX7_soonest_84 rfl rfl ?_ (Nat.le_refl _) (Nat.le_refl _)
      rfl
    · skip
      have hz := nge41 hy c1
      rw [show 41 - y = (41 - (y + 1)) + 1 by omega, cSoon]
      refine z_aload_n (i := 0) (q := 60) dX7_soonest_59 rfl rfl rfl ?_
      refine m_getR (r := 144) (q := 63) dX7_soonest_60 fl_X7_67 ⟨by decide, _, rfl, rfl⟩ rfl ?_
      refine z_iload (i := 4) (q := 65) dX7_soonest_63 rfl rfl ?_
      refine z_iload_n (i := 2) (q := 66) dX7_soonest_65 rfl rfl rfl ?_
      refine z_iload_n (i := 3) (q := 67) dX7_soonest_66 rfl rfl rfl ?_
      refine m_callV_r (As := [_, _, _]) (q := 70) mk_X2_hasGain dX7_soonest_67 wd_622 wd_623 wd_624 (ci := 2) rfl ⟨by decide, _, rfl⟩ (ev_X2_hasGain _ _ _ _ _ _ isFor_144) rfl (by decide) rfl (Nat.zero_le _) (Nat.zero_le _) rfl ?_
      refine zb_eq (tgt := 76) (q := 73) dX7_soonest_70 (by decide) rfl (fun c2 => ?_) (fun c2 => ?_)
      · skip
        refine z_iinc (i := 4) (ls' := [_, _, _, _, _]) (v := nI (y + 1)) (q := 79) dX7_soonest_76 rfl (nI_1 _) (by decide) rfl rfl ?_
        refine z_goto (tgt := 52) dX7_soonest_79 (by decide) ?_
        rw [if_neg c2]
        exact ih (y + 1) (by omega) (by omega)
      · skip
        refine z_iload (i := 4) (q := 75) dX7_soonest_73 rfl rfl ?_
        refine z_ireturn dX7_soonest_75 rfl rfl ?_ (Nat.le_refl _) (Nat.le_refl _)
        rw [if_pos c2]
set_option maxHeartbeats 4000000 in
set_option maxRecDepth 100000 in
theorem ev_X7_soonest (d : Nat) (m : zm) (W : Nat) (p : Nat) (z : Int32) (g : Int32) (hn : ¬ (nI p < 0 ∨ m.1 14 3 - 1 < nI p)) (hn2 : ¬ (z < 0 ∨ m.1 14 0 - 1 < z)) (h3 : ¬ (g < 0 ∨ 40 < g)) (hW : m.1 14 2 = nI W) (hW8 : W ≤ 8) (hwk : wOk m W) (hp : p < 4) : zEv (d + 4) zM_X7_soonest 0 0 [.ref 0, .int (nI p), .int z, .int g] (lay m) (some (.int (cSoon (cFore m 144 (25 + p) W) 144 z g 41 0)), lay (cFore m 144 (25 + p) W)) := by
  refine zEv_of (by decide) (fun G => Nat.le_of_ble_eq_true rfl) ?_
  show ZW _ _ _ _ 0 [some (.ref 0), some (.int (nI p)), some (.int z), some (.int g), none] [] _ _ _ _
  refine z_aload_n (i := 0) (q := 1) dX7_soonest_0 rfl rfl rfl ?_
  refine z_iload_n (i := 1) (q := 2) dX7_soonest_1 rfl rfl rfl ?_
  refine m_callV_r (As := [_]) (q := 5) mk_X7_isNobody dX7_soonest_2 wd_472 wd_474 wp_16 (ci := 7) rfl ⟨by decide, _, rfl⟩ (ev_X7_isNobody _ _ _) rfl (by decide) rfl (Nat.zero_le _) (Nat.zero_le _) rfl ?_
  refine zb_ne (tgt := 26) (q := 8) dX7_soonest_5 (by decide) rfl (fun c1 => ?_) (fun c1 => ?_)
  · contradiction
  · skip
    refine z_aload_n (i := 0) (q := 9) dX7_soonest_8 rfl rfl rfl ?_
    refine z_iload_n (i := 2) (q := 10) dX7_soonest_9 rfl rfl rfl ?_
    refine m_callV_r (As := [_]) (q := 13) mk_X7_isNoHarbour dX7_soonest_10 wd_578 wd_580 wp_20 (ci := 7) rfl ⟨by decide, _, rfl⟩ (ev_X7_isNoHarbour _ _ _) rfl (by decide) rfl (Nat.zero_le _) (Nat.zero_le _) rfl ?_
    refine zb_ne (tgt := 26) (q := 16) dX7_soonest_13 (by decide) rfl (fun c2 => ?_) (fun c2 => ?_)
    · contradiction
    · skip
      refine z_iload_n (i := 3) (q := 17) dX7_soonest_16 rfl rfl rfl ?_
      refine z_iconst (v := 0) (q := 18) dX7_soonest_17 (by decide) rfl ?_
      refine z_bipush (v := 40) (q := 20) dX7_soonest_18 (by decide) rfl ?_
      refine m_callS_r (As := [_, _, _]) (q := 23) mk_X7_isOutside dX7_soonest_20 wd_276 wd_277 (ev_X7_isOutside _ _ _ _ _) rfl (by decide) rfl (Nat.zero_le _) (Nat.zero_le _) rfl ?_
      refine zb_eq (tgt := 29) (q := 26) dX7_soonest_23 (by decide) rfl (fun c3 => ?_) (fun c3 => ?_)
      · skip
        refine z_aload_n (i := 0) (q := 30) dX7_soonest_29 rfl rfl rfl ?_
        refine m_getR (r := 144) (q := 33) dX7_soonest_30 fl_X7_67 ⟨by decide, _, rfl, rfl⟩ rfl ?_
        refine z_aload_n (i := 0) (q := 34) dX7_soonest_33 rfl rfl rfl ?_
        refine m_getR (r := 14) (q := 37) dX7_soonest_34 fl_X7_42 ⟨by decide, _, rfl, rfl⟩ rfl ?_
        refine z_aload_n (i := 0) (q := 38) dX7_soonest_37 rfl rfl rfl ?_
        refine m_getR (r := 14) (q := 41) dX7_soonest_38 fl_X7_42 ⟨by decide, _, rfl, rfl⟩ rfl ?_
        refine m_getR (r := 16) (q := 44) dX7_soonest_41 fl_X7_150 ⟨by decide, _, rfl, rfl⟩ rfl ?_
        refine z_iload_n (i := 1) (q := 45) dX7_soonest_44 rfl rfl rfl ?_
        refine m_aald (kd := 5) (N := 4) (b := 25 + p) (q := 46) dX7_soonest_45 (by decide) (okPn (by decide) rfl (by omega) (by decide)) (nI_pos' (by omega)) rfl ?_
        refine m_callV_v (As := [_, _]) (q := 49) mk_X2_foresee dX7_soonest_46 wd_582 wd_583 wd_584 (ci := 2) rfl ⟨by decide, _, rfl⟩ (ev_X2_foresee _ _ _ _ _ isFor_144 (isLea_14.2.2.2.2.2.2 p (by omega)) hW hW8 hwk) rfl (by decide) rfl (Nat.zero_le _) (Nat.zero_le _) rfl ?_
        refine z_iconst (v := 0) (q := 50) dX7_soonest_49 (by decide) rfl ?_
        refine z_istore (i := 4) (ls' := [_, _, _, _, _]) (q := 52) dX7_soonest_50 (by decide) rfl rfl ?_
        exact lp_X7_soon _ _ p z g 42 0 (by omega) (by omega)
      · contradiction
