/-! ===== the model: the eldest, images, kinds, asks, counts ===== -/
def mEldL (m : zm) (k : Nat) : Nat → Nat → Nat → Nat
  | 0, _, b => b
  | n + 1, i, b => mEldL m k n (i + 1) (if mOf m i k ≤ mOf m b k then b else i)
theorem nI_none {b : Nat} (h : b < 2 ^ 31) : ¬ nI b = -1000000 := fun e => nI_pos h (by rw [e]; decide)
set_option maxHeartbeats 4000000 in
set_option maxRecDepth 100000 in
theorem lp_X8_eld (d : Nat) (m : zm) (P k : Nat) (hP : m.1 184 3 = nI P) (hP4 : P ≤ 4) (hk : k < 8) (z : Int32) : ∀ (n : Nat) (i b : Nat), P - i < n → i ≤ P → b < 4 → ZW zM_X8_eldest (d + 1) 0 0 44 [some (.ref 180), some (.int z), some (.int (nI k)), some (.int (nI b)), some (.int (nI i))] [] (lay m) 0 0 (some (.int (nI (mEldL m k (P - i) i b))), lay m) := by
  intro n
  induction n with
  | zero => intro i b hm; exact absurd hm (by omega)
  | succ n ih =>
    intro i b hm hi hb
    refine z_iload (i := 4) (q := 46) dX8_eldest_44 rfl rfl ?_
    refine z_aload_n (i := 0) (q := 47) dX8_eldest_46 rfl rfl rfl ?_
    refine m_getR (r := 184) (q := 50) dX8_eldest_47 fl_X8_19 ⟨by decide, _, rfl, rfl⟩ rfl ?_
    refine z_iconst (v := 3) (q := 51) dX8_eldest_50 (by decide) rfl ?_
    refine m_ialdJ (N := 68) (q := 52) dX8_eldest_51 ⟨by decide, _, rfl⟩ (j := 3) (by decide) (vp_c (by decide)) rfl ?_
    rw [hP]
    refine z_icmp_ge (tgt := 90) (q := 55) dX8_eldest_52 (by decide) rfl (fun c1 => ?_) (fun c1 => ?_)
    · skip
      have hge : P ≤ i := (nI_leI (a := P) (b := i) (by omega) (by omega)).mp c1
      rw [show P - i = 0 by omega]
      refine z_iload_n (i := 3) (q := 91) dX8_eldest_90 rfl rfl rfl ?_
      refine z_ireturn dX8_eldest_91 rfl rfl ?_ (Nat.le_refl _) (Nat.le_refl _)
      rfl
    · skip
      have hlt : i < P := by
        rcases Nat.lt_or_ge i P with q | q
        · exact q
        · exact absurd ((nI_leI (a := P) (b := i) (by omega) (by omega)).mpr q) c1
      refine z_iload_n (i := 3) (q := 56) dX8_eldest_55 rfl rfl rfl ?_
      refine z_ldc (q := 58) dX8_eldest_56 wd_872 rfl ?_
      refine z_icmp_eq (tgt := 77) (q := 61) dX8_eldest_58 (by decide) rfl (fun c2 => ?_) (fun c2 => ?_)
      · exact absurd c2 (nI_none (by omega))
      · skip
        refine z_aload_n (i := 0) (q := 62) dX8_eldest_61 rfl rfl rfl ?_
        refine z_iload (i := 4) (q := 64) dX8_eldest_62 rfl rfl ?_
        refine z_iload_n (i := 2) (q := 65) dX8_eldest_64 rfl rfl rfl ?_
        refine m_callV_r (As := [_, _]) (q := 68) mk_X8_of dX8_eldest_65 wd_947 wd_949 wp_46 (ci := 8) rfl ⟨by decide, _, rfl⟩ (ev_X8_of _ _ i k (by omega) (by omega)) rfl (by decide) rfl (Nat.zero_le _) (Nat.zero_le _) rfl ?_
        refine z_aload_n (i := 0) (q := 69) dX8_eldest_68 rfl rfl rfl ?_
        refine z_iload_n (i := 3) (q := 70) dX8_eldest_69 rfl rfl rfl ?_
        refine z_iload_n (i := 2) (q := 71) dX8_eldest_70 rfl rfl rfl ?_
        refine m_callV_r (As := [_, _]) (q := 74) mk_X8_of dX8_eldest_71 wd_947 wd_949 wp_46 (ci := 8) rfl ⟨by decide, _, rfl⟩ (ev_X8_of _ _ b k (by omega) (by omega)) rfl (by simp [Value.category]) rfl (Nat.zero_le _) (Nat.zero_le _) rfl ?_
        refine z_icmp_le (tgt := 82) (q := 77) dX8_eldest_74 (by decide) rfl (fun c3 => ?_) (fun c3 => ?_)
        · skip
          refine z_iload_n (i := 3) (q := 83) dX8_eldest_82 rfl rfl rfl ?_
          refine z_istore_n (i := 3) (ls' := [_, _, _, _, _]) (q := 84) dX8_eldest_83 rfl (by decide) rfl rfl ?_
          refine z_iinc (i := 4) (ls' := [_, _, _, _, _]) (v := nI (i + 1)) (q := 87) dX8_eldest_84 rfl (nI_1 _) (by decide) rfl rfl ?_
          refine z_goto (tgt := 44) dX8_eldest_87 (by decide) ?_
          rw [show P - i = (P - (i + 1)) + 1 by omega, mEldL, show (if mOf m i k ≤ mOf m b k then b else i) = b from if_pos c3]
          exact ih (i + 1) b (by omega) (by omega) (by omega)
        · skip
          refine z_iload (i := 4) (q := 79) dX8_eldest_77 rfl rfl ?_
          refine z_goto (tgt := 83) dX8_eldest_79 (by decide) ?_
          refine z_istore_n (i := 3) (ls' := [_, _, _, _, _]) (q := 84) dX8_eldest_83 rfl (by decide) rfl rfl ?_
          refine z_iinc (i := 4) (ls' := [_, _, _, _, _]) (v := nI (i + 1)) (q := 87) dX8_eldest_84 rfl (nI_1 _) (by decide) rfl rfl ?_
          refine z_goto (tgt := 44) dX8_eldest_87 (by decide) ?_
          rw [show P - i = (P - (i + 1)) + 1 by omega, mEldL, show (if mOf m i k ≤ mOf m b k then b else i) = i from if_neg c3]
          exact ih (i + 1) i (by omega) (by omega) (by omega)
set_option maxHeartbeats 4000000 in
set_option maxRecDepth 100000 in
theorem ev_X8_eldest_state (d : Nat) (m : zm) (z : Int32) (hb : ¬ 0 < m.1 184 0) : zEv (d + 1) zM_X8_eldest 0 0 [.ref 180, .int z] (lay m) (some (.int (-1000002)), lay (mT m)) := by
  refine zEv_of (by decide) (fun G => Nat.le_of_ble_eq_true rfl) ?_
  show ZW _ _ _ _ 0 [some (.ref 180), some (.int z), none, none, none] [] _ _ _ _
  refine z_aload_n (i := 0) (q := 1) dX8_eldest_0 rfl rfl rfl ?_
  refine z_iconst (v := 0) (q := 2) dX8_eldest_1 (by decide) rfl ?_
  refine m_putI (q := 5) dX8_eldest_2 fp_X8_48 ⟨by decide, _, rfl, rfl⟩ ⟨rfl, rfl⟩ rfl ?_
  refine z_aload_n (i := 0) (q := 6) dX8_eldest_5 rfl rfl rfl ?_
  refine m_callV_r (As := []) (q := 9) mk_X8_isThere dX8_eldest_6 wd_1048 wd_1050 wp_56 (ci := 8) rfl ⟨by decide, _, rfl⟩ (ev_X8_isThere _ _) rfl (by decide) rfl (Nat.zero_le _) (Nat.zero_le _) rfl ?_
  refine zb_ne (tgt := 15) (q := 12) dX8_eldest_9 (by decide) rfl (fun c1 => ?_) (fun c1 => ?_)
  · exact absurd c1 hb
  · skip
    refine z_ldc (q := 14) dX8_eldest_12 wd_959 rfl ?_
    refine z_ireturn dX8_eldest_14 rfl rfl ?_ (Nat.le_refl _) (Nat.le_refl _)
    rfl
set_option maxHeartbeats 4000000 in
set_option maxRecDepth 100000 in
theorem ev_X8_eldest_bad (d : Nat) (m : zm) (z : Int32) (h0 : 0 < m.1 184 0) (hb : z < 0 ∨ 1 < z) : zEv (d + 1) zM_X8_eldest 0 0 [.ref 180, .int z] (lay m) (some (.int (-1000001)), lay (mT m)) := by
  refine zEv_of (by decide) (fun G => Nat.le_of_ble_eq_true rfl) ?_
  show ZW _ _ _ _ 0 [some (.ref 180), some (.int z), none, none, none] [] _ _ _ _
  refine z_aload_n (i := 0) (q := 1) dX8_eldest_0 rfl rfl rfl ?_
  refine z_iconst (v := 0) (q := 2) dX8_eldest_1 (by decide) rfl ?_
  refine m_putI (q := 5) dX8_eldest_2 fp_X8_48 ⟨by decide, _, rfl, rfl⟩ ⟨rfl, rfl⟩ rfl ?_
  refine z_aload_n (i := 0) (q := 6) dX8_eldest_5 rfl rfl rfl ?_
  refine m_callV_r (As := []) (q := 9) mk_X8_isThere dX8_eldest_6 wd_1048 wd_1050 wp_56 (ci := 8) rfl ⟨by decide, _, rfl⟩ (ev_X8_isThere _ _) rfl (by decide) rfl (Nat.zero_le _) (Nat.zero_le _) rfl ?_
  refine zb_ne (tgt := 15) (q := 12) dX8_eldest_9 (by decide) rfl (fun c1 => ?_) (fun c1 => ?_)
  · skip
    refine z_iload_n (i := 1) (q := 16) dX8_eldest_15 rfl rfl rfl ?_
    refine z_i2l (q := 17) dX8_eldest_16 rfl ?_
    refine z_lconst (v := 0) (q := 18) dX8_eldest_17 (by decide) rfl ?_
    refine z_lconst (v := 1) (q := 19) dX8_eldest_18 (by decide) rfl ?_
    refine m_callS_r (As := [_, _, _]) (q := 22) mk_X8_in dX8_eldest_19 wd_827 wd_828 (ev_X8_in _ _ _ (0) (1) (by decide) (by decide)) rfl (by decide) rfl (Nat.zero_le _) (Nat.zero_le _) rfl ?_
    refine zb_ne (tgt := 28) (q := 25) dX8_eldest_22 (by decide) rfl (fun c2 => ?_) (fun c2 => ?_)
    · exact absurd hb c2
    · skip
      refine z_ldc (q := 27) dX8_eldest_25 wd_831 rfl ?_
      refine z_ireturn dX8_eldest_27 rfl rfl ?_ (Nat.le_refl _) (Nat.le_refl _)
      rfl
  · exact absurd h0 c1
def mEldR (m : zm) (z : Int32) (P : Nat) : Int32 := if P = 0 then -1000000 else nI (mEldL m (if z = 0 then 4 else 2) (P - 1) 1 0)
set_option maxHeartbeats 4000000 in
set_option maxRecDepth 100000 in
theorem ev_X8_eldest (d : Nat) (m : zm) (P : Nat) (z : Int32) (h0 : 0 < m.1 184 0) (h1 : ¬ (z < 0 ∨ 1 < z)) (hP : m.1 184 3 = nI P) (hP4 : P ≤ 4) : zEv (d + 1) zM_X8_eldest 0 0 [.ref 180, .int z] (lay m) (some (.int (mEldR (mT m) z P)), lay (mT m)) := by
  refine zEv_of (by decide) (fun G => Nat.le_of_ble_eq_true rfl) ?_
  show ZW _ _ _ _ 0 [some (.ref 180), some (.int z), none, none, none] [] _ _ _ _
  refine z_aload_n (i := 0) (q := 1) dX8_eldest_0 rfl rfl rfl ?_
  refine z_iconst (v := 0) (q := 2) dX8_eldest_1 (by decide) rfl ?_
  refine m_putI (q := 5) dX8_eldest_2 fp_X8_48 ⟨by decide, _, rfl, rfl⟩ ⟨rfl, rfl⟩ rfl ?_
  refine z_aload_n (i := 0) (q := 6) dX8_eldest_5 rfl rfl rfl ?_
  refine m_callV_r (As := []) (q := 9) mk_X8_isThere dX8_eldest_6 wd_1048 wd_1050 wp_56 (ci := 8) rfl ⟨by decide, _, rfl⟩ (ev_X8_isThere _ _) rfl (by decide) rfl (Nat.zero_le _) (Nat.zero_le _) rfl ?_
  refine zb_ne (tgt := 15) (q := 12) dX8_eldest_9 (by decide) rfl (fun c1 => ?_) (fun c1 => ?_)
  · skip
    refine z_iload_n (i := 1) (q := 16) dX8_eldest_15 rfl rfl rfl ?_
    refine z_i2l (q := 17) dX8_eldest_16 rfl ?_
    refine z_lconst (v := 0) (q := 18) dX8_eldest_17 (by decide) rfl ?_
    refine z_lconst (v := 1) (q := 19) dX8_eldest_18 (by decide) rfl ?_
    refine m_callS_r (As := [_, _, _]) (q := 22) mk_X8_in dX8_eldest_19 wd_827 wd_828 (ev_X8_in _ _ _ (0) (1) (by decide) (by decide)) rfl (by decide) rfl (Nat.zero_le _) (Nat.zero_le _) rfl ?_
    refine zb_ne (tgt := 28) (q := 25) dX8_eldest_22 (by decide) rfl (fun c2 => ?_) (fun c2 => ?_)
    · skip
      refine z_iload_n (i := 1) (q := 29) dX8_eldest_28 rfl rfl rfl ?_
      refine z_if_ne (tgt := 36) (q := 32) dX8_eldest_29 (by decide) rfl (fun c3 => ?_) (fun c3 => ?_)
      · skip
        refine z_iconst (v := 2) (q := 37) dX8_eldest_36 (by decide) rfl ?_
        refine z_istore_n (i := 2) (ls' := [_, _, _, _, _]) (q := 38) dX8_eldest_37 rfl (by decide) rfl rfl ?_
        refine z_ldc (q := 40) dX8_eldest_38 wd_872 rfl ?_
        refine z_istore_n (i := 3) (ls' := [_, _, _, _, _]) (q := 41) dX8_eldest_40 rfl (by decide) rfl rfl ?_
        refine z_iconst (v := 0) (q := 42) dX8_eldest_41 (by decide) rfl ?_
        refine z_istore (i := 4) (ls' := [_, _, _, _, _]) (q := 44) dX8_eldest_42 (by decide) rfl rfl ?_
        refine z_iload (i := 4) (q := 46) dX8_eldest_44 rfl rfl ?_
        refine z_aload_n (i := 0) (q := 47) dX8_eldest_46 rfl rfl rfl ?_
        refine m_getR (r := 184) (q := 50) dX8_eldest_47 fl_X8_19 ⟨by decide, _, rfl, rfl⟩ rfl ?_
        refine z_iconst (v := 3) (q := 51) dX8_eldest_50 (by decide) rfl ?_
        refine m_ialdJ (N := 68) (q := 52) dX8_eldest_51 ⟨by decide, _, rfl⟩ (j := 3) (by decide) (vp_c (by decide)) rfl ?_
        rw [show (mT m).1 184 3 = nI P from hP]
        refine z_icmp_ge (tgt := 90) (q := 55) dX8_eldest_52 (by decide) rfl (fun c4 => ?_) (fun c4 => ?_)
        · skip
          have hge : P = 0 := by
            have := (nI_leI (a := P) (b := 0) (by omega) (by omega)).mp c4
            omega
          rw [show mEldR (mT m) z P = -1000000 from if_pos hge]
          refine z_iload_n (i := 3) (q := 91) dX8_eldest_90 rfl rfl rfl ?_
          refine z_ireturn dX8_eldest_91 rfl rfl ?_ (Nat.le_refl _) (Nat.le_refl _)
          rfl
        · skip
          have hlt : 0 < P := by
            rcases Nat.eq_zero_or_pos P with q | q
            · exact absurd (by rw [q]; decide) c4
            · exact q
          refine z_iload_n (i := 3) (q := 56) dX8_eldest_55 rfl rfl rfl ?_
          refine z_ldc (q := 58) dX8_eldest_56 wd_872 rfl ?_
          refine z_icmp_eq (tgt := 77) (q := 61) dX8_eldest_58 (by decide) rfl (fun c5 => ?_) (fun c5 => ?_)
          · skip
            refine z_iload (i := 4) (q := 79) dX8_eldest_77 rfl rfl ?_
            refine z_goto (tgt := 83) dX8_eldest_79 (by decide) ?_
            refine z_istore_n (i := 3) (ls' := [_, _, _, _, _]) (q := 84) dX8_eldest_83 rfl (by decide) rfl rfl ?_
            refine z_iinc (i := 4) (ls' := [_, _, _, _, _]) (v := 1) (q := 87) dX8_eldest_84 rfl (by decide) (by decide) rfl rfl ?_
            refine z_goto (tgt := 44) dX8_eldest_87 (by decide) ?_
            have e := lp_X8_eld d (mT m) P 2 hP hP4 (by decide) z (P + 1) 1 0 (by omega) (by omega) (by decide)
            rw [show mEldR (mT m) z P = nI (mEldL (mT m) 2 (P - 1) 1 0) from by unfold mEldR; rw [if_neg (by omega)]; simp only [if_neg c3]]
            exact e
          · exact absurd rfl c5
      · skip
        refine z_iconst (v := 4) (q := 33) dX8_eldest_32 (by decide) rfl ?_
        refine z_goto (tgt := 37) dX8_eldest_33 (by decide) ?_
        refine z_istore_n (i := 2) (ls' := [_, _, _, _, _]) (q := 38) dX8_eldest_37 rfl (by decide) rfl rfl ?_
        refine z_ldc (q := 40) dX8_eldest_38 wd_872 rfl ?_
        refine z_istore_n (i := 3) (ls' := [_, _, _, _, _]) (q := 41) dX8_eldest_40 rfl (by decide) rfl rfl ?_
        refine z_iconst (v := 0) (q := 42) dX8_eldest_41 (by decide) rfl ?_
        refine z_istore (i := 4) (ls' := [_, _, _, _, _]) (q := 44) dX8_eldest_42 (by decide) rfl rfl ?_
        refine z_iload (i := 4) (q := 46) dX8_eldest_44 rfl rfl ?_
        refine z_aload_n (i := 0) (q := 47) dX8_eldest_46 rfl rfl rfl ?_
        refine m_getR (r := 184) (q := 50) dX8_eldest_47 fl_X8_19 ⟨by decide, _, rfl, rfl⟩ rfl ?_
        refine z_iconst (v := 3) (q := 51) dX8_eldest_50 (by decide) rfl ?_
        refine m_ialdJ (N := 68) (q := 52) dX8_eldest_51 ⟨by decide, _, rfl⟩ (j := 3) (by decide) (vp_c (by decide)) rfl ?_
        rw [show (mT m).1 184 3 = nI P from hP]
        refine z_icmp_ge (tgt := 90) (q := 55) dX8_eldest_52 (by decide) rfl (fun c6 => ?_) (fun c6 => ?_)
        · skip
          have hge : P = 0 := by
            have := (nI_leI (a := P) (b := 0) (by omega) (by omega)).mp c6
            omega
          rw [show mEldR (mT m) z P = -1000000 from if_pos hge]
          refine z_iload_n (i := 3) (q := 91) dX8_eldest_90 rfl rfl rfl ?_
          refine z_ireturn dX8_eldest_91 rfl rfl ?_ (Nat.le_refl _) (Nat.le_refl _)
          rfl
        · skip
          have hlt : 0 < P := by
            rcases Nat.eq_zero_or_pos P with q | q
            · exact absurd (by rw [q]; decide) c6
            · exact q
          refine z_iload_n (i := 3) (q := 56) dX8_eldest_55 rfl rfl rfl ?_
          refine z_ldc (q := 58) dX8_eldest_56 wd_872 rfl ?_
          refine z_icmp_eq (tgt := 77) (q := 61) dX8_eldest_58 (by decide) rfl (fun c7 => ?_) (fun c7 => ?_)
          · skip
            refine z_iload (i := 4) (q := 79) dX8_eldest_77 rfl rfl ?_
            refine z_goto (tgt := 83) dX8_eldest_79 (by decide) ?_
            refine z_istore_n (i := 3) (ls' := [_, _, _, _, _]) (q := 84) dX8_eldest_83 rfl (by decide) rfl rfl ?_
            refine z_iinc (i := 4) (ls' := [_, _, _, _, _]) (v := 1) (q := 87) dX8_eldest_84 rfl (by decide) (by decide) rfl rfl ?_
            refine z_goto (tgt := 44) dX8_eldest_87 (by decide) ?_
            have e := lp_X8_eld d (mT m) P 4 hP hP4 (by decide) z (P + 1) 1 0 (by omega) (by omega) (by decide)
            rw [show mEldR (mT m) z P = nI (mEldL (mT m) 4 (P - 1) 1 0) from by unfold mEldR; rw [if_neg (by omega)]; simp only [if_pos c3]]
            exact e
          · exact absurd rfl c7
    · exact absurd h1 c2
  · exact absurd h0 c1
def mImg (m : zm) (k : Nat) : zm := upI (mMv m 191 (68 * k) 184 0 68) 190 k 1
def mRest (m : zm) (k : Nat) : zm := upI (mMv m 184 0 191 (68 * k) 68) 180 8 0
set_option maxHeartbeats 4000000 in
set_option maxRecDepth 100000 in
theorem lp_X8_img (d : Nat) (m : zm) (k : Nat) (hk : k < 2) : ∀ (n : Nat) (i : Nat), 68 - i < n → i ≤ 68 → ZW zM_X8_image (d + 1) 0 0 30 [some (.ref 180), some (.int (nI k)), some (.int (nI i))] [] (lay (mMv m 191 (68 * k) 184 0 i)) 0 0 (some (.int 1), lay (mImg m k)) := by
  intro n
  induction n with
  | zero => intro i hm; exact absurd hm (by omega)
  | succ n ih =>
    intro i hm hi
    refine z_iload_n (i := 2) (q := 31) dX8_image_30 rfl rfl rfl ?_
    refine z_bipush (v := 68) (q := 33) dX8_image_31 (by decide) rfl ?_
    refine z_icmp_ge (tgt := 59) (q := 36) dX8_image_33 (by decide) rfl (fun c1 => ?_) (fun c1 => ?_)
    · skip
      have hge : 68 ≤ i := (nI_leI (a := 68) (b := i) (by omega) (by omega)).mp c1
      have hi8 : i = 68 := by omega
      subst hi8
      refine z_aload_n (i := 0) (q := 60) dX8_image_59 rfl rfl rfl ?_
      refine m_getR (r := 190) (q := 63) dX8_image_60 fl_X8_38 ⟨by decide, _, rfl, rfl⟩ rfl ?_
      refine z_iload_n (i := 1) (q := 64) dX8_image_63 rfl rfl rfl ?_
      refine z_iconst (v := 1) (q := 65) dX8_image_64 (by decide) rfl ?_
      refine m_zastJ (N := 2) (q := 66) dX8_image_65 ⟨by decide, _, rfl⟩ (j := k) (nI_clamp (by omega)) (vp_in_nI (by omega) (by decide)) rfl ?_
      refine z_iconst (v := 1) (q := 67) dX8_image_66 (by decide) rfl ?_
      refine z_ireturn dX8_image_67 rfl rfl ?_ (Nat.le_refl _) (Nat.le_refl _)
      rfl
    · skip
      have hlt : i < 68 := by
        rcases Nat.lt_or_ge i 68 with q | q
        · exact q
        · exact absurd ((nI_leI (a := 68) (b := i) (by omega) (by omega)).mpr q) c1
      refine z_aload_n (i := 0) (q := 37) dX8_image_36 rfl rfl rfl ?_
      refine m_getR (r := 191) (q := 40) dX8_image_37 fl_X8_42 ⟨by decide, _, rfl, rfl⟩ rfl ?_
      refine z_bipush (v := 68) (q := 42) dX8_image_40 (by decide) rfl ?_
      refine z_iload_n (i := 1) (q := 43) dX8_image_42 rfl rfl rfl ?_
      refine z_imul (q := 44) dX8_image_43 rfl ?_
      rw [show 68 * nI k = nI (68 * k) from nI_mul 68 _]
      refine z_iload_n (i := 2) (q := 45) dX8_image_44 rfl rfl rfl ?_
      refine z_iadd (q := 46) dX8_image_45 rfl ?_
      rw [show nI (68 * k) + nI i = nI ((68 * k) + i) from nI_add _ _]
      refine z_aload_n (i := 0) (q := 47) dX8_image_46 rfl rfl rfl ?_
      refine m_getR (r := 184) (q := 50) dX8_image_47 fl_X8_19 ⟨by decide, _, rfl, rfl⟩ rfl ?_
      refine z_iload_n (i := 2) (q := 51) dX8_image_50 rfl rfl rfl ?_
      refine m_ialdJ (N := 68) (q := 52) dX8_image_51 ⟨by decide, _, rfl⟩ (j := i) (nI_clamp (by omega)) (vp_in_nI (by omega) (by decide)) rfl ?_
      refine m_iastJ (N := 136) (q := 53) dX8_image_52 ⟨by decide, _, rfl⟩ (j := ((68 * k) + i)) (nI_clamp (by omega)) (vp_in_nI (by omega) (by decide)) rfl ?_
      refine z_iinc (i := 2) (ls' := [_, _, _]) (v := nI (i + 1)) (q := 56) dX8_image_53 rfl (nI_1 _) (by decide) rfl rfl ?_
      refine z_goto (tgt := 30) dX8_image_56 (by decide) ?_
      rw [mMv_s0 (by decide)]
      exact ih (i + 1) (by omega) (by omega)
set_option maxHeartbeats 4000000 in
set_option maxRecDepth 100000 in
theorem lp_X8_res (d : Nat) (m : zm) (k : Nat) (hk : k < 2) : ∀ (n : Nat) (i : Nat), 68 - i < n → i ≤ 68 → ZW zM_X8_restore (d + 1) 0 0 32 [some (.ref 180), some (.int (nI k)), some (.int (nI i))] [] (lay (mMv m 184 0 191 (68 * k) i)) 0 0 (some (.int 1), lay (mRest m k)) := by
  intro n
  induction n with
  | zero => intro i hm; exact absurd hm (by omega)
  | succ n ih =>
    intro i hm hi
    refine z_iload_n (i := 2) (q := 33) dX8_restore_32 rfl rfl rfl ?_
    refine z_bipush (v := 68) (q := 35) dX8_restore_33 (by decide) rfl ?_
    refine z_icmp_ge (tgt := 61) (q := 38) dX8_restore_35 (by decide) rfl (fun c1 => ?_) (fun c1 => ?_)
    · skip
      have hge : 68 ≤ i := (nI_leI (a := 68) (b := i) (by omega) (by omega)).mp c1
      have hi8 : i = 68 := by omega
      subst hi8
      refine z_aload_n (i := 0) (q := 62) dX8_restore_61 rfl rfl rfl ?_
      refine z_iconst (v := 0) (q := 63) dX8_restore_62 (by decide) rfl ?_
      refine m_putI (q := 66) dX8_restore_63 fp_X8_175 ⟨by decide, _, rfl, rfl⟩ ⟨rfl, rfl⟩ rfl ?_
      refine z_iconst (v := 1) (q := 67) dX8_restore_66 (by decide) rfl ?_
      refine z_ireturn dX8_restore_67 rfl rfl ?_ (Nat.le_refl _) (Nat.le_refl _)
      rfl
    · skip
      have hlt : i < 68 := by
        rcases Nat.lt_or_ge i 68 with q | q
        · exact q
        · exact absurd ((nI_leI (a := 68) (b := i) (by omega) (by omega)).mpr q) c1
      refine z_aload_n (i := 0) (q := 39) dX8_restore_38 rfl rfl rfl ?_
      refine m_getR (r := 184) (q := 42) dX8_restore_39 fl_X8_19 ⟨by decide, _, rfl, rfl⟩ rfl ?_
      refine z_iload_n (i := 2) (q := 43) dX8_restore_42 rfl rfl rfl ?_
      refine z_aload_n (i := 0) (q := 44) dX8_restore_43 rfl rfl rfl ?_
      refine m_getR (r := 191) (q := 47) dX8_restore_44 fl_X8_42 ⟨by decide, _, rfl, rfl⟩ rfl ?_
      refine z_bipush (v := 68) (q := 49) dX8_restore_47 (by decide) rfl ?_
      refine z_iload_n (i := 1) (q := 50) dX8_restore_49 rfl rfl rfl ?_
      refine z_imul (q := 51) dX8_restore_50 rfl ?_
      rw [show 68 * nI k = nI (68 * k) from nI_mul 68 _]
      refine z_iload_n (i := 2) (q := 52) dX8_restore_51 rfl rfl rfl ?_
      refine z_iadd (q := 53) dX8_restore_52 rfl ?_
      rw [show nI (68 * k) + nI i = nI ((68 * k) + i) from nI_add _ _]
      refine m_ialdJ (N := 136) (q := 54) dX8_restore_53 ⟨by decide, _, rfl⟩ (j := ((68 * k) + i)) (nI_clamp (by omega)) (vp_in_nI (by omega) (by decide)) rfl ?_
      refine m_iastJ (N := 68) (q := 55) dX8_restore_54 ⟨by decide, _, rfl⟩ (j := i) (nI_clamp (by omega)) (vp_in_nI (by omega) (by decide)) rfl ?_
      refine z_iinc (i := 2) (ls' := [_, _, _]) (v := nI (i + 1)) (q := 58) dX8_restore_55 rfl (nI_1 _) (by decide) rfl rfl ?_
      refine z_goto (tgt := 32) dX8_restore_58 (by decide) ?_
      rw [mMv_d0 (by decide)]
      exact ih (i + 1) (by omega) (by omega)
set_option maxHeartbeats 4000000 in
set_option maxRecDepth 100000 in
theorem ev_X8_image_bad (d : Nat) (m : zm) (z : Int32) (hb : z < 0 ∨ 1 < z) : zEv (d + 1) zM_X8_image 0 0 [.ref 180, .int z] (lay m) (some (.int (-1000001)), lay (mT m)) := by
  refine zEv_of (by decide) (fun G => Nat.le_of_ble_eq_true rfl) ?_
  show ZW _ _ _ _ 0 [some (.ref 180), some (.int z), none] [] _ _ _ _
  refine z_aload_n (i := 0) (q := 1) dX8_image_0 rfl rfl rfl ?_
  refine z_iconst (v := 0) (q := 2) dX8_image_1 (by decide) rfl ?_
  refine m_putI (q := 5) dX8_image_2 fp_X8_48 ⟨by decide, _, rfl, rfl⟩ ⟨rfl, rfl⟩ rfl ?_
  refine z_iload_n (i := 1) (q := 6) dX8_image_5 rfl rfl rfl ?_
  refine z_i2l (q := 7) dX8_image_6 rfl ?_
  refine z_lconst (v := 0) (q := 8) dX8_image_7 (by decide) rfl ?_
  refine z_lconst (v := 1) (q := 9) dX8_image_8 (by decide) rfl ?_
  refine m_callS_r (As := [_, _, _]) (q := 12) mk_X8_in dX8_image_9 wd_827 wd_828 (ev_X8_in _ _ _ (0) (1) (by decide) (by decide)) rfl (by decide) rfl (Nat.zero_le _) (Nat.zero_le _) rfl ?_
  refine zb_ne (tgt := 18) (q := 15) dX8_image_12 (by decide) rfl (fun c1 => ?_) (fun c1 => ?_)
  · exact absurd hb c1
  · skip
    refine z_ldc (q := 17) dX8_image_15 wd_831 rfl ?_
    refine z_ireturn dX8_image_17 rfl rfl ?_ (Nat.le_refl _) (Nat.le_refl _)
    rfl
set_option maxHeartbeats 4000000 in
set_option maxRecDepth 100000 in
theorem ev_X8_image_state (d : Nat) (m : zm) (k : Nat) (h0 : ¬ 0 < m.1 184 0) (hk : k < 2) : zEv (d + 1) zM_X8_image 0 0 [.ref 180, .int (nI k)] (lay m) (some (.int (-1000002)), lay (mT m)) := by
  refine zEv_of (by decide) (fun G => Nat.le_of_ble_eq_true rfl) ?_
  show ZW _ _ _ _ 0 [some (.ref 180), some (.int (nI k)), none] [] _ _ _ _
  have hk1 : ¬ (nI k < 0 ∨ 1 < nI k) := by
    rintro (q | q)
    · exact nI_pos (by omega) q
    · exact nI_nlt (a := 1) (b := k) (by omega) (by omega) q
  refine z_aload_n (i := 0) (q := 1) dX8_image_0 rfl rfl rfl ?_
  refine z_iconst (v := 0) (q := 2) dX8_image_1 (by decide) rfl ?_
  refine m_putI (q := 5) dX8_image_2 fp_X8_48 ⟨by decide, _, rfl, rfl⟩ ⟨rfl, rfl⟩ rfl ?_
  refine z_iload_n (i := 1) (q := 6) dX8_image_5 rfl rfl rfl ?_
  refine z_i2l (q := 7) dX8_image_6 rfl ?_
  refine z_lconst (v := 0) (q := 8) dX8_image_7 (by decide) rfl ?_
  refine z_lconst (v := 1) (q := 9) dX8_image_8 (by decide) rfl ?_
  refine m_callS_r (As := [_, _, _]) (q := 12) mk_X8_in dX8_image_9 wd_827 wd_828 (ev_X8_in _ _ _ (0) (1) (by decide) (by decide)) rfl (by decide) rfl (Nat.zero_le _) (Nat.zero_le _) rfl ?_
  refine zb_ne (tgt := 18) (q := 15) dX8_image_12 (by decide) rfl (fun c1 => ?_) (fun c1 => ?_)
  · skip
    refine z_aload_n (i := 0) (q := 19) dX8_image_18 rfl rfl rfl ?_
    refine m_callV_r (As := []) (q := 22) mk_X8_isThere dX8_image_19 wd_1048 wd_1050 wp_56 (ci := 8) rfl ⟨by decide, _, rfl⟩ (ev_X8_isThere _ _) rfl (by decide) rfl (Nat.zero_le _) (Nat.zero_le _) rfl ?_
    refine zb_ne (tgt := 28) (q := 25) dX8_image_22 (by decide) rfl (fun c2 => ?_) (fun c2 => ?_)
    · exact absurd c2 h0
    · skip
      refine z_ldc (q := 27) dX8_image_25 wd_959 rfl ?_
      refine z_ireturn dX8_image_27 rfl rfl ?_ (Nat.le_refl _) (Nat.le_refl _)
      rfl
  · exact absurd hk1 c1
set_option maxHeartbeats 4000000 in
set_option maxRecDepth 100000 in
theorem ev_X8_image (d : Nat) (m : zm) (k : Nat) (h0 : 0 < m.1 184 0) (hk : k < 2) : zEv (d + 1) zM_X8_image 0 0 [.ref 180, .int (nI k)] (lay m) (some (.int (1)), lay (mImg (mT m) k)) := by
  refine zEv_of (by decide) (fun G => Nat.le_of_ble_eq_true rfl) ?_
  show ZW _ _ _ _ 0 [some (.ref 180), some (.int (nI k)), none] [] _ _ _ _
  have hk1 : ¬ (nI k < 0 ∨ 1 < nI k) := by
    rintro (q | q)
    · exact nI_pos (by omega) q
    · exact nI_nlt (a := 1) (b := k) (by omega) (by omega) q
  refine z_aload_n (i := 0) (q := 1) dX8_image_0 rfl rfl rfl ?_
  refine z_iconst (v := 0) (q := 2) dX8_image_1 (by decide) rfl ?_
  refine m_putI (q := 5) dX8_image_2 fp_X8_48 ⟨by decide, _, rfl, rfl⟩ ⟨rfl, rfl⟩ rfl ?_
  refine z_iload_n (i := 1) (q := 6) dX8_image_5 rfl rfl rfl ?_
  refine z_i2l (q := 7) dX8_image_6 rfl ?_
  refine z_lconst (v := 0) (q := 8) dX8_image_7 (by decide) rfl ?_
  refine z_lconst (v := 1) (q := 9) dX8_image_8 (by decide) rfl ?_
  refine m_callS_r (As := [_, _, _]) (q := 12) mk_X8_in dX8_image_9 wd_827 wd_828 (ev_X8_in _ _ _ (0) (1) (by decide) (by decide)) rfl (by decide) rfl (Nat.zero_le _) (Nat.zero_le _) rfl ?_
  refine zb_ne (tgt := 18) (q := 15) dX8_image_12 (by decide) rfl (fun c1 => ?_) (fun c1 => ?_)
  · skip
    refine z_aload_n (i := 0) (q := 19) dX8_image_18 rfl rfl rfl ?_
    refine m_callV_r (As := []) (q := 22) mk_X8_isThere dX8_image_19 wd_1048 wd_1050 wp_56 (ci := 8) rfl ⟨by decide, _, rfl⟩ (ev_X8_isThere _ _) rfl (by decide) rfl (Nat.zero_le _) (Nat.zero_le _) rfl ?_
    refine zb_ne (tgt := 28) (q := 25) dX8_image_22 (by decide) rfl (fun c2 => ?_) (fun c2 => ?_)
    · skip
      refine z_iconst (v := 0) (q := 29) dX8_image_28 (by decide) rfl ?_
      refine z_istore_n (i := 2) (ls' := [_, _, _]) (q := 30) dX8_image_29 rfl (by decide) rfl rfl ?_
      have e := lp_X8_img d (mT m) k hk (68 + 1) 0 (by omega) (by omega)
      rw [mMv_0] at e
      exact e
    · exact absurd h0 c2
  · exact absurd hk1 c1
set_option maxHeartbeats 4000000 in
set_option maxRecDepth 100000 in
theorem ev_X8_restore_bad (d : Nat) (m : zm) (z : Int32) (hb : z < 0 ∨ 1 < z) : zEv (d + 1) zM_X8_restore 0 0 [.ref 180, .int z] (lay m) (some (.int (-1000001)), lay (mT m)) := by
  refine zEv_of (by decide) (fun G => Nat.le_of_ble_eq_true rfl) ?_
  show ZW _ _ _ _ 0 [some (.ref 180), some (.int z), none] [] _ _ _ _
  refine z_aload_n (i := 0) (q := 1) dX8_restore_0 rfl rfl rfl ?_
  refine z_iconst (v := 0) (q := 2) dX8_restore_1 (by decide) rfl ?_
  refine m_putI (q := 5) dX8_restore_2 fp_X8_48 ⟨by decide, _, rfl, rfl⟩ ⟨rfl, rfl⟩ rfl ?_
  refine z_iload_n (i := 1) (q := 6) dX8_restore_5 rfl rfl rfl ?_
  refine z_i2l (q := 7) dX8_restore_6 rfl ?_
  refine z_lconst (v := 0) (q := 8) dX8_restore_7 (by decide) rfl ?_
  refine z_lconst (v := 1) (q := 9) dX8_restore_8 (by decide) rfl ?_
  refine m_callS_r (As := [_, _, _]) (q := 12) mk_X8_in dX8_restore_9 wd_827 wd_828 (ev_X8_in _ _ _ (0) (1) (by decide) (by decide)) rfl (by decide) rfl (Nat.zero_le _) (Nat.zero_le _) rfl ?_
  refine zb_ne (tgt := 18) (q := 15) dX8_restore_12 (by decide) rfl (fun c1 => ?_) (fun c1 => ?_)
  · exact absurd hb c1
  · skip
    refine z_ldc (q := 17) dX8_restore_15 wd_831 rfl ?_
    refine z_ireturn dX8_restore_17 rfl rfl ?_ (Nat.le_refl _) (Nat.le_refl _)
    rfl
set_option maxHeartbeats 4000000 in
set_option maxRecDepth 100000 in
theorem ev_X8_restore_state (d : Nat) (m : zm) (k : Nat) (h0 : m.1 190 k = 0) (hk : k < 2) : zEv (d + 1) zM_X8_restore 0 0 [.ref 180, .int (nI k)] (lay m) (some (.int (-1000002)), lay (mT m)) := by
  refine zEv_of (by decide) (fun G => Nat.le_of_ble_eq_true rfl) ?_
  show ZW _ _ _ _ 0 [some (.ref 180), some (.int (nI k)), none] [] _ _ _ _
  have hk1 : ¬ (nI k < 0 ∨ 1 < nI k) := by
    rintro (q | q)
    · exact nI_pos (by omega) q
    · exact nI_nlt (a := 1) (b := k) (by omega) (by omega) q
  refine z_aload_n (i := 0) (q := 1) dX8_restore_0 rfl rfl rfl ?_
  refine z_iconst (v := 0) (q := 2) dX8_restore_1 (by decide) rfl ?_
  refine m_putI (q := 5) dX8_restore_2 fp_X8_48 ⟨by decide, _, rfl, rfl⟩ ⟨rfl, rfl⟩ rfl ?_
  refine z_iload_n (i := 1) (q := 6) dX8_restore_5 rfl rfl rfl ?_
  refine z_i2l (q := 7) dX8_restore_6 rfl ?_
  refine z_lconst (v := 0) (q := 8) dX8_restore_7 (by decide) rfl ?_
  refine z_lconst (v := 1) (q := 9) dX8_restore_8 (by decide) rfl ?_
  refine m_callS_r (As := [_, _, _]) (q := 12) mk_X8_in dX8_restore_9 wd_827 wd_828 (ev_X8_in _ _ _ (0) (1) (by decide) (by decide)) rfl (by decide) rfl (Nat.zero_le _) (Nat.zero_le _) rfl ?_
  refine zb_ne (tgt := 18) (q := 15) dX8_restore_12 (by decide) rfl (fun c1 => ?_) (fun c1 => ?_)
  · skip
    refine z_aload_n (i := 0) (q := 19) dX8_restore_18 rfl rfl rfl ?_
    refine m_getR (r := 190) (q := 22) dX8_restore_19 fl_X8_38 ⟨by decide, _, rfl, rfl⟩ rfl ?_
    refine z_iload_n (i := 1) (q := 23) dX8_restore_22 rfl rfl rfl ?_
    refine m_zaldJ (N := 2) (q := 24) dX8_restore_23 ⟨by decide, _, rfl⟩ (j := k) (nI_clamp (by omega)) (vp_in_nI (by omega) (by decide)) rfl ?_
    refine z_if_ne (tgt := 30) (q := 27) dX8_restore_24 (by decide) rfl (fun c2 => ?_) (fun c2 => ?_)
    · exact absurd h0 c2
    · skip
      refine z_ldc (q := 29) dX8_restore_27 wd_959 rfl ?_
      refine z_ireturn dX8_restore_29 rfl rfl ?_ (Nat.le_refl _) (Nat.le_refl _)
      rfl
  · exact absurd hk1 c1
set_option maxHeartbeats 4000000 in
set_option maxRecDepth 100000 in
theorem ev_X8_restore (d : Nat) (m : zm) (k : Nat) (h0 : ¬ m.1 190 k = 0) (hk : k < 2) : zEv (d + 1) zM_X8_restore 0 0 [.ref 180, .int (nI k)] (lay m) (some (.int (1)), lay (mRest (mT m) k)) := by
  refine zEv_of (by decide) (fun G => Nat.le_of_ble_eq_true rfl) ?_
  show ZW _ _ _ _ 0 [some (.ref 180), some (.int (nI k)), none] [] _ _ _ _
  have hk1 : ¬ (nI k < 0 ∨ 1 < nI k) := by
    rintro (q | q)
    · exact nI_pos (by omega) q
    · exact nI_nlt (a := 1) (b := k) (by omega) (by omega) q
  refine z_aload_n (i := 0) (q := 1) dX8_restore_0 rfl rfl rfl ?_
  refine z_iconst (v := 0) (q := 2) dX8_restore_1 (by decide) rfl ?_
  refine m_putI (q := 5) dX8_restore_2 fp_X8_48 ⟨by decide, _, rfl, rfl⟩ ⟨rfl, rfl⟩ rfl ?_
  refine z_iload_n (i := 1) (q := 6) dX8_restore_5 rfl rfl rfl ?_
  refine z_i2l (q := 7) dX8_restore_6 rfl ?_
  refine z_lconst (v := 0) (q := 8) dX8_restore_7 (by decide) rfl ?_
  refine z_lconst (v := 1) (q := 9) dX8_restore_8 (by decide) rfl ?_
  refine m_callS_r (As := [_, _, _]) (q := 12) mk_X8_in dX8_restore_9 wd_827 wd_828 (ev_X8_in _ _ _ (0) (1) (by decide) (by decide)) rfl (by decide) rfl (Nat.zero_le _) (Nat.zero_le _) rfl ?_
  refine zb_ne (tgt := 18) (q := 15) dX8_restore_12 (by decide) rfl (fun c1 => ?_) (fun c1 => ?_)
  · skip
    refine z_aload_n (i := 0) (q := 19) dX8_restore_18 rfl rfl rfl ?_
    refine m_getR (r := 190) (q := 22) dX8_restore_19 fl_X8_38 ⟨by decide, _, rfl, rfl⟩ rfl ?_
    refine z_iload_n (i := 1) (q := 23) dX8_restore_22 rfl rfl rfl ?_
    refine m_zaldJ (N := 2) (q := 24) dX8_restore_23 ⟨by decide, _, rfl⟩ (j := k) (nI_clamp (by omega)) (vp_in_nI (by omega) (by decide)) rfl ?_
    refine z_if_ne (tgt := 30) (q := 27) dX8_restore_24 (by decide) rfl (fun c2 => ?_) (fun c2 => ?_)
    · skip
      refine z_iconst (v := 0) (q := 31) dX8_restore_30 (by decide) rfl ?_
      refine z_istore_n (i := 2) (ls' := [_, _, _]) (q := 32) dX8_restore_31 rfl (by decide) rfl rfl ?_
      have e := lp_X8_res d (mT m) k hk (68 + 1) 0 (by omega) (by omega)
      rw [mMv_0] at e
      exact e
    · exact absurd c2 h0
  · exact absurd hk1 c1
abbrev mIs (s z : Int32) : Prop := z = 0 ∨ s = z ∨ (z = 1 ∧ s < 4) ∨ (z = 4 ∧ s = 5)
set_option maxHeartbeats 4000000 in
set_option maxRecDepth 100000 in
theorem ev_X8_isOf (d : Nat) (h : zH) (s : Int32) (z : Int32) : zEv (d) zM_X8_isOf 0 0 [.int s, .int z] (h) (some (.int (if mIs s z then 1 else 0)), h) := by
  refine zEv_of (by decide) (fun G => Nat.le_of_ble_eq_true rfl) ?_
  show ZW _ _ _ _ 0 [some (.int s), some (.int z)] [] _ _ _ _
  refine z_iload_n (i := 1) (q := 1) dX8_isOf_0 rfl rfl rfl ?_
  refine z_if_eq (tgt := 29) (q := 4) dX8_isOf_1 (by decide) rfl (fun c1 => ?_) (fun c1 => ?_)
  · skip
    refine z_iconst (v := 1) (q := 30) dX8_isOf_29 (by decide) rfl ?_
    refine z_goto (tgt := 34) dX8_isOf_30 (by decide) ?_
    refine z_ireturn dX8_isOf_34 rfl rfl ?_ (Nat.le_refl _) (Nat.le_refl _)
    rw [if_pos (show mIs s z from by first | exact Or.inl (by assumption) | exact Or.inr (Or.inl (by assumption)) | exact Or.inr (Or.inr (Or.inl ⟨by assumption, by assumption⟩)) | exact Or.inr (Or.inr (Or.inr ⟨by assumption, by assumption⟩)))]
  · skip
    refine z_iload_n (i := 0) (q := 5) dX8_isOf_4 rfl rfl rfl ?_
    refine z_iload_n (i := 1) (q := 6) dX8_isOf_5 rfl rfl rfl ?_
    refine z_icmp_eq (tgt := 29) (q := 9) dX8_isOf_6 (by decide) rfl (fun c2 => ?_) (fun c2 => ?_)
    · skip
      refine z_iconst (v := 1) (q := 30) dX8_isOf_29 (by decide) rfl ?_
      refine z_goto (tgt := 34) dX8_isOf_30 (by decide) ?_
      refine z_ireturn dX8_isOf_34 rfl rfl ?_ (Nat.le_refl _) (Nat.le_refl _)
      rw [if_pos (show mIs s z from by first | exact Or.inl (by assumption) | exact Or.inr (Or.inl (by assumption)) | exact Or.inr (Or.inr (Or.inl ⟨by assumption, by assumption⟩)) | exact Or.inr (Or.inr (Or.inr ⟨by assumption, by assumption⟩)))]
    · skip
      refine z_iload_n (i := 1) (q := 10) dX8_isOf_9 rfl rfl rfl ?_
      refine z_iconst (v := 1) (q := 11) dX8_isOf_10 (by decide) rfl ?_
      refine z_icmp_ne (tgt := 19) (q := 14) dX8_isOf_11 (by decide) rfl (fun c3 => ?_) (fun c3 => ?_)
      · skip
        refine z_iload_n (i := 1) (q := 20) dX8_isOf_19 rfl rfl rfl ?_
        refine z_iconst (v := 4) (q := 21) dX8_isOf_20 (by decide) rfl ?_
        refine z_icmp_ne (tgt := 33) (q := 24) dX8_isOf_21 (by decide) rfl (fun c4 => ?_) (fun c4 => ?_)
        · skip
          refine z_iconst (v := 0) (q := 34) dX8_isOf_33 (by decide) rfl ?_
          refine z_ireturn dX8_isOf_34 rfl rfl ?_ (Nat.le_refl _) (Nat.le_refl _)
          rw [if_neg (show ¬ mIs s z from by rintro (q | q | ⟨q, r⟩ | ⟨q, r⟩) <;> contradiction)]
        · skip
          refine z_iload_n (i := 0) (q := 25) dX8_isOf_24 rfl rfl rfl ?_
          refine z_iconst (v := 5) (q := 26) dX8_isOf_25 (by decide) rfl ?_
          refine z_icmp_ne (tgt := 33) (q := 29) dX8_isOf_26 (by decide) rfl (fun c5 => ?_) (fun c5 => ?_)
          · skip
            refine z_iconst (v := 0) (q := 34) dX8_isOf_33 (by decide) rfl ?_
            refine z_ireturn dX8_isOf_34 rfl rfl ?_ (Nat.le_refl _) (Nat.le_refl _)
            rw [if_neg (show ¬ mIs s z from by rintro (q | q | ⟨q, r⟩ | ⟨q, r⟩) <;> contradiction)]
          · skip
            refine z_iconst (v := 1) (q := 30) dX8_isOf_29 (by decide) rfl ?_
            refine z_goto (tgt := 34) dX8_isOf_30 (by decide) ?_
            refine z_ireturn dX8_isOf_34 rfl rfl ?_ (Nat.le_refl _) (Nat.le_refl _)
            rw [if_pos (show mIs s z from by first | exact Or.inl (by assumption) | exact Or.inr (Or.inl (by assumption)) | exact Or.inr (Or.inr (Or.inl ⟨by assumption, by assumption⟩)) | exact Or.inr (Or.inr (Or.inr ⟨by assumption, by assumption⟩)))]
      · skip
        refine z_iload_n (i := 0) (q := 15) dX8_isOf_14 rfl rfl rfl ?_
        refine z_iconst (v := 4) (q := 16) dX8_isOf_15 (by decide) rfl ?_
        refine z_icmp_lt (tgt := 29) (q := 19) dX8_isOf_16 (by decide) rfl (fun c6 => ?_) (fun c6 => ?_)
        · skip
          refine z_iconst (v := 1) (q := 30) dX8_isOf_29 (by decide) rfl ?_
          refine z_goto (tgt := 34) dX8_isOf_30 (by decide) ?_
          refine z_ireturn dX8_isOf_34 rfl rfl ?_ (Nat.le_refl _) (Nat.le_refl _)
          rw [if_pos (show mIs s z from by first | exact Or.inl (by assumption) | exact Or.inr (Or.inl (by assumption)) | exact Or.inr (Or.inr (Or.inl ⟨by assumption, by assumption⟩)) | exact Or.inr (Or.inr (Or.inr ⟨by assumption, by assumption⟩)))]
        · skip
          refine z_iload_n (i := 1) (q := 20) dX8_isOf_19 rfl rfl rfl ?_
          refine z_iconst (v := 4) (q := 21) dX8_isOf_20 (by decide) rfl ?_
          refine z_icmp_ne (tgt := 33) (q := 24) dX8_isOf_21 (by decide) rfl (fun c7 => ?_) (fun c7 => ?_)
          · skip
            refine z_iconst (v := 0) (q := 34) dX8_isOf_33 (by decide) rfl ?_
            refine z_ireturn dX8_isOf_34 rfl rfl ?_ (Nat.le_refl _) (Nat.le_refl _)
            rw [if_neg (show ¬ mIs s z from by rintro (q | q | ⟨q, r⟩ | ⟨q, r⟩) <;> contradiction)]
          · skip
            refine z_iload_n (i := 0) (q := 25) dX8_isOf_24 rfl rfl rfl ?_
            refine z_iconst (v := 5) (q := 26) dX8_isOf_25 (by decide) rfl ?_
            refine z_icmp_ne (tgt := 33) (q := 29) dX8_isOf_26 (by decide) rfl (fun c8 => ?_) (fun c8 => ?_)
            · skip
              refine z_iconst (v := 0) (q := 34) dX8_isOf_33 (by decide) rfl ?_
              refine z_ireturn dX8_isOf_34 rfl rfl ?_ (Nat.le_refl _) (Nat.le_refl _)
              rw [if_neg (show ¬ mIs s z from by rintro (q | q | ⟨q, r⟩ | ⟨q, r⟩) <;> contradiction)]
            · skip
              refine z_iconst (v := 1) (q := 30) dX8_isOf_29 (by decide) rfl ?_
              refine z_goto (tgt := 34) dX8_isOf_30 (by decide) ?_
              refine z_ireturn dX8_isOf_34 rfl rfl ?_ (Nat.le_refl _) (Nat.le_refl _)
              rw [if_pos (show mIs s z from by first | exact Or.inl (by assumption) | exact Or.inr (Or.inl (by assumption)) | exact Or.inr (Or.inr (Or.inl ⟨by assumption, by assumption⟩)) | exact Or.inr (Or.inr (Or.inr ⟨by assumption, by assumption⟩)))]
set_option maxHeartbeats 4000000 in
set_option maxRecDepth 100000 in
theorem ev_X8_kind_bad (d : Nat) (m : zm) (p : Int32) (hb : (p < 0 ∨ m.1 184 3 - 1 < p)) : zEv (d + 2) zM_X8_kind 0 0 [.ref 180, .int p] (lay m) (some (.int (-1000001)), lay (mT m)) := by
  refine zEv_of (by decide) (fun G => Nat.le_of_ble_eq_true rfl) ?_
  show ZW _ _ _ _ 0 [some (.ref 180), some (.int p)] [] _ _ _ _
  refine z_aload_n (i := 0) (q := 1) dX8_kind_0 rfl rfl rfl ?_
  refine z_iconst (v := 0) (q := 2) dX8_kind_1 (by decide) rfl ?_
  refine m_putI (q := 5) dX8_kind_2 fp_X8_48 ⟨by decide, _, rfl, rfl⟩ ⟨rfl, rfl⟩ rfl ?_
  refine z_aload_n (i := 0) (q := 6) dX8_kind_5 rfl rfl rfl ?_
  refine z_iload_n (i := 1) (q := 7) dX8_kind_6 rfl rfl rfl ?_
  refine m_callV_r (As := [_]) (q := 10) mk_X8_isPerson dX8_kind_7 wd_935 wd_937 wp_43 (ci := 8) rfl ⟨by decide, _, rfl⟩ (ev_X8_isPerson _ _ _) rfl (by decide) rfl (Nat.zero_le _) (Nat.zero_le _) rfl ?_
  refine zb_eq (tgt := 22) (q := 13) dX8_kind_10 (by decide) rfl (fun c1 => ?_) (fun c1 => ?_)
  · skip
    refine z_ldc (q := 24) dX8_kind_22 wd_831 rfl ?_
    refine z_ireturn dX8_kind_24 rfl rfl ?_ (Nat.le_refl _) (Nat.le_refl _)
    rfl
  · exact absurd hb c1
set_option maxHeartbeats 4000000 in
set_option maxRecDepth 100000 in
theorem ev_X8_kind (d : Nat) (m : zm) (p : Nat) (hn : ¬ (nI p < 0 ∨ m.1 184 3 - 1 < nI p)) (hp : p < 4) : zEv (d + 2) zM_X8_kind 0 0 [.ref 180, .int (nI p)] (lay m) (some (.int (mOf (mT m) p 0)), lay (mT m)) := by
  refine zEv_of (by decide) (fun G => Nat.le_of_ble_eq_true rfl) ?_
  show ZW _ _ _ _ 0 [some (.ref 180), some (.int (nI p))] [] _ _ _ _
  refine z_aload_n (i := 0) (q := 1) dX8_kind_0 rfl rfl rfl ?_
  refine z_iconst (v := 0) (q := 2) dX8_kind_1 (by decide) rfl ?_
  refine m_putI (q := 5) dX8_kind_2 fp_X8_48 ⟨by decide, _, rfl, rfl⟩ ⟨rfl, rfl⟩ rfl ?_
  refine z_aload_n (i := 0) (q := 6) dX8_kind_5 rfl rfl rfl ?_
  refine z_iload_n (i := 1) (q := 7) dX8_kind_6 rfl rfl rfl ?_
  refine m_callV_r (As := [_]) (q := 10) mk_X8_isPerson dX8_kind_7 wd_935 wd_937 wp_43 (ci := 8) rfl ⟨by decide, _, rfl⟩ (ev_X8_isPerson _ _ _) rfl (by decide) rfl (Nat.zero_le _) (Nat.zero_le _) rfl ?_
  refine zb_eq (tgt := 22) (q := 13) dX8_kind_10 (by decide) rfl (fun c1 => ?_) (fun c1 => ?_)
  · exact absurd hn c1
  · skip
    refine z_aload_n (i := 0) (q := 14) dX8_kind_13 rfl rfl rfl ?_
    refine z_iload_n (i := 1) (q := 15) dX8_kind_14 rfl rfl rfl ?_
    refine z_iconst (v := 0) (q := 16) dX8_kind_15 (by decide) rfl ?_
    refine m_callV_r (As := [_, _]) (q := 19) mk_X8_of dX8_kind_16 wd_947 wd_949 wp_46 (ci := 8) rfl ⟨by decide, _, rfl⟩ (ev_X8_of _ _ p 0 (by omega) (by omega)) rfl (by decide) rfl (Nat.zero_le _) (Nat.zero_le _) rfl ?_
    refine z_goto (tgt := 24) dX8_kind_19 (by decide) ?_
    refine z_ireturn dX8_kind_24 rfl rfl ?_ (Nat.le_refl _) (Nat.le_refl _)
    rfl
set_option maxHeartbeats 4000000 in
set_option maxRecDepth 100000 in
theorem ev_X8_as_bad (d : Nat) (m : zm) (p : Int32) (z : Int32) (hb : (p < 0 ∨ m.1 184 3 - 1 < p) ∨ (z < 0 ∨ 5 < z)) : zEv (d + 2) zM_X8_as 0 0 [.ref 180, .int p, .int z] (lay m) (some (.int (-1000001)), lay (mT m)) := by
  refine zEv_of (by decide) (fun G => Nat.le_of_ble_eq_true rfl) ?_
  show ZW _ _ _ _ 0 [some (.ref 180), some (.int p), some (.int z)] [] _ _ _ _
  refine z_aload_n (i := 0) (q := 1) dX8_as_0 rfl rfl rfl ?_
  refine z_iconst (v := 0) (q := 2) dX8_as_1 (by decide) rfl ?_
  refine m_putI (q := 5) dX8_as_2 fp_X8_48 ⟨by decide, _, rfl, rfl⟩ ⟨rfl, rfl⟩ rfl ?_
  refine z_aload_n (i := 0) (q := 6) dX8_as_5 rfl rfl rfl ?_
  refine z_iload_n (i := 1) (q := 7) dX8_as_6 rfl rfl rfl ?_
  refine m_callV_r (As := [_]) (q := 10) mk_X8_isPerson dX8_as_7 wd_935 wd_937 wp_43 (ci := 8) rfl ⟨by decide, _, rfl⟩ (ev_X8_isPerson _ _ _) rfl (by decide) rfl (Nat.zero_le _) (Nat.zero_le _) rfl ?_
  refine zb_eq (tgt := 25) (q := 13) dX8_as_10 (by decide) rfl (fun c1 => ?_) (fun c1 => ?_)
  · skip
    refine z_ldc (q := 27) dX8_as_25 wd_831 rfl ?_
    refine z_ireturn dX8_as_27 rfl rfl ?_ (Nat.le_refl _) (Nat.le_refl _)
    rfl
  · skip
    refine z_iload_n (i := 2) (q := 14) dX8_as_13 rfl rfl rfl ?_
    refine z_i2l (q := 15) dX8_as_14 rfl ?_
    refine z_lconst (v := 0) (q := 16) dX8_as_15 (by decide) rfl ?_
    refine z_ldc2 (q := 19) dX8_as_16 wd_1008 rfl ?_
    refine m_callS_r (As := [_, _, _]) (q := 22) mk_X8_in dX8_as_19 wd_827 wd_828 (ev_X8_in _ _ _ (0) (5) (by decide) (by decide)) rfl (by decide) rfl (Nat.zero_le _) (Nat.zero_le _) rfl ?_
    refine zb_ne (tgt := 28) (q := 25) dX8_as_22 (by decide) rfl (fun c2 => ?_) (fun c2 => ?_)
    · exact absurd hb (fun q => q.elim c1 c2)
    · skip
      refine z_ldc (q := 27) dX8_as_25 wd_831 rfl ?_
      refine z_ireturn dX8_as_27 rfl rfl ?_ (Nat.le_refl _) (Nat.le_refl _)
      rfl
set_option maxHeartbeats 4000000 in
set_option maxRecDepth 100000 in
theorem ev_X8_as_not (d : Nat) (m : zm) (p : Nat) (z : Int32) (hn : ¬ (nI p < 0 ∨ m.1 184 3 - 1 < nI p)) (h1 : ¬ (z < 0 ∨ 5 < z)) (h2 : ¬ mIs (mOf (mS0 m) p 0) z) (hp : p < 4) : zEv (d + 2) zM_X8_as 0 0 [.ref 180, .int (nI p), .int z] (lay m) (some (.int (-1000010 - 3)), lay (upI (mS0 m) 180 1 3)) := by
  refine zEv_of (by decide) (fun G => Nat.le_of_ble_eq_true rfl) ?_
  show ZW _ _ _ _ 0 [some (.ref 180), some (.int (nI p)), some (.int z)] [] _ _ _ _
  refine z_aload_n (i := 0) (q := 1) dX8_as_0 rfl rfl rfl ?_
  refine z_iconst (v := 0) (q := 2) dX8_as_1 (by decide) rfl ?_
  refine m_putI (q := 5) dX8_as_2 fp_X8_48 ⟨by decide, _, rfl, rfl⟩ ⟨rfl, rfl⟩ rfl ?_
  refine z_aload_n (i := 0) (q := 6) dX8_as_5 rfl rfl rfl ?_
  refine z_iload_n (i := 1) (q := 7) dX8_as_6 rfl rfl rfl ?_
  refine m_callV_r (As := [_]) (q := 10) mk_X8_isPerson dX8_as_7 wd_935 wd_937 wp_43 (ci := 8) rfl ⟨by decide, _, rfl⟩ (ev_X8_isPerson _ _ _) rfl (by decide) rfl (Nat.zero_le _) (Nat.zero_le _) rfl ?_
  refine zb_eq (tgt := 25) (q := 13) dX8_as_10 (by decide) rfl (fun c1 => ?_) (fun c1 => ?_)
  · exact absurd hn c1
  · skip
    refine z_iload_n (i := 2) (q := 14) dX8_as_13 rfl rfl rfl ?_
    refine z_i2l (q := 15) dX8_as_14 rfl ?_
    refine z_lconst (v := 0) (q := 16) dX8_as_15 (by decide) rfl ?_
    refine z_ldc2 (q := 19) dX8_as_16 wd_1008 rfl ?_
    refine m_callS_r (As := [_, _, _]) (q := 22) mk_X8_in dX8_as_19 wd_827 wd_828 (ev_X8_in _ _ _ (0) (5) (by decide) (by decide)) rfl (by decide) rfl (Nat.zero_le _) (Nat.zero_le _) rfl ?_
    refine zb_ne (tgt := 28) (q := 25) dX8_as_22 (by decide) rfl (fun c2 => ?_) (fun c2 => ?_)
    · skip
      refine z_aload_n (i := 0) (q := 29) dX8_as_28 rfl rfl rfl ?_
      refine z_iconst (v := 0) (q := 30) dX8_as_29 (by decide) rfl ?_
      refine m_putI (q := 33) dX8_as_30 fp_X8_52 ⟨by decide, _, rfl, rfl⟩ ⟨rfl, rfl⟩ rfl ?_
      refine z_aload_n (i := 0) (q := 34) dX8_as_33 rfl rfl rfl ?_
      refine z_iload_n (i := 1) (q := 35) dX8_as_34 rfl rfl rfl ?_
      refine z_iconst (v := 0) (q := 36) dX8_as_35 (by decide) rfl ?_
      refine m_callV_r (As := [_, _]) (q := 39) mk_X8_of dX8_as_36 wd_947 wd_949 wp_46 (ci := 8) rfl ⟨by decide, _, rfl⟩ (ev_X8_of _ _ p 0 (by omega) (by omega)) rfl (by decide) rfl (Nat.zero_le _) (Nat.zero_le _) rfl ?_
      refine z_iload_n (i := 2) (q := 40) dX8_as_39 rfl rfl rfl ?_
      refine m_callS_r (As := [_, _]) (q := 43) mk_X8_isOf dX8_as_40 wd_1068 wd_1069 (ev_X8_isOf _ _ _ _) rfl (by decide) rfl (Nat.zero_le _) (Nat.zero_le _) rfl ?_
      refine zb_eq (tgt := 50) (q := 46) dX8_as_43 (by decide) rfl (fun c3 => ?_) (fun c3 => ?_)
      · skip
        refine z_aload_n (i := 0) (q := 51) dX8_as_50 rfl rfl rfl ?_
        refine z_iconst (v := 3) (q := 52) dX8_as_51 (by decide) rfl ?_
        refine m_callV_r (As := [_]) (q := 55) mk_X8_finding dX8_as_52 wd_832 wd_834 wp_30 (ci := 8) rfl ⟨by decide, _, rfl⟩ (ev_X8_finding _ _ _) rfl (by decide) rfl (Nat.zero_le _) (Nat.zero_le _) rfl ?_
        refine z_ireturn dX8_as_55 rfl rfl ?_ (Nat.le_refl _) (Nat.le_refl _)
        rfl
      · exact absurd c3 h2
    · exact absurd h1 c2
set_option maxHeartbeats 4000000 in
set_option maxRecDepth 100000 in
theorem ev_X8_as (d : Nat) (m : zm) (p : Nat) (z : Int32) (hn : ¬ (nI p < 0 ∨ m.1 184 3 - 1 < nI p)) (h1 : ¬ (z < 0 ∨ 5 < z)) (h2 : mIs (mOf (mS0 m) p 0) z) (hp : p < 4) : zEv (d + 2) zM_X8_as 0 0 [.ref 180, .int (nI p), .int z] (lay m) (some (.int (nI p)), lay (mS0 m)) := by
  refine zEv_of (by decide) (fun G => Nat.le_of_ble_eq_true rfl) ?_
  show ZW _ _ _ _ 0 [some (.ref 180), some (.int (nI p)), some (.int z)] [] _ _ _ _
  refine z_aload_n (i := 0) (q := 1) dX8_as_0 rfl rfl rfl ?_
  refine z_iconst (v := 0) (q := 2) dX8_as_1 (by decide) rfl ?_
  refine m_putI (q := 5) dX8_as_2 fp_X8_48 ⟨by decide, _, rfl, rfl⟩ ⟨rfl, rfl⟩ rfl ?_
  refine z_aload_n (i := 0) (q := 6) dX8_as_5 rfl rfl rfl ?_
  refine z_iload_n (i := 1) (q := 7) dX8_as_6 rfl rfl rfl ?_
  refine m_callV_r (As := [_]) (q := 10) mk_X8_isPerson dX8_as_7 wd_935 wd_937 wp_43 (ci := 8) rfl ⟨by decide, _, rfl⟩ (ev_X8_isPerson _ _ _) rfl (by decide) rfl (Nat.zero_le _) (Nat.zero_le _) rfl ?_
  refine zb_eq (tgt := 25) (q := 13) dX8_as_10 (by decide) rfl (fun c1 => ?_) (fun c1 => ?_)
  · exact absurd hn c1
  · skip
    refine z_iload_n (i := 2) (q := 14) dX8_as_13 rfl rfl rfl ?_
    refine z_i2l (q := 15) dX8_as_14 rfl ?_
    refine z_lconst (v := 0) (q := 16) dX8_as_15 (by decide) rfl ?_
    refine z_ldc2 (q := 19) dX8_as_16 wd_1008 rfl ?_
    refine m_callS_r (As := [_, _, _]) (q := 22) mk_X8_in dX8_as_19 wd_827 wd_828 (ev_X8_in _ _ _ (0) (5) (by decide) (by decide)) rfl (by decide) rfl (Nat.zero_le _) (Nat.zero_le _) rfl ?_
    refine zb_ne (tgt := 28) (q := 25) dX8_as_22 (by decide) rfl (fun c2 => ?_) (fun c2 => ?_)
    · skip
      refine z_aload_n (i := 0) (q := 29) dX8_as_28 rfl rfl rfl ?_
      refine z_iconst (v := 0) (q := 30) dX8_as_29 (by decide) rfl ?_
      refine m_putI (q := 33) dX8_as_30 fp_X8_52 ⟨by decide, _, rfl, rfl⟩ ⟨rfl, rfl⟩ rfl ?_
      refine z_aload_n (i := 0) (q := 34) dX8_as_33 rfl rfl rfl ?_
      refine z_iload_n (i := 1) (q := 35) dX8_as_34 rfl rfl rfl ?_
      refine z_iconst (v := 0) (q := 36) dX8_as_35 (by decide) rfl ?_
      refine m_callV_r (As := [_, _]) (q := 39) mk_X8_of dX8_as_36 wd_947 wd_949 wp_46 (ci := 8) rfl ⟨by decide, _, rfl⟩ (ev_X8_of _ _ p 0 (by omega) (by omega)) rfl (by decide) rfl (Nat.zero_le _) (Nat.zero_le _) rfl ?_
      refine z_iload_n (i := 2) (q := 40) dX8_as_39 rfl rfl rfl ?_
      refine m_callS_r (As := [_, _]) (q := 43) mk_X8_isOf dX8_as_40 wd_1068 wd_1069 (ev_X8_isOf _ _ _ _) rfl (by decide) rfl (Nat.zero_le _) (Nat.zero_le _) rfl ?_
      refine zb_eq (tgt := 50) (q := 46) dX8_as_43 (by decide) rfl (fun c3 => ?_) (fun c3 => ?_)
      · exact absurd h2 c3
      · skip
        refine z_iload_n (i := 1) (q := 47) dX8_as_46 rfl rfl rfl ?_
        refine z_goto (tgt := 55) dX8_as_47 (by decide) ?_
        refine z_ireturn dX8_as_55 rfl rfl ?_ (Nat.le_refl _) (Nat.le_refl _)
        rfl
    · exact absurd h1 c2
def kOk (m : zm) : Prop := ∃ g : Nat, g ≤ 16 ∧ m.1 180 24 = nI g
def mBegan (m : zm) (b : Int32) : zm := if 16 ≤ m.1 180 24 then m else upI (upI m 192 (m.1 180 24).toNatClampNeg b) 180 24 (m.1 180 24 + 1)
theorem kOk_b {m : zm} {b : Int32} (h : kOk m) : kOk (mBegan m b) := by
  obtain ⟨g, h1, h2⟩ := h
  unfold mBegan
  by_cases h3 : 16 ≤ m.1 180 24
  · rw [if_pos h3]; exact ⟨g, h1, h2⟩
  · rw [if_neg h3]
    refine ⟨g + 1, ?_, by rw [upI_eq, h2]; exact nI_1 g⟩
    rw [h2, show (16 : Int32) = nI 16 from rfl, nI_leI (by omega) (by omega)] at h3
    omega
theorem mbegan_a {m : zm} {b : Int32} {k : Nat} : (mBegan m b).1 184 k = m.1 184 k := by
  unfold mBegan
  split
  · rfl
  · rw [upI_ne (by omega), upI_ne (by omega)]
def mClM (m : zm) (p : Nat) : zm := mBegan (mBegan (if mOf m p 0 = 5 then mBegan m 14 else m) 13) 10
def mClR (m : zm) (p : Nat) : Int32 := if mOf m p 0 = 5 then 2 * (mOf m p 4 - 100) else mOf m p 4 - 100
theorem kOk_cl {m : zm} {p : Nat} (h : kOk m) : kOk (mClM m p) := by
  unfold mClM
  split
  · exact kOk_b (kOk_b (kOk_b h))
  · exact kOk_b (kOk_b h)
def mMkM (m : zm) (p : Nat) : zm := if mOf m p 0 < 4 then mBegan (mBegan (if mOf m p 0 = 1 then m else mBegan m (if mOf m p 0 = 3 then 22 else 24)) 21) 20 else mClM (mBegan (mBegan m 23) 20) p
def mMkR (m : zm) (p : Nat) (n : Int32) : Int32 := if mOf m p 0 < 4 then (if mOf m p 0 = 1 then n + mOf m p 1 else if mOf m p 0 = 3 then n + mOf m p 1 - 1000 else 2 * (n + mOf m p 1)) else n - mClR m p
def mSzM (m : zm) (p : Nat) : zm := if mOf m p 0 < 4 then mMkM (mBegan (mBegan (if mOf m p 0 = 2 then mBegan m 12 else m) 11) 10) p else mClM m p
def mSzR (m : zm) (p : Nat) (n : Int32) : Int32 := if mOf m p 0 < 4 then (if mOf m p 0 = 2 then -(mOf m p 4 + mMkR m p n) else mOf m p 4 + mMkR m p n) else mClR m p
theorem kOk_mk {m : zm} {p : Nat} (h : kOk m) : kOk (mMkM m p) := by
  unfold mMkM
  split
  · split
    · exact kOk_b (kOk_b h)
    · exact kOk_b (kOk_b (kOk_b h))
  · exact kOk_cl (kOk_b (kOk_b h))
theorem mof_b {m : zm} {b : Int32} {p k : Nat} : mOf (mBegan m b) p k = mOf m p k := mbegan_a
theorem mClR_b {m : zm} {b : Int32} {p : Nat} : mClR (mBegan m b) p = mClR m p := by
  simp only [mClR, mof_b]
theorem mMkR_b {m : zm} {b n : Int32} {p : Nat} : mMkR (mBegan m b) p n = mMkR m p n := by
  simp only [mMkR, mof_b, mClR_b]
set_option maxHeartbeats 4000000 in
set_option maxRecDepth 100000 in
theorem sg_X8_began (d : Nat) (m : zm) (z : Int32) (g : Nat) (hg1 : g < 16) (hg : m.1 180 24 = nI g) : ZW zM_X8_began (d) 0 0 9 [some (.ref 180), some (.int z)] [] (lay m) 0 0 (none, lay (upI (upI m 192 (m.1 180 24).toNatClampNeg z) 180 24 (m.1 180 24 + 1))) := by
  refine z_aload_n (i := 0) (q := 10) dX8_began_9 rfl rfl rfl ?_
  refine m_getR (r := 192) (q := 13) dX8_began_10 fl_X8_45 ⟨by decide, _, rfl, rfl⟩ rfl ?_
  refine z_aload_n (i := 0) (q := 14) dX8_began_13 rfl rfl rfl ?_
  refine m_getI (q := 17) dX8_began_14 fl_X8_243 ⟨by decide, _, rfl, rfl⟩ rfl ?_
  refine z_iload_n (i := 1) (q := 18) dX8_began_17 rfl rfl rfl ?_
  refine m_iastJ (N := 16) (q := 19) dX8_began_18 ⟨by decide, _, rfl⟩ (j := (m.1 180 24).toNatClampNeg) rfl (by rw [hg]; exact vp_in_nI hg1 (by decide)) rfl ?_
  refine z_aload_n (i := 0) (q := 20) dX8_began_19 rfl rfl rfl ?_
  refine z_dup (q := 21) dX8_began_20 rfl rfl ?_
  refine m_getI (q := 24) dX8_began_21 fl_X8_243 ⟨by decide, _, rfl, rfl⟩ rfl ?_
  refine z_iconst (v := 1) (q := 25) dX8_began_24 (by decide) rfl ?_
  refine z_iadd (q := 26) dX8_began_25 rfl ?_
  refine m_putI (q := 29) dX8_began_26 fp_X8_243 ⟨by decide, _, rfl, rfl⟩ ⟨rfl, rfl⟩ rfl ?_
  refine z_return dX8_began_29 rfl ?_ (Nat.le_refl _) (Nat.le_refl _)
  rfl
set_option maxHeartbeats 4000000 in
set_option maxRecDepth 100000 in
theorem ev_X8_began (d : Nat) (m : zm) (z : Int32) (hg : kOk m) : zEv (d) zM_X8_began 0 0 [.ref 180, .int z] (lay m) (none, lay (mBegan m z)) := by
  refine zEv_of (by decide) (fun G => Nat.le_of_ble_eq_true rfl) ?_
  show ZW _ _ _ _ 0 [some (.ref 180), some (.int z)] [] _ _ _ _
  refine z_aload_n (i := 0) (q := 1) dX8_began_0 rfl rfl rfl ?_
  refine m_getI (q := 4) dX8_began_1 fl_X8_243 ⟨by decide, _, rfl, rfl⟩ rfl ?_
  refine z_bipush (v := 16) (q := 6) dX8_began_4 (by decide) rfl ?_
  refine z_icmp_ge (tgt := 29) (q := 9) dX8_began_6 (by decide) rfl (fun c1 => ?_) (fun c1 => ?_)
  · skip
    refine z_return dX8_began_29 rfl ?_ (Nat.le_refl _) (Nat.le_refl _)
    rw [show mBegan m z = m from if_pos c1]
  · skip
    obtain ⟨g, hg1, hg2⟩ := hg
    rw [show mBegan m z = _ from if_neg c1]
    refine sg_X8_began d m z g ?_ hg2
    rw [hg2, show (16 : Int32) = nI 16 from rfl, nI_leI (by omega) (by omega)] at c1
    omega
set_option maxHeartbeats 4000000 in
set_option maxRecDepth 100000 in
theorem ev_X8_plainSize (d : Nat) (m : zm) (p : Nat) (hg : kOk m) (hp : p < 4) : zEv (d + 1) zM_X8_plainSize 0 0 [.ref 180, .int (nI p)] (lay m) (some (.int (mOf m p 4)), lay (mBegan m 10)) := by
  refine zEv_of (by decide) (fun G => Nat.le_of_ble_eq_true rfl) ?_
  show ZW _ _ _ _ 0 [some (.ref 180), some (.int (nI p))] [] _ _ _ _
  refine z_aload_n (i := 0) (q := 1) dX8_plainSize_0 rfl rfl rfl ?_
  refine z_bipush (v := 10) (q := 3) dX8_plainSize_1 (by decide) rfl ?_
  refine m_callV_v (As := [_]) (q := 6) mk_X8_began dX8_plainSize_3 wd_1083 wd_1085 wp_59 (ci := 8) rfl ⟨by decide, _, rfl⟩ (ev_X8_began _ _ _  (by repeat (first | exact hg | refine kOk_b ?_ | refine kOk_mk ?_ | refine kOk_cl ?_))) rfl (by decide) rfl (Nat.zero_le _) (Nat.zero_le _) rfl ?_
  refine z_aload_n (i := 0) (q := 7) dX8_plainSize_6 rfl rfl rfl ?_
  refine z_iload_n (i := 1) (q := 8) dX8_plainSize_7 rfl rfl rfl ?_
  refine z_iconst (v := 4) (q := 9) dX8_plainSize_8 (by decide) rfl ?_
  refine m_callV_r (As := [_, _]) (q := 12) mk_X8_of dX8_plainSize_9 wd_947 wd_949 wp_46 (ci := 8) rfl ⟨by decide, _, rfl⟩ (ev_X8_of _ _ p 4 (by omega) (by omega)) rfl (by decide) rfl (Nat.zero_le _) (Nat.zero_le _) rfl ?_
  refine z_ireturn dX8_plainSize_12 rfl rfl ?_ (Nat.le_refl _) (Nat.le_refl _)
  rw [show mOf m p 4 = mOf (mBegan m 10) p 4 from mof_b.symm]
  rfl
set_option maxHeartbeats 4000000 in
set_option maxRecDepth 100000 in
theorem ev_X8_clerkSize (d : Nat) (m : zm) (p : Nat) (hg : kOk m) (hp : p < 4) : zEv (d + 2) zM_X8_clerkSize 0 0 [.ref 180, .int (nI p)] (lay m) (some (.int (mClR m p)), lay (mClM m p)) := by
  refine zEv_of (by decide) (fun G => Nat.le_of_ble_eq_true rfl) ?_
  show ZW _ _ _ _ 0 [some (.ref 180), some (.int (nI p)), none] [] _ _ _ _
  refine z_aload_n (i := 0) (q := 1) dX8_clerkSize_0 rfl rfl rfl ?_
  refine z_iload_n (i := 1) (q := 2) dX8_clerkSize_1 rfl rfl rfl ?_
  refine z_iconst (v := 0) (q := 3) dX8_clerkSize_2 (by decide) rfl ?_
  refine m_callV_r (As := [_, _]) (q := 6) mk_X8_of dX8_clerkSize_3 wd_947 wd_949 wp_46 (ci := 8) rfl ⟨by decide, _, rfl⟩ (ev_X8_of _ _ p 0 (by omega) (by omega)) rfl (by decide) rfl (Nat.zero_le _) (Nat.zero_le _) rfl ?_
  refine z_iconst (v := 5) (q := 7) dX8_clerkSize_6 (by decide) rfl ?_
  refine z_icmp_ne (tgt := 16) (q := 10) dX8_clerkSize_7 (by decide) rfl (fun c1 => ?_) (fun c1 => ?_)
  · skip
    refine z_aload_n (i := 0) (q := 17) dX8_clerkSize_16 rfl rfl rfl ?_
    refine z_bipush (v := 13) (q := 19) dX8_clerkSize_17 (by decide) rfl ?_
    refine m_callV_v (As := [_]) (q := 22) mk_X8_began dX8_clerkSize_19 wd_1083 wd_1085 wp_59 (ci := 8) rfl ⟨by decide, _, rfl⟩ (ev_X8_began _ _ _  (by repeat (first | exact hg | refine kOk_b ?_ | refine kOk_mk ?_ | refine kOk_cl ?_))) rfl (by decide) rfl (Nat.zero_le _) (Nat.zero_le _) rfl ?_
    refine z_aload_n (i := 0) (q := 23) dX8_clerkSize_22 rfl rfl rfl ?_
    refine z_iload_n (i := 1) (q := 24) dX8_clerkSize_23 rfl rfl rfl ?_
    refine m_callV_r (As := [_]) (q := 27) mk_X8_plainSize dX8_clerkSize_24 wd_1087 wd_1089 wp_60 (ci := 8) rfl ⟨by decide, _, rfl⟩ (ev_X8_plainSize _ _ _  (by repeat (first | exact hg | refine kOk_b ?_ | refine kOk_mk ?_ | refine kOk_cl ?_)) (by omega)) rfl (by decide) rfl (Nat.zero_le _) (Nat.zero_le _) rfl ?_
    simp only [mof_b]
    refine z_bipush (v := 100) (q := 29) dX8_clerkSize_27 (by decide) rfl ?_
    refine z_isub (q := 30) dX8_clerkSize_29 rfl ?_
    refine z_istore_n (i := 2) (ls' := [_, _, _]) (q := 31) dX8_clerkSize_30 rfl (by decide) rfl rfl ?_
    refine z_aload_n (i := 0) (q := 32) dX8_clerkSize_31 rfl rfl rfl ?_
    refine z_iload_n (i := 1) (q := 33) dX8_clerkSize_32 rfl rfl rfl ?_
    refine z_iconst (v := 0) (q := 34) dX8_clerkSize_33 (by decide) rfl ?_
    refine m_callV_r (As := [_, _]) (q := 37) mk_X8_of dX8_clerkSize_34 wd_947 wd_949 wp_46 (ci := 8) rfl ⟨by decide, _, rfl⟩ (ev_X8_of _ _ p 0 (by omega) (by omega)) rfl (by decide) rfl (Nat.zero_le _) (Nat.zero_le _) rfl ?_
    simp only [mbegan_a]
    refine z_iconst (v := 5) (q := 38) dX8_clerkSize_37 (by decide) rfl ?_
    refine z_icmp_ne (tgt := 47) (q := 41) dX8_clerkSize_38 (by decide) rfl (fun c2 => ?_) (fun c2 => ?_)
    · skip
      refine z_iload_n (i := 2) (q := 48) dX8_clerkSize_47 rfl rfl rfl ?_
      refine z_ireturn dX8_clerkSize_48 rfl rfl ?_ (Nat.le_refl _) (Nat.le_refl _)
      first | contradiction | (rw [show mClR m p = mOf m p 4 - 100 from if_neg c1, show mClM m p = mBegan (mBegan (m) 13) 10 from congrArg (fun x => mBegan (mBegan x 13) 10) (if_neg c1)]; done) | (rw [show mClR m p = mOf m p 4 - 100 from if_neg c1, show mClM m p = mBegan (mBegan (m) 13) 10 from congrArg (fun x => mBegan (mBegan x 13) 10) (if_neg c1)]; rfl)
    · skip
      refine z_iconst (v := 2) (q := 42) dX8_clerkSize_41 (by decide) rfl ?_
      refine z_iload_n (i := 2) (q := 43) dX8_clerkSize_42 rfl rfl rfl ?_
      refine z_imul (q := 44) dX8_clerkSize_43 rfl ?_
      refine z_goto (tgt := 48) dX8_clerkSize_44 (by decide) ?_
      refine z_ireturn dX8_clerkSize_48 rfl rfl ?_ (Nat.le_refl _) (Nat.le_refl _)
      first | contradiction | (rw [show mClR m p = mOf m p 4 - 100 from if_neg c1, show mClM m p = mBegan (mBegan (m) 13) 10 from congrArg (fun x => mBegan (mBegan x 13) 10) (if_neg c1)]; done) | (rw [show mClR m p = mOf m p 4 - 100 from if_neg c1, show mClM m p = mBegan (mBegan (m) 13) 10 from congrArg (fun x => mBegan (mBegan x 13) 10) (if_neg c1)]; rfl)
  · skip
    refine z_aload_n (i := 0) (q := 11) dX8_clerkSize_10 rfl rfl rfl ?_
    refine z_bipush (v := 14) (q := 13) dX8_clerkSize_11 (by decide) rfl ?_
    refine m_callV_v (As := [_]) (q := 16) mk_X8_began dX8_clerkSize_13 wd_1083 wd_1085 wp_59 (ci := 8) rfl ⟨by decide, _, rfl⟩ (ev_X8_began _ _ _  (by repeat (first | exact hg | refine kOk_b ?_ | refine kOk_mk ?_ | refine kOk_cl ?_))) rfl (by decide) rfl (Nat.zero_le _) (Nat.zero_le _) rfl ?_
    refine z_aload_n (i := 0) (q := 17) dX8_clerkSize_16 rfl rfl rfl ?_
    refine z_bipush (v := 13) (q := 19) dX8_clerkSize_17 (by decide) rfl ?_
    refine m_callV_v (As := [_]) (q := 22) mk_X8_began dX8_clerkSize_19 wd_1083 wd_1085 wp_59 (ci := 8) rfl ⟨by decide, _, rfl⟩ (ev_X8_began _ _ _  (by repeat (first | exact hg | refine kOk_b ?_ | refine kOk_mk ?_ | refine kOk_cl ?_))) rfl (by decide) rfl (Nat.zero_le _) (Nat.zero_le _) rfl ?_
    refine z_aload_n (i := 0) (q := 23) dX8_clerkSize_22 rfl rfl rfl ?_
    refine z_iload_n (i := 1) (q := 24) dX8_clerkSize_23 rfl rfl rfl ?_
    refine m_callV_r (As := [_]) (q := 27) mk_X8_plainSize dX8_clerkSize_24 wd_1087 wd_1089 wp_60 (ci := 8) rfl ⟨by decide, _, rfl⟩ (ev_X8_plainSize _ _ _  (by repeat (first | exact hg | refine kOk_b ?_ | refine kOk_mk ?_ | refine kOk_cl ?_)) (by omega)) rfl (by decide) rfl (Nat.zero_le _) (Nat.zero_le _) rfl ?_
    simp only [mof_b]
    refine z_bipush (v := 100) (q := 29) dX8_clerkSize_27 (by decide) rfl ?_
    refine z_isub (q := 30) dX8_clerkSize_29 rfl ?_
    refine z_istore_n (i := 2) (ls' := [_, _, _]) (q := 31) dX8_clerkSize_30 rfl (by decide) rfl rfl ?_
    refine z_aload_n (i := 0) (q := 32) dX8_clerkSize_31 rfl rfl rfl ?_
    refine z_iload_n (i := 1) (q := 33) dX8_clerkSize_32 rfl rfl rfl ?_
    refine z_iconst (v := 0) (q := 34) dX8_clerkSize_33 (by decide) rfl ?_
    refine m_callV_r (As := [_, _]) (q := 37) mk_X8_of dX8_clerkSize_34 wd_947 wd_949 wp_46 (ci := 8) rfl ⟨by decide, _, rfl⟩ (ev_X8_of _ _ p 0 (by omega) (by omega)) rfl (by decide) rfl (Nat.zero_le _) (Nat.zero_le _) rfl ?_
    simp only [mbegan_a]
    refine z_iconst (v := 5) (q := 38) dX8_clerkSize_37 (by decide) rfl ?_
    refine z_icmp_ne (tgt := 47) (q := 41) dX8_clerkSize_38 (by decide) rfl (fun c3 => ?_) (fun c3 => ?_)
    · skip
      refine z_iload_n (i := 2) (q := 48) dX8_clerkSize_47 rfl rfl rfl ?_
      refine z_ireturn dX8_clerkSize_48 rfl rfl ?_ (Nat.le_refl _) (Nat.le_refl _)
      first | contradiction | (rw [show mClR m p = 2 * (mOf m p 4 - 100) from if_pos c1, show mClM m p = mBegan (mBegan (mBegan m 14) 13) 10 from congrArg (fun x => mBegan (mBegan x 13) 10) (if_pos c1)]; done) | (rw [show mClR m p = 2 * (mOf m p 4 - 100) from if_pos c1, show mClM m p = mBegan (mBegan (mBegan m 14) 13) 10 from congrArg (fun x => mBegan (mBegan x 13) 10) (if_pos c1)]; rfl)
    · skip
      refine z_iconst (v := 2) (q := 42) dX8_clerkSize_41 (by decide) rfl ?_
      refine z_iload_n (i := 2) (q := 43) dX8_clerkSize_42 rfl rfl rfl ?_
      refine z_imul (q := 44) dX8_clerkSize_43 rfl ?_
      refine z_goto (tgt := 48) dX8_clerkSize_44 (by decide) ?_
      refine z_ireturn dX8_clerkSize_48 rfl rfl ?_ (Nat.le_refl _) (Nat.le_refl _)
      first | contradiction | (rw [show mClR m p = 2 * (mOf m p 4 - 100) from if_pos c1, show mClM m p = mBegan (mBegan (mBegan m 14) 13) 10 from congrArg (fun x => mBegan (mBegan x 13) 10) (if_pos c1)]; done) | (rw [show mClR m p = 2 * (mOf m p 4 - 100) from if_pos c1, show mClM m p = mBegan (mBegan (mBegan m 14) 13) 10 from congrArg (fun x => mBegan (mBegan x 13) 10) (if_pos c1)]; rfl)
set_option maxHeartbeats 4000000 in
set_option maxRecDepth 100000 in
theorem ev_X8_markOf (d : Nat) (m : zm) (p : Nat) (hg : kOk m) (hp : p < 4) : zEv (d + 3) zM_X8_markOf 0 0 [.ref 180, .int (nI p)] (lay m) (some (.int (mMkR m p (nI p))), lay (mMkM m p)) := by
  refine zEv_of (by decide) (fun G => Nat.le_of_ble_eq_true rfl) ?_
  show ZW _ _ _ _ 0 [some (.ref 180), some (.int (nI p)), none, none] [] _ _ _ _
  refine z_aload_n (i := 0) (q := 1) dX8_markOf_0 rfl rfl rfl ?_
  refine z_iload_n (i := 1) (q := 2) dX8_markOf_1 rfl rfl rfl ?_
  refine z_iconst (v := 0) (q := 3) dX8_markOf_2 (by decide) rfl ?_
  refine m_callV_r (As := [_, _]) (q := 6) mk_X8_of dX8_markOf_3 wd_947 wd_949 wp_46 (ci := 8) rfl ⟨by decide, _, rfl⟩ (ev_X8_of _ _ p 0 (by omega) (by omega)) rfl (by decide) rfl (Nat.zero_le _) (Nat.zero_le _) rfl ?_
  refine z_istore_n (i := 2) (ls' := [_, _, _, _]) (q := 7) dX8_markOf_6 rfl (by decide) rfl rfl ?_
  refine z_iload_n (i := 2) (q := 8) dX8_markOf_7 rfl rfl rfl ?_
  refine z_iconst (v := 4) (q := 9) dX8_markOf_8 (by decide) rfl ?_
  refine z_icmp_lt (tgt := 32) (q := 12) dX8_markOf_9 (by decide) rfl (fun c1 => ?_) (fun c1 => ?_)
  · skip
    refine z_iload_n (i := 2) (q := 33) dX8_markOf_32 rfl rfl rfl ?_
    refine z_iconst (v := 1) (q := 34) dX8_markOf_33 (by decide) rfl ?_
    refine z_icmp_eq (tgt := 53) (q := 37) dX8_markOf_34 (by decide) rfl (fun c2 => ?_) (fun c2 => ?_)
    · skip
      refine z_aload_n (i := 0) (q := 54) dX8_markOf_53 rfl rfl rfl ?_
      refine z_bipush (v := 21) (q := 56) dX8_markOf_54 (by decide) rfl ?_
      refine m_callV_v (As := [_]) (q := 59) mk_X8_began dX8_markOf_56 wd_1083 wd_1085 wp_59 (ci := 8) rfl ⟨by decide, _, rfl⟩ (ev_X8_began _ _ _  (by repeat (first | exact hg | refine kOk_b ?_ | refine kOk_mk ?_ | refine kOk_cl ?_))) rfl (by decide) rfl (Nat.zero_le _) (Nat.zero_le _) rfl ?_
      refine z_aload_n (i := 0) (q := 60) dX8_markOf_59 rfl rfl rfl ?_
      refine z_bipush (v := 20) (q := 62) dX8_markOf_60 (by decide) rfl ?_
      refine m_callV_v (As := [_]) (q := 65) mk_X8_began dX8_markOf_62 wd_1083 wd_1085 wp_59 (ci := 8) rfl ⟨by decide, _, rfl⟩ (ev_X8_began _ _ _  (by repeat (first | exact hg | refine kOk_b ?_ | refine kOk_mk ?_ | refine kOk_cl ?_))) rfl (by decide) rfl (Nat.zero_le _) (Nat.zero_le _) rfl ?_
      refine z_iload_n (i := 1) (q := 66) dX8_markOf_65 rfl rfl rfl ?_
      refine z_aload_n (i := 0) (q := 67) dX8_markOf_66 rfl rfl rfl ?_
      refine z_iload_n (i := 1) (q := 68) dX8_markOf_67 rfl rfl rfl ?_
      refine z_iconst (v := 1) (q := 69) dX8_markOf_68 (by decide) rfl ?_
      refine m_callV_r (As := [_, _]) (q := 72) mk_X8_of dX8_markOf_69 wd_947 wd_949 wp_46 (ci := 8) rfl ⟨by decide, _, rfl⟩ (ev_X8_of _ _ p 1 (by omega) (by omega)) rfl (by simp [Value.category]) rfl (Nat.zero_le _) (Nat.zero_le _) rfl ?_
      refine z_iadd (q := 73) dX8_markOf_72 rfl ?_
      refine z_istore_n (i := 3) (ls' := [_, _, _, _]) (q := 74) dX8_markOf_73 rfl (by decide) rfl rfl ?_
      refine z_iload_n (i := 2) (q := 75) dX8_markOf_74 rfl rfl rfl ?_
      refine z_iconst (v := 1) (q := 76) dX8_markOf_75 (by decide) rfl ?_
      refine z_icmp_ne (tgt := 83) (q := 79) dX8_markOf_76 (by decide) rfl (fun c3 => ?_) (fun c3 => ?_)
      · skip
        refine z_iload_n (i := 2) (q := 84) dX8_markOf_83 rfl rfl rfl ?_
        refine z_iconst (v := 3) (q := 85) dX8_markOf_84 (by decide) rfl ?_
        refine z_icmp_ne (tgt := 96) (q := 88) dX8_markOf_85 (by decide) rfl (fun c4 => ?_) (fun c4 => ?_)
        · skip
          refine z_iconst (v := 2) (q := 97) dX8_markOf_96 (by decide) rfl ?_
          refine z_iload_n (i := 3) (q := 98) dX8_markOf_97 rfl rfl rfl ?_
          refine z_imul (q := 99) dX8_markOf_98 rfl ?_
          refine z_ireturn dX8_markOf_99 rfl rfl ?_ (Nat.le_refl _) (Nat.le_refl _)
          first | contradiction | (rw [show mMkM m p = mBegan (mBegan m 21) 20 from (if_pos c1).trans (congrArg (fun x => mBegan (mBegan x 21) 20) (if_pos c2)), show mMkR m p (nI p) = nI p + mOf m p 1 from (if_pos c1).trans (if_pos c2), show mOf m p 1 = mOf (mBegan (mBegan m 21) 20) p 1 from by simp only [mof_b]]; rfl)
        · skip
          refine z_iload_n (i := 3) (q := 89) dX8_markOf_88 rfl rfl rfl ?_
          refine z_sipush (v := 1000) (q := 92) dX8_markOf_89 (by decide) rfl ?_
          refine z_isub (q := 93) dX8_markOf_92 rfl ?_
          refine z_goto (tgt := 99) dX8_markOf_93 (by decide) ?_
          refine z_ireturn dX8_markOf_99 rfl rfl ?_ (Nat.le_refl _) (Nat.le_refl _)
          first | contradiction | (rw [show mMkM m p = mBegan (mBegan m 21) 20 from (if_pos c1).trans (congrArg (fun x => mBegan (mBegan x 21) 20) (if_pos c2)), show mMkR m p (nI p) = nI p + mOf m p 1 from (if_pos c1).trans (if_pos c2), show mOf m p 1 = mOf (mBegan (mBegan m 21) 20) p 1 from by simp only [mof_b]]; rfl)
      · skip
        refine z_iload_n (i := 3) (q := 80) dX8_markOf_79 rfl rfl rfl ?_
        refine z_goto (tgt := 99) dX8_markOf_80 (by decide) ?_
        refine z_ireturn dX8_markOf_99 rfl rfl ?_ (Nat.le_refl _) (Nat.le_refl _)
        first | contradiction | (rw [show mMkM m p = mBegan (mBegan m 21) 20 from (if_pos c1).trans (congrArg (fun x => mBegan (mBegan x 21) 20) (if_pos c2)), show mMkR m p (nI p) = nI p + mOf m p 1 from (if_pos c1).trans (if_pos c2), show mOf m p 1 = mOf (mBegan (mBegan m 21) 20) p 1 from by simp only [mof_b]]; rfl)
    · skip
      refine z_aload_n (i := 0) (q := 38) dX8_markOf_37 rfl rfl rfl ?_
      refine z_iload_n (i := 2) (q := 39) dX8_markOf_38 rfl rfl rfl ?_
      refine z_iconst (v := 3) (q := 40) dX8_markOf_39 (by decide) rfl ?_
      refine z_icmp_ne (tgt := 48) (q := 43) dX8_markOf_40 (by decide) rfl (fun c5 => ?_) (fun c5 => ?_)
      · skip
        refine z_bipush (v := 24) (q := 50) dX8_markOf_48 (by decide) rfl ?_
        refine m_callV_v (As := [_]) (q := 53) mk_X8_began dX8_markOf_50 wd_1083 wd_1085 wp_59 (ci := 8) rfl ⟨by decide, _, rfl⟩ (ev_X8_began _ _ _  (by repeat (first | exact hg | refine kOk_b ?_ | refine kOk_mk ?_ | refine kOk_cl ?_))) rfl (by decide) rfl (Nat.zero_le _) (Nat.zero_le _) rfl ?_
        refine z_aload_n (i := 0) (q := 54) dX8_markOf_53 rfl rfl rfl ?_
        refine z_bipush (v := 21) (q := 56) dX8_markOf_54 (by decide) rfl ?_
        refine m_callV_v (As := [_]) (q := 59) mk_X8_began dX8_markOf_56 wd_1083 wd_1085 wp_59 (ci := 8) rfl ⟨by decide, _, rfl⟩ (ev_X8_began _ _ _  (by repeat (first | exact hg | refine kOk_b ?_ | refine kOk_mk ?_ | refine kOk_cl ?_))) rfl (by decide) rfl (Nat.zero_le _) (Nat.zero_le _) rfl ?_
        refine z_aload_n (i := 0) (q := 60) dX8_markOf_59 rfl rfl rfl ?_
        refine z_bipush (v := 20) (q := 62) dX8_markOf_60 (by decide) rfl ?_
        refine m_callV_v (As := [_]) (q := 65) mk_X8_began dX8_markOf_62 wd_1083 wd_1085 wp_59 (ci := 8) rfl ⟨by decide, _, rfl⟩ (ev_X8_began _ _ _  (by repeat (first | exact hg | refine kOk_b ?_ | refine kOk_mk ?_ | refine kOk_cl ?_))) rfl (by decide) rfl (Nat.zero_le _) (Nat.zero_le _) rfl ?_
        refine z_iload_n (i := 1) (q := 66) dX8_markOf_65 rfl rfl rfl ?_
        refine z_aload_n (i := 0) (q := 67) dX8_markOf_66 rfl rfl rfl ?_
        refine z_iload_n (i := 1) (q := 68) dX8_markOf_67 rfl rfl rfl ?_
        refine z_iconst (v := 1) (q := 69) dX8_markOf_68 (by decide) rfl ?_
        refine m_callV_r (As := [_, _]) (q := 72) mk_X8_of dX8_markOf_69 wd_947 wd_949 wp_46 (ci := 8) rfl ⟨by decide, _, rfl⟩ (ev_X8_of _ _ p 1 (by omega) (by omega)) rfl (by simp [Value.category]) rfl (Nat.zero_le _) (Nat.zero_le _) rfl ?_
        refine z_iadd (q := 73) dX8_markOf_72 rfl ?_
        refine z_istore_n (i := 3) (ls' := [_, _, _, _]) (q := 74) dX8_markOf_73 rfl (by decide) rfl rfl ?_
        refine z_iload_n (i := 2) (q := 75) dX8_markOf_74 rfl rfl rfl ?_
        refine z_iconst (v := 1) (q := 76) dX8_markOf_75 (by decide) rfl ?_
        refine z_icmp_ne (tgt := 83) (q := 79) dX8_markOf_76 (by decide) rfl (fun c6 => ?_) (fun c6 => ?_)
        · skip
          refine z_iload_n (i := 2) (q := 84) dX8_markOf_83 rfl rfl rfl ?_
          refine z_iconst (v := 3) (q := 85) dX8_markOf_84 (by decide) rfl ?_
          refine z_icmp_ne (tgt := 96) (q := 88) dX8_markOf_85 (by decide) rfl (fun c7 => ?_) (fun c7 => ?_)
          · skip
            refine z_iconst (v := 2) (q := 97) dX8_markOf_96 (by decide) rfl ?_
            refine z_iload_n (i := 3) (q := 98) dX8_markOf_97 rfl rfl rfl ?_
            refine z_imul (q := 99) dX8_markOf_98 rfl ?_
            refine z_ireturn dX8_markOf_99 rfl rfl ?_ (Nat.le_refl _) (Nat.le_refl _)
            first | contradiction | (rw [show mMkM m p = mBegan (mBegan (mBegan m 24) 21) 20 from (if_pos c1).trans (congrArg (fun x => mBegan (mBegan x 21) 20) ((if_neg c2).trans (congrArg (mBegan m) (if_neg c5)))), show mMkR m p (nI p) = 2 * (nI p + mOf m p 1) from (if_pos c1).trans ((if_neg c2).trans (if_neg c5)), show mOf m p 1 = mOf (mBegan (mBegan (mBegan m 24) 21) 20) p 1 from by simp only [mof_b]]; rfl)
          · skip
            refine z_iload_n (i := 3) (q := 89) dX8_markOf_88 rfl rfl rfl ?_
            refine z_sipush (v := 1000) (q := 92) dX8_markOf_89 (by decide) rfl ?_
            refine z_isub (q := 93) dX8_markOf_92 rfl ?_
            refine z_goto (tgt := 99) dX8_markOf_93 (by decide) ?_
            refine z_ireturn dX8_markOf_99 rfl rfl ?_ (Nat.le_refl _) (Nat.le_refl _)
            first | contradiction | (rw [show mMkM m p = mBegan (mBegan (mBegan m 24) 21) 20 from (if_pos c1).trans (congrArg (fun x => mBegan (mBegan x 21) 20) ((if_neg c2).trans (congrArg (mBegan m) (if_neg c5)))), show mMkR m p (nI p) = 2 * (nI p + mOf m p 1) from (if_pos c1).trans ((if_neg c2).trans (if_neg c5)), show mOf m p 1 = mOf (mBegan (mBegan (mBegan m 24) 21) 20) p 1 from by simp only [mof_b]]; rfl)
        · skip
          refine z_iload_n (i := 3) (q := 80) dX8_markOf_79 rfl rfl rfl ?_
          refine z_goto (tgt := 99) dX8_markOf_80 (by decide) ?_
          refine z_ireturn dX8_markOf_99 rfl rfl ?_ (Nat.le_refl _) (Nat.le_refl _)
          first | contradiction | (rw [show mMkM m p = mBegan (mBegan (mBegan m 24) 21) 20 from (if_pos c1).trans (congrArg (fun x => mBegan (mBegan x 21) 20) ((if_neg c2).trans (congrArg (mBegan m) (if_neg c5)))), show mMkR m p (nI p) = 2 * (nI p + mOf m p 1) from (if_pos c1).trans ((if_neg c2).trans (if_neg c5)), show mOf m p 1 = mOf (mBegan (mBegan (mBegan m 24) 21) 20) p 1 from by simp only [mof_b]]; rfl)
      · skip
        refine z_bipush (v := 22) (q := 45) dX8_markOf_43 (by decide) rfl ?_
        refine z_goto (tgt := 50) dX8_markOf_45 (by decide) ?_
        refine m_callV_v (As := [_]) (q := 53) mk_X8_began dX8_markOf_50 wd_1083 wd_1085 wp_59 (ci := 8) rfl ⟨by decide, _, rfl⟩ (ev_X8_began _ _ _  (by repeat (first | exact hg | refine kOk_b ?_ | refine kOk_mk ?_ | refine kOk_cl ?_))) rfl (by decide) rfl (Nat.zero_le _) (Nat.zero_le _) rfl ?_
        refine z_aload_n (i := 0) (q := 54) dX8_markOf_53 rfl rfl rfl ?_
        refine z_bipush (v := 21) (q := 56) dX8_markOf_54 (by decide) rfl ?_
        refine m_callV_v (As := [_]) (q := 59) mk_X8_began dX8_markOf_56 wd_1083 wd_1085 wp_59 (ci := 8) rfl ⟨by decide, _, rfl⟩ (ev_X8_began _ _ _  (by repeat (first | exact hg | refine kOk_b ?_ | refine kOk_mk ?_ | refine kOk_cl ?_))) rfl (by decide) rfl (Nat.zero_le _) (Nat.zero_le _) rfl ?_
        refine z_aload_n (i := 0) (q := 60) dX8_markOf_59 rfl rfl rfl ?_
        refine z_bipush (v := 20) (q := 62) dX8_markOf_60 (by decide) rfl ?_
        refine m_callV_v (As := [_]) (q := 65) mk_X8_began dX8_markOf_62 wd_1083 wd_1085 wp_59 (ci := 8) rfl ⟨by decide, _, rfl⟩ (ev_X8_began _ _ _  (by repeat (first | exact hg | refine kOk_b ?_ | refine kOk_mk ?_ | refine kOk_cl ?_))) rfl (by decide) rfl (Nat.zero_le _) (Nat.zero_le _) rfl ?_
        refine z_iload_n (i := 1) (q := 66) dX8_markOf_65 rfl rfl rfl ?_
        refine z_aload_n (i := 0) (q := 67) dX8_markOf_66 rfl rfl rfl ?_
        refine z_iload_n (i := 1) (q := 68) dX8_markOf_67 rfl rfl rfl ?_
        refine z_iconst (v := 1) (q := 69) dX8_markOf_68 (by decide) rfl ?_
        refine m_callV_r (As := [_, _]) (q := 72) mk_X8_of dX8_markOf_69 wd_947 wd_949 wp_46 (ci := 8) rfl ⟨by decide, _, rfl⟩ (ev_X8_of _ _ p 1 (by omega) (by omega)) rfl (by simp [Value.category]) rfl (Nat.zero_le _) (Nat.zero_le _) rfl ?_
        refine z_iadd (q := 73) dX8_markOf_72 rfl ?_
        refine z_istore_n (i := 3) (ls' := [_, _, _, _]) (q := 74) dX8_markOf_73 rfl (by decide) rfl rfl ?_
        refine z_iload_n (i := 2) (q := 75) dX8_markOf_74 rfl rfl rfl ?_
        refine z_iconst (v := 1) (q := 76) dX8_markOf_75 (by decide) rfl ?_
        refine z_icmp_ne (tgt := 83) (q := 79) dX8_markOf_76 (by decide) rfl (fun c8 => ?_) (fun c8 => ?_)
        · skip
          refine z_iload_n (i := 2) (q := 84) dX8_markOf_83 rfl rfl rfl ?_
          refine z_iconst (v := 3) (q := 85) dX8_markOf_84 (by decide) rfl ?_
          refine z_icmp_ne (tgt := 96) (q := 88) dX8_markOf_85 (by decide) rfl (fun c9 => ?_) (fun c9 => ?_)
          · skip
            refine z_iconst (v := 2) (q := 97) dX8_markOf_96 (by decide) rfl ?_
            refine z_iload_n (i := 3) (q := 98) dX8_markOf_97 rfl rfl rfl ?_
            refine z_imul (q := 99) dX8_markOf_98 rfl ?_
            refine z_ireturn dX8_markOf_99 rfl rfl ?_ (Nat.le_refl _) (Nat.le_refl _)
            first | contradiction | (rw [show mMkM m p = mBegan (mBegan (mBegan m 22) 21) 20 from (if_pos c1).trans (congrArg (fun x => mBegan (mBegan x 21) 20) ((if_neg c2).trans (congrArg (mBegan m) (if_pos c5)))), show mMkR m p (nI p) = nI p + mOf m p 1 - 1000 from (if_pos c1).trans ((if_neg c2).trans (if_pos c5)), show mOf m p 1 = mOf (mBegan (mBegan (mBegan m 22) 21) 20) p 1 from by simp only [mof_b]]; rfl)
          · skip
            refine z_iload_n (i := 3) (q := 89) dX8_markOf_88 rfl rfl rfl ?_
            refine z_sipush (v := 1000) (q := 92) dX8_markOf_89 (by decide) rfl ?_
            refine z_isub (q := 93) dX8_markOf_92 rfl ?_
            refine z_goto (tgt := 99) dX8_markOf_93 (by decide) ?_
            refine z_ireturn dX8_markOf_99 rfl rfl ?_ (Nat.le_refl _) (Nat.le_refl _)
            first | contradiction | (rw [show mMkM m p = mBegan (mBegan (mBegan m 22) 21) 20 from (if_pos c1).trans (congrArg (fun x => mBegan (mBegan x 21) 20) ((if_neg c2).trans (congrArg (mBegan m) (if_pos c5)))), show mMkR m p (nI p) = nI p + mOf m p 1 - 1000 from (if_pos c1).trans ((if_neg c2).trans (if_pos c5)), show mOf m p 1 = mOf (mBegan (mBegan (mBegan m 22) 21) 20) p 1 from by simp only [mof_b]]; rfl)
        · skip
          refine z_iload_n (i := 3) (q := 80) dX8_markOf_79 rfl rfl rfl ?_
          refine z_goto (tgt := 99) dX8_markOf_80 (by decide) ?_
          refine z_ireturn dX8_markOf_99 rfl rfl ?_ (Nat.le_refl _) (Nat.le_refl _)
          first | contradiction | (rw [show mMkM m p = mBegan (mBegan (mBegan m 22) 21) 20 from (if_pos c1).trans (congrArg (fun x => mBegan (mBegan x 21) 20) ((if_neg c2).trans (congrArg (mBegan m) (if_pos c5)))), show mMkR m p (nI p) = nI p + mOf m p 1 - 1000 from (if_pos c1).trans ((if_neg c2).trans (if_pos c5)), show mOf m p 1 = mOf (mBegan (mBegan (mBegan m 22) 21) 20) p 1 from by simp only [mof_b]]; rfl)
  · skip
    refine z_aload_n (i := 0) (q := 13) dX8_markOf_12 rfl rfl rfl ?_
    refine z_bipush (v := 23) (q := 15) dX8_markOf_13 (by decide) rfl ?_
    refine m_callV_v (As := [_]) (q := 18) mk_X8_began dX8_markOf_15 wd_1083 wd_1085 wp_59 (ci := 8) rfl ⟨by decide, _, rfl⟩ (ev_X8_began _ _ _  (by repeat (first | exact hg | refine kOk_b ?_ | refine kOk_mk ?_ | refine kOk_cl ?_))) rfl (by decide) rfl (Nat.zero_le _) (Nat.zero_le _) rfl ?_
    refine z_aload_n (i := 0) (q := 19) dX8_markOf_18 rfl rfl rfl ?_
    refine z_bipush (v := 20) (q := 21) dX8_markOf_19 (by decide) rfl ?_
    refine m_callV_v (As := [_]) (q := 24) mk_X8_began dX8_markOf_21 wd_1083 wd_1085 wp_59 (ci := 8) rfl ⟨by decide, _, rfl⟩ (ev_X8_began _ _ _  (by repeat (first | exact hg | refine kOk_b ?_ | refine kOk_mk ?_ | refine kOk_cl ?_))) rfl (by decide) rfl (Nat.zero_le _) (Nat.zero_le _) rfl ?_
    refine z_iload_n (i := 1) (q := 25) dX8_markOf_24 rfl rfl rfl ?_
    refine z_aload_n (i := 0) (q := 26) dX8_markOf_25 rfl rfl rfl ?_
    refine z_iload_n (i := 1) (q := 27) dX8_markOf_26 rfl rfl rfl ?_
    refine m_callV_r (As := [_]) (q := 30) mk_X8_clerkSize dX8_markOf_27 wd_1079 wd_1081 wp_58 (ci := 8) rfl ⟨by decide, _, rfl⟩ (ev_X8_clerkSize _ _ _  (by repeat (first | exact hg | refine kOk_b ?_ | refine kOk_mk ?_ | refine kOk_cl ?_)) (by omega)) rfl (by simp [Value.category]) rfl (Nat.zero_le _) (Nat.zero_le _) rfl ?_
    refine z_isub (q := 31) dX8_markOf_30 rfl ?_
    refine z_ireturn dX8_markOf_31 rfl rfl ?_ (Nat.le_refl _) (Nat.le_refl _)
    rw [show mMkM m p = mClM (mBegan (mBegan m 23) 20) p from if_neg c1, show mMkR m p (nI p) = nI p - mClR m p from if_neg c1, show mClR m p = mClR (mBegan (mBegan m 23) 20) p from by rw [mClR_b, mClR_b]]
set_option maxHeartbeats 4000000 in
set_option maxRecDepth 100000 in
theorem ev_X8_sizeOf (d : Nat) (m : zm) (p : Nat) (hg : kOk m) (hp : p < 4) : zEv (d + 4) zM_X8_sizeOf 0 0 [.ref 180, .int (nI p)] (lay m) (some (.int (mSzR m p (nI p))), lay (mSzM m p)) := by
  refine zEv_of (by decide) (fun G => Nat.le_of_ble_eq_true rfl) ?_
  show ZW _ _ _ _ 0 [some (.ref 180), some (.int (nI p)), none, none] [] _ _ _ _
  refine z_aload_n (i := 0) (q := 1) dX8_sizeOf_0 rfl rfl rfl ?_
  refine z_iload_n (i := 1) (q := 2) dX8_sizeOf_1 rfl rfl rfl ?_
  refine z_iconst (v := 0) (q := 3) dX8_sizeOf_2 (by decide) rfl ?_
  refine m_callV_r (As := [_, _]) (q := 6) mk_X8_of dX8_sizeOf_3 wd_947 wd_949 wp_46 (ci := 8) rfl ⟨by decide, _, rfl⟩ (ev_X8_of _ _ p 0 (by omega) (by omega)) rfl (by decide) rfl (Nat.zero_le _) (Nat.zero_le _) rfl ?_
  refine z_istore_n (i := 2) (ls' := [_, _, _, _]) (q := 7) dX8_sizeOf_6 rfl (by decide) rfl rfl ?_
  refine z_iload_n (i := 2) (q := 8) dX8_sizeOf_7 rfl rfl rfl ?_
  refine z_iconst (v := 4) (q := 9) dX8_sizeOf_8 (by decide) rfl ?_
  refine z_icmp_lt (tgt := 18) (q := 12) dX8_sizeOf_9 (by decide) rfl (fun c1 => ?_) (fun c1 => ?_)
  · skip
    refine z_iload_n (i := 2) (q := 19) dX8_sizeOf_18 rfl rfl rfl ?_
    refine z_iconst (v := 2) (q := 20) dX8_sizeOf_19 (by decide) rfl ?_
    refine z_icmp_ne (tgt := 29) (q := 23) dX8_sizeOf_20 (by decide) rfl (fun c2 => ?_) (fun c2 => ?_)
    · skip
      refine z_aload_n (i := 0) (q := 30) dX8_sizeOf_29 rfl rfl rfl ?_
      refine z_bipush (v := 11) (q := 32) dX8_sizeOf_30 (by decide) rfl ?_
      refine m_callV_v (As := [_]) (q := 35) mk_X8_began dX8_sizeOf_32 wd_1083 wd_1085 wp_59 (ci := 8) rfl ⟨by decide, _, rfl⟩ (ev_X8_began _ _ _  (by repeat (first | exact hg | refine kOk_b ?_ | refine kOk_mk ?_ | refine kOk_cl ?_))) rfl (by decide) rfl (Nat.zero_le _) (Nat.zero_le _) rfl ?_
      refine z_aload_n (i := 0) (q := 36) dX8_sizeOf_35 rfl rfl rfl ?_
      refine z_iload_n (i := 1) (q := 37) dX8_sizeOf_36 rfl rfl rfl ?_
      refine m_callV_r (As := [_]) (q := 40) mk_X8_plainSize dX8_sizeOf_37 wd_1087 wd_1089 wp_60 (ci := 8) rfl ⟨by decide, _, rfl⟩ (ev_X8_plainSize _ _ _  (by repeat (first | exact hg | refine kOk_b ?_ | refine kOk_mk ?_ | refine kOk_cl ?_)) (by omega)) rfl (by decide) rfl (Nat.zero_le _) (Nat.zero_le _) rfl ?_
      refine z_istore_n (i := 3) (ls' := [_, _, _, _]) (q := 41) dX8_sizeOf_40 rfl (by decide) rfl rfl ?_
      refine z_iload_n (i := 3) (q := 42) dX8_sizeOf_41 rfl rfl rfl ?_
      refine z_aload_n (i := 0) (q := 43) dX8_sizeOf_42 rfl rfl rfl ?_
      refine z_iload_n (i := 1) (q := 44) dX8_sizeOf_43 rfl rfl rfl ?_
      refine m_callV_r (As := [_]) (q := 47) mk_X8_markOf dX8_sizeOf_44 wd_1091 wd_1093 wp_61 (ci := 8) rfl ⟨by decide, _, rfl⟩ (ev_X8_markOf _ _ _  (by repeat (first | exact hg | refine kOk_b ?_ | refine kOk_mk ?_ | refine kOk_cl ?_)) (by omega)) rfl (by simp [Value.category]) rfl (Nat.zero_le _) (Nat.zero_le _) rfl ?_
      refine z_iadd (q := 48) dX8_sizeOf_47 rfl ?_
      refine z_istore_n (i := 3) (ls' := [_, _, _, _]) (q := 49) dX8_sizeOf_48 rfl (by decide) rfl rfl ?_
      refine z_iload_n (i := 2) (q := 50) dX8_sizeOf_49 rfl rfl rfl ?_
      refine z_iconst (v := 2) (q := 51) dX8_sizeOf_50 (by decide) rfl ?_
      refine z_icmp_ne (tgt := 59) (q := 54) dX8_sizeOf_51 (by decide) rfl (fun c3 => ?_) (fun c3 => ?_)
      · skip
        refine z_iload_n (i := 3) (q := 60) dX8_sizeOf_59 rfl rfl rfl ?_
        refine z_ireturn dX8_sizeOf_60 rfl rfl ?_ (Nat.le_refl _) (Nat.le_refl _)
        first | contradiction | (rw [show mSzM m p = mMkM (mBegan (mBegan m 11) 10) p from (if_pos c1).trans (congrArg (fun x => mMkM (mBegan (mBegan x 11) 10) p) (if_neg c2)), show mSzR m p (nI p) = mOf m p 4 + mMkR m p (nI p) from (if_pos c1).trans (if_neg c2), show mMkR m p (nI p) = mMkR (mBegan (mBegan m 11) 10) p (nI p) from by simp only [mMkR_b], show mOf m p 4 = mOf (mBegan m 11) p 4 from by simp only [mof_b]]; rfl) | (rw [show mSzM m p = mMkM (mBegan (mBegan m 11) 10) p from (if_pos c1).trans (congrArg (fun x => mMkM (mBegan (mBegan x 11) 10) p) (if_neg c2)), show mSzR m p (nI p) = mOf m p 4 + mMkR m p (nI p) from (if_pos c1).trans (if_neg c2), show mMkR m p (nI p) = mMkR (mBegan (mBegan m 11) 10) p (nI p) from by simp only [mMkR_b], show mOf m p 4 = mOf (mBegan m 11) p 4 from by simp only [mof_b]])
      · skip
        refine z_iload_n (i := 3) (q := 55) dX8_sizeOf_54 rfl rfl rfl ?_
        refine z_ineg (q := 56) dX8_sizeOf_55 rfl ?_
        refine z_goto (tgt := 60) dX8_sizeOf_56 (by decide) ?_
        refine z_ireturn dX8_sizeOf_60 rfl rfl ?_ (Nat.le_refl _) (Nat.le_refl _)
        first | contradiction | (rw [show mSzM m p = mMkM (mBegan (mBegan m 11) 10) p from (if_pos c1).trans (congrArg (fun x => mMkM (mBegan (mBegan x 11) 10) p) (if_neg c2)), show mSzR m p (nI p) = mOf m p 4 + mMkR m p (nI p) from (if_pos c1).trans (if_neg c2), show mMkR m p (nI p) = mMkR (mBegan (mBegan m 11) 10) p (nI p) from by simp only [mMkR_b], show mOf m p 4 = mOf (mBegan m 11) p 4 from by simp only [mof_b]]; rfl) | (rw [show mSzM m p = mMkM (mBegan (mBegan m 11) 10) p from (if_pos c1).trans (congrArg (fun x => mMkM (mBegan (mBegan x 11) 10) p) (if_neg c2)), show mSzR m p (nI p) = mOf m p 4 + mMkR m p (nI p) from (if_pos c1).trans (if_neg c2), show mMkR m p (nI p) = mMkR (mBegan (mBegan m 11) 10) p (nI p) from by simp only [mMkR_b], show mOf m p 4 = mOf (mBegan m 11) p 4 from by simp only [mof_b]])
    · skip
      refine z_aload_n (i := 0) (q := 24) dX8_sizeOf_23 rfl rfl rfl ?_
      refine z_bipush (v := 12) (q := 26) dX8_sizeOf_24 (by decide) rfl ?_
      refine m_callV_v (As := [_]) (q := 29) mk_X8_began dX8_sizeOf_26 wd_1083 wd_1085 wp_59 (ci := 8) rfl ⟨by decide, _, rfl⟩ (ev_X8_began _ _ _  (by repeat (first | exact hg | refine kOk_b ?_ | refine kOk_mk ?_ | refine kOk_cl ?_))) rfl (by decide) rfl (Nat.zero_le _) (Nat.zero_le _) rfl ?_
      refine z_aload_n (i := 0) (q := 30) dX8_sizeOf_29 rfl rfl rfl ?_
      refine z_bipush (v := 11) (q := 32) dX8_sizeOf_30 (by decide) rfl ?_
      refine m_callV_v (As := [_]) (q := 35) mk_X8_began dX8_sizeOf_32 wd_1083 wd_1085 wp_59 (ci := 8) rfl ⟨by decide, _, rfl⟩ (ev_X8_began _ _ _  (by repeat (first | exact hg | refine kOk_b ?_ | refine kOk_mk ?_ | refine kOk_cl ?_))) rfl (by decide) rfl (Nat.zero_le _) (Nat.zero_le _) rfl ?_
      refine z_aload_n (i := 0) (q := 36) dX8_sizeOf_35 rfl rfl rfl ?_
      refine z_iload_n (i := 1) (q := 37) dX8_sizeOf_36 rfl rfl rfl ?_
      refine m_callV_r (As := [_]) (q := 40) mk_X8_plainSize dX8_sizeOf_37 wd_1087 wd_1089 wp_60 (ci := 8) rfl ⟨by decide, _, rfl⟩ (ev_X8_plainSize _ _ _  (by repeat (first | exact hg | refine kOk_b ?_ | refine kOk_mk ?_ | refine kOk_cl ?_)) (by omega)) rfl (by decide) rfl (Nat.zero_le _) (Nat.zero_le _) rfl ?_
      refine z_istore_n (i := 3) (ls' := [_, _, _, _]) (q := 41) dX8_sizeOf_40 rfl (by decide) rfl rfl ?_
      refine z_iload_n (i := 3) (q := 42) dX8_sizeOf_41 rfl rfl rfl ?_
      refine z_aload_n (i := 0) (q := 43) dX8_sizeOf_42 rfl rfl rfl ?_
      refine z_iload_n (i := 1) (q := 44) dX8_sizeOf_43 rfl rfl rfl ?_
      refine m_callV_r (As := [_]) (q := 47) mk_X8_markOf dX8_sizeOf_44 wd_1091 wd_1093 wp_61 (ci := 8) rfl ⟨by decide, _, rfl⟩ (ev_X8_markOf _ _ _  (by repeat (first | exact hg | refine kOk_b ?_ | refine kOk_mk ?_ | refine kOk_cl ?_)) (by omega)) rfl (by simp [Value.category]) rfl (Nat.zero_le _) (Nat.zero_le _) rfl ?_
      refine z_iadd (q := 48) dX8_sizeOf_47 rfl ?_
      refine z_istore_n (i := 3) (ls' := [_, _, _, _]) (q := 49) dX8_sizeOf_48 rfl (by decide) rfl rfl ?_
      refine z_iload_n (i := 2) (q := 50) dX8_sizeOf_49 rfl rfl rfl ?_
      refine z_iconst (v := 2) (q := 51) dX8_sizeOf_50 (by decide) rfl ?_
      refine z_icmp_ne (tgt := 59) (q := 54) dX8_sizeOf_51 (by decide) rfl (fun c4 => ?_) (fun c4 => ?_)
      · skip
        refine z_iload_n (i := 3) (q := 60) dX8_sizeOf_59 rfl rfl rfl ?_
        refine z_ireturn dX8_sizeOf_60 rfl rfl ?_ (Nat.le_refl _) (Nat.le_refl _)
        first | contradiction | (rw [show mSzM m p = mMkM (mBegan (mBegan (mBegan m 12) 11) 10) p from (if_pos c1).trans (congrArg (fun x => mMkM (mBegan (mBegan x 11) 10) p) (if_pos c2)), show mSzR m p (nI p) = -(mOf m p 4 + mMkR m p (nI p)) from (if_pos c1).trans (if_pos c2), show mMkR m p (nI p) = mMkR (mBegan (mBegan (mBegan m 12) 11) 10) p (nI p) from by simp only [mMkR_b], show mOf m p 4 = mOf (mBegan (mBegan m 12) 11) p 4 from by simp only [mof_b]]; rfl) | (rw [show mSzM m p = mMkM (mBegan (mBegan (mBegan m 12) 11) 10) p from (if_pos c1).trans (congrArg (fun x => mMkM (mBegan (mBegan x 11) 10) p) (if_pos c2)), show mSzR m p (nI p) = -(mOf m p 4 + mMkR m p (nI p)) from (if_pos c1).trans (if_pos c2), show mMkR m p (nI p) = mMkR (mBegan (mBegan (mBegan m 12) 11) 10) p (nI p) from by simp only [mMkR_b], show mOf m p 4 = mOf (mBegan (mBegan m 12) 11) p 4 from by simp only [mof_b]])
      · skip
        refine z_iload_n (i := 3) (q := 55) dX8_sizeOf_54 rfl rfl rfl ?_
        refine z_ineg (q := 56) dX8_sizeOf_55 rfl ?_
        refine z_goto (tgt := 60) dX8_sizeOf_56 (by decide) ?_
        refine z_ireturn dX8_sizeOf_60 rfl rfl ?_ (Nat.le_refl _) (Nat.le_refl _)
        first | contradiction | (rw [show mSzM m p = mMkM (mBegan (mBegan (mBegan m 12) 11) 10) p from (if_pos c1).trans (congrArg (fun x => mMkM (mBegan (mBegan x 11) 10) p) (if_pos c2)), show mSzR m p (nI p) = -(mOf m p 4 + mMkR m p (nI p)) from (if_pos c1).trans (if_pos c2), show mMkR m p (nI p) = mMkR (mBegan (mBegan (mBegan m 12) 11) 10) p (nI p) from by simp only [mMkR_b], show mOf m p 4 = mOf (mBegan (mBegan m 12) 11) p 4 from by simp only [mof_b]]; rfl) | (rw [show mSzM m p = mMkM (mBegan (mBegan (mBegan m 12) 11) 10) p from (if_pos c1).trans (congrArg (fun x => mMkM (mBegan (mBegan x 11) 10) p) (if_pos c2)), show mSzR m p (nI p) = -(mOf m p 4 + mMkR m p (nI p)) from (if_pos c1).trans (if_pos c2), show mMkR m p (nI p) = mMkR (mBegan (mBegan (mBegan m 12) 11) 10) p (nI p) from by simp only [mMkR_b], show mOf m p 4 = mOf (mBegan (mBegan m 12) 11) p 4 from by simp only [mof_b]])
  · skip
    refine z_aload_n (i := 0) (q := 13) dX8_sizeOf_12 rfl rfl rfl ?_
    refine z_iload_n (i := 1) (q := 14) dX8_sizeOf_13 rfl rfl rfl ?_
    refine m_callV_r (As := [_]) (q := 17) mk_X8_clerkSize dX8_sizeOf_14 wd_1079 wd_1081 wp_58 (ci := 8) rfl ⟨by decide, _, rfl⟩ (ev_X8_clerkSize _ _ _  (by repeat (first | exact hg | refine kOk_b ?_ | refine kOk_mk ?_ | refine kOk_cl ?_)) (by omega)) rfl (by decide) rfl (Nat.zero_le _) (Nat.zero_le _) rfl ?_
    refine z_ireturn dX8_sizeOf_17 rfl rfl ?_ (Nat.le_refl _) (Nat.le_refl _)
    rw [show mSzM m p = mClM m p from if_neg c1, show mSzR m p (nI p) = mClR m p from if_neg c1]
abbrev mAsk0 (m : zm) : zm := upI (mT m) 180 24 0
theorem kOk_0 (m : zm) : kOk (mAsk0 m) := ⟨0, by omega, upI_eq _ _ _ _⟩
def mAskR (m : zm) (p : Nat) (z : Int32) : Int32 := if z = 0 then mSzR (mAsk0 m) p (nI p) else mMkR (mAsk0 m) p (nI p)
def mAskM (m : zm) (p : Nat) (z : Int32) : zm := if z = 0 then mSzM (mAsk0 m) p else mMkM (mAsk0 m) p
set_option maxHeartbeats 4000000 in
set_option maxRecDepth 100000 in
theorem ev_X8_ask_bad (d : Nat) (m : zm) (p : Int32) (z : Int32) (hb : (p < 0 ∨ m.1 184 3 - 1 < p) ∨ (z < 0 ∨ 1 < z)) : zEv (d + 5) zM_X8_ask 0 0 [.ref 180, .int p, .int z] (lay m) (some (.int (-1000001)), lay (mT m)) := by
  refine zEv_of (by decide) (fun G => Nat.le_of_ble_eq_true rfl) ?_
  show ZW _ _ _ _ 0 [some (.ref 180), some (.int p), some (.int z)] [] _ _ _ _
  refine z_aload_n (i := 0) (q := 1) dX8_ask_0 rfl rfl rfl ?_
  refine z_iconst (v := 0) (q := 2) dX8_ask_1 (by decide) rfl ?_
  refine m_putI (q := 5) dX8_ask_2 fp_X8_48 ⟨by decide, _, rfl, rfl⟩ ⟨rfl, rfl⟩ rfl ?_
  refine z_aload_n (i := 0) (q := 6) dX8_ask_5 rfl rfl rfl ?_
  refine z_iload_n (i := 1) (q := 7) dX8_ask_6 rfl rfl rfl ?_
  refine m_callV_r (As := [_]) (q := 10) mk_X8_isPerson dX8_ask_7 wd_935 wd_937 wp_43 (ci := 8) rfl ⟨by decide, _, rfl⟩ (ev_X8_isPerson _ _ _) rfl (by decide) rfl (Nat.zero_le _) (Nat.zero_le _) rfl ?_
  refine zb_eq (tgt := 23) (q := 13) dX8_ask_10 (by decide) rfl (fun c1 => ?_) (fun c1 => ?_)
  · skip
    refine z_ldc (q := 25) dX8_ask_23 wd_831 rfl ?_
    refine z_ireturn dX8_ask_25 rfl rfl ?_ (Nat.le_refl _) (Nat.le_refl _)
    rfl
  · skip
    refine z_iload_n (i := 2) (q := 14) dX8_ask_13 rfl rfl rfl ?_
    refine z_i2l (q := 15) dX8_ask_14 rfl ?_
    refine z_lconst (v := 0) (q := 16) dX8_ask_15 (by decide) rfl ?_
    refine z_lconst (v := 1) (q := 17) dX8_ask_16 (by decide) rfl ?_
    refine m_callS_r (As := [_, _, _]) (q := 20) mk_X8_in dX8_ask_17 wd_827 wd_828 (ev_X8_in _ _ _ (0) (1) (by decide) (by decide)) rfl (by decide) rfl (Nat.zero_le _) (Nat.zero_le _) rfl ?_
    refine zb_ne (tgt := 26) (q := 23) dX8_ask_20 (by decide) rfl (fun c2 => ?_) (fun c2 => ?_)
    · exact absurd hb (fun q => q.elim c1 c2)
    · skip
      refine z_ldc (q := 25) dX8_ask_23 wd_831 rfl ?_
      refine z_ireturn dX8_ask_25 rfl rfl ?_ (Nat.le_refl _) (Nat.le_refl _)
      rfl
set_option maxHeartbeats 4000000 in
set_option maxRecDepth 100000 in
theorem ev_X8_ask (d : Nat) (m : zm) (p : Nat) (z : Int32) (hn : ¬ (nI p < 0 ∨ m.1 184 3 - 1 < nI p)) (h1 : ¬ (z < 0 ∨ 1 < z)) (hp : p < 4) : zEv (d + 5) zM_X8_ask 0 0 [.ref 180, .int (nI p), .int z] (lay m) (some (.int (mAskR m p z)), lay (mAskM m p z)) := by
  refine zEv_of (by decide) (fun G => Nat.le_of_ble_eq_true rfl) ?_
  show ZW _ _ _ _ 0 [some (.ref 180), some (.int (nI p)), some (.int z)] [] _ _ _ _
  refine z_aload_n (i := 0) (q := 1) dX8_ask_0 rfl rfl rfl ?_
  refine z_iconst (v := 0) (q := 2) dX8_ask_1 (by decide) rfl ?_
  refine m_putI (q := 5) dX8_ask_2 fp_X8_48 ⟨by decide, _, rfl, rfl⟩ ⟨rfl, rfl⟩ rfl ?_
  refine z_aload_n (i := 0) (q := 6) dX8_ask_5 rfl rfl rfl ?_
  refine z_iload_n (i := 1) (q := 7) dX8_ask_6 rfl rfl rfl ?_
  refine m_callV_r (As := [_]) (q := 10) mk_X8_isPerson dX8_ask_7 wd_935 wd_937 wp_43 (ci := 8) rfl ⟨by decide, _, rfl⟩ (ev_X8_isPerson _ _ _) rfl (by decide) rfl (Nat.zero_le _) (Nat.zero_le _) rfl ?_
  refine zb_eq (tgt := 23) (q := 13) dX8_ask_10 (by decide) rfl (fun c1 => ?_) (fun c1 => ?_)
  · exact absurd hn c1
  · skip
    refine z_iload_n (i := 2) (q := 14) dX8_ask_13 rfl rfl rfl ?_
    refine z_i2l (q := 15) dX8_ask_14 rfl ?_
    refine z_lconst (v := 0) (q := 16) dX8_ask_15 (by decide) rfl ?_
    refine z_lconst (v := 1) (q := 17) dX8_ask_16 (by decide) rfl ?_
    refine m_callS_r (As := [_, _, _]) (q := 20) mk_X8_in dX8_ask_17 wd_827 wd_828 (ev_X8_in _ _ _ (0) (1) (by decide) (by decide)) rfl (by decide) rfl (Nat.zero_le _) (Nat.zero_le _) rfl ?_
    refine zb_ne (tgt := 26) (q := 23) dX8_ask_20 (by decide) rfl (fun c2 => ?_) (fun c2 => ?_)
    · skip
      refine z_aload_n (i := 0) (q := 27) dX8_ask_26 rfl rfl rfl ?_
      refine z_iconst (v := 0) (q := 28) dX8_ask_27 (by decide) rfl ?_
      refine m_putI (q := 31) dX8_ask_28 fp_X8_243 ⟨by decide, _, rfl, rfl⟩ ⟨rfl, rfl⟩ rfl ?_
      refine z_iload_n (i := 2) (q := 32) dX8_ask_31 rfl rfl rfl ?_
      refine z_if_ne (tgt := 43) (q := 35) dX8_ask_32 (by decide) rfl (fun c3 => ?_) (fun c3 => ?_)
      · skip
        refine z_aload_n (i := 0) (q := 44) dX8_ask_43 rfl rfl rfl ?_
        refine z_iload_n (i := 1) (q := 45) dX8_ask_44 rfl rfl rfl ?_
        refine m_callV_r (As := [_]) (q := 48) mk_X8_markOf dX8_ask_45 wd_1091 wd_1093 wp_61 (ci := 8) rfl ⟨by decide, _, rfl⟩ (ev_X8_markOf _ _ _  (kOk_0 m) (by omega)) rfl (by decide) rfl (Nat.zero_le _) (Nat.zero_le _) rfl ?_
        refine z_ireturn dX8_ask_48 rfl rfl ?_ (Nat.le_refl _) (Nat.le_refl _)
        rw [show mAskR m p z = _ from if_neg c3, show mAskM m p z = _ from if_neg c3]
      · skip
        refine z_aload_n (i := 0) (q := 36) dX8_ask_35 rfl rfl rfl ?_
        refine z_iload_n (i := 1) (q := 37) dX8_ask_36 rfl rfl rfl ?_
        refine m_callV_r (As := [_]) (q := 40) mk_X8_sizeOf dX8_ask_37 wd_1075 wd_1077 wp_57 (ci := 8) rfl ⟨by decide, _, rfl⟩ (ev_X8_sizeOf _ _ _  (kOk_0 m) (by omega)) rfl (by decide) rfl (Nat.zero_le _) (Nat.zero_le _) rfl ?_
        refine z_goto (tgt := 48) dX8_ask_40 (by decide) ?_
        refine z_ireturn dX8_ask_48 rfl rfl ?_ (Nat.le_refl _) (Nat.le_refl _)
        rw [show mAskR m p z = _ from if_pos c3, show mAskM m p z = _ from if_pos c3]
    · exact absurd h1 c2
set_option maxHeartbeats 4000000 in
set_option maxRecDepth 100000 in
theorem ev_X8_trace_none (d : Nat) (m : zm) (i : Int32) (hb : i < 0 ∨ m.1 180 24 - 1 < i) : zEv (d + 1) zM_X8_trace 0 0 [.ref 180, .int i] (lay m) (some (.int (-1000000)), lay (mT m)) := by
  refine zEv_of (by decide) (fun G => Nat.le_of_ble_eq_true rfl) ?_
  show ZW _ _ _ _ 0 [some (.ref 180), some (.int i)] [] _ _ _ _
  refine z_aload_n (i := 0) (q := 1) dX8_trace_0 rfl rfl rfl ?_
  refine z_iconst (v := 0) (q := 2) dX8_trace_1 (by decide) rfl ?_
  refine m_putI (q := 5) dX8_trace_2 fp_X8_48 ⟨by decide, _, rfl, rfl⟩ ⟨rfl, rfl⟩ rfl ?_
  refine z_iload_n (i := 1) (q := 6) dX8_trace_5 rfl rfl rfl ?_
  refine z_i2l (q := 7) dX8_trace_6 rfl ?_
  refine z_lconst (v := 0) (q := 8) dX8_trace_7 (by decide) rfl ?_
  refine z_aload_n (i := 0) (q := 9) dX8_trace_8 rfl rfl rfl ?_
  refine m_getI (q := 12) dX8_trace_9 fl_X8_243 ⟨by decide, _, rfl, rfl⟩ rfl ?_
  refine z_iconst (v := 1) (q := 13) dX8_trace_12 (by decide) rfl ?_
  refine z_isub (q := 14) dX8_trace_13 rfl ?_
  refine z_i2l (q := 15) dX8_trace_14 rfl ?_
  refine m_callS_r (As := [_, _, _]) (q := 18) mk_X8_in dX8_trace_15 wd_827 wd_828 (ev_X8_in _ _ _ (0) _ (by decide) rfl) rfl (by decide) rfl (Nat.zero_le _) (Nat.zero_le _) rfl ?_
  refine zb_eq (tgt := 30) (q := 21) dX8_trace_18 (by decide) rfl (fun c1 => ?_) (fun c1 => ?_)
  · skip
    refine z_ldc (q := 32) dX8_trace_30 wd_872 rfl ?_
    refine z_ireturn dX8_trace_32 rfl rfl ?_ (Nat.le_refl _) (Nat.le_refl _)
    rfl
  · exact absurd hb c1
set_option maxHeartbeats 4000000 in
set_option maxRecDepth 100000 in
theorem ev_X8_trace (d : Nat) (m : zm) (i : Nat) (hn : ¬ (nI i < 0 ∨ m.1 180 24 - 1 < nI i)) (hi : i < 16) : zEv (d + 1) zM_X8_trace 0 0 [.ref 180, .int (nI i)] (lay m) (some (.int (m.1 192 i)), lay (mT m)) := by
  refine zEv_of (by decide) (fun G => Nat.le_of_ble_eq_true rfl) ?_
  show ZW _ _ _ _ 0 [some (.ref 180), some (.int (nI i))] [] _ _ _ _
  refine z_aload_n (i := 0) (q := 1) dX8_trace_0 rfl rfl rfl ?_
  refine z_iconst (v := 0) (q := 2) dX8_trace_1 (by decide) rfl ?_
  refine m_putI (q := 5) dX8_trace_2 fp_X8_48 ⟨by decide, _, rfl, rfl⟩ ⟨rfl, rfl⟩ rfl ?_
  refine z_iload_n (i := 1) (q := 6) dX8_trace_5 rfl rfl rfl ?_
  refine z_i2l (q := 7) dX8_trace_6 rfl ?_
  refine z_lconst (v := 0) (q := 8) dX8_trace_7 (by decide) rfl ?_
  refine z_aload_n (i := 0) (q := 9) dX8_trace_8 rfl rfl rfl ?_
  refine m_getI (q := 12) dX8_trace_9 fl_X8_243 ⟨by decide, _, rfl, rfl⟩ rfl ?_
  refine z_iconst (v := 1) (q := 13) dX8_trace_12 (by decide) rfl ?_
  refine z_isub (q := 14) dX8_trace_13 rfl ?_
  refine z_i2l (q := 15) dX8_trace_14 rfl ?_
  refine m_callS_r (As := [_, _, _]) (q := 18) mk_X8_in dX8_trace_15 wd_827 wd_828 (ev_X8_in _ _ _ (0) _ (by decide) rfl) rfl (by decide) rfl (Nat.zero_le _) (Nat.zero_le _) rfl ?_
  refine zb_eq (tgt := 30) (q := 21) dX8_trace_18 (by decide) rfl (fun c1 => ?_) (fun c1 => ?_)
  · exact absurd hn c1
  · skip
    refine z_aload_n (i := 0) (q := 22) dX8_trace_21 rfl rfl rfl ?_
    refine m_getR (r := 192) (q := 25) dX8_trace_22 fl_X8_45 ⟨by decide, _, rfl, rfl⟩ rfl ?_
    refine z_iload_n (i := 1) (q := 26) dX8_trace_25 rfl rfl rfl ?_
    refine m_ialdJ (N := 16) (q := 27) dX8_trace_26 ⟨by decide, _, rfl⟩ (j := i) (nI_clamp (by omega)) (vp_in_nI (by omega) (by decide)) rfl ?_
    refine z_goto (tgt := 32) dX8_trace_27 (by decide) ?_
    refine z_ireturn dX8_trace_32 rfl rfl ?_ (Nat.le_refl _) (Nat.le_refl _)
    rfl
def mRowsL (m : zm) : Nat → Nat → Int32 → Int32
  | 0, _, n => n
  | k + 1, r, n => mRowsL m k (r + 1) (n + (if m.1 181 r < 0 then 0 else 1))
def mCount (m : zm) (z : Int32) : Int32 := if z = 0 then mRowsL m 8 0 0 else if z = 1 then m.1 184 3 else if z = 2 then m.1 184 2 else if z = 3 then m.1 184 0 else if z = 4 then m.1 180 8 else if z = 5 then m.1 184 1 else if z = 6 then m.1 180 10 else -1000001
set_option maxHeartbeats 4000000 in
set_option maxRecDepth 100000 in
theorem lp_X8_rows (d : Nat) (m : zm) (z : Int32) : ∀ (n : Nat) (r : Nat) (n0 : Int32), 8 - r < n → r ≤ 8 → ZW zM_X8_count (d) 0 0 54 [some (.ref 180), some (.int z), some (.int n0), some (.int (nI r))] [] (lay m) 0 0 (some (.int (mRowsL m (8 - r) r n0)), lay m) := by
  intro n
  induction n with
  | zero => intro r n0 hm; exact absurd hm (by omega)
  | succ n ih =>
    intro r n0 hm hr
    refine z_iload_n (i := 3) (q := 55) dX8_count_54 rfl rfl rfl ?_
    refine z_bipush (v := 8) (q := 57) dX8_count_55 (by decide) rfl ?_
    refine z_icmp_ge (tgt := 83) (q := 60) dX8_count_57 (by decide) rfl (fun c1 => ?_) (fun c1 => ?_)
    · skip
      have hge : 8 ≤ r := (nI_leI (a := 8) (b := r) (by omega) (by omega)).mp c1
      rw [show 8 - r = 0 by omega]
      refine z_iload_n (i := 2) (q := 84) dX8_count_83 rfl rfl rfl ?_
      refine z_ireturn dX8_count_84 rfl rfl ?_ (Nat.le_refl _) (Nat.le_refl _)
      rfl
    · skip
      have hlt : r < 8 := by
        rcases Nat.lt_or_ge r 8 with q | q
        · exact q
        · exact absurd ((nI_leI (a := 8) (b := r) (by omega) (by omega)).mpr q) c1
      refine z_iload_n (i := 2) (q := 61) dX8_count_60 rfl rfl rfl ?_
      refine z_aload_n (i := 0) (q := 62) dX8_count_61 rfl rfl rfl ?_
      refine m_getR (r := 181) (q := 65) dX8_count_62 fl_X8_7 ⟨by decide, _, rfl, rfl⟩ rfl ?_
      refine z_iload_n (i := 3) (q := 66) dX8_count_65 rfl rfl rfl ?_
      refine m_ialdJ (N := 8) (q := 67) dX8_count_66 ⟨by decide, _, rfl⟩ (j := r) (nI_clamp (by omega)) (vp_in_nI (by omega) (by decide)) rfl ?_
      refine z_if_lt (tgt := 74) (q := 70) dX8_count_67 (by decide) rfl (fun c2 => ?_) (fun c2 => ?_)
      · skip
        refine z_iconst (v := 0) (q := 75) dX8_count_74 (by decide) rfl ?_
        refine z_iadd (q := 76) dX8_count_75 rfl ?_
        refine z_istore_n (i := 2) (ls' := [_, _, _, _]) (q := 77) dX8_count_76 rfl (by decide) rfl rfl ?_
        refine z_iinc (i := 3) (ls' := [_, _, _, _]) (v := nI (r + 1)) (q := 80) dX8_count_77 rfl (nI_1 _) (by decide) rfl rfl ?_
        refine z_goto (tgt := 54) dX8_count_80 (by decide) ?_
        rw [show 8 - r = (8 - (r + 1)) + 1 by omega, mRowsL, if_pos c2]
        exact ih (r + 1) _ (by omega) (by omega)
      · skip
        refine z_iconst (v := 1) (q := 71) dX8_count_70 (by decide) rfl ?_
        refine z_goto (tgt := 75) dX8_count_71 (by decide) ?_
        refine z_iadd (q := 76) dX8_count_75 rfl ?_
        refine z_istore_n (i := 2) (ls' := [_, _, _, _]) (q := 77) dX8_count_76 rfl (by decide) rfl rfl ?_
        refine z_iinc (i := 3) (ls' := [_, _, _, _]) (v := nI (r + 1)) (q := 80) dX8_count_77 rfl (nI_1 _) (by decide) rfl rfl ?_
        refine z_goto (tgt := 54) dX8_count_80 (by decide) ?_
        rw [show 8 - r = (8 - (r + 1)) + 1 by omega, mRowsL, if_neg c2]
        exact ih (r + 1) _ (by omega) (by omega)
set_option maxHeartbeats 4000000 in
set_option maxRecDepth 100000 in
theorem ev_X8_count (d : Nat) (m : zm) (z : Int32) : zEv (d) zM_X8_count 0 0 [.ref 180, .int z] (lay m) (some (.int (mCount (mT m) z)), lay (mT m)) := by
  refine zEv_of (by decide) (fun G => Nat.le_of_ble_eq_true rfl) ?_
  show ZW _ _ _ _ 0 [some (.ref 180), some (.int z), none, none] [] _ _ _ _
  refine z_aload_n (i := 0) (q := 1) dX8_count_0 rfl rfl rfl ?_
  refine z_iconst (v := 0) (q := 2) dX8_count_1 (by decide) rfl ?_
  refine m_putI (q := 5) dX8_count_2 fp_X8_48 ⟨by decide, _, rfl, rfl⟩ ⟨rfl, rfl⟩ rfl ?_
  refine z_iconst (v := 0) (q := 6) dX8_count_5 (by decide) rfl ?_
  refine z_istore_n (i := 2) (ls' := [_, _, _, _]) (q := 7) dX8_count_6 rfl (by decide) rfl rfl ?_
  refine z_iload_n (i := 1) (q := 8) dX8_count_7 rfl rfl rfl ?_
  refine z_table (tgts := [52, 85, 92, 99, 106, 111, 118]) (dt := 123) dX8_count_8 (by decide) (by decide) (by decide) (fun j t ht c1 => ?_) (fun c1 => ?_)
  · match j, ht, c1 with
    | 0, ht, c1 =>
      cases ht
      have c1 : _ = (0 : Int32) := Int32.toInt_inj.mp c1
      refine z_iconst (v := 0) (q := 53) dX8_count_52 (by decide) rfl ?_
      refine z_istore_n (i := 3) (ls' := [_, _, _, _]) (q := 54) dX8_count_53 rfl (by decide) rfl rfl ?_
      rw [show mCount (mT m) z = mRowsL (mT m) (8 - 0) 0 0 from if_pos c1]
      exact lp_X8_rows d (mT m) z (8 + 1) 0 0 (by omega) (by omega)
    | 1, ht, c1 =>
      cases ht
      have c1 : _ = (1 : Int32) := Int32.toInt_inj.mp c1
      refine z_aload_n (i := 0) (q := 86) dX8_count_85 rfl rfl rfl ?_
      refine m_getR (r := 184) (q := 89) dX8_count_86 fl_X8_19 ⟨by decide, _, rfl, rfl⟩ rfl ?_
      refine z_iconst (v := 3) (q := 90) dX8_count_89 (by decide) rfl ?_
      refine m_ialdJ (N := 68) (q := 91) dX8_count_90 ⟨by decide, _, rfl⟩ (j := 3) (by decide) (vp_c (by decide)) rfl ?_
      refine z_ireturn dX8_count_91 rfl rfl ?_ (Nat.le_refl _) (Nat.le_refl _)
      simp [mCount, c1]
    | 2, ht, c1 =>
      cases ht
      have c1 : _ = (2 : Int32) := Int32.toInt_inj.mp c1
      refine z_aload_n (i := 0) (q := 93) dX8_count_92 rfl rfl rfl ?_
      refine m_getR (r := 184) (q := 96) dX8_count_93 fl_X8_19 ⟨by decide, _, rfl, rfl⟩ rfl ?_
      refine z_iconst (v := 2) (q := 97) dX8_count_96 (by decide) rfl ?_
      refine m_ialdJ (N := 68) (q := 98) dX8_count_97 ⟨by decide, _, rfl⟩ (j := 2) (by decide) (vp_c (by decide)) rfl ?_
      refine z_ireturn dX8_count_98 rfl rfl ?_ (Nat.le_refl _) (Nat.le_refl _)
      simp [mCount, c1]
    | 3, ht, c1 =>
      cases ht
      have c1 : _ = (3 : Int32) := Int32.toInt_inj.mp c1
      refine z_aload_n (i := 0) (q := 100) dX8_count_99 rfl rfl rfl ?_
      refine m_getR (r := 184) (q := 103) dX8_count_100 fl_X8_19 ⟨by decide, _, rfl, rfl⟩ rfl ?_
      refine z_iconst (v := 0) (q := 104) dX8_count_103 (by decide) rfl ?_
      refine m_ialdJ (N := 68) (q := 105) dX8_count_104 ⟨by decide, _, rfl⟩ (j := 0) (by decide) (vp_c (by decide)) rfl ?_
      refine z_ireturn dX8_count_105 rfl rfl ?_ (Nat.le_refl _) (Nat.le_refl _)
      simp [mCount, c1]
    | 4, ht, c1 =>
      cases ht
      have c1 : _ = (4 : Int32) := Int32.toInt_inj.mp c1
      refine z_aload_n (i := 0) (q := 107) dX8_count_106 rfl rfl rfl ?_
      refine m_getI (q := 110) dX8_count_107 fl_X8_175 ⟨by decide, _, rfl, rfl⟩ rfl ?_
      refine z_ireturn dX8_count_110 rfl rfl ?_ (Nat.le_refl _) (Nat.le_refl _)
      simp [mCount, c1]
    | 5, ht, c1 =>
      cases ht
      have c1 : _ = (5 : Int32) := Int32.toInt_inj.mp c1
      refine z_aload_n (i := 0) (q := 112) dX8_count_111 rfl rfl rfl ?_
      refine m_getR (r := 184) (q := 115) dX8_count_112 fl_X8_19 ⟨by decide, _, rfl, rfl⟩ rfl ?_
      refine z_iconst (v := 1) (q := 116) dX8_count_115 (by decide) rfl ?_
      refine m_ialdJ (N := 68) (q := 117) dX8_count_116 ⟨by decide, _, rfl⟩ (j := 1) (by decide) (vp_c (by decide)) rfl ?_
      refine z_ireturn dX8_count_117 rfl rfl ?_ (Nat.le_refl _) (Nat.le_refl _)
      simp [mCount, c1]
    | 6, ht, c1 =>
      cases ht
      have c1 : _ = (6 : Int32) := Int32.toInt_inj.mp c1
      refine z_aload_n (i := 0) (q := 119) dX8_count_118 rfl rfl rfl ?_
      refine m_getI (q := 122) dX8_count_119 fl_X8_75 ⟨by decide, _, rfl, rfl⟩ rfl ?_
      refine z_ireturn dX8_count_122 rfl rfl ?_ (Nat.le_refl _) (Nat.le_refl _)
      simp [mCount, c1]
    | j + 7, ht, c1 => exact absurd ht (by simp)
  · skip
    have c1_0 := zout (v := 0) c1 (by decide)
    have c1_1 := zout (v := 1) c1 (by decide)
    have c1_2 := zout (v := 2) c1 (by decide)
    have c1_3 := zout (v := 3) c1 (by decide)
    have c1_4 := zout (v := 4) c1 (by decide)
    have c1_5 := zout (v := 5) c1 (by decide)
    have c1_6 := zout (v := 6) c1 (by decide)
    refine z_ldc (q := 125) dX8_count_123 wd_831 rfl ?_
    refine z_ireturn dX8_count_125 rfl rfl ?_ (Nat.le_refl _) (Nat.le_refl _)
    simp [mCount, c1_0, c1_1, c1_2, c1_3, c1_4, c1_5, c1_6]
set_option maxHeartbeats 4000000 in
set_option maxRecDepth 100000 in
theorem ev_X8_status (d : Nat) (m : zm) : zEv (d) zM_X8_status 0 0 [.ref 180] (lay m) (some (.int (m.1 180 1)), lay (mT m)) := by
  refine zEv_of (by decide) (fun G => Nat.le_of_ble_eq_true rfl) ?_
  show ZW _ _ _ _ 0 [some (.ref 180)] [] _ _ _ _
  refine z_aload_n (i := 0) (q := 1) dX8_status_0 rfl rfl rfl ?_
  refine z_iconst (v := 0) (q := 2) dX8_status_1 (by decide) rfl ?_
  refine m_putI (q := 5) dX8_status_2 fp_X8_48 ⟨by decide, _, rfl, rfl⟩ ⟨rfl, rfl⟩ rfl ?_
  refine z_aload_n (i := 0) (q := 6) dX8_status_5 rfl rfl rfl ?_
  refine m_getI (q := 9) dX8_status_6 fl_X8_52 ⟨by decide, _, rfl, rfl⟩ rfl ?_
  refine z_ireturn dX8_status_9 rfl rfl ?_ (Nat.le_refl _) (Nat.le_refl _)
  rfl
