/-! ===== the class: acts, leagues ===== -/
def cPers (m : zm) (x y : Nat) : zm := cCpy (cCpy (cCpy (cCpy m x y 8) (x + 1) (y + 1) 8) (x + 2) (y + 2) 8) (x + 3) (y + 3) 8
def cKeep1 (m : zm) (f : Nat) : zm := upI (cPers m (48 + f) 25) 46 2 ((cPers m (48 + f) 25).1 46 2 + 1)
def cKeep (m : zm) (o k : Nat) : zm := if k = 24 then cKeep1 (upI (upI m 46 1 (nI ((o + 1) % 24))) 46 2 (nI 23)) (((o + 1) % 24 + 23) % 24 * 4) else cKeep1 m ((o + k) % 24 * 4)
def cTake (m : zm) (o k : Nat) : zm := if k = 0 then m else cPers (upI m 46 2 (nI (k - 1))) 25 (48 + (o + (k - 1)) % 24 * 4)
def cStands (m : zm) (a b : Nat) : zm :=
  cPers (cCpy (cCpy (cCpy (cCpy (cCpy (cCpy (cCpy (cCpy (cCpy m a b 4) (a + 3) (b + 3) 4) (a + 4) (b + 4) 4) (a + 5) (b + 5) 4) (a + 6) (b + 6) 4) (a + 7) (b + 7) 4) (a + 8) (b + 8) 4) (a + 9) (b + 9) 4) (a + 10) (b + 10) 4) (a + 11) (b + 11)
theorem zmod24 {o k f : Nat} (hO : o < 24) (hK : k ≤ 24) (hf : (o + k) % 24 * 4 = f) : (nI o + nI k - (nI o + nI k) / 24 * 24) * 4 = nI f := by
  rw [nI_add]
  rw [show (24 : Int32) = nI 24 from rfl, pk_rem (by omega) (by omega) (by omega), show (4 : Int32) = nI 4 from rfl, pk_mul, hf]
set_option maxHeartbeats 4000000 in
set_option maxRecDepth 100000 in
theorem ev_X0_placeBehindLatest (d : Nat) (m : zm) (o : Nat) (k : Nat) (f : Nat) (ho : m.1 46 1 = nI o) (hk : m.1 46 2 = nI k) (hO : o < 24) (hK : k ≤ 24) (hf : (o + k) % 24 * 4 = f) : zEv (d) zM_X0_placeBehindLatest 0 0 [.ref 46] (lay m) (some (.int (nI f)), lay (m)) := by
  refine zEv_of (by decide) (fun G => Nat.le_of_ble_eq_true rfl) ?_
  show ZW _ _ _ _ 0 [some (.ref 46)] [] _ _ _ _
  refine z_aload_n (i := 0) (q := 1) dX0_placeBehindLatest_0 rfl rfl rfl ?_
  refine m_getI (q := 4) dX0_placeBehindLatest_1 fl_X0_17 ⟨by decide, _, rfl, rfl⟩ rfl ?_
  refine z_aload_n (i := 0) (q := 5) dX0_placeBehindLatest_4 rfl rfl rfl ?_
  refine m_getI (q := 8) dX0_placeBehindLatest_5 fl_X0_21 ⟨by decide, _, rfl, rfl⟩ rfl ?_
  refine z_iadd (q := 9) dX0_placeBehindLatest_8 rfl ?_
  refine z_bipush (v := 24) (q := 11) dX0_placeBehindLatest_9 (by decide) rfl ?_
  refine z_irem (q := 12) dX0_placeBehindLatest_11 (by decide) rfl ?_
  refine z_iconst (v := 4) (q := 13) dX0_placeBehindLatest_12 (by decide) rfl ?_
  refine z_imul (q := 14) dX0_placeBehindLatest_13 rfl ?_
  refine z_ireturn dX0_placeBehindLatest_14 rfl rfl ?_ (Nat.le_refl _) (Nat.le_refl _)
  rw [ho, hk, zmod24 hO hK hf]
set_option maxHeartbeats 4000000 in
set_option maxRecDepth 100000 in
theorem sg_X0_keep (d : Nat) (m : zm) (o k f : Nat) (ho : m.1 46 1 = nI o) (hk : m.1 46 2 = nI k) (hO : o < 24) (hK : k ≤ 24) (hf : (o + k) % 24 * 4 = f) (hF : f < 93) : ZW zM_X0_keep (d + 1) 0 0 32 [some (.ref 46), some (.ref 14), none, none] [] (lay m) 0 0 (none, lay (cKeep1 m f)) := by
  refine z_aload_n (i := 0) (q := 33) dX0_keep_32 rfl rfl rfl ?_
  refine m_callV_r (As := []) (q := 36) mk_X0_placeBehindLatest dX0_keep_33 wd_497 wd_499 wp_19 (ci := 0) rfl ⟨by decide, _, rfl⟩ (ev_X0_placeBehindLatest _ _ _ _ _  ho hk hO hK hf) rfl (by decide) rfl (Nat.zero_le _) (Nat.zero_le _) rfl ?_
  refine z_istore_n (i := 2) (ls' := [_, _, _, _]) (q := 37) dX0_keep_36 rfl (by decide) rfl rfl ?_
  refine z_iconst (v := 0) (q := 38) dX0_keep_37 (by decide) rfl ?_
  refine z_istore_n (i := 3) (ls' := [_, _, _, _]) (q := 39) dX0_keep_38 rfl (by decide) rfl rfl ?_
  refine z_iload_n (i := 3) (q := 40) dX0_keep_39 rfl rfl rfl ?_
  refine z_iconst (v := 4) (q := 41) dX0_keep_40 (by decide) rfl ?_
  refine z_icmp_ge (tgt := 67) (q := 44) dX0_keep_41 (by decide) rfl (fun c1 => ?_) (fun c1 => ?_)
  · exact absurd c1 (by decide)
  · skip
    refine z_aload_n (i := 0) (q := 45) dX0_keep_44 rfl rfl rfl ?_
    refine m_getR (r := 47) (q := 48) dX0_keep_45 fl_X0_11 ⟨by decide, _, rfl, rfl⟩ rfl ?_
    refine z_iload_n (i := 2) (q := 49) dX0_keep_48 rfl rfl rfl ?_
    refine z_iload_n (i := 3) (q := 50) dX0_keep_49 rfl rfl rfl ?_
    refine z_iadd (q := 51) dX0_keep_50 rfl ?_
    rw [show nI f + 0 = nI (f + 0) from nI_add _ 0]
    refine m_aald (kd := 5) (N := 96) (b := 48 + (f + 0)) (q := 52) dX0_keep_51 (by decide) (okPn (by decide) rfl (by omega) (by decide)) (nI_pos' (by omega)) rfl ?_
    refine z_aload_n (i := 1) (q := 53) dX0_keep_52 rfl rfl rfl ?_
    refine m_getR (r := 16) (q := 56) dX0_keep_53 fl_X0_29 ⟨by decide, _, rfl, rfl⟩ rfl ?_
    refine z_iload_n (i := 3) (q := 57) dX0_keep_56 rfl rfl rfl ?_
    refine m_aald (kd := 5) (N := 4) (b := 25) (q := 58) dX0_keep_57 (by decide) ⟨by decide, _, rfl, by decide, rfl⟩ (by decide) rfl ?_
    refine m_callV_v (As := [_]) (q := 61) mk_X4_becomes dX0_keep_58 wd_501 wd_456 wd_457 (ci := 4) rfl ⟨(isPer_kept (k := (f + 0)) (by omega)).1, _, (isPer_kept (k := (f + 0)) (by omega)).2⟩ (ev_X4_becomes _ _ _ _ (isPer_kept (k := (f + 0)) (by omega)) (⟨by decide, rfl⟩ : isPer 25)) rfl (by decide) rfl (Nat.zero_le _) (Nat.zero_le _) rfl ?_
    refine z_iinc (i := 3) (ls' := [_, _, _, _]) (v := 1) (q := 64) dX0_keep_61 rfl (by decide) (by decide) rfl rfl ?_
    refine z_goto (tgt := 39) dX0_keep_64 (by decide) ?_
    refine z_iload_n (i := 3) (q := 40) dX0_keep_39 rfl rfl rfl ?_
    refine z_iconst (v := 4) (q := 41) dX0_keep_40 (by decide) rfl ?_
    refine z_icmp_ge (tgt := 67) (q := 44) dX0_keep_41 (by decide) rfl (fun c2 => ?_) (fun c2 => ?_)
    · exact absurd c2 (by decide)
    · skip
      refine z_aload_n (i := 0) (q := 45) dX0_keep_44 rfl rfl rfl ?_
      refine m_getR (r := 47) (q := 48) dX0_keep_45 fl_X0_11 ⟨by decide, _, rfl, rfl⟩ rfl ?_
      refine z_iload_n (i := 2) (q := 49) dX0_keep_48 rfl rfl rfl ?_
      refine z_iload_n (i := 3) (q := 50) dX0_keep_49 rfl rfl rfl ?_
      refine z_iadd (q := 51) dX0_keep_50 rfl ?_
      rw [show nI f + 1 = nI (f + 1) from nI_add _ 1]
      refine m_aald (kd := 5) (N := 96) (b := 48 + (f + 1)) (q := 52) dX0_keep_51 (by decide) (okPn (by decide) rfl (by omega) (by decide)) (nI_pos' (by omega)) rfl ?_
      refine z_aload_n (i := 1) (q := 53) dX0_keep_52 rfl rfl rfl ?_
      refine m_getR (r := 16) (q := 56) dX0_keep_53 fl_X0_29 ⟨by decide, _, rfl, rfl⟩ rfl ?_
      refine z_iload_n (i := 3) (q := 57) dX0_keep_56 rfl rfl rfl ?_
      refine m_aald (kd := 5) (N := 4) (b := 26) (q := 58) dX0_keep_57 (by decide) ⟨by decide, _, rfl, by decide, rfl⟩ (by decide) rfl ?_
      refine m_callV_v (As := [_]) (q := 61) mk_X4_becomes dX0_keep_58 wd_501 wd_456 wd_457 (ci := 4) rfl ⟨(isPer_kept (k := (f + 1)) (by omega)).1, _, (isPer_kept (k := (f + 1)) (by omega)).2⟩ (ev_X4_becomes _ _ _ _ (isPer_kept (k := (f + 1)) (by omega)) (⟨by decide, rfl⟩ : isPer 26)) rfl (by decide) rfl (Nat.zero_le _) (Nat.zero_le _) rfl ?_
      refine z_iinc (i := 3) (ls' := [_, _, _, _]) (v := 2) (q := 64) dX0_keep_61 rfl (by decide) (by decide) rfl rfl ?_
      refine z_goto (tgt := 39) dX0_keep_64 (by decide) ?_
      refine z_iload_n (i := 3) (q := 40) dX0_keep_39 rfl rfl rfl ?_
      refine z_iconst (v := 4) (q := 41) dX0_keep_40 (by decide) rfl ?_
      refine z_icmp_ge (tgt := 67) (q := 44) dX0_keep_41 (by decide) rfl (fun c3 => ?_) (fun c3 => ?_)
      · exact absurd c3 (by decide)
      · skip
        refine z_aload_n (i := 0) (q := 45) dX0_keep_44 rfl rfl rfl ?_
        refine m_getR (r := 47) (q := 48) dX0_keep_45 fl_X0_11 ⟨by decide, _, rfl, rfl⟩ rfl ?_
        refine z_iload_n (i := 2) (q := 49) dX0_keep_48 rfl rfl rfl ?_
        refine z_iload_n (i := 3) (q := 50) dX0_keep_49 rfl rfl rfl ?_
        refine z_iadd (q := 51) dX0_keep_50 rfl ?_
        rw [show nI f + 2 = nI (f + 2) from nI_add _ 2]
        refine m_aald (kd := 5) (N := 96) (b := 48 + (f + 2)) (q := 52) dX0_keep_51 (by decide) (okPn (by decide) rfl (by omega) (by decide)) (nI_pos' (by omega)) rfl ?_
        refine z_aload_n (i := 1) (q := 53) dX0_keep_52 rfl rfl rfl ?_
        refine m_getR (r := 16) (q := 56) dX0_keep_53 fl_X0_29 ⟨by decide, _, rfl, rfl⟩ rfl ?_
        refine z_iload_n (i := 3) (q := 57) dX0_keep_56 rfl rfl rfl ?_
        refine m_aald (kd := 5) (N := 4) (b := 27) (q := 58) dX0_keep_57 (by decide) ⟨by decide, _, rfl, by decide, rfl⟩ (by decide) rfl ?_
        refine m_callV_v (As := [_]) (q := 61) mk_X4_becomes dX0_keep_58 wd_501 wd_456 wd_457 (ci := 4) rfl ⟨(isPer_kept (k := (f + 2)) (by omega)).1, _, (isPer_kept (k := (f + 2)) (by omega)).2⟩ (ev_X4_becomes _ _ _ _ (isPer_kept (k := (f + 2)) (by omega)) (⟨by decide, rfl⟩ : isPer 27)) rfl (by decide) rfl (Nat.zero_le _) (Nat.zero_le _) rfl ?_
        refine z_iinc (i := 3) (ls' := [_, _, _, _]) (v := 3) (q := 64) dX0_keep_61 rfl (by decide) (by decide) rfl rfl ?_
        refine z_goto (tgt := 39) dX0_keep_64 (by decide) ?_
        refine z_iload_n (i := 3) (q := 40) dX0_keep_39 rfl rfl rfl ?_
        refine z_iconst (v := 4) (q := 41) dX0_keep_40 (by decide) rfl ?_
        refine z_icmp_ge (tgt := 67) (q := 44) dX0_keep_41 (by decide) rfl (fun c4 => ?_) (fun c4 => ?_)
        · exact absurd c4 (by decide)
        · skip
          refine z_aload_n (i := 0) (q := 45) dX0_keep_44 rfl rfl rfl ?_
          refine m_getR (r := 47) (q := 48) dX0_keep_45 fl_X0_11 ⟨by decide, _, rfl, rfl⟩ rfl ?_
          refine z_iload_n (i := 2) (q := 49) dX0_keep_48 rfl rfl rfl ?_
          refine z_iload_n (i := 3) (q := 50) dX0_keep_49 rfl rfl rfl ?_
          refine z_iadd (q := 51) dX0_keep_50 rfl ?_
          rw [show nI f + 3 = nI (f + 3) from nI_add _ 3]
          refine m_aald (kd := 5) (N := 96) (b := 48 + (f + 3)) (q := 52) dX0_keep_51 (by decide) (okPn (by decide) rfl (by omega) (by decide)) (nI_pos' (by omega)) rfl ?_
          refine z_aload_n (i := 1) (q := 53) dX0_keep_52 rfl rfl rfl ?_
          refine m_getR (r := 16) (q := 56) dX0_keep_53 fl_X0_29 ⟨by decide, _, rfl, rfl⟩ rfl ?_
          refine z_iload_n (i := 3) (q := 57) dX0_keep_56 rfl rfl rfl ?_
          refine m_aald (kd := 5) (N := 4) (b := 28) (q := 58) dX0_keep_57 (by decide) ⟨by decide, _, rfl, by decide, rfl⟩ (by decide) rfl ?_
          refine m_callV_v (As := [_]) (q := 61) mk_X4_becomes dX0_keep_58 wd_501 wd_456 wd_457 (ci := 4) rfl ⟨(isPer_kept (k := (f + 3)) (by omega)).1, _, (isPer_kept (k := (f + 3)) (by omega)).2⟩ (ev_X4_becomes _ _ _ _ (isPer_kept (k := (f + 3)) (by omega)) (⟨by decide, rfl⟩ : isPer 28)) rfl (by decide) rfl (Nat.zero_le _) (Nat.zero_le _) rfl ?_
          refine z_iinc (i := 3) (ls' := [_, _, _, _]) (v := 4) (q := 64) dX0_keep_61 rfl (by decide) (by decide) rfl rfl ?_
          refine z_goto (tgt := 39) dX0_keep_64 (by decide) ?_
          refine z_iload_n (i := 3) (q := 40) dX0_keep_39 rfl rfl rfl ?_
          refine z_iconst (v := 4) (q := 41) dX0_keep_40 (by decide) rfl ?_
          refine z_icmp_ge (tgt := 67) (q := 44) dX0_keep_41 (by decide) rfl (fun c5 => ?_) (fun c5 => ?_)
          · skip
            refine z_aload_n (i := 0) (q := 68) dX0_keep_67 rfl rfl rfl ?_
            refine z_dup (q := 69) dX0_keep_68 rfl rfl ?_
            refine m_getI (q := 72) dX0_keep_69 fl_X0_21 ⟨by decide, _, rfl, rfl⟩ rfl ?_
            refine z_iconst (v := 1) (q := 73) dX0_keep_72 (by decide) rfl ?_
            refine z_iadd (q := 74) dX0_keep_73 rfl ?_
            refine m_putI (q := 77) dX0_keep_74 fp_X0_21 ⟨by decide, _, rfl, rfl⟩ ⟨rfl, rfl⟩ rfl ?_
            refine z_return dX0_keep_77 rfl ?_ (Nat.le_refl _) (Nat.le_refl _)
            rfl
          · exact absurd c5 (by decide)
set_option maxHeartbeats 4000000 in
set_option maxRecDepth 100000 in
theorem ev_X0_keep (d : Nat) (m : zm) (o : Nat) (k : Nat) (ho : m.1 46 1 = nI o) (hk : m.1 46 2 = nI k) (hO : o < 24) (hK : k ≤ 24) : zEv (d + 1) zM_X0_keep 0 0 [.ref 46, .ref 14] (lay m) (none, lay (cKeep m o k)) := by
  refine zEv_of (by decide) (fun G => Nat.le_of_ble_eq_true rfl) ?_
  show ZW _ _ _ _ 0 [some (.ref 46), some (.ref 14), none, none] [] _ _ _ _
  refine z_aload_n (i := 0) (q := 1) dX0_keep_0 rfl rfl rfl ?_
  refine m_getI (q := 4) dX0_keep_1 fl_X0_21 ⟨by decide, _, rfl, rfl⟩ rfl ?_
  refine z_bipush (v := 24) (q := 6) dX0_keep_4 (by decide) rfl ?_
  refine z_icmp_ne (tgt := 32) (q := 9) dX0_keep_6 (by decide) rfl (fun c1 => ?_) (fun c1 => ?_)
  · skip
    rw [show cKeep m o k = cKeep1 m ((o + k) % 24 * 4) from if_neg (fun e => c1 (by rw [hk, e]; rfl))]
    exact sg_X0_keep d m o k _ ho hk hO hK rfl (by omega)
  · skip
    refine z_aload_n (i := 0) (q := 10) dX0_keep_9 rfl rfl rfl ?_
    refine z_aload_n (i := 0) (q := 11) dX0_keep_10 rfl rfl rfl ?_
    refine m_getI (q := 14) dX0_keep_11 fl_X0_17 ⟨by decide, _, rfl, rfl⟩ rfl ?_
    refine z_iconst (v := 1) (q := 15) dX0_keep_14 (by decide) rfl ?_
    refine z_iadd (q := 16) dX0_keep_15 rfl ?_
    refine z_bipush (v := 24) (q := 18) dX0_keep_16 (by decide) rfl ?_
    refine z_irem (q := 19) dX0_keep_18 (by decide) rfl ?_
    refine m_putI (q := 22) dX0_keep_19 fp_X0_17 ⟨by decide, _, rfl, rfl⟩ ⟨rfl, rfl⟩ rfl ?_
    refine z_aload_n (i := 0) (q := 23) dX0_keep_22 rfl rfl rfl ?_
    refine z_dup (q := 24) dX0_keep_23 rfl rfl ?_
    refine m_getI (q := 27) dX0_keep_24 fl_X0_21 ⟨by decide, _, rfl, rfl⟩ rfl ?_
    refine z_iconst (v := 1) (q := 28) dX0_keep_27 (by decide) rfl ?_
    refine z_isub (q := 29) dX0_keep_28 rfl ?_
    refine m_putI (q := 32) dX0_keep_29 fp_X0_21 ⟨by decide, _, rfl, rfl⟩ ⟨rfl, rfl⟩ rfl ?_
    have hk24 : k = 24 := (nI_eq (by omega) (by omega)).mp (hk.symm.trans c1)
    subst hk24
    have e1 : m.1 46 1 + 1 - (m.1 46 1 + 1) / 24 * 24 = nI ((o + 1) % 24) := by
      rw [ho, nI_1]
      exact pk_rem (a := o + 1) (d := 24) (by omega) (by omega) (by omega)
    have e2 : (upI m 46 1 (nI ((o + 1) % 24))).1 46 2 - 1 = nI 23 := by
      rw [upI_ne (by decide), hk]
      rfl
    rw [e1, e2, show cKeep m o 24 = cKeep1 (upI (upI m 46 1 (nI ((o + 1) % 24))) 46 2 (nI 23)) (((o + 1) % 24 + 23) % 24 * 4) from if_pos rfl]
    exact sg_X0_keep d (upI (upI m 46 1 (nI ((o + 1) % 24))) 46 2 (nI 23)) ((o + 1) % 24) 23 _ (by rw [upI_ne (by decide), upI_eq]) (upI_eq _ _ _ _) (by omega) (by omega) rfl (by omega)
set_option maxHeartbeats 4000000 in
set_option maxRecDepth 100000 in
theorem ev_X0_takeBack (d : Nat) (m : zm) (o : Nat) (k : Nat) (ho : m.1 46 1 = nI o) (hk : m.1 46 2 = nI k) (hO : o < 24) (hK : k ≤ 24) : zEv (d + 1) zM_X0_takeBack 0 0 [.ref 46, .ref 14] (lay m) (none, lay (cTake m o k)) := by
  refine zEv_of (by decide) (fun G => Nat.le_of_ble_eq_true rfl) ?_
  show ZW _ _ _ _ 0 [some (.ref 46), some (.ref 14), none, none] [] _ _ _ _
  refine z_aload_n (i := 0) (q := 1) dX0_takeBack_0 rfl rfl rfl ?_
  refine m_getI (q := 4) dX0_takeBack_1 fl_X0_21 ⟨by decide, _, rfl, rfl⟩ rfl ?_
  refine z_if_ne (tgt := 8) (q := 7) dX0_takeBack_4 (by decide) rfl (fun c1 => ?_) (fun c1 => ?_)
  · skip
    have hk0 : ¬ k = 0 := fun e => c1 (by rw [hk, e]; rfl)
    refine z_aload_n (i := 0) (q := 9) dX0_takeBack_8 rfl rfl rfl ?_
    refine z_dup (q := 10) dX0_takeBack_9 rfl rfl ?_
    refine m_getI (q := 13) dX0_takeBack_10 fl_X0_21 ⟨by decide, _, rfl, rfl⟩ rfl ?_
    refine z_iconst (v := 1) (q := 14) dX0_takeBack_13 (by decide) rfl ?_
    refine z_isub (q := 15) dX0_takeBack_14 rfl ?_
    rw [show m.1 46 2 - 1 = nI (k - 1) by rw [hk]; exact pk_sub (b := 1) (by omega)]
    refine m_putI (q := 18) dX0_takeBack_15 fp_X0_21 ⟨by decide, _, rfl, rfl⟩ ⟨rfl, rfl⟩ rfl ?_
    have hA : (upI m 46 2 (nI (k - 1))).1 46 1 = nI o := by rw [upI_ne (by decide), ho]
    have hB : (upI m 46 2 (nI (k - 1))).1 46 2 = nI (k - 1) := upI_eq _ _ _ _
    have hF : (o + (k - 1)) % 24 * 4 < 93 := by omega
    refine z_aload_n (i := 0) (q := 19) dX0_takeBack_18 rfl rfl rfl ?_
    refine m_callV_r (As := []) (q := 22) mk_X0_placeBehindLatest dX0_takeBack_19 wd_497 wd_499 wp_19 (ci := 0) rfl ⟨by decide, _, rfl⟩ (ev_X0_placeBehindLatest _ _ _ _ _  hA hB hO (by omega) rfl) rfl (by decide) rfl (Nat.zero_le _) (Nat.zero_le _) rfl ?_
    refine z_istore_n (i := 2) (ls' := [_, _, _, _]) (q := 23) dX0_takeBack_22 rfl (by decide) rfl rfl ?_
    refine z_iconst (v := 0) (q := 24) dX0_takeBack_23 (by decide) rfl ?_
    refine z_istore_n (i := 3) (ls' := [_, _, _, _]) (q := 25) dX0_takeBack_24 rfl (by decide) rfl rfl ?_
    refine z_iload_n (i := 3) (q := 26) dX0_takeBack_25 rfl rfl rfl ?_
    refine z_iconst (v := 4) (q := 27) dX0_takeBack_26 (by decide) rfl ?_
    refine z_icmp_ge (tgt := 53) (q := 30) dX0_takeBack_27 (by decide) rfl (fun c2 => ?_) (fun c2 => ?_)
    · exact absurd c2 (by decide)
    · skip
      refine z_aload_n (i := 1) (q := 31) dX0_takeBack_30 rfl rfl rfl ?_
      refine m_getR (r := 16) (q := 34) dX0_takeBack_31 fl_X0_29 ⟨by decide, _, rfl, rfl⟩ rfl ?_
      refine z_iload_n (i := 3) (q := 35) dX0_takeBack_34 rfl rfl rfl ?_
      refine m_aald (kd := 5) (N := 4) (b := 25) (q := 36) dX0_takeBack_35 (by decide) ⟨by decide, _, rfl, by decide, rfl⟩ (by decide) rfl ?_
      refine z_aload_n (i := 0) (q := 37) dX0_takeBack_36 rfl rfl rfl ?_
      refine m_getR (r := 47) (q := 40) dX0_takeBack_37 fl_X0_11 ⟨by decide, _, rfl, rfl⟩ rfl ?_
      refine z_iload_n (i := 2) (q := 41) dX0_takeBack_40 rfl rfl rfl ?_
      refine z_iload_n (i := 3) (q := 42) dX0_takeBack_41 rfl rfl rfl ?_
      refine z_iadd (q := 43) dX0_takeBack_42 rfl ?_
      rw [show nI ((o + (k - 1)) % 24 * 4) + 0 = nI (((o + (k - 1)) % 24 * 4) + 0) from nI_add _ 0]
      refine m_aald (kd := 5) (N := 96) (b := 48 + (((o + (k - 1)) % 24 * 4) + 0)) (q := 44) dX0_takeBack_43 (by decide) (okPn (by decide) rfl (by omega) (by decide)) (nI_pos' (by omega)) rfl ?_
      refine m_callV_v (As := [_]) (q := 47) mk_X4_becomes dX0_takeBack_44 wd_501 wd_456 wd_457 (ci := 4) rfl ⟨(⟨by decide, rfl⟩ : isPer 25).1, _, (⟨by decide, rfl⟩ : isPer 25).2⟩ (ev_X4_becomes _ _ _ _ (⟨by decide, rfl⟩ : isPer 25) (isPer_kept (k := (((o + (k - 1)) % 24 * 4) + 0)) (by omega))) rfl (by decide) rfl (Nat.zero_le _) (Nat.zero_le _) rfl ?_
      refine z_iinc (i := 3) (ls' := [_, _, _, _]) (v := 1) (q := 50) dX0_takeBack_47 rfl (by decide) (by decide) rfl rfl ?_
      refine z_goto (tgt := 25) dX0_takeBack_50 (by decide) ?_
      refine z_iload_n (i := 3) (q := 26) dX0_takeBack_25 rfl rfl rfl ?_
      refine z_iconst (v := 4) (q := 27) dX0_takeBack_26 (by decide) rfl ?_
      refine z_icmp_ge (tgt := 53) (q := 30) dX0_takeBack_27 (by decide) rfl (fun c3 => ?_) (fun c3 => ?_)
      · exact absurd c3 (by decide)
      · skip
        refine z_aload_n (i := 1) (q := 31) dX0_takeBack_30 rfl rfl rfl ?_
        refine m_getR (r := 16) (q := 34) dX0_takeBack_31 fl_X0_29 ⟨by decide, _, rfl, rfl⟩ rfl ?_
        refine z_iload_n (i := 3) (q := 35) dX0_takeBack_34 rfl rfl rfl ?_
        refine m_aald (kd := 5) (N := 4) (b := 26) (q := 36) dX0_takeBack_35 (by decide) ⟨by decide, _, rfl, by decide, rfl⟩ (by decide) rfl ?_
        refine z_aload_n (i := 0) (q := 37) dX0_takeBack_36 rfl rfl rfl ?_
        refine m_getR (r := 47) (q := 40) dX0_takeBack_37 fl_X0_11 ⟨by decide, _, rfl, rfl⟩ rfl ?_
        refine z_iload_n (i := 2) (q := 41) dX0_takeBack_40 rfl rfl rfl ?_
        refine z_iload_n (i := 3) (q := 42) dX0_takeBack_41 rfl rfl rfl ?_
        refine z_iadd (q := 43) dX0_takeBack_42 rfl ?_
        rw [show nI ((o + (k - 1)) % 24 * 4) + 1 = nI (((o + (k - 1)) % 24 * 4) + 1) from nI_add _ 1]
        refine m_aald (kd := 5) (N := 96) (b := 48 + (((o + (k - 1)) % 24 * 4) + 1)) (q := 44) dX0_takeBack_43 (by decide) (okPn (by decide) rfl (by omega) (by decide)) (nI_pos' (by omega)) rfl ?_
        refine m_callV_v (As := [_]) (q := 47) mk_X4_becomes dX0_takeBack_44 wd_501 wd_456 wd_457 (ci := 4) rfl ⟨(⟨by decide, rfl⟩ : isPer 26).1, _, (⟨by decide, rfl⟩ : isPer 26).2⟩ (ev_X4_becomes _ _ _ _ (⟨by decide, rfl⟩ : isPer 26) (isPer_kept (k := (((o + (k - 1)) % 24 * 4) + 1)) (by omega))) rfl (by decide) rfl (Nat.zero_le _) (Nat.zero_le _) rfl ?_
        refine z_iinc (i := 3) (ls' := [_, _, _, _]) (v := 2) (q := 50) dX0_takeBack_47 rfl (by decide) (by decide) rfl rfl ?_
        refine z_goto (tgt := 25) dX0_takeBack_50 (by decide) ?_
        refine z_iload_n (i := 3) (q := 26) dX0_takeBack_25 rfl rfl rfl ?_
        refine z_iconst (v := 4) (q := 27) dX0_takeBack_26 (by decide) rfl ?_
        refine z_icmp_ge (tgt := 53) (q := 30) dX0_takeBack_27 (by decide) rfl (fun c4 => ?_) (fun c4 => ?_)
        · exact absurd c4 (by decide)
        · skip
          refine z_aload_n (i := 1) (q := 31) dX0_takeBack_30 rfl rfl rfl ?_
          refine m_getR (r := 16) (q := 34) dX0_takeBack_31 fl_X0_29 ⟨by decide, _, rfl, rfl⟩ rfl ?_
          refine z_iload_n (i := 3) (q := 35) dX0_takeBack_34 rfl rfl rfl ?_
          refine m_aald (kd := 5) (N := 4) (b := 27) (q := 36) dX0_takeBack_35 (by decide) ⟨by decide, _, rfl, by decide, rfl⟩ (by decide) rfl ?_
          refine z_aload_n (i := 0) (q := 37) dX0_takeBack_36 rfl rfl rfl ?_
          refine m_getR (r := 47) (q := 40) dX0_takeBack_37 fl_X0_11 ⟨by decide, _, rfl, rfl⟩ rfl ?_
          refine z_iload_n (i := 2) (q := 41) dX0_takeBack_40 rfl rfl rfl ?_
          refine z_iload_n (i := 3) (q := 42) dX0_takeBack_41 rfl rfl rfl ?_
          refine z_iadd (q := 43) dX0_takeBack_42 rfl ?_
          rw [show nI ((o + (k - 1)) % 24 * 4) + 2 = nI (((o + (k - 1)) % 24 * 4) + 2) from nI_add _ 2]
          refine m_aald (kd := 5) (N := 96) (b := 48 + (((o + (k - 1)) % 24 * 4) + 2)) (q := 44) dX0_takeBack_43 (by decide) (okPn (by decide) rfl (by omega) (by decide)) (nI_pos' (by omega)) rfl ?_
          refine m_callV_v (As := [_]) (q := 47) mk_X4_becomes dX0_takeBack_44 wd_501 wd_456 wd_457 (ci := 4) rfl ⟨(⟨by decide, rfl⟩ : isPer 27).1, _, (⟨by decide, rfl⟩ : isPer 27).2⟩ (ev_X4_becomes _ _ _ _ (⟨by decide, rfl⟩ : isPer 27) (isPer_kept (k := (((o + (k - 1)) % 24 * 4) + 2)) (by omega))) rfl (by decide) rfl (Nat.zero_le _) (Nat.zero_le _) rfl ?_
          refine z_iinc (i := 3) (ls' := [_, _, _, _]) (v := 3) (q := 50) dX0_takeBack_47 rfl (by decide) (by decide) rfl rfl ?_
          refine z_goto (tgt := 25) dX0_takeBack_50 (by decide) ?_
          refine z_iload_n (i := 3) (q := 26) dX0_takeBack_25 rfl rfl rfl ?_
          refine z_iconst (v := 4) (q := 27) dX0_takeBack_26 (by decide) rfl ?_
          refine z_icmp_ge (tgt := 53) (q := 30) dX0_takeBack_27 (by decide) rfl (fun c5 => ?_) (fun c5 => ?_)
          · exact absurd c5 (by decide)
          · skip
            refine z_aload_n (i := 1) (q := 31) dX0_takeBack_30 rfl rfl rfl ?_
            refine m_getR (r := 16) (q := 34) dX0_takeBack_31 fl_X0_29 ⟨by decide, _, rfl, rfl⟩ rfl ?_
            refine z_iload_n (i := 3) (q := 35) dX0_takeBack_34 rfl rfl rfl ?_
            refine m_aald (kd := 5) (N := 4) (b := 28) (q := 36) dX0_takeBack_35 (by decide) ⟨by decide, _, rfl, by decide, rfl⟩ (by decide) rfl ?_
            refine z_aload_n (i := 0) (q := 37) dX0_takeBack_36 rfl rfl rfl ?_
            refine m_getR (r := 47) (q := 40) dX0_takeBack_37 fl_X0_11 ⟨by decide, _, rfl, rfl⟩ rfl ?_
            refine z_iload_n (i := 2) (q := 41) dX0_takeBack_40 rfl rfl rfl ?_
            refine z_iload_n (i := 3) (q := 42) dX0_takeBack_41 rfl rfl rfl ?_
            refine z_iadd (q := 43) dX0_takeBack_42 rfl ?_
            rw [show nI ((o + (k - 1)) % 24 * 4) + 3 = nI (((o + (k - 1)) % 24 * 4) + 3) from nI_add _ 3]
            refine m_aald (kd := 5) (N := 96) (b := 48 + (((o + (k - 1)) % 24 * 4) + 3)) (q := 44) dX0_takeBack_43 (by decide) (okPn (by decide) rfl (by omega) (by decide)) (nI_pos' (by omega)) rfl ?_
            refine m_callV_v (As := [_]) (q := 47) mk_X4_becomes dX0_takeBack_44 wd_501 wd_456 wd_457 (ci := 4) rfl ⟨(⟨by decide, rfl⟩ : isPer 28).1, _, (⟨by decide, rfl⟩ : isPer 28).2⟩ (ev_X4_becomes _ _ _ _ (⟨by decide, rfl⟩ : isPer 28) (isPer_kept (k := (((o + (k - 1)) % 24 * 4) + 3)) (by omega))) rfl (by decide) rfl (Nat.zero_le _) (Nat.zero_le _) rfl ?_
            refine z_iinc (i := 3) (ls' := [_, _, _, _]) (v := 4) (q := 50) dX0_takeBack_47 rfl (by decide) (by decide) rfl rfl ?_
            refine z_goto (tgt := 25) dX0_takeBack_50 (by decide) ?_
            refine z_iload_n (i := 3) (q := 26) dX0_takeBack_25 rfl rfl rfl ?_
            refine z_iconst (v := 4) (q := 27) dX0_takeBack_26 (by decide) rfl ?_
            refine z_icmp_ge (tgt := 53) (q := 30) dX0_takeBack_27 (by decide) rfl (fun c6 => ?_) (fun c6 => ?_)
            · skip
              refine z_return dX0_takeBack_53 rfl ?_ (Nat.le_refl _) (Nat.le_refl _)
              rw [show cTake m o k = _ from if_neg hk0]
              rfl
            · exact absurd c6 (by decide)
  · skip
    refine z_return dX0_takeBack_7 rfl ?_ (Nat.le_refl _) (Nat.le_refl _)
    rw [show cTake m o k = m from if_pos ((nI_eq (by omega) (by omega)).mp (hk.symm.trans c1 : nI k = nI 0))]
set_option maxHeartbeats 4000000 in
set_option maxRecDepth 100000 in
theorem ev_X3_standsAs (d : Nat) (m : zm) (a : Nat) (b : Nat) (ha : isLea a (a + 3) (a + 11)) (hb : isLea b (b + 3) (b + 11)) : zEv (d + 1) zM_X3_standsAs 0 0 [.ref a, .ref b] (lay m) (none, lay (cStands m a b)) := by
  refine zEv_of (by decide) (fun G => Nat.le_of_ble_eq_true rfl) ?_
  show ZW _ _ _ _ 0 [some (.ref a), some (.ref b), none] [] _ _ _ _
  refine z_aload_n (i := 0) (q := 1) dX3_standsAs_0 rfl rfl rfl ?_
  refine z_aload_n (i := 1) (q := 2) dX3_standsAs_1 rfl rfl rfl ?_
  refine m_getI (q := 5) dX3_standsAs_2 fl_X3_9 ⟨hb.1, _, hb.2.2.1, rfl⟩ rfl ?_
  refine m_putI (q := 8) dX3_standsAs_5 fp_X3_9 ⟨ha.1, _, ha.2.2.1, rfl⟩ ⟨rfl, rfl⟩ rfl ?_
  refine z_aload_n (i := 0) (q := 9) dX3_standsAs_8 rfl rfl rfl ?_
  refine z_aload_n (i := 1) (q := 10) dX3_standsAs_9 rfl rfl rfl ?_
  refine m_getI (q := 13) dX3_standsAs_10 fl_X3_15 ⟨hb.1, _, hb.2.2.1, rfl⟩ rfl ?_
  refine m_putI (q := 16) dX3_standsAs_13 fp_X3_15 ⟨ha.1, _, ha.2.2.1, rfl⟩ ⟨rfl, rfl⟩ rfl ?_
  refine z_aload_n (i := 0) (q := 17) dX3_standsAs_16 rfl rfl rfl ?_
  refine z_aload_n (i := 1) (q := 18) dX3_standsAs_17 rfl rfl rfl ?_
  refine m_getI (q := 21) dX3_standsAs_18 fl_X3_18 ⟨hb.1, _, hb.2.2.1, rfl⟩ rfl ?_
  refine m_putI (q := 24) dX3_standsAs_21 fp_X3_18 ⟨ha.1, _, ha.2.2.1, rfl⟩ ⟨rfl, rfl⟩ rfl ?_
  refine z_aload_n (i := 0) (q := 25) dX3_standsAs_24 rfl rfl rfl ?_
  refine z_aload_n (i := 1) (q := 26) dX3_standsAs_25 rfl rfl rfl ?_
  refine m_getI (q := 29) dX3_standsAs_26 fl_X3_21 ⟨hb.1, _, hb.2.2.1, rfl⟩ rfl ?_
  refine m_putI (q := 32) dX3_standsAs_29 fp_X3_21 ⟨ha.1, _, ha.2.2.1, rfl⟩ ⟨rfl, rfl⟩ rfl ?_
  refine z_iconst (v := 0) (q := 33) dX3_standsAs_32 (by decide) rfl ?_
  refine z_istore_n (i := 2) (ls' := [_, _, _]) (q := 34) dX3_standsAs_33 rfl (by decide) rfl rfl ?_
  refine z_iload_n (i := 2) (q := 35) dX3_standsAs_34 rfl rfl rfl ?_
  refine z_bipush (v := 8) (q := 37) dX3_standsAs_35 (by decide) rfl ?_
  refine z_icmp_ge (tgt := 61) (q := 40) dX3_standsAs_37 (by decide) rfl (fun c1 => ?_) (fun c1 => ?_)
  · exact absurd c1 (by decide)
  · skip
    refine z_aload_n (i := 0) (q := 41) dX3_standsAs_40 rfl rfl rfl ?_
    refine m_getR (r := (a + 1)) (q := 44) dX3_standsAs_41 fl_X3_26 ⟨ha.1, _, ha.2.2.1, rfl⟩ rfl ?_
    refine z_iload_n (i := 2) (q := 45) dX3_standsAs_44 rfl rfl rfl ?_
    refine m_aald (kd := 4) (N := 8) (b := (a + 3) + 0) (q := 46) dX3_standsAs_45 (by decide) ⟨by have := ha.2.1; omega, _, ha.2.2.2.1, by decide, rfl⟩ (by decide) rfl ?_
    refine z_aload_n (i := 1) (q := 47) dX3_standsAs_46 rfl rfl rfl ?_
    refine m_getR (r := (b + 1)) (q := 50) dX3_standsAs_47 fl_X3_26 ⟨hb.1, _, hb.2.2.1, rfl⟩ rfl ?_
    refine z_iload_n (i := 2) (q := 51) dX3_standsAs_50 rfl rfl rfl ?_
    refine m_aald (kd := 4) (N := 8) (b := (b + 3) + 0) (q := 52) dX3_standsAs_51 (by decide) ⟨by have := hb.2.1; omega, _, hb.2.2.2.1, by decide, rfl⟩ (by decide) rfl ?_
    refine m_callV_v (As := [_]) (q := 55) mk_X6_becomes dX3_standsAs_52 wd_451 wd_452 wd_453 (ci := 6) rfl ⟨(ha.2.2.2.2.2.1 0 (by decide)).1, _, (ha.2.2.2.2.2.1 0 (by decide)).2⟩ (ev_X6_becomes _ _ _ _ (ha.2.2.2.2.2.1 0 (by decide)) (hb.2.2.2.2.2.1 0 (by decide))) rfl (by decide) rfl (Nat.zero_le _) (Nat.zero_le _) rfl ?_
    refine z_iinc (i := 2) (ls' := [_, _, _]) (v := 1) (q := 58) dX3_standsAs_55 rfl (by decide) (by decide) rfl rfl ?_
    refine z_goto (tgt := 34) dX3_standsAs_58 (by decide) ?_
    refine z_iload_n (i := 2) (q := 35) dX3_standsAs_34 rfl rfl rfl ?_
    refine z_bipush (v := 8) (q := 37) dX3_standsAs_35 (by decide) rfl ?_
    refine z_icmp_ge (tgt := 61) (q := 40) dX3_standsAs_37 (by decide) rfl (fun c2 => ?_) (fun c2 => ?_)
    · exact absurd c2 (by decide)
    · skip
      refine z_aload_n (i := 0) (q := 41) dX3_standsAs_40 rfl rfl rfl ?_
      refine m_getR (r := (a + 1)) (q := 44) dX3_standsAs_41 fl_X3_26 ⟨ha.1, _, ha.2.2.1, rfl⟩ rfl ?_
      refine z_iload_n (i := 2) (q := 45) dX3_standsAs_44 rfl rfl rfl ?_
      refine m_aald (kd := 4) (N := 8) (b := (a + 3) + 1) (q := 46) dX3_standsAs_45 (by decide) ⟨by have := ha.2.1; omega, _, ha.2.2.2.1, by decide, rfl⟩ (by decide) rfl ?_
      refine z_aload_n (i := 1) (q := 47) dX3_standsAs_46 rfl rfl rfl ?_
      refine m_getR (r := (b + 1)) (q := 50) dX3_standsAs_47 fl_X3_26 ⟨hb.1, _, hb.2.2.1, rfl⟩ rfl ?_
      refine z_iload_n (i := 2) (q := 51) dX3_standsAs_50 rfl rfl rfl ?_
      refine m_aald (kd := 4) (N := 8) (b := (b + 3) + 1) (q := 52) dX3_standsAs_51 (by decide) ⟨by have := hb.2.1; omega, _, hb.2.2.2.1, by decide, rfl⟩ (by decide) rfl ?_
      refine m_callV_v (As := [_]) (q := 55) mk_X6_becomes dX3_standsAs_52 wd_451 wd_452 wd_453 (ci := 6) rfl ⟨(ha.2.2.2.2.2.1 1 (by decide)).1, _, (ha.2.2.2.2.2.1 1 (by decide)).2⟩ (ev_X6_becomes _ _ _ _ (ha.2.2.2.2.2.1 1 (by decide)) (hb.2.2.2.2.2.1 1 (by decide))) rfl (by decide) rfl (Nat.zero_le _) (Nat.zero_le _) rfl ?_
      refine z_iinc (i := 2) (ls' := [_, _, _]) (v := 2) (q := 58) dX3_standsAs_55 rfl (by decide) (by decide) rfl rfl ?_
      refine z_goto (tgt := 34) dX3_standsAs_58 (by decide) ?_
      refine z_iload_n (i := 2) (q := 35) dX3_standsAs_34 rfl rfl rfl ?_
      refine z_bipush (v := 8) (q := 37) dX3_standsAs_35 (by decide) rfl ?_
      refine z_icmp_ge (tgt := 61) (q := 40) dX3_standsAs_37 (by decide) rfl (fun c3 => ?_) (fun c3 => ?_)
      · exact absurd c3 (by decide)
      · skip
        refine z_aload_n (i := 0) (q := 41) dX3_standsAs_40 rfl rfl rfl ?_
        refine m_getR (r := (a + 1)) (q := 44) dX3_standsAs_41 fl_X3_26 ⟨ha.1, _, ha.2.2.1, rfl⟩ rfl ?_
        refine z_iload_n (i := 2) (q := 45) dX3_standsAs_44 rfl rfl rfl ?_
        refine m_aald (kd := 4) (N := 8) (b := (a + 3) + 2) (q := 46) dX3_standsAs_45 (by decide) ⟨by have := ha.2.1; omega, _, ha.2.2.2.1, by decide, rfl⟩ (by decide) rfl ?_
        refine z_aload_n (i := 1) (q := 47) dX3_standsAs_46 rfl rfl rfl ?_
        refine m_getR (r := (b + 1)) (q := 50) dX3_standsAs_47 fl_X3_26 ⟨hb.1, _, hb.2.2.1, rfl⟩ rfl ?_
        refine z_iload_n (i := 2) (q := 51) dX3_standsAs_50 rfl rfl rfl ?_
        refine m_aald (kd := 4) (N := 8) (b := (b + 3) + 2) (q := 52) dX3_standsAs_51 (by decide) ⟨by have := hb.2.1; omega, _, hb.2.2.2.1, by decide, rfl⟩ (by decide) rfl ?_
        refine m_callV_v (As := [_]) (q := 55) mk_X6_becomes dX3_standsAs_52 wd_451 wd_452 wd_453 (ci := 6) rfl ⟨(ha.2.2.2.2.2.1 2 (by decide)).1, _, (ha.2.2.2.2.2.1 2 (by decide)).2⟩ (ev_X6_becomes _ _ _ _ (ha.2.2.2.2.2.1 2 (by decide)) (hb.2.2.2.2.2.1 2 (by decide))) rfl (by decide) rfl (Nat.zero_le _) (Nat.zero_le _) rfl ?_
        refine z_iinc (i := 2) (ls' := [_, _, _]) (v := 3) (q := 58) dX3_standsAs_55 rfl (by decide) (by decide) rfl rfl ?_
        refine z_goto (tgt := 34) dX3_standsAs_58 (by decide) ?_
        refine z_iload_n (i := 2) (q := 35) dX3_standsAs_34 rfl rfl rfl ?_
        refine z_bipush (v := 8) (q := 37) dX3_standsAs_35 (by decide) rfl ?_
        refine z_icmp_ge (tgt := 61) (q := 40) dX3_standsAs_37 (by decide) rfl (fun c4 => ?_) (fun c4 => ?_)
        · exact absurd c4 (by decide)
        · skip
          refine z_aload_n (i := 0) (q := 41) dX3_standsAs_40 rfl rfl rfl ?_
          refine m_getR (r := (a + 1)) (q := 44) dX3_standsAs_41 fl_X3_26 ⟨ha.1, _, ha.2.2.1, rfl⟩ rfl ?_
          refine z_iload_n (i := 2) (q := 45) dX3_standsAs_44 rfl rfl rfl ?_
          refine m_aald (kd := 4) (N := 8) (b := (a + 3) + 3) (q := 46) dX3_standsAs_45 (by decide) ⟨by have := ha.2.1; omega, _, ha.2.2.2.1, by decide, rfl⟩ (by decide) rfl ?_
          refine z_aload_n (i := 1) (q := 47) dX3_standsAs_46 rfl rfl rfl ?_
          refine m_getR (r := (b + 1)) (q := 50) dX3_standsAs_47 fl_X3_26 ⟨hb.1, _, hb.2.2.1, rfl⟩ rfl ?_
          refine z_iload_n (i := 2) (q := 51) dX3_standsAs_50 rfl rfl rfl ?_
          refine m_aald (kd := 4) (N := 8) (b := (b + 3) + 3) (q := 52) dX3_standsAs_51 (by decide) ⟨by have := hb.2.1; omega, _, hb.2.2.2.1, by decide, rfl⟩ (by decide) rfl ?_
          refine m_callV_v (As := [_]) (q := 55) mk_X6_becomes dX3_standsAs_52 wd_451 wd_452 wd_453 (ci := 6) rfl ⟨(ha.2.2.2.2.2.1 3 (by decide)).1, _, (ha.2.2.2.2.2.1 3 (by decide)).2⟩ (ev_X6_becomes _ _ _ _ (ha.2.2.2.2.2.1 3 (by decide)) (hb.2.2.2.2.2.1 3 (by decide))) rfl (by decide) rfl (Nat.zero_le _) (Nat.zero_le _) rfl ?_
          refine z_iinc (i := 2) (ls' := [_, _, _]) (v := 4) (q := 58) dX3_standsAs_55 rfl (by decide) (by decide) rfl rfl ?_
          refine z_goto (tgt := 34) dX3_standsAs_58 (by decide) ?_
          refine z_iload_n (i := 2) (q := 35) dX3_standsAs_34 rfl rfl rfl ?_
          refine z_bipush (v := 8) (q := 37) dX3_standsAs_35 (by decide) rfl ?_
          refine z_icmp_ge (tgt := 61) (q := 40) dX3_standsAs_37 (by decide) rfl (fun c5 => ?_) (fun c5 => ?_)
          · exact absurd c5 (by decide)
          · skip
            refine z_aload_n (i := 0) (q := 41) dX3_standsAs_40 rfl rfl rfl ?_
            refine m_getR (r := (a + 1)) (q := 44) dX3_standsAs_41 fl_X3_26 ⟨ha.1, _, ha.2.2.1, rfl⟩ rfl ?_
            refine z_iload_n (i := 2) (q := 45) dX3_standsAs_44 rfl rfl rfl ?_
            refine m_aald (kd := 4) (N := 8) (b := (a + 3) + 4) (q := 46) dX3_standsAs_45 (by decide) ⟨by have := ha.2.1; omega, _, ha.2.2.2.1, by decide, rfl⟩ (by decide) rfl ?_
            refine z_aload_n (i := 1) (q := 47) dX3_standsAs_46 rfl rfl rfl ?_
            refine m_getR (r := (b + 1)) (q := 50) dX3_standsAs_47 fl_X3_26 ⟨hb.1, _, hb.2.2.1, rfl⟩ rfl ?_
            refine z_iload_n (i := 2) (q := 51) dX3_standsAs_50 rfl rfl rfl ?_
            refine m_aald (kd := 4) (N := 8) (b := (b + 3) + 4) (q := 52) dX3_standsAs_51 (by decide) ⟨by have := hb.2.1; omega, _, hb.2.2.2.1, by decide, rfl⟩ (by decide) rfl ?_
            refine m_callV_v (As := [_]) (q := 55) mk_X6_becomes dX3_standsAs_52 wd_451 wd_452 wd_453 (ci := 6) rfl ⟨(ha.2.2.2.2.2.1 4 (by decide)).1, _, (ha.2.2.2.2.2.1 4 (by decide)).2⟩ (ev_X6_becomes _ _ _ _ (ha.2.2.2.2.2.1 4 (by decide)) (hb.2.2.2.2.2.1 4 (by decide))) rfl (by decide) rfl (Nat.zero_le _) (Nat.zero_le _) rfl ?_
            refine z_iinc (i := 2) (ls' := [_, _, _]) (v := 5) (q := 58) dX3_standsAs_55 rfl (by decide) (by decide) rfl rfl ?_
            refine z_goto (tgt := 34) dX3_standsAs_58 (by decide) ?_
            refine z_iload_n (i := 2) (q := 35) dX3_standsAs_34 rfl rfl rfl ?_
            refine z_bipush (v := 8) (q := 37) dX3_standsAs_35 (by decide) rfl ?_
            refine z_icmp_ge (tgt := 61) (q := 40) dX3_standsAs_37 (by decide) rfl (fun c6 => ?_) (fun c6 => ?_)
            · exact absurd c6 (by decide)
            · skip
              refine z_aload_n (i := 0) (q := 41) dX3_standsAs_40 rfl rfl rfl ?_
              refine m_getR (r := (a + 1)) (q := 44) dX3_standsAs_41 fl_X3_26 ⟨ha.1, _, ha.2.2.1, rfl⟩ rfl ?_
              refine z_iload_n (i := 2) (q := 45) dX3_standsAs_44 rfl rfl rfl ?_
              refine m_aald (kd := 4) (N := 8) (b := (a + 3) + 5) (q := 46) dX3_standsAs_45 (by decide) ⟨by have := ha.2.1; omega, _, ha.2.2.2.1, by decide, rfl⟩ (by decide) rfl ?_
              refine z_aload_n (i := 1) (q := 47) dX3_standsAs_46 rfl rfl rfl ?_
              refine m_getR (r := (b + 1)) (q := 50) dX3_standsAs_47 fl_X3_26 ⟨hb.1, _, hb.2.2.1, rfl⟩ rfl ?_
              refine z_iload_n (i := 2) (q := 51) dX3_standsAs_50 rfl rfl rfl ?_
              refine m_aald (kd := 4) (N := 8) (b := (b + 3) + 5) (q := 52) dX3_standsAs_51 (by decide) ⟨by have := hb.2.1; omega, _, hb.2.2.2.1, by decide, rfl⟩ (by decide) rfl ?_
              refine m_callV_v (As := [_]) (q := 55) mk_X6_becomes dX3_standsAs_52 wd_451 wd_452 wd_453 (ci := 6) rfl ⟨(ha.2.2.2.2.2.1 5 (by decide)).1, _, (ha.2.2.2.2.2.1 5 (by decide)).2⟩ (ev_X6_becomes _ _ _ _ (ha.2.2.2.2.2.1 5 (by decide)) (hb.2.2.2.2.2.1 5 (by decide))) rfl (by decide) rfl (Nat.zero_le _) (Nat.zero_le _) rfl ?_
              refine z_iinc (i := 2) (ls' := [_, _, _]) (v := 6) (q := 58) dX3_standsAs_55 rfl (by decide) (by decide) rfl rfl ?_
              refine z_goto (tgt := 34) dX3_standsAs_58 (by decide) ?_
              refine z_iload_n (i := 2) (q := 35) dX3_standsAs_34 rfl rfl rfl ?_
              refine z_bipush (v := 8) (q := 37) dX3_standsAs_35 (by decide) rfl ?_
              refine z_icmp_ge (tgt := 61) (q := 40) dX3_standsAs_37 (by decide) rfl (fun c7 => ?_) (fun c7 => ?_)
              · exact absurd c7 (by decide)
              · skip
                refine z_aload_n (i := 0) (q := 41) dX3_standsAs_40 rfl rfl rfl ?_
                refine m_getR (r := (a + 1)) (q := 44) dX3_standsAs_41 fl_X3_26 ⟨ha.1, _, ha.2.2.1, rfl⟩ rfl ?_
                refine z_iload_n (i := 2) (q := 45) dX3_standsAs_44 rfl rfl rfl ?_
                refine m_aald (kd := 4) (N := 8) (b := (a + 3) + 6) (q := 46) dX3_standsAs_45 (by decide) ⟨by have := ha.2.1; omega, _, ha.2.2.2.1, by decide, rfl⟩ (by decide) rfl ?_
                refine z_aload_n (i := 1) (q := 47) dX3_standsAs_46 rfl rfl rfl ?_
                refine m_getR (r := (b + 1)) (q := 50) dX3_standsAs_47 fl_X3_26 ⟨hb.1, _, hb.2.2.1, rfl⟩ rfl ?_
                refine z_iload_n (i := 2) (q := 51) dX3_standsAs_50 rfl rfl rfl ?_
                refine m_aald (kd := 4) (N := 8) (b := (b + 3) + 6) (q := 52) dX3_standsAs_51 (by decide) ⟨by have := hb.2.1; omega, _, hb.2.2.2.1, by decide, rfl⟩ (by decide) rfl ?_
                refine m_callV_v (As := [_]) (q := 55) mk_X6_becomes dX3_standsAs_52 wd_451 wd_452 wd_453 (ci := 6) rfl ⟨(ha.2.2.2.2.2.1 6 (by decide)).1, _, (ha.2.2.2.2.2.1 6 (by decide)).2⟩ (ev_X6_becomes _ _ _ _ (ha.2.2.2.2.2.1 6 (by decide)) (hb.2.2.2.2.2.1 6 (by decide))) rfl (by decide) rfl (Nat.zero_le _) (Nat.zero_le _) rfl ?_
                refine z_iinc (i := 2) (ls' := [_, _, _]) (v := 7) (q := 58) dX3_standsAs_55 rfl (by decide) (by decide) rfl rfl ?_
                refine z_goto (tgt := 34) dX3_standsAs_58 (by decide) ?_
                refine z_iload_n (i := 2) (q := 35) dX3_standsAs_34 rfl rfl rfl ?_
                refine z_bipush (v := 8) (q := 37) dX3_standsAs_35 (by decide) rfl ?_
                refine z_icmp_ge (tgt := 61) (q := 40) dX3_standsAs_37 (by decide) rfl (fun c8 => ?_) (fun c8 => ?_)
                · exact absurd c8 (by decide)
                · skip
                  refine z_aload_n (i := 0) (q := 41) dX3_standsAs_40 rfl rfl rfl ?_
                  refine m_getR (r := (a + 1)) (q := 44) dX3_standsAs_41 fl_X3_26 ⟨ha.1, _, ha.2.2.1, rfl⟩ rfl ?_
                  refine z_iload_n (i := 2) (q := 45) dX3_standsAs_44 rfl rfl rfl ?_
                  refine m_aald (kd := 4) (N := 8) (b := (a + 3) + 7) (q := 46) dX3_standsAs_45 (by decide) ⟨by have := ha.2.1; omega, _, ha.2.2.2.1, by decide, rfl⟩ (by decide) rfl ?_
                  refine z_aload_n (i := 1) (q := 47) dX3_standsAs_46 rfl rfl rfl ?_
                  refine m_getR (r := (b + 1)) (q := 50) dX3_standsAs_47 fl_X3_26 ⟨hb.1, _, hb.2.2.1, rfl⟩ rfl ?_
                  refine z_iload_n (i := 2) (q := 51) dX3_standsAs_50 rfl rfl rfl ?_
                  refine m_aald (kd := 4) (N := 8) (b := (b + 3) + 7) (q := 52) dX3_standsAs_51 (by decide) ⟨by have := hb.2.1; omega, _, hb.2.2.2.1, by decide, rfl⟩ (by decide) rfl ?_
                  refine m_callV_v (As := [_]) (q := 55) mk_X6_becomes dX3_standsAs_52 wd_451 wd_452 wd_453 (ci := 6) rfl ⟨(ha.2.2.2.2.2.1 7 (by decide)).1, _, (ha.2.2.2.2.2.1 7 (by decide)).2⟩ (ev_X6_becomes _ _ _ _ (ha.2.2.2.2.2.1 7 (by decide)) (hb.2.2.2.2.2.1 7 (by decide))) rfl (by decide) rfl (Nat.zero_le _) (Nat.zero_le _) rfl ?_
                  refine z_iinc (i := 2) (ls' := [_, _, _]) (v := 8) (q := 58) dX3_standsAs_55 rfl (by decide) (by decide) rfl rfl ?_
                  refine z_goto (tgt := 34) dX3_standsAs_58 (by decide) ?_
                  refine z_iload_n (i := 2) (q := 35) dX3_standsAs_34 rfl rfl rfl ?_
                  refine z_bipush (v := 8) (q := 37) dX3_standsAs_35 (by decide) rfl ?_
                  refine z_icmp_ge (tgt := 61) (q := 40) dX3_standsAs_37 (by decide) rfl (fun c9 => ?_) (fun c9 => ?_)
                  · skip
                    refine z_iconst (v := 0) (q := 62) dX3_standsAs_61 (by decide) rfl ?_
                    refine z_istore_n (i := 2) (ls' := [_, _, _]) (q := 63) dX3_standsAs_62 rfl (by decide) rfl rfl ?_
                    refine z_iload_n (i := 2) (q := 64) dX3_standsAs_63 rfl rfl rfl ?_
                    refine z_iconst (v := 4) (q := 65) dX3_standsAs_64 (by decide) rfl ?_
                    refine z_icmp_ge (tgt := 89) (q := 68) dX3_standsAs_65 (by decide) rfl (fun c10 => ?_) (fun c10 => ?_)
                    · exact absurd c10 (by decide)
                    · skip
                      refine z_aload_n (i := 0) (q := 69) dX3_standsAs_68 rfl rfl rfl ?_
                      refine m_getR (r := (a + 2)) (q := 72) dX3_standsAs_69 fl_X3_32 ⟨ha.1, _, ha.2.2.1, rfl⟩ rfl ?_
                      refine z_iload_n (i := 2) (q := 73) dX3_standsAs_72 rfl rfl rfl ?_
                      refine m_aald (kd := 5) (N := 4) (b := (a + 11) + 0) (q := 74) dX3_standsAs_73 (by decide) ⟨by have := ha.2.1; omega, _, ha.2.2.2.2.1, by decide, rfl⟩ (by decide) rfl ?_
                      refine z_aload_n (i := 1) (q := 75) dX3_standsAs_74 rfl rfl rfl ?_
                      refine m_getR (r := (b + 2)) (q := 78) dX3_standsAs_75 fl_X3_32 ⟨hb.1, _, hb.2.2.1, rfl⟩ rfl ?_
                      refine z_iload_n (i := 2) (q := 79) dX3_standsAs_78 rfl rfl rfl ?_
                      refine m_aald (kd := 5) (N := 4) (b := (b + 11) + 0) (q := 80) dX3_standsAs_79 (by decide) ⟨by have := hb.2.1; omega, _, hb.2.2.2.2.1, by decide, rfl⟩ (by decide) rfl ?_
                      refine m_callV_v (As := [_]) (q := 83) mk_X4_becomes dX3_standsAs_80 wd_455 wd_456 wd_457 (ci := 4) rfl ⟨(ha.2.2.2.2.2.2 0 (by decide)).1, _, (ha.2.2.2.2.2.2 0 (by decide)).2⟩ (ev_X4_becomes _ _ _ _ (ha.2.2.2.2.2.2 0 (by decide)) (hb.2.2.2.2.2.2 0 (by decide))) rfl (by decide) rfl (Nat.zero_le _) (Nat.zero_le _) rfl ?_
                      refine z_iinc (i := 2) (ls' := [_, _, _]) (v := 1) (q := 86) dX3_standsAs_83 rfl (by decide) (by decide) rfl rfl ?_
                      refine z_goto (tgt := 63) dX3_standsAs_86 (by decide) ?_
                      refine z_iload_n (i := 2) (q := 64) dX3_standsAs_63 rfl rfl rfl ?_
                      refine z_iconst (v := 4) (q := 65) dX3_standsAs_64 (by decide) rfl ?_
                      refine z_icmp_ge (tgt := 89) (q := 68) dX3_standsAs_65 (by decide) rfl (fun c11 => ?_) (fun c11 => ?_)
                      · exact absurd c11 (by decide)
                      · skip
                        refine z_aload_n (i := 0) (q := 69) dX3_standsAs_68 rfl rfl rfl ?_
                        refine m_getR (r := (a + 2)) (q := 72) dX3_standsAs_69 fl_X3_32 ⟨ha.1, _, ha.2.2.1, rfl⟩ rfl ?_
                        refine z_iload_n (i := 2) (q := 73) dX3_standsAs_72 rfl rfl rfl ?_
                        refine m_aald (kd := 5) (N := 4) (b := (a + 11) + 1) (q := 74) dX3_standsAs_73 (by decide) ⟨by have := ha.2.1; omega, _, ha.2.2.2.2.1, by decide, rfl⟩ (by decide) rfl ?_
                        refine z_aload_n (i := 1) (q := 75) dX3_standsAs_74 rfl rfl rfl ?_
                        refine m_getR (r := (b + 2)) (q := 78) dX3_standsAs_75 fl_X3_32 ⟨hb.1, _, hb.2.2.1, rfl⟩ rfl ?_
                        refine z_iload_n (i := 2) (q := 79) dX3_standsAs_78 rfl rfl rfl ?_
                        refine m_aald (kd := 5) (N := 4) (b := (b + 11) + 1) (q := 80) dX3_standsAs_79 (by decide) ⟨by have := hb.2.1; omega, _, hb.2.2.2.2.1, by decide, rfl⟩ (by decide) rfl ?_
                        refine m_callV_v (As := [_]) (q := 83) mk_X4_becomes dX3_standsAs_80 wd_455 wd_456 wd_457 (ci := 4) rfl ⟨(ha.2.2.2.2.2.2 1 (by decide)).1, _, (ha.2.2.2.2.2.2 1 (by decide)).2⟩ (ev_X4_becomes _ _ _ _ (ha.2.2.2.2.2.2 1 (by decide)) (hb.2.2.2.2.2.2 1 (by decide))) rfl (by decide) rfl (Nat.zero_le _) (Nat.zero_le _) rfl ?_
                        refine z_iinc (i := 2) (ls' := [_, _, _]) (v := 2) (q := 86) dX3_standsAs_83 rfl (by decide) (by decide) rfl rfl ?_
                        refine z_goto (tgt := 63) dX3_standsAs_86 (by decide) ?_
                        refine z_iload_n (i := 2) (q := 64) dX3_standsAs_63 rfl rfl rfl ?_
                        refine z_iconst (v := 4) (q := 65) dX3_standsAs_64 (by decide) rfl ?_
                        refine z_icmp_ge (tgt := 89) (q := 68) dX3_standsAs_65 (by decide) rfl (fun c12 => ?_) (fun c12 => ?_)
                        · exact absurd c12 (by decide)
                        · skip
                          refine z_aload_n (i := 0) (q := 69) dX3_standsAs_68 rfl rfl rfl ?_
                          refine m_getR (r := (a + 2)) (q := 72) dX3_standsAs_69 fl_X3_32 ⟨ha.1, _, ha.2.2.1, rfl⟩ rfl ?_
                          refine z_iload_n (i := 2) (q := 73) dX3_standsAs_72 rfl rfl rfl ?_
                          refine m_aald (kd := 5) (N := 4) (b := (a + 11) + 2) (q := 74) dX3_standsAs_73 (by decide) ⟨by have := ha.2.1; omega, _, ha.2.2.2.2.1, by decide, rfl⟩ (by decide) rfl ?_
                          refine z_aload_n (i := 1) (q := 75) dX3_standsAs_74 rfl rfl rfl ?_
                          refine m_getR (r := (b + 2)) (q := 78) dX3_standsAs_75 fl_X3_32 ⟨hb.1, _, hb.2.2.1, rfl⟩ rfl ?_
                          refine z_iload_n (i := 2) (q := 79) dX3_standsAs_78 rfl rfl rfl ?_
                          refine m_aald (kd := 5) (N := 4) (b := (b + 11) + 2) (q := 80) dX3_standsAs_79 (by decide) ⟨by have := hb.2.1; omega, _, hb.2.2.2.2.1, by decide, rfl⟩ (by decide) rfl ?_
                          refine m_callV_v (As := [_]) (q := 83) mk_X4_becomes dX3_standsAs_80 wd_455 wd_456 wd_457 (ci := 4) rfl ⟨(ha.2.2.2.2.2.2 2 (by decide)).1, _, (ha.2.2.2.2.2.2 2 (by decide)).2⟩ (ev_X4_becomes _ _ _ _ (ha.2.2.2.2.2.2 2 (by decide)) (hb.2.2.2.2.2.2 2 (by decide))) rfl (by decide) rfl (Nat.zero_le _) (Nat.zero_le _) rfl ?_
                          refine z_iinc (i := 2) (ls' := [_, _, _]) (v := 3) (q := 86) dX3_standsAs_83 rfl (by decide) (by decide) rfl rfl ?_
                          refine z_goto (tgt := 63) dX3_standsAs_86 (by decide) ?_
                          refine z_iload_n (i := 2) (q := 64) dX3_standsAs_63 rfl rfl rfl ?_
                          refine z_iconst (v := 4) (q := 65) dX3_standsAs_64 (by decide) rfl ?_
                          refine z_icmp_ge (tgt := 89) (q := 68) dX3_standsAs_65 (by decide) rfl (fun c13 => ?_) (fun c13 => ?_)
                          · exact absurd c13 (by decide)
                          · skip
                            refine z_aload_n (i := 0) (q := 69) dX3_standsAs_68 rfl rfl rfl ?_
                            refine m_getR (r := (a + 2)) (q := 72) dX3_standsAs_69 fl_X3_32 ⟨ha.1, _, ha.2.2.1, rfl⟩ rfl ?_
                            refine z_iload_n (i := 2) (q := 73) dX3_standsAs_72 rfl rfl rfl ?_
                            refine m_aald (kd := 5) (N := 4) (b := (a + 11) + 3) (q := 74) dX3_standsAs_73 (by decide) ⟨by have := ha.2.1; omega, _, ha.2.2.2.2.1, by decide, rfl⟩ (by decide) rfl ?_
                            refine z_aload_n (i := 1) (q := 75) dX3_standsAs_74 rfl rfl rfl ?_
                            refine m_getR (r := (b + 2)) (q := 78) dX3_standsAs_75 fl_X3_32 ⟨hb.1, _, hb.2.2.1, rfl⟩ rfl ?_
                            refine z_iload_n (i := 2) (q := 79) dX3_standsAs_78 rfl rfl rfl ?_
                            refine m_aald (kd := 5) (N := 4) (b := (b + 11) + 3) (q := 80) dX3_standsAs_79 (by decide) ⟨by have := hb.2.1; omega, _, hb.2.2.2.2.1, by decide, rfl⟩ (by decide) rfl ?_
                            refine m_callV_v (As := [_]) (q := 83) mk_X4_becomes dX3_standsAs_80 wd_455 wd_456 wd_457 (ci := 4) rfl ⟨(ha.2.2.2.2.2.2 3 (by decide)).1, _, (ha.2.2.2.2.2.2 3 (by decide)).2⟩ (ev_X4_becomes _ _ _ _ (ha.2.2.2.2.2.2 3 (by decide)) (hb.2.2.2.2.2.2 3 (by decide))) rfl (by decide) rfl (Nat.zero_le _) (Nat.zero_le _) rfl ?_
                            refine z_iinc (i := 2) (ls' := [_, _, _]) (v := 4) (q := 86) dX3_standsAs_83 rfl (by decide) (by decide) rfl rfl ?_
                            refine z_goto (tgt := 63) dX3_standsAs_86 (by decide) ?_
                            refine z_iload_n (i := 2) (q := 64) dX3_standsAs_63 rfl rfl rfl ?_
                            refine z_iconst (v := 4) (q := 65) dX3_standsAs_64 (by decide) rfl ?_
                            refine z_icmp_ge (tgt := 89) (q := 68) dX3_standsAs_65 (by decide) rfl (fun c14 => ?_) (fun c14 => ?_)
                            · skip
                              refine z_return dX3_standsAs_89 rfl ?_ (Nat.le_refl _) (Nat.le_refl _)
                              rw [cCpy_1]
                              rw [cCpy_s m _ _ (n := 1) (n1 := 2) rfl]
                              rw [cCpy_s m _ _ (n := 2) (n1 := 3) rfl]
                              rw [cCpy_s m _ _ (n := 3) (n1 := 4) rfl]
                              rfl
                            · exact absurd c14 (by decide)
                  · exact absurd c9 (by decide)
