/-! ===== the class: ways gone over, images, counts, the tape's bytes ===== -/
def cEnds (m : zm) (w : Nat) : Int32 := (1 <<< (m.1 w 0 &&& 31)) ||| (1 <<< (m.1 w 1 &&& 31))
def cMoreS (m : zm) (a : Nat) (r acc : Int32) (w : Nat) : Int32 := if (¬ m.1 a 0 = 5 ∨ m.1 w 2 ≤ 10) ∧ ¬ r &&& cEnds m w = 0 then acc ||| cEnds m w else acc
/-- from the way i on, n ways -/
def cMoreL (m : zm) (a : Nat) (r : Int32) : Nat → Nat → Int32 → Int32
  | 0, _, acc => acc
  | n + 1, i, acc => cMoreL m a r n (i + 1) (cMoreS m a r acc (17 + i))
theorem leW {W i : Nat} (hW : W ≤ 8) (hi : i ≤ W) (c : nI W ≤ nI i) : W - i = 0 := by
  have := (nI_leI (a := W) (b := i) (by omega) (by omega)).mp c
  omega
theorem nleW {W i : Nat} (hW : W ≤ 8) (hi : i ≤ W) (c : ¬ nI W ≤ nI i) : i < W ∧ W - i = (W - (i + 1)) + 1 := by
  rcases Nat.lt_or_ge i W with q | q
  · exact ⟨q, by omega⟩
  · exact absurd (nI_leI (a := W) (b := i) (by omega) (by omega) |>.mpr q) c
set_option maxHeartbeats 4000000 in
set_option maxRecDepth 100000 in
theorem lp_X3_more (d : Nat) (m : zm) (a W : Nat) (ha : isPer a) (hW : m.1 14 2 = nI W) (hW8 : W ≤ 8) (r : Int32) : ∀ (n : Nat) (i : Nat) (acc : Int32), W - i < n → i ≤ W → ZW zM_X3_oneVoyageMore (d + 1) 0 0 5 [some (.ref 14), some (.ref a), some (.int r), some (.int acc), some (.int (nI i)), none, none] [] (lay m) 0 0 (some (.int (cMoreL m a r (W - i) i acc)), lay m) := by
  intro n
  induction n with
  | zero => intro i acc hm; exact absurd hm (by omega)
  | succ n ih =>
    intro i acc hm hi
    refine z_iload (i := 4) (q := 7) dX3_oneVoyageMore_5 rfl rfl ?_
    refine z_aload_n (i := 0) (q := 8) dX3_oneVoyageMore_7 rfl rfl rfl ?_
    refine m_getI (q := 11) dX3_oneVoyageMore_8 fl_X3_18 ⟨by decide, _, rfl, rfl⟩ rfl ?_
    rw [hW]
    refine z_icmp_ge (tgt := 67) (q := 14) dX3_oneVoyageMore_11 (by decide) rfl (fun c1 => ?_) (fun c1 => ?_)
    · skip
      have hz := leW hW8 hi c1
      rw [hz]
      refine z_iload_n (i := 3) (q := 68) dX3_oneVoyageMore_67 rfl rfl rfl ?_
      refine z_ireturn dX3_oneVoyageMore_68 rfl rfl ?_ (Nat.le_refl _) (Nat.le_refl _)
      rfl
    · skip
      have hz := nleW hW8 hi c1
      have hz8 : i < 8 := by omega
      refine z_aload_n (i := 0) (q := 15) dX3_oneVoyageMore_14 rfl rfl rfl ?_
      refine m_getR (r := 15) (q := 18) dX3_oneVoyageMore_15 fl_X3_26 ⟨by decide, _, rfl, rfl⟩ rfl ?_
      refine z_iload (i := 4) (q := 20) dX3_oneVoyageMore_18 rfl rfl ?_
      refine m_aald (kd := 4) (N := 8) (b := 17 + i) (q := 21) dX3_oneVoyageMore_20 (by decide) (okPn (by decide) rfl (by omega) (by decide)) (nI_pos' (by omega)) rfl ?_
      refine z_astore (i := 5) (ls' := [_, _, _, _, _, _, _]) (q := 23) dX3_oneVoyageMore_21 (by decide) rfl rfl ?_
      refine z_iconst (v := 1) (q := 24) dX3_oneVoyageMore_23 (by decide) rfl ?_
      refine z_aload (i := 5) (q := 26) dX3_oneVoyageMore_24 rfl rfl ?_
      refine m_getI (q := 29) dX3_oneVoyageMore_26 fl_X3_45 ⟨(isLea_14.2.2.2.2.2.1 i (by omega)).1, _, (isLea_14.2.2.2.2.2.1 i (by omega)).2, rfl⟩ rfl ?_
      refine z_ishl (q := 30) dX3_oneVoyageMore_29 rfl ?_
      refine z_iconst (v := 1) (q := 31) dX3_oneVoyageMore_30 (by decide) rfl ?_
      refine z_aload (i := 5) (q := 33) dX3_oneVoyageMore_31 rfl rfl ?_
      refine m_getI (q := 36) dX3_oneVoyageMore_33 fl_X3_48 ⟨(isLea_14.2.2.2.2.2.1 i (by omega)).1, _, (isLea_14.2.2.2.2.2.1 i (by omega)).2, rfl⟩ rfl ?_
      refine z_ishl (q := 37) dX3_oneVoyageMore_36 rfl ?_
      refine z_ior (q := 38) dX3_oneVoyageMore_37 rfl ?_
      refine z_istore (i := 6) (ls' := [_, _, _, _, _, _, _]) (q := 40) dX3_oneVoyageMore_38 (by decide) rfl rfl ?_
      refine z_aload_n (i := 1) (q := 41) dX3_oneVoyageMore_40 rfl rfl rfl ?_
      refine z_aload (i := 5) (q := 43) dX3_oneVoyageMore_41 rfl rfl ?_
      refine m_callV_r (As := [_]) (q := 46) mk_X4_maySail dX3_oneVoyageMore_43 wd_634 wd_489 wd_490 (ci := 4) rfl ⟨ha.1, _, ha.2⟩ (ev_X4_maySail _ _ _ _ ha (isLea_14.2.2.2.2.2.1 i (by omega))) rfl (by decide) rfl (Nat.zero_le _) (Nat.zero_le _) rfl ?_
      refine zb_eq (tgt := 61) (q := 49) dX3_oneVoyageMore_46 (by decide) rfl (fun c2 => ?_) (fun c2 => ?_)
      · skip
        refine z_iinc (i := 4) (ls' := [_, _, _, _, _, _, _]) (v := nI (i + 1)) (q := 64) dX3_oneVoyageMore_61 rfl (nI_1 _) (by decide) rfl rfl ?_
        refine z_goto (tgt := 5) dX3_oneVoyageMore_64 (by decide) ?_
        rw [(nleW hW8 hi c1).2]
        have hs : cMoreS m a r acc (17 + i) = _ := if_neg (fun q => c2 q.1)
        have e := ih (i + 1) (cMoreS m a r acc (17 + i)) (by omega) (by omega)
        rw [hs] at e
        rw [cMoreL, hs]
        exact z_loc (zle_s (zle_s (zle_s (zle_s (zle_s (zle_n (zle_n zle_0))))))) e
      · skip
        refine z_iload_n (i := 2) (q := 50) dX3_oneVoyageMore_49 rfl rfl rfl ?_
        refine z_iload (i := 6) (q := 52) dX3_oneVoyageMore_50 rfl rfl ?_
        refine z_iand (q := 53) dX3_oneVoyageMore_52 rfl ?_
        refine z_if_eq (tgt := 61) (q := 56) dX3_oneVoyageMore_53 (by decide) rfl (fun c3 => ?_) (fun c3 => ?_)
        · skip
          refine z_iinc (i := 4) (ls' := [_, _, _, _, _, _, _]) (v := nI (i + 1)) (q := 64) dX3_oneVoyageMore_61 rfl (nI_1 _) (by decide) rfl rfl ?_
          refine z_goto (tgt := 5) dX3_oneVoyageMore_64 (by decide) ?_
          rw [(nleW hW8 hi c1).2]
          have hs : cMoreS m a r acc (17 + i) = _ := if_neg (fun q => q.2 c3)
          have e := ih (i + 1) (cMoreS m a r acc (17 + i)) (by omega) (by omega)
          rw [hs] at e
          rw [cMoreL, hs]
          exact z_loc (zle_s (zle_s (zle_s (zle_s (zle_s (zle_n (zle_n zle_0))))))) e
        · skip
          refine z_iload_n (i := 3) (q := 57) dX3_oneVoyageMore_56 rfl rfl rfl ?_
          refine z_iload (i := 6) (q := 59) dX3_oneVoyageMore_57 rfl rfl ?_
          refine z_ior (q := 60) dX3_oneVoyageMore_59 rfl ?_
          refine z_istore_n (i := 3) (ls' := [_, _, _, _, _, _, _]) (q := 61) dX3_oneVoyageMore_60 rfl (by decide) rfl rfl ?_
          refine z_iinc (i := 4) (ls' := [_, _, _, _, _, _, _]) (v := nI (i + 1)) (q := 64) dX3_oneVoyageMore_61 rfl (nI_1 _) (by decide) rfl rfl ?_
          refine z_goto (tgt := 5) dX3_oneVoyageMore_64 (by decide) ?_
          rw [(nleW hW8 hi c1).2]
          have hs : cMoreS m a r acc (17 + i) = _ := if_pos ⟨c2, c3⟩
          have e := ih (i + 1) (cMoreS m a r acc (17 + i)) (by omega) (by omega)
          rw [hs] at e
          rw [cMoreL, hs]
          exact z_loc (zle_s (zle_s (zle_s (zle_s (zle_s (zle_n (zle_n zle_0))))))) e
set_option maxHeartbeats 4000000 in
set_option maxRecDepth 100000 in
theorem ev_X3_oneVoyageMore (d : Nat) (m : zm) (W : Nat) (a : Nat) (r : Int32) (ha : isPer a) (hW : m.1 14 2 = nI W) (hW8 : W ≤ 8) : zEv (d + 1) zM_X3_oneVoyageMore 0 0 [.ref 14, .ref a, .int r] (lay m) (some (.int (cMoreL m a r W 0 r)), lay (m)) := by
  refine zEv_of (by decide) (fun G => Nat.le_of_ble_eq_true rfl) ?_
  show ZW _ _ _ _ 0 [some (.ref 14), some (.ref a), some (.int r), none, none, none, none] [] _ _ _ _
  refine z_iload_n (i := 2) (q := 1) dX3_oneVoyageMore_0 rfl rfl rfl ?_
  refine z_istore_n (i := 3) (ls' := [_, _, _, _, _, _, _]) (q := 2) dX3_oneVoyageMore_1 rfl (by decide) rfl rfl ?_
  refine z_iconst (v := 0) (q := 3) dX3_oneVoyageMore_2 (by decide) rfl ?_
  refine z_istore (i := 4) (ls' := [_, _, _, _, _, _, _]) (q := 5) dX3_oneVoyageMore_3 (by decide) rfl rfl ?_
  exact lp_X3_more d m a W ha hW hW8 r (W + 1) 0 r (by omega) (by omega)
def cVoy (m : zm) (a W : Nat) (h : Int32) : Nat → Int32 → Int32 → Int32
  | 0, _, _ => -1000000
  | n + 1, r, s => if (r >>> (h &&& 31)) &&& 1 = 1 then s else cVoy m a W h n (cMoreL m a r W 0 r) (s + 1)
