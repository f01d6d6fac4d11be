/-! ===== the model: copy, feed ===== -/
def mCp (sb db : Nat) (u : Int32) (z : Nat) : Nat → Nat → zm → zm
  | 0, _, m => m
  | n + 1, k, m => mCp sb db u z n (k + 1) (upI m 183 (db + (if u = 0 then z - 1 - k else k)) (m.1 183 (sb + (if u = 0 then z - 1 - k else k))))
abbrev mS0 (m : zm) : zm := upI (mT m) 180 1 0
def mCopy (m : zm) (sb db i j z : Nat) : zm := mCp (sb + i) (db + j) (if i < j then 0 else 1) z z 0 (mS0 m)
def mByte (w : Int64) (k : Int32) : Int32 := ((w.toUInt64 >>> ((8 * k).toInt64.toUInt64 &&& Int64.toUInt64 63)).toInt64 &&& 255).toInt32
set_option maxHeartbeats 4000000 in
set_option maxRecDepth 100000 in
theorem lp_X8_copy0 (d : Nat) (r r2 i j z : Nat) (hr : r < 8) (hr2 : r2 < 8) (hiz : i + z ≤ 40) (hjz : j + z ≤ 40) : ∀ (n : Nat) (k : Nat) (m : zm), z - k < n → k ≤ z → ZW zM_X8_copy (d + 2) 0 0 143 [some (.ref 180), some (.int (nI r)), some (.int (nI i)), some (.int (nI r2)), some (.int (nI j)), some (.int (nI z)), some (.int 0), some (.int (nI k)), none] [] (lay m) 0 0 (some (.int (nI z)), lay (mCp (40 * r + i) (40 * r2 + j) 0 z (z - k) k m)) := by
  intro n
  induction n with
  | zero => intro k m hm; exact absurd hm (by omega)
  | succ n ih =>
    intro k m hm hk
    refine z_iload (i := 7) (q := 145) dX8_copy_143 rfl rfl ?_
    refine z_iload (i := 5) (q := 147) dX8_copy_145 rfl rfl ?_
    refine z_icmp_ge (tgt := 204) (q := 150) dX8_copy_147 (by decide) rfl (fun c1 => ?_) (fun c1 => ?_)
    · skip
      have hkz : k = z := by
        have := (nI_leI (a := z) (b := k) (by omega) (by omega)).mp c1
        omega
      rw [show z - k = 0 by omega]
      refine z_iload (i := 5) (q := 206) dX8_copy_204 rfl rfl ?_
      refine z_ireturn dX8_copy_206 rfl rfl ?_ (Nat.le_refl _) (Nat.le_refl _)
      rfl
    · skip
      have hkz : k < z := by
        rcases Nat.lt_or_ge k z with q | q
        · exact q
        · exact absurd ((nI_leI (a := z) (b := k) (by omega) (by omega)).mpr q) c1
      rw [show z - k = (z - (k + 1)) + 1 by omega, mCp]
      refine z_iload (i := 6) (q := 152) dX8_copy_150 rfl rfl ?_
      refine z_if_eq (tgt := 160) (q := 155) dX8_copy_152 (by decide) rfl (fun c2 => ?_) (fun c2 => ?_)
      · skip
        refine z_iload (i := 5) (q := 162) dX8_copy_160 rfl rfl ?_
        refine z_iconst (v := 1) (q := 163) dX8_copy_162 (by decide) rfl ?_
        refine z_isub (q := 164) dX8_copy_163 rfl ?_
        rw [show nI z - 1 = nI (z - 1) from pk_sub (a := z) (b := 1) (by omega)]
        refine z_iload (i := 7) (q := 166) dX8_copy_164 rfl rfl ?_
        refine z_isub (q := 167) dX8_copy_166 rfl ?_
        rw [show nI (z - 1) - nI k = nI (z - 1 - k) from pk_sub (by omega)]
        refine z_istore (i := 8) (ls' := [_, _, _, _, _, _, _, _, _]) (q := 169) dX8_copy_167 (by decide) rfl rfl ?_
        refine z_aload_n (i := 0) (q := 170) dX8_copy_169 rfl rfl rfl ?_
        refine m_getR (r := 183) (q := 173) dX8_copy_170 fl_X8_16 ⟨by decide, _, rfl, rfl⟩ rfl ?_
        refine z_bipush (v := 40) (q := 175) dX8_copy_173 (by decide) rfl ?_
        refine z_iload_n (i := 3) (q := 176) dX8_copy_175 rfl rfl rfl ?_
        refine z_imul (q := 177) dX8_copy_176 rfl ?_
        rw [show 40 * nI r2 = nI (40 * r2) from nI_mul 40 _]
        refine z_iload (i := 4) (q := 179) dX8_copy_177 rfl rfl ?_
        refine z_iadd (q := 180) dX8_copy_179 rfl ?_
        rw [show nI (40 * r2) + nI j = nI ((40 * r2) + j) from nI_add _ _]
        refine z_iload (i := 8) (q := 182) dX8_copy_180 rfl rfl ?_
        refine z_iadd (q := 183) dX8_copy_182 rfl ?_
        rw [show nI ((40 * r2) + j) + nI (z - 1 - k) = nI (((40 * r2) + j) + (z - 1 - k)) from nI_add _ _]
        refine z_aload_n (i := 0) (q := 184) dX8_copy_183 rfl rfl rfl ?_
        refine m_getR (r := 183) (q := 187) dX8_copy_184 fl_X8_16 ⟨by decide, _, rfl, rfl⟩ rfl ?_
        refine z_bipush (v := 40) (q := 189) dX8_copy_187 (by decide) rfl ?_
        refine z_iload_n (i := 1) (q := 190) dX8_copy_189 rfl rfl rfl ?_
        refine z_imul (q := 191) dX8_copy_190 rfl ?_
        rw [show 40 * nI r = nI (40 * r) from nI_mul 40 _]
        refine z_iload_n (i := 2) (q := 192) dX8_copy_191 rfl rfl rfl ?_
        refine z_iadd (q := 193) dX8_copy_192 rfl ?_
        rw [show nI (40 * r) + nI i = nI ((40 * r) + i) from nI_add _ _]
        refine z_iload (i := 8) (q := 195) dX8_copy_193 rfl rfl ?_
        refine z_iadd (q := 196) dX8_copy_195 rfl ?_
        rw [show nI ((40 * r) + i) + nI (z - 1 - k) = nI (((40 * r) + i) + (z - 1 - k)) from nI_add _ _]
        refine m_ialdJ (N := 320) (q := 197) dX8_copy_196 ⟨by decide, _, rfl⟩ (j := (((40 * r) + i) + (z - 1 - k))) (nI_clamp (by omega)) (vp_in_nI (by omega) (by decide)) rfl ?_
        refine m_iastJ (N := 320) (q := 198) dX8_copy_197 ⟨by decide, _, rfl⟩ (j := (((40 * r2) + j) + (z - 1 - k))) (nI_clamp (by omega)) (vp_in_nI (by omega) (by decide)) rfl ?_
        refine z_iinc (i := 7) (ls' := [_, _, _, _, _, _, _, _, _]) (v := nI (k + 1)) (q := 201) dX8_copy_198 rfl (nI_1 _) (by decide) rfl rfl ?_
        refine z_goto (tgt := 143) dX8_copy_201 (by decide) ?_
        simp only [if_pos (show (0 : Int32) = 0 from rfl)]
        exact z_loc (zle_s (zle_s (zle_s (zle_s (zle_s (zle_s (zle_s (zle_s (zle_n zle_0))))))))) (ih (k + 1) _ (by omega) (by omega))
      · exact absurd c2 (by decide)
set_option maxHeartbeats 4000000 in
set_option maxRecDepth 100000 in
theorem lp_X8_copy1 (d : Nat) (r r2 i j z : Nat) (hr : r < 8) (hr2 : r2 < 8) (hiz : i + z ≤ 40) (hjz : j + z ≤ 40) : ∀ (n : Nat) (k : Nat) (m : zm), z - k < n → k ≤ z → ZW zM_X8_copy (d + 2) 0 0 143 [some (.ref 180), some (.int (nI r)), some (.int (nI i)), some (.int (nI r2)), some (.int (nI j)), some (.int (nI z)), some (.int 1), some (.int (nI k)), none] [] (lay m) 0 0 (some (.int (nI z)), lay (mCp (40 * r + i) (40 * r2 + j) 1 z (z - k) k m)) := by
  intro n
  induction n with
  | zero => intro k m hm; exact absurd hm (by omega)
  | succ n ih =>
    intro k m hm hk
    refine z_iload (i := 7) (q := 145) dX8_copy_143 rfl rfl ?_
    refine z_iload (i := 5) (q := 147) dX8_copy_145 rfl rfl ?_
    refine z_icmp_ge (tgt := 204) (q := 150) dX8_copy_147 (by decide) rfl (fun c1 => ?_) (fun c1 => ?_)
    · skip
      have hkz : k = z := by
        have := (nI_leI (a := z) (b := k) (by omega) (by omega)).mp c1
        omega
      rw [show z - k = 0 by omega]
      refine z_iload (i := 5) (q := 206) dX8_copy_204 rfl rfl ?_
      refine z_ireturn dX8_copy_206 rfl rfl ?_ (Nat.le_refl _) (Nat.le_refl _)
      rfl
    · skip
      have hkz : k < z := by
        rcases Nat.lt_or_ge k z with q | q
        · exact q
        · exact absurd ((nI_leI (a := z) (b := k) (by omega) (by omega)).mpr q) c1
      rw [show z - k = (z - (k + 1)) + 1 by omega, mCp]
      refine z_iload (i := 6) (q := 152) dX8_copy_150 rfl rfl ?_
      refine z_if_eq (tgt := 160) (q := 155) dX8_copy_152 (by decide) rfl (fun c2 => ?_) (fun c2 => ?_)
      · exact absurd c2 (by decide)
      · skip
        refine z_iload (i := 7) (q := 157) dX8_copy_155 rfl rfl ?_
        refine z_goto (tgt := 167) dX8_copy_157 (by decide) ?_
        refine z_istore (i := 8) (ls' := [_, _, _, _, _, _, _, _, _]) (q := 169) dX8_copy_167 (by decide) rfl rfl ?_
        refine z_aload_n (i := 0) (q := 170) dX8_copy_169 rfl rfl rfl ?_
        refine m_getR (r := 183) (q := 173) dX8_copy_170 fl_X8_16 ⟨by decide, _, rfl, rfl⟩ rfl ?_
        refine z_bipush (v := 40) (q := 175) dX8_copy_173 (by decide) rfl ?_
        refine z_iload_n (i := 3) (q := 176) dX8_copy_175 rfl rfl rfl ?_
        refine z_imul (q := 177) dX8_copy_176 rfl ?_
        rw [show 40 * nI r2 = nI (40 * r2) from nI_mul 40 _]
        refine z_iload (i := 4) (q := 179) dX8_copy_177 rfl rfl ?_
        refine z_iadd (q := 180) dX8_copy_179 rfl ?_
        rw [show nI (40 * r2) + nI j = nI ((40 * r2) + j) from nI_add _ _]
        refine z_iload (i := 8) (q := 182) dX8_copy_180 rfl rfl ?_
        refine z_iadd (q := 183) dX8_copy_182 rfl ?_
        rw [show nI ((40 * r2) + j) + nI k = nI (((40 * r2) + j) + k) from nI_add _ _]
        refine z_aload_n (i := 0) (q := 184) dX8_copy_183 rfl rfl rfl ?_
        refine m_getR (r := 183) (q := 187) dX8_copy_184 fl_X8_16 ⟨by decide, _, rfl, rfl⟩ rfl ?_
        refine z_bipush (v := 40) (q := 189) dX8_copy_187 (by decide) rfl ?_
        refine z_iload_n (i := 1) (q := 190) dX8_copy_189 rfl rfl rfl ?_
        refine z_imul (q := 191) dX8_copy_190 rfl ?_
        rw [show 40 * nI r = nI (40 * r) from nI_mul 40 _]
        refine z_iload_n (i := 2) (q := 192) dX8_copy_191 rfl rfl rfl ?_
        refine z_iadd (q := 193) dX8_copy_192 rfl ?_
        rw [show nI (40 * r) + nI i = nI ((40 * r) + i) from nI_add _ _]
        refine z_iload (i := 8) (q := 195) dX8_copy_193 rfl rfl ?_
        refine z_iadd (q := 196) dX8_copy_195 rfl ?_
        rw [show nI ((40 * r) + i) + nI k = nI (((40 * r) + i) + k) from nI_add _ _]
        refine m_ialdJ (N := 320) (q := 197) dX8_copy_196 ⟨by decide, _, rfl⟩ (j := (((40 * r) + i) + k)) (nI_clamp (by omega)) (vp_in_nI (by omega) (by decide)) rfl ?_
        refine m_iastJ (N := 320) (q := 198) dX8_copy_197 ⟨by decide, _, rfl⟩ (j := (((40 * r2) + j) + k)) (nI_clamp (by omega)) (vp_in_nI (by omega) (by decide)) rfl ?_
        refine z_iinc (i := 7) (ls' := [_, _, _, _, _, _, _, _, _]) (v := nI (k + 1)) (q := 201) dX8_copy_198 rfl (nI_1 _) (by decide) rfl rfl ?_
        refine z_goto (tgt := 143) dX8_copy_201 (by decide) ?_
        simp only [if_neg (show ¬ (1 : Int32) = 0 by decide)]
        exact z_loc (zle_s (zle_s (zle_s (zle_s (zle_s (zle_s (zle_s (zle_s (zle_n zle_0))))))))) (ih (k + 1) _ (by omega) (by omega))
set_option maxHeartbeats 4000000 in
set_option maxRecDepth 100000 in
theorem ev_X8_copy_bad (d : Nat) (m : zm) (r : Int32) (i : Int32) (r2 : Int32) (j : Int32) (z : Int32) (hb : (r < 0 ∨ 7 < r) ∨ (r2 < 0 ∨ 7 < r2)) : zEv (d + 2) zM_X8_copy 0 0 [.ref 180, .int r, .int i, .int r2, .int j, .int z] (lay m) (some (.int (-1000001)), lay (mT m)) := by
  refine zEv_of (by decide) (fun G => Nat.le_of_ble_eq_true rfl) ?_
  show ZW _ _ _ _ 0 [some (.ref 180), some (.int r), some (.int i), some (.int r2), some (.int j), some (.int z), none, none, none] [] _ _ _ _
  refine z_aload_n (i := 0) (q := 1) dX8_copy_0 rfl rfl rfl ?_
  refine z_iconst (v := 0) (q := 2) dX8_copy_1 (by decide) rfl ?_
  refine m_putI (q := 5) dX8_copy_2 fp_X8_48 ⟨by decide, _, rfl, rfl⟩ ⟨rfl, rfl⟩ rfl ?_
  refine z_iload_n (i := 1) (q := 6) dX8_copy_5 rfl rfl rfl ?_
  refine m_callS_r (As := [_]) (q := 9) mk_X8_isRow dX8_copy_6 wd_823 wd_824 (ev_X8_isRow _ _ _) rfl (by decide) rfl (Nat.zero_le _) (Nat.zero_le _) rfl ?_
  refine zb_eq (tgt := 19) (q := 12) dX8_copy_9 (by decide) rfl (fun c1 => ?_) (fun c1 => ?_)
  · skip
    refine z_ldc (q := 21) dX8_copy_19 wd_831 rfl ?_
    refine z_ireturn dX8_copy_21 rfl rfl ?_ (Nat.le_refl _) (Nat.le_refl _)
    rfl
  · skip
    refine z_iload_n (i := 3) (q := 13) dX8_copy_12 rfl rfl rfl ?_
    refine m_callS_r (As := [_]) (q := 16) mk_X8_isRow dX8_copy_13 wd_823 wd_824 (ev_X8_isRow _ _ _) rfl (by decide) rfl (Nat.zero_le _) (Nat.zero_le _) rfl ?_
    refine zb_ne (tgt := 22) (q := 19) dX8_copy_16 (by decide) rfl (fun c2 => ?_) (fun c2 => ?_)
    · exact absurd hb (fun q => q.elim c1 c2)
    · skip
      refine z_ldc (q := 21) dX8_copy_19 wd_831 rfl ?_
      refine z_ireturn dX8_copy_21 rfl rfl ?_ (Nat.le_refl _) (Nat.le_refl _)
      rfl
set_option maxHeartbeats 4000000 in
set_option maxRecDepth 100000 in
theorem ev_X8_copy_null (d : Nat) (m : zm) (r : Nat) (i : Int32) (r2 : Nat) (j : Int32) (z : Int32) (h1 : m.1 181 r < 0 ∨ m.1 181 r2 < 0) (hr : r < 8) (hr2 : r2 < 8) : zEv (d + 2) zM_X8_copy 0 0 [.ref 180, .int (nI r), .int i, .int (nI r2), .int j, .int z] (lay m) (some (.int (-1000010 - 1)), lay (mST m 1)) := by
  refine zEv_of (by decide) (fun G => Nat.le_of_ble_eq_true rfl) ?_
  show ZW _ _ _ _ 0 [some (.ref 180), some (.int (nI r)), some (.int i), some (.int (nI r2)), some (.int j), some (.int z), none, none, none] [] _ _ _ _
  have hn := lt8 hr
  have hn2 := lt8 hr2
  refine z_aload_n (i := 0) (q := 1) dX8_copy_0 rfl rfl rfl ?_
  refine z_iconst (v := 0) (q := 2) dX8_copy_1 (by decide) rfl ?_
  refine m_putI (q := 5) dX8_copy_2 fp_X8_48 ⟨by decide, _, rfl, rfl⟩ ⟨rfl, rfl⟩ rfl ?_
  refine z_iload_n (i := 1) (q := 6) dX8_copy_5 rfl rfl rfl ?_
  refine m_callS_r (As := [_]) (q := 9) mk_X8_isRow dX8_copy_6 wd_823 wd_824 (ev_X8_isRow _ _ _) rfl (by decide) rfl (Nat.zero_le _) (Nat.zero_le _) rfl ?_
  refine zb_eq (tgt := 19) (q := 12) dX8_copy_9 (by decide) rfl (fun c1 => ?_) (fun c1 => ?_)
  · exact absurd hn c1
  · skip
    refine z_iload_n (i := 3) (q := 13) dX8_copy_12 rfl rfl rfl ?_
    refine m_callS_r (As := [_]) (q := 16) mk_X8_isRow dX8_copy_13 wd_823 wd_824 (ev_X8_isRow _ _ _) rfl (by decide) rfl (Nat.zero_le _) (Nat.zero_le _) rfl ?_
    refine zb_ne (tgt := 22) (q := 19) dX8_copy_16 (by decide) rfl (fun c2 => ?_) (fun c2 => ?_)
    · skip
      refine z_aload_n (i := 0) (q := 23) dX8_copy_22 rfl rfl rfl ?_
      refine z_iconst (v := 0) (q := 24) dX8_copy_23 (by decide) rfl ?_
      refine m_putI (q := 27) dX8_copy_24 fp_X8_52 ⟨by decide, _, rfl, rfl⟩ ⟨rfl, rfl⟩ rfl ?_
      refine z_aload_n (i := 0) (q := 28) dX8_copy_27 rfl rfl rfl ?_
      refine m_getR (r := 181) (q := 31) dX8_copy_28 fl_X8_7 ⟨by decide, _, rfl, rfl⟩ rfl ?_
      refine z_iload_n (i := 1) (q := 32) dX8_copy_31 rfl rfl rfl ?_
      refine m_ialdJ (N := 8) (q := 33) dX8_copy_32 ⟨by decide, _, rfl⟩ (j := r) (nI_clamp (by omega)) (vp_in_nI (by omega) (by decide)) rfl ?_
      refine z_if_lt (tgt := 45) (q := 36) dX8_copy_33 (by decide) rfl (fun c3 => ?_) (fun c3 => ?_)
      · skip
        refine z_aload_n (i := 0) (q := 46) dX8_copy_45 rfl rfl rfl ?_
        refine z_iconst (v := 1) (q := 47) dX8_copy_46 (by decide) rfl ?_
        refine m_callV_r (As := [_]) (q := 50) mk_X8_finding dX8_copy_47 wd_832 wd_834 wp_30 (ci := 8) rfl ⟨by decide, _, rfl⟩ (ev_X8_finding _ _ _) rfl (by decide) rfl (Nat.zero_le _) (Nat.zero_le _) rfl ?_
        refine z_ireturn dX8_copy_50 rfl rfl ?_ (Nat.le_refl _) (Nat.le_refl _)
        rfl
      · skip
        refine z_aload_n (i := 0) (q := 37) dX8_copy_36 rfl rfl rfl ?_
        refine m_getR (r := 181) (q := 40) dX8_copy_37 fl_X8_7 ⟨by decide, _, rfl, rfl⟩ rfl ?_
        refine z_iload_n (i := 3) (q := 41) dX8_copy_40 rfl rfl rfl ?_
        refine m_ialdJ (N := 8) (q := 42) dX8_copy_41 ⟨by decide, _, rfl⟩ (j := r2) (nI_clamp (by omega)) (vp_in_nI (by omega) (by decide)) rfl ?_
        refine z_if_ge (tgt := 51) (q := 45) dX8_copy_42 (by decide) rfl (fun c4 => ?_) (fun c4 => ?_)
        · exact absurd h1 (fun q => q.elim c3 (Int32.not_lt.mpr c4))
        · skip
          refine z_aload_n (i := 0) (q := 46) dX8_copy_45 rfl rfl rfl ?_
          refine z_iconst (v := 1) (q := 47) dX8_copy_46 (by decide) rfl ?_
          refine m_callV_r (As := [_]) (q := 50) mk_X8_finding dX8_copy_47 wd_832 wd_834 wp_30 (ci := 8) rfl ⟨by decide, _, rfl⟩ (ev_X8_finding _ _ _) rfl (by decide) rfl (Nat.zero_le _) (Nat.zero_le _) rfl ?_
          refine z_ireturn dX8_copy_50 rfl rfl ?_ (Nat.le_refl _) (Nat.le_refl _)
          rfl
    · exact absurd hn2 c2
set_option maxHeartbeats 4000000 in
set_option maxRecDepth 100000 in
theorem ev_X8_copy_store (d : Nat) (m : zm) (r : Nat) (i : Int32) (r2 : Nat) (j : Int32) (z : Int32) (h1 : ¬ m.1 181 r < 0) (h2 : ¬ m.1 181 r2 < 0) (h3 : ¬ m.1 181 r = m.1 181 r2) (hr : r < 8) (hr2 : r2 < 8) : zEv (d + 2) zM_X8_copy 0 0 [.ref 180, .int (nI r), .int i, .int (nI r2), .int j, .int z] (lay m) (some (.int (-1000010 - 5)), lay (mST m 5)) := by
  refine zEv_of (by decide) (fun G => Nat.le_of_ble_eq_true rfl) ?_
  show ZW _ _ _ _ 0 [some (.ref 180), some (.int (nI r)), some (.int i), some (.int (nI r2)), some (.int j), some (.int z), none, none, none] [] _ _ _ _
  have hn := lt8 hr
  have hn2 := lt8 hr2
  refine z_aload_n (i := 0) (q := 1) dX8_copy_0 rfl rfl rfl ?_
  refine z_iconst (v := 0) (q := 2) dX8_copy_1 (by decide) rfl ?_
  refine m_putI (q := 5) dX8_copy_2 fp_X8_48 ⟨by decide, _, rfl, rfl⟩ ⟨rfl, rfl⟩ rfl ?_
  refine z_iload_n (i := 1) (q := 6) dX8_copy_5 rfl rfl rfl ?_
  refine m_callS_r (As := [_]) (q := 9) mk_X8_isRow dX8_copy_6 wd_823 wd_824 (ev_X8_isRow _ _ _) rfl (by decide) rfl (Nat.zero_le _) (Nat.zero_le _) rfl ?_
  refine zb_eq (tgt := 19) (q := 12) dX8_copy_9 (by decide) rfl (fun c1 => ?_) (fun c1 => ?_)
  · exact absurd hn c1
  · skip
    refine z_iload_n (i := 3) (q := 13) dX8_copy_12 rfl rfl rfl ?_
    refine m_callS_r (As := [_]) (q := 16) mk_X8_isRow dX8_copy_13 wd_823 wd_824 (ev_X8_isRow _ _ _) rfl (by decide) rfl (Nat.zero_le _) (Nat.zero_le _) rfl ?_
    refine zb_ne (tgt := 22) (q := 19) dX8_copy_16 (by decide) rfl (fun c2 => ?_) (fun c2 => ?_)
    · skip
      refine z_aload_n (i := 0) (q := 23) dX8_copy_22 rfl rfl rfl ?_
      refine z_iconst (v := 0) (q := 24) dX8_copy_23 (by decide) rfl ?_
      refine m_putI (q := 27) dX8_copy_24 fp_X8_52 ⟨by decide, _, rfl, rfl⟩ ⟨rfl, rfl⟩ rfl ?_
      refine z_aload_n (i := 0) (q := 28) dX8_copy_27 rfl rfl rfl ?_
      refine m_getR (r := 181) (q := 31) dX8_copy_28 fl_X8_7 ⟨by decide, _, rfl, rfl⟩ rfl ?_
      refine z_iload_n (i := 1) (q := 32) dX8_copy_31 rfl rfl rfl ?_
      refine m_ialdJ (N := 8) (q := 33) dX8_copy_32 ⟨by decide, _, rfl⟩ (j := r) (nI_clamp (by omega)) (vp_in_nI (by omega) (by decide)) rfl ?_
      refine z_if_lt (tgt := 45) (q := 36) dX8_copy_33 (by decide) rfl (fun c3 => ?_) (fun c3 => ?_)
      · exact absurd c3 h1
      · skip
        refine z_aload_n (i := 0) (q := 37) dX8_copy_36 rfl rfl rfl ?_
        refine m_getR (r := 181) (q := 40) dX8_copy_37 fl_X8_7 ⟨by decide, _, rfl, rfl⟩ rfl ?_
        refine z_iload_n (i := 3) (q := 41) dX8_copy_40 rfl rfl rfl ?_
        refine m_ialdJ (N := 8) (q := 42) dX8_copy_41 ⟨by decide, _, rfl⟩ (j := r2) (nI_clamp (by omega)) (vp_in_nI (by omega) (by decide)) rfl ?_
        refine z_if_ge (tgt := 51) (q := 45) dX8_copy_42 (by decide) rfl (fun c4 => ?_) (fun c4 => ?_)
        · skip
          refine z_aload_n (i := 0) (q := 52) dX8_copy_51 rfl rfl rfl ?_
          refine m_getR (r := 181) (q := 55) dX8_copy_52 fl_X8_7 ⟨by decide, _, rfl, rfl⟩ rfl ?_
          refine z_iload_n (i := 1) (q := 56) dX8_copy_55 rfl rfl rfl ?_
          refine m_ialdJ (N := 8) (q := 57) dX8_copy_56 ⟨by decide, _, rfl⟩ (j := r) (nI_clamp (by omega)) (vp_in_nI (by omega) (by decide)) rfl ?_
          refine z_aload_n (i := 0) (q := 58) dX8_copy_57 rfl rfl rfl ?_
          refine m_getR (r := 181) (q := 61) dX8_copy_58 fl_X8_7 ⟨by decide, _, rfl, rfl⟩ rfl ?_
          refine z_iload_n (i := 3) (q := 62) dX8_copy_61 rfl rfl rfl ?_
          refine m_ialdJ (N := 8) (q := 63) dX8_copy_62 ⟨by decide, _, rfl⟩ (j := r2) (nI_clamp (by omega)) (vp_in_nI (by omega) (by decide)) rfl ?_
          refine z_icmp_eq (tgt := 72) (q := 66) dX8_copy_63 (by decide) rfl (fun c5 => ?_) (fun c5 => ?_)
          · exact absurd c5 h3
          · skip
            refine z_aload_n (i := 0) (q := 67) dX8_copy_66 rfl rfl rfl ?_
            refine z_iconst (v := 5) (q := 68) dX8_copy_67 (by decide) rfl ?_
            refine m_callV_r (As := [_]) (q := 71) mk_X8_finding dX8_copy_68 wd_832 wd_834 wp_30 (ci := 8) rfl ⟨by decide, _, rfl⟩ (ev_X8_finding _ _ _) rfl (by decide) rfl (Nat.zero_le _) (Nat.zero_le _) rfl ?_
            refine z_ireturn dX8_copy_71 rfl rfl ?_ (Nat.le_refl _) (Nat.le_refl _)
            rfl
        · exact absurd (Int32.not_lt.mp h2) c4
    · exact absurd hn2 c2
set_option maxHeartbeats 4000000 in
set_option maxRecDepth 100000 in
theorem ev_X8_copy_place (d : Nat) (m : zm) (r : Nat) (i : Int32) (r2 : Nat) (j : Int32) (z : Int32) (h1 : ¬ m.1 181 r < 0) (h2 : ¬ m.1 181 r2 < 0) (h3 : m.1 181 r = m.1 181 r2) (h5 : i < 0 ∨ j < 0 ∨ z < 0 ∨ (m.1 182 r).toInt64 < i.toInt64 + z.toInt64 ∨ (m.1 182 r2).toInt64 < j.toInt64 + z.toInt64) (hr : r < 8) (hr2 : r2 < 8) : zEv (d + 2) zM_X8_copy 0 0 [.ref 180, .int (nI r), .int i, .int (nI r2), .int j, .int z] (lay m) (some (.int (-1000010 - 2)), lay (mST m 2)) := by
  refine zEv_of (by decide) (fun G => Nat.le_of_ble_eq_true rfl) ?_
  show ZW _ _ _ _ 0 [some (.ref 180), some (.int (nI r)), some (.int i), some (.int (nI r2)), some (.int j), some (.int z), none, none, none] [] _ _ _ _
  have hn := lt8 hr
  have hn2 := lt8 hr2
  refine z_aload_n (i := 0) (q := 1) dX8_copy_0 rfl rfl rfl ?_
  refine z_iconst (v := 0) (q := 2) dX8_copy_1 (by decide) rfl ?_
  refine m_putI (q := 5) dX8_copy_2 fp_X8_48 ⟨by decide, _, rfl, rfl⟩ ⟨rfl, rfl⟩ rfl ?_
  refine z_iload_n (i := 1) (q := 6) dX8_copy_5 rfl rfl rfl ?_
  refine m_callS_r (As := [_]) (q := 9) mk_X8_isRow dX8_copy_6 wd_823 wd_824 (ev_X8_isRow _ _ _) rfl (by decide) rfl (Nat.zero_le _) (Nat.zero_le _) rfl ?_
  refine zb_eq (tgt := 19) (q := 12) dX8_copy_9 (by decide) rfl (fun c1 => ?_) (fun c1 => ?_)
  · exact absurd hn c1
  · skip
    refine z_iload_n (i := 3) (q := 13) dX8_copy_12 rfl rfl rfl ?_
    refine m_callS_r (As := [_]) (q := 16) mk_X8_isRow dX8_copy_13 wd_823 wd_824 (ev_X8_isRow _ _ _) rfl (by decide) rfl (Nat.zero_le _) (Nat.zero_le _) rfl ?_
    refine zb_ne (tgt := 22) (q := 19) dX8_copy_16 (by decide) rfl (fun c2 => ?_) (fun c2 => ?_)
    · skip
      refine z_aload_n (i := 0) (q := 23) dX8_copy_22 rfl rfl rfl ?_
      refine z_iconst (v := 0) (q := 24) dX8_copy_23 (by decide) rfl ?_
      refine m_putI (q := 27) dX8_copy_24 fp_X8_52 ⟨by decide, _, rfl, rfl⟩ ⟨rfl, rfl⟩ rfl ?_
      refine z_aload_n (i := 0) (q := 28) dX8_copy_27 rfl rfl rfl ?_
      refine m_getR (r := 181) (q := 31) dX8_copy_28 fl_X8_7 ⟨by decide, _, rfl, rfl⟩ rfl ?_
      refine z_iload_n (i := 1) (q := 32) dX8_copy_31 rfl rfl rfl ?_
      refine m_ialdJ (N := 8) (q := 33) dX8_copy_32 ⟨by decide, _, rfl⟩ (j := r) (nI_clamp (by omega)) (vp_in_nI (by omega) (by decide)) rfl ?_
      refine z_if_lt (tgt := 45) (q := 36) dX8_copy_33 (by decide) rfl (fun c3 => ?_) (fun c3 => ?_)
      · exact absurd c3 h1
      · skip
        refine z_aload_n (i := 0) (q := 37) dX8_copy_36 rfl rfl rfl ?_
        refine m_getR (r := 181) (q := 40) dX8_copy_37 fl_X8_7 ⟨by decide, _, rfl, rfl⟩ rfl ?_
        refine z_iload_n (i := 3) (q := 41) dX8_copy_40 rfl rfl rfl ?_
        refine m_ialdJ (N := 8) (q := 42) dX8_copy_41 ⟨by decide, _, rfl⟩ (j := r2) (nI_clamp (by omega)) (vp_in_nI (by omega) (by decide)) rfl ?_
        refine z_if_ge (tgt := 51) (q := 45) dX8_copy_42 (by decide) rfl (fun c4 => ?_) (fun c4 => ?_)
        · skip
          refine z_aload_n (i := 0) (q := 52) dX8_copy_51 rfl rfl rfl ?_
          refine m_getR (r := 181) (q := 55) dX8_copy_52 fl_X8_7 ⟨by decide, _, rfl, rfl⟩ rfl ?_
          refine z_iload_n (i := 1) (q := 56) dX8_copy_55 rfl rfl rfl ?_
          refine m_ialdJ (N := 8) (q := 57) dX8_copy_56 ⟨by decide, _, rfl⟩ (j := r) (nI_clamp (by omega)) (vp_in_nI (by omega) (by decide)) rfl ?_
          refine z_aload_n (i := 0) (q := 58) dX8_copy_57 rfl rfl rfl ?_
          refine m_getR (r := 181) (q := 61) dX8_copy_58 fl_X8_7 ⟨by decide, _, rfl, rfl⟩ rfl ?_
          refine z_iload_n (i := 3) (q := 62) dX8_copy_61 rfl rfl rfl ?_
          refine m_ialdJ (N := 8) (q := 63) dX8_copy_62 ⟨by decide, _, rfl⟩ (j := r2) (nI_clamp (by omega)) (vp_in_nI (by omega) (by decide)) rfl ?_
          refine z_icmp_eq (tgt := 72) (q := 66) dX8_copy_63 (by decide) rfl (fun c5 => ?_) (fun c5 => ?_)
          · skip
            refine z_iload_n (i := 2) (q := 73) dX8_copy_72 rfl rfl rfl ?_
            refine z_if_lt (tgt := 121) (q := 76) dX8_copy_73 (by decide) rfl (fun c6 => ?_) (fun c6 => ?_)
            · skip
              refine z_aload_n (i := 0) (q := 122) dX8_copy_121 rfl rfl rfl ?_
              refine z_iconst (v := 2) (q := 123) dX8_copy_122 (by decide) rfl ?_
              refine m_callV_r (As := [_]) (q := 126) mk_X8_finding dX8_copy_123 wd_832 wd_834 wp_30 (ci := 8) rfl ⟨by decide, _, rfl⟩ (ev_X8_finding _ _ _) rfl (by decide) rfl (Nat.zero_le _) (Nat.zero_le _) rfl ?_
              refine z_ireturn dX8_copy_126 rfl rfl ?_ (Nat.le_refl _) (Nat.le_refl _)
              rfl
            · skip
              refine z_iload (i := 4) (q := 78) dX8_copy_76 rfl rfl ?_
              refine z_if_lt (tgt := 121) (q := 81) dX8_copy_78 (by decide) rfl (fun c7 => ?_) (fun c7 => ?_)
              · skip
                refine z_aload_n (i := 0) (q := 122) dX8_copy_121 rfl rfl rfl ?_
                refine z_iconst (v := 2) (q := 123) dX8_copy_122 (by decide) rfl ?_
                refine m_callV_r (As := [_]) (q := 126) mk_X8_finding dX8_copy_123 wd_832 wd_834 wp_30 (ci := 8) rfl ⟨by decide, _, rfl⟩ (ev_X8_finding _ _ _) rfl (by decide) rfl (Nat.zero_le _) (Nat.zero_le _) rfl ?_
                refine z_ireturn dX8_copy_126 rfl rfl ?_ (Nat.le_refl _) (Nat.le_refl _)
                rfl
              · skip
                refine z_iload (i := 5) (q := 83) dX8_copy_81 rfl rfl ?_
                refine z_if_lt (tgt := 121) (q := 86) dX8_copy_83 (by decide) rfl (fun c8 => ?_) (fun c8 => ?_)
                · skip
                  refine z_aload_n (i := 0) (q := 122) dX8_copy_121 rfl rfl rfl ?_
                  refine z_iconst (v := 2) (q := 123) dX8_copy_122 (by decide) rfl ?_
                  refine m_callV_r (As := [_]) (q := 126) mk_X8_finding dX8_copy_123 wd_832 wd_834 wp_30 (ci := 8) rfl ⟨by decide, _, rfl⟩ (ev_X8_finding _ _ _) rfl (by decide) rfl (Nat.zero_le _) (Nat.zero_le _) rfl ?_
                  refine z_ireturn dX8_copy_126 rfl rfl ?_ (Nat.le_refl _) (Nat.le_refl _)
                  rfl
                · skip
                  refine z_iload_n (i := 2) (q := 87) dX8_copy_86 rfl rfl rfl ?_
                  refine z_i2l (q := 88) dX8_copy_87 rfl ?_
                  refine z_iload (i := 5) (q := 90) dX8_copy_88 rfl rfl ?_
                  refine z_i2l (q := 91) dX8_copy_90 rfl ?_
                  refine z_ladd (q := 92) dX8_copy_91 rfl ?_
                  refine z_aload_n (i := 0) (q := 93) dX8_copy_92 rfl rfl rfl ?_
                  refine m_getR (r := 182) (q := 96) dX8_copy_93 fl_X8_13 ⟨by decide, _, rfl, rfl⟩ rfl ?_
                  refine z_iload_n (i := 1) (q := 97) dX8_copy_96 rfl rfl rfl ?_
                  refine m_ialdJ (N := 8) (q := 98) dX8_copy_97 ⟨by decide, _, rfl⟩ (j := r) (nI_clamp (by omega)) (vp_in_nI (by omega) (by decide)) rfl ?_
                  refine z_i2l (q := 99) dX8_copy_98 rfl ?_
                  refine z_lcmp (q := 100) dX8_copy_99 rfl ?_
                  refine zl_gt (tgt := 121) (q := 103) dX8_copy_100 (by decide) rfl (fun c9 => ?_) (fun c9 => ?_)
                  · skip
                    refine z_aload_n (i := 0) (q := 122) dX8_copy_121 rfl rfl rfl ?_
                    refine z_iconst (v := 2) (q := 123) dX8_copy_122 (by decide) rfl ?_
                    refine m_callV_r (As := [_]) (q := 126) mk_X8_finding dX8_copy_123 wd_832 wd_834 wp_30 (ci := 8) rfl ⟨by decide, _, rfl⟩ (ev_X8_finding _ _ _) rfl (by decide) rfl (Nat.zero_le _) (Nat.zero_le _) rfl ?_
                    refine z_ireturn dX8_copy_126 rfl rfl ?_ (Nat.le_refl _) (Nat.le_refl _)
                    rfl
                  · skip
                    refine z_iload (i := 4) (q := 105) dX8_copy_103 rfl rfl ?_
                    refine z_i2l (q := 106) dX8_copy_105 rfl ?_
                    refine z_iload (i := 5) (q := 108) dX8_copy_106 rfl rfl ?_
                    refine z_i2l (q := 109) dX8_copy_108 rfl ?_
                    refine z_ladd (q := 110) dX8_copy_109 rfl ?_
                    refine z_aload_n (i := 0) (q := 111) dX8_copy_110 rfl rfl rfl ?_
                    refine m_getR (r := 182) (q := 114) dX8_copy_111 fl_X8_13 ⟨by decide, _, rfl, rfl⟩ rfl ?_
                    refine z_iload_n (i := 3) (q := 115) dX8_copy_114 rfl rfl rfl ?_
                    refine m_ialdJ (N := 8) (q := 116) dX8_copy_115 ⟨by decide, _, rfl⟩ (j := r2) (nI_clamp (by omega)) (vp_in_nI (by omega) (by decide)) rfl ?_
                    refine z_i2l (q := 117) dX8_copy_116 rfl ?_
                    refine z_lcmp (q := 118) dX8_copy_117 rfl ?_
                    refine zl_le (tgt := 127) (q := 121) dX8_copy_118 (by decide) rfl (fun c10 => ?_) (fun c10 => ?_)
                    · exact absurd h5 (fun q => q.elim (by assumption) (fun q => q.elim (by assumption) (fun q => q.elim (by assumption) (fun q => q.elim (by assumption) (by assumption)))))
                    · skip
                      refine z_aload_n (i := 0) (q := 122) dX8_copy_121 rfl rfl rfl ?_
                      refine z_iconst (v := 2) (q := 123) dX8_copy_122 (by decide) rfl ?_
                      refine m_callV_r (As := [_]) (q := 126) mk_X8_finding dX8_copy_123 wd_832 wd_834 wp_30 (ci := 8) rfl ⟨by decide, _, rfl⟩ (ev_X8_finding _ _ _) rfl (by decide) rfl (Nat.zero_le _) (Nat.zero_le _) rfl ?_
                      refine z_ireturn dX8_copy_126 rfl rfl ?_ (Nat.le_refl _) (Nat.le_refl _)
                      rfl
          · exact absurd h3 c5
        · exact absurd (Int32.not_lt.mp h2) c4
    · exact absurd hn2 c2
set_option maxHeartbeats 4000000 in
set_option maxRecDepth 100000 in
theorem ev_X8_copy (d : Nat) (m : zm) (r : Nat) (i : Nat) (r2 : Nat) (j : Nat) (z : Nat) (h1 : ¬ m.1 181 r < 0) (h2 : ¬ m.1 181 r2 < 0) (h3 : m.1 181 r = m.1 181 r2) (h5 : ¬ (m.1 182 r).toInt64 < (nI i).toInt64 + (nI z).toInt64) (h6 : ¬ (m.1 182 r2).toInt64 < (nI j).toInt64 + (nI z).toInt64) (hiz : i + z ≤ 40) (hjz : j + z ≤ 40) (hr : r < 8) (hi : i < 41) (hr2 : r2 < 8) (hj : j < 41) (hz : z < 41) : zEv (d + 2) zM_X8_copy 0 0 [.ref 180, .int (nI r), .int (nI i), .int (nI r2), .int (nI j), .int (nI z)] (lay m) (some (.int (nI z)), lay (mCopy m (40 * r) (40 * r2) i j z)) := by
  refine zEv_of (by decide) (fun G => Nat.le_of_ble_eq_true rfl) ?_
  show ZW _ _ _ _ 0 [some (.ref 180), some (.int (nI r)), some (.int (nI i)), some (.int (nI r2)), some (.int (nI j)), some (.int (nI z)), none, none, none] [] _ _ _ _
  have hn := lt8 hr
  have hn2 := lt8 hr2
  refine z_aload_n (i := 0) (q := 1) dX8_copy_0 rfl rfl rfl ?_
  refine z_iconst (v := 0) (q := 2) dX8_copy_1 (by decide) rfl ?_
  refine m_putI (q := 5) dX8_copy_2 fp_X8_48 ⟨by decide, _, rfl, rfl⟩ ⟨rfl, rfl⟩ rfl ?_
  refine z_iload_n (i := 1) (q := 6) dX8_copy_5 rfl rfl rfl ?_
  refine m_callS_r (As := [_]) (q := 9) mk_X8_isRow dX8_copy_6 wd_823 wd_824 (ev_X8_isRow _ _ _) rfl (by decide) rfl (Nat.zero_le _) (Nat.zero_le _) rfl ?_
  refine zb_eq (tgt := 19) (q := 12) dX8_copy_9 (by decide) rfl (fun c1 => ?_) (fun c1 => ?_)
  · exact absurd hn c1
  · skip
    refine z_iload_n (i := 3) (q := 13) dX8_copy_12 rfl rfl rfl ?_
    refine m_callS_r (As := [_]) (q := 16) mk_X8_isRow dX8_copy_13 wd_823 wd_824 (ev_X8_isRow _ _ _) rfl (by decide) rfl (Nat.zero_le _) (Nat.zero_le _) rfl ?_
    refine zb_ne (tgt := 22) (q := 19) dX8_copy_16 (by decide) rfl (fun c2 => ?_) (fun c2 => ?_)
    · skip
      refine z_aload_n (i := 0) (q := 23) dX8_copy_22 rfl rfl rfl ?_
      refine z_iconst (v := 0) (q := 24) dX8_copy_23 (by decide) rfl ?_
      refine m_putI (q := 27) dX8_copy_24 fp_X8_52 ⟨by decide, _, rfl, rfl⟩ ⟨rfl, rfl⟩ rfl ?_
      refine z_aload_n (i := 0) (q := 28) dX8_copy_27 rfl rfl rfl ?_
      refine m_getR (r := 181) (q := 31) dX8_copy_28 fl_X8_7 ⟨by decide, _, rfl, rfl⟩ rfl ?_
      refine z_iload_n (i := 1) (q := 32) dX8_copy_31 rfl rfl rfl ?_
      refine m_ialdJ (N := 8) (q := 33) dX8_copy_32 ⟨by decide, _, rfl⟩ (j := r) (nI_clamp (by omega)) (vp_in_nI (by omega) (by decide)) rfl ?_
      refine z_if_lt (tgt := 45) (q := 36) dX8_copy_33 (by decide) rfl (fun c3 => ?_) (fun c3 => ?_)
      · exact absurd c3 h1
      · skip
        refine z_aload_n (i := 0) (q := 37) dX8_copy_36 rfl rfl rfl ?_
        refine m_getR (r := 181) (q := 40) dX8_copy_37 fl_X8_7 ⟨by decide, _, rfl, rfl⟩ rfl ?_
        refine z_iload_n (i := 3) (q := 41) dX8_copy_40 rfl rfl rfl ?_
        refine m_ialdJ (N := 8) (q := 42) dX8_copy_41 ⟨by decide, _, rfl⟩ (j := r2) (nI_clamp (by omega)) (vp_in_nI (by omega) (by decide)) rfl ?_
        refine z_if_ge (tgt := 51) (q := 45) dX8_copy_42 (by decide) rfl (fun c4 => ?_) (fun c4 => ?_)
        · skip
          refine z_aload_n (i := 0) (q := 52) dX8_copy_51 rfl rfl rfl ?_
          refine m_getR (r := 181) (q := 55) dX8_copy_52 fl_X8_7 ⟨by decide, _, rfl, rfl⟩ rfl ?_
          refine z_iload_n (i := 1) (q := 56) dX8_copy_55 rfl rfl rfl ?_
          refine m_ialdJ (N := 8) (q := 57) dX8_copy_56 ⟨by decide, _, rfl⟩ (j := r) (nI_clamp (by omega)) (vp_in_nI (by omega) (by decide)) rfl ?_
          refine z_aload_n (i := 0) (q := 58) dX8_copy_57 rfl rfl rfl ?_
          refine m_getR (r := 181) (q := 61) dX8_copy_58 fl_X8_7 ⟨by decide, _, rfl, rfl⟩ rfl ?_
          refine z_iload_n (i := 3) (q := 62) dX8_copy_61 rfl rfl rfl ?_
          refine m_ialdJ (N := 8) (q := 63) dX8_copy_62 ⟨by decide, _, rfl⟩ (j := r2) (nI_clamp (by omega)) (vp_in_nI (by omega) (by decide)) rfl ?_
          refine z_icmp_eq (tgt := 72) (q := 66) dX8_copy_63 (by decide) rfl (fun c5 => ?_) (fun c5 => ?_)
          · skip
            refine z_iload_n (i := 2) (q := 73) dX8_copy_72 rfl rfl rfl ?_
            refine z_if_lt (tgt := 121) (q := 76) dX8_copy_73 (by decide) rfl (fun c6 => ?_) (fun c6 => ?_)
            · exact absurd c6 (nI_pos (by omega))
            · skip
              refine z_iload (i := 4) (q := 78) dX8_copy_76 rfl rfl ?_
              refine z_if_lt (tgt := 121) (q := 81) dX8_copy_78 (by decide) rfl (fun c7 => ?_) (fun c7 => ?_)
              · exact absurd c7 (nI_pos (by omega))
              · skip
                refine z_iload (i := 5) (q := 83) dX8_copy_81 rfl rfl ?_
                refine z_if_lt (tgt := 121) (q := 86) dX8_copy_83 (by decide) rfl (fun c8 => ?_) (fun c8 => ?_)
                · exact absurd c8 (nI_pos (by omega))
                · skip
                  refine z_iload_n (i := 2) (q := 87) dX8_copy_86 rfl rfl rfl ?_
                  refine z_i2l (q := 88) dX8_copy_87 rfl ?_
                  refine z_iload (i := 5) (q := 90) dX8_copy_88 rfl rfl ?_
                  refine z_i2l (q := 91) dX8_copy_90 rfl ?_
                  refine z_ladd (q := 92) dX8_copy_91 rfl ?_
                  refine z_aload_n (i := 0) (q := 93) dX8_copy_92 rfl rfl rfl ?_
                  refine m_getR (r := 182) (q := 96) dX8_copy_93 fl_X8_13 ⟨by decide, _, rfl, rfl⟩ rfl ?_
                  refine z_iload_n (i := 1) (q := 97) dX8_copy_96 rfl rfl rfl ?_
                  refine m_ialdJ (N := 8) (q := 98) dX8_copy_97 ⟨by decide, _, rfl⟩ (j := r) (nI_clamp (by omega)) (vp_in_nI (by omega) (by decide)) rfl ?_
                  refine z_i2l (q := 99) dX8_copy_98 rfl ?_
                  refine z_lcmp (q := 100) dX8_copy_99 rfl ?_
                  refine zl_gt (tgt := 121) (q := 103) dX8_copy_100 (by decide) rfl (fun c9 => ?_) (fun c9 => ?_)
                  · exact absurd c9 h5
                  · skip
                    refine z_iload (i := 4) (q := 105) dX8_copy_103 rfl rfl ?_
                    refine z_i2l (q := 106) dX8_copy_105 rfl ?_
                    refine z_iload (i := 5) (q := 108) dX8_copy_106 rfl rfl ?_
                    refine z_i2l (q := 109) dX8_copy_108 rfl ?_
                    refine z_ladd (q := 110) dX8_copy_109 rfl ?_
                    refine z_aload_n (i := 0) (q := 111) dX8_copy_110 rfl rfl rfl ?_
                    refine m_getR (r := 182) (q := 114) dX8_copy_111 fl_X8_13 ⟨by decide, _, rfl, rfl⟩ rfl ?_
                    refine z_iload_n (i := 3) (q := 115) dX8_copy_114 rfl rfl rfl ?_
                    refine m_ialdJ (N := 8) (q := 116) dX8_copy_115 ⟨by decide, _, rfl⟩ (j := r2) (nI_clamp (by omega)) (vp_in_nI (by omega) (by decide)) rfl ?_
                    refine z_i2l (q := 117) dX8_copy_116 rfl ?_
                    refine z_lcmp (q := 118) dX8_copy_117 rfl ?_
                    refine zl_le (tgt := 127) (q := 121) dX8_copy_118 (by decide) rfl (fun c10 => ?_) (fun c10 => ?_)
                    · skip
                      refine z_iload_n (i := 2) (q := 128) dX8_copy_127 rfl rfl rfl ?_
                      refine z_iload (i := 4) (q := 130) dX8_copy_128 rfl rfl ?_
                      refine z_icmp_lt (tgt := 137) (q := 133) dX8_copy_130 (by decide) rfl (fun c11 => ?_) (fun c11 => ?_)
                      · skip
                        have hij : i < j := (nI_ltI (by omega) (by omega)).mp c11
                        refine z_iconst (v := 0) (q := 138) dX8_copy_137 (by decide) rfl ?_
                        refine z_istore (i := 6) (ls' := [_, _, _, _, _, _, _, _, _]) (q := 140) dX8_copy_138 (by decide) rfl rfl ?_
                        refine z_iconst (v := 0) (q := 141) dX8_copy_140 (by decide) rfl ?_
                        refine z_istore (i := 7) (ls' := [_, _, _, _, _, _, _, _, _]) (q := 143) dX8_copy_141 (by decide) rfl rfl ?_
                        rw [show mCopy m (40 * r) (40 * r2) i j z = mCp (40 * r + i) (40 * r2 + j) 0 z (z - 0) 0 (mS0 m) from by unfold mCopy; rw [if_pos hij]; rfl]
                        exact lp_X8_copy0 d r r2 i j z hr hr2 hiz hjz (z + 1) 0 _ (by omega) (by omega)
                      · skip
                        have hij : ¬ i < j := fun q => c11 ((nI_ltI (by omega) (by omega)).mpr q)
                        refine z_iconst (v := 1) (q := 134) dX8_copy_133 (by decide) rfl ?_
                        refine z_goto (tgt := 138) dX8_copy_134 (by decide) ?_
                        refine z_istore (i := 6) (ls' := [_, _, _, _, _, _, _, _, _]) (q := 140) dX8_copy_138 (by decide) rfl rfl ?_
                        refine z_iconst (v := 0) (q := 141) dX8_copy_140 (by decide) rfl ?_
                        refine z_istore (i := 7) (ls' := [_, _, _, _, _, _, _, _, _]) (q := 143) dX8_copy_141 (by decide) rfl rfl ?_
                        rw [show mCopy m (40 * r) (40 * r2) i j z = mCp (40 * r + i) (40 * r2 + j) 1 z (z - 0) 0 (mS0 m) from by unfold mCopy; rw [if_neg hij]; rfl]
                        exact lp_X8_copy1 d r r2 i j z hr hr2 hiz hjz (z + 1) 0 _ (by omega) (by omega)
                    · exact absurd c10 h6
          · exact absurd h3 c5
        · exact absurd (Int32.not_lt.mp h2) c4
    · exact absurd hn2 c2
