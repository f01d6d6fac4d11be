/-! ===== the class: the reader of the text ===== -/
set_option maxHeartbeats 4000000 in
set_option maxRecDepth 100000 in
theorem ev_X5_takeSort_0 (d : Nat) (m : zm) (hT : tOk m) (hf : m.1 12 6 = 0) : zEv (d + 5) zM_X5_takeSort 0 0 [.ref 12] (lay m) (some (.int (cSortR m)), lay (cSortM m)) := by
  refine zEv_of (by decide) (fun G => Nat.le_of_ble_eq_true rfl) ?_
  show ZW _ _ _ _ 0 [some (.ref 12), none] [] _ _ _ _
  refine z_iconst (v := 1) (q := 1) dX5_takeSort_0 (by decide) rfl ?_
  refine z_istore_n (i := 1) (ls' := [_, _]) (q := 2) dX5_takeSort_1 rfl (by decide) rfl rfl ?_
  refine z_iload_n (i := 1) (q := 3) dX5_takeSort_2 rfl rfl rfl ?_
  refine z_iconst (v := 5) (q := 4) dX5_takeSort_3 (by decide) rfl ?_
  refine z_icmp_gt (tgt := 37) (q := 7) dX5_takeSort_4 (by decide) rfl (fun c1 => ?_) (fun c1 => ?_)
  · exact absurd c1 (by decide)
  · skip
    refine z_aload_n (i := 0) (q := 8) dX5_takeSort_7 rfl rfl rfl ?_
    refine m_getI (q := 11) dX5_takeSort_8 fl_X5_31 ⟨by decide, _, rfl, rfl⟩ rfl ?_
    refine z_if_ne (tgt := 31) (q := 14) dX5_takeSort_11 (by decide) rfl (fun c2 => ?_) (fun c2 => ?_)
    · exact absurd hf c2
    · skip
      refine z_aload_n (i := 0) (q := 15) dX5_takeSort_14 rfl rfl rfl ?_
      refine z_iload_n (i := 1) (q := 16) dX5_takeSort_15 rfl rfl rfl ?_
      refine m_callS_r (As := [_]) (q := 19) mk_X5_sortWord dX5_takeSort_16 wd_434 wd_435 (ev_X5_sortWord_1 _ _) rfl (by simp [Value.category]) rfl (Nat.zero_le _) (Nat.zero_le _) rfl ?_
      refine m_callV_r (As := [_]) (q := 22) mk_X5_isWord dX5_takeSort_19 wd_354 wd_356 wp_9 (ci := 5) rfl ⟨by decide, _, rfl⟩ (ev_X5_isWord _ _ 3 _ _ (by omega) hT.2.2.1 hT.2.2.2.2.1 hT.2.2.2.2.2 (by have := hT.2.1; have := hT.2.2.2.1; omega)) rfl (by decide) rfl (Nat.zero_le _) (Nat.zero_le _) rfl ?_
      refine zb_eq (tgt := 31) (q := 25) dX5_takeSort_22 (by decide) rfl (fun c3 => ?_) (fun c3 => ?_)
      · skip
        refine z_iinc (i := 1) (ls' := [_, _]) (v := 2) (q := 34) dX5_takeSort_31 rfl (by decide) (by decide) rfl rfl ?_
        refine z_goto (tgt := 2) dX5_takeSort_34 (by decide) ?_
        refine z_iload_n (i := 1) (q := 3) dX5_takeSort_2 rfl rfl rfl ?_
        refine z_iconst (v := 5) (q := 4) dX5_takeSort_3 (by decide) rfl ?_
        refine z_icmp_gt (tgt := 37) (q := 7) dX5_takeSort_4 (by decide) rfl (fun c4 => ?_) (fun c4 => ?_)
        · exact absurd c4 (by decide)
        · skip
          refine z_aload_n (i := 0) (q := 8) dX5_takeSort_7 rfl rfl rfl ?_
          refine m_getI (q := 11) dX5_takeSort_8 fl_X5_31 ⟨by decide, _, rfl, rfl⟩ rfl ?_
          refine z_if_ne (tgt := 31) (q := 14) dX5_takeSort_11 (by decide) rfl (fun c5 => ?_) (fun c5 => ?_)
          · exact absurd hf c5
          · skip
            refine z_aload_n (i := 0) (q := 15) dX5_takeSort_14 rfl rfl rfl ?_
            refine z_iload_n (i := 1) (q := 16) dX5_takeSort_15 rfl rfl rfl ?_
            refine m_callS_r (As := [_]) (q := 19) mk_X5_sortWord dX5_takeSort_16 wd_434 wd_435 (ev_X5_sortWord_2 _ _) rfl (by simp [Value.category]) rfl (Nat.zero_le _) (Nat.zero_le _) rfl ?_
            refine m_callV_r (As := [_]) (q := 22) mk_X5_isWord dX5_takeSort_19 wd_354 wd_356 wp_9 (ci := 5) rfl ⟨by decide, _, rfl⟩ (ev_X5_isWord _ _ 4 _ _ (by omega) hT.2.2.1 hT.2.2.2.2.1 hT.2.2.2.2.2 (by have := hT.2.1; have := hT.2.2.2.1; omega)) rfl (by decide) rfl (Nat.zero_le _) (Nat.zero_le _) rfl ?_
            refine zb_eq (tgt := 31) (q := 25) dX5_takeSort_22 (by decide) rfl (fun c6 => ?_) (fun c6 => ?_)
            · skip
              refine z_iinc (i := 1) (ls' := [_, _]) (v := 3) (q := 34) dX5_takeSort_31 rfl (by decide) (by decide) rfl rfl ?_
              refine z_goto (tgt := 2) dX5_takeSort_34 (by decide) ?_
              refine z_iload_n (i := 1) (q := 3) dX5_takeSort_2 rfl rfl rfl ?_
              refine z_iconst (v := 5) (q := 4) dX5_takeSort_3 (by decide) rfl ?_
              refine z_icmp_gt (tgt := 37) (q := 7) dX5_takeSort_4 (by decide) rfl (fun c7 => ?_) (fun c7 => ?_)
              · exact absurd c7 (by decide)
              · skip
                refine z_aload_n (i := 0) (q := 8) dX5_takeSort_7 rfl rfl rfl ?_
                refine m_getI (q := 11) dX5_takeSort_8 fl_X5_31 ⟨by decide, _, rfl, rfl⟩ rfl ?_
                refine z_if_ne (tgt := 31) (q := 14) dX5_takeSort_11 (by decide) rfl (fun c8 => ?_) (fun c8 => ?_)
                · exact absurd hf c8
                · skip
                  refine z_aload_n (i := 0) (q := 15) dX5_takeSort_14 rfl rfl rfl ?_
                  refine z_iload_n (i := 1) (q := 16) dX5_takeSort_15 rfl rfl rfl ?_
                  refine m_callS_r (As := [_]) (q := 19) mk_X5_sortWord dX5_takeSort_16 wd_434 wd_435 (ev_X5_sortWord_3 _ _) rfl (by simp [Value.category]) rfl (Nat.zero_le _) (Nat.zero_le _) rfl ?_
                  refine m_callV_r (As := [_]) (q := 22) mk_X5_isWord dX5_takeSort_19 wd_354 wd_356 wp_9 (ci := 5) rfl ⟨by decide, _, rfl⟩ (ev_X5_isWord _ _ 5 _ _ (by omega) hT.2.2.1 hT.2.2.2.2.1 hT.2.2.2.2.2 (by have := hT.2.1; have := hT.2.2.2.1; omega)) rfl (by decide) rfl (Nat.zero_le _) (Nat.zero_le _) rfl ?_
                  refine zb_eq (tgt := 31) (q := 25) dX5_takeSort_22 (by decide) rfl (fun c9 => ?_) (fun c9 => ?_)
                  · skip
                    refine z_iinc (i := 1) (ls' := [_, _]) (v := 4) (q := 34) dX5_takeSort_31 rfl (by decide) (by decide) rfl rfl ?_
                    refine z_goto (tgt := 2) dX5_takeSort_34 (by decide) ?_
                    refine z_iload_n (i := 1) (q := 3) dX5_takeSort_2 rfl rfl rfl ?_
                    refine z_iconst (v := 5) (q := 4) dX5_takeSort_3 (by decide) rfl ?_
                    refine z_icmp_gt (tgt := 37) (q := 7) dX5_takeSort_4 (by decide) rfl (fun c10 => ?_) (fun c10 => ?_)
                    · exact absurd c10 (by decide)
                    · skip
                      refine z_aload_n (i := 0) (q := 8) dX5_takeSort_7 rfl rfl rfl ?_
                      refine m_getI (q := 11) dX5_takeSort_8 fl_X5_31 ⟨by decide, _, rfl, rfl⟩ rfl ?_
                      refine z_if_ne (tgt := 31) (q := 14) dX5_takeSort_11 (by decide) rfl (fun c11 => ?_) (fun c11 => ?_)
                      · exact absurd hf c11
                      · skip
                        refine z_aload_n (i := 0) (q := 15) dX5_takeSort_14 rfl rfl rfl ?_
                        refine z_iload_n (i := 1) (q := 16) dX5_takeSort_15 rfl rfl rfl ?_
                        refine m_callS_r (As := [_]) (q := 19) mk_X5_sortWord dX5_takeSort_16 wd_434 wd_435 (ev_X5_sortWord_4 _ _) rfl (by simp [Value.category]) rfl (Nat.zero_le _) (Nat.zero_le _) rfl ?_
                        refine m_callV_r (As := [_]) (q := 22) mk_X5_isWord dX5_takeSort_19 wd_354 wd_356 wp_9 (ci := 5) rfl ⟨by decide, _, rfl⟩ (ev_X5_isWord _ _ 6 _ _ (by omega) hT.2.2.1 hT.2.2.2.2.1 hT.2.2.2.2.2 (by have := hT.2.1; have := hT.2.2.2.1; omega)) rfl (by decide) rfl (Nat.zero_le _) (Nat.zero_le _) rfl ?_
                        refine zb_eq (tgt := 31) (q := 25) dX5_takeSort_22 (by decide) rfl (fun c12 => ?_) (fun c12 => ?_)
                        · skip
                          refine z_iinc (i := 1) (ls' := [_, _]) (v := 5) (q := 34) dX5_takeSort_31 rfl (by decide) (by decide) rfl rfl ?_
                          refine z_goto (tgt := 2) dX5_takeSort_34 (by decide) ?_
                          refine z_iload_n (i := 1) (q := 3) dX5_takeSort_2 rfl rfl rfl ?_
                          refine z_iconst (v := 5) (q := 4) dX5_takeSort_3 (by decide) rfl ?_
                          refine z_icmp_gt (tgt := 37) (q := 7) dX5_takeSort_4 (by decide) rfl (fun c13 => ?_) (fun c13 => ?_)
                          · exact absurd c13 (by decide)
                          · skip
                            refine z_aload_n (i := 0) (q := 8) dX5_takeSort_7 rfl rfl rfl ?_
                            refine m_getI (q := 11) dX5_takeSort_8 fl_X5_31 ⟨by decide, _, rfl, rfl⟩ rfl ?_
                            refine z_if_ne (tgt := 31) (q := 14) dX5_takeSort_11 (by decide) rfl (fun c14 => ?_) (fun c14 => ?_)
                            · exact absurd hf c14
                            · skip
                              refine z_aload_n (i := 0) (q := 15) dX5_takeSort_14 rfl rfl rfl ?_
                              refine z_iload_n (i := 1) (q := 16) dX5_takeSort_15 rfl rfl rfl ?_
                              refine m_callS_r (As := [_]) (q := 19) mk_X5_sortWord dX5_takeSort_16 wd_434 wd_435 (ev_X5_sortWord_5 _ _) rfl (by simp [Value.category]) rfl (Nat.zero_le _) (Nat.zero_le _) rfl ?_
                              refine m_callV_r (As := [_]) (q := 22) mk_X5_isWord dX5_takeSort_19 wd_354 wd_356 wp_9 (ci := 5) rfl ⟨by decide, _, rfl⟩ (ev_X5_isWord _ _ 7 _ _ (by omega) hT.2.2.1 hT.2.2.2.2.1 hT.2.2.2.2.2 (by have := hT.2.1; have := hT.2.2.2.1; omega)) rfl (by decide) rfl (Nat.zero_le _) (Nat.zero_le _) rfl ?_
                              refine zb_eq (tgt := 31) (q := 25) dX5_takeSort_22 (by decide) rfl (fun c15 => ?_) (fun c15 => ?_)
                              · skip
                                refine z_iinc (i := 1) (ls' := [_, _]) (v := 6) (q := 34) dX5_takeSort_31 rfl (by decide) (by decide) rfl rfl ?_
                                refine z_goto (tgt := 2) dX5_takeSort_34 (by decide) ?_
                                refine z_iload_n (i := 1) (q := 3) dX5_takeSort_2 rfl rfl rfl ?_
                                refine z_iconst (v := 5) (q := 4) dX5_takeSort_3 (by decide) rfl ?_
                                refine z_icmp_gt (tgt := 37) (q := 7) dX5_takeSort_4 (by decide) rfl (fun c16 => ?_) (fun c16 => ?_)
                                · skip
                                  refine z_aload_n (i := 0) (q := 38) dX5_takeSort_37 rfl rfl rfl ?_
                                  refine z_iconst (v := 1) (q := 39) dX5_takeSort_38 (by decide) rfl ?_
                                  refine m_callV_v (As := [_]) (q := 42) mk_X5_fail dX5_takeSort_39 wd_406 wd_408 wp_10 (ci := 5) rfl ⟨by decide, _, rfl⟩ (ev_X5_fail _ _ _) rfl (by decide) rfl (Nat.zero_le _) (Nat.zero_le _) rfl ?_
                                  refine z_iconst (v := 1) (q := 43) dX5_takeSort_42 (by decide) rfl ?_
                                  refine z_ireturn dX5_takeSort_43 rfl rfl ?_ (Nat.le_refl _) (Nat.le_refl _)
                                  have hi : cSortI m = 0 := by
                                    unfold cSortI
                                    rw [if_neg c3, if_neg c6, if_neg c9, if_neg c12, if_neg c15]
                                  rw [show cSortR m = 1 from if_neg (fun q => q.2 hi), show cSortM m = cFail m 1 from if_neg (fun q => q.2 hi)]
                                · exact absurd c16 (by decide)
                              · skip
                                refine z_aload_n (i := 0) (q := 26) dX5_takeSort_25 rfl rfl rfl ?_
                                refine m_callV_v (As := []) (q := 29) mk_X5_nextToken dX5_takeSort_26 wd_333 wd_335 wp_4 (ci := 5) rfl ⟨by decide, _, rfl⟩ (ev_X5_nextToken _ _ _ _  hT.1 hT.2.2.1 hT.2.1 hT.2.2.2.1) rfl (by decide) rfl (Nat.zero_le _) (Nat.zero_le _) rfl ?_
                                refine z_iload_n (i := 1) (q := 30) dX5_takeSort_29 rfl rfl rfl ?_
                                refine z_ireturn dX5_takeSort_30 rfl rfl ?_ (Nat.le_refl _) (Nat.le_refl _)
                                have hi : cSortI m = 5 := by
                                  unfold cSortI
                                  rw [if_neg c3, if_neg c6, if_neg c9, if_neg c12, if_pos c15]
                                rw [show cSortR m = 5 from (if_pos ⟨hf, by rw [hi]; decide⟩).trans hi, show cSortM m = cNx m from if_pos ⟨hf, by rw [hi]; decide⟩]
                        · skip
                          refine z_aload_n (i := 0) (q := 26) dX5_takeSort_25 rfl rfl rfl ?_
                          refine m_callV_v (As := []) (q := 29) mk_X5_nextToken dX5_takeSort_26 wd_333 wd_335 wp_4 (ci := 5) rfl ⟨by decide, _, rfl⟩ (ev_X5_nextToken _ _ _ _  hT.1 hT.2.2.1 hT.2.1 hT.2.2.2.1) rfl (by decide) rfl (Nat.zero_le _) (Nat.zero_le _) rfl ?_
                          refine z_iload_n (i := 1) (q := 30) dX5_takeSort_29 rfl rfl rfl ?_
                          refine z_ireturn dX5_takeSort_30 rfl rfl ?_ (Nat.le_refl _) (Nat.le_refl _)
                          have hi : cSortI m = 4 := by
                            unfold cSortI
                            rw [if_neg c3, if_neg c6, if_neg c9, if_pos c12]
                          rw [show cSortR m = 4 from (if_pos ⟨hf, by rw [hi]; decide⟩).trans hi, show cSortM m = cNx m from if_pos ⟨hf, by rw [hi]; decide⟩]
                  · skip
                    refine z_aload_n (i := 0) (q := 26) dX5_takeSort_25 rfl rfl rfl ?_
                    refine m_callV_v (As := []) (q := 29) mk_X5_nextToken dX5_takeSort_26 wd_333 wd_335 wp_4 (ci := 5) rfl ⟨by decide, _, rfl⟩ (ev_X5_nextToken _ _ _ _  hT.1 hT.2.2.1 hT.2.1 hT.2.2.2.1) rfl (by decide) rfl (Nat.zero_le _) (Nat.zero_le _) rfl ?_
                    refine z_iload_n (i := 1) (q := 30) dX5_takeSort_29 rfl rfl rfl ?_
                    refine z_ireturn dX5_takeSort_30 rfl rfl ?_ (Nat.le_refl _) (Nat.le_refl _)
                    have hi : cSortI m = 3 := by
                      unfold cSortI
                      rw [if_neg c3, if_neg c6, if_pos c9]
                    rw [show cSortR m = 3 from (if_pos ⟨hf, by rw [hi]; decide⟩).trans hi, show cSortM m = cNx m from if_pos ⟨hf, by rw [hi]; decide⟩]
            · skip
              refine z_aload_n (i := 0) (q := 26) dX5_takeSort_25 rfl rfl rfl ?_
              refine m_callV_v (As := []) (q := 29) mk_X5_nextToken dX5_takeSort_26 wd_333 wd_335 wp_4 (ci := 5) rfl ⟨by decide, _, rfl⟩ (ev_X5_nextToken _ _ _ _  hT.1 hT.2.2.1 hT.2.1 hT.2.2.2.1) rfl (by decide) rfl (Nat.zero_le _) (Nat.zero_le _) rfl ?_
              refine z_iload_n (i := 1) (q := 30) dX5_takeSort_29 rfl rfl rfl ?_
              refine z_ireturn dX5_takeSort_30 rfl rfl ?_ (Nat.le_refl _) (Nat.le_refl _)
              have hi : cSortI m = 2 := by
                unfold cSortI
                rw [if_neg c3, if_pos c6]
              rw [show cSortR m = 2 from (if_pos ⟨hf, by rw [hi]; decide⟩).trans hi, show cSortM m = cNx m from if_pos ⟨hf, by rw [hi]; decide⟩]
      · skip
        refine z_aload_n (i := 0) (q := 26) dX5_takeSort_25 rfl rfl rfl ?_
        refine m_callV_v (As := []) (q := 29) mk_X5_nextToken dX5_takeSort_26 wd_333 wd_335 wp_4 (ci := 5) rfl ⟨by decide, _, rfl⟩ (ev_X5_nextToken _ _ _ _  hT.1 hT.2.2.1 hT.2.1 hT.2.2.2.1) rfl (by decide) rfl (Nat.zero_le _) (Nat.zero_le _) rfl ?_
        refine z_iload_n (i := 1) (q := 30) dX5_takeSort_29 rfl rfl rfl ?_
        refine z_ireturn dX5_takeSort_30 rfl rfl ?_ (Nat.le_refl _) (Nat.le_refl _)
        have hi : cSortI m = 1 := by
          unfold cSortI
          rw [if_pos c3]
        rw [show cSortR m = 1 from (if_pos ⟨hf, by rw [hi]; decide⟩).trans hi, show cSortM m = cNx m from if_pos ⟨hf, by rw [hi]; decide⟩]
set_option maxHeartbeats 4000000 in
set_option maxRecDepth 100000 in
theorem ev_X5_takeSort_1 (d : Nat) (m : zm) (hf : ¬ m.1 12 6 = 0) : zEv (d + 5) zM_X5_takeSort 0 0 [.ref 12] (lay m) (some (.int (cSortR m)), lay (cSortM m)) := by
  refine zEv_of (by decide) (fun G => Nat.le_of_ble_eq_true rfl) ?_
  show ZW _ _ _ _ 0 [some (.ref 12), none] [] _ _ _ _
  refine z_iconst (v := 1) (q := 1) dX5_takeSort_0 (by decide) rfl ?_
  refine z_istore_n (i := 1) (ls' := [_, _]) (q := 2) dX5_takeSort_1 rfl (by decide) rfl rfl ?_
  refine z_iload_n (i := 1) (q := 3) dX5_takeSort_2 rfl rfl rfl ?_
  refine z_iconst (v := 5) (q := 4) dX5_takeSort_3 (by decide) rfl ?_
  refine z_icmp_gt (tgt := 37) (q := 7) dX5_takeSort_4 (by decide) rfl (fun c1 => ?_) (fun c1 => ?_)
  · exact absurd c1 (by decide)
  · skip
    refine z_aload_n (i := 0) (q := 8) dX5_takeSort_7 rfl rfl rfl ?_
    refine m_getI (q := 11) dX5_takeSort_8 fl_X5_31 ⟨by decide, _, rfl, rfl⟩ rfl ?_
    refine z_if_ne (tgt := 31) (q := 14) dX5_takeSort_11 (by decide) rfl (fun c2 => ?_) (fun c2 => ?_)
    · skip
      refine z_iinc (i := 1) (ls' := [_, _]) (v := 2) (q := 34) dX5_takeSort_31 rfl (by decide) (by decide) rfl rfl ?_
      refine z_goto (tgt := 2) dX5_takeSort_34 (by decide) ?_
      refine z_iload_n (i := 1) (q := 3) dX5_takeSort_2 rfl rfl rfl ?_
      refine z_iconst (v := 5) (q := 4) dX5_takeSort_3 (by decide) rfl ?_
      refine z_icmp_gt (tgt := 37) (q := 7) dX5_takeSort_4 (by decide) rfl (fun c3 => ?_) (fun c3 => ?_)
      · exact absurd c3 (by decide)
      · skip
        refine z_aload_n (i := 0) (q := 8) dX5_takeSort_7 rfl rfl rfl ?_
        refine m_getI (q := 11) dX5_takeSort_8 fl_X5_31 ⟨by decide, _, rfl, rfl⟩ rfl ?_
        refine z_if_ne (tgt := 31) (q := 14) dX5_takeSort_11 (by decide) rfl (fun c4 => ?_) (fun c4 => ?_)
        · skip
          refine z_iinc (i := 1) (ls' := [_, _]) (v := 3) (q := 34) dX5_takeSort_31 rfl (by decide) (by decide) rfl rfl ?_
          refine z_goto (tgt := 2) dX5_takeSort_34 (by decide) ?_
          refine z_iload_n (i := 1) (q := 3) dX5_takeSort_2 rfl rfl rfl ?_
          refine z_iconst (v := 5) (q := 4) dX5_takeSort_3 (by decide) rfl ?_
          refine z_icmp_gt (tgt := 37) (q := 7) dX5_takeSort_4 (by decide) rfl (fun c5 => ?_) (fun c5 => ?_)
          · exact absurd c5 (by decide)
          · skip
            refine z_aload_n (i := 0) (q := 8) dX5_takeSort_7 rfl rfl rfl ?_
            refine m_getI (q := 11) dX5_takeSort_8 fl_X5_31 ⟨by decide, _, rfl, rfl⟩ rfl ?_
            refine z_if_ne (tgt := 31) (q := 14) dX5_takeSort_11 (by decide) rfl (fun c6 => ?_) (fun c6 => ?_)
            · skip
              refine z_iinc (i := 1) (ls' := [_, _]) (v := 4) (q := 34) dX5_takeSort_31 rfl (by decide) (by decide) rfl rfl ?_
              refine z_goto (tgt := 2) dX5_takeSort_34 (by decide) ?_
              refine z_iload_n (i := 1) (q := 3) dX5_takeSort_2 rfl rfl rfl ?_
              refine z_iconst (v := 5) (q := 4) dX5_takeSort_3 (by decide) rfl ?_
              refine z_icmp_gt (tgt := 37) (q := 7) dX5_takeSort_4 (by decide) rfl (fun c7 => ?_) (fun c7 => ?_)
              · exact absurd c7 (by decide)
              · skip
                refine z_aload_n (i := 0) (q := 8) dX5_takeSort_7 rfl rfl rfl ?_
                refine m_getI (q := 11) dX5_takeSort_8 fl_X5_31 ⟨by decide, _, rfl, rfl⟩ rfl ?_
                refine z_if_ne (tgt := 31) (q := 14) dX5_takeSort_11 (by decide) rfl (fun c8 => ?_) (fun c8 => ?_)
                · skip
                  refine z_iinc (i := 1) (ls' := [_, _]) (v := 5) (q := 34) dX5_takeSort_31 rfl (by decide) (by decide) rfl rfl ?_
                  refine z_goto (tgt := 2) dX5_takeSort_34 (by decide) ?_
                  refine z_iload_n (i := 1) (q := 3) dX5_takeSort_2 rfl rfl rfl ?_
                  refine z_iconst (v := 5) (q := 4) dX5_takeSort_3 (by decide) rfl ?_
                  refine z_icmp_gt (tgt := 37) (q := 7) dX5_takeSort_4 (by decide) rfl (fun c9 => ?_) (fun c9 => ?_)
                  · exact absurd c9 (by decide)
                  · skip
                    refine z_aload_n (i := 0) (q := 8) dX5_takeSort_7 rfl rfl rfl ?_
                    refine m_getI (q := 11) dX5_takeSort_8 fl_X5_31 ⟨by decide, _, rfl, rfl⟩ rfl ?_
                    refine z_if_ne (tgt := 31) (q := 14) dX5_takeSort_11 (by decide) rfl (fun c10 => ?_) (fun c10 => ?_)
                    · skip
                      refine z_iinc (i := 1) (ls' := [_, _]) (v := 6) (q := 34) dX5_takeSort_31 rfl (by decide) (by decide) rfl rfl ?_
                      refine z_goto (tgt := 2) dX5_takeSort_34 (by decide) ?_
                      refine z_iload_n (i := 1) (q := 3) dX5_takeSort_2 rfl rfl rfl ?_
                      refine z_iconst (v := 5) (q := 4) dX5_takeSort_3 (by decide) rfl ?_
                      refine z_icmp_gt (tgt := 37) (q := 7) dX5_takeSort_4 (by decide) rfl (fun c11 => ?_) (fun c11 => ?_)
                      · skip
                        refine z_aload_n (i := 0) (q := 38) dX5_takeSort_37 rfl rfl rfl ?_
                        refine z_iconst (v := 1) (q := 39) dX5_takeSort_38 (by decide) rfl ?_
                        refine m_callV_v (As := [_]) (q := 42) mk_X5_fail dX5_takeSort_39 wd_406 wd_408 wp_10 (ci := 5) rfl ⟨by decide, _, rfl⟩ (ev_X5_fail _ _ _) rfl (by decide) rfl (Nat.zero_le _) (Nat.zero_le _) rfl ?_
                        refine z_iconst (v := 1) (q := 43) dX5_takeSort_42 (by decide) rfl ?_
                        refine z_ireturn dX5_takeSort_43 rfl rfl ?_ (Nat.le_refl _) (Nat.le_refl _)
                        rw [show cSortR m = 1 from if_neg (fun q => hf q.1), show cSortM m = cFail m 1 from if_neg (fun q => hf q.1)]
                      · exact absurd c11 (by decide)
                    · exact absurd c10 hf
                · exact absurd c8 hf
            · exact absurd c6 hf
        · exact absurd c4 hf
    · exact absurd c2 hf
theorem ev_X5_takeSort (d : Nat) (m : zm) (hT : tOk m) : zEv (d + 5) zM_X5_takeSort 0 0 [.ref 12] (lay m) (some (.int (cSortR m)), lay (cSortM m)) := by
  by_cases hf : m.1 12 6 = 0
  · exact ev_X5_takeSort_0 d m hT hf
  · exact ev_X5_takeSort_1 d m hf
def cPut (m : zm) (a k : Nat) (l h u : Int32) : zm := upI (cNumM m l h u) a k (cNumR m l h u)
theorem tOk_P {m : zm} {a k : Nat} {l h u : Int32} (ha : a ≠ 12) (hT : tOk m) : tOk (cPut m a k l h u) := tOk_u ha (tOk_N hT)
def cWay1 (m : zm) (w : Nat) : zm := cPut (cTakeW m 1) (32 + w) 0 0 ((cTakeW m 1).1 29 0 - 1) (-1000000)
def cWay2 (m : zm) (w : Nat) : zm := cPut (cWay1 m w) (32 + w) 1 0 ((cWay1 m w).1 29 0 - 1) ((cWay1 m w).1 (32 + w) 0)
def cWay3 (m : zm) (w : Nat) : zm := cPut (cWay2 m w) (32 + w) 2 1 20 (-1000000)
def cWay4 (m : zm) (w : Nat) : zm := cTakeS (cPut (cWay3 m w) (32 + w) 3 0 ((cWay3 m w).1 (32 + w) 2) (-1000000))
def cWay (m : zm) (w : Nat) : zm := upI (cWay4 m w) 29 2 ((cWay4 m w).1 29 2 + 1)
def cPer1 (m : zm) : zm := cSortM (cTakeW m 2)
def cPer2 (m : zm) : zm := cNumM (cPer1 m) 0 ((cPer1 m).1 29 0 - 1) (-1000000)
def cPer3 (m : zm) : zm := cTakeS (cNumM (cPer2 m) 0 99 (-1000000))
def cPer (m : zm) (p : Nat) : zm :=
  upI (cBegin (cPer3 m) (40 + p) (cSortR (cTakeW m 2)) (cNumR (cPer1 m) 0 ((cPer1 m).1 29 0 - 1) (-1000000)) (cNumR (cPer2 m) 0 99 (-1000000))) 29 3 ((cBegin (cPer3 m) (40 + p) (cSortR (cTakeW m 2)) (cNumR (cPer1 m) 0 ((cPer1 m).1 29 0 - 1) (-1000000)) (cNumR (cPer2 m) 0 99 (-1000000))).1 29 3 + 1)
theorem nx_o {m : zm} {t b a k : Nat} (ha : a ≠ 12) : (cNext m t b).1 a k = m.1 a k := by
  unfold cNext cTok cNumTok
  repeat' split
  all_goals (repeat rw [upI_ne (fun z => ha z.1)])
theorem fail_o {m : zm} {z : Int32} {a k : Nat} (ha : a ≠ 12) : (cFail m z).1 a k = m.1 a k := by
  unfold cFail
  split
  · rw [upI_ne (fun z => ha z.1), upI_ne (fun z => ha z.1)]
  · rfl
theorem tw_o {m : zm} {i a k : Nat} (ha : a ≠ 12) : (cTakeW m i).1 a k = m.1 a k := by
  unfold cTakeW
  split
  · exact nx_o ha
  · exact fail_o ha
theorem ts_o {m : zm} {a k : Nat} (ha : a ≠ 12) : (cTakeS m).1 a k = m.1 a k := by
  unfold cTakeS
  split
  · exact nx_o ha
  · exact fail_o ha
theorem nm_o {m : zm} {l h u : Int32} {a k : Nat} (ha : a ≠ 12) : (cNumM m l h u).1 a k = m.1 a k := by
  unfold cNumM
  repeat' split
  · exact fail_o ha
  · exact nx_o ha
  · exact fail_o ha
theorem so_o {m : zm} {a k : Nat} (ha : a ≠ 12) : (cSortM m).1 a k = m.1 a k := by
  unfold cSortM
  split
  · exact nx_o ha
  · exact fail_o ha
set_option maxHeartbeats 4000000 in
set_option maxRecDepth 100000 in
theorem ev_X5_readWay (d : Nat) (m : zm) (w : Nat) (hT : tOk m) (hw : m.1 29 2 = nI w) (hw8 : w ≤ 8) : zEv (d + 6) zM_X5_readWay 0 0 [.ref 12, .ref 29] (lay m) (none, lay (if w < 8 then cWay m w else cFail m 3)) := by
  refine zEv_of (by decide) (fun G => Nat.le_of_ble_eq_true rfl) ?_
  show ZW _ _ _ _ 0 [some (.ref 12), some (.ref 29), none] [] _ _ _ _
  refine z_aload_n (i := 1) (q := 1) dX5_readWay_0 rfl rfl rfl ?_
  refine m_getI (q := 4) dX5_readWay_1 fl_X5_39 ⟨by decide, _, rfl, rfl⟩ rfl ?_
  rw [hw]
  refine z_bipush (v := 8) (q := 6) dX5_readWay_4 (by decide) rfl ?_
  refine z_icmp_lt (tgt := 15) (q := 9) dX5_readWay_6 (by decide) rfl (fun c1 => ?_) (fun c1 => ?_)
  · skip
    have hlt : w < 8 := (nI_ltI (b := 8) (by omega) (by omega)).mp c1
    rw [if_pos hlt]
    refine z_aload_n (i := 1) (q := 16) dX5_readWay_15 rfl rfl rfl ?_
    refine m_getR (r := 30) (q := 19) dX5_readWay_16 fl_X5_89 ⟨by decide, _, rfl, rfl⟩ rfl ?_
    refine z_aload_n (i := 1) (q := 20) dX5_readWay_19 rfl rfl rfl ?_
    refine m_getI (q := 23) dX5_readWay_20 fl_X5_39 ⟨by decide, _, rfl, rfl⟩ rfl ?_
    rw [hw]
    refine m_aald (kd := 4) (N := 8) (b := 32 + w) (q := 24) dX5_readWay_23 (by decide) (okPn (by decide) rfl (by omega) (by decide)) (nI_pos' (by omega)) rfl ?_
    refine z_astore_n (i := 2) (ls' := [_, _, _]) (q := 25) dX5_readWay_24 rfl (by decide) rfl rfl ?_
    refine z_aload_n (i := 0) (q := 26) dX5_readWay_25 rfl rfl rfl ?_
    refine z_ldcS (tx := "way") (i := 1) (q := 28) dX5_readWay_26 (by decide +kernel) rfl ?_
    refine m_callV_v (As := [_]) (q := 31) mk_X5_takeWord dX5_readWay_28 wd_350 wd_352 wp_8 (ci := 5) rfl ⟨by decide, _, rfl⟩ (ev_X5_takeWord _ _ 1 (by omega) (by repeat (with_reducible first | exact hT | refine tOk_W ?_ | refine tOk_N ?_ | refine tOk_S ?_ | refine tOk_so ?_ | refine tOk_f ?_ | refine tOk_u (by omega) ?_))) rfl (by decide) rfl (Nat.zero_le _) (Nat.zero_le _) rfl ?_
    refine z_aload_n (i := 2) (q := 32) dX5_readWay_31 rfl rfl rfl ?_
    refine z_aload_n (i := 0) (q := 33) dX5_readWay_32 rfl rfl rfl ?_
    refine z_iconst (v := 0) (q := 34) dX5_readWay_33 (by decide) rfl ?_
    refine z_aload_n (i := 1) (q := 35) dX5_readWay_34 rfl rfl rfl ?_
    refine m_getI (q := 38) dX5_readWay_35 fl_X5_61 ⟨by decide, _, rfl, rfl⟩ rfl ?_
    refine z_iconst (v := 1) (q := 39) dX5_readWay_38 (by decide) rfl ?_
    refine z_isub (q := 40) dX5_readWay_39 rfl ?_
    refine z_ldc (q := 42) dX5_readWay_40 wd_410 rfl ?_
    refine m_callV_r (As := [_, _, _]) (q := 45) mk_X5_takeNumber dX5_readWay_42 wd_411 wd_413 wp_11 (ci := 5) rfl ⟨by decide, _, rfl⟩ (ev_X5_takeNumber _ _ _ _ _ (by repeat (with_reducible first | exact hT | refine tOk_W ?_ | refine tOk_N ?_ | refine tOk_S ?_ | refine tOk_so ?_ | refine tOk_f ?_ | refine tOk_u (by omega) ?_))) rfl (by simp [Value.category]) rfl (Nat.zero_le _) (Nat.zero_le _) rfl ?_
    refine m_putI (q := 48) dX5_readWay_45 fp_X5_93 ⟨(isLea_29.2.2.2.2.2.1 w (by omega)).1, _, (isLea_29.2.2.2.2.2.1 w (by omega)).2, rfl⟩ ⟨rfl, rfl⟩ rfl ?_
    refine z_aload_n (i := 2) (q := 49) dX5_readWay_48 rfl rfl rfl ?_
    refine z_aload_n (i := 0) (q := 50) dX5_readWay_49 rfl rfl rfl ?_
    refine z_iconst (v := 0) (q := 51) dX5_readWay_50 (by decide) rfl ?_
    refine z_aload_n (i := 1) (q := 52) dX5_readWay_51 rfl rfl rfl ?_
    refine m_getI (q := 55) dX5_readWay_52 fl_X5_61 ⟨by decide, _, rfl, rfl⟩ rfl ?_
    refine z_iconst (v := 1) (q := 56) dX5_readWay_55 (by decide) rfl ?_
    refine z_isub (q := 57) dX5_readWay_56 rfl ?_
    refine z_aload_n (i := 2) (q := 58) dX5_readWay_57 rfl rfl rfl ?_
    refine m_getI (q := 61) dX5_readWay_58 fl_X5_93 ⟨(isLea_29.2.2.2.2.2.1 w (by omega)).1, _, (isLea_29.2.2.2.2.2.1 w (by omega)).2, rfl⟩ rfl ?_
    refine m_callV_r (As := [_, _, _]) (q := 64) mk_X5_takeNumber dX5_readWay_61 wd_411 wd_413 wp_11 (ci := 5) rfl ⟨by decide, _, rfl⟩ (ev_X5_takeNumber _ _ _ _ _ (by repeat (with_reducible first | exact hT | refine tOk_W ?_ | refine tOk_N ?_ | refine tOk_S ?_ | refine tOk_so ?_ | refine tOk_f ?_ | refine tOk_u (by omega) ?_))) rfl (by simp [Value.category]) rfl (Nat.zero_le _) (Nat.zero_le _) rfl ?_
    refine m_putI (q := 67) dX5_readWay_64 fp_X5_98 ⟨(isLea_29.2.2.2.2.2.1 w (by omega)).1, _, (isLea_29.2.2.2.2.2.1 w (by omega)).2, rfl⟩ ⟨rfl, rfl⟩ rfl ?_
    refine z_aload_n (i := 2) (q := 68) dX5_readWay_67 rfl rfl rfl ?_
    refine z_aload_n (i := 0) (q := 69) dX5_readWay_68 rfl rfl rfl ?_
    refine z_iconst (v := 1) (q := 70) dX5_readWay_69 (by decide) rfl ?_
    refine z_bipush (v := 20) (q := 72) dX5_readWay_70 (by decide) rfl ?_
    refine z_ldc (q := 74) dX5_readWay_72 wd_410 rfl ?_
    refine m_callV_r (As := [_, _, _]) (q := 77) mk_X5_takeNumber dX5_readWay_74 wd_411 wd_413 wp_11 (ci := 5) rfl ⟨by decide, _, rfl⟩ (ev_X5_takeNumber _ _ _ _ _ (by repeat (with_reducible first | exact hT | refine tOk_W ?_ | refine tOk_N ?_ | refine tOk_S ?_ | refine tOk_so ?_ | refine tOk_f ?_ | refine tOk_u (by omega) ?_))) rfl (by simp [Value.category]) rfl (Nat.zero_le _) (Nat.zero_le _) rfl ?_
    refine m_putI (q := 80) dX5_readWay_77 fp_X5_101 ⟨(isLea_29.2.2.2.2.2.1 w (by omega)).1, _, (isLea_29.2.2.2.2.2.1 w (by omega)).2, rfl⟩ ⟨rfl, rfl⟩ rfl ?_
    refine z_aload_n (i := 2) (q := 81) dX5_readWay_80 rfl rfl rfl ?_
    refine z_aload_n (i := 0) (q := 82) dX5_readWay_81 rfl rfl rfl ?_
    refine z_iconst (v := 0) (q := 83) dX5_readWay_82 (by decide) rfl ?_
    refine z_aload_n (i := 2) (q := 84) dX5_readWay_83 rfl rfl rfl ?_
    refine m_getI (q := 87) dX5_readWay_84 fl_X5_101 ⟨(isLea_29.2.2.2.2.2.1 w (by omega)).1, _, (isLea_29.2.2.2.2.2.1 w (by omega)).2, rfl⟩ rfl ?_
    refine z_ldc (q := 89) dX5_readWay_87 wd_410 rfl ?_
    refine m_callV_r (As := [_, _, _]) (q := 92) mk_X5_takeNumber dX5_readWay_89 wd_411 wd_413 wp_11 (ci := 5) rfl ⟨by decide, _, rfl⟩ (ev_X5_takeNumber _ _ _ _ _ (by repeat (with_reducible first | exact hT | refine tOk_W ?_ | refine tOk_N ?_ | refine tOk_S ?_ | refine tOk_so ?_ | refine tOk_f ?_ | refine tOk_u (by omega) ?_))) rfl (by simp [Value.category]) rfl (Nat.zero_le _) (Nat.zero_le _) rfl ?_
    refine m_putI (q := 95) dX5_readWay_92 fp_X5_104 ⟨(isLea_29.2.2.2.2.2.1 w (by omega)).1, _, (isLea_29.2.2.2.2.2.1 w (by omega)).2, rfl⟩ ⟨rfl, rfl⟩ rfl ?_
    refine z_aload_n (i := 0) (q := 96) dX5_readWay_95 rfl rfl rfl ?_
    refine m_callV_v (As := []) (q := 99) mk_X5_takeSign dX5_readWay_96 wd_416 wd_418 wp_12 (ci := 5) rfl ⟨by decide, _, rfl⟩ (ev_X5_takeSign _ _ (by repeat (with_reducible first | exact hT | refine tOk_W ?_ | refine tOk_N ?_ | refine tOk_S ?_ | refine tOk_so ?_ | refine tOk_f ?_ | refine tOk_u (by omega) ?_))) rfl (by decide) rfl (Nat.zero_le _) (Nat.zero_le _) rfl ?_
    refine z_aload_n (i := 1) (q := 100) dX5_readWay_99 rfl rfl rfl ?_
    refine z_dup (q := 101) dX5_readWay_100 rfl rfl ?_
    refine m_getI (q := 104) dX5_readWay_101 fl_X5_39 ⟨by decide, _, rfl, rfl⟩ rfl ?_
    refine z_iconst (v := 1) (q := 105) dX5_readWay_104 (by decide) rfl ?_
    refine z_iadd (q := 106) dX5_readWay_105 rfl ?_
    refine m_putI (q := 109) dX5_readWay_106 fp_X5_39 ⟨by decide, _, rfl, rfl⟩ ⟨rfl, rfl⟩ rfl ?_
    refine z_return dX5_readWay_109 rfl ?_ (Nat.le_refl _) (Nat.le_refl _)
    rfl
  · skip
    have hlt : ¬ w < 8 := fun q => c1 ((nI_ltI (b := 8) (by omega) (by omega)).mpr q)
    rw [if_neg hlt]
    refine z_aload_n (i := 0) (q := 10) dX5_readWay_9 rfl rfl rfl ?_
    refine z_iconst (v := 3) (q := 11) dX5_readWay_10 (by decide) rfl ?_
    refine m_callV_v (As := [_]) (q := 14) mk_X5_fail dX5_readWay_11 wd_406 wd_408 wp_10 (ci := 5) rfl ⟨by decide, _, rfl⟩ (ev_X5_fail _ _ _) rfl (by decide) rfl (Nat.zero_le _) (Nat.zero_le _) rfl ?_
    refine z_return dX5_readWay_14 rfl ?_ (Nat.le_refl _) (Nat.le_refl _)
    rfl
set_option maxHeartbeats 4000000 in
set_option maxRecDepth 100000 in
theorem ev_X5_readPerson (d : Nat) (m : zm) (p : Nat) (hT : tOk m) (hp : m.1 29 3 = nI p) (hp4 : p ≤ 4) : zEv (d + 6) zM_X5_readPerson 0 0 [.ref 12, .ref 29] (lay m) (none, lay (if p < 4 then cPer m p else cFail m 3)) := by
  refine zEv_of (by decide) (fun G => Nat.le_of_ble_eq_true rfl) ?_
  show ZW _ _ _ _ 0 [some (.ref 12), some (.ref 29), none, none, none] [] _ _ _ _
  refine z_aload_n (i := 1) (q := 1) dX5_readPerson_0 rfl rfl rfl ?_
  refine m_getI (q := 4) dX5_readPerson_1 fl_X5_44 ⟨by decide, _, rfl, rfl⟩ rfl ?_
  rw [hp]
  refine z_iconst (v := 4) (q := 5) dX5_readPerson_4 (by decide) rfl ?_
  refine z_icmp_lt (tgt := 14) (q := 8) dX5_readPerson_5 (by decide) rfl (fun c1 => ?_) (fun c1 => ?_)
  · skip
    have hlt : p < 4 := (nI_ltI (b := 4) (by omega) (by omega)).mp c1
    rw [if_pos hlt]
    refine z_aload_n (i := 0) (q := 15) dX5_readPerson_14 rfl rfl rfl ?_
    refine z_ldcS (tx := "person") (i := 2) (q := 17) dX5_readPerson_15 (by decide +kernel) rfl ?_
    refine m_callV_v (As := [_]) (q := 20) mk_X5_takeWord dX5_readPerson_17 wd_350 wd_352 wp_8 (ci := 5) rfl ⟨by decide, _, rfl⟩ (ev_X5_takeWord _ _ 2 (by omega) (by repeat (with_reducible first | exact hT | refine tOk_W ?_ | refine tOk_N ?_ | refine tOk_S ?_ | refine tOk_so ?_ | refine tOk_f ?_ | refine tOk_u (by omega) ?_))) rfl (by decide) rfl (Nat.zero_le _) (Nat.zero_le _) rfl ?_
    refine z_aload_n (i := 0) (q := 21) dX5_readPerson_20 rfl rfl rfl ?_
    refine m_callV_r (As := []) (q := 24) mk_X5_takeSort dX5_readPerson_21 wd_430 wd_432 wp_15 (ci := 5) rfl ⟨by decide, _, rfl⟩ (ev_X5_takeSort _ _ (by repeat (with_reducible first | exact hT | refine tOk_W ?_ | refine tOk_N ?_ | refine tOk_S ?_ | refine tOk_so ?_ | refine tOk_f ?_ | refine tOk_u (by omega) ?_))) rfl (by decide) rfl (Nat.zero_le _) (Nat.zero_le _) rfl ?_
    refine z_istore_n (i := 2) (ls' := [_, _, _, _, _]) (q := 25) dX5_readPerson_24 rfl (by decide) rfl rfl ?_
    refine z_aload_n (i := 0) (q := 26) dX5_readPerson_25 rfl rfl rfl ?_
    refine z_iconst (v := 0) (q := 27) dX5_readPerson_26 (by decide) rfl ?_
    refine z_aload_n (i := 1) (q := 28) dX5_readPerson_27 rfl rfl rfl ?_
    refine m_getI (q := 31) dX5_readPerson_28 fl_X5_61 ⟨by decide, _, rfl, rfl⟩ rfl ?_
    refine z_iconst (v := 1) (q := 32) dX5_readPerson_31 (by decide) rfl ?_
    refine z_isub (q := 33) dX5_readPerson_32 rfl ?_
    refine z_ldc (q := 35) dX5_readPerson_33 wd_410 rfl ?_
    refine m_callV_r (As := [_, _, _]) (q := 38) mk_X5_takeNumber dX5_readPerson_35 wd_411 wd_413 wp_11 (ci := 5) rfl ⟨by decide, _, rfl⟩ (ev_X5_takeNumber _ _ _ _ _ (by repeat (with_reducible first | exact hT | refine tOk_W ?_ | refine tOk_N ?_ | refine tOk_S ?_ | refine tOk_so ?_ | refine tOk_f ?_ | refine tOk_u (by omega) ?_))) rfl (by decide) rfl (Nat.zero_le _) (Nat.zero_le _) rfl ?_
    refine z_istore_n (i := 3) (ls' := [_, _, _, _, _]) (q := 39) dX5_readPerson_38 rfl (by decide) rfl rfl ?_
    refine z_aload_n (i := 0) (q := 40) dX5_readPerson_39 rfl rfl rfl ?_
    refine z_iconst (v := 0) (q := 41) dX5_readPerson_40 (by decide) rfl ?_
    refine z_bipush (v := 99) (q := 43) dX5_readPerson_41 (by decide) rfl ?_
    refine z_ldc (q := 45) dX5_readPerson_43 wd_410 rfl ?_
    refine m_callV_r (As := [_, _, _]) (q := 48) mk_X5_takeNumber dX5_readPerson_45 wd_411 wd_413 wp_11 (ci := 5) rfl ⟨by decide, _, rfl⟩ (ev_X5_takeNumber _ _ _ _ _ (by repeat (with_reducible first | exact hT | refine tOk_W ?_ | refine tOk_N ?_ | refine tOk_S ?_ | refine tOk_so ?_ | refine tOk_f ?_ | refine tOk_u (by omega) ?_))) rfl (by decide) rfl (Nat.zero_le _) (Nat.zero_le _) rfl ?_
    refine z_istore (i := 4) (ls' := [_, _, _, _, _]) (q := 50) dX5_readPerson_48 (by decide) rfl rfl ?_
    refine z_aload_n (i := 0) (q := 51) dX5_readPerson_50 rfl rfl rfl ?_
    refine m_callV_v (As := []) (q := 54) mk_X5_takeSign dX5_readPerson_51 wd_416 wd_418 wp_12 (ci := 5) rfl ⟨by decide, _, rfl⟩ (ev_X5_takeSign _ _ (by repeat (with_reducible first | exact hT | refine tOk_W ?_ | refine tOk_N ?_ | refine tOk_S ?_ | refine tOk_so ?_ | refine tOk_f ?_ | refine tOk_u (by omega) ?_))) rfl (by decide) rfl (Nat.zero_le _) (Nat.zero_le _) rfl ?_
    refine z_aload_n (i := 1) (q := 55) dX5_readPerson_54 rfl rfl rfl ?_
    refine m_getR (r := 31) (q := 58) dX5_readPerson_55 fl_X5_111 ⟨by decide, _, rfl, rfl⟩ rfl ?_
    refine z_aload_n (i := 1) (q := 59) dX5_readPerson_58 rfl rfl rfl ?_
    refine m_getI (q := 62) dX5_readPerson_59 fl_X5_44 ⟨by decide, _, rfl, rfl⟩ rfl ?_
    rw [ts_o (a := 29) (k := 3) (by decide), nm_o (a := 29) (k := 3) (by decide), nm_o (a := 29) (k := 3) (by decide), so_o (a := 29) (k := 3) (by decide), tw_o (a := 29) (k := 3) (by decide), hp]
    refine m_aald (kd := 5) (N := 4) (b := 40 + p) (q := 63) dX5_readPerson_62 (by decide) (okPn (by decide) rfl (by omega) (by decide)) (nI_pos' (by omega)) rfl ?_
    refine z_iload_n (i := 2) (q := 64) dX5_readPerson_63 rfl rfl rfl ?_
    refine z_iload_n (i := 3) (q := 65) dX5_readPerson_64 rfl rfl rfl ?_
    refine z_iload (i := 4) (q := 67) dX5_readPerson_65 rfl rfl ?_
    refine m_callV_v (As := [_, _, _]) (q := 70) mk_X4_beginsAs dX5_readPerson_67 wd_442 wd_443 wd_444 (ci := 4) rfl ⟨(isLea_29.2.2.2.2.2.2 p (by omega)).1, _, (isLea_29.2.2.2.2.2.2 p (by omega)).2⟩ (ev_X4_beginsAs _ _ _ _ _ _ (isLea_29.2.2.2.2.2.2 p (by omega))) rfl (by decide) rfl (Nat.zero_le _) (Nat.zero_le _) rfl ?_
    refine z_aload_n (i := 1) (q := 71) dX5_readPerson_70 rfl rfl rfl ?_
    refine z_dup (q := 72) dX5_readPerson_71 rfl rfl ?_
    refine m_getI (q := 75) dX5_readPerson_72 fl_X5_44 ⟨by decide, _, rfl, rfl⟩ rfl ?_
    refine z_iconst (v := 1) (q := 76) dX5_readPerson_75 (by decide) rfl ?_
    refine z_iadd (q := 77) dX5_readPerson_76 rfl ?_
    refine m_putI (q := 80) dX5_readPerson_77 fp_X5_44 ⟨by decide, _, rfl, rfl⟩ ⟨rfl, rfl⟩ rfl ?_
    refine z_return dX5_readPerson_80 rfl ?_ (Nat.le_refl _) (Nat.le_refl _)
    rfl
  · skip
    have hlt : ¬ p < 4 := fun q => c1 ((nI_ltI (b := 4) (by omega) (by omega)).mpr q)
    rw [if_neg hlt]
    refine z_aload_n (i := 0) (q := 9) dX5_readPerson_8 rfl rfl rfl ?_
    refine z_iconst (v := 3) (q := 10) dX5_readPerson_9 (by decide) rfl ?_
    refine m_callV_v (As := [_]) (q := 13) mk_X5_fail dX5_readPerson_10 wd_406 wd_408 wp_10 (ci := 5) rfl ⟨by decide, _, rfl⟩ (ev_X5_fail _ _ _) rfl (by decide) rfl (Nat.zero_le _) (Nat.zero_le _) rfl ?_
    refine z_return dX5_readPerson_13 rfl ?_ (Nat.le_refl _) (Nat.le_refl _)
    rfl
def tW (m : zm) : Nat := (m.1 29 2).toNatClampNeg
def tP (m : zm) : Nat := (m.1 29 3).toNatClampNeg
def rOk (m : zm) : Prop := tOk m ∧ m.1 29 2 = nI (tW m) ∧ tW m ≤ 8 ∧ m.1 29 3 = nI (tP m) ∧ tP m ≤ 4
theorem rOk_of {m : zm} {w p : Nat} (hT : tOk m) (h1 : m.1 29 2 = nI w) (h2 : w ≤ 8) (h3 : m.1 29 3 = nI p) (h4 : p ≤ 4) : rOk m ∧ tW m = w ∧ tP m = p := by
  have e1 : tW m = w := by unfold tW; rw [h1, nI_clamp (by omega)]
  have e2 : tP m = p := by unfold tP; rw [h3, nI_clamp (by omega)]
  exact ⟨⟨hT, by rw [e1]; exact h1, by omega, by rw [e2]; exact h3, by omega⟩, e1, e2⟩
theorem put_o {m : zm} {a k b j : Nat} {l h u : Int32} (ha : b ≠ 12) (hb : ¬ (b = a ∧ j = k)) : (cPut m a k l h u).1 b j = m.1 b j := by
  unfold cPut
  rw [upI_ne hb, nm_o ha]
theorem way4_o {m : zm} {w a k : Nat} (ha : a ≠ 12) (hb : a ≠ 32 + w) : (cWay4 m w).1 a k = m.1 a k := by
  unfold cWay4 cWay3 cWay2 cWay1
  rw [ts_o ha, put_o ha (fun z => hb z.1), put_o ha (fun z => hb z.1), put_o ha (fun z => hb z.1), put_o ha (fun z => hb z.1), tw_o ha]
theorem tOk_way {m : zm} {w : Nat} (hT : tOk m) : tOk (cWay m w) := by
  unfold cWay cWay4 cWay3 cWay2 cWay1
  exact tOk_u (by decide) (tOk_S (tOk_P (by omega) (tOk_P (by omega) (tOk_P (by omega) (tOk_P (by omega) (tOk_W hT))))))
def cWayS (m : zm) : zm := if tW m < 8 then cWay m (tW m) else cFail m 3
theorem rOk_way {m : zm} (h : rOk m) : rOk (cWayS m) := by
  obtain ⟨h1, h2, h3, h4, h5⟩ := h
  unfold cWayS
  split
  next hw =>
    refine (rOk_of (w := tW m + 1) (p := tP m) (tOk_way h1) ?_ (by omega) ?_ h5).1
    · unfold cWay
      rw [upI_eq, way4_o (by decide) (by omega), h2, nI_1]
    · unfold cWay
      rw [upI_ne (by decide), way4_o (by decide) (by omega)]
      exact h4
  next hw => exact (rOk_of (tOk_f h1) ((fail_o (by decide)).trans h2) h3 ((fail_o (by decide)).trans h4) h5).1
theorem tOk_beg {m : zm} {a : Nat} {x y z : Int32} (ha : a ≠ 12) (hT : tOk m) : tOk (cBegin m a x y z) := by
  unfold cBegin
  repeat (first | exact hT | refine tOk_u ha ?_)
theorem beg_o {m : zm} {a b j : Nat} {x y z : Int32} (hb : b ≠ a) : (cBegin m a x y z).1 b j = m.1 b j := by
  unfold cBegin
  repeat rw [upI_ne (fun z => hb z.1)]
def cPerS (m : zm) : zm := if tP m < 4 then cPer m (tP m) else cFail m 3
theorem per3_o {m : zm} {a k : Nat} (ha : a ≠ 12) : (cPer3 m).1 a k = m.1 a k := by
  unfold cPer3 cPer2 cPer1
  rw [ts_o ha, nm_o ha, nm_o ha, so_o ha, tw_o ha]
theorem tOk_per3 {m : zm} (h : tOk m) : tOk (cPer3 m) := by
  unfold cPer3 cPer2 cPer1
  exact tOk_S (tOk_N (tOk_N (tOk_so (tOk_W h))))
theorem rOk_per {m : zm} (h : rOk m) : rOk (cPerS m) := by
  obtain ⟨h1, h2, h3, h4, h5⟩ := h
  unfold cPerS
  split
  next hw =>
    refine (rOk_of (w := tW m) (p := tP m + 1) ?_ ?_ h3 ?_ (by omega)).1
    · unfold cPer
      exact tOk_u (by decide) (tOk_beg (by omega) (tOk_per3 h1))
    · unfold cPer
      rw [upI_ne (by decide), beg_o (by omega), per3_o (by decide)]
      exact h2
    · unfold cPer
      rw [upI_eq, beg_o (by omega), per3_o (by decide), h4, nI_1]
  next hw => exact (rOk_of (tOk_f h1) ((fail_o (by decide)).trans h2) h3 ((fail_o (by decide)).trans h4) h5).1
def cWays : Nat → zm → zm
  | 0, m => m
  | n + 1, m => if m.1 12 6 = 0 ∧ isWx m 1 then cWays n (cWayS m) else m
def cFolk : Nat → zm → zm
  | 0, m => m
  | n + 1, m => if m.1 12 6 = 0 ∧ isWx m 2 then cFolk n (cPerS m) else m
theorem rOk_ways {n : Nat} : ∀ {m : zm}, rOk m → rOk (cWays n m) := by
  induction n with
  | zero => exact fun h => h
  | succ n ih =>
    intro m h
    rw [cWays]
    split
    · exact ih (rOk_way h)
    · exact h
theorem rOk_pers {n : Nat} : ∀ {m : zm}, rOk m → rOk (cFolk n m) := by
  induction n with
  | zero => exact fun h => h
  | succ n ih =>
    intro m h
    rw [cFolk]
    split
    · exact ih (rOk_per h)
    · exact h
def cEnd (m : zm) : zm := if m.1 12 2 = 0 then m else cFail m 1
def cL0 (m : zm) (t : Nat) : zm := cNext (upI (upI (upI (upI (upI m 12 6 0) 12 7 0) 12 4 0) 29 2 0) 29 3 0) t 0
def cL2 (m : zm) (t : Nat) : zm := cPut (cTakeW (cL0 m t) 0) 29 0 1 5 (-1000000)
def cL3 (m : zm) (t : Nat) : zm := cTakeS (cPut (cL2 m t) 29 1 0 20 (-1000000))
def cLeague (m : zm) (t : Nat) : zm := cEnd (cFolk 5 (cWays 9 (cL3 m t)))
theorem tOk_L0 {m : zm} {t : Nat} (ht : m.1 12 1 = nI t) (ht4 : t ≤ 400) : tOk (cL0 m t) :=
  tOk_next (by simp [upI, ht]) ht4 (by simp only [upI]; rfl) (Nat.zero_le _)
theorem rOk_L3 {m : zm} {t : Nat} (ht : m.1 12 1 = nI t) (ht4 : t ≤ 400) : rOk (cL3 m t) := by
  have h0 := tOk_L0 ht ht4
  have hT : tOk (cL3 m t) := tOk_S (tOk_P (by decide) (tOk_P (by decide) (tOk_W h0)))
  refine (rOk_of (w := 0) (p := 0) hT ?_ (by decide) ?_ (by decide)).1
  · unfold cL3 cL2 cL0
    rw [ts_o (by decide), put_o (by decide) (by decide), put_o (by decide) (by decide), tw_o (by decide), nx_o (by decide), upI_ne (by decide), upI_eq]
    rfl
  · unfold cL3 cL2 cL0
    rw [ts_o (by decide), put_o (by decide) (by decide), put_o (by decide) (by decide), tw_o (by decide), nx_o (by decide), upI_eq]
    rfl
set_option maxHeartbeats 4000000 in
set_option maxRecDepth 100000 in
theorem sg_X5_end (d : Nat) (m : zm) (x : Int32) : ZW zM_X5_readLeague (d + 7) 0 0 133 [some (.ref 12), some (.ref 29), some (.int x)] [] (lay m) 0 0 (none, lay (cEnd m)) := by
  refine z_aload_n (i := 0) (q := 134) dX5_readLeague_133 rfl rfl rfl ?_
  refine m_getI (q := 137) dX5_readLeague_134 fl_X5_19 ⟨by decide, _, rfl, rfl⟩ rfl ?_
  refine z_if_eq (tgt := 145) (q := 140) dX5_readLeague_137 (by decide) rfl (fun c1 => ?_) (fun c1 => ?_)
  · skip
    refine z_return dX5_readLeague_145 rfl ?_ (Nat.le_refl _) (Nat.le_refl _)
    rw [show cEnd m = m from if_pos c1]
  · skip
    refine z_aload_n (i := 0) (q := 141) dX5_readLeague_140 rfl rfl rfl ?_
    refine z_iconst (v := 1) (q := 142) dX5_readLeague_141 (by decide) rfl ?_
    refine m_callV_v (As := [_]) (q := 145) mk_X5_fail dX5_readLeague_142 wd_406 wd_408 wp_10 (ci := 5) rfl ⟨by decide, _, rfl⟩ (ev_X5_fail _ _ _) rfl (by decide) rfl (Nat.zero_le _) (Nat.zero_le _) rfl ?_
    refine z_return dX5_readLeague_145 rfl ?_ (Nat.le_refl _) (Nat.le_refl _)
    rw [show cEnd m = _ from if_neg c1]
set_option maxHeartbeats 4000000 in
set_option maxRecDepth 100000 in
theorem lp_X5_pers (d : Nat) : ∀ (n : Nat) (k : Nat) (m : zm), 5 - k < n → k ≤ 5 → rOk m → ZW zM_X5_readLeague (d + 7) 0 0 101 [some (.ref 12), some (.ref 29), some (.int (nI k))] [] (lay m) 0 0 (none, lay (cEnd (cFolk (5 - k) m))) := by
  intro n
  induction n with
  | zero => intro k m hm; exact absurd hm (by omega)
  | succ n ih =>
    intro k m hm hk hR
    have hT := hR.1
    refine z_iload_n (i := 2) (q := 102) dX5_readLeague_101 rfl rfl rfl ?_
    refine z_iconst (v := 4) (q := 103) dX5_readLeague_102 (by decide) rfl ?_
    refine z_icmp_gt (tgt := 133) (q := 106) dX5_readLeague_103 (by decide) rfl (fun c1 => ?_) (fun c1 => ?_)
    · skip
      have hkN : k = 5 := by
        have := (nI_ltI (a := 4) (b := k) (by omega) (by omega)).mp c1
        omega
      rw [show 5 - k = 0 by omega]
      exact sg_X5_end d _ _
    · skip
      have hkN : k ≤ 4 := by
        rcases Nat.lt_or_ge 4 k with q | q
        · exact absurd ((nI_ltI (a := 4) (b := k) (by omega) (by omega)).mpr q) c1
        · exact q
      refine z_aload_n (i := 0) (q := 107) dX5_readLeague_106 rfl rfl rfl ?_
      refine m_getI (q := 110) dX5_readLeague_107 fl_X5_31 ⟨by decide, _, rfl, rfl⟩ rfl ?_
      refine z_if_ne (tgt := 133) (q := 113) dX5_readLeague_110 (by decide) rfl (fun c2 => ?_) (fun c2 => ?_)
      · skip
        rw [show 5 - k = (5 - (k + 1)) + 1 by omega, cFolk, if_neg (fun q => absurd q.1 c2)]
        exact sg_X5_end d _ _
      · skip
        refine z_aload_n (i := 0) (q := 114) dX5_readLeague_113 rfl rfl rfl ?_
        refine z_ldcS (tx := "person") (i := 2) (q := 116) dX5_readLeague_114 (by decide +kernel) rfl ?_
        refine m_callV_r (As := [_]) (q := 119) mk_X5_isWord dX5_readLeague_116 wd_354 wd_356 wp_9 (ci := 5) rfl ⟨by decide, _, rfl⟩ (ev_X5_isWord _ _ 2 _ _ (by omega) hT.2.2.1 hT.2.2.2.2.1 hT.2.2.2.2.2 (by have := hT.2.1; have := hT.2.2.2.1; omega)) rfl (by decide) rfl (Nat.zero_le _) (Nat.zero_le _) rfl ?_
        refine zb_eq (tgt := 133) (q := 122) dX5_readLeague_119 (by decide) rfl (fun c3 => ?_) (fun c3 => ?_)
        · skip
          rw [show 5 - k = (5 - (k + 1)) + 1 by omega, cFolk, if_neg (fun q => c3 q.2)]
          exact sg_X5_end d _ _
        · skip
          refine z_aload_n (i := 0) (q := 123) dX5_readLeague_122 rfl rfl rfl ?_
          refine z_aload_n (i := 1) (q := 124) dX5_readLeague_123 rfl rfl rfl ?_
          refine m_callV_v (As := [_]) (q := 127) mk_X5_readPerson dX5_readLeague_124 wd_426 wd_428 wp_14 (ci := 5) rfl ⟨by decide, _, rfl⟩ (ev_X5_readPerson _ _ _  hR.1 hR.2.2.2.1 hR.2.2.2.2) rfl (by decide) rfl (Nat.zero_le _) (Nat.zero_le _) rfl ?_
          rw [show (if tP m < 4 then cPer m (tP m) else cFail m 3) = cPerS m from rfl]
          refine z_iinc (i := 2) (ls' := [_, _, _]) (v := nI (k + 1)) (q := 130) dX5_readLeague_127 rfl (nI_1 _) (by decide) rfl rfl ?_
          refine z_goto (tgt := 101) dX5_readLeague_130 (by decide) ?_
          rw [show 5 - k = (5 - (k + 1)) + 1 by omega, cFolk, if_pos (show m.1 12 6 = 0 ∧ isWx m 2 from ⟨c2, c3⟩)]
          exact ih (k + 1) (cPerS m) (by omega) (by omega) (rOk_per hR)
set_option maxHeartbeats 4000000 in
set_option maxRecDepth 100000 in
theorem lp_X5_ways (d : Nat) : ∀ (n : Nat) (k : Nat) (m : zm), 9 - k < n → k ≤ 9 → rOk m → ZW zM_X5_readLeague (d + 7) 0 0 66 [some (.ref 12), some (.ref 29), some (.int (nI k))] [] (lay m) 0 0 (none, lay (cEnd (cFolk 5 (cWays (9 - k) m)))) := by
  intro n
  induction n with
  | zero => intro k m hm; exact absurd hm (by omega)
  | succ n ih =>
    intro k m hm hk hR
    have hT := hR.1
    refine z_iload_n (i := 2) (q := 67) dX5_readLeague_66 rfl rfl rfl ?_
    refine z_bipush (v := 8) (q := 69) dX5_readLeague_67 (by decide) rfl ?_
    refine z_icmp_gt (tgt := 99) (q := 72) dX5_readLeague_69 (by decide) rfl (fun c1 => ?_) (fun c1 => ?_)
    · skip
      have hkN : k = 9 := by
        have := (nI_ltI (a := 8) (b := k) (by omega) (by omega)).mp c1
        omega
      rw [show 9 - k = 0 by omega]
      refine z_iconst (v := 0) (q := 100) dX5_readLeague_99 (by decide) rfl ?_
      refine z_istore_n (i := 2) (ls' := [_, _, _]) (q := 101) dX5_readLeague_100 rfl (by decide) rfl rfl ?_
      exact lp_X5_pers d 6 0 _ (by omega) (by omega) hR
    · skip
      have hkN : k ≤ 8 := by
        rcases Nat.lt_or_ge 8 k with q | q
        · exact absurd ((nI_ltI (a := 8) (b := k) (by omega) (by omega)).mpr q) c1
        · exact q
      refine z_aload_n (i := 0) (q := 73) dX5_readLeague_72 rfl rfl rfl ?_
      refine m_getI (q := 76) dX5_readLeague_73 fl_X5_31 ⟨by decide, _, rfl, rfl⟩ rfl ?_
      refine z_if_ne (tgt := 99) (q := 79) dX5_readLeague_76 (by decide) rfl (fun c2 => ?_) (fun c2 => ?_)
      · skip
        rw [show 9 - k = (9 - (k + 1)) + 1 by omega, cWays, if_neg (fun q => absurd q.1 c2)]
        refine z_iconst (v := 0) (q := 100) dX5_readLeague_99 (by decide) rfl ?_
        refine z_istore_n (i := 2) (ls' := [_, _, _]) (q := 101) dX5_readLeague_100 rfl (by decide) rfl rfl ?_
        exact lp_X5_pers d 6 0 _ (by omega) (by omega) hR
      · skip
        refine z_aload_n (i := 0) (q := 80) dX5_readLeague_79 rfl rfl rfl ?_
        refine z_ldcS (tx := "way") (i := 1) (q := 82) dX5_readLeague_80 (by decide +kernel) rfl ?_
        refine m_callV_r (As := [_]) (q := 85) mk_X5_isWord dX5_readLeague_82 wd_354 wd_356 wp_9 (ci := 5) rfl ⟨by decide, _, rfl⟩ (ev_X5_isWord _ _ 1 _ _ (by omega) hT.2.2.1 hT.2.2.2.2.1 hT.2.2.2.2.2 (by have := hT.2.1; have := hT.2.2.2.1; omega)) rfl (by decide) rfl (Nat.zero_le _) (Nat.zero_le _) rfl ?_
        refine zb_eq (tgt := 99) (q := 88) dX5_readLeague_85 (by decide) rfl (fun c3 => ?_) (fun c3 => ?_)
        · skip
          rw [show 9 - k = (9 - (k + 1)) + 1 by omega, cWays, if_neg (fun q => c3 q.2)]
          refine z_iconst (v := 0) (q := 100) dX5_readLeague_99 (by decide) rfl ?_
          refine z_istore_n (i := 2) (ls' := [_, _, _]) (q := 101) dX5_readLeague_100 rfl (by decide) rfl rfl ?_
          exact lp_X5_pers d 6 0 _ (by omega) (by omega) hR
        · skip
          refine z_aload_n (i := 0) (q := 89) dX5_readLeague_88 rfl rfl rfl ?_
          refine z_aload_n (i := 1) (q := 90) dX5_readLeague_89 rfl rfl rfl ?_
          refine m_callV_v (As := [_]) (q := 93) mk_X5_readWay dX5_readLeague_90 wd_421 wd_423 wp_13 (ci := 5) rfl ⟨by decide, _, rfl⟩ (ev_X5_readWay _ _ _  hR.1 hR.2.1 hR.2.2.1) rfl (by decide) rfl (Nat.zero_le _) (Nat.zero_le _) rfl ?_
          rw [show (if tW m < 8 then cWay m (tW m) else cFail m 3) = cWayS m from rfl]
          refine z_iinc (i := 2) (ls' := [_, _, _]) (v := nI (k + 1)) (q := 96) dX5_readLeague_93 rfl (nI_1 _) (by decide) rfl rfl ?_
          refine z_goto (tgt := 66) dX5_readLeague_96 (by decide) ?_
          rw [show 9 - k = (9 - (k + 1)) + 1 by omega, cWays, if_pos (show m.1 12 6 = 0 ∧ isWx m 1 from ⟨c2, c3⟩)]
          exact ih (k + 1) (cWayS m) (by omega) (by omega) (rOk_way hR)
set_option maxHeartbeats 4000000 in
set_option maxRecDepth 100000 in
theorem ev_X5_readLeague (d : Nat) (m : zm) (t : Nat) (ht : m.1 12 1 = nI t) (ht4 : t ≤ 400) : zEv (d + 7) zM_X5_readLeague 0 0 [.ref 12, .ref 29] (lay m) (none, lay (cLeague m t)) := by
  refine zEv_of (by decide) (fun G => Nat.le_of_ble_eq_true rfl) ?_
  show ZW _ _ _ _ 0 [some (.ref 12), some (.ref 29), none] [] _ _ _ _
  refine z_aload_n (i := 0) (q := 1) dX5_readLeague_0 rfl rfl rfl ?_
  refine z_iconst (v := 0) (q := 2) dX5_readLeague_1 (by decide) rfl ?_
  refine m_putI (q := 5) dX5_readLeague_2 fp_X5_31 ⟨by decide, _, rfl, rfl⟩ ⟨rfl, rfl⟩ rfl ?_
  refine z_aload_n (i := 0) (q := 6) dX5_readLeague_5 rfl rfl rfl ?_
  refine z_iconst (v := 0) (q := 7) dX5_readLeague_6 (by decide) rfl ?_
  refine m_putI (q := 10) dX5_readLeague_7 fp_X5_34 ⟨by decide, _, rfl, rfl⟩ ⟨rfl, rfl⟩ rfl ?_
  refine z_aload_n (i := 0) (q := 11) dX5_readLeague_10 rfl rfl rfl ?_
  refine z_iconst (v := 0) (q := 12) dX5_readLeague_11 (by decide) rfl ?_
  refine m_putI (q := 15) dX5_readLeague_12 fp_X5_25 ⟨by decide, _, rfl, rfl⟩ ⟨rfl, rfl⟩ rfl ?_
  refine z_aload_n (i := 1) (q := 16) dX5_readLeague_15 rfl rfl rfl ?_
  refine z_iconst (v := 0) (q := 17) dX5_readLeague_16 (by decide) rfl ?_
  refine m_putI (q := 20) dX5_readLeague_17 fp_X5_39 ⟨by decide, _, rfl, rfl⟩ ⟨rfl, rfl⟩ rfl ?_
  refine z_aload_n (i := 1) (q := 21) dX5_readLeague_20 rfl rfl rfl ?_
  refine z_iconst (v := 0) (q := 22) dX5_readLeague_21 (by decide) rfl ?_
  refine m_putI (q := 25) dX5_readLeague_22 fp_X5_44 ⟨by decide, _, rfl, rfl⟩ ⟨rfl, rfl⟩ rfl ?_
  refine z_aload_n (i := 0) (q := 26) dX5_readLeague_25 rfl rfl rfl ?_
  refine m_callV_v (As := []) (q := 29) mk_X5_nextToken dX5_readLeague_26 wd_333 wd_335 wp_4 (ci := 5) rfl ⟨by decide, _, rfl⟩ (ev_X5_nextToken _ _ t 0 (by simp [upI, ht]) (by simp only [upI]; rfl) ht4 (Nat.zero_le _)) rfl (by decide) rfl (Nat.zero_le _) (Nat.zero_le _) rfl ?_
  have hT : tOk (cNext (upI (upI (upI (upI (upI m 12 6 0) 12 7 0) 12 4 0) 29 2 0) 29 3 0) t 0) := tOk_L0 ht ht4
  refine z_aload_n (i := 0) (q := 30) dX5_readLeague_29 rfl rfl rfl ?_
  refine z_ldcS (tx := "law") (i := 0) (q := 32) dX5_readLeague_30 (by decide +kernel) rfl ?_
  refine m_callV_v (As := [_]) (q := 35) mk_X5_takeWord dX5_readLeague_32 wd_350 wd_352 wp_8 (ci := 5) rfl ⟨by decide, _, rfl⟩ (ev_X5_takeWord _ _ 0 (by omega) (by repeat (with_reducible first | exact hT | refine tOk_W ?_ | refine tOk_N ?_ | refine tOk_S ?_ | refine tOk_so ?_ | refine tOk_f ?_ | refine tOk_u (by omega) ?_))) rfl (by decide) rfl (Nat.zero_le _) (Nat.zero_le _) rfl ?_
  refine z_aload_n (i := 1) (q := 36) dX5_readLeague_35 rfl rfl rfl ?_
  refine z_aload_n (i := 0) (q := 37) dX5_readLeague_36 rfl rfl rfl ?_
  refine z_iconst (v := 1) (q := 38) dX5_readLeague_37 (by decide) rfl ?_
  refine z_iconst (v := 5) (q := 39) dX5_readLeague_38 (by decide) rfl ?_
  refine z_ldc (q := 41) dX5_readLeague_39 wd_410 rfl ?_
  refine m_callV_r (As := [_, _, _]) (q := 44) mk_X5_takeNumber dX5_readLeague_41 wd_411 wd_413 wp_11 (ci := 5) rfl ⟨by decide, _, rfl⟩ (ev_X5_takeNumber _ _ _ _ _ (by repeat (with_reducible first | exact hT | refine tOk_W ?_ | refine tOk_N ?_ | refine tOk_S ?_ | refine tOk_so ?_ | refine tOk_f ?_ | refine tOk_u (by omega) ?_))) rfl (by simp [Value.category]) rfl (Nat.zero_le _) (Nat.zero_le _) rfl ?_
  refine m_putI (q := 47) dX5_readLeague_44 fp_X5_61 ⟨by decide, _, rfl, rfl⟩ ⟨rfl, rfl⟩ rfl ?_
  refine z_aload_n (i := 1) (q := 48) dX5_readLeague_47 rfl rfl rfl ?_
  refine z_aload_n (i := 0) (q := 49) dX5_readLeague_48 rfl rfl rfl ?_
  refine z_iconst (v := 0) (q := 50) dX5_readLeague_49 (by decide) rfl ?_
  refine z_bipush (v := 20) (q := 52) dX5_readLeague_50 (by decide) rfl ?_
  refine z_ldc (q := 54) dX5_readLeague_52 wd_410 rfl ?_
  refine m_callV_r (As := [_, _, _]) (q := 57) mk_X5_takeNumber dX5_readLeague_54 wd_411 wd_413 wp_11 (ci := 5) rfl ⟨by decide, _, rfl⟩ (ev_X5_takeNumber _ _ _ _ _ (by repeat (with_reducible first | exact hT | refine tOk_W ?_ | refine tOk_N ?_ | refine tOk_S ?_ | refine tOk_so ?_ | refine tOk_f ?_ | refine tOk_u (by omega) ?_))) rfl (by simp [Value.category]) rfl (Nat.zero_le _) (Nat.zero_le _) rfl ?_
  refine m_putI (q := 60) dX5_readLeague_57 fp_X5_64 ⟨by decide, _, rfl, rfl⟩ ⟨rfl, rfl⟩ rfl ?_
  refine z_aload_n (i := 0) (q := 61) dX5_readLeague_60 rfl rfl rfl ?_
  refine m_callV_v (As := []) (q := 64) mk_X5_takeSign dX5_readLeague_61 wd_416 wd_418 wp_12 (ci := 5) rfl ⟨by decide, _, rfl⟩ (ev_X5_takeSign _ _ (by repeat (with_reducible first | exact hT | refine tOk_W ?_ | refine tOk_N ?_ | refine tOk_S ?_ | refine tOk_so ?_ | refine tOk_f ?_ | refine tOk_u (by omega) ?_))) rfl (by decide) rfl (Nat.zero_le _) (Nat.zero_le _) rfl ?_
  refine z_iconst (v := 0) (q := 65) dX5_readLeague_64 (by decide) rfl ?_
  refine z_istore_n (i := 2) (ls' := [_, _, _]) (q := 66) dX5_readLeague_65 rfl (by decide) rfl rfl ?_
  exact lp_X5_ways d 10 0 (cL3 m t) (by omega) (by omega) (rOk_L3 ht ht4)
