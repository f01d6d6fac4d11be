/-! ===== the model: faults, names ===== -/
def mBad (m : zm) (z : Int32) : zm := if m.1 180 17 = 0 then upI (upI m 180 17 z) 180 18 ((upI m 180 17 z).1 180 15) else m
def kindB (w : Int64) : Int32 := if w = 109273701214572 then 1 else if w = 482972692340 then 2 else if w = 1836019307 then 3 else if w = 426835571307 then 4 else if w = 6451065 then 5 else -1000000
set_option maxHeartbeats 4000000 in
set_option maxRecDepth 100000 in
theorem ev_X8_bad (d : Nat) (m : zm) (z : Int32) : zEv (d) zM_X8_bad 0 0 [.ref 180, .int z] (lay m) (none, lay (mBad m z)) := by
  refine zEv_of (by decide) (fun G => Nat.le_of_ble_eq_true rfl) ?_
  show ZW _ _ _ _ 0 [some (.ref 180), some (.int z)] [] _ _ _ _
  refine z_aload_n (i := 0) (q := 1) dX8_bad_0 rfl rfl rfl ?_
  refine m_getI (q := 4) dX8_bad_1 fl_X8_106 ⟨by decide, _, rfl, rfl⟩ rfl ?_
  refine z_if_ne (tgt := 20) (q := 7) dX8_bad_4 (by decide) rfl (fun c1 => ?_) (fun c1 => ?_)
  · skip
    refine z_return dX8_bad_20 rfl ?_ (Nat.le_refl _) (Nat.le_refl _)
    rw [show mBad m z = m from if_neg c1]
  · skip
    refine z_aload_n (i := 0) (q := 8) dX8_bad_7 rfl rfl rfl ?_
    refine z_iload_n (i := 1) (q := 9) dX8_bad_8 rfl rfl rfl ?_
    refine m_putI (q := 12) dX8_bad_9 fp_X8_106 ⟨by decide, _, rfl, rfl⟩ ⟨rfl, rfl⟩ rfl ?_
    refine z_aload_n (i := 0) (q := 13) dX8_bad_12 rfl rfl rfl ?_
    refine z_aload_n (i := 0) (q := 14) dX8_bad_13 rfl rfl rfl ?_
    refine m_getI (q := 17) dX8_bad_14 fl_X8_91 ⟨by decide, _, rfl, rfl⟩ rfl ?_
    refine m_putI (q := 20) dX8_bad_17 fp_X8_112 ⟨by decide, _, rfl, rfl⟩ ⟨rfl, rfl⟩ rfl ?_
    refine z_return dX8_bad_20 rfl ?_ (Nat.le_refl _) (Nat.le_refl _)
    rw [show mBad m z = _ from if_pos c1]
