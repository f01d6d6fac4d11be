/-! ===== pure: what is asked of one, counts ===== -/
theorem stp_mk {M1 M2 : zM} {m m1 m2 : zm} {As : List Value} {v v2 : Int32} (e1 : zEv 11 M1 0 0 (.ref 0 :: As) (lay m) (some (.int v), lay m1)) (e2 : zEv 11 M2 0 0 (.ref 180 :: As) (lay m1) (some (.int v2), lay m2)) (hv : v2 = v) (hR : Rel m2) : LawStp Rel M1 M2 m As := by
  subst hv
  exact ⟨v2, m1, m2, e1, e2, hR⟩
theorem mOf_t {m : zm} {p k : Nat} : mOf (mT m) p k = mOf m p k := upI_ne (by omega)
theorem mWy_t {m : zm} {p k : Nat} : mWy (mT m) p k = mWy m p k := upI_ne (by omega)
theorem cur_hd {m : zm} {H W P k : Nat} (h : rCur m H W P) (hk : k < 4) : m.1 184 k = m.1 14 k := by
  have := h.1.2.2.1 k hk
  rwa [Nat.zero_add] at this
theorem cur_way {m : zm} {H W P w k : Nat} (h : rCur m H W P) (hw : w < W) (hk : k < 4) : m.1 184 (4 + 4 * w + k) = m.1 (17 + w) k := by
  have := (h.1.2.2.2.1 w hw).2 k hk
  rwa [show 0 + 4 + 4 * w + k = 4 + 4 * w + k by omega] at this
theorem cur_per {m : zm} {H W P p k : Nat} (h : rCur m H W P) (hp : p < P) (hk : k < 8) : mOf m p k = m.1 (25 + p) (pm k) := by
  have := (h.1.2.2.2.2 p hp).2 k hk
  rwa [show 0 + 36 + 8 * p + k = 36 + 8 * p + k by omega] at this
theorem cur_P {m : zm} {H W P : Nat} (h : rCur m H W P) : m.1 14 3 = nI P ∧ P ≤ 4 := ⟨h.1.2.1.2.2.1, h.1.1.2.2⟩
theorem cur_W {m : zm} {H W P : Nat} (h : rCur m H W P) : m.1 14 2 = nI W ∧ W ≤ 8 := ⟨h.1.2.1.2.1, h.1.1.2.1⟩
theorem cur_H {m : zm} {H W P : Nat} (h : rCur m H W P) : m.1 14 0 = nI H ∧ H ≤ 5 := ⟨h.1.2.1.1, h.1.1.1⟩
/-- somebody -/
theorem cur_some {m : zm} {H W P : Nat} (h : rCur m H W P) {p : Int32} (hn : ¬ (p < 0 ∨ m.1 14 3 - 1 < p)) : ∃ j : Nat, j < P ∧ j < 4 ∧ p = nI j := by
  obtain ⟨h1, h2⟩ := cur_P h
  rw [h1] at hn
  obtain ⟨j, h3, h4⟩ := in_nI (by omega) p hn
  exact ⟨j, h3, by omega, h4⟩
theorem cur_harb {m : zm} {H W P : Nat} (h : rCur m H W P) {p : Int32} (hn : ¬ (p < 0 ∨ m.1 14 0 - 1 < p)) : ∃ j : Nat, j < H ∧ j < 5 ∧ p = nI j := by
  obtain ⟨h1, h2⟩ := cur_H h
  rw [h1] at hn
  obtain ⟨j, h3, h4⟩ := in_nI (by omega) p hn
  exact ⟨j, h3, by omega, h4⟩
theorem cur_wayn {m : zm} {H W P : Nat} (h : rCur m H W P) {p : Int32} (hn : ¬ (p < 0 ∨ m.1 14 2 - 1 < p)) : ∃ j : Nat, j < W ∧ j < 8 ∧ p = nI j := by
  obtain ⟨h1, h2⟩ := cur_W h
  rw [h1] at hn
  obtain ⟨j, h3, h4⟩ := in_nI (by omega) p hn
  exact ⟨j, h3, by omega, h4⟩
/-- the sum grows alike in longs and in ints -/
theorem grow_eq {r : Nat} (hr : r ≤ 20) : ∀ (k n : Nat), n ≤ 99999999 → (cGrow (nI r) k (lN n)).toInt32 = mGrow (nI r) k (nI n) := by
  intro k
  induction k with
  | zero => intro n _; exact lN_i n
  | succ k ih =>
    intro n hn
    have hm : n * r ≤ 99999999 * 20 := Nat.mul_le_mul hn hr
    have e1 : lN n + lN n * (nI r).toInt64 / 100 = lN (n + n * r / 100) := by
      rw [nI_l (by omega), lN_mul, show (100 : Int64) = lN 100 from rfl, pk_lDiv (by omega) (by omega) (by omega), lN_add]
    have e2 : nI n + nI n * nI r / 100 = nI (n + n * r / 100) := by
      rw [pk_mul, show (100 : Int32) = nI 100 from rfl, pk_div (by omega) (by omega) (by omega), nI_add]
    rw [cGrow, mGrow, e1, e2]
    by_cases h : n + n * r / 100 ≤ 99999999
    · rw [if_neg (show ¬ (99999999 : Int64) < lN (n + n * r / 100) from fun q => absurd ((pk_lLT (a := 99999999) (by omega) (by omega)).mp q) (by omega)), if_pos (show nI (n + n * r / 100) ≤ 99999999 from (nI_leI (b := 99999999) (by omega) (by omega)).mpr h)]
      exact ih _ h
    · rw [if_pos (show (99999999 : Int64) < lN (n + n * r / 100) from (pk_lLT (a := 99999999) (by omega) (by omega)).mpr (by omega)), if_neg (show ¬ nI (n + n * r / 100) ≤ 99999999 from fun q => h ((nI_leI (b := 99999999) (by omega) (by omega)).mp q))]
      exact ih 99999999 (by omega)
theorem owed_eq {m : zm} {H W P p : Nat} (h : rCur m H W P) (hp : p < P) (y : Int32) : mGrown m (mOf m p 5) y = cOwed (m.1 14 1) (m.1 (25 + p) 5) y := by
  obtain ⟨r, hr, h1⟩ := h.1.2.1.2.2.2
  obtain ⟨k, t, hh, c, g, n, -, -, -, -, -, hn, -, -, -, -, -, h5⟩ := (h.1.2.2.2.2 p hp).1
  unfold mGrown cOwed
  rw [cur_hd h (by omega), cur_per h hp (by omega), h1]
  show mGrow _ _ (m.1 (25 + p) 5) = _
  rw [h5, nI_l (by omega)]
  exact (grow_eq hr _ n (by omega)).symm
theorem owed_s {m : zm} {H W P p : Nat} (h : rCur m H W P) (hp : p < P) : mOwed m p 0 = cOwed (m.1 14 1) (m.1 (25 + p) 5) (m.1 (25 + p) 3 - m.1 (25 + p) 6) := by
  unfold mOwed
  rw [if_pos rfl, owed_eq h hp, cur_per h hp (by omega), cur_per h hp (by omega)]
  rfl
theorem owed_o {m : zm} {H W P p : Nat} {z : Int32} (h : rCur m H W P) (hp : p < P) (hz : ¬ z = 0) : mOwed m p z = cOwed (m.1 14 1) (m.1 (25 + p) 5) (m.1 (25 + p) 4 - m.1 (25 + p) 7) := by
  unfold mOwed
  rw [if_neg hz, owed_eq h hp, cur_per h hp (by omega), cur_per h hp (by omega)]
  rfl
theorem mOwed_t {m : zm} {p : Nat} {z : Int32} : mOwed (mT m) p z = mOwed m p z := by
  unfold mOwed mGrown
  rw [mOf_t, mOf_t, mOf_t, mOf_t, mOf_t, show (mT m).1 184 1 = m.1 184 1 from upI_ne (by omega)]
theorem rCur.t {m : zm} {H W P : Nat} (h : rCur m H W P) : rCur (mT m) H W P := h.c (fun a k q => upI_ne (by omega)) (upI_ne (by omega))
theorem st_fault : ∀ m : zm, Rel m → LawStp Rel zM_X7_fault zM_X8_fault m [] := fun m h => stp_mk (ev_X7_fault 11 m) (ev_X8_fault 11 m) h.1.2.symm h.t
theorem st_status : ∀ m : zm, Rel m → LawStp Rel zM_X7_status zM_X8_status m [] := fun m h => stp_mk (ev_X7_status 11 m) (ev_X8_status 11 m) h.1.1.symm h.t
theorem st_kind : ∀ m : zm, Rel m → ∀ a0 : Int32, LawStp Rel zM_X7_kind zM_X8_kind m [.int a0] := by
  intro m h p
  by_cases hn : p < 0 ∨ m.1 14 3 - 1 < p
  · exact stp_mk (ev_X7_kind_bad 9 m p hn) (ev_X8_kind_bad 9 m p ((h.nob p).mp hn)) rfl h.t
  · obtain ⟨-, -, -, -, -, H, W, P, hc, -⟩ := id h
    obtain ⟨j, hj, hj4, rfl⟩ := cur_some hc hn
    exact stp_mk (ev_X7_kind 9 m j hn hj4) (ev_X8_kind 9 m j (fun q => hn ((h.nob _).mpr q)) hj4) (mOf_t.trans (cur_per hc hj (by omega))) h.t
theorem st_gone : ∀ m : zm, Rel m → ∀ a0 : Int32, LawStp Rel zM_X7_gone zM_X8_gone m [.int a0] := by
  intro m h p
  by_cases hn : p < 0 ∨ m.1 14 3 - 1 < p
  · exact stp_mk (ev_X7_gone_bad 8 m p hn) (ev_X8_gone_bad 9 m p ((h.nob p).mp hn)) rfl h.t
  · obtain ⟨-, -, -, -, -, H, W, P, hc, -⟩ := id h
    obtain ⟨j, hj, hj4, rfl⟩ := cur_some hc hn
    refine stp_mk (ev_X7_gone 8 m j hn hj4) (ev_X8_gone 9 m j (fun q => hn ((h.nob _).mpr q)) hj4) ?_ h.t
    rw [mOwed_t, mOwed_t, owed_s hc hj, owed_o hc hj (by decide)]
theorem st_person : ∀ m : zm, Rel m → ∀ a0 a1 : Int32, LawStp Rel zM_X7_person zM_X8_person m [.int a0, .int a1] := by
  intro m h p z
  by_cases hn : p < 0 ∨ m.1 14 3 - 1 < p
  · exact stp_mk (ev_X7_person_bad 8 m p z hn) (ev_X8_person_bad 9 m p z (Or.inl ((h.nob p).mp hn))) rfl h.t
  · obtain ⟨-, -, -, -, -, H, W, P, hc, -⟩ := id h
    obtain ⟨j, hj, hj4, rfl⟩ := cur_some hc hn
    by_cases hz : z < 0 ∨ 5 < z
    · refine stp_mk (ev_X7_person 8 m j z hn hj4) (ev_X8_person_bad 9 m (nI j) z (Or.inr hz)) ?_ h.t
      have ne : ∀ v : Int32, 0 ≤ v → v ≤ 5 → ¬ z = v := fun v h1 h2 q => hz.elim (fun q2 => Int32.not_lt.mpr h1 (q ▸ q2)) (fun q2 => Int32.not_lt.mpr h2 (q ▸ q2))
      rw [if_neg (ne 0 (by decide) (by decide)), if_neg (ne 1 (by decide) (by decide)), if_neg (ne 2 (by decide) (by decide)), if_neg (ne 3 (by decide) (by decide)), if_neg (ne 4 (by decide) (by decide)), if_neg (ne 5 (by decide) (by decide))]
    · refine stp_mk (ev_X7_person 8 m j z hn hj4) (ev_X8_person 9 m j z (fun q => hn ((h.nob _).mpr q)) hz hj4) ?_ h.t
      have e : ∀ k, k < 8 → mOf (mT m) j k = m.1 (25 + j) (pm k) := fun k hk => mOf_t.trans (cur_per hc hj hk)
      have es : mOwed (mT m) j 0 = cOwed (m.1 14 1) (m.1 (25 + j) 5) (m.1 (25 + j) 3 - m.1 (25 + j) 6) := by
        rw [mOwed_t, owed_s hc hj]
      have eo : ∀ z, ¬ z = 0 → mOwed (mT m) j z = cOwed (m.1 14 1) (m.1 (25 + j) 5) (m.1 (25 + j) 4 - m.1 (25 + j) 7) := by
        intro z hz
        rw [mOwed_t, owed_o hc hj hz]
      unfold mPers
      by_cases h0 : z = 0
      · rw [if_pos h0, if_pos h0, e 1 (by omega)]; rfl
      · rw [if_neg h0, if_neg h0]
        by_cases h1 : z = 1
        · rw [if_pos h1, if_pos h1, e 3 (by omega)]; rfl
        · rw [if_neg h1, if_neg h1]
          by_cases h2 : z = 2
          · rw [if_pos h2, if_pos h2, e 4 (by omega)]; rfl
          · rw [if_neg h2, if_neg h2]
            by_cases h3 : z = 3
            · rw [if_pos h3, if_pos h3, e 3 (by omega), e 2 (by omega), e 4 (by omega)]; rfl
            · rw [if_neg h3, if_neg h3]
              by_cases h4 : z = 4
              · rw [if_pos h4, h4]
                exact es
              · rw [if_neg h4]
                have h5 : z = 5 := by
                  obtain ⟨n, hn5, rfl⟩ := nI_of2 (n := 5) (M := 5) (by decide) (fun q => hz (Or.inl q)) (Int32.not_lt.mp (fun q => hz (Or.inr q)))
                  match n, hn5 with
                  | 0, _ => exact absurd rfl h0
                  | 1, _ => exact absurd rfl h1
                  | 2, _ => exact absurd rfl h2
                  | 3, _ => exact absurd rfl h3
                  | 4, _ => exact absurd rfl h4
                  | 5, _ => rfl
                  | n + 6, h => exact absurd h (by omega)
                rw [if_pos h5, h5]
                exact eo _ (by decide)
theorem st_trace : ∀ m : zm, Rel m → ∀ a0 : Int32, LawStp Rel zM_X7_trace zM_X8_trace m [.int a0] := by
  intro m h i
  obtain ⟨g, h1, h2, h3, h4⟩ := h.2.2.2.2.1
  have e : m.1 180 24 = m.1 148 1 := h3.trans h2.symm
  by_cases hn : i < 0 ∨ m.1 148 1 - 1 < i
  · exact stp_mk (ev_X7_trace_none 10 m i hn) (ev_X8_trace_none 10 m i (by rw [e]; exact hn)) rfl h.t
  · rw [h2] at hn
    obtain ⟨j, hj, rfl⟩ := in_nI (by omega) i hn
    rw [← h2] at hn
    exact stp_mk (ev_X7_trace 10 m j hn (by omega)) (ev_X8_trace 10 m j (by rw [e]; exact hn) (by omega)) (h4 j hj).symm h.t
theorem rows_eq {m : zm} (h : rRow m) : ∀ (k r : Nat) (x : Int32), r + k ≤ 8 → mRowsL (mT m) k r x = cRowsL m k r x := by
  intro k
  induction k with
  | zero => intro r x _; rfl
  | succ k ih =>
    intro r x hr
    rw [mRowsL, cRowsL, ih _ _ (by omega)]
    congr 1
    rw [show (mT m).1 181 r = m.1 181 r from upI_ne (by omega)]
    rcases h r (by omega) with ⟨q1, q2⟩ | ⟨l, n, h1, h2, h3, h4, h5, h6, -⟩
    · rw [q1, q2, if_pos rfl, if_pos (by decide)]
      exact Int32.add_zero x
    · rw [h3, h6, if_neg (nI_pos (n := l) (by omega)), if_neg (show ¬ nI n = -1 from fun q => nI_pos (n := n) (by omega) (by rw [q]; decide))]
theorem st_count : ∀ m : zm, Rel m → ∀ a0 : Int32, LawStp Rel zM_X7_count zM_X8_count m [.int a0] := by
  intro m h z
  obtain ⟨-, hr, ⟨t, -, ht1, ht2, -⟩, -, -, H, W, P, hc, ha⟩ := id h
  refine stp_mk (ev_X7_count 9 m z) (ev_X8_count 11 m z) ?_ h.t
  unfold mCount
  have e : ∀ k, k < 4 → (mT m).1 184 k = m.1 14 k := fun k hk => (upI_ne (by omega)).trans (cur_hd hc hk)
  have e8 : (mT m).1 180 8 = m.1 46 2 := by rw [upI_ne (by omega), ha.2.1.1, ha.1.2.1, ha.2.2.1]
  have e10 : (mT m).1 180 10 = m.1 12 1 := by rw [upI_ne (by omega), ht1, ht2]
  rw [rows_eq hr 8 0 0 (by omega), e 3 (by omega), e 2 (by omega), e 0 (by omega), e 1 (by omega), e8, e10]
theorem kind_as {k : Nat} (h : 1 ≤ k ∧ k ≤ 5) (z : Int32) : mIs (nI k) z ↔ (z = 0 ∨ z = nI k ∨ z = (if nI k = 2 ∨ nI k = 3 then 1 else if nI k = 5 then 4 else 0)) := by
  have c : ∀ v : Int32, (v = z) = (z = v) := fun v => propext eq_comm
  match k, h with
  | 0, h => exact absurd h (by omega)
  | 1, _ => simp [mIs, nI, c, show ((Int32.ofNat 1) = 2 ∨ (Int32.ofNat 1) = 3) = False from by decide, show ((Int32.ofNat 1) = 5) = False by decide, show ((Int32.ofNat 1) < 4) = True by decide]; exact ⟨fun q => q.elim Or.inl (fun q => Or.inr (Or.inl q)), fun q => q.elim Or.inl (fun q => q.elim Or.inr Or.inl)⟩
  | 2, _ => simp [mIs, nI, c, show ((Int32.ofNat 2) = 2 ∨ (Int32.ofNat 2) = 3) = True from by decide, show ((Int32.ofNat 2) = 5) = False by decide, show ((Int32.ofNat 2) < 4) = True by decide]
  | 3, _ => simp [mIs, nI, c, show ((Int32.ofNat 3) = 2 ∨ (Int32.ofNat 3) = 3) = True from by decide, show ((Int32.ofNat 3) = 5) = False by decide, show ((Int32.ofNat 3) < 4) = True by decide]
  | 4, _ => simp [mIs, nI, c, show ((Int32.ofNat 4) = 2 ∨ (Int32.ofNat 4) = 3) = False from by decide, show ((Int32.ofNat 4) = 5) = False by decide, show ((Int32.ofNat 4) < 4) = False by decide]; exact ⟨fun q => q.elim Or.inl (fun q => Or.inr (Or.inl q)), fun q => q.elim Or.inl (fun q => q.elim Or.inr Or.inl)⟩
  | 5, _ => simp [mIs, nI, c, show ((Int32.ofNat 5) = 2 ∨ (Int32.ofNat 5) = 3) = False from by decide, show ((Int32.ofNat 5) = 5) = True by decide, show ((Int32.ofNat 5) < 4) = False by decide]
  | k + 6, h => exact absurd h (by omega)
theorem st_as : ∀ m : zm, Rel m → ∀ a0 a1 : Int32, LawStp Rel zM_X7_as zM_X8_as m [.int a0, .int a1] := by
  intro m h p z
  by_cases hb : (p < 0 ∨ m.1 14 3 - 1 < p) ∨ (z < 0 ∨ 5 < z)
  · exact stp_mk (ev_X7_as_bad 9 m p z hb) (ev_X8_as_bad 9 m p z (hb.imp (h.nob p).mp id)) rfl h.t
  · have hn : ¬ (p < 0 ∨ m.1 14 3 - 1 < p) := fun q => hb (Or.inl q)
    have hz : ¬ (z < 0 ∨ 5 < z) := fun q => hb (Or.inr q)
    obtain ⟨-, -, -, -, -, H, W, P, hc, -⟩ := id h
    obtain ⟨j, hj, hj4, rfl⟩ := cur_some hc hn
    obtain ⟨k, t, hh, c, g, n, hk, -, -, -, -, -, h0, -⟩ := (hc.1.2.2.2.2 j hj).1
    have h2n : ∀ w : Int32, ¬ (nI j < 0 ∨ (upI m 0 3 w).1 184 3 - 1 < nI j) := fun w q => hn ((h.nob _).mpr (by rw [upI_ne (by omega)] at q; exact q))
    have em : ∀ w : Int32, mOf (mS0 (upI m 0 3 w)) j 0 = nI k := fun w => by
      rw [← h0, show m.1 (25 + j) 0 = mOf m j 0 from (cur_per hc hj (k := 0) (by omega)).symm]
      show (mS0 (upI m 0 3 w)).1 184 _ = m.1 184 _
      rw [upI_ne (by omega), upI_ne (by omega), upI_ne (by omega)]
    by_cases hi : mIs (nI k) z
    · refine stp_mk (ev_X7_as 9 m j z hn hz (by rw [h0]; exact (kind_as hk z).mp hi) hj4) (ev_X8_as 9 (upI m 0 3 0) j z (h2n 0) hz (by rw [em]; exact hi) hj4) rfl h.n
    · refine stp_mk (ev_X7_as_not 9 m j z hn hz (by rw [h0]; exact fun q => hi ((kind_as hk z).mpr q)) hj4) (ev_X8_as_not 9 (upI m 0 3 3) j z (h2n 3) hz (by rw [em]; exact hi) hj4) rfl (h.f 3)
