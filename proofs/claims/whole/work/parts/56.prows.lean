/-! ===== pure: rows ===== -/
theorem Rel.rows {m m' : zm} (h : Rel m) (e : ∀ a k, ¬ (a = 0 ∧ k = 3) → ¬ (a = 180 ∧ k ≤ 1) → ¬ (2 ≤ a ∧ a ≤ 11) → ¬ (181 ≤ a ∧ a ≤ 183) → m'.1 a k = m.1 a k) (es : m'.1 0 3 = m'.1 180 1) (er : rRow m') : Rel m' := by
  obtain ⟨h1, h2, h3, h4, h5, H, W, P, h6, h7⟩ := h
  refine ⟨⟨es, ?_⟩, er, h3.c (e _ _ (by omega) (by omega) (by omega) (by omega)) (e _ _ (by omega) (by omega) (by omega) (by omega)) (fun k => e _ k (by omega) (by omega) (by omega) (by omega)) (fun k => e _ k (by omega) (by omega) (by omega) (by omega)), h4.c (fun a k q => e a k (by omega) (by omega) (by omega) (by omega)) (e _ _ (by omega) (by omega) (by omega) (by omega)), h5.c (fun a k q => e a k (by omega) (by omega) (by omega) (by omega)) (e _ _ (by omega) (by omega) (by omega) (by omega)), H, W, P, h6.c (fun a k q => e a k (by omega) (by omega) (by omega) (by omega)) (e _ _ (by omega) (by omega) (by omega) (by omega)), h7.c h6.1.1.2.2 (fun a k q => e a k (by omega) (by omega) (by omega) (by omega)) (fun k _ => e _ k (by omega) (by omega) (by omega) (by omega)) (e _ _ (by omega) (by omega) (by omega) (by omega))⟩
  rw [e 0 5 (by omega) (by omega) (by omega) (by omega), e 180 11 (by omega) (by omega) (by omega) (by omega)]
  exact h1.2
theorem row_v {m : zm} {r : Nat} {l z : Int32} (a k : Nat) : (mRow (cRow m r l z) r l z).1 a k = if a = 183 ∧ 40 * r ≤ k ∧ k < 40 * r + 40 then 0 else if a = 182 ∧ k = r then z else if a = 181 ∧ k = r then l else if a = 180 ∧ k = 1 then 0 else if a = 180 ∧ k = 0 then 0 else if a = 0 ∧ k = 3 then 0 else if a = 11 ∧ k = r then z else if a = 10 ∧ k = r then l else if a = 2 + r ∧ k < 40 then 0 else m.1 a k := rfl
theorem i32_in {z M : Int32} {n : Nat} (hM : M.toInt = n) (h : ¬ (z < 0 ∨ M < z)) : ∃ j : Nat, j ≤ n ∧ z = nI j := nI_of2 hM (fun q => h (Or.inl q)) (Int32.not_lt.mp (fun q => h (Or.inr q)))
theorem row_in {r : Int32} (h : ¬ (r < 0 ∨ 7 < r)) : ∃ j : Nat, j < 8 ∧ r = nI j := by
  obtain ⟨j, h1, h2⟩ := i32_in (n := 7) (by decide) h
  exact ⟨j, by omega, h2⟩
theorem st_row : ∀ m : zm, Rel m → ∀ a0 a1 a2 : Int32, LawStp Rel zM_X7_row zM_X8_row m [.int a0, .int a1, .int a2] := by
  intro m h r l z
  by_cases hb : (r < 0 ∨ 7 < r) ∨ (l < 0 ∨ 2 < l) ∨ 40 < z
  · exact stp_mk (ev_X7_row_bad 9 m r l z hb) (ev_X8_row_bad 9 m r l z hb) rfl h.t
  · have h1 : ¬ (r < 0 ∨ 7 < r) := fun q => hb (Or.inl q)
    have h2 : ¬ (l < 0 ∨ 2 < l) := fun q => hb (Or.inr (Or.inl q))
    have h4 : ¬ 40 < z := fun q => hb (Or.inr (Or.inr q))
    by_cases h3 : z < 0
    · exact stp_mk (ev_X7_row_size 9 m r l z h1 h2 h3) (ev_X8_row_size 9 (upI m 0 3 4) r l z h1 h2 h3) (by decide) (h.f 4)
    · obtain ⟨j, hj, rfl⟩ := row_in h1
      obtain ⟨l, hl, rfl⟩ := i32_in (n := 2) (by decide) h2
      obtain ⟨n, hn, rfl⟩ := i32_in (M := 40) (n := 40) (by decide) (fun q => q.elim h3 h4)
      refine stp_mk (ev_X7_row 9 m j (nI l) (nI n) h2 h3 h4 hj) (ev_X8_row 9 _ j (nI l) (nI n) h2 h3 h4 hj) rfl (h.rows (fun a k q1 q2 q3 q4 => by rw [row_v]; (repeat (first | rw [if_neg (by omega)] | rw [if_pos (by omega)]))) (by rw [row_v, row_v]; (repeat (first | rw [if_neg (by omega)] | rw [if_pos (by omega)]))) (fun s hs => ?_))
      by_cases hsj : s = j
      · subst hsj
        refine Or.inr ⟨l, n, hl, hn, by rw [row_v]; (repeat (first | rw [if_neg (by omega)] | rw [if_pos (by omega)])), by rw [row_v]; (repeat (first | rw [if_neg (by omega)] | rw [if_pos (by omega)])), by rw [row_v]; (repeat (first | rw [if_neg (by omega)] | rw [if_pos (by omega)])), by rw [row_v]; (repeat (first | rw [if_neg (by omega)] | rw [if_pos (by omega)])), fun i hi => ?_⟩
        rw [row_v, row_v]
        (repeat (first | rw [if_neg (by omega)] | rw [if_pos (by omega)]))
      · have e : ∀ a k, ¬ a = 0 → ¬ a = 180 → (a = 10 ∨ a = 11 ∨ a = 181 ∨ a = 182) ∧ k = s ∨ a = 2 + s ∨ a = 183 ∧ 40 * s ≤ k ∧ k < 40 * s + 40 → (mRow (cRow m j (nI l) (nI n)) j (nI l) (nI n)).1 a k = m.1 a k := fun a k q1 q2 q3 => by
          rw [row_v]
          (repeat (first | rw [if_neg (by omega)] | rw [if_pos (by omega)]))
        rw [e 11 s (by omega) (by omega) (by omega), e 181 s (by omega) (by omega) (by omega), e 182 s (by omega) (by omega) (by omega), e 10 s (by omega) (by omega) (by omega)]
        rcases h.2.1 s hs with q | ⟨l', n', q1, q2, q3, q4, q5, q6, q7⟩
        · exact Or.inl q
        · exact Or.inr ⟨l', n', q1, q2, q3, q4, q5, q6, fun i hi => by rw [e (2 + s) i (by omega) (by omega) (by omega), e 183 (40 * s + i) (by omega) (by omega) (by omega)]; exact q7 i hi⟩
/-- the row is there or missing, on both sides -/
theorem row_m {m : zm} (h : rRow m) {r : Nat} (hr : r < 8) : (m.1 11 r = -1 ∧ m.1 181 r < 0) ∨ ∃ l n : Nat, l ≤ 2 ∧ n ≤ 40 ∧ m.1 11 r = nI n ∧ m.1 182 r = nI n ∧ m.1 10 r = nI l ∧ m.1 181 r = nI l ∧ ¬ m.1 11 r = -1 ∧ ¬ m.1 181 r < 0 ∧ ∀ i, i < 40 → m.1 (2 + r) i = m.1 183 (40 * r + i) := by
  rcases h r hr with ⟨q1, q2⟩ | ⟨l, n, h1, h2, h3, h4, h5, h6, h7⟩
  · exact Or.inl ⟨q1, by rw [q2]; decide⟩
  · exact Or.inr ⟨l, n, h1, h2, h3, h4, h5, h6, fun q => nI_pos (n := n) (by omega) (by rw [← h3, q]; decide), by rw [h6]; exact nI_pos (by omega), h7⟩
theorem bey_1 {n : Nat} (hn : n ≤ 40) (i : Int32) : (i < 0 ∨ (1 : Int32) < 0 ∨ (nI n).toInt64 < i.toInt64 + (1 : Int32).toInt64) ↔ (i < 0 ∨ nI n - 1 < i) := by
  by_cases hi : i < 0
  · exact ⟨fun _ => Or.inl hi, fun _ => Or.inl hi⟩
  · obtain ⟨k, hk, rfl⟩ := nI_of hi
    have e : (nI n - 1).toInt = (n : Int) - 1 := pk_sub_toInt (a := n) (b := 1) (by omega) (by omega)
    rw [nI_l (by omega), nI_l hk, show (1 : Int32).toInt64 = lN 1 from rfl, lN_add, pk_lLT (by omega) (by omega), Int32.lt_iff_toInt_lt (x := nI n - 1), e, nI_toInt hk]
    constructor
    · rintro (q | q | q)
      · exact Or.inl q
      · exact absurd q (by decide)
      · exact Or.inr (by omega)
    · rintro (q | q)
      · exact Or.inl q
      · exact Or.inr (Or.inr (by omega))
theorem st_set : ∀ m : zm, Rel m → ∀ a0 a1 a2 : Int32, LawStp Rel zM_X7_set zM_X8_set m [.int a0, .int a1, .int a2] := by
  intro m h r i v
  by_cases hb : r < 0 ∨ 7 < r
  · exact stp_mk (ev_X7_set_bad 9 m r i v hb) (ev_X8_set_bad 9 m r i v hb) rfl h.t
  · obtain ⟨j, hj, rfl⟩ := row_in hb
    rcases row_m h.2.1 hj with ⟨q1, q2⟩ | ⟨l, n, q1, q2, q3, q4, q5, q6, q7, q8, q9⟩
    · exact stp_mk (ev_X7_set_null 9 m j i v q1 hj) (ev_X8_set_null 9 (upI m 0 3 1) j i v (by rw [upI_ne (by omega)]; exact q2) hj) rfl (h.f 1)
    · by_cases hp : i < 0 ∨ nI n - 1 < i
      · exact stp_mk (ev_X7_set_place 9 m j i v q7 (by rw [q3]; exact (bey_1 q2 i).mpr hp) hj) (ev_X8_set_place 9 (upI m 0 3 2) j i v (by rw [upI_ne (by omega)]; exact q8) (by rw [upI_ne (by omega), q4]; exact hp) hj) rfl (h.f 2)
      · obtain ⟨x, hx, rfl⟩ := in_nI (by omega) i hp
        have hc := ev_X7_set 9 m j (nI x) v q7 (by rw [q3]; exact fun q => hp ((bey_1 q2 _).mp q)) (by rw [q3]; exact (nI_leI (a := n) (b := 40) (by omega) (by omega)).mpr q2) hj
        rw [nI_clamp (by omega)] at hc
        have e0 : ∀ a k, (upI (upI m (2 + j) x (cLow (m.1 10 j) v)) 0 3 0).1 a k = if a = 0 ∧ k = 3 then 0 else if a = 2 + j ∧ k = x then cLow (m.1 10 j) v else m.1 a k := fun a k => rfl
        have hm := ev_X8_set 9 (upI (upI m (2 + j) x (cLow (m.1 10 j) v)) 0 3 0) j x v (by rw [e0]; (repeat (first | rw [if_neg (by omega)] | rw [if_pos (by omega)])); exact q8) (by rw [e0]; (repeat (first | rw [if_neg (by omega)] | rw [if_pos (by omega)])); rw [q4]; exact hp) hj (by omega)
        have el : (upI (upI m (2 + j) x (cLow (m.1 10 j) v)) 0 3 0).1 181 j = nI l := by
          rw [e0]
          (repeat (first | rw [if_neg (by omega)] | rw [if_pos (by omega)]))
          exact q6
        rw [el] at hm
        rw [q5] at hc e0
        rw [q5] at hm
        have e : ∀ a k, (upI (upI (mT (upI (upI m (2 + j) x (cLow (nI l) v)) 0 3 0)) 180 1 0) 183 (40 * j + x) (cLow (nI l) v)).1 a k = if a = 183 ∧ k = 40 * j + x then cLow (nI l) v else if a = 180 ∧ k = 1 then 0 else if a = 180 ∧ k = 0 then 0 else if a = 0 ∧ k = 3 then 0 else if a = 2 + j ∧ k = x then cLow (nI l) v else m.1 a k := fun a k => rfl
        refine stp_mk hc hm rfl (h.rows (fun a k z1 z2 z3 z4 => by rw [e]; (repeat (first | rw [if_neg (by omega)] | rw [if_pos (by omega)]))) (by rw [e, e]; (repeat (first | rw [if_neg (by omega)] | rw [if_pos (by omega)]))) (fun s hs => ?_))
        have er : ∀ a, a = 10 ∨ a = 11 ∨ a = 181 ∨ a = 182 → (upI (upI (mT (upI (upI m (2 + j) x (cLow (nI l) v)) 0 3 0)) 180 1 0) 183 (40 * j + x) (cLow (nI l) v)).1 a s = m.1 a s := fun a q => by
          rw [e]
          (repeat (first | rw [if_neg (by omega)] | rw [if_pos (by omega)]))
        rw [er 11 (by omega), er 181 (by omega), er 182 (by omega), er 10 (by omega)]
        rcases h.2.1 s hs with q | ⟨l', n', w1, w2, w3, w4, w5, w6, w7⟩
        · exact Or.inl q
        · refine Or.inr ⟨l', n', w1, w2, w3, w4, w5, w6, fun i hi => ?_⟩
          rw [e, e]
          by_cases hsj : s = j ∧ i = x
          · (repeat (first | rw [if_neg (by omega)] | rw [if_pos (by omega)]))
          · rw [if_neg (by omega), if_neg (by omega), if_neg (by omega), if_neg (by omega), if_neg (by omega), if_neg (by omega), if_neg (by omega), if_neg (by omega), if_neg (by omega), if_neg (by omega)]
            exact w7 i hi
theorem st_drop : ∀ m : zm, Rel m → ∀ a0 : Int32, LawStp Rel zM_X7_drop zM_X8_drop m [.int a0] := by
  intro m h r
  by_cases hb : r < 0 ∨ 7 < r
  · exact stp_mk (ev_X7_drop_bad 9 m r hb) (ev_X8_drop_bad 9 m r hb) rfl h.t
  · obtain ⟨j, hj, rfl⟩ := row_in hb
    rcases row_m h.2.1 hj with ⟨q1, q2⟩ | ⟨l, n, q1, q2, q3, q4, q5, q6, q7, q8, q9⟩
    · exact stp_mk (ev_X7_drop_null 9 m j q1 hj) (ev_X8_drop_null 9 (upI m 0 3 1) j (by rw [upI_ne (by omega)]; exact q2) hj) rfl (h.f 1)
    · have e0 : ∀ a k, (upI (upI m 11 j (-1)) 0 3 0).1 a k = if a = 0 ∧ k = 3 then 0 else if a = 11 ∧ k = j then -1 else m.1 a k := fun a k => rfl
      have e : ∀ a k, (upI (upI (mT (upI (upI m 11 j (-1)) 0 3 0)) 180 1 0) 181 j (-1)).1 a k = if a = 181 ∧ k = j then -1 else if a = 180 ∧ k = 1 then 0 else if a = 180 ∧ k = 0 then 0 else if a = 0 ∧ k = 3 then 0 else if a = 11 ∧ k = j then -1 else m.1 a k := fun a k => rfl
      refine stp_mk (ev_X7_drop 9 m j q7 hj) (ev_X8_drop 9 (upI (upI m 11 j (-1)) 0 3 0) j (by rw [e0]; (repeat (first | rw [if_neg (by omega)] | rw [if_pos (by omega)])); exact q8) hj) (by rw [e0]; (repeat (first | rw [if_neg (by omega)] | rw [if_pos (by omega)])); rw [q3, q4]) (h.rows (fun a k z1 z2 z3 z4 => by rw [e]; (repeat (first | rw [if_neg (by omega)] | rw [if_pos (by omega)]))) (by rw [e, e]; (repeat (first | rw [if_neg (by omega)] | rw [if_pos (by omega)]))) (fun s hs => ?_))
      by_cases hsj : s = j
      · subst hsj
        exact Or.inl ⟨by rw [e]; (repeat (first | rw [if_neg (by omega)] | rw [if_pos (by omega)])), by rw [e]; (repeat (first | rw [if_neg (by omega)] | rw [if_pos (by omega)]))⟩
      · have er : ∀ a k, (a = 10 ∨ a = 11 ∨ a = 181 ∨ a = 182) ∧ k = s ∨ a = 2 + s ∨ a = 183 → (upI (upI (mT (upI (upI m 11 j (-1)) 0 3 0)) 180 1 0) 181 j (-1)).1 a k = m.1 a k := fun a k q => by
          rw [e]
          (repeat (first | rw [if_neg (by omega)] | rw [if_pos (by omega)]))
        rw [er 11 s (by omega), er 181 s (by omega), er 182 s (by omega), er 10 s (by omega)]
        rcases h.2.1 s hs with q | ⟨l', n', w1, w2, w3, w4, w5, w6, w7⟩
        · exact Or.inl q
        · exact Or.inr ⟨l', n', w1, w2, w3, w4, w5, w6, fun i hi => by rw [er (2 + s) i (by omega), er 183 (40 * s + i) (by omega)]; exact w7 i hi⟩
