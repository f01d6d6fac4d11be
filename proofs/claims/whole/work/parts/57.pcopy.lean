/-! ===== pure: items copied ===== -/
abbrev sg (u : Int32) (z t : Nat) : Nat := if u = 0 then z - 1 - t else t
theorem sg_inj {u : Int32} {z t t2 : Nat} (h : t < z) (h2 : t2 < z) (e : sg u z t = sg u z t2) : t = t2 := by
  unfold sg at e
  split at e <;> omega
theorem sg_lt {u : Int32} {z t : Nat} (h : t < z) : sg u z t < z := by
  unfold sg
  split <;> omega
theorem mCp_n {sb db : Nat} {u : Int32} {z : Nat} : ∀ (n k : Nat) (m : zm) (a x : Nat), (a = 183 → ∀ t, k ≤ t → t < k + n → x ≠ db + sg u z t) → (mCp sb db u z n k m).1 a x = m.1 a x := by
  intro n
  induction n with
  | zero => intro k m a x _; rfl
  | succ n ih =>
    intro k m a x h
    rw [mCp, ih (k + 1) _ a x (fun ha t h1 h2 => h ha t (by omega) (by omega))]
    exact upI_ne (fun q => h q.1 k (by omega) (by omega) q.2)
theorem mCp_at {sb db : Nat} {u : Int32} {z : Nat} : ∀ (n k : Nat) (m : zm), k + n ≤ z → (∀ t t2, k ≤ t2 → t2 < t → t < k + n → sb + sg u z t ≠ db + sg u z t2) → ∀ t, k ≤ t → t < k + n → (mCp sb db u z n k m).1 183 (db + sg u z t) = m.1 183 (sb + sg u z t) := by
  intro n
  induction n with
  | zero => intro k m _ _ t h1 h2; omega
  | succ n ih =>
    intro k m hz h t h1 h2
    rw [mCp]
    by_cases ht : t = k
    · subst ht
      rw [mCp_n n (t + 1) _ 183 (db + sg u z t) (fun _ t2 q1 q2 q3 => by have := sg_inj (by omega) (by omega) (show sg u z t = sg u z t2 by omega); omega)]
      exact upI_eq _ _ _ _
    · rw [ih (k + 1) _ (by omega) (fun a b q1 q2 q3 => h a b (by omega) q2 (by omega)) t (by omega) (by omega)]
      exact upI_ne (fun q => h t k (by omega) (by omega) (by omega) q.2)
theorem bey_2 (m : zm) (r : Nat) (i z : Int32) {n : Nat} (hn : n ≤ 40) (h3 : m.1 11 r = nI n) (h : ¬ (i < 0 ∨ z < 0 ∨ (m.1 11 r).toInt64 < i.toInt64 + z.toInt64)) : ∃ x w : Nat, i = nI x ∧ z = nI w ∧ x + w ≤ n := by
  obtain ⟨x, hx, rfl⟩ := nI_of (fun q => h (Or.inl q))
  obtain ⟨w, hw, rfl⟩ := nI_of (fun q => h (Or.inr (Or.inl q)))
  refine ⟨x, w, rfl, rfl, ?_⟩
  have q : ¬ (m.1 11 r).toInt64 < (nI x).toInt64 + (nI w).toInt64 := fun q => h (Or.inr (Or.inr q))
  rw [h3, nI_l (by omega), nI_l hx, nI_l hw, lN_add, pk_lLT (by omega) (by omega)] at q
  omega
theorem st_copy : ∀ m : zm, Rel m → ∀ a0 a1 a2 a3 a4 : Int32, LawStp Rel zM_X7_copy zM_X8_copy m [.int a0, .int a1, .int a2, .int a3, .int a4] := by
  intro m h r i r2 j z
  by_cases hb : (r < 0 ∨ 7 < r) ∨ (r2 < 0 ∨ 7 < r2)
  · exact stp_mk (ev_X7_copy_bad 9 m r i r2 j z hb) (ev_X8_copy_bad 9 m r i r2 j z hb) rfl h.t
  · obtain ⟨a, ha, rfl⟩ := row_in (fun q => hb (Or.inl q))
    obtain ⟨b, hb2, rfl⟩ := row_in (fun q => hb (Or.inr q))
    have ra := row_m h.2.1 ha
    have rb := row_m h.2.1 hb2
    by_cases hnull : m.1 11 a = -1 ∨ m.1 11 b = -1
    · refine stp_mk (ev_X7_copy_null 9 m a i b j z hnull ha hb2) (ev_X8_copy_null 9 (upI m 0 3 1) a i b j z ?_ ha hb2) rfl (h.f 1)
      rw [upI_ne (by omega), upI_ne (by omega)]
      refine hnull.imp (fun q => ?_) (fun q => ?_)
      · rcases ra with q2 | ⟨l, n, q1, q2, q3, q4, q5, q6, q7, -⟩
        · exact q2.2
        · exact absurd q q7
      · rcases rb with q2 | ⟨l, n, q1, q2, q3, q4, q5, q6, q7, -⟩
        · exact q2.2
        · exact absurd q q7
    · have ra2 := ra.resolve_left (fun q => hnull (Or.inl q.1))
      have rb2 := rb.resolve_left (fun q => hnull (Or.inr q.1))
      obtain ⟨l, n, q1, q2, q3, q4, q5, q6, q7, q8, q9⟩ := ra2
      obtain ⟨l2, n2, p1, p2, p3, p4, p5, p6, p7, p8, p9⟩ := rb2
      by_cases hst : m.1 10 a = m.1 10 b
      · have e2 : m.1 181 a = m.1 181 b := by rw [q6, p6, ← q5, ← p5, hst]
        by_cases hp : (i < 0 ∨ z < 0 ∨ (m.1 11 a).toInt64 < i.toInt64 + z.toInt64) ∨ (j < 0 ∨ z < 0 ∨ (m.1 11 b).toInt64 < j.toInt64 + z.toInt64)
        · refine stp_mk (ev_X7_copy_place 9 m a i b j z q7 p7 hst hp ha hb2) (ev_X8_copy_place 9 (upI m 0 3 2) a i b j z (by rw [upI_ne (by omega)]; exact q8) (by rw [upI_ne (by omega)]; exact p8) (by rw [upI_ne (by omega), upI_ne (by omega)]; exact e2) ?_ ha hb2) rfl (h.f 2)
          rw [upI_ne (by omega), upI_ne (by omega), q4, p4, ← q3, ← p3]
          rcases hp with (w | w | w) | (w | w | w)
          · exact Or.inl w
          · exact Or.inr (Or.inr (Or.inl w))
          · exact Or.inr (Or.inr (Or.inr (Or.inl w)))
          · exact Or.inr (Or.inl w)
          · exact Or.inr (Or.inr (Or.inl w))
          · exact Or.inr (Or.inr (Or.inr (Or.inr w)))
        · have c1 : ¬ (i < 0 ∨ z < 0 ∨ (m.1 11 a).toInt64 < i.toInt64 + z.toInt64) := fun q => hp (Or.inl q)
          have c2 : ¬ (j < 0 ∨ z < 0 ∨ (m.1 11 b).toInt64 < j.toInt64 + z.toInt64) := fun q => hp (Or.inr q)
          obtain ⟨x, w, rfl, rfl, hxw⟩ := bey_2 m a i z q2 q3 c1
          obtain ⟨y, w', rfl, hw', hyw⟩ := bey_2 m b j (nI w) p2 p3 c2
          have hle : w ≤ 40 := by omega
          have hw2 : w = w' := by
            by_cases hbig : w' < 2 ^ 31
            · exact (nI_eq (by omega) hbig).mp hw'
            · omega
          subst hw2
          have hc := ev_X7_copy 9 m a (nI x) b (nI y) (nI w) q7 p7 hst c1 c2 (by rw [q3]; exact (nI_leI (b := 40) (by omega) (by omega)).mpr q2) (by rw [p3]; exact (nI_leI (b := 40) (by omega) (by omega)).mpr p2) ha hb2
          rw [nI_clamp (by omega), nI_clamp (by omega), nI_clamp (by omega)] at hc
          generalize hm1 : upI (setA m (2 + b) (va_cpy (m.1 (2 + a)) (m.1 (2 + b)) x y w)) 0 3 0 = m1 at hc
          have e1 : ∀ c k, m1.1 c k = if c = 0 ∧ k = 3 then 0 else if c = 2 + b then va_cpy (m.1 (2 + a)) (m.1 (2 + b)) x y w k else m.1 c k := by
            intro c k
            subst hm1
            show (if c = 0 ∧ k = 3 then 0 else (if c = 2 + b then va_cpy (m.1 (2 + a)) (m.1 (2 + b)) x y w else m.1 c) k) = _
            by_cases hc2 : c = 2 + b
            · rw [if_pos hc2, if_pos hc2]
            · rw [if_neg hc2, if_neg hc2]
          have e1n : ∀ c k, ¬ c = 0 → ¬ c = 2 + b → m1.1 c k = m.1 c k := fun c k w1 w2 => by
            rw [e1, if_neg (by omega), if_neg w2]
          have ns : ∀ n' x' : Nat, n' ≤ 40 → x' + w ≤ n' → ¬ (nI n').toInt64 < (nI x').toInt64 + (nI w).toInt64 := fun n' x' w1 w2 q => by
            rw [nI_l (by omega), nI_l (by omega), nI_l (by omega), lN_add, pk_lLT (by omega) (by omega)] at q
            omega
          have hm := ev_X8_copy 9 m1 a x b y w (by rw [e1n _ _ (by omega) (by omega)]; exact q8) (by rw [e1n _ _ (by omega) (by omega)]; exact p8) (by rw [e1n _ _ (by omega) (by omega), e1n _ _ (by omega) (by omega)]; exact e2) (by rw [e1n _ _ (by omega) (by omega), q4]; exact ns n x q2 hxw) (by rw [e1n _ _ (by omega) (by omega), p4]; exact ns n2 y p2 hyw) (by omega) (by omega) ha (by omega) hb2 (by omega) (by omega)
          -- the model's items
          have hov : ∀ t t2, 0 ≤ t2 → t2 < t → t < 0 + w → 40 * a + x + sg (if x < y then 0 else 1) w t ≠ 40 * b + y + sg (if x < y then 0 else 1) w t2 := by
            intro t t2 _ h2 h3
            by_cases hxy : x < y
            · rw [if_pos hxy]
              unfold sg
              rw [if_pos rfl, if_pos rfl]
              omega
            · rw [if_neg hxy]
              unfold sg
              rw [if_neg (by decide), if_neg (by decide)]
              omega
          have eS : ∀ c k, (mS0 m1).1 c k = if c = 180 ∧ k = 1 then 0 else if c = 180 ∧ k = 0 then 0 else m1.1 c k := fun c k => rfl
          have eIn : ∀ t, t < w → (mCopy m1 (40 * a) (40 * b) x y w).1 183 (40 * b + y + t) = m.1 183 (40 * a + x + t) := by
            intro t ht
            unfold mCopy
            obtain ⟨t', ht', hs⟩ : ∃ t', t' < w ∧ sg (if x < y then 0 else 1) w t' = t := by
              by_cases hxy : x < y
              · exact ⟨w - 1 - t, by omega, by rw [if_pos hxy]; unfold sg; rw [if_pos rfl]; omega⟩
              · exact ⟨t, ht, by rw [if_neg hxy]; unfold sg; rw [if_neg (by decide)]⟩
            have := mCp_at (sb := 40 * a + x) (db := 40 * b + y) (u := if x < y then 0 else 1) (z := w) w 0 (mS0 m1) (by omega) hov t' (by omega) (by omega)
            rw [hs] at this
            rw [this, eS, if_neg (by omega), if_neg (by omega), e1n _ _ (by omega) (by omega)]
          have eOut : ∀ c k, ¬ (c = 183 ∧ 40 * b + y ≤ k ∧ k < 40 * b + y + w) → (mCopy m1 (40 * a) (40 * b) x y w).1 c k = (mS0 m1).1 c k := by
            intro c k hk
            unfold mCopy
            refine mCp_n w 0 _ c k (fun hc t h1 h2 e => hk ⟨hc, ?_⟩)
            have := sg_lt (u := if x < y then 0 else 1) (show t < w by omega)
            omega
          have eO : ∀ c k, ¬ (c = 183 ∧ 40 * b + y ≤ k ∧ k < 40 * b + y + w) → ¬ c = 0 → ¬ c = 180 → ¬ c = 2 + b → (mCopy m1 (40 * a) (40 * b) x y w).1 c k = m.1 c k := fun c k h1 h2 h3 h4 => by
            rw [eOut c k h1, eS, if_neg (by omega), if_neg (by omega), e1n c k h2 h4]
          refine stp_mk hc hm rfl (h.rows (fun c k z1 z2 z3 z4 => ?_) ?_ (fun s hs => ?_))
          · rw [eOut c k (by omega), eS, if_neg (by omega), if_neg (by omega), e1, if_neg (by omega), if_neg (by omega)]
          · rw [eOut 0 3 (by omega), eOut 180 1 (by omega), eS, eS, if_neg (by omega), if_neg (by omega), if_pos (by omega), e1, if_pos (by omega)]
          · rw [eO 11 s (by omega) (by omega) (by omega) (by omega), eO 181 s (by omega) (by omega) (by omega) (by omega), eO 182 s (by omega) (by omega) (by omega) (by omega), eO 10 s (by omega) (by omega) (by omega) (by omega)]
            rcases h.2.1 s hs with q | ⟨l', n', w1, w2, w3, w4, w5, w6, w7⟩
            · exact Or.inl q
            · refine Or.inr ⟨l', n', w1, w2, w3, w4, w5, w6, fun i hi => ?_⟩
              by_cases hsb : s = b
              · subst hsb
                rw [eOut (2 + s) i (by omega), eS, if_neg (by omega), if_neg (by omega), e1, if_neg (by omega), if_pos rfl]
                by_cases hin : y ≤ i ∧ i < y + w
                · rw [pk_cpy_in hin.1 hin.2]
                  have := eIn (i - y) (by omega)
                  rw [show 40 * s + y + (i - y) = 40 * s + i by omega] at this
                  rw [this, q9 (x + (i - y)) (by omega), show 40 * a + (x + (i - y)) = 40 * a + x + (i - y) by omega]
                · rw [pk_cpy_out (by omega), eO 183 (40 * s + i) (by omega) (by omega) (by omega) (by omega)]
                  exact w7 i hi
              · rw [eO (2 + s) i (by omega) (by omega) (by omega) (by omega), eO 183 (40 * s + i) (by omega) (by omega) (by omega) (by omega)]
                exact w7 i hi
      · refine stp_mk (ev_X7_copy_store 9 m a i b j z q7 p7 hst ha hb2) (ev_X8_copy_store 9 (upI m 0 3 5) a i b j z (by rw [upI_ne (by omega)]; exact q8) (by rw [upI_ne (by omega)]; exact p8) ?_ ha hb2) rfl (h.f 5)
        rw [upI_ne (by omega), upI_ne (by omega), q6, p6, ← q5, ← p5]
        exact hst
