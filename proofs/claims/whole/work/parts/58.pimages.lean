/-! ===== pure: images, the eldest ===== -/
theorem cCpy_e {m : zm} {a b n c k : Nat} (h : c = a ∧ k < n) : (cCpy m a b n).1 c k = m.1 b k := if_pos h
theorem stands_h {m : zm} {a b k : Nat} (hab : a + 15 ≤ b ∨ b + 15 ≤ a) (hk : k < 4) : (cStands m a b).1 a k = m.1 b k := by
  unfold cStands cPers
  (repeat rw [cCpy_n (by omega)])
  rw [cCpy_e (by omega)]
theorem stands_w {m : zm} {a b k : Nat} (hab : a + 15 ≤ b ∨ b + 15 ≤ a) (hk : k < 4) (w : Nat) (hw : w < 8) : (cStands m a b).1 (a + 3 + w) k = m.1 (b + 3 + w) k := by
  match w, hw with
  | 0, _ =>
    unfold cStands cPers
    (repeat rw [cCpy_n (by omega)])
    rw [cCpy_e (by omega)]
    (repeat rw [cCpy_n (by omega)])
  | 1, _ =>
    unfold cStands cPers
    (repeat rw [cCpy_n (by omega)])
    rw [cCpy_e (by omega)]
    (repeat rw [cCpy_n (by omega)])
  | 2, _ =>
    unfold cStands cPers
    (repeat rw [cCpy_n (by omega)])
    rw [cCpy_e (by omega)]
    (repeat rw [cCpy_n (by omega)])
  | 3, _ =>
    unfold cStands cPers
    (repeat rw [cCpy_n (by omega)])
    rw [cCpy_e (by omega)]
    (repeat rw [cCpy_n (by omega)])
  | 4, _ =>
    unfold cStands cPers
    (repeat rw [cCpy_n (by omega)])
    rw [cCpy_e (by omega)]
    (repeat rw [cCpy_n (by omega)])
  | 5, _ =>
    unfold cStands cPers
    (repeat rw [cCpy_n (by omega)])
    rw [cCpy_e (by omega)]
    (repeat rw [cCpy_n (by omega)])
  | 6, _ =>
    unfold cStands cPers
    (repeat rw [cCpy_n (by omega)])
    rw [cCpy_e (by omega)]
    (repeat rw [cCpy_n (by omega)])
  | 7, _ =>
    unfold cStands cPers
    (repeat rw [cCpy_n (by omega)])
    rw [cCpy_e (by omega)]
    (repeat rw [cCpy_n (by omega)])
  | w + 8, h => exact absurd h (by omega)
theorem stands_p {m : zm} {a b k : Nat} (hab : a + 15 ≤ b ∨ b + 15 ≤ a) (hk : k < 8) (w : Nat) (hw : w < 4) : (cStands m a b).1 (a + 11 + w) k = m.1 (b + 11 + w) k := by
  match w, hw with
  | 0, _ =>
    unfold cStands cPers
    (repeat rw [cCpy_n (by omega)])
    rw [cCpy_e (by omega)]
    (repeat rw [cCpy_n (by omega)])
  | 1, _ =>
    unfold cStands cPers
    (repeat rw [cCpy_n (by omega)])
    rw [cCpy_e (by omega)]
    (repeat rw [cCpy_n (by omega)])
  | 2, _ =>
    unfold cStands cPers
    (repeat rw [cCpy_n (by omega)])
    rw [cCpy_e (by omega)]
    (repeat rw [cCpy_n (by omega)])
  | 3, _ =>
    unfold cStands cPers
    (repeat rw [cCpy_n (by omega)])
    rw [cCpy_e (by omega)]
    (repeat rw [cCpy_n (by omega)])
  | w + 4, h => exact absurd h (by omega)
theorem stands_n {m : zm} {a b c k : Nat} (h : c < a ∨ a + 15 ≤ c) : (cStands m a b).1 c k = m.1 c k := by
  unfold cStands cPers
  (repeat rw [cCpy_n (by omega)])
theorem read_0 {m : zm} {H W P : Nat} (h : rCur m H W P) : m.1 0 6 = 0 ↔ H = 0 := by
  rw [h.2]
  by_cases q : 0 < H
  · rw [if_pos q]
    exact ⟨fun z => absurd z (by decide), fun z => by omega⟩
  · rw [if_neg q]
    exact ⟨fun _ => by omega, fun _ => rfl⟩
theorem read_1 {m : zm} {H W P : Nat} (h : rCur m H W P) : 0 < m.1 184 0 ↔ ¬ H = 0 := by
  rw [cur_hd h (by omega), (cur_H h).1]
  have := (cur_H h).2
  exact (nI_ltI (a := 0) (by omega) (by omega)).trans ⟨fun q => by omega, fun q => by omega⟩
theorem two_in {k : Int32} (h : ¬ (k < 0 ∨ 1 < k)) : ∃ j : Nat, j < 2 ∧ k = nI j := by
  obtain ⟨j, h1, h2⟩ := i32_in (n := 1) (by decide) h
  exact ⟨j, by omega, h2⟩
theorem img_c (m : zm) (j : Nat) (hj : j < 2) (h1 : ¬ m.1 0 6 = 0) : zEv 11 zM_X7_image 0 0 [.ref 0, .int (nI j)] (lay m) (some (.int 1), lay (cImg m j (150 + 15 * j))) := by
  match j, hj with
  | 0, _ => exact ev_X7_image_0 9 m h1
  | 1, _ => exact ev_X7_image_1 9 m h1
  | j + 2, h => exact absurd h (by omega)
theorem st_image : ∀ m : zm, Rel m → ∀ a0 : Int32, LawStp Rel zM_X7_image zM_X8_image m [.int a0] := by
  intro m h k
  by_cases hb : k < 0 ∨ 1 < k
  · exact stp_mk (ev_X7_image_bad 9 m k hb) (ev_X8_image_bad 10 m k hb) rfl h.t
  · obtain ⟨j, hj, rfl⟩ := two_in hb
    obtain ⟨g1, g2, g3, g4, g5, H, W, P, hc, ha⟩ := id h
    by_cases hr : m.1 0 6 = 0
    · exact stp_mk (ev_X7_image_state 9 m (nI j) hb hr) (ev_X8_image_state 10 m j (fun q => (read_1 hc).mp q ((read_0 hc).mp hr)) hj) rfl h.t
    · have hH : ¬ H = 0 := fun q => hr ((read_0 hc).mpr q)
      have e0 : ∀ c k, c < 150 + 15 * j ∨ 165 + 15 * j ≤ c → ¬ (c = 45 ∧ k = j) → (cImg m j (150 + 15 * j)).1 c k = m.1 c k := fun c k q1 q2 => by
        unfold cImg
        rw [upI_ne q2, stands_n (by omega)]
      have hm := ev_X8_image 10 (cImg m j (150 + 15 * j)) j (by rw [e0 184 0 (by omega) (by omega)]; exact (read_1 hc).mpr hH) hj
      have eM : ∀ c k, (mImg (mT (cImg m j (150 + 15 * j))) j).1 c k = if c = 190 ∧ k = j then 1 else if c = 191 ∧ 68 * j ≤ k ∧ k < 68 * j + 68 then (mT (cImg m j (150 + 15 * j))).1 184 (0 + (k - 68 * j)) else if c = 180 ∧ k = 0 then 0 else (cImg m j (150 + 15 * j)).1 c k := fun c k => rfl
      have eb : ∀ c k, (c < 150 + 15 * j ∨ 165 + 15 * j ≤ c) → ¬ (c = 45 ∧ k = j) → ¬ (c = 190 ∧ k = j) → ¬ (c = 191 ∧ 68 * j ≤ k ∧ k < 68 * j + 68) → ¬ (c = 180 ∧ k = 0) → (mImg (mT (cImg m j (150 + 15 * j))) j).1 c k = m.1 c k := fun c k q1 q2 q3 q4 q5 => by
        rw [eM, if_neg q3, if_neg q4, if_neg q5, e0 c k q1 q2]
      have eblk : ∀ c k, 150 + 15 * j ≤ c → c < 165 + 15 * j → (mImg (mT (cImg m j (150 + 15 * j))) j).1 c k = (cStands m (150 + 15 * j) 14).1 c k := fun c k q1 q2 => by
        rw [eM, if_neg (by omega), if_neg (by omega), if_neg (by omega)]
        unfold cImg
        rw [upI_ne (by omega)]
      refine stp_mk (img_c m j hj hr) hm rfl ⟨⟨?_, ?_⟩, g2.c (fun a k q => eb a k (by omega) (by omega) (by omega) (by omega) (by omega)), g3.c (eb _ _ (by omega) (by omega) (by omega) (by omega) (by omega)) (eb _ _ (by omega) (by omega) (by omega) (by omega) (by omega)) (fun k => eb _ _ (by omega) (by omega) (by omega) (by omega) (by omega)) (fun k => eb _ _ (by omega) (by omega) (by omega) (by omega) (by omega)), ?_, g5.c (fun a k q => eb a k (by omega) (by omega) (by omega) (by omega) (by omega)) (eb _ _ (by omega) (by omega) (by omega) (by omega) (by omega)), H, W, P, hc.c (fun a k q => eb a k (by omega) (by omega) (by omega) (by omega) (by omega)) (eb _ _ (by omega) (by omega) (by omega) (by omega) (by omega)), ha.c hc.1.1.2.2 (fun a k q => eb a k (by omega) (by omega) (by omega) (by omega) (by omega)) (fun k _ => eb _ k (by omega) (by omega) (by omega) (by omega) (by omega)) (eb _ _ (by omega) (by omega) (by omega) (by omega) (by omega))⟩
      · rw [eb 0 3 (by omega) (by omega) (by omega) (by omega) (by omega), eb 180 1 (by omega) (by omega) (by omega) (by omega) (by omega)]
        exact g1.1
      · rw [eb 0 5 (by omega) (by omega) (by omega) (by omega) (by omega), eb 180 11 (by omega) (by omega) (by omega) (by omega) (by omega)]
        exact g1.2
      · intro s hs
        have e6 : (mImg (mT (cImg m j (150 + 15 * j))) j).1 0 6 = m.1 0 6 := eb 0 6 (by omega) (by omega) (by omega) (by omega) (by omega)
        by_cases hsj : s = j
        · subst hsj
          have e45 : (mImg (mT (cImg m s (150 + 15 * s))) s).1 45 s = 1 := by
            rw [eM, if_neg (by omega), if_neg (by omega), if_neg (by omega)]
            unfold cImg
            rw [upI_eq]
          have e190 : (mImg (mT (cImg m s (150 + 15 * s))) s).1 190 s = 1 := by
            rw [eM, if_pos (by omega)]
          rw [e45, e190]
          refine ⟨rfl, Or.inr ⟨rfl, ?_, H, W, P, by omega, hc.1.c (fun k hk => ?_) (fun w k hw hk => ?_) (fun p k hp hk => ?_) (fun k hk => ?_)⟩⟩
          · rw [e6, hc.2, if_pos (by omega)]
          · rw [eblk _ k (by omega) (by omega), stands_h (by omega) hk]
          · rw [eblk _ k (by omega) (by omega), show 153 + 15 * s + w = 150 + 15 * s + 3 + w by omega, stands_w (by omega) hk w hw]
          · rw [eblk _ k (by omega) (by omega), show 161 + 15 * s + p = 150 + 15 * s + 11 + p by omega, stands_p (by omega) hk p hp]
          · rw [eM, if_neg (by omega), if_pos (by omega), show 68 * s + k - 68 * s = k by omega, upI_ne (by omega), e0 184 _ (by omega) (by omega)]
        · rw [eb 45 s (by omega) (by omega) (by omega) (by omega) (by omega), eb 190 s (by omega) (by omega) (by omega) (by omega) (by omega)]
          obtain ⟨q1, q2⟩ := g4 s hs
          refine ⟨q1, q2.imp id (fun q => ⟨q.1, by rw [e6]; exact q.2.1, ?_⟩)⟩
          obtain ⟨H', W', P', q3, q4⟩ := q.2.2
          exact ⟨H', W', P', q3, q4.c (fun k hk => eb _ k (by omega) (by omega) (by omega) (by omega) (by omega)) (fun w k hw hk => eb _ k (by omega) (by omega) (by omega) (by omega) (by omega)) (fun p k hp hk => eb _ k (by omega) (by omega) (by omega) (by omega) (by omega)) (fun k hk => eb _ _ (by omega) (by omega) (by omega) (by omega) (by omega))⟩
theorem res_c (m : zm) (j : Nat) (hj : j < 2) (h1 : ¬ m.1 45 j = 0) : zEv 11 zM_X7_restore 0 0 [.ref 0, .int (nI j)] (lay m) (some (.int 1), lay (cRest m (150 + 15 * j))) := by
  match j, hj with
  | 0, _ => exact ev_X7_restore_0 9 m h1
  | 1, _ => exact ev_X7_restore_1 9 m h1
  | j + 2, h => exact absurd h (by omega)
theorem res_s (m : zm) (j : Nat) (hj : j < 2) (h1 : m.1 45 j = 0) : zEv 11 zM_X7_restore 0 0 [.ref 0, .int (nI j)] (lay m) (some (.int (-1000002)), lay m) := by
  match j, hj with
  | 0, _ => exact ev_X7_restore_state_0 9 m h1
  | 1, _ => exact ev_X7_restore_state_1 9 m h1
  | j + 2, h => exact absurd h (by omega)
theorem st_restore : ∀ m : zm, Rel m → ∀ a0 : Int32, LawStp Rel zM_X7_restore zM_X8_restore m [.int a0] := by
  intro m h k
  by_cases hb : k < 0 ∨ 1 < k
  · exact stp_mk (ev_X7_restore_bad 9 m k hb) (ev_X8_restore_bad 10 m k hb) rfl h.t
  · obtain ⟨j, hj, rfl⟩ := two_in hb
    obtain ⟨g1, g2, g3, g4, g5, H0, W0, P0, hc, ha⟩ := id h
    obtain ⟨k1, k2⟩ := g4 j hj
    by_cases hr : m.1 45 j = 0
    · exact stp_mk (res_s m j hj hr) (ev_X8_restore_state 10 m j (by rw [← k1]; exact hr) hj) rfl h.t
    · obtain ⟨-, hread, H, W, P, hH, hl⟩ := k2.resolve_left hr
      have e0 : ∀ c k, c < 14 ∨ 29 ≤ c → ¬ (c = 46 ∧ (k = 1 ∨ k = 2)) → (cRest m (150 + 15 * j)).1 c k = m.1 c k := fun c k q1 q2 => by
        unfold cRest
        rw [upI_ne (by omega), upI_ne (by omega), stands_n (by omega)]
      have hm := ev_X8_restore 10 (cRest m (150 + 15 * j)) j (by rw [e0 190 j (by omega) (by omega), ← k1]; exact hr) hj
      have eM : ∀ c k, (mRest (mT (cRest m (150 + 15 * j))) j).1 c k = if c = 180 ∧ k = 8 then 0 else if c = 184 ∧ 0 ≤ k ∧ k < 0 + 68 then (mT (cRest m (150 + 15 * j))).1 191 (68 * j + (k - 0)) else if c = 180 ∧ k = 0 then 0 else (cRest m (150 + 15 * j)).1 c k := fun c k => rfl
      have eb : ∀ c k, (c < 14 ∨ 29 ≤ c) → ¬ (c = 46 ∧ (k = 1 ∨ k = 2)) → ¬ c = 184 → ¬ (c = 180 ∧ (k = 0 ∨ k = 8)) → (mRest (mT (cRest m (150 + 15 * j))) j).1 c k = m.1 c k := fun c k q1 q2 q3 q4 => by
        rw [eM, if_neg (by omega), if_neg (by omega), if_neg (by omega), e0 c k q1 q2]
      have eblk : ∀ c k, 14 ≤ c → c < 29 → (mRest (mT (cRest m (150 + 15 * j))) j).1 c k = (cStands m 14 (150 + 15 * j)).1 c k := fun c k q1 q2 => by
        rw [eM, if_neg (by omega), if_neg (by omega), if_neg (by omega)]
        unfold cRest
        rw [upI_ne (by omega), upI_ne (by omega)]
      have e461 : (mRest (mT (cRest m (150 + 15 * j))) j).1 46 1 = 0 := by
        rw [eM, if_neg (by omega), if_neg (by omega), if_neg (by omega)]
        unfold cRest
        rw [upI_ne (by omega), upI_eq]
      have e462 : (mRest (mT (cRest m (150 + 15 * j))) j).1 46 2 = 0 := by
        rw [eM, if_neg (by omega), if_neg (by omega), if_neg (by omega)]
        unfold cRest
        rw [upI_eq]
      have e1808 : (mRest (mT (cRest m (150 + 15 * j))) j).1 180 8 = 0 := by rw [eM, if_pos (by omega)]
      have e6 : (mRest (mT (cRest m (150 + 15 * j))) j).1 0 6 = m.1 0 6 := eb 0 6 (by omega) (by omega) (by omega) (by omega)
      refine stp_mk (res_c m j hj hr) hm rfl ⟨⟨?_, ?_⟩, g2.c (fun a k q => eb a k (by omega) (by omega) (by omega) (by omega)), g3.c (eb _ _ (by omega) (by omega) (by omega) (by omega)) (eb _ _ (by omega) (by omega) (by omega) (by omega)) (fun k => eb _ _ (by omega) (by omega) (by omega) (by omega)) (fun k => eb _ _ (by omega) (by omega) (by omega) (by omega)), g4.c (fun a k q => eb a k (by omega) (by omega) (by omega) (by omega)) e6, g5.c (fun a k q => eb a k (by omega) (by omega) (by omega) (by omega)) (eb _ _ (by omega) (by omega) (by omega) (by omega)), H, W, P, ⟨hl.c (fun k hk => ?_) (fun w k hw hk => ?_) (fun p k hp hk => ?_) (fun k hk => ?_), ?_⟩, ?_⟩
      · rw [eb 0 3 (by omega) (by omega) (by omega) (by omega), eb 180 1 (by omega) (by omega) (by omega) (by omega)]
        exact g1.1
      · rw [eb 0 5 (by omega) (by omega) (by omega) (by omega), eb 180 11 (by omega) (by omega) (by omega) (by omega)]
        exact g1.2
      · rw [eblk _ k (by omega) (by omega), stands_h (by omega) hk]
      · rw [eblk _ k (by omega) (by omega), show 17 + w = 14 + 3 + w by omega, stands_w (by omega) hk w hw, show 150 + 15 * j + 3 + w = 153 + 15 * j + w by omega]
      · rw [eblk _ k (by omega) (by omega), show 25 + p = 14 + 11 + p by omega, stands_p (by omega) hk p hp, show 150 + 15 * j + 11 + p = 161 + 15 * j + p by omega]
      · rw [eM, if_neg (by omega), if_pos (by omega), show 0 + k - 0 = k by omega, upI_ne (by omega), e0 191 _ (by omega) (by omega)]
      · rw [e6, hread, if_pos hH]
      · obtain ⟨a1, a2, a3⟩ := aOk_of (m := mRest (mT (cRest m (150 + 15 * j))) j) (o := 0) (k := 0) e461 e462 (by omega) (by omega)
        obtain ⟨b1, b2⟩ := mAOk_of (m := mRest (mT (cRest m (150 + 15 * j))) j) (a := 0) e1808 (by omega)
        exact ⟨a1, b1, by rw [a3, b2], fun i hi => absurd hi (by rw [a3]; omega)⟩
theorem eld_eq {m : zm} {V : Nat → Int32} {w : Int32} {kk P : Nat} (hv : ∀ p, (if w = 0 then m.1 (25 + p) 4 else m.1 (25 + p) 1) = V p) (ho : ∀ p, p < P → mOf (mT m) p kk = V p) : ∀ (n i b : Nat), i + n ≤ P → b < P → cEldL m w n i (nI b) (V b) = nI (mEldL (mT m) kk n i b) := by
  intro n
  induction n with
  | zero => intro i b _ _; rfl
  | succ n ih =>
    intro i b hi hb
    rw [cEldL, mEldL, hv i, ho i (by omega), ho b hb]
    by_cases q : V i ≤ V b
    · rw [if_neg (Int32.not_lt.mpr q), if_pos q]
      exact ih (i + 1) b (by omega) hb
    · rw [if_pos (Int32.not_le.mp q), if_neg q]
      exact ih (i + 1) i (by omega) (by omega)
theorem st_eldest : ∀ m : zm, Rel m → ∀ a0 : Int32, LawStp Rel zM_X7_eldest zM_X8_eldest m [.int a0] := by
  intro m h z
  obtain ⟨-, -, -, -, -, H, W, P, hc, -⟩ := id h
  by_cases hr : m.1 0 6 = 0
  · exact stp_mk (ev_X7_eldest_state 10 m z hr) (ev_X8_eldest_state 10 m z (fun q => (read_1 hc).mp q ((read_0 hc).mp hr))) rfl h.t
  · have hH : 0 < m.1 184 0 := (read_1 hc).mpr (fun q => hr ((read_0 hc).mpr q))
    by_cases hb : z < 0 ∨ 1 < z
    · exact stp_mk (ev_X7_eldest_bad 10 m z hr hb) (ev_X8_eldest_bad 10 m z hH hb) rfl h.t
    · obtain ⟨c1, c2⟩ := cur_P hc
      refine stp_mk (ev_X7_eldest 10 m P z hr hb c1 c2) (ev_X8_eldest 10 m P z hH hb (by rw [cur_hd hc (by omega)]; exact c1) c2) ?_ h.t
      unfold mEldR
      by_cases hP : P = 0
      · subst hP
        rw [if_pos rfl]
        rfl
      · rw [if_neg hP]
        obtain ⟨n, rfl⟩ : ∃ n, P = n + 1 := ⟨P - 1, by omega⟩
        have ho : ∀ p, p < n + 1 → mOf (mT m) p (if z = 0 then 4 else 2) = (if z = 0 then m.1 (25 + p) 4 else m.1 (25 + p) 1) := fun p hp => by
          by_cases hz : z = 0
          · rw [if_pos hz, if_pos hz, mOf_t, cur_per hc hp (by omega)]
            rfl
          · rw [if_neg hz, if_neg hz, mOf_t, cur_per hc hp (by omega)]
            rfl
        have h0 : (-1 : Int32) < (if z = 0 then m.1 (25 + 0) 4 else m.1 (25 + 0) 1) := by
          obtain ⟨k, t, hh, c, g, x, -, ht, -, hcl, hg, -, -, q1, -, -, q4, -⟩ := (hc.1.2.2.2.2 0 (by omega)).1
          rw [q1, q4]
          have : ∀ v : Nat, v ≤ 300 → (-1 : Int32) < nI v := fun v hv => by
            rw [Int32.lt_iff_toInt_lt, nI_toInt (by omega), show (-1 : Int32).toInt = -1 from by decide]
            omega
          split
          · exact this g (by omega)
          · exact this t (by omega)
        rw [cEldL, if_pos h0]
        exact (eld_eq (V := fun p => if z = 0 then m.1 (25 + p) 4 else m.1 (25 + p) 1) (fun _ => rfl) ho n 1 0 (by omega) (by omega)).symm
