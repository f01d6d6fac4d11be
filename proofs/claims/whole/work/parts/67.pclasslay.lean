/-! ===== pure: what the class lays ===== -/
abbrev cV (m : zm) (a y z : Nat) : Int64 := m.2 (a + 1) (y * 5 + z)
theorem upL_v (m : zm) (a k : Nat) (v : Int64) (b i : Nat) : (upL m a k v).2 b i = if b = a ∧ i = k then v else m.2 b i := rfl
theorem cG_v {m : zm} {a y z : Nat} (hy : y ≤ 40) (hz : z < 5) : cG m a (nI y) (nI z) = cV m a y z := by
  unfold cG
  rw [if_neg (by
    rintro ((q | q) | (q | q))
    · exact nI_pos (by omega) q
    · exact nI_nlt (a := 40) (b := y) (by omega) (by omega) q
    · exact nI_pos (by omega) q
    · exact nI_nlt (a := 4) (b := z) (by omega) (by omega) q), yix, nI_clamp (by omega)]
theorem cG_p {m : zm} {a y z : Nat} (h1 : 1 ≤ y) (hy : y ≤ 40) (hz : z < 5) : cG m a (nI y - 1) (nI z) = cV m a (y - 1) z := by
  rw [show nI y - 1 = nI (y - 1) from pk_sub (b := 1) h1, cG_v (by omega) hz]
theorem cG_s {m : zm} {a y s z : Nat} (hy : y ≤ 40) (hs : s ≤ 20) (hz : z < 5) : cG m a (nI y - nI s) (nI z) = if s ≤ y then cV m a (y - s) z else 0 := by
  by_cases q : s ≤ y
  · rw [if_pos q, pk_sub q, cG_v (by omega) hz]
  · rw [if_neg q]
    unfold cG
    rw [if_pos (Or.inl (Or.inl ?_))]
    rw [Int32.lt_iff_toInt_lt, pk_sub_toInt (by omega) (by omega)]
    show _ < (0 : Int)
    omega
theorem cRow5_v {m : zm} {a y : Nat} (h1 : 1 ≤ y) (hy : y ≤ 40) (c k : Nat) : (cRow5 m a y).2 c k = if c = a + 1 ∧ y * 5 ≤ k ∧ k < y * 5 + 5 then m.2 (a + 1) (k - 5) else m.2 c k := by
  unfold cRow5
  have g : ∀ (m : zm) (z : Nat), z < 5 → cG m a (nI y - 1) (nI z) = m.2 (a + 1) ((y - 1) * 5 + z) := fun m z hz => cG_p h1 hy hz
  have g0 := fun m => g m 0 (by omega)
  have g1 := fun m => g m 1 (by omega)
  have g2 := fun m => g m 2 (by omega)
  have g3 := fun m => g m 3 (by omega)
  have g4 := fun m => g m 4 (by omega)
  rw [show nI 0 = 0 from rfl] at g0
  rw [show nI 1 = 1 from rfl] at g1
  rw [show nI 2 = 2 from rfl] at g2
  rw [show nI 3 = 3 from rfl] at g3
  rw [show nI 4 = 4 from rfl] at g4
  simp only [g0, g1, g2, g3, g4, upL_v]
  by_cases q : c = a + 1 ∧ y * 5 ≤ k ∧ k < y * 5 + 5
  · rw [if_pos q]
    obtain ⟨q1, q2, q3⟩ := q
    subst q1
    have : k = y * 5 + 0 ∨ k = y * 5 + 1 ∨ k = y * 5 + 2 ∨ k = y * 5 + 3 ∨ k = y * 5 + 4 := by omega
    rcases this with rfl | rfl | rfl | rfl | rfl
    · (repeat (first | rw [if_neg (by omega)] | rw [if_pos (by omega)])); exact congrArg _ (by omega)
    · (repeat (first | rw [if_neg (by omega)] | rw [if_pos (by omega)])); exact congrArg _ (by omega)
    · (repeat (first | rw [if_neg (by omega)] | rw [if_pos (by omega)])); exact congrArg _ (by omega)
    · (repeat (first | rw [if_neg (by omega)] | rw [if_pos (by omega)])); exact congrArg _ (by omega)
    · (repeat (first | rw [if_neg (by omega)] | rw [if_pos (by omega)])); exact congrArg _ (by omega)
  · rw [if_neg q]
    (repeat (first | rw [if_neg (by omega)] | rw [if_pos (by omega)]))
/-- one way's part of year y -/
def FW (f : Nat → Nat → Int32) (j : Nat) (m m' : zm) (a y w : Nat) : Prop := rxO f j w → rxS f w ≤ y → ∀ l, l + rxG f j w < 64 → (Bt (cV m a (y - rxS f w) (rxA f w)) l = true → Bt (cV m' a y (rxB f w)) (l + rxG f j w) = true) ∧ (Bt (cV m a (y - rxS f w) (rxB f w)) l = true → Bt (cV m' a y (rxA f w)) (l + rxG f j w) = true)
/-- only year y of a has changed, and only grown -/
def FG (m m' : zm) (a y : Nat) : Prop := m'.1 = m.1 ∧ (∀ c k, ¬ (c = a + 1 ∧ y * 5 ≤ k ∧ k < y * 5 + 5) → m'.2 c k = m.2 c k) ∧ ∀ z, z < 5 → ∀ l, Bt (cV m a y z) l = true → Bt (cV m' a y z) l = true
theorem FG.refl (m : zm) (a y : Nat) : FG m m a y := ⟨rfl, fun _ _ _ => rfl, fun _ _ _ h => h⟩
theorem FG.trans {m1 m2 m3 : zm} {a y : Nat} (h : FG m1 m2 a y) (g : FG m2 m3 a y) : FG m1 m3 a y := ⟨g.1.trans h.1, fun c k q => (g.2.1 c k q).trans (h.2.1 c k q), fun z hz l q => g.2.2 z hz l (h.2.2 z hz l q)⟩
theorem cW1_F {m : zm} {a j y w H W : Nat} (hD : RD m.1 j H W) (hw : w < W) (hy : y ≤ 40) : FG m (cW1 m a (25 + j) y (17 + w)) a y ∧ FW m.1 j m (cW1 m a (25 + j) y (17 + w)) a y w ∧ (FSnd m.1 j W (cV m a) y → FSnd m.1 j W (cV (cW1 m a (25 + j) y (17 + w)) a) y) := by
  obtain ⟨d1, d2, d3, d4, d5, d6, d7, d8, d9, d10⟩ := hD.2.2 w hw
  have h5 := hD.2.1
  have eW : cW1 m a (25 + j) y (17 + w) = if rxO m.1 j w then cArr m a (25 + j) (17 + w) y (rxA m.1 w) (rxB m.1 w) else m := rfl
  rw [eW]
  by_cases hk : rxO m.1 j w
  · rw [if_pos hk]
    generalize eA : rxA m.1 w = A at *
    generalize eB : rxB m.1 w = B at *
    generalize eS : rxS m.1 w = s at *
    generalize eG : rxG m.1 j w = g at *
    have hv : ∀ c k, (cArr m a (25 + j) (17 + w) y A B).2 c k = if c = a + 1 ∧ k = y * 5 + B then cV m a y B ||| ((if s ≤ y then cV m a (y - s) A else 0) <<< ((nI g).toInt64 &&& 63)) else if c = a + 1 ∧ k = y * 5 + A then cV m a y A ||| ((if s ≤ y then cV m a (y - s) B else 0) <<< ((nI g).toInt64 &&& 63)) else m.2 c k := fun c k => by
      have d4' : m.1 (17 + w) 2 - cOwn m (25 + j) (17 + w) = nI g := d4
      have h1 : cArr m a (25 + j) (17 + w) y A B = upL (upL m (a + 1) (y * 5 + A) (cV m a y A ||| ((if s ≤ y then cV m a (y - s) B else 0) <<< ((nI g).toInt64 &&& 63)))) (a + 1) (y * 5 + B) (cV m a y B ||| ((if s ≤ y then cV m a (y - s) A else 0) <<< ((nI g).toInt64 &&& 63))) := by
        unfold cArr
        dsimp only
        rw [d4', d3, d2, d1, cG_s hy d9 (show B < 5 by omega), cG_s hy d9 (show A < 5 by omega)]
        have k1 : ∀ v, (upL m (a + 1) (y * 5 + A) v).2 (a + 1) (y * 5 + B) = cV m a y B := fun v => by rw [upL_v, if_neg (by omega)]
        have k2 : ∀ v, s ≤ y → cV (upL m (a + 1) (y * 5 + A) v) a (y - s) A = cV m a (y - s) A := fun v q => by rw [cV, upL_v, if_neg (by omega)]
        rw [k1]
        by_cases q : s ≤ y
        · rw [if_pos q, if_pos q, k2 _ q, if_pos q]
        · rw [if_neg q, if_neg q, if_neg q]
      rw [h1, upL_v, upL_v]
    have vB : cV (cArr m a (25 + j) (17 + w) y A B) a y B = cV m a y B ||| ((if s ≤ y then cV m a (y - s) A else 0) <<< ((nI g).toInt64 &&& 63)) := by rw [cV, hv, if_pos ⟨rfl, rfl⟩]
    have vA : cV (cArr m a (25 + j) (17 + w) y A B) a y A = cV m a y A ||| ((if s ≤ y then cV m a (y - s) B else 0) <<< ((nI g).toInt64 &&& 63)) := by rw [cV, hv, if_neg (by omega), if_pos ⟨rfl, rfl⟩]
    have vo : ∀ y' z, z < 5 → ¬ (y' = y ∧ (z = A ∨ z = B)) → cV (cArr m a (25 + j) (17 + w) y A B) a y' z = cV m a y' z := fun y' z hz q => by rw [cV, hv, if_neg (by omega), if_neg (by omega)]
    refine ⟨⟨rfl, fun c k q => ?_, fun z hz l q => ?_⟩, fun _ hs l hl => ⟨fun q => ?_, fun q => ?_⟩, fun hS => ?_⟩
    · rw [hv, if_neg (by omega), if_neg (by omega)]
    · by_cases q1 : z = B
      · subst q1
        rw [vB, Bt_or, q, Bool.true_or]
      · by_cases q2 : z = A
        · subst q2
          rw [vA, Bt_or, q, Bool.true_or]
        · rw [vo y z hz (by omega)]; exact q
    · rw [eB, eG, vB, if_pos (by omega), Bt_or, Bt_shl _ (by omega) (by omega), decide_eq_true (by omega), Nat.add_sub_cancel, Bool.true_and]
      rw [eS, eA] at q
      rw [q, Bool.or_true]
    · rw [eA, eG, vA, if_pos (by omega), Bt_or, Bt_shl _ (by omega) (by omega), decide_eq_true (by omega), Nat.add_sub_cancel, Bool.true_and]
      rw [eS, eB] at q
      rw [q, Bool.or_true]
    · intro y' hy' z hz l q
      have hl64 : l < 64 := Nat.lt_of_not_le (fun c => by rw [Bt_big c] at q; exact absurd q (by decide))
      by_cases qB : y' = y ∧ z = B
      · obtain ⟨rfl, rfl⟩ := qB
        rw [vB, Bt_or, Bool.or_eq_true] at q
        rcases q with q | q
        · exact hS _ hy' _ hz l q
        · rw [Bt_shl _ (by omega) hl64, Bool.and_eq_true, decide_eq_true_eq] at q
          obtain ⟨q1, q2⟩ := q
          by_cases hs : s ≤ y'
          · rw [if_pos hs] at q2
            have := ((Rch.C m.1 j W).2.2 w (y' - s) (l - g) hw hk).1 (by rw [eA]; exact hS _ (by omega) _ (by omega) _ q2)
            rw [eS, eB, eG, Nat.sub_add_cancel hs, Nat.sub_add_cancel q1] at this
            exact this
          · rw [if_neg hs, Bt_0] at q2
            exact absurd q2 (by decide)
      · by_cases qA : y' = y ∧ z = A
        · obtain ⟨rfl, rfl⟩ := qA
          rw [vA, Bt_or, Bool.or_eq_true] at q
          rcases q with q | q
          · exact hS _ hy' _ hz l q
          · rw [Bt_shl _ (by omega) hl64, Bool.and_eq_true, decide_eq_true_eq] at q
            obtain ⟨q1, q2⟩ := q
            by_cases hs : s ≤ y'
            · rw [if_pos hs] at q2
              have := ((Rch.C m.1 j W).2.2 w (y' - s) (l - g) hw hk).2 (by rw [eB]; exact hS _ (by omega) _ (by omega) _ q2)
              rw [eS, eA, eG, Nat.sub_add_cancel hs, Nat.sub_add_cancel q1] at this
              exact this
            · rw [if_neg hs, Bt_0] at q2
              exact absurd q2 (by decide)
        · rw [vo y' z hz (by omega)] at q
          exact hS _ hy' _ hz l q
  · rw [if_neg hk]
    exact ⟨FG.refl m a y, fun q => absurd q hk, fun h => h⟩
theorem FW.up {f : Nat → Nat → Int32} {j : Nat} {m1 m2 m3 m4 : zm} {a y w H W : Nat} (hD : RD f j H W) (hw : w < W) (h : FW f j m2 m3 a y w) (h1 : FG m1 m2 a y) (h2 : FG m3 m4 a y) : FW f j m1 m4 a y w := by
  intro ho hs l hl
  have hx := hD.2.2 w hw
  have h5 := hD.2.1
  have := h ho hs l hl
  refine ⟨fun q => h2.2.2 _ (by omega) _ (this.1 ?_), fun q => h2.2.2 _ (by omega) _ (this.2 ?_)⟩
  · rw [cV, h1.2.1 _ _ (by omega)]; exact q
  · rw [cV, h1.2.1 _ _ (by omega)]; exact q
theorem cWayL_F {f : Nat → Nat → Int32} {a j y H W : Nat} (hD : RD f j H W) (hy : y ≤ 40) : ∀ (n i : Nat) (m : zm), m.1 = f → i + n ≤ W → FG m (cWayL a (25 + j) y n i m) a y ∧ (∀ w, i ≤ w → w < i + n → FW f j m (cWayL a (25 + j) y n i m) a y w) ∧ (FSnd f j W (cV m a) y → FSnd f j W (cV (cWayL a (25 + j) y n i m) a) y) := by
  intro n
  induction n with
  | zero => intro i m _ _; exact ⟨FG.refl m a y, fun w h1 h2 => absurd h2 (by omega), fun h => h⟩
  | succ n ih =>
    intro i m hm hi
    rw [cWayL]
    obtain ⟨a1, a2, a3⟩ := cW1_F (m := m) (a := a) (by rw [hm]; exact hD) (show i < W by omega) hy
    rw [hm] at a2 a3
    obtain ⟨b1, b2, b3⟩ := ih (i + 1) (cW1 m a (25 + j) y (17 + i)) (a1.1.trans hm) (by omega)
    refine ⟨a1.trans b1, fun w h1 h2 => ?_, fun h => b3 (a3 h)⟩
    by_cases q : w = i
    · subst q
      exact a2.up hD (by omega) (FG.refl m a y) b1
    · exact (b2 w (by omega) (by omega)).up hD (by omega) a1 (FG.refl _ a y)
theorem cYrL_F {f : Nat → Nat → Int32} {a j H W : Nat} (hD : RD f j H W) : ∀ (n y : Nat) (m : zm), m.1 = f → 1 ≤ y → y + n = 41 → FSnd f j W (cV m a) (y - 1) → FCls f j H W (cV m a) (y - 1) → FSnd f j W (cV (cYrL a (25 + j) W n y m) a) 40 ∧ FCls f j H W (cV (cYrL a (25 + j) W n y m) a) 40 ∧ ∀ c k, c ≠ a + 1 → (cYrL a (25 + j) W n y m).2 c k = m.2 c k := by
  intro n
  induction n with
  | zero =>
    intro y m _ _ hy h1 h2
    obtain rfl : y = 41 := by omega
    exact ⟨h1, h2, fun _ _ _ => rfl⟩
  | succ n ih =>
    intro y m hm h1 hy hS hC
    have h5 := hD.2.1
    rw [cYrL]
    have hr := cRow5_v (m := m) (a := a) h1 (show y ≤ 40 by omega)
    have hr1 : (cRow5 m a y).1 = f := hm
    obtain ⟨b1, b2, b3⟩ := cWayL_F (a := a) hD (show y ≤ 40 by omega) W 0 (cRow5 m a y) hr1 (by omega)
    have vrow : ∀ z, z < 5 → cV (cRow5 m a y) a y z = cV m a (y - 1) z := fun z hz => by
      rw [cV, hr, if_pos (by omega)]
      exact congrArg _ (by omega)
    have vlow : ∀ y' z, y' < y → z < 5 → cV (cRow5 m a y) a y' z = cV m a y' z := fun y' z q hz => by rw [cV, hr, if_neg (by omega)]
    have wlow : ∀ y' z, y' < y → z < 5 → cV (cWayL a (25 + j) y W 0 (cRow5 m a y)) a y' z = cV m a y' z := fun y' z q hz => by
      rw [cV, b1.2.1 _ _ (by omega)]
      exact vlow y' z q hz
    obtain ⟨c1, c2, c3⟩ := ih (y + 1) (cWayL a (25 + j) y W 0 (cRow5 m a y)) (b1.1.trans hr1) (by omega) (by omega) (by
      rw [Nat.add_sub_cancel]
      refine b3 (fun y' hy' z hz l q => ?_)
      by_cases e : y' = y
      · subst e
        rw [vrow z hz] at q
        have := (Rch.C f j W).2.1 _ _ _ (hS (y' - 1) (by omega) z hz l q)
        rw [Nat.sub_add_cancel h1] at this
        exact this
      · rw [vlow y' z (by omega) hz] at q
        exact hS y' (by omega) z hz l q) (by
      rw [Nat.add_sub_cancel]
      have hx : (f (25 + j) 2).toNatClampNeg < 5 := by
        obtain ⟨x, hx, e⟩ := hD.1
        rw [e, nI_clamp (by omega)]
        omega
      refine ⟨by rw [wlow 0 _ (by omega) hx]; exact hC.1, fun y' z l hy' hz q => ?_, fun w y' l hw ho hy' hl => ?_⟩
      · rw [wlow y' z (by omega) (by omega)] at q
        by_cases e : y' + 1 = y
        · rw [e]
          refine b1.2.2 z (by omega) l ?_
          rw [vrow z (by omega), show y - 1 = y' by omega]
          exact q
        · rw [wlow (y' + 1) z (by omega) (by omega)]
          exact hC.2.1 y' z l (by omega) hz q
      · have hd := hD.2.2 w hw
        by_cases e : y' + rxS f w = y
        · have := b2 w (by omega) (by omega) ho (by omega) l hl
          rw [show y - rxS f w = y' by omega, vlow y' _ (by omega) (by omega), vlow y' _ (by omega) (by omega)] at this
          rw [e, wlow y' _ (by omega) (by omega), wlow y' _ (by omega) (by omega)]
          exact this
        · rw [wlow (y' + rxS f w) _ (by omega) (by omega), wlow (y' + rxS f w) _ (by omega) (by omega), wlow y' _ (by omega) (by omega), wlow y' _ (by omega) (by omega)]
          exact hC.2.2 w y' l hw ho (by omega) hl)
    exact ⟨c1, c2, fun c k q => by rw [c3 c k q, b1.2.1 _ _ (by omega), hr, if_neg (by omega)]⟩
theorem cRow0_v {m : zm} {a p x : Nat} (hp : m.1 p 2 = nI x) (hx : x < 5) (c k : Nat) : (cRow0 m a p).2 c k = if c = a + 1 ∧ k < 5 then (if k = x then 1 else 0) else m.2 c k := by
  have e : ∀ z : Nat, z < 5 → (nI z = nI x ↔ z = x) := fun z hz => nI_eq (by omega) (by omega)
  have e0 := e 0 (by omega)
  have e1 := e 1 (by omega)
  have e2 := e 2 (by omega)
  have e3 := e 3 (by omega)
  have e4 := e 4 (by omega)
  rw [show nI 0 = 0 from rfl] at e0
  rw [show nI 1 = 1 from rfl] at e1
  rw [show nI 2 = 2 from rfl] at e2
  rw [show nI 3 = 3 from rfl] at e3
  rw [show nI 4 = 4 from rfl] at e4
  unfold cRow0
  simp only [upL_v, hp, e0, e1, e2, e3, e4]
  by_cases q : c = a + 1 ∧ k < 5
  · rw [if_pos q]
    obtain ⟨q1, q2⟩ := q
    subst q1
    match k, q2 with
    | 0, _ => simp
    | 1, _ => simp
    | 2, _ => simp
    | 3, _ => simp
    | 4, _ => simp
    | k + 5, h => exact absurd h (by omega)
  · rw [if_neg q]
    (repeat (first | rw [if_neg (by omega)] | rw [if_pos (by omega)]))
/-- what the class has laid -/
theorem cFore_F {m : zm} {a j H W : Nat} (hD : RD m.1 j H W) : FSnd m.1 j W (cV (cFore m a (25 + j) W) a) 40 ∧ FCls m.1 j H W (cV (cFore m a (25 + j) W) a) 40 ∧ ∀ c k, c ≠ a + 1 → (cFore m a (25 + j) W).2 c k = m.2 c k := by
  obtain ⟨x, hx, ex⟩ := id hD.1
  have h5 := hD.2.1
  have hv := cRow0_v (m := m) (a := a) ex (show x < 5 by omega)
  have e0 : ∀ z, z < 5 → cV (cRow0 m a (25 + j)) a 0 z = if z = x then 1 else 0 := fun z hz => by
    rw [cV, hv, if_pos (by omega), show 0 * 5 + z = z by omega]
  have ex2 : (m.1 (25 + j) 2).toNatClampNeg = x := by rw [ex, nI_clamp (by omega)]
  have := cYrL_F (a := a) hD 40 1 (cRow0 m a (25 + j)) rfl (by omega) (by omega) (fun y hy z hz l q => by
    obtain rfl : y = 0 := by omega
    rw [e0 z hz] at q
    by_cases c : z = x
    · rw [if_pos c, Bt_1, decide_eq_true_eq] at q
      rw [c, q]
      have := (Rch.C m.1 j W).1
      rw [ex2] at this
      exact this
    · rw [if_neg c, Bt_0] at q
      exact absurd q (by decide)) (by
    refine ⟨?_, fun y z l hy => absurd hy (by omega), fun w y l hw ho hy => absurd hy (by have := hD.2.2 w hw; omega)⟩
    rw [ex2, e0 x (by omega), if_pos rfl, Bt_1]
    rfl)
  exact ⟨this.1, this.2.1, fun c k q => by
    rw [show (cFore m a (25 + j) W).2 c k = (cYrL a (25 + j) W 40 1 (cRow0 m a (25 + j))).2 c k from rfl, this.2.2 c k q, hv, if_neg (by omega)]⟩
