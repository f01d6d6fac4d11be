/-! ===== pure: even ===== -/
theorem nz_iff (x y : Int64) : ¬ (x &&& y = 0) ↔ ∃ l, l < 64 ∧ Bt x l = true ∧ Bt y l = true := by
  constructor
  · intro h
    refine Classical.byContradiction fun q => h (Bt_ext fun l hl => ?_)
    rw [Bt_and, Bt_0, Bool.and_eq_false_iff]
    by_cases c : Bt x l = true
    · exact Or.inr (Bool.eq_false_iff.mpr fun d => q ⟨l, hl, c, d⟩)
    · exact Or.inl (Bool.eq_false_iff.mpr c)
  · rintro ⟨l, _, h1, h2⟩ e
    have := congrArg (fun z => Bt z l) e
    simp only [Bt_and, Bt_0, h1, h2] at this
    exact absurd this (by decide)
theorem eAny_iff {g q : Int64} {b : Int32} : ∀ (n l : Nat), eAny g q b n l = true ↔ ∃ i, l ≤ i ∧ i < l + n ∧ eHit g q b i := by
  intro n
  induction n with
  | zero =>
    intro l
    exact ⟨fun h => absurd h (by simp [eAny]), fun ⟨i, h1, h2, _⟩ => absurd h2 (by omega)⟩
  | succ n ih =>
    intro l
    rw [eAny]
    by_cases c : eHit g q b l
    · rw [if_pos c]
      exact ⟨fun _ => ⟨l, by omega, by omega, c⟩, fun _ => rfl⟩
    · rw [if_neg c, ih]
      constructor
      · rintro ⟨i, h1, h2, h3⟩
        exact ⟨i, by omega, by omega, h3⟩
      · rintro ⟨i, h1, h2, h3⟩
        by_cases e : i = l
        · subst e
          exact absurd h3 c
        · exact ⟨i, by omega, by omega, h3⟩
theorem neg_ti {k : Nat} (hk : k < 2 ^ 30) : (-(nI k)).toInt = -(k : Int) := by
  have := pk_sub_toInt (a := 0) (b := k) (by omega) hk
  rw [show nI 0 = 0 from rfl, Int32.zero_sub] at this
  omega
theorem ap_out {k : Nat} (hk : k < 2 ^ 30) : (-(nI k) < -40 ∨ 40 < -(nI k)) ↔ 40 < k := by
  rw [Int32.lt_iff_toInt_lt, Int32.lt_iff_toInt_lt, neg_ti hk, show (-40 : Int32).toInt = -40 from rfl, show (40 : Int32).toInt = 40 from rfl]
  omega
theorem ap_out2 {k : Nat} (hk : k < 2 ^ 30) : (nI k < -40 ∨ 40 < nI k) ↔ 40 < k := by
  rw [Int32.lt_iff_toInt_lt, Int32.lt_iff_toInt_lt, nI_toInt (by omega), show (-40 : Int32).toInt = -40 from rfl, show (40 : Int32).toInt = 40 from rfl]
  omega
/-- the class's and the model's search for two gains that are apart by just so much -/
theorem apart_1 {g q : Int64} (hg : ∀ l, Bt g l = true → l ≤ 40) {k : Nat} (hk : k < 1000) : cApart g q (nI k) ↔ eAny g q (nI k) 41 0 = true := by
  rw [eAny_iff]
  unfold cApart
  rw [ap_out2 (by omega), if_neg (nI_pos (by omega))]
  constructor
  · rintro ⟨h1, h2⟩
    obtain ⟨l, hl, b1, b2⟩ := (nz_iff _ _).mp h2
    rw [Bt_ushr g (by omega)] at b1
    have := hg _ b1
    refine ⟨k + l, by omega, by omega, (Bt_m g (by omega)).mpr b1, ?_, ?_⟩
    · rw [pk_sub (by omega), show k + l - k = l by omega]
      exact ni_40 (by omega)
    · rw [pk_sub (by omega), show k + l - k = l by omega]
      exact (Bt_m q (by omega)).mpr b2
  · rintro ⟨i, -, h2, h3, h4, h5⟩
    have hki : k ≤ i := Nat.le_of_not_lt fun c => h4 (Or.inl (pk_sneg (by omega) c))
    rw [pk_sub hki] at h4 h5
    refine ⟨by omega, (nz_iff _ _).mpr ⟨i - k, by omega, ?_, (Bt_m q (by omega)).mp h5⟩⟩
    rw [Bt_ushr g (by omega), show k + (i - k) = i by omega]
    exact (Bt_m g (by omega)).mp h3
theorem apart_2 {g q : Int64} (hg : ∀ l, Bt g l = true → l ≤ 40) (hq : ∀ l, Bt q l = true → l ≤ 40) {k : Nat} (h0 : 0 < k) (hk : k < 1000) : cApart g q (-(nI k)) ↔ eAny g q (-(nI k)) 41 0 = true := by
  have hneg : -(nI k) < 0 := by
    rw [Int32.lt_iff_toInt_lt, neg_ti (by omega)]
    show -(k : Int) < 0
    omega
  have hs : ∀ i, nI i - -(nI k) = nI (i + k) := fun i => by rw [Int32.sub_neg, nI_add]
  rw [eAny_iff]
  unfold cApart
  rw [ap_out (by omega), if_pos hneg, Int32.neg_neg]
  constructor
  · rintro ⟨h1, h2⟩
    obtain ⟨l, hl, b1, b2⟩ := (nz_iff _ _).mp h2
    rw [Bt_ushr q (by omega)] at b1
    have h3 := hq _ b1
    have h4 := hg _ b2
    refine ⟨l, by omega, by omega, (Bt_m g (by omega)).mpr b2, ?_, ?_⟩
    · rw [hs]
      exact ni_40 (by omega)
    · rw [hs]
      exact (Bt_m q (by omega)).mpr (by rw [Nat.add_comm]; exact b1)
  · rintro ⟨i, -, h2, h3, h4, h5⟩
    rw [hs] at h4 h5
    have hik : i + k ≤ 40 := Nat.le_of_not_lt fun c => h4 (Or.inr (nI_lt (a := 40) c (by omega)))
    refine ⟨by omega, (nz_iff _ _).mpr ⟨i, by omega, ?_, (Bt_m g (by omega)).mp h3⟩⟩
    rw [Bt_ushr q (by omega), Nat.add_comm]
    exact (Bt_m q (by omega)).mp h5
theorem apart_eq {g q : Int64} (hg : ∀ l, Bt g l = true → l ≤ 40) (hq : ∀ l, Bt q l = true → l ≤ 40) {A B : Nat} (hA : A < 1000) (hB : B < 1000) : cApart g q (nI A - nI B) ↔ eAny g q (nI A - nI B) 41 0 = true := by
  by_cases c : B ≤ A
  · rw [pk_sub c]
    exact apart_1 hg (by omega)
  · rw [← Int32.neg_sub, pk_sub (by omega)]
    exact apart_2 hg hq (by omega) (by omega)
theorem diff_eq {A B C D : Nat} (h : A + D = C + B) : nI A - nI B = nI C - nI D := by
  by_cases c : B ≤ A
  · rw [pk_sub c, pk_sub (by omega)]
    congr 1
    omega
  · rw [show nI A - nI B = -(nI B - nI A) from Int32.neg_sub.symm, show nI C - nI D = -(nI D - nI C) from Int32.neg_sub.symm, pk_sub (by omega), pk_sub (by omega)]
    congr 2
    omega
theorem diff_4 (x y z w : Int32) : x - y - (z - w) = (x + w) - (z + y) := by
  simp only [Int32.sub_eq_add_neg, Int32.neg_add, Int32.neg_neg]
  rw [Int32.add_assoc, Int32.add_assoc]
  congr 1
  rw [← Int32.add_assoc, Int32.add_comm (-y), Int32.add_comm _ w]
theorem ev_eq {C M : zm} {a b s ca cb A B : Nat} (hs : s < 5) (hca : C.1 (25 + a) 3 = nI ca) (hcb : C.1 (25 + b) 3 = nI cb) (ha2 : ca ≤ 200) (hb2 : cb ≤ 200) (e1 : ∀ y, y ≤ 40 → cV C 144 y s = M.2 188 (5 * y + s)) (e2 : ∀ y, y ≤ 40 → cV C 146 y s = M.2 189 (5 * y + s)) (g1 : ∀ y l, y ≤ 40 → Bt (cV C 144 y s) l = true → l ≤ 40) (g2 : ∀ y l, y ≤ 40 → Bt (cV C 146 y s) l = true → l ≤ 40) (hA : A < 1000) (hB : B < 1000) (eb : ∀ k, ca ≤ k → cb ≤ k → eBy M a b (k - ca) (k - cb) = nI A - nI B) : ∀ (n k : Nat), ca ≤ k → cb ≤ k → min ca cb + 40 + 1 - k = n → cEvL C (25 + a) (25 + b) (nI s) (nI A - nI B) n k = eEv M a b ca cb s (ca + 41 - k) k := by
  intro n
  induction n with
  | zero =>
    intro k h1 h2 h3
    rw [eEv_end (by omega)]
    rfl
  | succ n ih =>
    intro k h1 h2 h3
    rw [show ca + 41 - k = (ca + 41 - (k + 1)) + 1 by omega, eEv, if_pos (by omega), cEvL, hca, hcb, pk_sub h1, pk_sub h2, cG_v (by omega) hs, cG_v (by omega) hs, ih (k + 1) (by omega) (by omega) (by omega), eb k h1 h2, ← e1 _ (by omega), ← e2 _ (by omega)]
    have key := apart_eq (g := cV C 144 (k - ca) s) (q := cV C 146 (k - cb) s) (fun l q => g1 _ l (by omega) q) (fun l q => g2 _ l (by omega) q) hA hB
    unfold cApart at key
    by_cases c : eAny (cV C 144 (k - ca) s) (cV C 146 (k - cb) s) (nI A - nI B) 41 0 = true
    · rw [if_pos c, if_pos (key.mpr c)]
    · rw [if_neg c, if_neg (fun z => c (key.mp z))]
/-- clock and age of one -/
theorem ca_of {m : zm} {H W P j : Nat} (hc : rCur m H W P) (hj : j < P) : ∃ c g : Nat, c ≤ 200 ∧ g ≤ 299 ∧ m.1 (25 + j) 3 = nI c ∧ m.1 (25 + j) 4 = nI g ∧ m.1 184 (36 + 8 * j + 3) = nI c ∧ mOf m j 4 = nI g := by
  obtain ⟨k, t, hh, c, g, n, hk, ht, -, hc2, hg, -, -, -, -, k3, k4, -⟩ := (hc.1.2.2.2.2 j hj).1
  exact ⟨c, g, hc2, by omega, k3, k4, (cur_per hc hj (k := 3) (by omega)).trans k3, (cur_per hc hj (k := 4) (by omega)).trans k4⟩
theorem st_even : ∀ m : zm, Rel m → ∀ a0 a1 a2 : Int32, LawStp Rel zM_X7_even zM_X8_even m [.int a0, .int a1, .int a2] := by
  intro m h p r z
  by_cases hb : (p < 0 ∨ m.1 14 3 - 1 < p) ∨ (r < 0 ∨ m.1 14 3 - 1 < r) ∨ p = r ∨ (z < 0 ∨ m.1 14 0 - 1 < z)
  · exact stp_mk (ev_X7_even_bad 7 m p r z hb) (ev_X8_even_bad 8 m p r z (hb.imp (h.nob p).mp (Or.imp (h.nob r).mp (Or.imp_right (h.noh z).mp)))) rfl h.t
  · have b1 : ¬ (p < 0 ∨ m.1 14 3 - 1 < p) := fun q => hb (Or.inl q)
    have b2 : ¬ (r < 0 ∨ m.1 14 3 - 1 < r) := fun q => hb (Or.inr (Or.inl q))
    have b3 : ¬ p = r := fun q => hb (Or.inr (Or.inr (Or.inl q)))
    have b4 : ¬ (z < 0 ∨ m.1 14 0 - 1 < z) := fun q => hb (Or.inr (Or.inr (Or.inr q)))
    obtain ⟨-, -, -, -, -, H, W, P, hc, -⟩ := id h
    obtain ⟨a, ha, ha4, rfl⟩ := cur_some hc b1
    obtain ⟨b, hbP, hb4, rfl⟩ := cur_some hc b2
    obtain ⟨s, hs, hs5, rfl⟩ := cur_harb hc b4
    obtain ⟨xa, hxa, hxa1, hxa2⟩ := at_of hc ha
    obtain ⟨xb, hxb, hxb1, hxb2⟩ := at_of hc hbP
    obtain ⟨ca, ga, hca, hga, ca3, ca4, ca1, cam⟩ := ca_of hc ha
    obtain ⟨cb, gb, hcb, hgb, cb3, cb4, cb1, cbm⟩ := ca_of hc hbP
    have f1 := cFore_1 m 144 (25 + a) W
    have f2 : (cFore (cFore m 144 (25 + a) W) 146 (25 + b) W).1 = m.1 := (cFore_1 _ 146 (25 + b) W).trans f1
    have hcl := ev_X7_even 7 m W ca cb a b (nI s) b1 b2 b3 b4 (cur_W hc).1 (cur_W hc).2 (wOk_of hc) ca3 cb3 hca hcb ha4 hb4
    obtain ⟨l1, l2, l3, -⟩ := lay_eq (m1 := cFore m 144 (25 + a) W) (M := mT (cFore (cFore m 144 (25 + a) W) 146 (25 + b) W)) hc hbP hxb hxb1 f1 (mT_184 f2) 146
    have f3 : (mOth (mLay (mT (cFore (cFore m 144 (25 + a) W) 146 (25 + b) W)) b H W xb) 205).1 184 = m.1 184 := by
      show (mLay (mT (cFore (cFore m 144 (25 + a) W) 146 (25 + b) W)) b H W xb).1 184 = m.1 184
      rw [mLay_1]
      exact mT_184 f2
    obtain ⟨k1, k2, -, k4⟩ := lay_eq (m1 := m) (M := mOth (mLay (mT (cFore (cFore m 144 (25 + a) W) 146 (25 + b) W)) b H W xb) 205) hc ha hxa hxa1 rfl f3 144
    have hml := ev_X8_even 8 (cFore (cFore m 144 (25 + a) W) 146 (25 + b) W) H W xa xb ca cb a b s (by rw [f2]; exact fun q => b1 ((h.nob _).mpr q)) (by rw [f2]; exact fun q => b2 ((h.nob _).mpr q)) b3 (by rw [f2]; exact fun q => b4 ((h.noh _).mpr q)) (lOk_c f2 (lOk_of hc)) (by rw [f2]; exact hxa2) hxa (by rw [f2]; exact hxb2) hxb (by rw [f2]; exact ca1) (by rw [f2]; exact cb1) hca hcb ha4 hb4 hs5
    have eM : (mEvM (mT (cFore (cFore m 144 (25 + a) W) 146 (25 + b) W)) a b H W xa xb).1 = (mT m).1 := by
      unfold mEvM
      rw [mLay_1]
      show (mLay (mT (cFore (cFore m 144 (25 + a) W) 146 (25 + b) W)) b H W xb).1 = _
      rw [mLay_1]
      exact mT_e f2
    refine stp_mk hcl hml ?_ (h.t.e eM)
    have cv : ∀ y, cV (cFore (cFore m 144 (25 + a) W) 146 (25 + b) W) 144 y s = cV (cFore m 144 (25 + a) W) 144 y s := fun y => l3 145 _ (by omega)
    have em : ∀ j k, mOf (mEvM (mT (cFore (cFore m 144 (25 + a) W) 146 (25 + b) W)) a b H W xa xb) j k = mOf m j k := fun j k => by
      unfold mOf
      rw [eM]
      exact upI_ne (by omega)
    have key := ev_eq (C := cFore (cFore m 144 (25 + a) W) 146 (25 + b) W) (M := mEvM (mT (cFore (cFore m 144 (25 + a) W) 146 (25 + b) W)) a b H W xa xb) (a := a) (b := b) (s := s) (ca := ca) (cb := cb) (A := ga + cb) (B := gb + ca) hs5 (by rw [f2]; exact ca3) (by rw [f2]; exact cb3) hca hcb (fun y hy => by rw [cv]; exact k1 y s hy hs5) (fun y hy => by
      rw [l1 y s hy hs5]
      refine Eq.trans ?_ (k4 189 _ (by omega)).symm
      show _ = (if 189 = 189 ∧ 5 * y + s < 205 then _ else _)
      rw [if_pos (by omega)]) (fun y l hy q => k2 y s l hy hs5 (by rw [← cv]; exact q)) (fun y l hy q => l2 y s l hy hs5 q) (by omega) (by omega) (fun k h1 h2 => by
      unfold eBy
      rw [em, em, cam, cbm, nI_add, Int32.sub_sub, nI_add]
      exact diff_eq (by omega)) _ (max ca cb) (by omega) (by omega) rfl
    rw [show m.1 (25 + a) 4 - m.1 (25 + a) 3 - (m.1 (25 + b) 4 - m.1 (25 + b) 3) = nI (ga + cb) - nI (gb + ca) by rw [ca3, ca4, cb3, cb4, diff_4, nI_add, nI_add], key, show eMax ca cb = max ca cb from by
      unfold eMax
      split <;> omega]
