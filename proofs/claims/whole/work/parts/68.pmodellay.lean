/-! ===== pure: what the model lays ===== -/
abbrev uV (m : zm) (y z : Nat) : Int64 := m.2 188 (5 * y + z)
def MD (m : zm) (f : Nat → Nat → Int32) (j H W : Nat) : Prop := ∀ w, w < W → m.1 184 (4 + 4 * w + 2) = nI (rxS f w) ∧ m.1 184 (4 + 4 * w + 2) - mAgesBy m j w = nI (rxG f j w) ∧ ∀ h, h < H → (rxO f j w → h = rxA f w → mEndOf m j w (nI h) = nI (rxB f w)) ∧ (rxO f j w → h = rxB f w → mEndOf m j w (nI h) = nI (rxA f w)) ∧ (¬ (rxO f j w ∧ (h = rxA f w ∨ h = rxB f w)) → mEndOf m j w (nI h) = -1000000)
theorem MD.c {m m' : zm} {f : Nat → Nat → Int32} {j H W : Nat} (e : m'.1 = m.1) (h : MD m f j H W) : MD m' f j H W := by
  intro w hw
  have := h w hw
  unfold mAgesBy mEndOf mTo mOf mWy at *
  rw [e]
  exact this
theorem MD_of {m : zm} {H W P j : Nat} (hc : rCur m H W P) (hj : j < P) : MD m m.1 j H W := by
  have hD := RD_of hc hj
  intro w hw
  obtain ⟨d1, d2, d3, d4, d5, d6, d7, d8, d9, d10⟩ := hD.2.2 w hw
  have h5 := hD.2.1
  have g2 : m.1 184 (4 + 4 * w + 2) = m.1 (17 + w) 2 := cur_way hc hw (by omega)
  have g0 : mWy m w 0 = m.1 (17 + w) 0 := cur_way hc hw (by omega)
  have g1 : mWy m w 1 = m.1 (17 + w) 1 := cur_way hc hw (by omega)
  have p0 : mOf m j 0 = m.1 (25 + j) 0 := cur_per hc hj (k := 0) (by omega)
  obtain ⟨o, s', o1, o2, o3, o4, o5⟩ := way_own hc hj hw
  have ho : rxO m.1 j w ↔ ¬ (mOf m j 0 = 5 ∧ 10 < mWy m w 2) := by
    rw [p0, show mWy m w 2 = m.1 (17 + w) 2 from g2, rxO]
    constructor
    · rintro (q | q) ⟨r1, r2⟩
      · exact q r1
      · exact Int32.not_lt.mpr q r2
    · intro q
      by_cases c : m.1 (25 + j) 0 = 5
      · exact Or.inr (Int32.not_lt.mp (fun r => q ⟨c, r⟩))
      · exact Or.inl c
  have en : ∀ a h, a < 5 → h < 5 → (nI a = nI h ↔ a = h) := fun a h _ _ => nI_eq (by omega) (by omega)
  refine ⟨g2.trans d3, ?_, fun h hh => ⟨fun h1 h2 => ?_, fun h1 h2 => ?_, fun h1 => ?_⟩⟩
  · rw [o5, ← o4, g2]
    exact d4
  · unfold mEndOf mTo
    rw [if_neg (ho.mp h1), g0, g1, d1, d2, if_pos ((en _ _ (by omega) (by omega)).mpr h2.symm)]
  · unfold mEndOf mTo
    rw [if_neg (ho.mp h1), g0, g1, d1, d2, if_neg (fun q => absurd ((en _ _ (by omega) (by omega)).mp q) (by omega)), if_pos ((en _ _ (by omega) (by omega)).mpr h2.symm)]
  · unfold mEndOf mTo
    by_cases c : mOf m j 0 = 5 ∧ 10 < mWy m w 2
    · rw [if_pos c]
    · rw [if_neg c, g0, g1, d1, d2, if_neg (fun q => h1 ⟨ho.mpr c, Or.inl ((en _ _ (by omega) (by omega)).mp q).symm⟩), if_neg (fun q => h1 ⟨ho.mpr c, Or.inr ((en _ _ (by omega) (by omega)).mp q).symm⟩)]
/-- only years beyond y have changed, and only grown -/
def UG (m m' : zm) (y : Nat) : Prop := m'.1 = m.1 ∧ (∀ k, k < 5 * y + 5 → m'.2 188 k = m.2 188 k) ∧ (∀ c k, c ≠ 188 → m'.2 c k = m.2 c k) ∧ ∀ k l, Bt (m.2 188 k) l = true → Bt (m'.2 188 k) l = true
theorem UG.refl (m : zm) (y : Nat) : UG m m y := ⟨rfl, fun _ _ => rfl, fun _ _ _ => rfl, fun _ _ h => h⟩
theorem UG.trans {m1 m2 m3 : zm} {y : Nat} (h : UG m1 m2 y) (g : UG m2 m3 y) : UG m1 m3 y := ⟨g.1.trans h.1, fun k q => (g.2.1 k q).trans (h.2.1 k q), fun c k q => (g.2.2.1 c k q).trans (h.2.2.1 c k q), fun k l q => g.2.2.2 k l (h.2.2.2 k l q)⟩
/-- one place that takes more -/
theorem UG_put {m : zm} {y Y z : Nat} (v : Int64) (hy : y < Y) : UG m (upL m 188 (5 * Y + z) (uV m Y z ||| v)) y ∧ ∀ l, Bt v l = true → Bt (uV (upL m 188 (5 * Y + z) (uV m Y z ||| v)) Y z) l = true := by
  refine ⟨⟨rfl, fun k hk => ?_, fun c k hc => ?_, fun k l q => ?_⟩, fun l q => ?_⟩
  · rw [upL_v, if_neg (by omega)]
  · rw [upL_v, if_neg (by omega)]
  · by_cases c : k = 5 * Y + z
    · subst c
      rw [upL_v, if_pos ⟨rfl, rfl⟩, Bt_or, q, Bool.true_or]
    · rw [upL_v, if_neg (by omega)]
      exact q
  · rw [uV, upL_v, if_pos ⟨rfl, rfl⟩, Bt_or, q, Bool.or_true]
theorem US_put {f : Nat → Nat → Int32} {j W : Nat} {m : zm} {Y z : Nat} (v : Int64) (hz : z < 5) (hv : ∀ l, Bt v l = true → Rch f j W Y z l) (hS : FSnd f j W (uV m) 40) : FSnd f j W (uV (upL m 188 (5 * Y + z) (uV m Y z ||| v))) 40 := by
  intro y' hy' z' hz' l q
  by_cases c : y' = Y ∧ z' = z
  · obtain ⟨rfl, rfl⟩ := c
    rw [uV, upL_v, if_pos ⟨rfl, rfl⟩, Bt_or, Bool.or_eq_true] at q
    rcases q with q | q
    · exact hS _ hy' _ hz' l q
    · exact hv l q
  · rw [uV, upL_v, if_neg (by omega)] at q
    exact hS _ hy' _ hz' l q
theorem gStep_to {f : Nat → Nat → Int32} {j H W y h w t : Nat} {now : Int64} {m : zm} (hD : RD f j H W) (hM : MD m f j H W) (hw : w < W) (ht : t < 5) (ht2 : mEndOf m j w (nI h) = nI t) (harr : ∀ l, Rch f j W y h l → Rch f j W (y + rxS f w) t (l + rxG f j w)) : UG m (gStep m j y h now w) y ∧ (y + rxS f w ≤ 40 → ∀ l, l + rxG f j w < 64 → Bt now l = true → Bt (uV (gStep m j y h now w) (y + rxS f w) t) (l + rxG f j w) = true) ∧ ((∀ l, Bt now l = true → Rch f j W y h l) → FSnd f j W (uV m) 40 → FSnd f j W (uV (gStep m j y h now w)) 40) := by
  obtain ⟨-, -, -, -, -, -, -, d8, d9, d10⟩ := hD.2.2 w hw
  obtain ⟨e1, e2, -⟩ := hM w hw
  have eS : gSh m w = rxS f w := by unfold gSh; rw [e1, nI_clamp (by omega)]
  have eT : gTo m j w h = t := by unfold gTo; rw [ht2, nI_clamp (by omega)]
  have eg : gStep m j y h now w = if nI t = -1000000 ∨ 40 < y + rxS f w then m else upL m 188 (5 * (y + rxS f w) + t) (uV m (y + rxS f w) t ||| (now <<< ((nI (rxG f j w)).toInt64 &&& 63))) := by
    unfold gStep
    rw [eS, eT, ht2, e2]
  rw [eg]
  by_cases c : 40 < y + rxS f w
  · rw [if_pos (Or.inr c)]
    exact ⟨UG.refl m y, fun q => absurd q (by omega), fun _ h => h⟩
  · rw [if_neg (by
      rintro (q | q)
      · exact nI_none (by omega) q
      · exact c q)]
    obtain ⟨u1, u2⟩ := UG_put (m := m) (y := y) (Y := y + rxS f w) (z := t) (now <<< ((nI (rxG f j w)).toInt64 &&& 63)) (by omega)
    refine ⟨u1, fun _ l hl q => u2 _ ?_, fun hn hS => US_put _ ht (fun l q => ?_) hS⟩
    · rw [Bt_shl _ (by omega) (by omega), decide_eq_true (by omega), Nat.add_sub_cancel, q]
      rfl
    · have hl64 : l < 64 := Nat.lt_of_not_le (fun c => by rw [Bt_big c] at q; exact absurd q (by decide))
      rw [Bt_shl _ (by omega) hl64, Bool.and_eq_true, decide_eq_true_eq] at q
      have := harr _ (hn _ q.2)
      rw [Nat.sub_add_cancel q.1] at this
      exact this
/-- one way's part from year y -/
def UW (f : Nat → Nat → Int32) (j : Nat) (now : Int64) (m' : zm) (y h w : Nat) : Prop := rxO f j w → y + rxS f w ≤ 40 → ∀ l, l + rxG f j w < 64 → Bt now l = true → (h = rxA f w → Bt (uV m' (y + rxS f w) (rxB f w)) (l + rxG f j w) = true) ∧ (h = rxB f w → Bt (uV m' (y + rxS f w) (rxA f w)) (l + rxG f j w) = true)
theorem UW.up {f : Nat → Nat → Int32} {j : Nat} {now : Int64} {m m' : zm} {y y2 h w : Nat} (u : UW f j now m y h w) (g : UG m m' y2) : UW f j now m' y h w := fun ho hs l hl q => ⟨fun e => g.2.2.2 _ _ ((u ho hs l hl q).1 e), fun e => g.2.2.2 _ _ ((u ho hs l hl q).2 e)⟩
theorem gStep_F {f : Nat → Nat → Int32} {j H W y h w : Nat} {now : Int64} {m : zm} (hD : RD f j H W) (hM : MD m f j H W) (hw : w < W) (hh : h < H) : UG m (gStep m j y h now w) y ∧ UW f j now (gStep m j y h now w) y h w ∧ ((∀ l, Bt now l = true → Rch f j W y h l) → FSnd f j W (uV m) 40 → FSnd f j W (uV (gStep m j y h now w)) 40) := by
  obtain ⟨d1, d2, d3, d4, d5, d6, d7, d8, d9, d10⟩ := hD.2.2 w hw
  have h5 := hD.2.1
  obtain ⟨e1, e2, e3⟩ := hM w hw
  obtain ⟨x1, x2, x3⟩ := e3 h hh
  by_cases c : rxO f j w ∧ (h = rxA f w ∨ h = rxB f w)
  · obtain ⟨ho, hx⟩ := c
    by_cases hA : h = rxA f w
    · obtain ⟨g1, g2, g3⟩ := gStep_to (y := y) (now := now) hD hM hw (show rxB f w < 5 by omega) (x1 ho hA) (fun l q => ((Rch.C f j W).2.2 w y l hw ho).1 (by rw [← hA]; exact q))
      exact ⟨g1, fun _ hs l hl q => ⟨fun _ => g2 hs l hl q, fun e => absurd (hA.symm.trans e) d7⟩, g3⟩
    · have hB := hx.resolve_left hA
      obtain ⟨g1, g2, g3⟩ := gStep_to (y := y) (now := now) hD hM hw (show rxA f w < 5 by omega) (x2 ho hB) (fun l q => ((Rch.C f j W).2.2 w y l hw ho).2 (by rw [← hB]; exact q))
      exact ⟨g1, fun _ hs l hl q => ⟨fun e => absurd e hA, fun _ => g2 hs l hl q⟩, g3⟩
  · have e : gStep m j y h now w = m := by
      unfold gStep
      rw [if_pos (Or.inl (x3 c))]
    rw [e]
    exact ⟨UG.refl m y, fun ho _ l hl q => ⟨fun z => absurd ⟨ho, Or.inl z⟩ c, fun z => absurd ⟨ho, Or.inr z⟩ c⟩, fun _ h => h⟩
theorem gWays_F {f : Nat → Nat → Int32} {j H W y h : Nat} {now : Int64} (hD : RD f j H W) (hh : h < H) : ∀ (n w : Nat) (m : zm), MD m f j H W → w + n ≤ W → UG m (gWays j y h now n w m) y ∧ (∀ w', w ≤ w' → w' < w + n → UW f j now (gWays j y h now n w m) y h w') ∧ ((∀ l, Bt now l = true → Rch f j W y h l) → FSnd f j W (uV m) 40 → FSnd f j W (uV (gWays j y h now n w m)) 40) := by
  intro n
  induction n with
  | zero => intro w m _ _; exact ⟨UG.refl m y, fun w' h1 h2 => absurd h2 (by omega), fun _ h => h⟩
  | succ n ih =>
    intro w m hM hw
    rw [gWays]
    obtain ⟨a1, a2, a3⟩ := gStep_F (y := y) (now := now) hD hM (show w < W by omega) hh
    obtain ⟨b1, b2, b3⟩ := ih (w + 1) _ (hM.c a1.1) (by omega)
    refine ⟨a1.trans b1, fun w' h1 h2 => ?_, fun q1 q2 => b3 q1 (a3 q1 q2)⟩
    by_cases q : w' = w
    · subst q
      exact a2.up b1
    · exact b2 w' (by omega) (by omega)
theorem gHar_F {f : Nat → Nat → Int32} {j H W y : Nat} (hD : RD f j H W) (hy : y < 40) : ∀ (n h : Nat) (m : zm), MD m f j H W → h + n ≤ H → UG m (gHar j y W n h m) y ∧ (∀ h', h ≤ h' → h' < h + n → (∀ l, Bt (uV m y h') l = true → Bt (uV (gHar j y W n h m) (y + 1) h') l = true) ∧ ∀ w, w < W → UW f j (uV m y h') (gHar j y W n h m) y h' w) ∧ (FSnd f j W (uV m) 40 → FSnd f j W (uV (gHar j y W n h m)) 40) := by
  intro n
  induction n with
  | zero => intro h m _ _; exact ⟨UG.refl m y, fun w' h1 h2 => absurd h2 (by omega), fun h => h⟩
  | succ n ih =>
    intro h m hM hh
    have h5 := hD.2.1
    rw [gHar]
    have eH : gHar1 m y h = upL m 188 (5 * (y + 1) + h) (uV m (y + 1) h ||| uV m y h) := rfl
    obtain ⟨a1, a2⟩ := UG_put (m := m) (y := y) (Y := y + 1) (z := h) (uV m y h) (by omega)
    rw [← eH] at a1 a2
    obtain ⟨b1, b2, b3⟩ := gWays_F (y := y) (now := uV m y h) hD (show h < H by omega) W 0 (gHar1 m y h) (hM.c a1.1) (by omega)
    obtain ⟨c1, c2, c3⟩ := ih (h + 1) (gWays j y h (uV m y h) W 0 (gHar1 m y h)) (hM.c (b1.1.trans a1.1)) (by omega)
    have lo : ∀ h', h' < 5 → uV (gWays j y h (uV m y h) W 0 (gHar1 m y h)) y h' = uV m y h' := fun h' q => by
      rw [uV, b1.2.1 _ (by omega), a1.2.1 _ (by omega)]
    refine ⟨(a1.trans b1).trans c1, fun h' q1 q2 => ?_, fun hS => ?_⟩
    · by_cases q : h' = h
      · subst q
        exact ⟨fun l z => c1.2.2.2 _ _ (b1.2.2.2 _ _ (a2 l z)), fun w hw => (b2 w (by omega) (by omega)).up c1⟩
      · have := c2 h' (by omega) (by omega)
        rw [lo h' (by omega)] at this
        exact this
    · have hn : ∀ l, Bt (uV m y h) l = true → Rch f j W y h l := fun l q => hS y (by omega) h (by omega) l q
      refine c3 (b3 hn ?_)
      rw [eH]
      exact US_put _ (by omega) (fun l q => (Rch.C f j W).2.1 _ _ _ (hn l q)) hS
/-- the years before Y have told what they must -/
def FPsh (f : Nat → Nat → Int32) (j H W : Nat) (V : Nat → Nat → Int64) (Y : Nat) : Prop := Bt (V 0 (f (25 + j) 2).toNatClampNeg) 0 = true ∧ (∀ y z l, y < Y → y + 1 ≤ 40 → z < H → Bt (V y z) l = true → Bt (V (y + 1) z) l = true) ∧ ∀ w y l, w < W → rxO f j w → y < Y → y + rxS f w ≤ 40 → l + rxG f j w < 64 → (Bt (V y (rxA f w)) l = true → Bt (V (y + rxS f w) (rxB f w)) (l + rxG f j w) = true) ∧ (Bt (V y (rxB f w)) l = true → Bt (V (y + rxS f w) (rxA f w)) (l + rxG f j w) = true)
theorem gYear_F {f : Nat → Nat → Int32} {j H W : Nat} (hD : RD f j H W) : ∀ (n y : Nat) (m : zm), y + n = 40 → MD m f j H W → FSnd f j W (uV m) 40 → FPsh f j H W (uV m) y → FSnd f j W (uV (gYear j H W n y m)) 40 ∧ FPsh f j H W (uV (gYear j H W n y m)) 40 ∧ ∀ c k, c ≠ 188 → (gYear j H W n y m).2 c k = m.2 c k := by
  intro n
  induction n with
  | zero =>
    intro y m hy _ h1 h2
    obtain rfl : y = 40 := by omega
    exact ⟨h1, h2, fun _ _ _ => rfl⟩
  | succ n ih =>
    intro y m hy hM hS hP
    have h5 := hD.2.1
    rw [gYear]
    obtain ⟨a1, a2, a3⟩ := gHar_F hD (show y < 40 by omega) H 0 m hM (by omega)
    have lo : ∀ y' z, y' ≤ y → z < 5 → uV (gHar j y W H 0 m) y' z = uV m y' z := fun y' z q hz => by rw [uV, a1.2.1 _ (by omega)]
    obtain ⟨b1, b2, b3⟩ := ih (y + 1) (gHar j y W H 0 m) (by omega) (hM.c a1.1) (a3 hS) (by
      refine ⟨a1.2.2.2 _ _ hP.1, fun y' z l q1 q2 q3 q => ?_, fun w y' l hw ho q1 q2 q3 => ?_⟩
      · rw [lo y' z (by omega) (by omega)] at q
        by_cases e : y' = y
        · subst e
          exact (a2 z (by omega) (by omega)).1 l q
        · exact a1.2.2.2 _ _ (hP.2.1 y' z l (by omega) q2 q3 q)
      · have hd := hD.2.2 w hw
        rw [lo y' _ (by omega) (by omega), lo y' _ (by omega) (by omega)]
        by_cases e : y' = y
        · subst e
          exact ⟨fun q => ((a2 _ (by omega) (by omega)).2 w hw ho q2 l q3 q).1 rfl, fun q => ((a2 _ (by omega) (by omega)).2 w hw ho q2 l q3 q).2 rfl⟩
        · have := hP.2.2 w y' l hw ho (by omega) q2 q3
          exact ⟨fun q => a1.2.2.2 _ _ (this.1 q), fun q => a1.2.2.2 _ _ (this.2 q)⟩)
    exact ⟨b1, b2, fun c k q => (b3 c k q).trans (a1.2.2.1 c k q)⟩
/-- what the model has laid -/
theorem mLay_F {f : Nat → Nat → Int32} {j H W at0 : Nat} {m : zm} (hD : RD f j H W) (hM : MD m f j H W) (ha : f (25 + j) 2 = nI at0) (ha5 : at0 < 5) : FSnd f j W (uV (mLay m j H W at0)) 40 ∧ FCls f j H W (uV (mLay m j H W at0)) 40 ∧ ∀ c k, c ≠ 188 → (mLay m j H W at0).2 c k = m.2 c k := by
  have ex2 : (f (25 + j) 2).toNatClampNeg = at0 := by rw [ha, nI_clamp (by omega)]
  have e0 : ∀ y z, y ≤ 40 → z < 5 → uV (upL (mZero m 205) 188 at0 1) y z = if y = 0 ∧ z = at0 then 1 else 0 := fun y z hy hz => by
    rw [uV, upL_v]
    by_cases c : y = 0 ∧ z = at0
    · rw [if_pos c, if_pos (by omega)]
    · rw [if_neg c, if_neg (by omega)]
      show (if 188 = 188 ∧ 5 * y + z < 205 then (0 : Int64) else m.2 188 (5 * y + z)) = 0
      rw [if_pos (by omega)]
  obtain ⟨b1, b2, b3⟩ := gYear_F hD 40 0 (upL (mZero m 205) 188 at0 1) (by omega) (MD.c (m := m) rfl hM) (fun y hy z hz l q => by
    rw [e0 y z hy hz] at q
    by_cases c : y = 0 ∧ z = at0
    · rw [if_pos c, Bt_1, decide_eq_true_eq] at q
      rw [c.1, c.2, q]
      have := (Rch.C f j W).1
      rw [ex2] at this
      exact this
    · rw [if_neg c, Bt_0] at q
      exact absurd q (by decide)) (by
    refine ⟨?_, fun y z l hy => absurd hy (by omega), fun w y l hw ho hy => absurd hy (by omega)⟩
    rw [ex2, e0 0 at0 (by omega) ha5, if_pos ⟨rfl, rfl⟩, Bt_1]
    rfl)
  refine ⟨b1, ⟨b2.1, fun y z l hy hz q => b2.2.1 y z l (by omega) hy hz q, fun w y l hw ho hy hl => b2.2.2 w y l hw ho (by have := hD.2.2 w hw; omega) hy hl⟩, fun c k q => ?_⟩
  rw [show (mLay m j H W at0).2 c k = (gYear j H W 40 0 (upL (mZero m 205) 188 at0 1)).2 c k from rfl, b3 c k q, upL_v, if_neg (by omega)]
  show (if c = 188 ∧ k < 205 then (0 : Int64) else m.2 c k) = _
  rw [if_neg (by omega)]
