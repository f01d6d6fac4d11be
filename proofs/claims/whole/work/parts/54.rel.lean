/-! ===== THE PURE PART: the relation that the calls keep ===== -/
/-- a person's numbers in the model's order: harbour and age as told change places -/
def pm (k : Nat) : Nat := if k = 1 then 2 else if k = 2 then 1 else k
def WayOk (m : zm) (x H : Nat) : Prop := ∃ p q s w : Nat, p < H ∧ q < H ∧ p ≠ q ∧ 1 ≤ s ∧ s ≤ 20 ∧ w ≤ s ∧ m.1 x 0 = nI p ∧ m.1 x 1 = nI q ∧ m.1 x 2 = nI s ∧ m.1 x 3 = nI w
def PerOk (m : zm) (x H : Nat) : Prop := ∃ k t h c g n : Nat, (1 ≤ k ∧ k ≤ 5) ∧ t ≤ 99 ∧ h < H ∧ c ≤ 200 ∧ g ≤ t + c ∧ n ≤ 9999 ∧ m.1 x 0 = nI k ∧ m.1 x 1 = nI t ∧ m.1 x 2 = nI h ∧ m.1 x 3 = nI c ∧ m.1 x 4 = nI g ∧ m.1 x 5 = nI n
/-- the league at la, its ways from lw on, its people from lp on; the model's in the array a from o on -/
def LG (m : zm) (la lw lp a o H W P : Nat) : Prop :=
  (H ≤ 5 ∧ W ≤ 8 ∧ P ≤ 4) ∧ (m.1 la 0 = nI H ∧ m.1 la 2 = nI W ∧ m.1 la 3 = nI P ∧ ∃ r : Nat, r ≤ 20 ∧ m.1 la 1 = nI r) ∧ (∀ k, k < 4 → m.1 a (o + k) = m.1 la k) ∧ (∀ w, w < W → WayOk m (lw + w) H ∧ ∀ k, k < 4 → m.1 a (o + 4 + 4 * w + k) = m.1 (lw + w) k) ∧ ∀ p, p < P → PerOk m (lp + p) H ∧ ∀ k, k < 8 → m.1 a (o + 36 + 8 * p + k) = m.1 (lp + p) (pm k)
def rS (m : zm) : Prop := m.1 0 3 = m.1 180 1 ∧ m.1 0 5 = m.1 180 11
def rRow (m : zm) : Prop := ∀ r, r < 8 → (m.1 11 r = -1 ∧ m.1 181 r = -1) ∨ ∃ l n : Nat, l ≤ 2 ∧ n ≤ 40 ∧ m.1 11 r = nI n ∧ m.1 182 r = nI n ∧ m.1 10 r = nI l ∧ m.1 181 r = nI l ∧ ∀ i, i < 40 → m.1 (2 + r) i = m.1 183 (40 * r + i)
def rTape (m : zm) : Prop := ∃ t : Nat, t ≤ 400 ∧ m.1 12 1 = nI t ∧ m.1 180 10 = nI t ∧ ∀ k, k < t → m.1 13 k = m.1 187 k ∧ 0 ≤ m.1 187 k
def rImg (m : zm) : Prop := ∀ k, k < 2 → m.1 45 k = m.1 190 k ∧ (m.1 45 k = 0 ∨ m.1 45 k = 1 ∧ m.1 0 6 = 1 ∧ ∃ H W P : Nat, 0 < H ∧ LG m (150 + 15 * k) (153 + 15 * k) (161 + 15 * k) 191 (68 * k) H W P)
def rTr (m : zm) : Prop := ∃ g : Nat, g ≤ 16 ∧ m.1 148 1 = nI g ∧ m.1 180 24 = nI g ∧ ∀ i, i < g → m.1 149 i = m.1 192 i
def rCur (m : zm) (H W P : Nat) : Prop := LG m 14 17 25 184 0 H W P ∧ m.1 0 6 = (if 0 < H then 1 else 0)
def rAct (m : zm) (H P : Nat) : Prop := aOk m ∧ mAOk m ∧ aK m = mA m ∧ ∀ j, j < aK m → (∀ k, k < 36 → m.1 186 (68 * j + k) = m.1 184 k) ∧ ∀ p, p < P → PerOk m (48 + (aO m + j) % 24 * 4 + p) H ∧ ∀ k, k < 8 → m.1 186 (68 * j + 36 + 8 * p + k) = m.1 (48 + (aO m + j) % 24 * 4 + p) (pm k)
def Rel (m : zm) : Prop := rS m ∧ rRow m ∧ rTape m ∧ rImg m ∧ rTr m ∧ ∃ H W P : Nat, rCur m H W P ∧ rAct m H P
/-! what a part speaks of -/
theorem WayOk.c {m m' : zm} {x x' H : Nat} (e : ∀ k, m'.1 x' k = m.1 x k) (h : WayOk m x H) : WayOk m' x' H := by
  unfold WayOk at h ⊢
  simp only [e]
  exact h
theorem PerOk.c {m m' : zm} {x x' H : Nat} (e : ∀ k, m'.1 x' k = m.1 x k) (h : PerOk m x H) : PerOk m' x' H := by
  unfold PerOk at h ⊢
  simp only [e]
  exact h
theorem pm8 {k : Nat} (h : k < 8) : pm k < 8 := by
  unfold pm
  split
  · omega
  · split <;> omega
/-- another place that holds the same league -/
theorem LG.c {m m' : zm} {la lw lp a o la' lw' lp' a' o' H W P : Nat} (e1 : ∀ k, k < 4 → m'.1 la' k = m.1 la k) (e2 : ∀ w k, w < 8 → k < 4 → m'.1 (lw' + w) k = m.1 (lw + w) k) (e3 : ∀ p k, p < 4 → k < 8 → m'.1 (lp' + p) k = m.1 (lp + p) k) (e4 : ∀ k, k < 68 → m'.1 a' (o' + k) = m.1 a (o + k)) (h : LG m la lw lp a o H W P) : LG m' la' lw' lp' a' o' H W P := by
  obtain ⟨⟨h1, h2, h3⟩, ⟨h4, h5, h6, r, h7, h8⟩, h9, h10, h11⟩ := h
  refine ⟨⟨h1, h2, h3⟩, ⟨by rw [e1 0 (by omega), h4], by rw [e1 2 (by omega), h5], by rw [e1 3 (by omega), h6], r, h7, by rw [e1 1 (by omega), h8]⟩, fun k hk => by rw [e4 k (by omega), e1 k hk, h9 k hk], fun w hw => ?_, fun p hp => ?_⟩
  · obtain ⟨⟨x1, x2, x3, x4, y1, y2, y3, y4, y5, y6, z1, z2, z3, z4⟩, q⟩ := h10 w hw
    refine ⟨⟨x1, x2, x3, x4, y1, y2, y3, y4, y5, y6, by rw [e2 w 0 (by omega) (by omega), z1], by rw [e2 w 1 (by omega) (by omega), z2], by rw [e2 w 2 (by omega) (by omega), z3], by rw [e2 w 3 (by omega) (by omega), z4]⟩, fun k hk => ?_⟩
    have := e4 (4 + 4 * w + k) (by omega)
    rw [show o' + (4 + 4 * w + k) = o' + 4 + 4 * w + k by omega, show o + (4 + 4 * w + k) = o + 4 + 4 * w + k by omega] at this
    rw [this, q k hk, e2 w k (by omega) hk]
  · obtain ⟨⟨x1, x2, x3, x4, x5, x6, y1, y2, y3, y4, y5, y6, z0, z1, z2, z3, z4, z5⟩, q⟩ := h11 p hp
    refine ⟨⟨x1, x2, x3, x4, x5, x6, y1, y2, y3, y4, y5, y6, by rw [e3 p 0 (by omega) (by omega), z0], by rw [e3 p 1 (by omega) (by omega), z1], by rw [e3 p 2 (by omega) (by omega), z2], by rw [e3 p 3 (by omega) (by omega), z3], by rw [e3 p 4 (by omega) (by omega), z4], by rw [e3 p 5 (by omega) (by omega), z5]⟩, fun k hk => ?_⟩
    have := e4 (36 + 8 * p + k) (by omega)
    rw [show o' + (36 + 8 * p + k) = o' + 36 + 8 * p + k by omega, show o + (36 + 8 * p + k) = o + 36 + 8 * p + k by omega] at this
    rw [this, q k hk, e3 p (pm k) (by omega) (pm8 hk)]
theorem rRow.c {m m' : zm} (e : ∀ a k, (2 ≤ a ∧ a ≤ 11) ∨ (181 ≤ a ∧ a ≤ 183) → m'.1 a k = m.1 a k) (h : rRow m) : rRow m' := by
  intro r hr
  rw [e 11 r (by omega), e 181 r (by omega), e 182 r (by omega), e 10 r (by omega)]
  rcases h r hr with q | ⟨l, n, h1, h2, h3, h4, h5, h6, h7⟩
  · exact Or.inl q
  · exact Or.inr ⟨l, n, h1, h2, h3, h4, h5, h6, fun i hi => by rw [e (2 + r) i (by omega), e 183 (40 * r + i) (by omega), h7 i hi]⟩
theorem rTape.c {m m' : zm} (e1 : m'.1 12 1 = m.1 12 1) (e2 : m'.1 180 10 = m.1 180 10) (e3 : ∀ k, m'.1 13 k = m.1 13 k) (e4 : ∀ k, m'.1 187 k = m.1 187 k) (h : rTape m) : rTape m' := by
  obtain ⟨t, h1, h2, h3, h4⟩ := h
  exact ⟨t, h1, e1.trans h2, e2.trans h3, fun k hk => by rw [e3, e4]; exact h4 k hk⟩
theorem rImg.c {m m' : zm} (e : ∀ a k, a = 45 ∨ (150 ≤ a ∧ a < 180) ∨ a = 190 ∨ a = 191 → m'.1 a k = m.1 a k) (e6 : m'.1 0 6 = m.1 0 6) (h : rImg m) : rImg m' := by
  intro k hk
  rw [e 45 k (by omega), e 190 k (by omega)]
  obtain ⟨h1, h2⟩ := h k hk
  refine ⟨h1, h2.imp id (fun q => ⟨q.1, by rw [e6]; exact q.2.1, ?_⟩)⟩
  obtain ⟨H, W, P, h3, h4⟩ := q.2.2
  exact ⟨H, W, P, h3, h4.c (fun j hj => e _ j (by omega)) (fun w j hw hj => e _ j (by omega)) (fun p j hp hj => e _ j (by omega)) (fun j hj => e _ _ (by omega))⟩
theorem rTr.c {m m' : zm} (e : ∀ a k, a = 148 ∨ a = 149 ∨ a = 192 → m'.1 a k = m.1 a k) (e2 : m'.1 180 24 = m.1 180 24) (h : rTr m) : rTr m' := by
  obtain ⟨g, h1, h2, h3, h4⟩ := h
  exact ⟨g, h1, by rw [e 148 1 (by omega)]; exact h2, e2.trans h3, fun i hi => by rw [e 149 i (by omega), e 192 i (by omega)]; exact h4 i hi⟩
theorem rCur.c {m m' : zm} {H W P : Nat} (e : ∀ a k, (14 ≤ a ∧ a ≤ 28) ∨ a = 184 → m'.1 a k = m.1 a k) (e2 : m'.1 0 6 = m.1 0 6) (h : rCur m H W P) : rCur m' H W P :=
  ⟨h.1.c (fun j hj => e _ j (by omega)) (fun w j hw hj => e _ j (by omega)) (fun p j hp hj => e _ j (by omega)) (fun j hj => e _ _ (by omega)), e2.trans h.2⟩
theorem aO_c {m m' : zm} (e : m'.1 46 1 = m.1 46 1) : aO m' = aO m := by unfold aO; rw [e]
theorem aK_c {m m' : zm} (e : m'.1 46 2 = m.1 46 2) : aK m' = aK m := by unfold aK; rw [e]
theorem mA_c {m m' : zm} (e : m'.1 180 8 = m.1 180 8) : mA m' = mA m := by unfold mA; rw [e]
theorem rAct.c {m m' : zm} {H P : Nat} (hP : P ≤ 4) (e : ∀ a k, (46 ≤ a ∧ a ≤ 143) ∨ a = 186 → m'.1 a k = m.1 a k) (e4 : ∀ k, k < 36 → m'.1 184 k = m.1 184 k) (e8 : m'.1 180 8 = m.1 180 8) (h : rAct m H P) : rAct m' H P := by
  obtain ⟨h1, h2, h3, h4⟩ := h
  have f1 := aO_c (e 46 1 (by omega))
  have f2 := aK_c (e 46 2 (by omega))
  have f3 := mA_c e8
  refine ⟨?_, ?_, by rw [f2, f3]; exact h3, fun j hj => ?_⟩
  · unfold aOk
    rw [f1, f2, e 46 1 (by omega), e 46 2 (by omega)]
    exact h1
  · unfold mAOk
    rw [f3, e8]
    exact h2
  · rw [f2] at hj
    rw [f1]
    obtain ⟨q1, q2⟩ := h4 j hj
    refine ⟨fun k hk => by rw [e 186 _ (by omega), e4 k hk]; exact q1 k hk, fun p hp => ?_⟩
    obtain ⟨q3, q4⟩ := q2 p hp
    have hb : (aO m + j) % 24 * 4 ≤ 92 := by omega
    refine ⟨q3.c (fun k => e _ k (by omega)), fun k hk => ?_⟩
    rw [e 186 _ (by omega), e (48 + (aO m + j) % 24 * 4 + p) _ (by omega)]
    exact q4 k hk
/-- nothing else than the statuses (alike) and what was thrown -/
theorem Rel.k {m m' : zm} (h : Rel m) (e : ∀ a k, ¬ (a = 0 ∧ k = 3) → ¬ (a = 180 ∧ (k = 0 ∨ k = 1)) → m'.1 a k = m.1 a k) (es : m'.1 0 3 = m'.1 180 1) : Rel m' := by
  obtain ⟨h1, h2, h3, h4, h5, H, W, P, h6, h7⟩ := h
  refine ⟨⟨es, ?_⟩, h2.c (fun a k q => e a k (by omega) (by omega)), h3.c (e _ _ (by omega) (by omega)) (e _ _ (by omega) (by omega)) (fun k => e _ k (by omega) (by omega)) (fun k => e _ k (by omega) (by omega)), h4.c (fun a k q => e a k (by omega) (by omega)) (e _ _ (by omega) (by omega)), h5.c (fun a k q => e a k (by omega) (by omega)) (e _ _ (by omega) (by omega)), H, W, P, h6.c (fun a k q => e a k (by omega) (by omega)) (e _ _ (by omega) (by omega)), h7.c h6.1.1.2.2 (fun a k q => e a k (by omega) (by omega)) (fun k _ => e _ k (by omega) (by omega)) (e _ _ (by omega) (by omega))⟩
  rw [e 0 5 (by omega) (by omega), e 180 11 (by omega) (by omega)]
  exact h1.2
theorem Rel.t {m : zm} (h : Rel m) : Rel (mT m) := h.k (fun a k h1 h2 => upI_ne (by omega)) (by rw [upI_ne (by omega), upI_ne (by omega)]; exact h.1.1)
/-- the class has found z, the model too -/
theorem Rel.f {m : zm} (z : Int32) (h : Rel m) : Rel (mST (upI m 0 3 z) z) := h.k (fun a k h1 h2 => by unfold mST; rw [upI_ne (by omega), upI_ne (by omega), upI_ne (by omega), upI_ne (by omega)]) (by unfold mST; rw [upI_eq, upI_ne (by omega), upI_ne (by omega), upI_ne (by omega), upI_eq])
/-- both have found nothing -/
theorem Rel.n {m : zm} (h : Rel m) : Rel (mS0 (upI m 0 3 0)) := h.k (fun a k h1 h2 => by rw [upI_ne (by omega), upI_ne (by omega), upI_ne (by omega)]) (by rw [upI_eq, upI_ne (by omega), upI_ne (by omega), upI_eq])
theorem Rel_0 : Rel m0 := by
  refine ⟨⟨rfl, rfl⟩, fun r hr => Or.inl ?_, ⟨0, by omega, rfl, rfl, fun k hk => absurd hk (by omega)⟩, fun k hk => ⟨rfl, Or.inl rfl⟩, ⟨0, by omega, rfl, rfl, fun i hi => absurd hi (by omega)⟩, 0, 0, 0, ⟨⟨⟨by omega, by omega, by omega⟩, ⟨rfl, rfl, rfl, 0, by omega, rfl⟩, fun k _ => rfl, fun w hw => absurd hw (by omega), fun p hp => absurd hp (by omega)⟩, rfl⟩, ?_⟩
  · match r, hr with
    | 0, _ => exact ⟨rfl, rfl⟩
    | 1, _ => exact ⟨rfl, rfl⟩
    | 2, _ => exact ⟨rfl, rfl⟩
    | 3, _ => exact ⟨rfl, rfl⟩
    | 4, _ => exact ⟨rfl, rfl⟩
    | 5, _ => exact ⟨rfl, rfl⟩
    | 6, _ => exact ⟨rfl, rfl⟩
    | 7, _ => exact ⟨rfl, rfl⟩
    | r + 8, h => exact absurd h (by omega)
  · have e1 : aO m0 = 0 := by decide
    have e2 : aK m0 = 0 := by decide
    have e3 : mA m0 = 0 := by decide
    refine ⟨⟨by rw [e1]; rfl, by rw [e2]; rfl, by omega, by omega⟩, ⟨by rw [e3]; rfl, by omega⟩, by rw [e2, e3], fun j hj => absurd hj (by omega)⟩
/-- who is nobody, which is no way, no harbour: both sides say so of the same -/
theorem Rel.nob {m : zm} (h : Rel m) (p : Int32) : (p < 0 ∨ m.1 14 3 - 1 < p) ↔ (p < 0 ∨ m.1 184 3 - 1 < p) := by
  obtain ⟨-, -, -, -, -, H, W, P, ⟨h6, -⟩, -⟩ := h
  have := h6.2.2.1 3 (by omega)
  rw [show 0 + 3 = 3 from rfl] at this
  rw [this]
theorem Rel.now {m : zm} (h : Rel m) (p : Int32) : (p < 0 ∨ m.1 14 2 - 1 < p) ↔ (p < 0 ∨ m.1 184 2 - 1 < p) := by
  obtain ⟨-, -, -, -, -, H, W, P, ⟨h6, -⟩, -⟩ := h
  have := h6.2.2.1 2 (by omega)
  rw [show 0 + 2 = 2 from rfl] at this
  rw [this]
theorem Rel.noh {m : zm} (h : Rel m) (p : Int32) : (p < 0 ∨ m.1 14 0 - 1 < p) ↔ (p < 0 ∨ m.1 184 0 - 1 < p) := by
  obtain ⟨-, -, -, -, -, H, W, P, ⟨h6, -⟩, -⟩ := h
  have := h6.2.2.1 0 (by omega)
  rw [show 0 + 0 = 0 from rfl] at this
  rw [this]
theorem in_nI {n : Nat} (hn : n < 2 ^ 30) (p : Int32) (h : ¬ (p < 0 ∨ nI n - 1 < p)) : ∃ j : Nat, j < n ∧ p = nI j := zidx hn h
theorem nb_nI {n j : Nat} (hn : n < 2 ^ 30) (hj : j < n) : ¬ (nI j < 0 ∨ nI n - 1 < nI j) := by
  have e : (nI n - 1).toInt = (n : Int) - 1 := pk_sub_toInt (a := n) (b := 1) (by omega) (by omega)
  rintro (z | z)
  · exact nI_pos (by omega) z
  · rw [Int32.lt_iff_toInt_lt, e, nI_toInt (by omega)] at z
    omega
