/-! ===== pure: gains that can be reached ===== -/
def Bt (x : Int64) (l : Nat) : Bool := x.toBitVec.getLsbD l
theorem Bt_ext {x y : Int64} (h : ∀ l, l < 64 → Bt x l = Bt y l) : x = y := Int64.toBitVec_inj.mp (BitVec.eq_of_getLsbD_eq (fun i hi => h i hi))
theorem Bt_or (x y : Int64) (l : Nat) : Bt (x ||| y) l = (Bt x l || Bt y l) := by unfold Bt; rw [Int64.toBitVec_or, BitVec.getLsbD_or]
theorem Bt_and (x y : Int64) (l : Nat) : Bt (x &&& y) l = (Bt x l && Bt y l) := by unfold Bt; rw [Int64.toBitVec_and, BitVec.getLsbD_and]
theorem Bt_big {x : Int64} {l : Nat} (h : 64 ≤ l) : Bt x l = false := BitVec.getLsbD_of_ge _ _ h
theorem Bt_0 (l : Nat) : Bt 0 l = false := BitVec.getLsbD_zero
theorem Bt_1 (l : Nat) : Bt 1 l = decide (l = 0) := by
  rcases Nat.lt_or_ge l 64 with h | h
  · exact (by decide +kernel : ∀ l, l < 64 → Bt 1 l = decide (l = 0)) l h
  · rw [Bt_big h, decide_eq_false (by omega)]
theorem Bt_shl (x : Int64) {g l : Nat} (hg : g < 64) (hl : l < 64) : Bt (x <<< ((nI g).toInt64 &&& 63)) l = (decide (g ≤ l) && Bt x (l - g)) := by
  rw [wb_c g hg]
  unfold Bt
  rw [Int64.toBitVec_shiftLeft, wb_tb, wb_sm g hg, BitVec.shiftLeft_eq', BitVec.getLsbD_shiftLeft, BitVec.toNat_ofNat, Nat.mod_eq_of_lt (by omega), decide_eq_true hl, Bool.true_and]
  by_cases q : g ≤ l
  · rw [decide_eq_true q, decide_eq_false (by omega)]; rfl
  · rw [decide_eq_false q, decide_eq_true (by omega)]; rfl
theorem Bt_ushr (x : Int64) {k : Nat} (hk : k < 64) (l : Nat) : Bt (x.toUInt64 >>> ((nI k).toInt64.toUInt64 &&& Int64.toUInt64 63)).toInt64 l = Bt x (k + l) := by
  rw [wb_cu k hk]
  unfold Bt
  show (x.toUInt64 >>> UInt64.ofNat k).toBitVec.getLsbD l = _
  have h1 : (UInt64.ofNat k).toNat = k := by
    show (BitVec.ofNat 64 k).toNat = k
    rw [BitVec.toNat_ofNat, Nat.mod_eq_of_lt (by omega)]
  have h2 : (UInt64.ofNat k).toBitVec % 64 = BitVec.ofNat 64 k := by
    apply BitVec.eq_of_toNat_eq
    show (UInt64.ofNat k).toNat % 64 = _
    rw [h1, BitVec.toNat_ofNat, Nat.mod_eq_of_lt hk, Nat.mod_eq_of_lt (by omega)]
  rw [UInt64.toBitVec_shiftRight, h2, BitVec.ushiftRight_eq', BitVec.getLsbD_ushiftRight, BitVec.toNat_ofNat, Nat.mod_eq_of_lt (by omega)]
  rfl
theorem Bt_sshr (x : Int64) {k l : Nat} (hk : k < 64) (h : k + l < 64) : Bt (x >>> ((nI k).toInt64 &&& 63)) l = Bt x (k + l) := by
  rw [wb_c k hk]
  unfold Bt
  rw [Int64.toBitVec_shiftRight, wb_tb, wb_sm k hk, BitVec.sshiftRight_eq', BitVec.getLsbD_sshiftRight, BitVec.toNat_ofNat, Nat.mod_eq_of_lt (by omega), if_pos (by omega), decide_eq_false (by omega)]
  rfl
theorem one_iff {x y : Int64} (h : Bt x 0 = Bt y 0) : (x &&& 1 = 1) ↔ Bt y 0 = true := by
  have e : x &&& 1 = if Bt y 0 = true then 1 else 0 := Bt_ext fun l hl => by
    rw [Bt_and, Bt_1]
    by_cases q : l = 0
    · subst q
      rw [h]
      by_cases b : Bt y 0 = true
      · rw [if_pos b, b]; rfl
      · rw [if_neg b, Bool.eq_false_iff.mpr b]; rfl
    · rw [decide_eq_false q, Bool.and_false]
      split
      · rw [Bt_1, decide_eq_false q]
      · rw [Bt_0]
  rw [e]
  split
  · rename_i b; exact ⟨fun _ => b, fun _ => rfl⟩
  · rename_i b; exact ⟨fun q => absurd q (by decide), fun q => absurd q b⟩
theorem Bt_c (x : Int64) {l : Nat} (hl : l < 64) : ((x.toUInt64 >>> ((nI l).toInt64.toUInt64 &&& Int64.toUInt64 63)).toInt64 &&& 1 = 1) ↔ Bt x l = true := by
  have := one_iff (x := (x.toUInt64 >>> ((nI l).toInt64.toUInt64 &&& Int64.toUInt64 63)).toInt64) rfl
  rw [this, Bt_ushr x hl]
  exact Iff.rfl
theorem Bt_m (x : Int64) {l : Nat} (hl : l < 64) : gB x (nI l) ↔ Bt x l = true := by
  have := one_iff (x := x >>> ((nI l).toInt64 &&& 63)) rfl
  show (x >>> ((nI l).toInt64 &&& 63)) &&& 1 = 1 ↔ _
  rw [this, Bt_sshr x hl (by omega)]
  exact Iff.rfl
abbrev rxA (f : Nat → Nat → Int32) (w : Nat) : Nat := (f (17 + w) 0).toNatClampNeg
abbrev rxB (f : Nat → Nat → Int32) (w : Nat) : Nat := (f (17 + w) 1).toNatClampNeg
abbrev rxS (f : Nat → Nat → Int32) (w : Nat) : Nat := (f (17 + w) 2).toNatClampNeg
abbrev rxG (f : Nat → Nat → Int32) (j w : Nat) : Nat := (f (17 + w) 2 - cOwn (f, fun _ _ => 0) (25 + j) (17 + w)).toNatClampNeg
abbrev rxO (f : Nat → Nat → Int32) (j w : Nat) : Prop := ¬ f (25 + j) 0 = 5 ∨ f (17 + w) 2 ≤ 10
/-- after y years he can be at z with a gain of l -/
def RchC (f : Nat → Nat → Int32) (j W : Nat) (Q : Nat → Nat → Nat → Prop) : Prop := Q 0 (f (25 + j) 2).toNatClampNeg 0 ∧ (∀ y z l, Q y z l → Q (y + 1) z l) ∧ ∀ w y l, w < W → rxO f j w → (Q y (rxA f w) l → Q (y + rxS f w) (rxB f w) (l + rxG f j w)) ∧ (Q y (rxB f w) l → Q (y + rxS f w) (rxA f w) (l + rxG f j w))
def Rch (f : Nat → Nat → Int32) (j W y z l : Nat) : Prop := ∀ Q, RchC f j W Q → Q y z l
theorem Rch.C (f : Nat → Nat → Int32) (j W : Nat) : RchC f j W (Rch f j W) := ⟨fun _ h => h.1, fun _ _ _ q Q h => h.2.1 _ _ _ (q Q h), fun w _ _ hw ho => ⟨fun q Q h => (h.2.2 w _ _ hw ho).1 (q Q h), fun q Q h => (h.2.2 w _ _ hw ho).2 (q Q h)⟩⟩
def RD (f : Nat → Nat → Int32) (j H W : Nat) : Prop := (∃ x, x < H ∧ f (25 + j) 2 = nI x) ∧ H ≤ 5 ∧ ∀ w, w < W → f (17 + w) 0 = nI (rxA f w) ∧ f (17 + w) 1 = nI (rxB f w) ∧ f (17 + w) 2 = nI (rxS f w) ∧ f (17 + w) 2 - cOwn (f, fun _ _ => 0) (25 + j) (17 + w) = nI (rxG f j w) ∧ rxA f w < H ∧ rxB f w < H ∧ ¬ rxA f w = rxB f w ∧ 1 ≤ rxS f w ∧ rxS f w ≤ 20 ∧ rxG f j w ≤ rxS f w
theorem RD_of {m : zm} {H W P j : Nat} (hc : rCur m H W P) (hj : j < P) : RD m.1 j H W := by
  have hH := hc.1.1.1
  obtain ⟨k, t, hh, c, g, n, hk, -, h3, -, -, -, -, -, k2, -⟩ := (hc.1.2.2.2.2 j hj).1
  refine ⟨⟨hh, h3, k2⟩, hH, fun w hw => ?_⟩
  obtain ⟨p, q, s, y, hp, hq, hpq, s1, hs, hy, z0, z1, z2, z3⟩ := (hc.1.2.2.2.1 w hw).1
  obtain ⟨o, s', o1, o2, o3, o4, -⟩ := way_own hc hj hw
  have es : s' = s := (nI_eq (by omega) (by omega)).mp (o3.symm.trans z2)
  subst es
  have eA : rxA m.1 w = p := by unfold rxA; rw [z0, nI_clamp (by omega)]
  have eB : rxB m.1 w = q := by unfold rxB; rw [z1, nI_clamp (by omega)]
  have eS : rxS m.1 w = s' := by unfold rxS; rw [z2, nI_clamp (by omega)]
  have eO : cOwn (m.1, fun _ _ => 0) (25 + j) (17 + w) = nI o := o4
  have eG : m.1 (17 + w) 2 - cOwn (m.1, fun _ _ => 0) (25 + j) (17 + w) = nI (s' - o) := by rw [eO, z2, pk_sub o1]
  have eG2 : rxG m.1 j w = s' - o := by unfold rxG; rw [eG, nI_clamp (by omega)]
  rw [eA, eB, eS, eG2, eG]
  exact ⟨z0, z1, z2, rfl, hp, hq, hpq, s1, hs, by omega⟩
theorem Rch_b {f : Nat → Nat → Int32} {j H W : Nat} (hD : RD f j H W) {y z l : Nat} (h : Rch f j W y z l) : l ≤ y ∧ z < H := by
  refine h (fun y z l => l ≤ y ∧ z < H) ⟨?_, fun y z l q => ⟨by omega, q.2⟩, fun w y l hw _ => ?_⟩
  · obtain ⟨x, hx, e⟩ := hD.1
    have := hD.2.1
    rw [e, nI_clamp (by omega)]
    exact ⟨by omega, hx⟩
  · have := hD.2.2 w hw
    exact ⟨fun q => ⟨by omega, by omega⟩, fun q => ⟨by omega, by omega⟩⟩
def FSnd (f : Nat → Nat → Int32) (j W : Nat) (V : Nat → Nat → Int64) (Y : Nat) : Prop := ∀ y, y ≤ Y → ∀ z, z < 5 → ∀ l, Bt (V y z) l = true → Rch f j W y z l
def FCls (f : Nat → Nat → Int32) (j H W : Nat) (V : Nat → Nat → Int64) (Y : Nat) : Prop := Bt (V 0 (f (25 + j) 2).toNatClampNeg) 0 = true ∧ (∀ y z l, y + 1 ≤ Y → z < H → Bt (V y z) l = true → Bt (V (y + 1) z) l = true) ∧ ∀ w y l, w < W → rxO f j w → y + rxS f w ≤ Y → l + rxG f j w < 64 → (Bt (V y (rxA f w)) l = true → Bt (V (y + rxS f w) (rxB f w)) (l + rxG f j w) = true) ∧ (Bt (V y (rxB f w)) l = true → Bt (V (y + rxS f w) (rxA f w)) (l + rxG f j w) = true)
theorem F_in {f : Nat → Nat → Int32} {j H W Y : Nat} {V : Nat → Nat → Int64} (hD : RD f j H W) (hY : Y ≤ 40) (h : FCls f j H W V Y) {y z l : Nat} (hr : Rch f j W y z l) : y ≤ Y → Bt (V y z) l = true := by
  refine (hr (fun y z l => Rch f j W y z l ∧ (y ≤ Y → Bt (V y z) l = true)) ⟨⟨(Rch.C f j W).1, fun _ => h.1⟩, fun y z l q => ⟨(Rch.C f j W).2.1 _ _ _ q.1, fun hy => h.2.1 _ _ _ hy (Rch_b hD q.1).2 (q.2 (by omega))⟩, fun w y l hw ho => ⟨fun q => ⟨((Rch.C f j W).2.2 w _ _ hw ho).1 q.1, fun hy => ?_⟩, fun q => ⟨((Rch.C f j W).2.2 w _ _ hw ho).2 q.1, fun hy => ?_⟩⟩⟩).2
  · have := Rch_b hD q.1
    have := hD.2.2 w hw
    exact (h.2.2 w _ _ hw ho hy (by omega)).1 (q.2 (by omega))
  · have := Rch_b hD q.1
    have := hD.2.2 w hw
    exact (h.2.2 w _ _ hw ho hy (by omega)).2 (q.2 (by omega))
theorem F_iff {f : Nat → Nat → Int32} {j H W : Nat} {V : Nat → Nat → Int64} (hD : RD f j H W) (h1 : FSnd f j W V 40) (h2 : FCls f j H W V 40) {y z : Nat} (hy : y ≤ 40) (hz : z < 5) (l : Nat) : Bt (V y z) l = true ↔ Rch f j W y z l := ⟨h1 y hy z hz l, fun q => F_in hD (by omega) h2 q hy⟩
theorem F_one {f : Nat → Nat → Int32} {j H W : Nat} {V V' : Nat → Nat → Int64} (hD : RD f j H W) (h1 : FSnd f j W V 40) (h2 : FCls f j H W V 40) (h3 : FSnd f j W V' 40) (h4 : FCls f j H W V' 40) {y z : Nat} (hy : y ≤ 40) (hz : z < 5) : V y z = V' y z := Bt_ext fun l _ => by
  have := F_iff hD h1 h2 hy hz l
  have := F_iff hD h3 h4 hy hz l
  exact Bool.eq_iff_iff.mpr (by rw [‹Bt (V y z) l = true ↔ _›, ‹Bt (V' y z) l = true ↔ _›])
/-- no gain beyond 40 -/
theorem F_40 {f : Nat → Nat → Int32} {j H W : Nat} {V : Nat → Nat → Int64} (hD : RD f j H W) (h1 : FSnd f j W V 40) {y z l : Nat} (hy : y ≤ 40) (hz : z < 5) (h : Bt (V y z) l = true) : l ≤ 40 := by
  have := Rch_b hD (h1 y hy z hz l h)
  omega
