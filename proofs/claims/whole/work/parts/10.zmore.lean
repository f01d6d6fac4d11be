/-! ===== Z rules: calls by what comes back; truth values ===== -/
theorem m_callV_r {M : zM} {d mc ms pc q : Nat} {ls : zL} {st : List Value} {m : zm} {k n : Nat} {X : zX} {M1 : zM} {np index ci a : Nat} {As rest : List Value} {v : Value} {h1 : zH} {T : u_T} {N : Nat} (hm : zMk M1 np) (hd : decode M.2.1 pc = .ok (.invokevirtual index, 3)) (hl : Cond.methodLink M.1.cls index M1.1 ∈ zts) (hi : Cond.instanceMethod M1.1 ∈ zts) (hse : Cond.selects M1.1.cls M1.1 M1.1 ∈ zts) (hc : vwCl[ci]? = some (M1.1.cls, T, N)) (ho : okO a ci) (ev : zEv d M1 0 0 (.ref a :: As) (lay m) (some v, h1)) (hnp : As.length = np) (hrest : (rest.map fun v => v.category).sum ≤ 8) (hst : As.reverse ++ .ref a :: rest = st) (hk : k ≤ mc) (hn : n ≤ ms) (hq : pc + 3 = q) (kk : ZW M (d + 1) mc ms q ls (v :: rest) h1 k n X) : ZW M (d + 1) mc ms pc ls st (lay m) k n X :=
  m_callV hm hd hl hi hse hc ho ev hnp hrest hst hk hn hq kk
theorem m_callS_r {M : zM} {d mc ms pc q : Nat} {ls : zL} {st : List Value} {h : zH} {k n : Nat} {X : zX} {M1 : zM} {np index : Nat} {As rest : List Value} {v : Value} {h1 : zH} (hm : zMk M1 np) (hd : decode M.2.1 pc = .ok (.invokestatic index, 3)) (hl : Cond.methodLink M.1.cls index M1.1 ∈ zts) (hi : Cond.static M1.1 ∈ zts) (ev : zEv d M1 0 0 As h (some v, h1)) (hnp : As.length = np) (hrest : (rest.map fun v => v.category).sum ≤ 8) (hst : As.reverse ++ rest = st) (hk : k ≤ mc) (hn : n ≤ ms) (hq : pc + 3 = q) (kk : ZW M (d + 1) mc ms q ls (v :: rest) h1 k n X) : ZW M (d + 1) mc ms pc ls st h k n X :=
  z_callS hm hd hl hi ev hnp hrest hst hk hn hq kk
theorem m_callSN_r {M : zM} {d mc ms pc q : Nat} {ls : zL} {st : List Value} {h : zH} {k n : Nat} {X : zX} {M1 : zM} {np index : Nat} {host : String} {As rest : List Value} {v : Value} {h1 : zH} (hm : zMk M1 np) (hd : decode M.2.1 pc = .ok (.invokestatic index, 3)) (hl : (M.1.cls, index, M1.1, host) ∈ zNest) (hi : Cond.static M1.1 ∈ zts) (ev : zEv d M1 0 0 As h (some v, h1)) (hnp : As.length = np) (hrest : (rest.map fun v => v.category).sum ≤ 8) (hst : As.reverse ++ rest = st) (hk : k ≤ mc) (hn : n ≤ ms) (hq : pc + 3 = q) (kk : ZW M (d + 1) mc ms q ls (v :: rest) h1 k n X) : ZW M (d + 1) mc ms pc ls st h k n X :=
  z_callSN hm hd hl hi ev hnp hrest hst hk hn hq kk
theorem m_callV_v {M : zM} {d mc ms pc q : Nat} {ls : zL} {st : List Value} {m : zm} {k n : Nat} {X : zX} {M1 : zM} {np index ci a : Nat} {As rest : List Value} {h1 : zH} {T : u_T} {N : Nat} (hm : zMk M1 np) (hd : decode M.2.1 pc = .ok (.invokevirtual index, 3)) (hl : Cond.methodLink M.1.cls index M1.1 ∈ zts) (hi : Cond.instanceMethod M1.1 ∈ zts) (hse : Cond.selects M1.1.cls M1.1 M1.1 ∈ zts) (hc : vwCl[ci]? = some (M1.1.cls, T, N)) (ho : okO a ci) (ev : zEv d M1 0 0 (.ref a :: As) (lay m) (none, h1)) (hnp : As.length = np) (hrest : (rest.map fun v => v.category).sum ≤ 8) (hst : As.reverse ++ .ref a :: rest = st) (hk : k ≤ mc) (hn : n ≤ ms) (hq : pc + 3 = q) (kk : ZW M (d + 1) mc ms q ls (rest) h1 k n X) : ZW M (d + 1) mc ms pc ls st (lay m) k n X :=
  m_callV hm hd hl hi hse hc ho ev hnp hrest hst hk hn hq kk
theorem m_callS_v {M : zM} {d mc ms pc q : Nat} {ls : zL} {st : List Value} {h : zH} {k n : Nat} {X : zX} {M1 : zM} {np index : Nat} {As rest : List Value} {h1 : zH} (hm : zMk M1 np) (hd : decode M.2.1 pc = .ok (.invokestatic index, 3)) (hl : Cond.methodLink M.1.cls index M1.1 ∈ zts) (hi : Cond.static M1.1 ∈ zts) (ev : zEv d M1 0 0 As h (none, h1)) (hnp : As.length = np) (hrest : (rest.map fun v => v.category).sum ≤ 8) (hst : As.reverse ++ rest = st) (hk : k ≤ mc) (hn : n ≤ ms) (hq : pc + 3 = q) (kk : ZW M (d + 1) mc ms q ls (rest) h1 k n X) : ZW M (d + 1) mc ms pc ls st h k n X :=
  z_callS hm hd hl hi ev hnp hrest hst hk hn hq kk
theorem m_callSN_v {M : zM} {d mc ms pc q : Nat} {ls : zL} {st : List Value} {h : zH} {k n : Nat} {X : zX} {M1 : zM} {np index : Nat} {host : String} {As rest : List Value} {h1 : zH} (hm : zMk M1 np) (hd : decode M.2.1 pc = .ok (.invokestatic index, 3)) (hl : (M.1.cls, index, M1.1, host) ∈ zNest) (hi : Cond.static M1.1 ∈ zts) (ev : zEv d M1 0 0 As h (none, h1)) (hnp : As.length = np) (hrest : (rest.map fun v => v.category).sum ≤ 8) (hst : As.reverse ++ rest = st) (hk : k ≤ mc) (hn : n ≤ ms) (hq : pc + 3 = q) (kk : ZW M (d + 1) mc ms q ls (rest) h1 k n X) : ZW M (d + 1) mc ms pc ls st h k n X :=
  z_callSN hm hd hl hi ev hnp hrest hst hk hn hq kk
theorem zb_ne {M : zM} {d mc ms pc q : Nat} {ls : zL} {st : List Value} {h : zH} {k n : Nat} {X : zX} {off : Int} {tgt : Nat} {B : Prop} [Decidable B] (hd : decode M.2.1 pc = .ok (.ifCond .ne off, 3)) (ht : (pc : Int) + off = (tgt : Int)) (hq : pc + 3 = q) (kt : B → ZW M d mc ms tgt ls st h k n X) (kf : ¬ B → ZW M d mc ms q ls st h k n X) : ZW M d mc ms pc ls (.int (if B then 1 else 0) :: st) h k n X := by
  refine z_if_ne hd ht hq (fun c => ?_) (fun c => ?_)
  · by_cases hB : B
    · exact kt hB
    · rw [if_neg hB] at c; exact absurd rfl c
  · by_cases hB : B
    · rw [if_pos hB] at c; exact absurd c (by decide)
    · exact kf hB
theorem zb_eq {M : zM} {d mc ms pc q : Nat} {ls : zL} {st : List Value} {h : zH} {k n : Nat} {X : zX} {off : Int} {tgt : Nat} {B : Prop} [Decidable B] (hd : decode M.2.1 pc = .ok (.ifCond .eq off, 3)) (ht : (pc : Int) + off = (tgt : Int)) (hq : pc + 3 = q) (kt : ¬ B → ZW M d mc ms tgt ls st h k n X) (kf : B → ZW M d mc ms q ls st h k n X) : ZW M d mc ms pc ls (.int (if B then 1 else 0) :: st) h k n X := by
  refine z_if_eq hd ht hq (fun c => ?_) (fun c => ?_)
  · by_cases hB : B
    · rw [if_pos hB] at c; exact absurd c (by decide)
    · exact kt hB
  · by_cases hB : B
    · exact kf hB
    · rw [if_neg hB] at c; exact absurd rfl c
theorem zb_nar {B : Prop} [Decidable B] : narrow .boolean (.int (if B then 1 else 0)) = .int (if B then 1 else 0) := by
  by_cases hB : B
  · rw [if_pos hB]; rfl
  · rw [if_neg hB]; rfl
def isPer (a : Nat) : Prop := a < 193 ∧ zsh a = zsPer
def isWay (a : Nat) : Prop := a < 193 ∧ zsh a = zsWay
/-- a league's object, its rows of ways and people, where their cells begin -/
def isLea (a bw bp : Nat) : Prop := a < 193 ∧ a + 2 < 193 ∧ zsh a = zsLea (a + 1) (a + 2) ∧ zsh (a + 1) = zsRef 4 8 bw ∧ zsh (a + 2) = zsRef 5 4 bp ∧ (∀ j, j < 8 → isWay (bw + j)) ∧ ∀ j, j < 4 → isPer (bp + j)
theorem isPer_kept {k : Nat} (h : k < 96) : isPer (48 + k) := by
  refine ⟨by omega, ?_⟩
  unfold zsh
  rw [if_neg (by omega), if_neg (by omega), if_pos (by omega)]
theorem way8 {b : Nat} (h : isWay b ∧ isWay (b + 1) ∧ isWay (b + 2) ∧ isWay (b + 3) ∧ isWay (b + 4) ∧ isWay (b + 5) ∧ isWay (b + 6) ∧ isWay (b + 7)) : ∀ j, j < 8 → isWay (b + j) := by
  intro j hj
  match j, hj with
  | 0, _ => exact h.1
  | 1, _ => exact h.2.1
  | 2, _ => exact h.2.2.1
  | 3, _ => exact h.2.2.2.1
  | 4, _ => exact h.2.2.2.2.1
  | 5, _ => exact h.2.2.2.2.2.1
  | 6, _ => exact h.2.2.2.2.2.2.1
  | 7, _ => exact h.2.2.2.2.2.2.2
theorem per4 {b : Nat} (h : isPer b ∧ isPer (b + 1) ∧ isPer (b + 2) ∧ isPer (b + 3)) : ∀ j, j < 4 → isPer (b + j) := by
  intro j hj
  match j, hj with
  | 0, _ => exact h.1
  | 1, _ => exact h.2.1
  | 2, _ => exact h.2.2.1
  | 3, _ => exact h.2.2.2
theorem isLea_14 : isLea 14 17 25 := ⟨by decide, by decide, rfl, rfl, rfl, way8 ⟨⟨by decide, rfl⟩, ⟨by decide, rfl⟩, ⟨by decide, rfl⟩, ⟨by decide, rfl⟩, ⟨by decide, rfl⟩, ⟨by decide, rfl⟩, ⟨by decide, rfl⟩, ⟨by decide, rfl⟩⟩, per4 ⟨⟨by decide, rfl⟩, ⟨by decide, rfl⟩, ⟨by decide, rfl⟩, ⟨by decide, rfl⟩⟩⟩
theorem isLea_29 : isLea 29 32 40 := ⟨by decide, by decide, rfl, rfl, rfl, way8 ⟨⟨by decide, rfl⟩, ⟨by decide, rfl⟩, ⟨by decide, rfl⟩, ⟨by decide, rfl⟩, ⟨by decide, rfl⟩, ⟨by decide, rfl⟩, ⟨by decide, rfl⟩, ⟨by decide, rfl⟩⟩, per4 ⟨⟨by decide, rfl⟩, ⟨by decide, rfl⟩, ⟨by decide, rfl⟩, ⟨by decide, rfl⟩⟩⟩
theorem isLea_150 : isLea 150 153 161 := ⟨by decide, by decide, rfl, rfl, rfl, way8 ⟨⟨by decide, rfl⟩, ⟨by decide, rfl⟩, ⟨by decide, rfl⟩, ⟨by decide, rfl⟩, ⟨by decide, rfl⟩, ⟨by decide, rfl⟩, ⟨by decide, rfl⟩, ⟨by decide, rfl⟩⟩, per4 ⟨⟨by decide, rfl⟩, ⟨by decide, rfl⟩, ⟨by decide, rfl⟩, ⟨by decide, rfl⟩⟩⟩
theorem isLea_165 : isLea 165 168 176 := ⟨by decide, by decide, rfl, rfl, rfl, way8 ⟨⟨by decide, rfl⟩, ⟨by decide, rfl⟩, ⟨by decide, rfl⟩, ⟨by decide, rfl⟩, ⟨by decide, rfl⟩, ⟨by decide, rfl⟩, ⟨by decide, rfl⟩, ⟨by decide, rfl⟩⟩, per4 ⟨⟨by decide, rfl⟩, ⟨by decide, rfl⟩, ⟨by decide, rfl⟩, ⟨by decide, rfl⟩⟩⟩
theorem lg_lt0 (x y : Int64) : (lg_cmp x y < 0) ↔ x < y := by
  unfold lg_cmp
  by_cases h1 : x > y
  · rw [if_pos h1]
    simp only [gt_iff_lt, Int64.lt_iff_toInt_lt] at h1 ⊢
    constructor
    · intro z; exact absurd z (by decide)
    · intro z; omega
  · rw [if_neg h1]
    by_cases h2 : x = y
    · rw [if_pos h2]
      subst h2
      constructor
      · intro z; exact absurd z (by decide)
      · intro z; exact absurd z h1
    · rw [if_neg h2]
      simp only [gt_iff_lt, Int64.lt_iff_toInt_lt, ← Int64.toInt_inj] at h1 h2 ⊢
      constructor
      · intro _; omega
      · intro _; decide
theorem lg_eq0 (x y : Int64) : (lg_cmp x y = 0) ↔ x = y := by
  unfold lg_cmp
  by_cases h1 : x > y
  · rw [if_pos h1]
    simp only [gt_iff_lt, Int64.lt_iff_toInt_lt, ← Int64.toInt_inj] at h1 ⊢
    constructor
    · intro z; exact absurd z (by decide)
    · intro z; omega
  · rw [if_neg h1]
    by_cases h2 : x = y
    · rw [if_pos h2]; simp [h2]
    · rw [if_neg h2]
      constructor
      · intro z; exact absurd z (by decide)
      · intro z; exact absurd z h2
theorem lg_gt0 (x y : Int64) : (0 < lg_cmp x y) ↔ y < x := by
  rw [← Int32.not_le]
  have h1 := lg_lt0 x y
  have h2 := lg_eq0 x y
  have h3 : lg_cmp x y ≤ 0 ↔ (lg_cmp x y < 0 ∨ lg_cmp x y = 0) := by
    rw [Int32.le_iff_toInt_le, Int32.lt_iff_toInt_lt, ← Int32.toInt_inj]; omega
  rw [h3, h1, h2]
  simp only [Int64.lt_iff_toInt_lt, ← Int64.toInt_inj]
  omega
theorem zi64 (x y : Int32) : (x.toInt64 = y.toInt64) ↔ x = y := by
  rw [← Int64.toInt_inj, ← Int32.toInt_inj, Int32.toInt_toInt64, Int32.toInt_toInt64]
theorem zi64_le (x y : Int32) : (x.toInt64 ≤ y.toInt64) ↔ x ≤ y := by
  rw [Int64.le_iff_toInt_le, Int32.le_iff_toInt_le, Int32.toInt_toInt64, Int32.toInt_toInt64]
theorem zi64_lt (x y : Int32) : (x.toInt64 < y.toInt64) ↔ x < y := by
  rw [Int64.lt_iff_toInt_lt, Int32.lt_iff_toInt_lt, Int32.toInt_toInt64, Int32.toInt_toInt64]
theorem zout {x v : Int32} {lo hi : Int} (h : x.toInt < lo ∨ hi < x.toInt) (hv : lo ≤ v.toInt ∧ v.toInt ≤ hi) : ¬ x = v := by
  rintro rfl
  omega
theorem z_table {M : zM} {d mc ms pc : Nat} {ls : zL} {st : List Value} {h : zH} {k n : Nat} {X : zX} {x : Int32} {dflt lo hi : Int} {offs : Array Int} {len dt : Nat} {tgts : List Nat} (hd : decode M.2.1 pc = .ok (.tableswitch dflt lo hi offs, len)) (hz : offs.toList = tgts.map (fun (t : Nat) => (t : Int) - (pc : Int))) (hdt : (pc : Int) + dflt = (dt : Int)) (hhi : hi + 1 = lo + (tgts.length : Int)) (kk : ∀ (j t : Nat), tgts[j]? = some t → x.toInt = lo + (j : Int) → ZW M d mc ms t ls st h k n X) (ko : x.toInt < lo ∨ hi < x.toInt → ZW M d mc ms dt ls st h k n X) : ZW M d mc ms pc ls (.int x :: st) h k n X := by
  intro l p e s m args below meth c Q G F E H locs arr hR hS hL
  by_cases hx : x.toInt < lo ∨ hi < x.toInt
  · exact lv_tableOut F.1 F.2.1 hd hx hdt (ko hx l p e s m args below meth c Q G F E H locs arr hR hS hL)
  · have h1 : ¬ x.toInt < lo := fun z => hx (Or.inl z)
    have h2 : ¬ hi < x.toInt := fun z => hx (Or.inr z)
    obtain ⟨j, hj⟩ : ∃ j : Nat, x.toInt = lo + (j : Int) := ⟨(x.toInt - lo).toNat, by omega⟩
    have hl : j < tgts.length := by omega
    have ht : tgts[j]? = some tgts[j] := List.getElem?_eq_getElem hl
    have ho : offs[(x.toInt - lo).toNat]? = some ((tgts[j] : Int) - (pc : Int)) := by
      rw [show (x.toInt - lo).toNat = j by omega, ← Array.getElem?_toList, hz, List.getElem?_map, ht]
      rfl
    exact lv_tableIn F.1 F.2.1 hd h1 h2 ho (by omega) (kk j _ ht hj l p e s m args below meth c Q G F E H locs arr hR hS hL)
theorem z_lmin {M : zM} {d mc ms pc q : Nat} {ls : zL} {st : List Value} {h : zH} {k n : Nat} {X : zX} {index : Nat} {x y : Int64} (hd : decode M.2.1 pc = .ok (.invokestatic index, 3)) (hl : Cond.methodLink M.1.cls index Lib.MathLoose.min_long.x ∈ zts) (hi : Cond.static Lib.MathLoose.min_long.x ∈ zts) (hin : Cond.initialized "java/lang/Math" ∈ zts) (hcd : Cond.code Lib.MathLoose.min_long.x Lib.MathLoose.min_long.code 4 (some .long) ∈ zts) (hrest : (st.map fun v => v.category).sum ≤ 8) (hk : k ≤ mc) (hn : n ≤ ms) (hq : pc + 3 = q) (kk : ZW M (d + 1) mc ms q ls (.long (if y < x then y else x) :: st) h k n X) : ZW M (d + 1) mc ms pc ls (.long y :: .long x :: st) h k n X := by
  subst hq
  intro l p e s m args below meth c Q G F E H locs arr hR hS hL
  have hts := F.2.2.2.2.2.1
  exact va_mmin_long F.1 F.2.1 (by rw [F.2.2.1]; exact hL.1.symm) F.2.2.2.2.1 (hts _ hl) (hts _ hi) (hts _ hin) (hts _ hcd) (by show 1 ≤ d + 1; omega) (by rw [zcatsum]; show _ + 15 ≤ 36 * (d + 1); omega) hk hn hd (kk l p e s m args below meth c Q G F E H locs arr hR hS hL)
theorem zl_eq {M : zM} {d mc ms pc q : Nat} {ls : zL} {st : List Value} {h : zH} {k n : Nat} {X : zX} {off : Int} {tgt : Nat} {x y : Int64} (hd : decode M.2.1 pc = .ok (.ifCond .eq off, 3)) (ht : (pc : Int) + off = (tgt : Int)) (hq : pc + 3 = q) (kt : x = y → ZW M d mc ms tgt ls st h k n X) (kf : ¬ x = y → ZW M d mc ms q ls st h k n X) : ZW M d mc ms pc ls (.int (lg_cmp x y) :: st) h k n X :=
  z_if_eq hd ht hq (fun c => kt ((lg_eq0 _ _).mp c)) (fun c => kf (fun z => c ((lg_eq0 _ _).mpr z)))
theorem zl_ne {M : zM} {d mc ms pc q : Nat} {ls : zL} {st : List Value} {h : zH} {k n : Nat} {X : zX} {off : Int} {tgt : Nat} {x y : Int64} (hd : decode M.2.1 pc = .ok (.ifCond .ne off, 3)) (ht : (pc : Int) + off = (tgt : Int)) (hq : pc + 3 = q) (kt : ¬ x = y → ZW M d mc ms tgt ls st h k n X) (kf : x = y → ZW M d mc ms q ls st h k n X) : ZW M d mc ms pc ls (.int (lg_cmp x y) :: st) h k n X :=
  z_if_ne hd ht hq (fun c => kt (fun z => c ((lg_eq0 _ _).mpr z))) (fun c => kf ((lg_eq0 _ _).mp c))
theorem zl_lt {M : zM} {d mc ms pc q : Nat} {ls : zL} {st : List Value} {h : zH} {k n : Nat} {X : zX} {off : Int} {tgt : Nat} {x y : Int64} (hd : decode M.2.1 pc = .ok (.ifCond .lt off, 3)) (ht : (pc : Int) + off = (tgt : Int)) (hq : pc + 3 = q) (kt : x < y → ZW M d mc ms tgt ls st h k n X) (kf : ¬ x < y → ZW M d mc ms q ls st h k n X) : ZW M d mc ms pc ls (.int (lg_cmp x y) :: st) h k n X :=
  z_if_lt hd ht hq (fun c => kt ((lg_lt0 _ _).mp c)) (fun c => kf (fun z => c ((lg_lt0 _ _).mpr z)))
theorem zl_ge {M : zM} {d mc ms pc q : Nat} {ls : zL} {st : List Value} {h : zH} {k n : Nat} {X : zX} {off : Int} {tgt : Nat} {x y : Int64} (hd : decode M.2.1 pc = .ok (.ifCond .ge off, 3)) (ht : (pc : Int) + off = (tgt : Int)) (hq : pc + 3 = q) (kt : ¬ x < y → ZW M d mc ms tgt ls st h k n X) (kf : x < y → ZW M d mc ms q ls st h k n X) : ZW M d mc ms pc ls (.int (lg_cmp x y) :: st) h k n X :=
  z_if_ge hd ht hq (fun c => kt (fun z => absurd ((lg_lt0 _ _).mpr z) (by rw [Int32.not_lt]; exact c))) (fun c => kf ((lg_lt0 _ _).mp (by rw [← Int32.not_le]; exact c)))
theorem zl_gt {M : zM} {d mc ms pc q : Nat} {ls : zL} {st : List Value} {h : zH} {k n : Nat} {X : zX} {off : Int} {tgt : Nat} {x y : Int64} (hd : decode M.2.1 pc = .ok (.ifCond .gt off, 3)) (ht : (pc : Int) + off = (tgt : Int)) (hq : pc + 3 = q) (kt : y < x → ZW M d mc ms tgt ls st h k n X) (kf : ¬ y < x → ZW M d mc ms q ls st h k n X) : ZW M d mc ms pc ls (.int (lg_cmp x y) :: st) h k n X :=
  z_if_gt hd ht hq (fun c => kt ((lg_gt0 _ _).mp c)) (fun c => kf (fun z => c ((lg_gt0 _ _).mpr z)))
theorem zl_le {M : zM} {d mc ms pc q : Nat} {ls : zL} {st : List Value} {h : zH} {k n : Nat} {X : zX} {off : Int} {tgt : Nat} {x y : Int64} (hd : decode M.2.1 pc = .ok (.ifCond .le off, 3)) (ht : (pc : Int) + off = (tgt : Int)) (hq : pc + 3 = q) (kt : ¬ y < x → ZW M d mc ms tgt ls st h k n X) (kf : y < x → ZW M d mc ms q ls st h k n X) : ZW M d mc ms pc ls (.int (lg_cmp x y) :: st) h k n X :=
  z_if_le hd ht hq (fun c => kt (fun z => absurd ((lg_gt0 _ _).mpr z) (by rw [Int32.not_lt]; exact c))) (fun c => kf ((lg_gt0 _ _).mp (by rw [← Int32.not_le]; exact c)))
theorem m_ialdJ {M : zM} {d mc ms pc q : Nat} {ls : zL} {st : List Value} {m : zm} {k n : Nat} {X : zX} {a N j : Nat} {i : Int32} (hd : decode M.2.1 pc = .ok (.iaload, 1)) (ho : okA a 0 N) (hj : i.toNatClampNeg = j) (hi : vp_in i N) (hq : pc + 1 = q) (kk : ZW M d mc ms q ls (.int (m.1 a j) :: st) (lay m) k n X) : ZW M d mc ms pc ls (.int i :: .ref a :: st) (lay m) k n X := by
  subst hj
  exact m_iald hd ho hi hq kk
theorem m_zaldJ {M : zM} {d mc ms pc q : Nat} {ls : zL} {st : List Value} {m : zm} {k n : Nat} {X : zX} {a N j : Nat} {i : Int32} (hd : decode M.2.1 pc = .ok (.baload, 1)) (ho : okA a 2 N) (hj : i.toNatClampNeg = j) (hi : vp_in i N) (hq : pc + 1 = q) (kk : ZW M d mc ms q ls (.int (m.1 a j) :: st) (lay m) k n X) : ZW M d mc ms pc ls (.int i :: .ref a :: st) (lay m) k n X := by
  subst hj
  exact m_zald hd ho hi hq kk
theorem m_laldJ {M : zM} {d mc ms pc q : Nat} {ls : zL} {st : List Value} {m : zm} {k n : Nat} {X : zX} {a N j : Nat} {i : Int32} (hd : decode M.2.1 pc = .ok (.laload, 1)) (ho : okA a 1 N) (hj : i.toNatClampNeg = j) (hi : vp_in i N) (hq : pc + 1 = q) (kk : ZW M d mc ms q ls (.long (m.2 a j) :: st) (lay m) k n X) : ZW M d mc ms pc ls (.int i :: .ref a :: st) (lay m) k n X := by
  subst hj
  exact m_lald hd ho hi hq kk
theorem m_iastJ {M : zM} {d mc ms pc q : Nat} {ls : zL} {st : List Value} {m : zm} {k n : Nat} {X : zX} {a N j : Nat} {i : Int32} {x : Int32} (hd : decode M.2.1 pc = .ok (.iastore, 1)) (ho : okA a 0 N) (hj : i.toNatClampNeg = j) (hi : vp_in i N) (hq : pc + 1 = q) (kk : ZW M d mc ms q ls st (lay (upI m a j x)) k n X) : ZW M d mc ms pc ls (.int x :: .int i :: .ref a :: st) (lay m) k n X := by
  subst hj
  exact m_iast hd ho hi hq kk
theorem m_zastJ {M : zM} {d mc ms pc q : Nat} {ls : zL} {st : List Value} {m : zm} {k n : Nat} {X : zX} {a N j : Nat} {i : Int32} {x : Int32} (hd : decode M.2.1 pc = .ok (.bastore, 1)) (ho : okA a 2 N) (hj : i.toNatClampNeg = j) (hi : vp_in i N) (hq : pc + 1 = q) (kk : ZW M d mc ms q ls st (lay (upI m a j (vp_nar .boolean x))) k n X) : ZW M d mc ms pc ls (.int x :: .int i :: .ref a :: st) (lay m) k n X := by
  subst hj
  exact m_zast hd ho hi hq kk
theorem m_lastJ {M : zM} {d mc ms pc q : Nat} {ls : zL} {st : List Value} {m : zm} {k n : Nat} {X : zX} {a N j : Nat} {i : Int32} {x : Int64} (hd : decode M.2.1 pc = .ok (.lastore, 1)) (ho : okA a 1 N) (hj : i.toNatClampNeg = j) (hi : vp_in i N) (hq : pc + 1 = q) (kk : ZW M d mc ms q ls st (lay (upL m a j x)) k n X) : ZW M d mc ms pc ls (.long x :: .int i :: .ref a :: st) (lay m) k n X := by
  subst hj
  exact m_last hd ho hi hq kk
theorem okA_row {r : Nat} (h : r < 8) : okA (2 + r) 0 40 := by
  refine ⟨by omega, zno, ?_⟩
  unfold zsh
  rw [if_pos (by omega), if_neg (by omega), if_neg (by omega)]
theorem okPn {a kd N b j : Nat} (ha : a < 193) (hs : zsh a = zsRef kd N b) (hj : j < N) (hN : N < 2 ^ 31) : okP a kd N (nI j).toNatClampNeg (b + j) := by
  rw [nI_clamp (by omega)]
  exact ⟨ha, _, hs, hj, if_pos hj⟩
theorem vp_c {i : Int32} {N : Nat} (h : (decide (i < 0) || decide (N ≤ i.toNatClampNeg)) = false) : vp_in i N := by
  rw [Bool.or_eq_false_iff] at h
  intro z
  rcases z with z | z
  · exact absurd z (by simpa using h.1)
  · exact absurd z (by simpa using h.2)
theorem zidx {x : Int32} {c : Nat} (hc : c < 2 ^ 30) (h : ¬ (x < 0 ∨ nI c - 1 < x)) : ∃ j : Nat, j < c ∧ x = nI j := by
  have h1 : ¬ x < 0 := fun z => h (Or.inl z)
  have h2 : ¬ nI c - 1 < x := fun z => h (Or.inr z)
  obtain ⟨j, hj, rfl⟩ := nI_of h1
  refine ⟨j, ?_, rfl⟩
  have e : (nI c - 1).toInt = (c : Int) - 1 := by
    have := pk_sub_toInt (a := c) (b := 1) (by omega) (by omega)
    exact this
  rw [Int32.lt_iff_toInt_lt, e, nI_toInt hj] at h2
  omega
theorem z_look2 {M : zM} {d mc ms pc : Nat} {ls : zL} {st : List Value} {h : zH} {k n : Nat} {X : zX} {x v1 v2 : Int32} {a1 a2 o1 o2 dflt : Int} {t1 t2 dt len : Nat} (hd : decode M.2.1 pc = .ok (.lookupswitch dflt #[(a1, o1), (a2, o2)], len)) (e1 : v1.toInt = a1) (e2 : v2.toInt = a2) (h12 : a1 < a2) (ht1 : (pc : Int) + o1 = (t1 : Int)) (ht2 : (pc : Int) + o2 = (t2 : Int)) (ht3 : (pc : Int) + dflt = (dt : Int)) (k1 : x = v1 → ZW M d mc ms t1 ls st h k n X) (k2 : x = v2 → ZW M d mc ms t2 ls st h k n X) (k3 : ¬ x = v1 → ¬ x = v2 → ZW M d mc ms dt ls st h k n X) : ZW M d mc ms pc ls (.int x :: st) h k n X := by
  intro l p e s m args below meth c Q G F E H locs arr hR hS hL
  have hp : ((#[(a1, o1), (a2, o2)] : Array (Int × Int)).toList.zip ((#[(a1, o1), (a2, o2)] : Array (Int × Int)).toList.drop 1)).all (fun (a, next) => a.1 < next.1) = true := by simp [h12]
  by_cases c1 : x = v1
  · exact lv_lookup F.1 F.2.1 hd hp (by show Op.lookupswitch.offset [(a1, o1), (a2, o2)] dflt x.toInt = o1; rw [Op.lookupswitch.offset_cons, if_pos (by rw [c1, e1])]) ht1 (k1 c1 l p e s m args below meth c Q G F E H locs arr hR hS hL)
  · by_cases c2 : x = v2
    · exact lv_lookup F.1 F.2.1 hd hp (by show Op.lookupswitch.offset [(a1, o1), (a2, o2)] dflt x.toInt = o2; rw [Op.lookupswitch.offset_cons, if_neg (fun z => by rw [c2, e2] at z; omega), Op.lookupswitch.offset_cons, if_pos (by rw [c2, e2])]) ht2 (k2 c2 l p e s m args below meth c Q G F E H locs arr hR hS hL)
    · exact lv_lookup F.1 F.2.1 hd hp (by show Op.lookupswitch.offset [(a1, o1), (a2, o2)] dflt x.toInt = dflt; rw [Op.lookupswitch.offset_cons, if_neg (fun z => c1 (Int32.toInt_inj.mp (by rw [← z, e1]))), Op.lookupswitch.offset_cons, if_neg (fun z => c2 (Int32.toInt_inj.mp (by rw [← z, e2]))), Op.lookupswitch.offset_nil]) ht3 (k3 c1 c2 l p e s m args below meth c Q G F E H locs arr hR hS hL)
theorem upL_1 (m : zm) (a k : Nat) (v : Int64) : (upL m a k v).1 = m.1 := rfl
theorem upI_2 (m : zm) (a k : Nat) (v : Int32) : (upI m a k v).2 = m.2 := rfl
def zci (s : zSh) : Nat := match s with
  | .inl (c, _) => c
  | .inr _ => 100
theorem isPer_ne {a b : Nat} (ha : isPer a) (hb : zci (zsh b) ≠ 4) : a ≠ b := fun e => hb (by rw [← e, ha.2]; rfl)
theorem isWay_ne {a b : Nat} (ha : isWay a) (hb : zci (zsh b) ≠ 6) : a ≠ b := fun e => hb (by rw [← e, ha.2]; rfl)
/-- a foretelling's object, its row of longs behind it -/
def isFor (a : Nat) : Prop := a < 193 ∧ a + 1 < 193 ∧ zsh a = .inl (2, [some (a + 1)]) ∧ zsh (a + 1) = .inr (1, 205, zno)
theorem isFor_144 : isFor 144 := ⟨by decide, by decide, rfl, rfl⟩
theorem isFor_146 : isFor 146 := ⟨by decide, by decide, rfl, rfl⟩
theorem znn (z : Int32) (hz : ¬ z < 0) : z.toInt = (z.toNatClampNeg : Int) := by
  have hz0 : (0 : Int) ≤ z.toInt := by
    have := Int32.not_lt.mp hz
    simpa using Int32.le_iff_toInt_le.mp this
  show z.toInt = ((z.toInt.toNat : Nat) : Int)
  omega
theorem z_copyi {M : zM} {d mc ms pc q : Nat} {ls : zL} {st : List Value} {h : zH} {k n : Nat} {X : zX} {index a0 a1 n0 n1 : Nat} {f g : Nat → Int32} {sp dp z : Int32} (hd : decode M.2.1 pc = .ok (.invokestatic index, 3)) (hl : Cond.methodLink M.1.cls index arraycopyName ∈ zts) (hnat : Cond.native arraycopyName ∈ zts) (hstat : Cond.static arraycopyName ∈ zts) (hini : Cond.initialized "java/lang/System" ∈ zts) (he0 : h[a0]? = some (.inl (0, n0, .inl f))) (he1 : h[a1]? = some (.inl (0, n1, .inl g))) (h1 : ¬ sp < 0) (h2 : ¬ dp < 0) (h3 : ¬ z < 0) (h4 : sp.toNatClampNeg + z.toNatClampNeg ≤ n0) (h5 : dp.toNatClampNeg + z.toNatClampNeg ≤ n1) (hrest : (st.map fun v => v.category).sum ≤ 8) (hq : pc + 3 = q) (kk : ZW M (d + 1) mc ms q ls st (h.set a1 (.inl (0, n1, .inl (va_cpy f g sp.toNatClampNeg dp.toNatClampNeg z.toNatClampNeg)))) k n X) : ZW M (d + 1) mc ms pc ls (.int z :: .int dp :: .ref a1 :: .int sp :: .ref a0 :: st) h k n X := by
  subst hq
  intro l p e s m args below meth c Q G F E H locs arr hR hS hL
  have hts := F.2.2.2.2.2.1
  have hK := F.2.2.2.2.2.2.1.1
  intro T hT X9
  have hc0 : H[zal G a0]? = some (vp_cell (G.2.2.1 0) (n0, .inl f)) := hR.1 a0 _ (zw_at he0)
  have hc1 : H[zal G a1]? = some (vp_cell (G.2.2.1 0) (n1, .inl g)) := hR.1 a1 _ (zw_at he1)
  obtain ⟨-, k0, hk0, cm0, hkk0⟩ := (hK.2 0 _ rfl).1 n0 (fun j => .int (f j))
  obtain ⟨-, k1, hk1, cm1, hkk1⟩ := (hK.2 0 _ rfl).1 n1 (fun j => .int (g j))
  have hroom : 2 * 0 + ((st.map (zv G)).map fun v => v.category).sum + (nativeFrameWords "java/lang/System" "arraycopy" 5 + 11) ≤ 36 * (d + 1) := by
    rw [zcatsum]
    have e9 : nativeFrameWords "java/lang/System" "arraycopy" 5 ≤ 17 := by decide +kernel
    omega
  obtain ⟨vm', X', step⟩ := X9.arraycopy F.1 F.2.2.2.2.1 (hts _ hl) (hts _ hnat) (hts _ hstat) (hts _ hini) (src := zal G a0) (dst := zal G a1) (cs := vp_cell (G.2.2.1 0) (n0, .inl f)) (cd := vp_cell (G.2.2.1 0) (n1, .inl g)) (srcPos := sp) (destPos := dp) (n := z) (by rw [hT]; exact hc0) (by rw [hT]; exact hc1)
    (fun _ h => by cases h) (fun _ h => by cases h) (fun h => by cases h) (fun h => by cases h) hk0 hk1 hkk0 hkk1 (by simp [refKind]) h1 h2 h3
    (by rw [znn sp h1, znn z h3]; show ¬ _ > ((arrV (G.2.2.1 0) n0 (fun j => .int (f j))).slots.size : Int); rw [arrV_size]; omega)
    (by rw [znn dp h2, znn z h3]; show ¬ _ > ((arrV (G.2.2.1 0) n1 (fun j => .int (g j))).slots.size : Int); rw [arrV_size]; omega)
    (fun vm₁ _ i hi => by
      have e : (vp_cell (G.2.2.1 0) (n0, .inl f)).slots.getD (sp.toNatClampNeg + i) .null = .int (f (sp.toNatClampNeg + i)) := by
        show (arrV (G.2.2.1 0) n0 (fun j => .int (f j))).slots.getD _ _ = _
        rw [Array.getD_eq_getD_getElem?, arrV_read _ _ (by omega)]
        rfl
      refine ⟨?_, ?_⟩
      · rw [e]
        rfl
      · rw [e]
        exact trivial)
    (g := F0 m pc arr (.int z :: .int dp :: .ref (zal G a1) :: .int sp :: .ref (zal G a0) :: st.map (zv G))) rfl (by rw [F.2.2.1]; exact hL.1) (rest := st.map (zv G)) rfl (by rw [F.2.1]; exact hd) (by show 1 ≤ d + 1; omega) hroom
  have e1 : copied (vp_cell (G.2.2.1 0) (n0, .inl f)) (vp_cell (G.2.2.1 0) (n1, .inl g)) sp dp z = vp_cell (G.2.2.1 0) (n1, .inl (va_cpy f g sp.toNatClampNeg dp.toNatClampNeg z.toNatClampNeg)) := va_copied (fun z => .int z) (G.2.2.1 0) (G.2.2.1 0) f g h4
  rw [e1] at X' step
  have hlt : zal G a1 < H.size := (Array.getElem?_eq_some_iff.mp hc1).1
  have hheap : ((T.setVm vm').setCell (zal G a1) (vp_cell (G.2.2.1 0) (n1, .inl (va_cpy f g sp.toNatClampNeg dp.toNatClampNeg z.toNatClampNeg)))).heap = H.setIfInBounds (zal G a1) (vp_cell (G.2.2.1 0) (n1, .inl (va_cpy f g sp.toNatClampNeg dp.toNatClampNeg z.toNatClampNeg))) := by rw [← hT]; rfl
  have oq : ∀ q : Nat, q ≠ zal G a1 → (H.setIfInBounds (zal G a1) (vp_cell (G.2.2.1 0) (n1, .inl (va_cpy f g sp.toNatClampNeg dp.toNatClampNeg z.toNatClampNeg))))[q]? = H[q]? := fun q hq => by simp [Array.getElem?_setIfInBounds, Ne.symm hq]
  obtain ⟨t, b0, b1⟩ := kk l p e s m args below meth c Q G F E _ _ arr (hR.set he1 (e := .inl (0, n1, .inl (va_cpy f g sp.toNatClampNeg dp.toNatClampNeg z.toNatClampNeg))) (show (H.setIfInBounds (zal G a1) _)[zal G a1]? = some _ by simp [Array.getElem?_setIfInBounds, hlt]) (by simp) oq) ⟨by simp; exact hS.1, fun q g1 g2 => by
      rw [oq q (fun e => g2 (by rw [e]; exact hR.lt he1))]
      exact hS.2.1 q g1 g2, fun q hq => by
      rcases List.mem_append.mp hq with h | h
      · exact hS.2.2 q h
      · obtain ⟨z, -, hz⟩ := List.mem_map.mp h
        rw [← hz]
        exact hR.lt he1⟩ hL _ hheap X'
  exact ⟨t, step t b0, b1⟩
def setA (m : zm) (a : Nat) (f : Nat → Int32) : zm := (fun b => if b = a then f else m.1 b, m.2)
theorem m_copyi {M : zM} {d mc ms pc q : Nat} {ls : zL} {st : List Value} {m : zm} {k n : Nat} {X : zX} {index a0 a1 n0 n1 : Nat} {sp dp z : Int32} (hd : decode M.2.1 pc = .ok (.invokestatic index, 3)) (hl : Cond.methodLink M.1.cls index arraycopyName ∈ zts) (hnat : Cond.native arraycopyName ∈ zts) (hstat : Cond.static arraycopyName ∈ zts) (hini : Cond.initialized "java/lang/System" ∈ zts) (ho0 : okA a0 0 n0) (ho1 : okA a1 0 n1) (h1 : ¬ sp < 0) (h2 : ¬ dp < 0) (h3 : ¬ z < 0) (h4 : sp.toNatClampNeg + z.toNatClampNeg ≤ n0) (h5 : dp.toNatClampNeg + z.toNatClampNeg ≤ n1) (hrest : (st.map fun v => v.category).sum ≤ 8) (hq : pc + 3 = q) (kk : ZW M (d + 1) mc ms q ls st (lay (setA m a1 (va_cpy (m.1 a0) (m.1 a1) sp.toNatClampNeg dp.toNatClampNeg z.toNatClampNeg))) k n X) : ZW M (d + 1) mc ms pc ls (.int z :: .int dp :: .ref a1 :: .int sp :: .ref a0 :: st) (lay m) k n X := by
  obtain ⟨g1, f1, g2⟩ := ho0
  obtain ⟨g3, f2, g4⟩ := ho1
  refine z_copyi hd hl hnat hstat hini (by rw [lay_at g1, zcell_a (Or.inl rfl) g2]) (by rw [lay_at g3, zcell_a (Or.inl rfl) g4]) h1 h2 h3 h4 h5 hrest hq ?_
  have e : va_cpy (m.1 a0) (m.1 a1) sp.toNatClampNeg dp.toNatClampNeg z.toNatClampNeg = (setA m a1 (va_cpy (m.1 a0) (m.1 a1) sp.toNatClampNeg dp.toNatClampNeg z.toNatClampNeg)).1 a1 := by simp [setA]
  rw [e, ← zcell_a (m := setA m a1 (va_cpy (m.1 a0) (m.1 a1) sp.toNatClampNeg dp.toNatClampNeg z.toNatClampNeg)) (Or.inl rfl) g4, lay_set (m := m) (m' := setA m a1 (va_cpy (m.1 a0) (m.1 a1) sp.toNatClampNeg dp.toNatClampNeg z.toNatClampNeg)) (fun b hb => by simp [setA, hb]) (fun b hb => rfl)]
  exact kk
def zle : zL → zL → Prop
  | [], _ => True
  | none :: a, _ :: b => zle a b
  | some v :: a, some w :: b => v = w ∧ zle a b
  | _ :: _, _ => False
theorem zle_0 {b : zL} : zle [] b := trivial
theorem zle_n {a b : zL} {x : Option Value} (h : zle a b) : zle (none :: a) (x :: b) := h
theorem zle_s {a b : zL} {v : Value} (h : zle a b) : zle (some v :: a) (some v :: b) := ⟨rfl, h⟩
theorem zle_at : ∀ {a b : zL}, zle a b → ∀ (i : Nat) (v : Value), a[i]? = some (some v) → b[i]? = some (some v)
  | [], _, _, i, v, e => by simp at e
  | none :: a, [], h, i, v, e => h.elim
  | some x :: a, [], h, i, v, e => h.elim
  | some x :: a, none :: b, h, i, v, e => h.elim
  | none :: a, y :: b, h, 0, v, e => by simp at e
  | none :: a, y :: b, h, i + 1, v, e => by
    have := zle_at (a := a) (b := b) h i v (by simpa using e)
    simpa using this
  | some x :: a, some y :: b, h, 0, v, e => by
    obtain ⟨rfl, -⟩ := h
    exact e
  | some x :: a, some y :: b, h, i + 1, v, e => by
    have := zle_at (a := a) (b := b) h.2 i v (by simpa using e)
    simpa using this
theorem z_loc {M : zM} {d mc ms pc : Nat} {ls : zL} {st : List Value} {h : zH} {k n : Nat} {X : zX} {ls' : zL} (hl : zle ls' ls) (kk : ZW M d mc ms pc ls' st h k n X) : ZW M d mc ms pc ls st h k n X := by
  intro l p e s m args below meth c Q G F E H locs arr hR hS hL
  refine kk l p e s m args below meth c Q G F E H locs arr hR hS (lv_mono hL ?_)
  rintro ⟨j, w⟩ hq
  obtain ⟨v, h1, rfl⟩ := zprs_in.mp hq
  exact zprs_in.mpr ⟨v, zle_at hl j v h1, rfl⟩
theorem z_gets1 {M : zM} {d mc ms pc q : Nat} {ls : zL} {st : List Value} {h : zH} {k n : Nat} {X : zX} {index : Nat} (hd : decode M.2.1 pc = .ok (.getstatic index, 3)) (hl : Cond.fieldLink M.1.cls index "java/lang/String" "COMPACT_STRINGS" "Z" ∈ zts) (hq : pc + 3 = q) (kk : ZW M d mc ms q ls (.int 1 :: st) h k n X) : ZW M d mc ms pc ls st h k n X := by
  subst hq
  intro l p e s m args below meth c Q G F E H locs arr hR hS hL
  exact va_gets F.1 F.2.1 F.2.2.2.2.2.2.2.1.2.2.1 hS F.2.2.2.2.1 (F.2.2.2.2.2.1 _ hl) (fun _ z => z) hd (kk l p e s m args below meth c Q G F E H locs arr hR hS hL)
theorem z_gets2 {M : zM} {d mc ms pc q : Nat} {ls : zL} {st : List Value} {h : zH} {k n : Nat} {X : zX} {index : Nat} (hd : decode M.2.1 pc = .ok (.getstatic index, 3)) (hl : Cond.fieldLink M.1.cls index "jdk/internal/util/Preconditions" "SIOOBE_FORMATTER" "Ljava/util/function/BiFunction;" ∈ zts) (hq : pc + 3 = q) (kn : ZW M d mc ms q ls (.null :: st) h k n X) (kr : ZW M d mc ms q ls (.ref 3000000 :: st) h k n X) : ZW M d mc ms pc ls st h k n X := by
  subst hq
  intro l p e s m args below meth c Q G F E H locs arr hR hS hL
  rcases F.2.2.2.2.2.2.2.1.2.2.2.1 with hz | hz
  · exact va_gets F.1 F.2.1 hz hS F.2.2.2.2.1 (F.2.2.2.2.2.1 _ hl) (fun _ z => z) hd (kn l p e s m args below meth c Q G F E H locs arr hR hS hL)
  · exact va_gets F.1 F.2.1 hz hS F.2.2.2.2.1 (F.2.2.2.2.2.1 _ hl) (fun _ z => z) hd (kr l p e s m args below meth c Q G F E H locs arr hR hS hL)
theorem z_strval {M : zM} {d mc ms pc q : Nat} {ls : zL} {st : List Value} {h : zH} {k n : Nat} {X : zX} {index i : Nat} (hi : i < 8) (hd : decode M.2.1 pc = .ok (.getfield index, 3)) (hl : Cond.fieldLink M.1.cls index "java/lang/String" "value" "[B" ∈ zts) (hq : pc + 3 = q) (kk : ZW M d mc ms q ls (.ref (1000100 + i) :: st) h k n X) : ZW M d mc ms pc ls (.ref (1000000 + i) :: st) h k n X := by
  subst hq
  intro l p e s m args below meth c Q G F E H locs arr hR hS hL
  exact va_getX (v := fun i => .ref (zal G (1000100 + i))) (ad := fun i => zal G (1000000 + i)) (i := i) F.1 F.2.1 (fun i hi => (F.2.2.2.2.2.2.2.1.1.1 i hi).2.2.1) hi hS F.2.2.2.2.1 (F.2.2.2.2.2.1 _ hl) (fun _ z => z) hd (kk l p e s m args below meth c Q G F E H locs arr hR hS hL)
theorem z_strcod {M : zM} {d mc ms pc q : Nat} {ls : zL} {st : List Value} {h : zH} {k n : Nat} {X : zX} {index i : Nat} (hi : i < 8) (hd : decode M.2.1 pc = .ok (.getfield index, 3)) (hl : Cond.fieldLink M.1.cls index "java/lang/String" "coder" "B" ∈ zts) (hq : pc + 3 = q) (kk : ZW M d mc ms q ls (.int 0 :: st) h k n X) : ZW M d mc ms pc ls (.ref (1000000 + i) :: st) h k n X := by
  subst hq
  intro l p e s m args below meth c Q G F E H locs arr hR hS hL
  exact va_getX (v := fun _ => .int 0) (ad := fun i => zal G (1000000 + i)) (i := i) F.1 F.2.1 (fun i hi => (F.2.2.2.2.2.2.2.1.1.1 i hi).2.1) hi hS F.2.2.2.2.1 (F.2.2.2.2.2.1 _ hl) (fun _ z => z) hd (kk l p e s m args below meth c Q G F E H locs arr hR hS hL)
theorem z_strlen {M : zM} {d mc ms pc q : Nat} {ls : zL} {st : List Value} {h : zH} {k n : Nat} {X : zX} {i : Nat} (hi : i < 8) (hd : decode M.2.1 pc = .ok (.arraylength, 1)) (hq : pc + 1 = q) (kk : ZW M d mc ms q ls (.int (nI (zLen.getD i 0)) :: st) h k n X) : ZW M d mc ms pc ls (.ref (1000100 + i) :: st) h k n X := by
  subst hq
  intro l p e s m args below meth c Q G F E H locs arr hR hS hL
  exact va_tlen F.1 F.2.1 (F.2.2.2.2.2.2.2.1.1.1 i hi).2.2.2 hS rfl hd (kk l p e s m args below meth c Q G F E H locs arr hR hS hL)
theorem z_strb {M : zM} {d mc ms pc q : Nat} {ls : zL} {st : List Value} {h : zH} {k n : Nat} {X : zX} {i : Nat} {x : Int32} (hi : i < 8) (hd : decode M.2.1 pc = .ok (.baload, 1)) (hx : vp_in x (zLen.getD i 0)) (hq : pc + 1 = q) (kk : ZW M d mc ms q ls (.int ((zByt.getD i []).getD x.toNatClampNeg 0) :: st) h k n X) : ZW M d mc ms pc ls (.int x :: .ref (1000100 + i) :: st) h k n X := by
  subst hq
  intro l p e s m args below meth c Q G F E H locs arr hR hS hL
  exact va_tb F.1 F.2.1 (F.2.2.2.2.2.2.2.1.1.1 i hi).2.2.2 hS hx rfl hd (kk l p e s m args below meth c Q G F E H locs arr hR hS hL)
theorem z_ldcS {M : zM} {d mc ms pc q : Nat} {ls : zL} {st : List Value} {h : zH} {k n : Nat} {X : zX} {index i : Nat} {tx : String} (hd : decode M.2.1 pc = .ok (.ldc index, 2)) (hw : (M.1.cls, index, tx, i) ∈ zStr) (hq : pc + 2 = q) (kk : ZW M d mc ms q ls (.ref (1000000 + i) :: st) h k n X) : ZW M d mc ms pc ls st h k n X := by
  subst hq
  intro l p e s m args below meth c Q G F E H locs arr hR hS hL
  exact va_ldcS F.1 F.2.1 F.2.2.2.2.1 (F.2.2.2.2.2.2.2.1.2.1 _ hw) hd (kk l p e s m args below meth c Q G F E H locs arr hR hS hL)
theorem z_callVs {M : zM} {d mc ms pc q : Nat} {ls : zL} {st : List Value} {h : zH} {k n : Nat} {X : zX} {M1 : zM} {np index i : Nat} {As rest : List Value} {v : Value} {h1 : zH} (hi8 : i < 8) (hm : zMk M1 np) (hcl : M1.1.cls = "java/lang/String") (hd : decode M.2.1 pc = .ok (.invokevirtual index, 3)) (hl : Cond.methodLink M.1.cls index M1.1 ∈ zts) (hi : Cond.instanceMethod M1.1 ∈ zts) (hse : Cond.selects M1.1.cls M1.1 M1.1 ∈ zts) (ev : zEv d M1 0 0 (.ref (1000000 + i) :: As) h (some v, h1)) (hnp : As.length = np) (hrest : (rest.map fun v => v.category).sum ≤ 8) (hst : As.reverse ++ .ref (1000000 + i) :: rest = st) (hk : k ≤ mc) (hn : n ≤ ms) (hq : pc + 3 = q) (kk : ZW M (d + 1) mc ms q ls (v :: rest) h1 k n X) : ZW M (d + 1) mc ms pc ls st h k n X := by
  subst hq
  subst hst
  intro l p e s m args below meth c Q G F E H locs arr hR hS hL
  have hts := F.2.2.2.2.2.1
  rw [zstk]
  obtain ⟨cell, g1, g2, g3, g4⟩ := (F.2.2.2.2.2.2.2.1.1.1 i hi8).1
  have hlt : zal G (1000000 + i) < s.heap.size := (Array.getElem?_eq_some_iff.mp g1).1
  refine z_back (X1 := (some v, h1)) (va_runV (As := As.map (zv G)) (rest := rest.map (zv G)) (b := zal G (1000000 + i)) (C := M1.1.cls) ⟨F.1, F.2.1, F.2.2.1, F.2.2.2.2.1, hts⟩ (ev l G) ⟨zcallB F hm hl, hts _ hi, hts _ hse⟩ ⟨zU_blind, ⟨cell, by rw [hS.2.1 _ hlt g4]; exact g1, g2, by rw [hcl]; exact g3⟩, fun U hU hW => ⟨rfl, zU_kept F.2.2.2.2.2.2.1 F.2.2.2.2.2.2.2.1 F.2.2.2.2.2.2.2.2.2.2 hR hS hU hW⟩⟩ rfl (by rw [List.length_map]; exact hnp) hL.1 rfl (lv_room (by rw [zcatsum]; exact hrest)) hd ⟨hk, hn⟩) hS fun H1 locs1 hR1 hS1 => ?_
  rw [zres]
  exact kk l p e s m args below meth c Q G F E H1 locs1 arr hR1 hS1 hL
