/-! ===== Z rules: calls by what comes back; truth values ===== -/
theorem m_callV_r {M : zM} {d mc ms pc q : Nat} {ls : zL} {st : List Value} {m : zm} {k n : Nat} {X : zX} {M1 : zM} {np index ci a : Nat} {As rest : List Value} {v : Value} {h1 : zH} {T : u_T} {N : Nat} (hm : zMk M1 np) (hd : decode M.2.1 pc = .ok (.invokevirtual index, 3)) (hl : Cond.methodLink M.1.cls index M1.1 ∈ zts) (hi : Cond.instanceMethod M1.1 ∈ zts) (hse : Cond.selects M1.1.cls M1.1 M1.1 ∈ zts) (hc : vwCl[ci]? = some (M1.1.cls, T, N)) (ho : okO a ci) (ev : zEv d M1 0 0 (.ref a :: As) (lay m) (some v, h1)) (hnp : As.length = np) (hrest : (rest.map fun v => v.category).sum ≤ 8) (hst : As.reverse ++ .ref a :: rest = st) (hk : k ≤ mc) (hn : n ≤ ms) (hq : pc + 3 = q) (kk : ZW M (d + 1) mc ms q ls (v :: rest) h1 k n X) : ZW M (d + 1) mc ms pc ls st (lay m) k n X :=
  m_callV hm hd hl hi hse hc ho ev hnp hrest hst hk hn hq kk
theorem m_callS_r {M : zM} {d mc ms pc q : Nat} {ls : zL} {st : List Value} {h : zH} {k n : Nat} {X : zX} {M1 : zM} {np index : Nat} {As rest : List Value} {v : Value} {h1 : zH} (hm : zMk M1 np) (hd : decode M.2.1 pc = .ok (.invokestatic index, 3)) (hl : Cond.methodLink M.1.cls index M1.1 ∈ zts) (hi : Cond.static M1.1 ∈ zts) (ev : zEv d M1 0 0 As h (some v, h1)) (hnp : As.length = np) (hrest : (rest.map fun v => v.category).sum ≤ 8) (hst : As.reverse ++ rest = st) (hk : k ≤ mc) (hn : n ≤ ms) (hq : pc + 3 = q) (kk : ZW M (d + 1) mc ms q ls (v :: rest) h1 k n X) : ZW M (d + 1) mc ms pc ls st h k n X :=
  z_callS hm hd hl hi ev hnp hrest hst hk hn hq kk
theorem m_callSN_r {M : zM} {d mc ms pc q : Nat} {ls : zL} {st : List Value} {h : zH} {k n : Nat} {X : zX} {M1 : zM} {np index : Nat} {host : String} {As rest : List Value} {v : Value} {h1 : zH} (hm : zMk M1 np) (hd : decode M.2.1 pc = .ok (.invokestatic index, 3)) (hl : (M.1.cls, index, M1.1, host) ∈ zNest) (hi : Cond.static M1.1 ∈ zts) (ev : zEv d M1 0 0 As h (some v, h1)) (hnp : As.length = np) (hrest : (rest.map fun v => v.category).sum ≤ 8) (hst : As.reverse ++ rest = st) (hk : k ≤ mc) (hn : n ≤ ms) (hq : pc + 3 = q) (kk : ZW M (d + 1) mc ms q ls (v :: rest) h1 k n X) : ZW M (d + 1) mc ms pc ls st h k n X :=
  z_callSN hm hd hl hi ev hnp hrest hst hk hn hq kk
theorem m_callV_v {M : zM} {d mc ms pc q : Nat} {ls : zL} {st : List Value} {m : zm} {k n : Nat} {X : zX} {M1 : zM} {np index ci a : Nat} {As rest : List Value} {h1 : zH} {T : u_T} {N : Nat} (hm : zMk M1 np) (hd : decode M.2.1 pc = .ok (.invokevirtual index, 3)) (hl : Cond.methodLink M.1.cls index M1.1 ∈ zts) (hi : Cond.instanceMethod M1.1 ∈ zts) (hse : Cond.selects M1.1.cls M1.1 M1.1 ∈ zts) (hc : vwCl[ci]? = some (M1.1.cls, T, N)) (ho : okO a ci) (ev : zEv d M1 0 0 (.ref a :: As) (lay m) (none, h1)) (hnp : As.length = np) (hrest : (rest.map fun v => v.category).sum ≤ 8) (hst : As.reverse ++ .ref a :: rest = st) (hk : k ≤ mc) (hn : n ≤ ms) (hq : pc + 3 = q) (kk : ZW M (d + 1) mc ms q ls (rest) h1 k n X) : ZW M (d + 1) mc ms pc ls st (lay m) k n X :=
  m_callV hm hd hl hi hse hc ho ev hnp hrest hst hk hn hq kk
theorem m_callS_v {M : zM} {d mc ms pc q : Nat} {ls : zL} {st : List Value} {h : zH} {k n : Nat} {X : zX} {M1 : zM} {np index : Nat} {As rest : List Value} {h1 : zH} (hm : zMk M1 np) (hd : decode M.2.1 pc = .ok (.invokestatic index, 3)) (hl : Cond.methodLink M.1.cls index M1.1 ∈ zts) (hi : Cond.static M1.1 ∈ zts) (ev : zEv d M1 0 0 As h (none, h1)) (hnp : As.length = np) (hrest : (rest.map fun v => v.category).sum ≤ 8) (hst : As.reverse ++ rest = st) (hk : k ≤ mc) (hn : n ≤ ms) (hq : pc + 3 = q) (kk : ZW M (d + 1) mc ms q ls (rest) h1 k n X) : ZW M (d + 1) mc ms pc ls st h k n X :=
  z_callS hm hd hl hi ev hnp hrest hst hk hn hq kk
theorem m_callSN_v {M : zM} {d mc ms pc q : Nat} {ls : zL} {st : List Value} {h : zH} {k n : Nat} {X : zX} {M1 : zM} {np index : Nat} {host : String} {As rest : List Value} {h1 : zH} (hm : zMk M1 np) (hd : decode M.2.1 pc = .ok (.invokestatic index, 3)) (hl : (M.1.cls, index, M1.1, host) ∈ zNest) (hi : Cond.static M1.1 ∈ zts) (ev : zEv d M1 0 0 As h (none, h1)) (hnp : As.length = np) (hrest : (rest.map fun v => v.category).sum ≤ 8) (hst : As.reverse ++ rest = st) (hk : k ≤ mc) (hn : n ≤ ms) (hq : pc + 3 = q) (kk : ZW M (d + 1) mc ms q ls (rest) h1 k n X) : ZW M (d + 1) mc ms pc ls st h k n X :=
  z_callSN hm hd hl hi ev hnp hrest hst hk hn hq kk
theorem zb_ne {M : zM} {d mc ms pc q : Nat} {ls : zL} {st : List Value} {h : zH} {k n : Nat} {X : zX} {off : Int} {tgt : Nat} {B : Prop} [Decidable B] (hd : decode M.2.1 pc = .ok (.ifCond .ne off, 3)) (ht : (pc : Int) + off = (tgt : Int)) (hq : pc + 3 = q) (kt : B → ZW M d mc ms tgt ls st h k n X) (kf : ¬ B → ZW M d mc ms q ls st h k n X) : ZW M d mc ms pc ls (.int (if B then 1 else 0) :: st) h k n X := by
  refine z_if_ne hd ht hq (fun c => ?_) (fun c => ?_)
  · by_cases hB : B
    · exact kt hB
    · rw [if_neg hB] at c; exact absurd rfl c
  · by_cases hB : B
    · rw [if_pos hB] at c; exact absurd c (by decide)
    · exact kf hB
theorem zb_eq {M : zM} {d mc ms pc q : Nat} {ls : zL} {st : List Value} {h : zH} {k n : Nat} {X : zX} {off : Int} {tgt : Nat} {B : Prop} [Decidable B] (hd : decode M.2.1 pc = .ok (.ifCond .eq off, 3)) (ht : (pc : Int) + off = (tgt : Int)) (hq : pc + 3 = q) (kt : ¬ B → ZW M d mc ms tgt ls st h k n X) (kf : B → ZW M d mc ms q ls st h k n X) : ZW M d mc ms pc ls (.int (if B then 1 else 0) :: st) h k n X := by
  refine z_if_eq hd ht hq (fun c => ?_) (fun c => ?_)
  · by_cases hB : B
    · rw [if_pos hB] at c; exact absurd c (by decide)
    · exact kt hB
  · by_cases hB : B
    · exact kf hB
    · rw [if_neg hB] at c; exact absurd rfl c
theorem zb_nar {B : Prop} [Decidable B] : narrow .boolean (.int (if B then 1 else 0)) = .int (if B then 1 else 0) := by
  by_cases hB : B
  · rw [if_pos hB]; rfl
  · rw [if_neg hB]; rfl
def isPer (a : Nat) : Prop := a < 193 ∧ zsh a = zsPer
def isWay (a : Nat) : Prop := a < 193 ∧ zsh a = zsWay
/-- a league's object, its rows of ways and people, where their cells begin -/
def isLea (a bw bp : Nat) : Prop := a < 193 ∧ a + 2 < 193 ∧ zsh a = zsLea (a + 1) (a + 2) ∧ zsh (a + 1) = zsRef 4 8 bw ∧ zsh (a + 2) = zsRef 5 4 bp ∧ (∀ j, j < 8 → isWay (bw + j)) ∧ ∀ j, j < 4 → isPer (bp + j)
theorem isPer_kept {k : Nat} (h : k < 96) : isPer (48 + k) := by
  refine ⟨by omega, ?_⟩
  unfold zsh
  rw [if_neg (by omega), if_neg (by omega), if_pos (by omega)]
theorem way8 {b : Nat} (h : isWay b ∧ isWay (b + 1) ∧ isWay (b + 2) ∧ isWay (b + 3) ∧ isWay (b + 4) ∧ isWay (b + 5) ∧ isWay (b + 6) ∧ isWay (b + 7)) : ∀ j, j < 8 → isWay (b + j) := by
  intro j hj
  match j, hj with
  | 0, _ => exact h.1
  | 1, _ => exact h.2.1
  | 2, _ => exact h.2.2.1
  | 3, _ => exact h.2.2.2.1
  | 4, _ => exact h.2.2.2.2.1
  | 5, _ => exact h.2.2.2.2.2.1
  | 6, _ => exact h.2.2.2.2.2.2.1
  | 7, _ => exact h.2.2.2.2.2.2.2
theorem per4 {b : Nat} (h : isPer b ∧ isPer (b + 1) ∧ isPer (b + 2) ∧ isPer (b + 3)) : ∀ j, j < 4 → isPer (b + j) := by
  intro j hj
  match j, hj with
  | 0, _ => exact h.1
  | 1, _ => exact h.2.1
  | 2, _ => exact h.2.2.1
  | 3, _ => exact h.2.2.2
theorem isLea_14 : isLea 14 17 25 := ⟨by decide, by decide, rfl, rfl, rfl, way8 ⟨⟨by decide, rfl⟩, ⟨by decide, rfl⟩, ⟨by decide, rfl⟩, ⟨by decide, rfl⟩, ⟨by decide, rfl⟩, ⟨by decide, rfl⟩, ⟨by decide, rfl⟩, ⟨by decide, rfl⟩⟩, per4 ⟨⟨by decide, rfl⟩, ⟨by decide, rfl⟩, ⟨by decide, rfl⟩, ⟨by decide, rfl⟩⟩⟩
theorem isLea_29 : isLea 29 32 40 := ⟨by decide, by decide, rfl, rfl, rfl, way8 ⟨⟨by decide, rfl⟩, ⟨by decide, rfl⟩, ⟨by decide, rfl⟩, ⟨by decide, rfl⟩, ⟨by decide, rfl⟩, ⟨by decide, rfl⟩, ⟨by decide, rfl⟩, ⟨by decide, rfl⟩⟩, per4 ⟨⟨by decide, rfl⟩, ⟨by decide, rfl⟩, ⟨by decide, rfl⟩, ⟨by decide, rfl⟩⟩⟩
theorem isLea_150 : isLea 150 153 161 := ⟨by decide, by decide, rfl, rfl, rfl, way8 ⟨⟨by decide, rfl⟩, ⟨by decide, rfl⟩, ⟨by decide, rfl⟩, ⟨by decide, rfl⟩, ⟨by decide, rfl⟩, ⟨by decide, rfl⟩, ⟨by decide, rfl⟩, ⟨by decide, rfl⟩⟩, per4 ⟨⟨by decide, rfl⟩, ⟨by decide, rfl⟩, ⟨by decide, rfl⟩, ⟨by decide, rfl⟩⟩⟩
theorem isLea_165 : isLea 165 168 176 := ⟨by decide, by decide, rfl, rfl, rfl, way8 ⟨⟨by decide, rfl⟩, ⟨by decide, rfl⟩, ⟨by decide, rfl⟩, ⟨by decide, rfl⟩, ⟨by decide, rfl⟩, ⟨by decide, rfl⟩, ⟨by decide, rfl⟩, ⟨by decide, rfl⟩⟩, per4 ⟨⟨by decide, rfl⟩, ⟨by decide, rfl⟩, ⟨by decide, rfl⟩, ⟨by decide, rfl⟩⟩⟩
