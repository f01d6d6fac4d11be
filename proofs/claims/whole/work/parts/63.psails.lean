/-! ===== pure: sails ===== -/
/-- alike in the class's part -/
def agC (m m' : zm) : Prop := ∀ a, 1 ≤ a → a < 180 → m'.1 a = m.1 a
/-- alike in the model's part -/
def agM (m m' : zm) : Prop := ∀ a, 180 ≤ a → m'.1 a = m.1 a
theorem agC.up {m m' : zm} (h : agC m m') (a k : Nat) {v v' : Int32} (e : v' = v) : agC (upI m a k v) (upI m' a k v') := by
  intro c h1 h2
  funext j
  show (if c = a ∧ j = k then v' else m'.1 c j) = (if c = a ∧ j = k then v else m.1 c j)
  rw [e, h c h1 h2]
theorem agM.up {m m' : zm} (h : agM m m') (a k : Nat) {v v' : Int32} (e : v' = v) : agM (upI m a k v) (upI m' a k v') := by
  intro c h1
  funext j
  show (if c = a ∧ j = k then v' else m'.1 c j) = (if c = a ∧ j = k then v else m.1 c j)
  rw [e, h c h1]
theorem agC.cpy {m m' : zm} (h : agC m m') (a b n : Nat) (hb : 1 ≤ b) (hb2 : b < 180) : agC (cCpy m a b n) (cCpy m' a b n) := by
  intro c h1 h2
  funext j
  rw [cCpy_v, cCpy_v, h c h1 h2, h b hb hb2]
theorem agC.pers {m m' : zm} (h : agC m m') (x y : Nat) (hb : 1 ≤ y) (hb2 : y + 3 < 180) : agC (cPers m x y) (cPers m' x y) := by
  unfold cPers
  exact (((h.cpy _ _ _ hb (by omega)).cpy _ _ _ (by omega) (by omega)).cpy _ _ _ (by omega) (by omega)).cpy _ _ _ (by omega) (by omega)
theorem agC.kp {m m' : zm} (h : agC m m') : agC (cKp m) (cKp m') := by
  have e := h 46 (by omega) (by omega)
  have eO : aO m' = aO m := by unfold aO; rw [e]
  have eK : aK m' = aK m := by unfold aK; rw [e]
  have e1 : ∀ {x x' : zm} (f : Nat), agC x x' → agC (cKeep1 x f) (cKeep1 x' f) := fun {x x'} f q => by
    have q2 := q.pers (48 + f) 25 (by omega) (by omega)
    unfold cKeep1
    exact q2.up _ _ (by rw [q2 46 (by omega) (by omega)])
  unfold cKp cKeep
  rw [eO, eK]
  by_cases q : aK m = 24
  · rw [if_pos q, if_pos q]
    exact e1 _ ((h.up _ _ rfl).up _ _ rfl)
  · rw [if_neg q, if_neg q]
    exact e1 _ h
theorem agC.sail {m m' : zm} (h : agC m m') (a w : Nat) (ha : 1 ≤ a ∧ a < 180) (hw : 1 ≤ w ∧ w < 180) : agC (cSailOn m a w) (cSailOn m' a w) := by
  unfold cSailOn
  have h1 : agC (upI m a 2 (cOther m w (m.1 a 2))) (upI m' a 2 (cOther m' w (m'.1 a 2))) := h.up _ _ (by unfold cOther; rw [h a ha.1 ha.2, h w hw.1 hw.2])
  have h2 := h1.up a 3 (v := (upI m a 2 (cOther m w (m.1 a 2))).1 a 3 + (upI m a 2 (cOther m w (m.1 a 2))).1 w 2) (v' := (upI m' a 2 (cOther m' w (m'.1 a 2))).1 a 3 + (upI m' a 2 (cOther m' w (m'.1 a 2))).1 w 2) (by rw [h1 a ha.1 ha.2, h1 w hw.1 hw.2])
  exact h2.up _ _ (by unfold cOwn; rw [h2 a ha.1 ha.2, h2 w hw.1 hw.2])
theorem agM.kp {m m' : zm} (h : agM m m') : agM (mKp m) (mKp m') := by
  have eA : mA m' = mA m := by unfold mA; rw [h 180 (by omega)]
  have e1 : ∀ {x x' : zm} (f : Nat), agM x x' → agM (mKeep1 x f) (mKeep1 x' f) := fun {x x'} f q => by
    unfold mKeep1
    refine agM.up ?_ _ _ rfl
    intro c h1
    funext j
    show (if c = 186 ∧ 68 * f ≤ j ∧ j < 68 * f + 68 then x'.1 184 (0 + (j - 68 * f)) else x'.1 c j) = (if c = 186 ∧ 68 * f ≤ j ∧ j < 68 * f + 68 then x.1 184 (0 + (j - 68 * f)) else x.1 c j)
    rw [q c h1, q 184 (by omega)]
  have e2 : ∀ {x x' : zm} (i : Nat), agM x x' → agM (mSh x i) (mSh x' i) := fun {x x'} i q => by
    intro c h1
    funext j
    show (if c = 186 ∧ j < i then x'.1 186 (j + 68) else x'.1 c j) = (if c = 186 ∧ j < i then x.1 186 (j + 68) else x.1 c j)
    rw [q c h1, q 186 (by omega)]
  unfold mKp mKeep
  rw [eA]
  by_cases q : mA m = 24
  · rw [if_pos q, if_pos q]
    exact e1 _ ((e2 _ h).up _ _ rfl)
  · rw [if_neg q, if_neg q]
    exact e1 _ h
theorem agM.sail {m m' : zm} (h : agM m m') (p w : Nat) : agM (mSail m p w) (mSail m' p w) := by
  have hk := h.kp
  have e1 := h 184 (by omega)
  have e2 := hk 184 (by omega)
  unfold mSail mAges
  have h1 := hk.up 184 (36 + 8 * p + 3) (v := (mKp m).1 184 (36 + 8 * p + 3) + mWy (mKp m) w 2) (v' := (mKp m').1 184 (36 + 8 * p + 3) + mWy (mKp m') w 2) (by unfold mWy; rw [e2])
  refine (h1.up _ _ ?_).up _ _ ?_
  · rw [h1 184 (by omega), mAgesBy_c (m := mKp m) (fun k => by rw [e2])]
  · rw [mEndOf_c (m := m) (fun k => by rw [e1]), show mOf m' p 1 = mOf m p 1 from congrFun e1 _]
/-- one way of them -/
theorem sails_step {C M G : zm} {H W P j w : Nat} (h : Rel G) (hc : rCur G H W P) (ha : rAct G H P) (hj : j < P) (hw : w < W) (h1 : agC C G) (h2 : agM M G) (h0 : G.1 180 0 = 0) :
    (cGo C j w ∧ C.1 (25 + j) 3 + C.1 (17 + w) 2 ≤ 200 ↔ ¬ mGoE M j w = -1000000 ∧ mOf M j 3 + mWy M w 2 ≤ 200) ∧ (cGo C j w ∧ C.1 (25 + j) 3 + C.1 (17 + w) 2 ≤ 200 → ∃ G', Rel G' ∧ agC (cOnce C j w) G' ∧ agM (mSail M j w) G' ∧ G'.1 180 0 = 0 ∧ (∀ a k, a < 25 → G'.1 a k = G.1 a k) ∧ ∀ k, G'.1 183 k = G.1 183 k) := by
  have hP4 := hc.1.1.2.2
  have hW8 := hc.1.1.2.1
  have eg : cGo G j w ↔ cGo C j w := by
    unfold cGo
    rw [h1 (17 + w) (by omega) (by omega), h1 (25 + j) (by omega) (by omega)]
  have ec : G.1 (25 + j) 3 + G.1 (17 + w) 2 = C.1 (25 + j) 3 + C.1 (17 + w) 2 := by
    rw [h1 (17 + w) (by omega) (by omega), h1 (25 + j) (by omega) (by omega)]
  have em : mGoE G j w = mGoE M j w := by
    show mEndOf _ _ _ _ = mEndOf _ _ _ _
    rw [mEndOf_c (m := M) (fun k => by rw [h2 184 (by omega)]), show mOf G j 1 = mOf M j 1 from congrFun (h2 184 (by omega)) _]
  have es : mOf M j 3 + mWy M w 2 = G.1 (25 + j) 3 + G.1 (17 + w) 2 := by
    rw [show mOf M j 3 = mOf G j 3 from (congrFun (h2 184 (by omega)) _).symm, show mWy M w 2 = mWy G w 2 from (congrFun (h2 184 (by omega)) _).symm, cur_per hc hj (by omega), show mWy G w 2 = G.1 (17 + w) 2 from cur_way hc hw (by omega)]
    rfl
  constructor
  · rw [← eg, ← ec, (go_iff hc hj hw).1, em, es]
  · rintro ⟨g1, g2⟩
    have f1 : ∀ a k, a < 25 ∨ 144 ≤ a → (cOnce G j w).1 a k = G.1 a k := fun a k q => cOnce_n (by omega) (by omega)
    refine ⟨mSail (mT (cOnce G j w)) j w, (sail_R h hc ha hj hw (eg.mpr g1) (by rw [ec]; exact g2) rfl rfl).1, ?_, ?_, ?_, ?_, ?_⟩
    · intro a q1 q2
      funext k
      rw [mSail_n (by omega), upI_ne (by omega)]
      exact congrFun ((h1.kp).sail (25 + j) (17 + w) (by omega) (by omega) a q1 q2) k
    · refine agM.sail ?_ j w
      intro a q1
      funext k
      by_cases q : a = 180 ∧ k = 0
      · rw [q.1, q.2, upI_eq, ← h2 180 (by omega), h0]
      · rw [upI_ne q, f1 a k (by omega), h2 a q1]
    · rw [mSail_n (by omega), upI_eq]
    · intro a k q
      rw [mSail_n (by omega), upI_ne (by omega), f1 a k (by omega)]
    · intro k
      rw [mSail_n (by omega), upI_ne (by omega), f1 183 k (by omega)]
theorem sails_sim {j r i z W P : Nat} (hj : j < P) (hP : P ≤ 4) (hW : W ≤ 8) (hr : r < 8) : ∀ (n k : Nat) (C M G : zm), k + n = z → Rel G → agC C G → agM M G → G.1 180 0 = 0 → G.1 14 2 = nI W → G.1 14 3 = nI P → (∀ q, q < z → ∃ w, w < W ∧ G.1 (2 + r) (i + q) = nI w ∧ G.1 183 (40 * r + i + q) = nI w) →
    (cSailL j r i n k C).1 = (mSailL j (40 * r + i) n k M).1 ∧ ∃ G', Rel G' ∧ agC (cSailL j r i n k C).2 G' ∧ agM (mSailL j (40 * r + i) n k M).2 G' ∧ ∀ k', G'.1 0 k' = G.1 0 k' := by
  intro n
  induction n with
  | zero => intro k C M G _ h h1 h2 _ _ _ _; exact ⟨rfl, G, h, h1, h2, fun _ => rfl⟩
  | succ n ih =>
    intro k C M G hk h h1 h2 h0 e2 e3 hit
    obtain ⟨w, hw, i1, i2⟩ := hit k (by omega)
    have c1 : (C.1 (2 + r) (i + k)).toNatClampNeg = w := by rw [← h1 (2 + r) (by omega) (by omega), i1, nI_clamp (by omega)]
    have c2 : (M.1 183 (40 * r + i + k)).toNatClampNeg = w := by rw [← h2 183 (by omega), i2, nI_clamp (by omega)]
    obtain ⟨-, -, -, -, -, H, W', P', hc, ha⟩ := id h
    have hW' := cur_W hc
    have hP' := cur_P hc
    obtain rfl : W' = W := (nI_eq (by omega) (by omega)).mp (hW'.1.symm.trans e2)
    obtain rfl : P' = P := (nI_eq (by omega) (by omega)).mp (hP'.1.symm.trans e3)
    obtain ⟨s1, s2⟩ := sails_step h hc ha hj hw h1 h2 h0
    rw [cSailL, mSailL, c1, c2]
    by_cases q : cGo C j w ∧ C.1 (25 + j) 3 + C.1 (17 + w) 2 ≤ 200
    · rw [if_pos q, if_pos (s1.mp q)]
      obtain ⟨G', r1, r2, r3, r4, r5, r6⟩ := s2 q
      obtain ⟨t1, G'', t2, t3, t4, t5⟩ := ih (k + 1) _ _ G' (by omega) r1 r2 r3 r4 (by rw [r5 14 2 (by omega), e2]) (by rw [r5 14 3 (by omega), e3]) (fun x hx => by
        obtain ⟨v, y1, y2, y3⟩ := hit x hx
        exact ⟨v, y1, by rw [r5 _ _ (by omega), y2], by rw [r6, y3]⟩)
      exact ⟨t1, G'', t2, t3, t4, fun k' => by rw [t5, r5 0 k' (by omega)]⟩
    · rw [if_neg q, if_neg (fun q2 => q (s1.mpr q2))]
      exact ⟨rfl, G, h, h1, h2, fun _ => rfl⟩
theorem cSailL_k {p r i : Nat} (hp : p < 4) : ∀ (n j : Nat) (m : zm) (a k : Nat), a < 25 ∨ 144 ≤ a → (cSailL p r i n j m).2.1 a k = m.1 a k := by
  intro n
  induction n with
  | zero => intro j m a k _; rfl
  | succ n ih =>
    intro j m a k h
    rw [cSailL]
    split
    · rw [ih _ _ _ _ h, cOnce_n hp (by omega)]
    · rfl
theorem mSailL_k {p b : Nat} : ∀ (n j : Nat) (m : zm) (a k : Nat), a < 180 ∨ a = 180 ∧ k < 8 → (mSailL p b n j m).2.1 a k = m.1 a k := by
  intro n
  induction n with
  | zero => intro j m a k _; rfl
  | succ n ih =>
    intro j m a k h
    rw [mSailL]
    split
    · rw [ih _ _ _ _ h, mSail_n (by omega)]
    · rfl
theorem st_sails : ∀ m : zm, Rel m → ∀ a0 a1 a2 a3 : Int32, LawStp Rel zM_X7_sails zM_X8_sails m [.int a0, .int a1, .int a2, .int a3] := by
  intro m h p r i z
  by_cases hb : (r < 0 ∨ 7 < r) ∨ (z < 1 ∨ 24 < z) ∨ (p < 0 ∨ m.1 14 3 - 1 < p)
  · refine stp_mk (ev_X7_sails_bad 7 m p r i z hb) (ev_X8_sails_bad 8 m p r i z ?_) rfl h.t
    rcases hb with q | q | q
    · exact Or.inr (Or.inl q)
    · exact Or.inr (Or.inr q)
    · exact Or.inl ((h.nob p).mp q)
  · have hn : ¬ (p < 0 ∨ m.1 14 3 - 1 < p) := fun q => hb (Or.inr (Or.inr q))
    have hz : ¬ (z < 1 ∨ 24 < z) := fun q => hb (Or.inr (Or.inl q))
    have hn8 : ¬ (p < 0 ∨ m.1 184 3 - 1 < p) := fun q => hn ((h.nob _).mpr q)
    obtain ⟨x, hx, rfl⟩ := row_in (fun q => hb (Or.inl q))
    obtain ⟨-, hRow, -, -, -, H, W, P, hc, ha⟩ := id h
    obtain ⟨j, hj, hj4, rfl⟩ := cur_some hc hn
    have hW := cur_W hc
    have hP := cur_P hc
    rcases row_m hRow hx with ⟨q1, q2⟩ | ⟨l, n, q1, q2, q3, q4, q5, q6, q7, q8, q9⟩
    · exact stp_mk (ev_X7_sails_null 7 m (nI j) x i z hz hn q1 hx) (ev_X8_sails_null 8 (upI m 0 3 1) (nI j) x i z hz (by rw [upI_ne (by omega)]; exact hn8) (by rw [upI_ne (by omega)]; exact q2) hx) rfl (h.k (fun a k z1 z2 => by rw [upI_ne (by omega), upI_ne (by omega), upI_ne (by omega)]) (by rw [upI_ne (by omega), upI_ne (by omega), upI_eq, upI_eq]))
    · by_cases hp : i < 0 ∨ z < 0 ∨ (m.1 11 x).toInt64 < i.toInt64 + z.toInt64
      · refine stp_mk (ev_X7_sails_place 7 m (nI j) x i z hz hn q7 hp hx) (ev_X8_sails_place 8 (upI m 0 3 2) (nI j) x i z hz (by rw [upI_ne (by omega)]; exact hn8) (by rw [upI_ne (by omega)]; exact q8) ?_ hx) rfl (h.k (fun a k z1 z2 => by rw [upI_ne (by omega), upI_ne (by omega), upI_ne (by omega)]) (by rw [upI_ne (by omega), upI_ne (by omega), upI_eq, upI_eq]))
        rw [upI_ne (by omega), q4, ← q3]
        rcases hp with q | q | q
        · exact Or.inl q
        · exact absurd (Or.inl (Int32.lt_of_lt_of_le q (by decide))) hz
        · exact Or.inr q
      · obtain ⟨y, w, rfl, rfl, hyw⟩ := bey_2 m x i z q2 q3 hp
        have hw1 : 1 ≤ w := Nat.le_of_not_lt (fun q => hz (Or.inl (nI_lt (b := 1) q (by omega))))
        have hw24 : w < 25 := Nat.lt_of_not_le (fun q => hz (Or.inr (nI_lt (a := 24) (by omega) (by omega))))
        have hp8 : ¬ (nI y < 0 ∨ (nI n).toInt64 < (nI y).toInt64 + (nI w).toInt64) := fun q => hp (by
          rw [q3]
          exact q.imp id Or.inr)
        have hit : ∀ k, k < w → m.1 (2 + x) (y + k) = m.1 183 (40 * x + y + k) := fun k hk => by rw [q9 _ (by omega), Nat.add_assoc]
        by_cases hbad : ∃ k, 0 ≤ k ∧ k < w ∧ (m.1 (2 + x) (y + k) < 0 ∨ m.1 14 2 - 1 < m.1 (2 + x) (y + k))
        · refine stp_mk (ev_X7_sails_item 7 m j x y w hw1 hn q7 hp (by omega) hbad hj4 hx (by omega) hw24) (ev_X8_sails_item 8 m j x y w hw1 hn8 q8 (by rw [q4]; exact hp8) (by omega) ?_ hj4 hx (by omega) hw24) rfl h.t
          obtain ⟨k, k0, k1, k2⟩ := hbad
          refine ⟨k, k0, k1, ?_⟩
          rw [← hit k k1]
          exact (h.now _).mp k2
        · have hall : ∀ k, k < w → ∃ v, v < W ∧ m.1 (2 + x) (y + k) = nI v := fun k hk => by
            obtain ⟨v, hv, -, ev⟩ := cur_wayn hc (p := m.1 (2 + x) (y + k)) (fun q => hbad ⟨k, by omega, hk, q⟩)
            exact ⟨v, hv, ev⟩
          have h7 := ev_X7_sails 7 m W j x y w hw1 hn q7 hp (by omega) hW.1 hW.2 ha.1 hall hj4 hx (by omega) hw24
          have kC := cSailL_k (r := x) (i := y) hj4 w 0 m
          generalize eC : (cSailL j x y w 0 m).2 = C at h7 kC
          have kC1 : ∀ a k, 144 ≤ a → (upI C 0 3 0).1 a k = m.1 a k := fun a k q => by rw [upI_ne (by omega), kC a k (by omega)]
          have h8 := ev_X8_sails 8 (upI C 0 3 0) W j x y w hw1 (by rw [kC1 _ _ (by omega)]; exact hn8) (by rw [kC1 _ _ (by omega)]; exact q8) (by rw [kC1 _ _ (by omega), q4]; exact hp8) (by omega) (by rw [kC1 _ _ (by omega), cur_hd hc (by omega)]; exact hW.1) hW.2 (mAOk_t (m := m) (by rw [upI_ne (by omega), upI_ne (by omega), kC1 _ _ (by omega)]) ha.2.1) (fun k hk => by
            obtain ⟨v, hv, ev⟩ := hall k hk
            exact ⟨v, hv, by rw [kC1 _ _ (by omega), ← hit k hk, ev]⟩) (fun v hv => by
            obtain ⟨p, q, s, t, hp', hq', -, -, -, -, z0, z1, -⟩ := (hc.1.2.2.2.1 v hv).1
            have hH := (cur_H hc).2
            rw [kC1 _ _ (by omega), kC1 _ _ (by omega), cur_way hc hv (by omega), cur_way hc hv (by omega), z0, z1]
            exact ⟨nI_leI (a := 0) (by omega) (by omega) |>.mpr (by omega), nI_leI (a := 0) (by omega) (by omega) |>.mpr (by omega)⟩) hj4 hx (by omega) hw24
          have kM := mSailL_k (p := j) (b := 40 * x + y) w 0 (mS0 (upI C 0 3 0))
          obtain ⟨s1, G, s2, s3, s4, s5⟩ := sails_sim (j := j) (r := x) (i := y) (z := w) hj hP.2 hW.2 hx w 0 m (mS0 (upI C 0 3 0)) (mS0 (upI m 0 3 0)) (by omega) h.n (fun a q1 q2 => by
            funext k
            rw [upI_ne (by omega), upI_ne (by omega), upI_ne (by omega)]) (fun a q1 => by
            funext k
            show (if a = 180 ∧ k = 1 then 0 else if a = 180 ∧ k = 0 then 0 else (upI m 0 3 0).1 a k) = (if a = 180 ∧ k = 1 then 0 else if a = 180 ∧ k = 0 then 0 else (upI C 0 3 0).1 a k)
            rw [kC1 a k (by omega), upI_ne (by omega)]) (by rw [upI_ne (by omega), upI_eq]) (by rw [upI_ne (by omega), upI_ne (by omega), upI_ne (by omega)]; exact hW.1) (by rw [upI_ne (by omega), upI_ne (by omega), upI_ne (by omega)]; exact hP.1) (fun k hk => by
            obtain ⟨v, hv, ev⟩ := hall k hk
            refine ⟨v, hv, ?_, ?_⟩
            · rw [upI_ne (by omega), upI_ne (by omega), upI_ne (by omega), ev]
            · rw [upI_ne (by omega), upI_ne (by omega), upI_ne (by omega), ← hit k hk, ev])
          rw [eC] at s3
          refine stp_mk h7 h8 (by rw [s1]) (s2.k (fun a k z1 z2 => ?_) ?_)
          · by_cases ga : a < 180
            · rw [kM a k (Or.inl ga), upI_ne (by omega), upI_ne (by omega), upI_ne (by omega)]
              by_cases g0 : a = 0
              · subst g0
                rw [kC 0 k (by omega), s5, upI_ne (by omega), upI_ne (by omega), upI_ne (by omega)]
              · rw [s3 a (by omega) ga]
            · rw [s4 a (by omega)]
          · rw [kM 0 3 (by omega), kM 180 1 (by omega), upI_eq, upI_ne (by omega), upI_ne (by omega), upI_eq]
