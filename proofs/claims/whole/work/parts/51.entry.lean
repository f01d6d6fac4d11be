/-! ===== the law's entry: what the Statement gives of the start, as the layers carry it ===== -/
def yStrIx : List Nat := [50, 70, 80, 129, 131, 133, 135, 137]
def yStrT (i : Nat) : Term := Term.string "YoungerBack$Tape" (yStrIx.getD i 0)
theorem yWt {w : Cond} (i : Nat) (h : tables_1[i]? = some w) : w ∈ lw_tbl := List.mem_append_right _ (List.mem_of_getElem? h)
def yC (s : State) (k : Nat) (ty : FieldType) : Prop := ∃ cA : ClassId, ArrOfT s cA ty ∧ va_RA s cA ty
theorem yC_prim {s : State} {args : Array Value} {ty : FieldType} (h : (Cond.arrayClass ty).before args s = true) (hra : ∀ cA : ClassId, s.vm.findClass ("[" ++ ty.toString) = some cA → va_RA s cA ty) : yC s 0 ty := by
  obtain ⟨c, k, comp, h1, h2, h3⟩ := Cond.arrayClass_spec h
  exact ⟨c, fun n z => ⟨fun k h => (by cases h), k, h2, comp, h3⟩, hra c h1⟩
theorem yC_arr {s : State} {args : Array Value} (h : (Cond.arrayOver (.array .int)).before args s = true) : yC s 0 (.array .int) := by
  obtain ⟨comp, c, k, h1, h2, h3, h4, h5⟩ := arrayOverA_spec h
  exact ⟨c, fun n z => ⟨fun k h => (by cases h), k, h3, comp, h4⟩, h5⟩
theorem yC_obj {s : State} {args : Array Value} {C : String} (h : (Cond.arrayOver (.object C)).before args s = true) : yC s 0 (.object C) := by
  obtain ⟨comp, c, k, h1, h2, h3, h4, h5⟩ := Cond.arrayOver_spec h
  exact ⟨c, fun n z => ⟨fun k h => (by cases h), k, h3, comp, h4⟩, k, comp, h3, h4, h1, h5⟩
theorem y_hex {s : State} {b : Nat} (hg : (Jvm.Cond.and given_1 narrow_1).before #[Value.ref b] s = true) : ∀ i : Nat, i < 8 → (Cond.exactly (yStrT i) "java/lang/String").before #[Value.ref b] s = true := by
  have hs := flat_of_before _ hg
  intro i hi
  match i, hi with
  | 0, _ => exact hs _ (by decide +kernel)
  | 1, _ => exact hs _ (by decide +kernel)
  | 2, _ => exact hs _ (by decide +kernel)
  | 3, _ => exact hs _ (by decide +kernel)
  | 4, _ => exact hs _ (by decide +kernel)
  | 5, _ => exact hs _ (by decide +kernel)
  | 6, _ => exact hs _ (by decide +kernel)
  | 7, _ => exact hs _ (by decide +kernel)
  | i + 8, h => exact absurd h (by omega)
theorem y_hco {s : State} {b : Nat} (hg : (Jvm.Cond.and given_1 narrow_1).before #[Value.ref b] s = true) : ∀ i : Nat, i < 8 → (Cond.eq (.field (yStrT i) "java/lang/String" "coder" "B") (.int 0)).before #[Value.ref b] s = true := by
  have hs := flat_of_before _ hg
  intro i hi
  match i, hi with
  | 0, _ => exact hs _ (by decide +kernel)
  | 1, _ => exact hs _ (by decide +kernel)
  | 2, _ => exact hs _ (by decide +kernel)
  | 3, _ => exact hs _ (by decide +kernel)
  | 4, _ => exact hs _ (by decide +kernel)
  | 5, _ => exact hs _ (by decide +kernel)
  | 6, _ => exact hs _ (by decide +kernel)
  | 7, _ => exact hs _ (by decide +kernel)
  | i + 8, h => exact absurd h (by omega)
theorem y_har {s : State} {b : Nat} (hg : (Jvm.Cond.and given_1 narrow_1).before #[Value.ref b] s = true) : ∀ i : Nat, i < 8 → (Cond.arrayOf (.field (yStrT i) "java/lang/String" "value" "[B") .byte).before #[Value.ref b] s = true := by
  have hs := flat_of_before _ hg
  intro i hi
  match i, hi with
  | 0, _ => exact hs _ (by decide +kernel)
  | 1, _ => exact hs _ (by decide +kernel)
  | 2, _ => exact hs _ (by decide +kernel)
  | 3, _ => exact hs _ (by decide +kernel)
  | 4, _ => exact hs _ (by decide +kernel)
  | 5, _ => exact hs _ (by decide +kernel)
  | 6, _ => exact hs _ (by decide +kernel)
  | 7, _ => exact hs _ (by decide +kernel)
  | i + 8, h => exact absurd h (by omega)
theorem y_hle {s : State} {b : Nat} (hg : (Jvm.Cond.and given_1 narrow_1).before #[Value.ref b] s = true) : ∀ i : Nat, i < 8 → (Cond.eq (.length (.field (yStrT i) "java/lang/String" "value" "[B")) (.int (Int32.ofNat (zLen.getD i 0)))).before #[Value.ref b] s = true := by
  have hs := flat_of_before _ hg
  intro i hi
  match i, hi with
  | 0, _ => exact hs _ (by decide +kernel)
  | 1, _ => exact hs _ (by decide +kernel)
  | 2, _ => exact hs _ (by decide +kernel)
  | 3, _ => exact hs _ (by decide +kernel)
  | 4, _ => exact hs _ (by decide +kernel)
  | 5, _ => exact hs _ (by decide +kernel)
  | 6, _ => exact hs _ (by decide +kernel)
  | 7, _ => exact hs _ (by decide +kernel)
  | i + 8, h => exact absurd h (by omega)
theorem y_hel0 {s : State} {b : Nat} (hg : (Jvm.Cond.and given_1 narrow_1).before #[Value.ref b] s = true) : ∀ j : Nat, j < 3 → (Cond.eq (.elem (.field (yStrT 0) "java/lang/String" "value" "[B") (.int (Int32.ofNat j))) (.int ((zByt.getD 0 []).getD j 0))).before #[Value.ref b] s = true := by
  have hs := flat_of_before _ hg
  intro j hj
  match j, hj with
  | 0, _ => exact hs _ (by decide +kernel)
  | 1, _ => exact hs _ (by decide +kernel)
  | 2, _ => exact hs _ (by decide +kernel)
  | j + 3, h => exact absurd h (by omega)
theorem y_hel1 {s : State} {b : Nat} (hg : (Jvm.Cond.and given_1 narrow_1).before #[Value.ref b] s = true) : ∀ j : Nat, j < 3 → (Cond.eq (.elem (.field (yStrT 1) "java/lang/String" "value" "[B") (.int (Int32.ofNat j))) (.int ((zByt.getD 1 []).getD j 0))).before #[Value.ref b] s = true := by
  have hs := flat_of_before _ hg
  intro j hj
  match j, hj with
  | 0, _ => exact hs _ (by decide +kernel)
  | 1, _ => exact hs _ (by decide +kernel)
  | 2, _ => exact hs _ (by decide +kernel)
  | j + 3, h => exact absurd h (by omega)
theorem y_hel2 {s : State} {b : Nat} (hg : (Jvm.Cond.and given_1 narrow_1).before #[Value.ref b] s = true) : ∀ j : Nat, j < 6 → (Cond.eq (.elem (.field (yStrT 2) "java/lang/String" "value" "[B") (.int (Int32.ofNat j))) (.int ((zByt.getD 2 []).getD j 0))).before #[Value.ref b] s = true := by
  have hs := flat_of_before _ hg
  intro j hj
  match j, hj with
  | 0, _ => exact hs _ (by decide +kernel)
  | 1, _ => exact hs _ (by decide +kernel)
  | 2, _ => exact hs _ (by decide +kernel)
  | 3, _ => exact hs _ (by decide +kernel)
  | 4, _ => exact hs _ (by decide +kernel)
  | 5, _ => exact hs _ (by decide +kernel)
  | j + 6, h => exact absurd h (by omega)
theorem y_hel3 {s : State} {b : Nat} (hg : (Jvm.Cond.and given_1 narrow_1).before #[Value.ref b] s = true) : ∀ j : Nat, j < 7 → (Cond.eq (.elem (.field (yStrT 3) "java/lang/String" "value" "[B") (.int (Int32.ofNat j))) (.int ((zByt.getD 3 []).getD j 0))).before #[Value.ref b] s = true := by
  have hs := flat_of_before _ hg
  intro j hj
  match j, hj with
  | 0, _ => exact hs _ (by decide +kernel)
  | 1, _ => exact hs _ (by decide +kernel)
  | 2, _ => exact hs _ (by decide +kernel)
  | 3, _ => exact hs _ (by decide +kernel)
  | 4, _ => exact hs _ (by decide +kernel)
  | 5, _ => exact hs _ (by decide +kernel)
  | 6, _ => exact hs _ (by decide +kernel)
  | j + 7, h => exact absurd h (by omega)
theorem y_hel4 {s : State} {b : Nat} (hg : (Jvm.Cond.and given_1 narrow_1).before #[Value.ref b] s = true) : ∀ j : Nat, j < 5 → (Cond.eq (.elem (.field (yStrT 4) "java/lang/String" "value" "[B") (.int (Int32.ofNat j))) (.int ((zByt.getD 4 []).getD j 0))).before #[Value.ref b] s = true := by
  have hs := flat_of_before _ hg
  intro j hj
  match j, hj with
  | 0, _ => exact hs _ (by decide +kernel)
  | 1, _ => exact hs _ (by decide +kernel)
  | 2, _ => exact hs _ (by decide +kernel)
  | 3, _ => exact hs _ (by decide +kernel)
  | 4, _ => exact hs _ (by decide +kernel)
  | j + 5, h => exact absurd h (by omega)
theorem y_hel5 {s : State} {b : Nat} (hg : (Jvm.Cond.and given_1 narrow_1).before #[Value.ref b] s = true) : ∀ j : Nat, j < 4 → (Cond.eq (.elem (.field (yStrT 5) "java/lang/String" "value" "[B") (.int (Int32.ofNat j))) (.int ((zByt.getD 5 []).getD j 0))).before #[Value.ref b] s = true := by
  have hs := flat_of_before _ hg
  intro j hj
  match j, hj with
  | 0, _ => exact hs _ (by decide +kernel)
  | 1, _ => exact hs _ (by decide +kernel)
  | 2, _ => exact hs _ (by decide +kernel)
  | 3, _ => exact hs _ (by decide +kernel)
  | j + 4, h => exact absurd h (by omega)
theorem y_hel6 {s : State} {b : Nat} (hg : (Jvm.Cond.and given_1 narrow_1).before #[Value.ref b] s = true) : ∀ j : Nat, j < 5 → (Cond.eq (.elem (.field (yStrT 6) "java/lang/String" "value" "[B") (.int (Int32.ofNat j))) (.int ((zByt.getD 6 []).getD j 0))).before #[Value.ref b] s = true := by
  have hs := flat_of_before _ hg
  intro j hj
  match j, hj with
  | 0, _ => exact hs _ (by decide +kernel)
  | 1, _ => exact hs _ (by decide +kernel)
  | 2, _ => exact hs _ (by decide +kernel)
  | 3, _ => exact hs _ (by decide +kernel)
  | 4, _ => exact hs _ (by decide +kernel)
  | j + 5, h => exact absurd h (by omega)
theorem y_hel7 {s : State} {b : Nat} (hg : (Jvm.Cond.and given_1 narrow_1).before #[Value.ref b] s = true) : ∀ j : Nat, j < 3 → (Cond.eq (.elem (.field (yStrT 7) "java/lang/String" "value" "[B") (.int (Int32.ofNat j))) (.int ((zByt.getD 7 []).getD j 0))).before #[Value.ref b] s = true := by
  have hs := flat_of_before _ hg
  intro j hj
  match j, hj with
  | 0, _ => exact hs _ (by decide +kernel)
  | 1, _ => exact hs _ (by decide +kernel)
  | 2, _ => exact hs _ (by decide +kernel)
  | j + 3, h => exact absurd h (by omega)
theorem y_hel {s : State} {b : Nat} (hg : (Jvm.Cond.and given_1 narrow_1).before #[Value.ref b] s = true) : ∀ i : Nat, i < 8 → ∀ j : Nat, j < zLen.getD i 0 → (Cond.eq (.elem (.field (yStrT i) "java/lang/String" "value" "[B") (.int (Int32.ofNat j))) (.int ((zByt.getD i []).getD j 0))).before #[Value.ref b] s = true := by
  intro i hi
  match i, hi with
  | 0, _ => exact y_hel0 hg
  | 1, _ => exact y_hel1 hg
  | 2, _ => exact y_hel2 hg
  | 3, _ => exact y_hel3 hg
  | 4, _ => exact y_hel4 hg
  | 5, _ => exact y_hel5 hg
  | 6, _ => exact y_hel6 hg
  | 7, _ => exact y_hel7 hg
  | i + 8, h => exact absurd h (by omega)
theorem y_hne1 {s : State} {b : Nat} (hg : (Jvm.Cond.and given_1 narrow_1).before #[Value.ref b] s = true) : ∀ i : Nat, i < 1 → (Cond.not (Cond.eq (yStrT i) (yStrT 1))).before #[Value.ref b] s = true := by
  have hs := flat_of_before _ hg
  intro i hi
  match i, hi with
  | 0, _ => exact hs _ (by decide +kernel)
  | i + 1, h => exact absurd h (by omega)
theorem y_hne2 {s : State} {b : Nat} (hg : (Jvm.Cond.and given_1 narrow_1).before #[Value.ref b] s = true) : ∀ i : Nat, i < 2 → (Cond.not (Cond.eq (yStrT i) (yStrT 2))).before #[Value.ref b] s = true := by
  have hs := flat_of_before _ hg
  intro i hi
  match i, hi with
  | 0, _ => exact hs _ (by decide +kernel)
  | 1, _ => exact hs _ (by decide +kernel)
  | i + 2, h => exact absurd h (by omega)
theorem y_hne3 {s : State} {b : Nat} (hg : (Jvm.Cond.and given_1 narrow_1).before #[Value.ref b] s = true) : ∀ i : Nat, i < 3 → (Cond.not (Cond.eq (yStrT i) (yStrT 3))).before #[Value.ref b] s = true := by
  have hs := flat_of_before _ hg
  intro i hi
  match i, hi with
  | 0, _ => exact hs _ (by decide +kernel)
  | 1, _ => exact hs _ (by decide +kernel)
  | 2, _ => exact hs _ (by decide +kernel)
  | i + 3, h => exact absurd h (by omega)
theorem y_hne4 {s : State} {b : Nat} (hg : (Jvm.Cond.and given_1 narrow_1).before #[Value.ref b] s = true) : ∀ i : Nat, i < 4 → (Cond.not (Cond.eq (yStrT i) (yStrT 4))).before #[Value.ref b] s = true := by
  have hs := flat_of_before _ hg
  intro i hi
  match i, hi with
  | 0, _ => exact hs _ (by decide +kernel)
  | 1, _ => exact hs _ (by decide +kernel)
  | 2, _ => exact hs _ (by decide +kernel)
  | 3, _ => exact hs _ (by decide +kernel)
  | i + 4, h => exact absurd h (by omega)
theorem y_hne5 {s : State} {b : Nat} (hg : (Jvm.Cond.and given_1 narrow_1).before #[Value.ref b] s = true) : ∀ i : Nat, i < 5 → (Cond.not (Cond.eq (yStrT i) (yStrT 5))).before #[Value.ref b] s = true := by
  have hs := flat_of_before _ hg
  intro i hi
  match i, hi with
  | 0, _ => exact hs _ (by decide +kernel)
  | 1, _ => exact hs _ (by decide +kernel)
  | 2, _ => exact hs _ (by decide +kernel)
  | 3, _ => exact hs _ (by decide +kernel)
  | 4, _ => exact hs _ (by decide +kernel)
  | i + 5, h => exact absurd h (by omega)
theorem y_hne6 {s : State} {b : Nat} (hg : (Jvm.Cond.and given_1 narrow_1).before #[Value.ref b] s = true) : ∀ i : Nat, i < 6 → (Cond.not (Cond.eq (yStrT i) (yStrT 6))).before #[Value.ref b] s = true := by
  have hs := flat_of_before _ hg
  intro i hi
  match i, hi with
  | 0, _ => exact hs _ (by decide +kernel)
  | 1, _ => exact hs _ (by decide +kernel)
  | 2, _ => exact hs _ (by decide +kernel)
  | 3, _ => exact hs _ (by decide +kernel)
  | 4, _ => exact hs _ (by decide +kernel)
  | 5, _ => exact hs _ (by decide +kernel)
  | i + 6, h => exact absurd h (by omega)
theorem y_hne7 {s : State} {b : Nat} (hg : (Jvm.Cond.and given_1 narrow_1).before #[Value.ref b] s = true) : ∀ i : Nat, i < 7 → (Cond.not (Cond.eq (yStrT i) (yStrT 7))).before #[Value.ref b] s = true := by
  have hs := flat_of_before _ hg
  intro i hi
  match i, hi with
  | 0, _ => exact hs _ (by decide +kernel)
  | 1, _ => exact hs _ (by decide +kernel)
  | 2, _ => exact hs _ (by decide +kernel)
  | 3, _ => exact hs _ (by decide +kernel)
  | 4, _ => exact hs _ (by decide +kernel)
  | 5, _ => exact hs _ (by decide +kernel)
  | 6, _ => exact hs _ (by decide +kernel)
  | i + 7, h => exact absurd h (by omega)
theorem y_hne {s : State} {b : Nat} (hg : (Jvm.Cond.and given_1 narrow_1).before #[Value.ref b] s = true) : ∀ i j : Nat, i < 8 → j < 8 → i ≠ j → (Cond.not (Cond.eq (yStrT i) (yStrT j))).before #[Value.ref b] s = true ∨ (Cond.not (Cond.eq (yStrT j) (yStrT i))).before #[Value.ref b] s = true := by
  have key : ∀ j : Nat, j < 8 → ∀ i : Nat, i < j → (Cond.not (Cond.eq (yStrT i) (yStrT j))).before #[Value.ref b] s = true := by
    intro j hj
    match j, hj with
    | 0, _ => exact fun i h => absurd h (by omega)
    | 1, _ => exact y_hne1 hg
    | 2, _ => exact y_hne2 hg
    | 3, _ => exact y_hne3 hg
    | 4, _ => exact y_hne4 hg
    | 5, _ => exact y_hne5 hg
    | 6, _ => exact y_hne6 hg
    | 7, _ => exact y_hne7 hg
    | j + 8, h => exact absurd h (by omega)
  intro i j hi hj hij
  rcases Nat.lt_or_gt_of_ne hij with q | q
  · exact Or.inl (key j hj i q)
  · exact Or.inr (key i hi j q)
theorem y_make {s : State} {b L : Nat} {xs : Nat → Int32} (hts : ∀ w ∈ lw_tbl, w.before #[Value.ref b] s = true) (hX : va_X b L xs s s.heap) (hbl : b < s.heap.size) (ad : Nat → Nat) (cl : Nat → ClassId) (D : va_G) (adK adV : Nat → Nat) (t : Nat)
    (hS8 : vk_S 8 zLen zByt adK adV (fun q : Nat => s.heap.size ≤ q) s s.heap) (hev : ∀ i : Nat, i < 8 → (yStrT i).eval #[Value.ref b] s none [] s = some (.ref (adK i)))
    (hcs : va_Z "java/lang/String" "COMPACT_STRINGS" "Z" (.int 1) (fun q : Nat => s.heap.size ≤ q) s s.heap)
    (hfm : va_Z "jdk/internal/util/Preconditions" "SIOOBE_FORMATTER" "Ljava/util/function/BiFunction;" .null (fun q : Nat => s.heap.size ≤ q) s s.heap ∨ va_Z "jdk/internal/util/Preconditions" "SIOOBE_FORMATTER" "Ljava/util/function/BiFunction;" (.ref t) (fun q : Nat => s.heap.size ≤ q) s s.heap)
    (hK : ∀ i : Nat, i < 8 → ad (1000000 + i) = adK i) (hV : ∀ i : Nat, i < 8 → ad (1000100 + i) = adV i) (hb : ad 2000000 = b) (ht : ad 3000000 = t)
    (hKc : ∀ (c : Nat) (q : vw_C), vwCl[c]? = some q → u_Kn s q.1 q.2.1 q.2.2 (D.1 c) (D.2 c))
    (h0 : ArrOfT s (cl 0) .int ∧ va_RA s (cl 0) .int) (h1 : ArrOfT s (cl 1) .long ∧ va_RA s (cl 1) .long) (h2 : ArrOfT s (cl 2) .boolean ∧ va_RA s (cl 2) .boolean) (h3 : ArrOfT s (cl 3) (.array .int) ∧ va_RA s (cl 3) (.array .int)) (h4 : ArrOfT s (cl 4) (.object "YoungerBack$Way") ∧ va_RA s (cl 4) (.object "YoungerBack$Way")) (h5 : ArrOfT s (cl 5) (.object "YoungerBack$Person") ∧ va_RA s (cl 5) (.object "YoungerBack$Person")) (h6 : ArrOfT s (cl 6) (.object "YoungerBack$League") ∧ va_RA s (cl 6) (.object "YoungerBack$League")) :
    yP b L xs (s.heap.size, ad, cl, D, (b, L, xs)) ∧ ((s.heap.size, ad, cl, D, (b, L, xs)) : zG).1 = s.heap.size ∧ zK (s.heap.size, ad, cl, D, (b, L, xs)) s ∧ zS (s.heap.size, ad, cl, D, (b, L, xs)) s s.heap := by
  have zad : ∀ k : Nat, 1000000 ≤ k → zal (s.heap.size, ad, cl, D, (b, L, xs)) k = ad k := fun k hk => if_neg (by omega)
  have eK : ∀ i : Nat, i < 8 → zal (s.heap.size, ad, cl, D, (b, L, xs)) (1000000 + i) = adK i := fun i hi => (zad _ (by omega)).trans (hK i hi)
  have eV : ∀ i : Nat, i < 8 → zal (s.heap.size, ad, cl, D, (b, L, xs)) (1000100 + i) = adV i := fun i hi => (zad _ (by omega)).trans (hV i hi)
  have hao : zAOA s := by
    have h := hts (Cond.arrayOver (.array .int)) (yWt 27 (by decide +kernel))
    exact h
  refine ⟨⟨rfl, (zad _ (by decide)).trans hb⟩, rfl, ⟨⟨hKc, ?_⟩, hao, ?_, ?_⟩, ⟨?_, ?_⟩, ?_, hcs, ?_, hX, Nat.not_le.mpr hbl⟩
  · intro k q hq
    match k, hq with
    | 0, hq => obtain rfl := Option.some.inj hq; exact h0
    | 1, hq => obtain rfl := Option.some.inj hq; exact h1
    | 2, hq => obtain rfl := Option.some.inj hq; exact h2
    | 3, hq => obtain rfl := Option.some.inj hq; exact h3
    | 4, hq => obtain rfl := Option.some.inj hq; exact h4
    | 5, hq => obtain rfl := Option.some.inj hq; exact h5
    | 6, hq => obtain rfl := Option.some.inj hq; exact h6
    | k + 7, hq => simp [zT] at hq
  · intro C hC
    rcases List.mem_cons.mp hC with rfl | hC
    · exact va_AO.of (hts (Cond.arrayOver (.object "YoungerBack$Way")) (yWt 70 (by decide +kernel)))
    · rcases List.mem_cons.mp hC with rfl | hC
      · exact va_AO.of (hts (Cond.arrayOver (.object "YoungerBack$Person")) (yWt 72 (by decide +kernel)))
      · rcases List.mem_cons.mp hC with rfl | hC
        · exact va_AO.of (hts (Cond.arrayOver (.object "YoungerBack$League")) (yWt 176 (by decide +kernel)))
        · exact absurd hC (by simp)
  · intro q hq
    simp only [zNest, List.mem_cons, List.not_mem_nil, or_false] at hq
    rcases hq with rfl | rfl | rfl | rfl | rfl | rfl | rfl | rfl | rfl
    · have h := hts (Cond.methodLinkNest RX7 27 yX5_init RX7) (yWt 30 (by decide +kernel))
      exact h
    · have h := hts (Cond.methodLinkNest RX3 36 yX6_init RX7) (yWt 74 (by decide +kernel))
      exact h
    · have h := hts (Cond.methodLinkNest RX3 37 yX4_init RX7) (yWt 104 (by decide +kernel))
      exact h
    · have h := hts (Cond.methodLinkNest RX0 24 yX4_init RX7) (yWt 184 (by decide +kernel))
      exact h
    · have h := hts (Cond.methodLinkNest RX7 66 yX2_init RX7) (yWt 199 (by decide +kernel))
      exact h
    · have h := hts (Cond.methodLinkNest RX7 76 yX1_init RX7) (yWt 210 (by decide +kernel))
      exact h
    · have h := hts (Cond.methodLinkNest RX5 125 yX7_isOutside RX7) (yWt 415 (by decide +kernel))
      exact h
    · have h := hts (Cond.methodLinkNest RX2 15 yX7_isOutside RX7) (yWt 590 (by decide +kernel))
      exact h
    · have h := hts (Cond.methodLinkNest RX1 36 yX7_isOfKind RX7) (yWt 719 (by decide +kernel))
      exact h
  · intro i hi
    have h := hS8.1 i hi
    rw [← eK i hi, ← eV i hi] at h
    exact h
  · intro i j hi hj hij
    exact hS8.2 i j hi hj (by rw [← eK i hi, ← eK j hj]; exact hij)
  · intro q hq
    simp only [zStr, List.mem_cons, List.not_mem_nil, or_false] at hq
    rcases hq with rfl | rfl | rfl | rfl | rfl | rfl | rfl | rfl
    · exact vk_R.of (A := #[Value.ref b]) (hts (Cond.stringRef "YoungerBack$Tape" 50 "law") (yWt 349 (by decide +kernel))) ((hev 0 (by decide)).trans (by rw [eK 0 (by decide)]))
    · exact vk_R.of (A := #[Value.ref b]) (hts (Cond.stringRef "YoungerBack$Tape" 70 "way") (yWt 420 (by decide +kernel))) ((hev 1 (by decide)).trans (by rw [eK 1 (by decide)]))
    · exact vk_R.of (A := #[Value.ref b]) (hts (Cond.stringRef "YoungerBack$Tape" 80 "person") (yWt 425 (by decide +kernel))) ((hev 2 (by decide)).trans (by rw [eK 2 (by decide)]))
    · exact vk_R.of (A := #[Value.ref b]) (hts (Cond.stringRef "YoungerBack$Tape" 129 "captain") (yWt 437 (by decide +kernel))) ((hev 3 (by decide)).trans (by rw [eK 3 (by decide)]))
    · exact vk_R.of (A := #[Value.ref b]) (hts (Cond.stringRef "YoungerBack$Tape" 131 "pilot") (yWt 438 (by decide +kernel))) ((hev 4 (by decide)).trans (by rw [eK 4 (by decide)]))
    · exact vk_R.of (A := #[Value.ref b]) (hts (Cond.stringRef "YoungerBack$Tape" 133 "monk") (yWt 439 (by decide +kernel))) ((hev 5 (by decide)).trans (by rw [eK 5 (by decide)]))
    · exact vk_R.of (A := #[Value.ref b]) (hts (Cond.stringRef "YoungerBack$Tape" 135 "clerk") (yWt 440 (by decide +kernel))) ((hev 6 (by decide)).trans (by rw [eK 6 (by decide)]))
    · exact vk_R.of (A := #[Value.ref b]) (hts (Cond.stringRef "YoungerBack$Tape" 137 "boy") (yWt 441 (by decide +kernel))) ((hev 7 (by decide)).trans (by rw [eK 7 (by decide)]))
  · exact hfm.elim (fun h => Or.inl h) (fun h => Or.inr (by rw [(zad 3000000 (by decide)).trans ht]; exact h))
theorem y_entry {s : State} {b L : Nat} {xs : Nat → Int32} (hts : ∀ w ∈ lw_tbl, w.before #[Value.ref b] s = true) (hX : va_X b L xs s s.heap) (hbl : b < s.heap.size) (hg : (Jvm.Cond.and given_1 narrow_1).before #[Value.ref b] s = true) : ∃ G : zG, yP b L xs G ∧ G.1 = s.heap.size ∧ zK G s ∧ zS G s s.heap := by
  have hs := flat_of_before _ hg
  have hz : ∀ w ∈ zts, w.before #[Value.ref b] s = true := fun w hw => hts w (zts_sub hw)
  have hA : ∀ a : Nat, a < s.heap.size → ¬ (fun q : Nat => s.heap.size ≤ q) a := fun a h => Nat.not_le.mpr h
  obtain ⟨adK, adV, hS8, hev⟩ := vk_Sof (args := #[Value.ref b]) (s := s) (N := 8) (tm := yStrT) (len := zLen) (byt := zByt) (A := fun q : Nat => s.heap.size ≤ q) (by decide) (y_hex hg) (y_hco hg) (y_har hg) (y_hle hg) (y_hel hg) (y_hne hg) hA
  have hcs : va_Z "java/lang/String" "COMPACT_STRINGS" "Z" (.int 1) (fun q : Nat => s.heap.size ≤ q) s s.heap := va_Zof (hts _ (yWt 367 (by decide +kernel))) (hts _ (yWt 11 (by decide +kernel))) (va_eqt (hs (Cond.eq (Term.static "java/lang/String" "COMPACT_STRINGS" "Z") (Term.int 1)) (by decide +kernel))) hA
  have hfm0 : va_Zq "jdk/internal/util/Preconditions" "SIOOBE_FORMATTER" "Ljava/util/function/BiFunction;" (fun q : Nat => s.heap.size ≤ q) s s.heap := va_Zqof (args := #[Value.ref b]) (hts _ (yWt 383 (by decide +kernel))) (hts _ (yWt 13 (by decide +kernel))) (hs (Cond.isRef (Term.static "jdk/internal/util/Preconditions" "SIOOBE_FORMATTER" "Ljava/util/function/BiFunction;")) (by decide +kernel)) hA
  obtain ⟨t, hfm⟩ : ∃ t : Nat, va_Z "jdk/internal/util/Preconditions" "SIOOBE_FORMATTER" "Ljava/util/function/BiFunction;" .null (fun q : Nat => s.heap.size ≤ q) s s.heap ∨ va_Z "jdk/internal/util/Preconditions" "SIOOBE_FORMATTER" "Ljava/util/function/BiFunction;" (.ref t) (fun q : Nat => s.heap.size ≤ q) s s.heap := by
    rcases hfm0 with h | ⟨t, h⟩
    · exact ⟨0, Or.inl h⟩
    · exact ⟨t, Or.inr h⟩
  obtain ⟨c0, iS0, hKn0⟩ := u_known (C := RX0) (T := TX0) (N := 3) (n := 3) hz zin0 (hz _ wd_178)
  obtain ⟨c1, iS1, hKn1⟩ := u_known (C := RX1) (T := TX1) (N := 2) (n := 2) hz zin1 (hz _ wd_209)
  obtain ⟨c2, iS2, hKn2⟩ := u_known (C := RX2) (T := TX2) (N := 1) (n := 1) hz zin2 (hz _ wd_198)
  obtain ⟨c3, iS3, hKn3⟩ := u_known (C := RX3) (T := TX3) (N := 6) (n := 6) hz zin3 (hz _ wd_64)
  obtain ⟨c4, iS4, hKn4⟩ := u_known (C := RX4) (T := TX4) (N := 8) (n := 8) hz zin4 (hz _ wd_103)
  obtain ⟨c5, iS5, hKn5⟩ := u_known (C := RX5) (T := TX5) (N := 8) (n := 8) hz zin5 (hz _ wd_29)
  obtain ⟨c6, iS6, hKn6⟩ := u_known (C := RX6) (T := TX6) (N := 4) (n := 4) hz zin6 (hz _ wd_73)
  obtain ⟨c7, iS7, hKn7⟩ := u_known (C := RX7) (T := TX7) (N := 15) (n := 15) hz zin7 (hz _ wd_19)
  obtain ⟨c8, iS8, hKn8⟩ := u_known (C := RX8) (T := TX8) (N := 25) (n := 25) hz zin8 (hz _ wd_738)
  obtain ⟨a0, ha0⟩ := yC_prim (hts _ (yWt 62 (by decide +kernel))) (ty := .int) (fun _ h => h)
  obtain ⟨a1, ha1⟩ := yC_prim (hts _ (yWt 207 (by decide +kernel))) (ty := .long) (fun _ h => h)
  obtain ⟨a2, ha2⟩ := yC_prim (hts _ (yWt 196 (by decide +kernel))) (ty := .boolean) (fun _ h => h)
  obtain ⟨a3, ha3⟩ := yC_arr (hts _ (yWt 27 (by decide +kernel)))
  obtain ⟨a4, ha4⟩ := yC_obj (C := "YoungerBack$Way") (hts _ (yWt 70 (by decide +kernel)))
  obtain ⟨a5, ha5⟩ := yC_obj (C := "YoungerBack$Person") (hts _ (yWt 72 (by decide +kernel)))
  obtain ⟨a6, ha6⟩ := yC_obj (C := "YoungerBack$League") (hts _ (yWt 176 (by decide +kernel)))
  obtain ⟨ad, hK, hV, hb, ht⟩ : ∃ ad : Nat → Nat, (∀ i : Nat, i < 8 → ad (1000000 + i) = adK i) ∧ (∀ i : Nat, i < 8 → ad (1000100 + i) = adV i) ∧ ad 2000000 = b ∧ ad 3000000 = t := by
    refine ⟨fun k => if k < 1000100 then adK (k - 1000000) else if k < 1000200 then adV (k - 1000100) else if k = 2000000 then b else t, fun i hi => ?_, fun i hi => ?_, rfl, rfl⟩
    · show (if 1000000 + i < 1000100 then adK (1000000 + i - 1000000) else _) = adK i
      rw [if_pos (by omega), show 1000000 + i - 1000000 = i by omega]
    · show (if 1000100 + i < 1000100 then _ else if 1000100 + i < 1000200 then adV (1000100 + i - 1000100) else _) = adV i
      rw [if_neg (by omega), if_pos (by omega), show 1000100 + i - 1000100 = i by omega]
  have hKc : ∀ (c : Nat) (q : vw_C), vwCl[c]? = some q → u_Kn s q.1 q.2.1 q.2.2 ((fun k => match k with | 0 => c0 | 1 => c1 | 2 => c2 | 3 => c3 | 4 => c4 | 5 => c5 | 6 => c6 | 7 => c7 | _ => c8) c) ((fun k => match k with | 0 => iS0 | 1 => iS1 | 2 => iS2 | 3 => iS3 | 4 => iS4 | 5 => iS5 | 6 => iS6 | 7 => iS7 | _ => iS8) c) := by
    intro c q hq
    match c, hq with
    | 0, hq => obtain rfl := Option.some.inj hq; exact hKn0
    | 1, hq => obtain rfl := Option.some.inj hq; exact hKn1
    | 2, hq => obtain rfl := Option.some.inj hq; exact hKn2
    | 3, hq => obtain rfl := Option.some.inj hq; exact hKn3
    | 4, hq => obtain rfl := Option.some.inj hq; exact hKn4
    | 5, hq => obtain rfl := Option.some.inj hq; exact hKn5
    | 6, hq => obtain rfl := Option.some.inj hq; exact hKn6
    | 7, hq => obtain rfl := Option.some.inj hq; exact hKn7
    | 8, hq => obtain rfl := Option.some.inj hq; exact hKn8
    | c + 9, hq => simp [vwCl] at hq
  exact ⟨_, y_make hts hX hbl ad (fun k => match k with | 0 => a0 | 1 => a1 | 2 => a2 | 3 => a3 | 4 => a4 | 5 => a5 | _ => a6) ((fun k => match k with | 0 => c0 | 1 => c1 | 2 => c2 | 3 => c3 | 4 => c4 | 5 => c5 | 6 => c6 | 7 => c7 | _ => c8), (fun k => match k with | 0 => iS0 | 1 => iS1 | 2 => iS2 | 3 => iS3 | 4 => iS4 | 5 => iS5 | 6 => iS6 | 7 => iS7 | _ => iS8)) adK adV t hS8 hev hcs hfm hK hV hb ht hKc ha0 ha1 ha2 ha3 ha4 ha5 ha6⟩
