/-! ===== THE Z LAYER: the machine seen from a heap that is a list of cells, at addresses counted from a base ===== -/
abbrev zE : Type := (Nat × vp_A) ⊕ (Nat × List Value)
abbrev zH : Type := List zE
/-- base; the addresses of what lies outside (strings); the classes of the arrays by kind; the classes' layouts; the script -/
abbrev zG : Type := Nat × (Nat → Nat) × (Nat → ClassId) × va_G × (Nat × Nat × (Nat → Int32))
abbrev zM : Type := MethodName × ByteArray × Nat × Option FieldType
abbrev zX : Type := Option Value × zH
abbrev zL : Type := List (Option Value)
def zal (G : zG) (k : Nat) : Nat := if k < 1000000 then G.1 + k else G.2.1 k
def zv (G : zG) (v : Value) : Value := match v with
  | .ref a => .ref (zal G a)
  | v => v
def zc (G : zG) (e : zE) : va_E := match e with
  | .inl (k, n, .inr (.inr (.inr (.inr f)))) => .inl (G.2.2.1 k, n, .inr (.inr (.inr (.inr (fun j => (f j).map (zal G))))))
  | .inl (k, a) => .inl (G.2.2.1 k, a)
  | .inr (ci, fs) => .inr (ci, fs.map (zv G))
def zw (G : zG) (h : zH) : va_W := h.zipIdx.map (fun q => (zal G q.2, zc G q.1))
def zA (G : zG) : Nat → Prop := fun q => G.1 ≤ q
theorem zw_at {G : zG} {h : zH} {k : Nat} {e : zE} (hk : h[k]? = some e) : (zw G h)[k]? = some (zal G k, zc G e) := by
  unfold zw
  rw [List.getElem?_map, List.getElem?_zipIdx, hk]
  simp
theorem zw_inv {G : zG} {h : zH} {k : Nat} {q : Nat × va_E} (hk : (zw G h)[k]? = some q) : k < h.length ∧ q.1 = zal G k := by
  unfold zw at hk
  rw [List.getElem?_map, List.getElem?_zipIdx] at hk
  cases he : h[k]? with
  | none => rw [he] at hk; simp at hk
  | some e =>
    rw [he] at hk
    simp at hk
    exact ⟨(List.getElem?_eq_some_iff.mp he).1, by rw [← hk]⟩
theorem zw_set {G : zG} {h : zH} {k : Nat} {e : zE} : zw G (h.set k e) = (zw G h).set k (zal G k, zc G e) := by
  apply List.ext_getElem?
  intro i
  by_cases hi : i = k
  · subst hi
    by_cases hl : i < h.length
    · have h1 : (h.set i e)[i]? = some e := by simp [hl]
      rw [zw_at h1, List.getElem?_set_self (by simpa [zw] using hl)]
    · rw [List.getElem?_eq_none (by simp [zw]; omega), List.getElem?_eq_none (by simp [zw]; omega)]
  · rw [List.getElem?_set_ne (fun q => hi q.symm)]
    unfold zw
    rw [List.getElem?_map, List.getElem?_map, List.getElem?_zipIdx, List.getElem?_zipIdx, List.getElem?_set_ne (fun q => hi q.symm)]
theorem zw_push {G : zG} {h : zH} {e : zE} : zw G (h ++ [e]) = zw G h ++ [(zal G h.length, zc G e)] := by
  unfold zw
  simp [List.zipIdx_append]
theorem zal_lt {G : zG} {k : Nat} (h : k < 1000000) : zal G k = G.1 + k := if_pos h
theorem zw_D {G : zG} {h : zH} (hl : h.length ≤ 1000000) : va_D (zA G) (zw G h) := by
  refine ⟨fun i j p q hi hj hpq => ?_, fun k q hk => ?_⟩
  · obtain ⟨h1, h2⟩ := zw_inv hi
    obtain ⟨h3, h4⟩ := zw_inv hj
    rw [h2, h4, zal_lt (by omega), zal_lt (by omega)] at hpq
    omega
  · obtain ⟨h1, h2⟩ := zw_inv hk
    rw [h2, zal_lt (by omega)]
    show G.1 ≤ G.1 + k
    omega
def zRep (G : zG) (h : zH) (H : Heap) : Prop := va_P G.2.2.2.1 vwCl (zw G h) H ∧ H.size = G.1 + h.length ∧ h.length ≤ 1000000
def zT (G : zG) : List (ClassId × FieldType) := [(G.2.2.1 0, .int), (G.2.2.1 1, .long), (G.2.2.1 2, .boolean), (G.2.2.1 3, .array .int), (G.2.2.1 4, .object "YoungerBack$Way"), (G.2.2.1 5, .object "YoungerBack$Person"), (G.2.2.1 6, .object "YoungerBack$League")]
def zNest : List (String × Nat × MethodName × String) := [(RX7, 27, yX5_init, RX7), (RX3, 36, yX6_init, RX7), (RX3, 37, yX4_init, RX7), (RX0, 24, yX4_init, RX7), (RX7, 66, yX2_init, RX7), (RX7, 76, yX1_init, RX7), (RX5, 125, yX7_isOutside, RX7), (RX2, 15, yX7_isOutside, RX7), (RX1, 36, yX7_isOfKind, RX7)]
def zAOA (U : State) : Prop := (Cond.arrayOver (.array .int)).before #[] U = true
theorem zAOA.moved {u U : State} (hvm : u.vm.Alike U.vm) (h : zAOA u) : zAOA U := over_moved hvm h
def zK (G : zG) (s : State) : Prop := va_K G.2.2.2.1 vwCl (zT G) s ∧ zAOA s ∧ (∀ C ∈ ["YoungerBack$Way", "YoungerBack$Person", "YoungerBack$League"], va_AO C s) ∧ ∀ q ∈ zNest, va_Nw (.methodLinkNest q.1 q.2.1 q.2.2.1 q.2.2.2) s
def zLen : List Nat := [3, 3, 6, 7, 5, 4, 5, 3]
def zByt : List (List Int32) := [[108, 97, 119], [119, 97, 121], [112, 101, 114, 115, 111, 110], [99, 97, 112, 116, 97, 105, 110], [112, 105, 108, 111, 116], [109, 111, 110, 107], [99, 108, 101, 114, 107], [98, 111, 121]]
def zStr : List (String × Nat × String × Nat) := [(RX5, 50, "law", 0), (RX5, 70, "way", 1), (RX5, 80, "person", 2), (RX5, 129, "captain", 3), (RX5, 131, "pilot", 4), (RX5, 133, "monk", 5), (RX5, 135, "clerk", 6), (RX5, 137, "boy", 7)]
/-- the formatter of the JDK's messages: nobody uses it here -/
def zFm (G : zG) (U : State) (H : Heap) : Prop := va_Z "jdk/internal/util/Preconditions" "SIOOBE_FORMATTER" "Ljava/util/function/BiFunction;" .null (zA G) U H ∨ va_Z "jdk/internal/util/Preconditions" "SIOOBE_FORMATTER" "Ljava/util/function/BiFunction;" (.ref (zal G 3000000)) (zA G) U H
theorem zFm.moved {G : zG} {u U : State} {H : Heap} (hvm : u.vm.Alike U.vm) (h : zFm G u H) : zFm G U H := h.elim (fun z => Or.inl (z.moved hvm)) (fun z => Or.inr (z.moved hvm))
theorem zFm.kept {G : zG} {U : State} {H H1 : Heap} (h : zFm G U H) (hq : ∀ a : Nat, a < H.size → ¬ zA G a → H1[a]? = H[a]?) : zFm G U H1 := h.elim (fun z => Or.inl (z.kept hq)) (fun z => Or.inr (z.kept hq))
def zS (G : zG) (U : State) (H : Heap) : Prop := vk_S 8 zLen zByt (fun i => zal G (1000000 + i)) (fun i => zal G (1000100 + i)) (zA G) U H ∧ (∀ q ∈ zStr, vk_R q.1 q.2.1 q.2.2.1 (zal G (1000000 + q.2.2.2)) U) ∧ va_Z "java/lang/String" "COMPACT_STRINGS" "Z" (.int 1) (zA G) U H ∧ zFm G U H ∧ va_X G.2.2.2.2.1 G.2.2.2.2.2.1 G.2.2.2.2.2.2 U H ∧ ¬ zA G G.2.2.2.2.1
theorem zK.warm {G : zG} {s U : State} (hW : s.WarmedH U.vm) (h : zK G s) : zK G U :=
  ⟨h.1.moved hW.alike, h.2.1.moved hW.alike, fun C hC => (h.2.2.1 C hC).moved hW.alike, fun q hq => (h.2.2.2 q hq).warmM hW⟩
theorem zK.same {G : zG} {u U : State} (hv : u.vm = U.vm) (h : zK G u) : zK G U :=
  ⟨h.1.moved (by rw [hv]; exact Vm.Alike.refl _), h.2.1.moved (by rw [hv]; exact Vm.Alike.refl _), fun C hC => (h.2.2.1 C hC).moved (by rw [hv]; exact Vm.Alike.refl _), fun q hq => va_Nw.same rfl hv (h.2.2.2 q hq)⟩
theorem zX.lt {b L : Nat} {xs : Nat → Int32} {U : State} {H : Heap} (h : va_X b L xs U H) : b < H.size := by
  obtain ⟨scr, h1, -⟩ := h
  exact (Array.getElem?_eq_some_iff.mp h1).1
theorem zS.kept {G : zG} {U : State} {H H1 : Heap} (hq : ∀ a : Nat, a < H.size → ¬ zA G a → H1[a]? = H[a]?) (h : zS G U H) : zS G U H1 :=
  ⟨h.1.kept hq, h.2.1, h.2.2.1.kept hq, h.2.2.2.1.kept hq, h.2.2.2.2.1.kept (hq _ (zX.lt h.2.2.2.2.1) h.2.2.2.2.2), h.2.2.2.2.2⟩
theorem zS.warm {G : zG} {s U : State} {H : Heap} (hW : s.WarmedH U.vm) (h : zS G s H) : zS G U H :=
  ⟨h.1.moved hW.alike, fun q hq => (h.2.1 q hq).warm hW, h.2.2.1.moved hW.alike, h.2.2.2.1.moved hW.alike, h.2.2.2.2.1.moved hW.alike, h.2.2.2.2.2⟩
theorem zS.same {G : zG} {u U : State} {H : Heap} (hv : u.vm = U.vm) (h : zS G u H) : zS G U H :=
  ⟨h.1.moved (by rw [hv]; exact Vm.Alike.refl _), fun q hq => (h.2.1 q hq).same hv.symm, h.2.2.1.moved (by rw [hv]; exact Vm.Alike.refl _), h.2.2.2.1.moved (by rw [hv]; exact Vm.Alike.refl _), h.2.2.2.2.1.moved (by rw [hv]; exact Vm.Alike.refl _), h.2.2.2.2.2⟩
/-! locals by their places -/
def zprs (G : zG) (ls : zL) : List (Nat × Value) := ls.zipIdx.filterMap (fun q => q.1.map (fun v => (q.2, zv G v)))
theorem zprs_in {G : zG} {ls : zL} {j : Nat} {w : Value} : (j, w) ∈ zprs G ls ↔ ∃ v, ls[j]? = some (some v) ∧ w = zv G v := by
  unfold zprs
  rw [List.mem_filterMap]
  constructor
  · rintro ⟨⟨o, i⟩, hm, he⟩
    rw [List.mem_zipIdx_iff_getElem?] at hm
    cases o with
    | none => simp at he
    | some v =>
      simp at he
      obtain ⟨rfl, rfl⟩ := he
      exact ⟨v, hm, rfl⟩
  · rintro ⟨v, h1, rfl⟩
    exact ⟨(some v, j), by rw [List.mem_zipIdx_iff_getElem?]; exact h1, rfl⟩
def zLs (G : zG) (arr : Array Slot) (nL : Nat) (ls : zL) : Prop := lv_has arr nL (zprs G ls)
theorem zLs.at {G : zG} {arr : Array Slot} {nL : Nat} {ls : zL} (h : zLs G arr nL ls) {i : Nat} {v : Value} (hi : ls[i]? = some (some v)) : arr[i]? = some (.val (zv G v)) :=
  h.2.2 (i, zv G v) (zprs_in.mpr ⟨v, hi, rfl⟩)
def zcat2 (o : Option (Option Value)) : Bool := match o with
  | some (some (.long _)) => true
  | some (some (.double _)) => true
  | _ => false
def zclr (ls : zL) (i : Nat) : zL := match i with
  | 0 => ls
  | j + 1 => bif zcat2 ls[j]? then ls.set j none else ls
def zset1 (ls : zL) (i : Nat) (v : Value) : zL := (zclr ls i).set i (some v)
def zset2 (ls : zL) (i : Nat) (v : Value) : zL := ((zclr ls i).set i (some v)).set (i + 1) none
theorem zv_cat (G : zG) (v : Value) : (zv G v).category = v.category := by cases v <;> rfl
theorem zclr_at {ls : zL} {i j : Nat} {v : Value} (h : (zclr ls i)[j]? = some (some v)) : ls[j]? = some (some v) ∧ ¬ (j + 1 = i ∧ v.category = 2) := by
  cases i with
  | zero => exact ⟨h, fun q => by omega⟩
  | succ i =>
    simp only [zclr] at h
    cases hc : zcat2 ls[i]? with
    | true =>
      rw [hc] at h
      simp only [cond_true] at h
      by_cases hj : j = i
      · subst hj
        rw [List.getElem?_set] at h
        simp at h
      · rw [List.getElem?_set_ne (fun q => hj q.symm)] at h
        exact ⟨h, fun q => hj (by omega)⟩
    | false =>
      rw [hc] at h
      simp only [cond_false] at h
      refine ⟨h, fun q => ?_⟩
      have hj : j = i := by omega
      subst hj
      rw [h] at hc
      cases v <;> simp [zcat2, Value.category] at hc q
theorem lv_mono {arr : Array Slot} {nL : Nat} {l l' : List (Nat × Value)} (h : lv_has arr nL l) (hs : ∀ q ∈ l', q ∈ l) : lv_has arr nL l' := ⟨h.1, h.2.1, fun q hq => h.2.2 q (hs q hq)⟩
theorem zLs.set1 {G : zG} {arr : Array Slot} {nL : Nat} {ls : zL} {i : Nat} {v : Value} (h : lv_has arr nL ((i, zv G v) :: (zprs G ls).filter (fun q => !(q.1 == i) && !(q.1 + 1 == i && q.2.category == 2)))) : zLs G arr nL (zset1 ls i v) := by
  refine lv_mono h ?_
  rintro ⟨j, w⟩ hq
  obtain ⟨u, h1, rfl⟩ := zprs_in.mp hq
  unfold zset1 at h1
  by_cases hj : j = i
  · subst hj
    rw [List.getElem?_set] at h1
    simp at h1
    obtain ⟨-, rfl⟩ := h1
    exact List.mem_cons_self
  · rw [List.getElem?_set_ne (fun q => hj q.symm)] at h1
    obtain ⟨h2, h3⟩ := zclr_at h1
    refine List.mem_cons_of_mem _ (List.mem_filter.mpr ⟨zprs_in.mpr ⟨u, h2, rfl⟩, ?_⟩)
    simp only [zv_cat]
    simp [hj]
    rcases Classical.em (j + 1 = i) with h4 | h4
    · exact Or.inr (fun h5 => h3 ⟨h4, h5⟩)
    · exact Or.inl h4
theorem zLs.set2 {G : zG} {arr : Array Slot} {nL : Nat} {ls : zL} {i : Nat} {v : Value} (h : lv_has arr nL ((i, zv G v) :: (zprs G ls).filter (fun q => !(q.1 == i) && (!(q.1 == i + 1) && !(q.1 + 1 == i && q.2.category == 2))))) : zLs G arr nL (zset2 ls i v) := by
  refine lv_mono h ?_
  rintro ⟨j, w⟩ hq
  obtain ⟨u, h1, rfl⟩ := zprs_in.mp hq
  unfold zset2 at h1
  by_cases hj1 : j = i + 1
  · subst hj1
    rw [List.getElem?_set] at h1
    simp at h1
  · rw [List.getElem?_set_ne (fun q => hj1 q.symm)] at h1
    by_cases hj : j = i
    · subst hj
      rw [List.getElem?_set] at h1
      simp at h1
      obtain ⟨-, rfl⟩ := h1
      exact List.mem_cons_self
    · rw [List.getElem?_set_ne (fun q => hj q.symm)] at h1
      obtain ⟨h2, h3⟩ := zclr_at h1
      refine List.mem_cons_of_mem _ (List.mem_filter.mpr ⟨zprs_in.mpr ⟨u, h2, rfl⟩, ?_⟩)
      simp only [zv_cat]
      simp [hj, hj1]
      rcases Classical.em (j + 1 = i) with h4 | h4
      · exact Or.inr (fun h5 => h3 ⟨h4, h5⟩)
      · exact Or.inl h4
/-- the locals with which a method begins -/
def zargs : List Value → zL
  | [] => []
  | .long v :: vs => some (.long v) :: none :: zargs vs
  | .double v :: vs => some (.double v) :: none :: zargs vs
  | v :: vs => some v :: zargs vs
def zent (vs : List Value) (nL : Nat) : zL := zargs vs ++ List.replicate (nL - (zargs vs).length) none
theorem zargs_at {G : zG} : ∀ (vs : List Value) (b j : Nat) (v : Value), (zargs vs)[j]? = some (some v) → (b + j, zv G v) ∈ lv_args b (vs.map (zv G)) := by
  intro vs
  induction vs with
  | nil => intro b j v h; simp [zargs] at h
  | cons u vs ih =>
    intro b j v h
    have two : ∀ (x : Value), x.category = 2 → (zargs (x :: vs) = some x :: none :: zargs vs) → u = x → (b + j, zv G v) ∈ lv_args b ((u :: vs).map (zv G)) := by
      intro x hx he hu
      subst hu
      rw [he] at h
      show _ ∈ (b, zv G u) :: lv_args (if (zv G u).category = 2 then b + 2 else b + 1) (vs.map (zv G))
      rw [zv_cat, if_pos hx]
      match j, h with
      | 0, h => simp at h; subst h; exact List.mem_cons_self
      | 1, h => simp at h
      | j + 2, h =>
        have h2 : (zargs vs)[j]? = some (some v) := by simpa using h
        have := ih (b + 2) j v h2
        rw [show b + (j + 2) = b + 2 + j by omega]
        exact List.mem_cons_of_mem _ this
    have one : u.category = 1 → (zargs (u :: vs) = some u :: zargs vs) → (b + j, zv G v) ∈ lv_args b ((u :: vs).map (zv G)) := by
      intro hx he
      rw [he] at h
      show _ ∈ (b, zv G u) :: lv_args (if (zv G u).category = 2 then b + 2 else b + 1) (vs.map (zv G))
      rw [zv_cat, if_neg (by omega)]
      match j, h with
      | 0, h => simp at h; subst h; exact List.mem_cons_self
      | j + 1, h =>
        have h2 : (zargs vs)[j]? = some (some v) := by simpa using h
        have := ih (b + 1) j v h2
        rw [show b + (j + 1) = b + 1 + j by omega]
        exact List.mem_cons_of_mem _ this
    cases u with
    | int x => exact one rfl rfl
    | long x => exact two (.long x) rfl rfl rfl
    | float x => exact one rfl rfl
    | double x => exact two (.double x) rfl rfl rfl
    | null => exact one rfl rfl
    | ref x => exact one rfl rfl
    | retAddr x => exact one rfl rfl
theorem zent_has {G : zG} {vs : List Value} {nL : Nat} (h : (lg_sl (vs.map (zv G))).length ≤ nL) : zLs G ((lg_sl (vs.map (zv G)) ++ List.replicate (nL - (lg_sl (vs.map (zv G))).length) Slot.unset).toArray) nL (zent vs nL) := by
  refine lv_mono (lv_entry (vs.map (zv G)) h) ?_
  rintro ⟨j, w⟩ hq
  obtain ⟨v, h1, rfl⟩ := zprs_in.mp hq
  unfold zent at h1
  by_cases hj : j < (zargs vs).length
  · rw [List.getElem?_append_left hj] at h1
    have := zargs_at (G := G) vs 0 j v h1
    rwa [Nat.zero_add] at this
  · rw [List.getElem?_append_right (by omega)] at h1
    have := List.eq_of_mem_replicate (List.mem_of_getElem? h1)
    cases this
/-! the judgement -/
abbrev zR (d mc ms : Nat) : Room := { frames := d, cells := mc, slots := ms, locals := 36 * d }
def zF (M : zM) (G : zG) (p : Program) (s : State) (m : MethodId) (args : Array Value) (meth : Method) (c : Code) : Prop :=
  p.tables.exec = Jvm.exec ∧ c.code = M.2.1 ∧ c.maxLocals = M.2.2.1 ∧ meth.sig.returnType = M.2.2.2 ∧ s.vm.findClass M.1.cls = some m.cls ∧ (∀ w ∈ zts, w.before args s = true) ∧ zK G s ∧ zS G s s.heap ∧ meth.locks = false ∧ meth.name = M.1.name ∧ G.1 ≤ s.heap.size
def zFin (M : zM) (pc : Nat) (r : Option Value) : Prop :=
  (M.2.2.2 = none ∧ r = none ∧ decode M.2.1 pc = .ok (.return_, 1)) ∨ (∃ ty v, M.2.2.2 = some ty ∧ r = some (.int v) ∧ narrow ty (.int v) = .int v ∧ decode M.2.1 pc = .ok (.ireturn, 1)) ∨ (∃ v, M.2.2.2 = some .long ∧ r = some (.long v) ∧ decode M.2.1 pc = .ok (.lreturn, 1)) ∨ ∃ nm a, M.2.2.2 = some (.object nm) ∧ r = some (.ref a) ∧ decode M.2.1 pc = .ok (.areturn, 1)
def zEnd (M : zM) (d mc ms : Nat) (l : Launch) (p : Program) (e : Env) (s : State) (m : MethodId) (args : Array Value) (below : List Frame) (meth : Method) (c : Code) (Q : State → Prop) (G : zG) (X : zX) : Prop :=
  ∀ (H : Heap) (locs : List Loc) (arr : Array Slot) (pc : Nat), zFin M pc X.1 → zRep G X.2 H → va_S (zA G) s.heap H locs → W p l e (zR d mc ms) s m args below meth c H locs mc ms Q (F0 m pc arr ((X.1.map (zv G)).toList))
/-- at pc of M, with these locals, this stack and heap, k cells and n slots made: it comes to its end with X -/
def ZW (M : zM) (d mc ms pc : Nat) (ls : zL) (st : List Value) (h : zH) (k n : Nat) (X : zX) : Prop :=
  ∀ (l : Launch) (p : Program) (e : Env) (s : State) (m : MethodId) (args : Array Value) (below : List Frame) (meth : Method) (c : Code) (Q : State → Prop) (G : zG), zF M G p s m args meth c → zEnd M d mc ms l p e s m args below meth c Q G X →
    ∀ (H : Heap) (locs : List Loc) (arr : Array Slot), zRep G h H → va_S (zA G) s.heap H locs → zLs G arr M.2.2.1 ls → W p l e (zR d mc ms) s m args below meth c H locs k n Q (F0 m pc arr (st.map (zv G)))
def zQ (G : zG) (X : zX) : Array Value → State → Outcome → State → Prop := fun _ st o t => (o = .returned (X.1.map (zv G)) ∧ zRep G X.2 t.heap) ∧ va_F (zA G) st t
abbrev zws (M : zM) : List Cond := Cond.code M.1 M.2.1 M.2.2.1 M.2.2.2 :: zts
def zU (G : zG) (h : zH) (U : State) : Prop := zRep G h U.heap ∧ zK G U ∧ zS G U U.heap ∧ G.1 ≤ U.heap.size
/-- M, with these arguments and this heap, d frames deep: it returns X, with mc cells and ms slots made -/
def zEv (d : Nat) (M : zM) (mc ms : Nat) (As : List Value) (h : zH) (X : zX) : Prop :=
  ∀ (l : Launch) (G : zG), Met l M.1 (zws M) (zR d mc ms) (va_Pc (As.map (zv G)) (zU G h)) (zQ G X) mc ms (zA G)
