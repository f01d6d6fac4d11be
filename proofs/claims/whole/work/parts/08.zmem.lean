/-! ===== the made system: its shape stays, its numbers are a memory ===== -/
/-- ints by address and place, longs by address and place -/
abbrev zm : Type := (Nat → Nat → Int32) × (Nat → Nat → Int64)
/-- an object: its class and its fields (none: an int; some: where it points); an array: kind, length, where it points -/
abbrev zSh : Type := (Nat × List (Option Nat)) ⊕ (Nat × Nat × (Nat → Option Nat))
def zno : Nat → Option Nat := fun _ => none
def zsWay : zSh := .inl (6, [none, none, none, none])
def zsPer : zSh := .inl (4, [none, none, none, none, none, none, none, none])
def zsLea (w p : Nat) : zSh := .inl (3, [none, none, none, none, some w, some p])
def zsRef (kd N b : Nat) : zSh := .inr (kd, N, fun j => if j < N then some (b + j) else none)
def zsh (a : Nat) : zSh :=
  if a < 10 then (if a = 0 then .inl (7, [some 1, some 10, some 11, none, some 12, none, none, some 14, some 29, some 44, some 45, some 46, some 144, some 146, some 148]) else if a = 1 then zsRef 3 8 2 else .inr (0, 40, zno))
  else if a < 48 then (if a = 10 then .inr (0, 8, zno) else if a = 11 then .inr (0, 8, zno) else if a = 12 then .inl (5, [some 13, none, none, none, none, none, none, none]) else if a = 13 then .inr (0, 400, zno)
    else if a = 14 then zsLea 15 16 else if a = 15 then zsRef 4 8 17 else if a = 16 then zsRef 5 4 25 else if a < 25 then zsWay else if a < 29 then zsPer
    else if a = 29 then zsLea 30 31 else if a = 30 then zsRef 4 8 32 else if a = 31 then zsRef 5 4 40 else if a < 40 then zsWay else if a < 44 then zsPer
    else if a = 44 then .inr (6, 2, fun j => if j = 0 then some 150 else if j = 1 then some 165 else none) else if a = 45 then .inr (2, 2, zno) else if a = 46 then .inl (0, [some 47, none, none]) else zsRef 5 96 48)
  else if a < 144 then zsPer
  else if a < 180 then (if a = 144 then .inl (2, [some 145]) else if a = 145 then .inr (1, 205, zno) else if a = 146 then .inl (2, [some 147]) else if a = 147 then .inr (1, 205, zno) else if a = 148 then .inl (1, [some 149, none]) else if a = 149 then .inr (0, 16, zno)
    else if a = 150 then zsLea 151 152 else if a = 151 then zsRef 4 8 153 else if a = 152 then zsRef 5 4 161 else if a < 161 then zsWay else if a < 165 then zsPer
    else if a = 165 then zsLea 166 167 else if a = 166 then zsRef 4 8 168 else if a = 167 then zsRef 5 4 176 else if a < 176 then zsWay else zsPer)
  else (if a = 180 then .inl (8, [none, none, some 181, some 182, some 183, some 184, some 185, some 186, none, some 187, none, none, none, none, none, none, none, none, none, some 188, some 189, some 190, some 191, some 192, none])
    else if a = 181 then .inr (0, 8, zno) else if a = 182 then .inr (0, 8, zno) else if a = 183 then .inr (0, 320, zno) else if a = 184 then .inr (0, 68, zno) else if a = 185 then .inr (0, 68, zno) else if a = 186 then .inr (0, 1632, zno) else if a = 187 then .inr (0, 400, zno)
    else if a = 188 then .inr (1, 205, zno) else if a = 189 then .inr (1, 205, zno) else if a = 190 then .inr (2, 2, zno) else if a = 191 then .inr (0, 136, zno) else .inr (0, 16, zno))
def zfv (m : zm) (a k : Nat) (o : Option Nat) : Value := match o with
  | some r => Value.ref r
  | none => Value.int (m.1 a k)
def zflds (m : zm) (a : Nat) (sl : List (Option Nat)) : List Value := sl.zipIdx.map (fun q => zfv m a q.2 q.1)
theorem zfv_n (m : zm) (a k : Nat) : zfv m a k none = .int (m.1 a k) := rfl
def zcell (m : zm) (a : Nat) : zE := match zsh a with
  | .inl (ci, sl) => .inr (ci, zflds m a sl)
  | .inr (kd, N, f) => if kd = 1 then .inl (1, N, .inr (.inl (m.2 a))) else if kd = 0 ∨ kd = 2 then .inl (kd, N, .inl (m.1 a)) else .inl (kd, N, .inr (.inr (.inr (.inr f))))
def lay (m : zm) : zH := (List.range 193).map (zcell m)
theorem lay_at {m : zm} {a : Nat} (h : a < 193) : (lay m)[a]? = some (zcell m a) := by
  unfold lay
  rw [List.getElem?_map, List.getElem?_range h]
  rfl
def upI (m : zm) (a k : Nat) (v : Int32) : zm := (fun b j => if b = a ∧ j = k then v else m.1 b j, m.2)
def upL (m : zm) (a k : Nat) (v : Int64) : zm := (m.1, fun b j => if b = a ∧ j = k then v else m.2 b j)
theorem upI_eq (m : zm) (a k : Nat) (v : Int32) : (upI m a k v).1 a k = v := by simp [upI]
theorem upI_ne {m : zm} {a k b j : Nat} {v : Int32} (h : ¬ (b = a ∧ j = k)) : (upI m a k v).1 b j = m.1 b j := by simp [upI, h]
theorem upI_na {m : zm} {a k b : Nat} {v : Int32} (h : b ≠ a) : (upI m a k v).1 b = m.1 b := by
  funext j
  exact upI_ne (fun z => h z.1)
theorem upL_na {m : zm} {a k b : Nat} {v : Int64} (h : b ≠ a) : (upL m a k v).2 b = m.2 b := by
  funext j
  simp [upL, h]
theorem zcell_congr {m m' : zm} {b : Nat} (h1 : m'.1 b = m.1 b) (h2 : m'.2 b = m.2 b) : zcell m' b = zcell m b := by
  have e : zfv m' b = zfv m b := by
    funext k o
    cases o with
    | none => show Value.int (m'.1 b k) = Value.int (m.1 b k); rw [h1]
    | some r => rfl
  simp only [zcell, zflds, e, h1, h2]
theorem lay_set {m m' : zm} {a : Nat} (h1 : ∀ b, b ≠ a → m'.1 b = m.1 b) (h2 : ∀ b, b ≠ a → m'.2 b = m.2 b) : (lay m).set a (zcell m' a) = lay m' := by
  apply List.ext_getElem?
  intro i
  by_cases hi : i < 193
  · by_cases ha : i = a
    · subst ha
      rw [lay_at hi, List.getElem?_set_self (by simpa [lay] using hi)]
    · rw [List.getElem?_set_ne (fun z => ha z.symm), lay_at hi, lay_at hi, zcell_congr (h1 i ha) (h2 i ha)]
  · rw [List.getElem?_eq_none (by simp [lay]; omega), List.getElem?_eq_none (by simp [lay]; omega)]
/-- the int field k of an object of class ci at a -/
def okI (a ci k : Nat) : Prop := a < 193 ∧ ∃ sl, zsh a = .inl (ci, sl) ∧ sl[k]? = some none
def okR (a ci k r : Nat) : Prop := a < 193 ∧ ∃ sl, zsh a = .inl (ci, sl) ∧ sl[k]? = some (some r)
def okO (a ci : Nat) : Prop := a < 193 ∧ ∃ sl, zsh a = .inl (ci, sl)
def okA (a kd N : Nat) : Prop := a < 193 ∧ ∃ f, zsh a = .inr (kd, N, f)
def okP (a kd N : Nat) (j b : Nat) : Prop := a < 193 ∧ ∃ f, zsh a = .inr (kd, N, f) ∧ j < N ∧ f j = some b
theorem zflds_at {m : zm} {a : Nat} {sl : List (Option Nat)} {k : Nat} {o : Option Nat} (h : sl[k]? = some o) : (zflds m a sl)[k]? = some (zfv m a k o) := by
  unfold zflds
  rw [List.getElem?_map, List.getElem?_zipIdx, h]
  simp
theorem zcell_o {m : zm} {a ci : Nat} {sl : List (Option Nat)} (h : zsh a = .inl (ci, sl)) : zcell m a = .inr (ci, zflds m a sl) := by
  unfold zcell
  rw [h]
theorem zcell_a {m : zm} {a N : Nat} {kd : Nat} {f : Nat → Option Nat} (hk : kd = 0 ∨ kd = 2) (h : zsh a = .inr (kd, N, f)) : zcell m a = .inl (kd, N, .inl (m.1 a)) := by
  unfold zcell
  rw [h]
  rcases hk with rfl | rfl <;> simp
theorem zcell_l {m : zm} {a N : Nat} {f : Nat → Option Nat} (h : zsh a = .inr (1, N, f)) : zcell m a = .inl (1, N, .inr (.inl (m.2 a))) := by
  unfold zcell
  rw [h]
  simp
theorem zcell_p {m : zm} {a N : Nat} {kd : Nat} {f : Nat → Option Nat} (hk : kd = 3 ∨ kd = 4 ∨ kd = 5 ∨ kd = 6) (h : zsh a = .inr (kd, N, f)) : zcell m a = .inl (kd, N, .inr (.inr (.inr (.inr f)))) := by
  unfold zcell
  rw [h]
  rcases hk with rfl | rfl | rfl | rfl <;> simp
theorem zflds_up {m : zm} {a k : Nat} {v : Int32} : ∀ {sl : List (Option Nat)}, sl[k]? = some none → (zflds m a sl).set k (.int v) = zflds (upI m a k v) a sl := by
  intro sl hk
  apply List.ext_getElem?
  intro i
  by_cases hi : i < sl.length
  · obtain ⟨o, ho⟩ : ∃ o, sl[i]? = some o := ⟨_, List.getElem?_eq_getElem hi⟩
    by_cases he : i = k
    · subst he
      rw [List.getElem?_set_self (by simpa [zflds] using hi), zflds_at hk]
      simp [upI, zfv]
    · rw [List.getElem?_set_ne (fun z => he z.symm), zflds_at ho, zflds_at ho]
      cases o
      · simp [upI, zfv, he]
      · rfl
  · rw [List.getElem?_eq_none (by simp [zflds]; omega), List.getElem?_eq_none (by simp [zflds]; omega)]
theorem zm_upd {m : zm} {a j : Nat} {v : Int32} : upd (m.1 a) j v = (upI m a j v).1 a := by
  funext i
  by_cases h : i = j <;> simp [upd, upI, h]
theorem zm_updL {m : zm} {a j : Nat} {v : Int64} : vp_updL (m.2 a) j v = (upL m a j v).2 a := by
  funext i
  by_cases h : i = j <;> simp [vp_updL, upL, h]
theorem m_getI {M : zM} {d mc ms pc q : Nat} {ls : zL} {st : List Value} {m : zm} {k n : Nat} {X : zX} {index ci kx a : Nat} (hd : decode M.2.1 pc = .ok (.getfield index, 3)) (hf : zFl M.1.cls index ci kx) (ho : okI a ci kx) (hq : pc + 3 = q) (kk : ZW M d mc ms q ls (.int (m.1 a kx) :: st) (lay m) k n X) : ZW M d mc ms pc ls (.ref a :: st) (lay m) k n X := by
  obtain ⟨h1, sl, h2, h3⟩ := ho
  exact z_getf hd hf (by rw [lay_at h1, zcell_o h2]) (zflds_at h3) hq kk
theorem m_getR {M : zM} {d mc ms pc q : Nat} {ls : zL} {st : List Value} {m : zm} {k n : Nat} {X : zX} {index ci kx a r : Nat} (hd : decode M.2.1 pc = .ok (.getfield index, 3)) (hf : zFl M.1.cls index ci kx) (ho : okR a ci kx r) (hq : pc + 3 = q) (kk : ZW M d mc ms q ls (.ref r :: st) (lay m) k n X) : ZW M d mc ms pc ls (.ref a :: st) (lay m) k n X := by
  obtain ⟨h1, sl, h2, h3⟩ := ho
  exact z_getf hd hf (by rw [lay_at h1, zcell_o h2]) (zflds_at h3) hq kk
theorem m_putI {M : zM} {d mc ms pc q : Nat} {ls : zL} {st : List Value} {m : zm} {k n : Nat} {X : zX} {index ci kx a : Nat} {v : Int32} {ty : FieldType} (hd : decode M.2.1 pc = .ok (.putfield index, 3)) (hf : zFp M.1.cls index ci kx ty false) (ho : okI a ci kx) (hn : narrow ty (.int v) = .int v ∧ fits ty (.int v) = true) (hq : pc + 3 = q) (kk : ZW M d mc ms q ls st (lay (upI m a kx v)) k n X) : ZW M d mc ms pc ls (.int v :: .ref a :: st) (lay m) k n X := by
  obtain ⟨h1, sl, h2, h3⟩ := ho
  have hl : kx < sl.length := (List.getElem?_eq_some_iff.mp h3).1
  refine z_putf hd hf (by rw [lay_at h1, zcell_o h2]) (by simpa [zflds] using hl) (fun G => hn) hq ?_
  rw [zflds_up h3, ← zcell_o (m := upI m a kx v) h2, lay_set (fun b hb => upI_na hb) (fun b hb => rfl)]
  exact kk
theorem m_iald {M : zM} {d mc ms pc q : Nat} {ls : zL} {st : List Value} {m : zm} {k n : Nat} {X : zX} {a N : Nat} {i : Int32} (hd : decode M.2.1 pc = .ok (.iaload, 1)) (ho : okA a 0 N) (hi : vp_in i N) (hq : pc + 1 = q) (kk : ZW M d mc ms q ls (.int (m.1 a i.toNatClampNeg) :: st) (lay m) k n X) : ZW M d mc ms pc ls (.int i :: .ref a :: st) (lay m) k n X := by
  obtain ⟨h1, f, h2⟩ := ho
  exact z_iaload hd (by rw [lay_at h1, zcell_a (Or.inl rfl) h2]) hi hq kk
theorem m_zald {M : zM} {d mc ms pc q : Nat} {ls : zL} {st : List Value} {m : zm} {k n : Nat} {X : zX} {a N : Nat} {i : Int32} (hd : decode M.2.1 pc = .ok (.baload, 1)) (ho : okA a 2 N) (hi : vp_in i N) (hq : pc + 1 = q) (kk : ZW M d mc ms q ls (.int (m.1 a i.toNatClampNeg) :: st) (lay m) k n X) : ZW M d mc ms pc ls (.int i :: .ref a :: st) (lay m) k n X := by
  obtain ⟨h1, f, h2⟩ := ho
  exact z_zaload hd (by rw [lay_at h1, zcell_a (Or.inr rfl) h2]) hi hq kk
theorem m_lald {M : zM} {d mc ms pc q : Nat} {ls : zL} {st : List Value} {m : zm} {k n : Nat} {X : zX} {a N : Nat} {i : Int32} (hd : decode M.2.1 pc = .ok (.laload, 1)) (ho : okA a 1 N) (hi : vp_in i N) (hq : pc + 1 = q) (kk : ZW M d mc ms q ls (.long (m.2 a i.toNatClampNeg) :: st) (lay m) k n X) : ZW M d mc ms pc ls (.int i :: .ref a :: st) (lay m) k n X := by
  obtain ⟨h1, f, h2⟩ := ho
  exact z_laload hd (by rw [lay_at h1, zcell_l h2]) hi hq kk
theorem m_aald {M : zM} {d mc ms pc q : Nat} {ls : zL} {st : List Value} {m : zm} {k n : Nat} {X : zX} {kd a N b : Nat} {i : Int32} (hd : decode M.2.1 pc = .ok (.aaload, 1)) (hk : kd = 3 ∨ kd = 4 ∨ kd = 5 ∨ kd = 6) (ho : okP a kd N i.toNatClampNeg b) (hi : 0 ≤ i) (hq : pc + 1 = q) (kk : ZW M d mc ms q ls (.ref b :: st) (lay m) k n X) : ZW M d mc ms pc ls (.int i :: .ref a :: st) (lay m) k n X := by
  obtain ⟨h1, f, h2, h3, h4⟩ := ho
  exact z_aaload hd hk (by rw [lay_at h1, zcell_p hk h2]) (fun z => z.elim (fun z => absurd hi (by rw [Int32.not_le]; exact z)) (fun z => by omega)) h4 hq kk
theorem m_iast {M : zM} {d mc ms pc q : Nat} {ls : zL} {st : List Value} {m : zm} {k n : Nat} {X : zX} {a N : Nat} {i x : Int32} (hd : decode M.2.1 pc = .ok (.iastore, 1)) (ho : okA a 0 N) (hi : vp_in i N) (hq : pc + 1 = q) (kk : ZW M d mc ms q ls st (lay (upI m a i.toNatClampNeg x)) k n X) : ZW M d mc ms pc ls (.int x :: .int i :: .ref a :: st) (lay m) k n X := by
  obtain ⟨h1, f, h2⟩ := ho
  refine z_iastore hd (by rw [lay_at h1, zcell_a (Or.inl rfl) h2]) hi hq ?_
  rw [zm_upd, ← zcell_a (m := upI m a i.toNatClampNeg x) (Or.inl rfl) h2, lay_set (fun b hb => upI_na hb) (fun b hb => rfl)]
  exact kk
theorem m_zast {M : zM} {d mc ms pc q : Nat} {ls : zL} {st : List Value} {m : zm} {k n : Nat} {X : zX} {a N : Nat} {i x : Int32} (hd : decode M.2.1 pc = .ok (.bastore, 1)) (ho : okA a 2 N) (hi : vp_in i N) (hq : pc + 1 = q) (kk : ZW M d mc ms q ls st (lay (upI m a i.toNatClampNeg (vp_nar .boolean x))) k n X) : ZW M d mc ms pc ls (.int x :: .int i :: .ref a :: st) (lay m) k n X := by
  obtain ⟨h1, f, h2⟩ := ho
  refine z_zastore hd (by rw [lay_at h1, zcell_a (Or.inr rfl) h2]) hi hq ?_
  rw [zm_upd, ← zcell_a (m := upI m a i.toNatClampNeg (vp_nar .boolean x)) (Or.inr rfl) h2, lay_set (fun b hb => upI_na hb) (fun b hb => rfl)]
  exact kk
theorem m_last {M : zM} {d mc ms pc q : Nat} {ls : zL} {st : List Value} {m : zm} {k n : Nat} {X : zX} {a N : Nat} {i : Int32} {x : Int64} (hd : decode M.2.1 pc = .ok (.lastore, 1)) (ho : okA a 1 N) (hi : vp_in i N) (hq : pc + 1 = q) (kk : ZW M d mc ms q ls st (lay (upL m a i.toNatClampNeg x)) k n X) : ZW M d mc ms pc ls (.long x :: .int i :: .ref a :: st) (lay m) k n X := by
  obtain ⟨h1, f, h2⟩ := ho
  refine z_lastore hd (by rw [lay_at h1, zcell_l h2]) hi hq ?_
  rw [zm_updL, ← zcell_l (m := upL m a i.toNatClampNeg x) h2, lay_set (m := m) (m' := upL m a i.toNatClampNeg x) (fun b hb => rfl) (fun b hb => upL_na hb)]
  exact kk
theorem m_callV {M : zM} {d mc ms pc q : Nat} {ls : zL} {st : List Value} {m : zm} {k n : Nat} {X : zX} {M1 : zM} {np index ci a : Nat} {As rest : List Value} {X1 : zX} {T : u_T} {N : Nat} (hm : zMk M1 np) (hd : decode M.2.1 pc = .ok (.invokevirtual index, 3)) (hl : Cond.methodLink M.1.cls index M1.1 ∈ zts) (hi : Cond.instanceMethod M1.1 ∈ zts) (hse : Cond.selects M1.1.cls M1.1 M1.1 ∈ zts) (hc : vwCl[ci]? = some (M1.1.cls, T, N)) (ho : okO a ci) (ev : zEv d M1 0 0 (.ref a :: As) (lay m) X1) (hnp : As.length = np) (hrest : (rest.map fun v => v.category).sum ≤ 8) (hst : As.reverse ++ .ref a :: rest = st) (hk : k ≤ mc) (hn : n ≤ ms) (hq : pc + 3 = q) (kk : ZW M (d + 1) mc ms q ls (X1.1.toList ++ rest) X1.2 k n X) : ZW M (d + 1) mc ms pc ls st (lay m) k n X := by
  obtain ⟨h1, sl, h2⟩ := ho
  exact z_callV hm hd hl hi hse hc (by rw [lay_at h1, zcell_o h2]) ev hnp hrest hst hk hn hq kk
