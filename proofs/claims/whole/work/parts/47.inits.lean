/-! ===== the constructors ===== -/
def zmk (n : Nat) (c : Nat → zE) : zH := (List.range n).map c
def zup (c : Nat → zE) (a : Nat) (e : zE) : Nat → zE := fun b => if b = a then e else c b
theorem zmk_len (n : Nat) (c : Nat → zE) : (zmk n c).length = n := by simp [zmk]
theorem zmk_at {n : Nat} {c : Nat → zE} {a : Nat} {e : zE} (h : a < n) (hc : c a = e) : (zmk n c)[a]? = some e := by
  unfold zmk
  rw [List.getElem?_map, List.getElem?_range h]
  exact congrArg some hc
theorem zmk_congr {n : Nat} {c c' : Nat → zE} (h : ∀ a, a < n → c a = c' a) : zmk n c = zmk n c' := by
  unfold zmk
  apply List.map_congr_left
  intro a ha
  exact h a (List.mem_range.mp ha)
theorem zmk_push {n : Nat} {c : Nat → zE} {e : zE} : zmk n c ++ [e] = zmk (n + 1) (zup c n e) := by
  unfold zmk
  rw [List.range_succ, List.map_append]
  congr 1
  · apply List.map_congr_left
    intro a ha
    have := List.mem_range.mp ha
    simp only [zup]
    rw [if_neg (by omega)]
  · simp [zup]
theorem zmk_set {n : Nat} {c : Nat → zE} {a : Nat} {e : zE} : (zmk n c).set a e = zmk n (zup c a e) := by
  apply List.ext_getElem?
  intro i
  by_cases hi : i < n
  · by_cases ha : i = a
    · subst ha
      rw [List.getElem?_set_self (by rw [zmk_len]; exact hi), zmk_at hi rfl]
      simp [zup]
    · rw [List.getElem?_set_ne (fun z => ha z.symm), zmk_at hi rfl, zmk_at hi rfl]
      simp [zup, ha]
  · rw [List.getElem?_eq_none (by rw [List.length_set, zmk_len]; omega), List.getElem?_eq_none (by rw [zmk_len]; omega)]
theorem zup_self {c : Nat → zE} {a : Nat} {e : zE} (h : c a = e) : zup c a e = c := by
  funext b
  simp only [zup]
  by_cases hb : b = a
  · rw [if_pos hb, hb, h]
  · rw [if_neg hb]
def cgrid (c : Nat → zE) (n : Nat) : Nat → zE := fun b => if b = n then .inl (3, 8, .inr (.inr (.inr (.inr (fun j => if j < 8 then some (n + 1 + j) else none))))) else if n < b ∧ b < n + 9 then .inl (0, 40, .inl fun _ => 0) else c b
theorem cgrid_eq {c : Nat → zE} {n : Nat} : zmk n c ++ zGrid n = zmk (n + 9) (cgrid c n) := by
  apply List.ext_getElem?
  intro i
  by_cases hi : i < n
  · rw [List.getElem?_append_left (by rw [zmk_len]; exact hi), zmk_at hi rfl, zmk_at (by omega) rfl]
    simp only [cgrid]
    rw [if_neg (by omega), if_neg (by omega)]
  · rw [List.getElem?_append_right (by rw [zmk_len]; omega), zmk_len]
    obtain ⟨j, rfl⟩ : ∃ j, i = n + j := ⟨i - n, by omega⟩
    rw [show n + j - n = j by omega]
    have row : ∀ k, 0 < k → k < 9 → (zmk (n + 9) (cgrid c n))[n + k]? = some (.inl (0, 40, .inl fun _ => 0)) := fun k h1 h2 => zmk_at (by omega) (by
      simp only [cgrid]
      rw [if_neg (by omega), if_pos (by omega)])
    match j with
    | 0 => exact (zmk_at (by omega) (if_pos rfl)).symm
    | 1 => exact (row 1 (by decide) (by decide)).symm
    | 2 => exact (row 2 (by decide) (by decide)).symm
    | 3 => exact (row 3 (by decide) (by decide)).symm
    | 4 => exact (row 4 (by decide) (by decide)).symm
    | 5 => exact (row 5 (by decide) (by decide)).symm
    | 6 => exact (row 6 (by decide) (by decide)).symm
    | 7 => exact (row 7 (by decide) (by decide)).symm
    | 8 => exact (row 8 (by decide) (by decide)).symm
    | j + 9 => rw [List.getElem?_eq_none (by simp [zGrid]), List.getElem?_eq_none (by rw [zmk_len]; omega)]
section CR
variable {M : zM} {d mc ms pc q : Nat} {ls : zL} {st : List Value} {c : Nat → zE} {n0 k n : Nat} {X : zX}
theorem c_new {index ci N : Nat} {C : String} {T : u_T} {fs : List Value} {ty : Nat → FieldType} (hd : decode M.2.1 pc = .ok (.new index, 3)) (hc : vwCl[ci]? = some (C, T, N)) (hin : ∀ w ∈ u_ws C T N, w ∈ zts) (hty : ∀ k, k < N → parseFieldDescriptor (T k).2.2.1 = some (ty k)) (hcl : Cond.classLink M.1.cls index C ∈ zts) (hinst : Cond.instantiable C N ∈ zts) (hini : Cond.initialized C ∈ zts) (hfs : ∀ j, j < N → defaultValue (ty j) = vp_V fs j) (hnr : ∀ G : zG, fs.map (zv G) = fs) (hl : n0 < 1000000) (hk : k + 1 ≤ mc) (hn : n + N ≤ ms) (hq : pc + 3 = q) (kk : ZW M d mc ms q ls (.ref n0 :: st) (zmk (n0 + 1) (zup c n0 (.inr (ci, fs)))) (k + 1) (n + N) X) : ZW M d mc ms pc ls st (zmk n0 c) k n X := by
  refine z_new hd hc hin hty hcl hinst hini hfs hnr (by rw [zmk_len]; exact hl) hk hn hq ?_
  rw [zmk_len, zmk_push]
  exact kk
theorem c_newa {atype : ArrayType} {ty : FieldType} {kd N : Nat} {i : Int32} {x : (Nat → Int32) ⊕ (Nat → Int64) ⊕ (Nat → UInt32) ⊕ (Nat → UInt64) ⊕ (Nat → Option Nat)} (hd : decode M.2.1 pc = .ok (.newarray atype, 2)) (hty : newarray.typeOf atype = ty) (harr : Cond.arrayClass ty ∈ zts) (hT : ∀ G : zG, (zT G)[kd]? = some (G.2.2.1 kd, ty)) (hra : ∀ (U : State) (cA : ClassId), va_RA U cA ty → U.vm.findClass ("[" ++ ty.toString) = some cA) (ha : ∀ cA : ClassId, vp_cell cA (N, x) = arrV cA N (fun _ => defaultValue ty)) (hzc : ∀ G : zG, zc G (.inl (kd, N, x)) = .inl (G.2.2.1 kd, N, x)) (hi : ¬ i < 0) (hN : i.toNatClampNeg = N) (hb : N * componentBytes ty ≤ 536870912) (hl : n0 < 1000000) (hk : k + 1 ≤ mc) (hn : n + N ≤ ms) (hq : pc + 2 = q) (kk : ZW M d mc ms q ls (.ref n0 :: st) (zmk (n0 + 1) (zup c n0 (.inl (kd, N, x)))) (k + 1) (n + N) X) : ZW M d mc ms pc ls (.int i :: st) (zmk n0 c) k n X := by
  refine z_newa hd hty harr hT hra ha hzc hi hN hb (by rw [zmk_len]; exact hl) hk hn hq ?_
  rw [zmk_len, zmk_push]
  exact kk
theorem c_newq {index kd N : Nat} {C : String} {i : Int32} (hd : decode M.2.1 pc = .ok (.anewarray index, 3)) (hcl : Cond.classLink M.1.cls index C ∈ zts) (hC : C ∈ ["YoungerBack$Way", "YoungerBack$Person", "YoungerBack$League"]) (hT : ∀ G : zG, (zT G)[kd]? = some (G.2.2.1 kd, .object C)) (hi : ¬ i < 0) (hN : i.toNatClampNeg = N) (hb : N * 4 ≤ 536870912) (hl : n0 < 1000000) (hk : k + 1 ≤ mc) (hn : n + N ≤ ms) (hq : pc + 3 = q) (kk : ZW M d mc ms q ls (.ref n0 :: st) (zmk (n0 + 1) (zup c n0 (.inl (kd, N, .inr (.inr (.inr (.inr (fun _ => none)))))))) (k + 1) (n + N) X) : ZW M d mc ms pc ls (.int i :: st) (zmk n0 c) k n X := by
  refine z_newq hd hcl hC hT hi hN hb (by rw [zmk_len]; exact hl) hk hn hq ?_
  rw [zmk_len, zmk_push]
  exact kk
theorem c_multi {index : Nat} (hd : decode M.2.1 pc = .ok (.multianewarray index 2, 4)) (hcl : Cond.classLink M.1.cls index "[[I" ∈ zts) (harr : Cond.arrayClass .int ∈ zts) (hl : n0 + 9 ≤ 1000000) (hk : k + 9 ≤ mc) (hn : n + 328 ≤ ms) (hq : pc + 4 = q) (kk : ZW M d mc ms q ls (.ref n0 :: st) (zmk (n0 + 9) (cgrid c n0)) (k + 9) (n + 328) X) : ZW M d mc ms pc ls (.int 40 :: .int 8 :: st) (zmk n0 c) k n X := by
  refine z_multi hd hcl harr (by rw [zmk_len]; exact hl) hk hn hq ?_
  rw [zmk_len, cgrid_eq]
  exact kk
theorem c_putf {a ci kx index : Nat} {fs : List Value} {v : Value} {ty : FieldType} {fin : Bool} (hd : decode M.2.1 pc = .ok (.putfield index, 3)) (hf : zFp M.1.cls index ci kx ty fin) (hini : fin = true → M.1.name = "<init>") (ha : a < n0) (hc : c a = .inr (ci, fs)) (hl : kx < fs.length) (hn : ∀ G : zG, narrow ty (zv G v) = zv G v ∧ fits ty (zv G v) = true) (hq : pc + 3 = q) (kk : ZW M d mc ms q ls st (zmk n0 (zup c a (.inr (ci, fs.set kx v)))) k n X) : ZW M d mc ms pc ls (v :: .ref a :: st) (zmk n0 c) k n X := by
  cases fin with
  | true =>
    refine z_putF hd hf (hini rfl) (zmk_at ha hc) hl hn hq ?_
    rw [zmk_set]
    exact kk
  | false =>
    refine z_putf hd hf (zmk_at ha hc) hl hn hq ?_
    rw [zmk_set]
    exact kk
theorem c_getf {a ci kx index : Nat} {fs : List Value} {v : Value} (hd : decode M.2.1 pc = .ok (.getfield index, 3)) (hf : zFl M.1.cls index ci kx) (ha : a < n0) (hc : c a = .inr (ci, fs)) (hv : fs[kx]? = some v) (hq : pc + 3 = q) (kk : ZW M d mc ms q ls (v :: st) (zmk n0 c) k n X) : ZW M d mc ms pc ls (.ref a :: st) (zmk n0 c) k n X := z_getf hd hf (zmk_at ha hc) hv hq kk
theorem c_iast {a N : Nat} {i x : Int32} {f : Nat → Int32} (hd : decode M.2.1 pc = .ok (.iastore, 1)) (ha : a < n0) (hc : c a = .inl (0, N, .inl f)) (hi : vp_in i N) (hq : pc + 1 = q) (kk : ZW M d mc ms q ls st (zmk n0 (zup c a (.inl (0, N, .inl (upd f i.toNatClampNeg x))))) k n X) : ZW M d mc ms pc ls (.int x :: .int i :: .ref a :: st) (zmk n0 c) k n X := by
  refine z_iastore hd (zmk_at ha hc) hi hq ?_
  rw [zmk_set]
  exact kk
theorem c_aast {kd N a b ci Nn : Nat} {i : Int32} {f : Nat → Option Nat} {vs : List Value} {C : String} {T : u_T} (hd : decode M.2.1 pc = .ok (.aastore, 1)) (hT : ∀ G : zG, (zT G)[kd]? = some (G.2.2.1 kd, .object C)) (ha : a < n0) (he : c a = .inl (kd, N, .inr (.inr (.inr (.inr f))))) (hb : b < n0) (hbe : c b = .inr (ci, vs)) (hc : vwCl[ci]? = some (C, T, Nn)) (hi : vp_in i N) (hq : pc + 1 = q) (kk : ZW M d mc ms q ls st (zmk n0 (zup c a (.inl (kd, N, .inr (.inr (.inr (.inr (va_up f i.toNatClampNeg (some b))))))))) k n X) : ZW M d mc ms pc ls (.ref b :: .int i :: .ref a :: st) (zmk n0 c) k n X := by
  refine z_aastore hd hT (zmk_at ha he) (zmk_at hb hbe) hc hi hq ?_
  rw [zmk_set]
  exact kk
end CR
theorem zWless {M : zM} {d mc ms pc : Nat} {ls : zL} {st : List Value} {h h' : zH} {k n : Nat} {X : zX} (e : h = h') (kk : ZW M d mc ms pc ls st h' k n X) : ZW M d mc ms pc ls st h k n X := e ▸ kk
set_option maxHeartbeats 4000000 in
set_option maxRecDepth 100000 in
theorem ev_X6_init (d n0 a : Nat) (c : Nat → zE) (ha : a < n0) (hc : c a = .inr (6, [.int 0, .int 0, .int 0, .int 0])) : zEv (d + 1) zM_X6_init 0 0 [.ref a] (zmk n0 c) (none, zmk n0 c) := by
  refine zEv_of (by decide) (fun G => Nat.le_of_ble_eq_true rfl) ?_
  show ZW _ _ _ _ 0 [some (.ref a)] [] _ _ _ _
  refine z_aload_n (i := 0) (q := 1) dX6_init_0 rfl rfl rfl ?_
  refine z_objInit (q := 4) dX6_init_1 wd_77 wd_24 wd_25 (by simp [Value.category]) rfl ?_
  refine z_aload_n (i := 0) (q := 5) dX6_init_4 rfl rfl rfl ?_
  refine z_iconst (v := 0) (q := 6) dX6_init_5 (by decide) rfl ?_
  refine c_putf (q := 9) dX6_init_6 fp_X6_7 (fun _ => rfl) ha hc (Nat.le_of_ble_eq_true rfl) (fun _ => ⟨rfl, rfl⟩) rfl ?_
  refine zWless (congrArg (zmk n0) (zup_self (a := a) (e := .inr (6, [.int 0, .int 0, .int 0, .int 0])) hc)) ?_
  refine z_aload_n (i := 0) (q := 10) dX6_init_9 rfl rfl rfl ?_
  refine z_iconst (v := 0) (q := 11) dX6_init_10 (by decide) rfl ?_
  refine c_putf (q := 14) dX6_init_11 fp_X6_13 (fun _ => rfl) ha hc (Nat.le_of_ble_eq_true rfl) (fun _ => ⟨rfl, rfl⟩) rfl ?_
  refine zWless (congrArg (zmk n0) (zup_self (a := a) (e := .inr (6, [.int 0, .int 0, .int 0, .int 0])) hc)) ?_
  refine z_aload_n (i := 0) (q := 15) dX6_init_14 rfl rfl rfl ?_
  refine z_iconst (v := 0) (q := 16) dX6_init_15 (by decide) rfl ?_
  refine c_putf (q := 19) dX6_init_16 fp_X6_16 (fun _ => rfl) ha hc (Nat.le_of_ble_eq_true rfl) (fun _ => ⟨rfl, rfl⟩) rfl ?_
  refine zWless (congrArg (zmk n0) (zup_self (a := a) (e := .inr (6, [.int 0, .int 0, .int 0, .int 0])) hc)) ?_
  refine z_aload_n (i := 0) (q := 20) dX6_init_19 rfl rfl rfl ?_
  refine z_iconst (v := 0) (q := 21) dX6_init_20 (by decide) rfl ?_
  refine c_putf (q := 24) dX6_init_21 fp_X6_19 (fun _ => rfl) ha hc (Nat.le_of_ble_eq_true rfl) (fun _ => ⟨rfl, rfl⟩) rfl ?_
  refine zWless (congrArg (zmk n0) (zup_self (a := a) (e := .inr (6, [.int 0, .int 0, .int 0, .int 0])) hc)) ?_
  refine z_return dX6_init_24 rfl ?_ (Nat.le_refl _) (Nat.le_refl _)
  rfl
set_option maxHeartbeats 4000000 in
set_option maxRecDepth 100000 in
theorem ev_X4_init (d n0 a : Nat) (c : Nat → zE) (ha : a < n0) (hc : c a = .inr (4, [.int 0, .int 0, .int 0, .int 0, .int 0, .int 0, .int 0, .int 0])) : zEv (d + 1) zM_X4_init 0 0 [.ref a] (zmk n0 c) (none, zmk n0 c) := by
  refine zEv_of (by decide) (fun G => Nat.le_of_ble_eq_true rfl) ?_
  show ZW _ _ _ _ 0 [some (.ref a)] [] _ _ _ _
  refine z_aload_n (i := 0) (q := 1) dX4_init_0 rfl rfl rfl ?_
  refine z_objInit (q := 4) dX4_init_1 wd_107 wd_24 wd_25 (by simp [Value.category]) rfl ?_
  refine z_aload_n (i := 0) (q := 5) dX4_init_4 rfl rfl rfl ?_
  refine z_iconst (v := 0) (q := 6) dX4_init_5 (by decide) rfl ?_
  refine c_putf (q := 9) dX4_init_6 fp_X4_9 (fun _ => rfl) ha hc (Nat.le_of_ble_eq_true rfl) (fun _ => ⟨rfl, rfl⟩) rfl ?_
  refine zWless (congrArg (zmk n0) (zup_self (a := a) (e := .inr (4, [.int 0, .int 0, .int 0, .int 0, .int 0, .int 0, .int 0, .int 0])) hc)) ?_
  refine z_aload_n (i := 0) (q := 10) dX4_init_9 rfl rfl rfl ?_
  refine z_iconst (v := 0) (q := 11) dX4_init_10 (by decide) rfl ?_
  refine c_putf (q := 14) dX4_init_11 fp_X4_15 (fun _ => rfl) ha hc (Nat.le_of_ble_eq_true rfl) (fun _ => ⟨rfl, rfl⟩) rfl ?_
  refine zWless (congrArg (zmk n0) (zup_self (a := a) (e := .inr (4, [.int 0, .int 0, .int 0, .int 0, .int 0, .int 0, .int 0, .int 0])) hc)) ?_
  refine z_aload_n (i := 0) (q := 15) dX4_init_14 rfl rfl rfl ?_
  refine z_iconst (v := 0) (q := 16) dX4_init_15 (by decide) rfl ?_
  refine c_putf (q := 19) dX4_init_16 fp_X4_18 (fun _ => rfl) ha hc (Nat.le_of_ble_eq_true rfl) (fun _ => ⟨rfl, rfl⟩) rfl ?_
  refine zWless (congrArg (zmk n0) (zup_self (a := a) (e := .inr (4, [.int 0, .int 0, .int 0, .int 0, .int 0, .int 0, .int 0, .int 0])) hc)) ?_
  refine z_aload_n (i := 0) (q := 20) dX4_init_19 rfl rfl rfl ?_
  refine z_iconst (v := 0) (q := 21) dX4_init_20 (by decide) rfl ?_
  refine c_putf (q := 24) dX4_init_21 fp_X4_21 (fun _ => rfl) ha hc (Nat.le_of_ble_eq_true rfl) (fun _ => ⟨rfl, rfl⟩) rfl ?_
  refine zWless (congrArg (zmk n0) (zup_self (a := a) (e := .inr (4, [.int 0, .int 0, .int 0, .int 0, .int 0, .int 0, .int 0, .int 0])) hc)) ?_
  refine z_aload_n (i := 0) (q := 25) dX4_init_24 rfl rfl rfl ?_
  refine z_iconst (v := 0) (q := 26) dX4_init_25 (by decide) rfl ?_
  refine c_putf (q := 29) dX4_init_26 fp_X4_24 (fun _ => rfl) ha hc (Nat.le_of_ble_eq_true rfl) (fun _ => ⟨rfl, rfl⟩) rfl ?_
  refine zWless (congrArg (zmk n0) (zup_self (a := a) (e := .inr (4, [.int 0, .int 0, .int 0, .int 0, .int 0, .int 0, .int 0, .int 0])) hc)) ?_
  refine z_aload_n (i := 0) (q := 30) dX4_init_29 rfl rfl rfl ?_
  refine z_iconst (v := 0) (q := 31) dX4_init_30 (by decide) rfl ?_
  refine c_putf (q := 34) dX4_init_31 fp_X4_27 (fun _ => rfl) ha hc (Nat.le_of_ble_eq_true rfl) (fun _ => ⟨rfl, rfl⟩) rfl ?_
  refine zWless (congrArg (zmk n0) (zup_self (a := a) (e := .inr (4, [.int 0, .int 0, .int 0, .int 0, .int 0, .int 0, .int 0, .int 0])) hc)) ?_
  refine z_aload_n (i := 0) (q := 35) dX4_init_34 rfl rfl rfl ?_
  refine z_iconst (v := 0) (q := 36) dX4_init_35 (by decide) rfl ?_
  refine c_putf (q := 39) dX4_init_36 fp_X4_30 (fun _ => rfl) ha hc (Nat.le_of_ble_eq_true rfl) (fun _ => ⟨rfl, rfl⟩) rfl ?_
  refine zWless (congrArg (zmk n0) (zup_self (a := a) (e := .inr (4, [.int 0, .int 0, .int 0, .int 0, .int 0, .int 0, .int 0, .int 0])) hc)) ?_
  refine z_aload_n (i := 0) (q := 40) dX4_init_39 rfl rfl rfl ?_
  refine z_iconst (v := 0) (q := 41) dX4_init_40 (by decide) rfl ?_
  refine c_putf (q := 44) dX4_init_41 fp_X4_33 (fun _ => rfl) ha hc (Nat.le_of_ble_eq_true rfl) (fun _ => ⟨rfl, rfl⟩) rfl ?_
  refine zWless (congrArg (zmk n0) (zup_self (a := a) (e := .inr (4, [.int 0, .int 0, .int 0, .int 0, .int 0, .int 0, .int 0, .int 0])) hc)) ?_
  refine z_return dX4_init_44 rfl ?_ (Nat.le_refl _) (Nat.le_refl _)
  rfl
def cI2 (c : Nat → zE) (a n0 : Nat) : Nat → zE := zup (zup c n0 (.inl (1, 205, .inr (.inl fun _ => 0)))) a (.inr (2, [.ref n0]))
set_option maxHeartbeats 4000000 in
set_option maxRecDepth 100000 in
theorem ev_X2_init (d n0 a : Nat) (c : Nat → zE) (ha : a < n0) (hn0 : n0 < 100000) (hc : c a = .inr (2, [.null])) : zEv (d + 1) zM_X2_init 1 205 [.ref a] (zmk n0 c) (none, zmk (n0 + 1) (cI2 c a n0)) := by
  refine zEv_of (by decide) (fun G => Nat.le_of_ble_eq_true rfl) ?_
  show ZW _ _ _ _ 0 [some (.ref a)] [] _ _ _ _
  have h1 : (zup c n0 (.inl (1, 205, .inr (.inl fun _ => 0)))) a = .inr (2, [.null]) := (if_neg (by omega)).trans hc
  have h2 : cI2 c a n0 a = .inr (2, [.ref n0]) := if_pos rfl
  refine z_aload_n (i := 0) (q := 1) dX2_init_0 rfl rfl rfl ?_
  refine z_objInit (q := 4) dX2_init_1 wd_202 wd_24 wd_25 (by simp [Value.category]) rfl ?_
  refine z_aload_n (i := 0) (q := 5) dX2_init_4 rfl rfl rfl ?_
  refine z_sipush (v := 205) (q := 8) dX2_init_5 (by decide) rfl ?_
  refine c_newa (kd := 1) (N := 205) (x := .inr (.inl fun _ => 0)) (q := 10) dX2_init_8 rfl wd_207 (fun _ => rfl) (fun _ _ h => h) (fun _ => rfl) (fun _ => rfl) (by decide) (by decide) (by decide) (by omega) (by decide) (by decide) rfl ?_
  refine c_putf (q := 13) dX2_init_10 fp_X2_9 (fun _ => rfl) (by omega) h1 (Nat.le_of_ble_eq_true rfl) (fun _ => ⟨rfl, rfl⟩) rfl ?_
  refine zWless (h' := zmk (n0 + 1) (cI2 c a n0)) rfl ?_
  refine z_return dX2_init_13 rfl ?_ (by decide) (by decide)
  rfl
def cI1 (c : Nat → zE) (a n0 : Nat) : Nat → zE := zup (zup c n0 (.inl (0, 16, .inl fun _ => 0))) a (.inr (1, [.ref n0, .int 0]))
set_option maxHeartbeats 4000000 in
set_option maxRecDepth 100000 in
theorem ev_X1_init (d n0 a : Nat) (c : Nat → zE) (ha : a < n0) (hn0 : n0 < 100000) (hc : c a = .inr (1, [.null, .int 0])) : zEv (d + 1) zM_X1_init 1 16 [.ref a] (zmk n0 c) (none, zmk (n0 + 1) (cI1 c a n0)) := by
  refine zEv_of (by decide) (fun G => Nat.le_of_ble_eq_true rfl) ?_
  show ZW _ _ _ _ 0 [some (.ref a)] [] _ _ _ _
  have h1 : (zup c n0 (.inl (0, 16, .inl fun _ => 0))) a = .inr (1, [.null, .int 0]) := (if_neg (by omega)).trans hc
  have h2 : cI1 c a n0 a = .inr (1, [.ref n0, .int 0]) := if_pos rfl
  refine z_aload_n (i := 0) (q := 1) dX1_init_0 rfl rfl rfl ?_
  refine z_objInit (q := 4) dX1_init_1 wd_213 wd_24 wd_25 (by simp [Value.category]) rfl ?_
  refine z_aload_n (i := 0) (q := 5) dX1_init_4 rfl rfl rfl ?_
  refine z_bipush (v := 16) (q := 7) dX1_init_5 (by decide) rfl ?_
  refine c_newa (kd := 0) (N := 16) (x := .inl fun _ => 0) (q := 9) dX1_init_7 rfl wd_62 (fun _ => rfl) (fun _ _ h => h) (fun _ => rfl) (fun _ => rfl) (by decide) (by decide) (by decide) (by omega) (by decide) (by decide) rfl ?_
  refine c_putf (q := 12) dX1_init_9 fp_X1_9 (fun _ => rfl) (by omega) h1 (Nat.le_of_ble_eq_true rfl) (fun _ => ⟨rfl, rfl⟩) rfl ?_
  refine zWless (h' := zmk (n0 + 1) (cI1 c a n0)) rfl ?_
  refine z_aload_n (i := 0) (q := 13) dX1_init_12 rfl rfl rfl ?_
  refine z_iconst (v := 0) (q := 14) dX1_init_13 (by decide) rfl ?_
  refine c_putf (q := 17) dX1_init_14 fp_X1_15 (fun _ => rfl) (by omega) h2 (Nat.le_of_ble_eq_true rfl) (fun _ => ⟨rfl, rfl⟩) rfl ?_
  refine zWless (congrArg (zmk (n0 + 1)) (zup_self (a := a) (e := .inr (1, [.ref n0, .int 0])) h2)) ?_
  refine z_return dX1_init_17 rfl ?_ (by decide) (by decide)
  rfl
def cI5 (c : Nat → zE) (a n0 : Nat) : Nat → zE := zup (zup c n0 (.inl (0, 400, .inl fun _ => 0))) a (.inr (5, [.ref n0, .int 0, .int 0, .int 0, .int 0, .int 0, .int 0, .int 0]))
set_option maxHeartbeats 4000000 in
set_option maxRecDepth 100000 in
theorem ev_X5_init (d n0 a : Nat) (c : Nat → zE) (ha : a < n0) (hn0 : n0 < 100000) (hc : c a = .inr (5, [.null, .int 0, .int 0, .int 0, .int 0, .int 0, .int 0, .int 0])) : zEv (d + 1) zM_X5_init 1 400 [.ref a] (zmk n0 c) (none, zmk (n0 + 1) (cI5 c a n0)) := by
  refine zEv_of (by decide) (fun G => Nat.le_of_ble_eq_true rfl) ?_
  show ZW _ _ _ _ 0 [some (.ref a)] [] _ _ _ _
  have h1 : (zup c n0 (.inl (0, 400, .inl fun _ => 0))) a = .inr (5, [.null, .int 0, .int 0, .int 0, .int 0, .int 0, .int 0, .int 0]) := (if_neg (by omega)).trans hc
  have h2 : cI5 c a n0 a = .inr (5, [.ref n0, .int 0, .int 0, .int 0, .int 0, .int 0, .int 0, .int 0]) := if_pos rfl
  refine z_aload_n (i := 0) (q := 1) dX5_init_0 rfl rfl rfl ?_
  refine z_objInit (q := 4) dX5_init_1 wd_33 wd_24 wd_25 (by simp [Value.category]) rfl ?_
  refine z_aload_n (i := 0) (q := 5) dX5_init_4 rfl rfl rfl ?_
  refine z_sipush (v := 400) (q := 8) dX5_init_5 (by decide) rfl ?_
  refine c_newa (kd := 0) (N := 400) (x := .inl fun _ => 0) (q := 10) dX5_init_8 rfl wd_62 (fun _ => rfl) (fun _ _ h => h) (fun _ => rfl) (fun _ => rfl) (by decide) (by decide) (by decide) (by omega) (by decide) (by decide) rfl ?_
  refine c_putf (q := 13) dX5_init_10 fp_X5_9 (fun _ => rfl) (by omega) h1 (Nat.le_of_ble_eq_true rfl) (fun _ => ⟨rfl, rfl⟩) rfl ?_
  refine zWless (h' := zmk (n0 + 1) (cI5 c a n0)) rfl ?_
  refine z_aload_n (i := 0) (q := 14) dX5_init_13 rfl rfl rfl ?_
  refine z_iconst (v := 0) (q := 15) dX5_init_14 (by decide) rfl ?_
  refine c_putf (q := 18) dX5_init_15 fp_X5_15 (fun _ => rfl) (by omega) h2 (Nat.le_of_ble_eq_true rfl) (fun _ => ⟨rfl, rfl⟩) rfl ?_
  refine zWless (congrArg (zmk (n0 + 1)) (zup_self (a := a) (e := .inr (5, [.ref n0, .int 0, .int 0, .int 0, .int 0, .int 0, .int 0, .int 0])) h2)) ?_
  refine z_aload_n (i := 0) (q := 19) dX5_init_18 rfl rfl rfl ?_
  refine z_iconst (v := 0) (q := 20) dX5_init_19 (by decide) rfl ?_
  refine c_putf (q := 23) dX5_init_20 fp_X5_19 (fun _ => rfl) (by omega) h2 (Nat.le_of_ble_eq_true rfl) (fun _ => ⟨rfl, rfl⟩) rfl ?_
  refine zWless (congrArg (zmk (n0 + 1)) (zup_self (a := a) (e := .inr (5, [.ref n0, .int 0, .int 0, .int 0, .int 0, .int 0, .int 0, .int 0])) h2)) ?_
  refine z_aload_n (i := 0) (q := 24) dX5_init_23 rfl rfl rfl ?_
  refine z_iconst (v := 0) (q := 25) dX5_init_24 (by decide) rfl ?_
  refine c_putf (q := 28) dX5_init_25 fp_X5_22 (fun _ => rfl) (by omega) h2 (Nat.le_of_ble_eq_true rfl) (fun _ => ⟨rfl, rfl⟩) rfl ?_
  refine zWless (congrArg (zmk (n0 + 1)) (zup_self (a := a) (e := .inr (5, [.ref n0, .int 0, .int 0, .int 0, .int 0, .int 0, .int 0, .int 0])) h2)) ?_
  refine z_aload_n (i := 0) (q := 29) dX5_init_28 rfl rfl rfl ?_
  refine z_iconst (v := 0) (q := 30) dX5_init_29 (by decide) rfl ?_
  refine c_putf (q := 33) dX5_init_30 fp_X5_25 (fun _ => rfl) (by omega) h2 (Nat.le_of_ble_eq_true rfl) (fun _ => ⟨rfl, rfl⟩) rfl ?_
  refine zWless (congrArg (zmk (n0 + 1)) (zup_self (a := a) (e := .inr (5, [.ref n0, .int 0, .int 0, .int 0, .int 0, .int 0, .int 0, .int 0])) h2)) ?_
  refine z_aload_n (i := 0) (q := 34) dX5_init_33 rfl rfl rfl ?_
  refine z_iconst (v := 0) (q := 35) dX5_init_34 (by decide) rfl ?_
  refine c_putf (q := 38) dX5_init_35 fp_X5_28 (fun _ => rfl) (by omega) h2 (Nat.le_of_ble_eq_true rfl) (fun _ => ⟨rfl, rfl⟩) rfl ?_
  refine zWless (congrArg (zmk (n0 + 1)) (zup_self (a := a) (e := .inr (5, [.ref n0, .int 0, .int 0, .int 0, .int 0, .int 0, .int 0, .int 0])) h2)) ?_
  refine z_aload_n (i := 0) (q := 39) dX5_init_38 rfl rfl rfl ?_
  refine z_iconst (v := 0) (q := 40) dX5_init_39 (by decide) rfl ?_
  refine c_putf (q := 43) dX5_init_40 fp_X5_31 (fun _ => rfl) (by omega) h2 (Nat.le_of_ble_eq_true rfl) (fun _ => ⟨rfl, rfl⟩) rfl ?_
  refine zWless (congrArg (zmk (n0 + 1)) (zup_self (a := a) (e := .inr (5, [.ref n0, .int 0, .int 0, .int 0, .int 0, .int 0, .int 0, .int 0])) h2)) ?_
  refine z_aload_n (i := 0) (q := 44) dX5_init_43 rfl rfl rfl ?_
  refine z_iconst (v := 0) (q := 45) dX5_init_44 (by decide) rfl ?_
  refine c_putf (q := 48) dX5_init_45 fp_X5_34 (fun _ => rfl) (by omega) h2 (Nat.le_of_ble_eq_true rfl) (fun _ => ⟨rfl, rfl⟩) rfl ?_
  refine zWless (congrArg (zmk (n0 + 1)) (zup_self (a := a) (e := .inr (5, [.ref n0, .int 0, .int 0, .int 0, .int 0, .int 0, .int 0, .int 0])) h2)) ?_
  refine z_return dX5_init_48 rfl ?_ (by decide) (by decide)
  rfl
