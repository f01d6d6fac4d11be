/-! ===== Z rules of calls ===== -/
theorem zU_kept {G : zG} {h : zH} {H : Heap} {s U : State} {locs : List Loc} (hK : zK G s) (hS0 : zS G s s.heap) (hb : G.1 ≤ s.heap.size) (hR : zRep G h H) (hS : va_S (zA G) s.heap H locs) (hU : U.heap = H) (hW : s.WarmedH U.vm) : zU G h U :=
  ⟨by rw [hU]; exact hR, hK.warm hW, (by rw [hU]; exact (hS0.kept hS.2.1).warm hW), by rw [hU]; exact Nat.le_trans hb hS.1⟩
theorem zU_blind {G : zG} {h : zH} {av : List Value} : FrameBlind (va_Pc av (zU G h)) := fun a U g mk q => ⟨q.1, q.2.1, q.2.2.1.same rfl, q.2.2.2.1.same rfl, q.2.2.2.2⟩
theorem zts_good {M : zM} (hc : Cond.code M.1 M.2.1 M.2.2.1 M.2.2.2 ∈ zts) : ∀ w ∈ zws M, w ∈ zts ∧ ((w.onTables && w.keeps) = true ∨ ∃ ty, w = .arrayClass ty) := by
  intro w hw
  have h1 : w ∈ zts := by
    rcases List.mem_cons.mp hw with rfl | h
    · exact hc
    · exact h
  exact ⟨h1, good_of_word (List.mem_filter.mp h1).2⟩
/-- what a call needs to know of a method -/
def zMk (M : zM) (np : Nat) : Prop := (M.1.cls ≠ "java/lang/invoke/MethodHandle" ∧ M.1.cls ≠ "java/lang/invoke/VarHandle") ∧ (parseMethodDescriptor M.1.desc).map (fun d => d.parameters.length) = some np ∧ M.2.2.1 ≤ 17 ∧ Cond.code M.1 M.2.1 M.2.2.1 M.2.2.2 ∈ zts ∧ Cond.initialized M.1.cls ∈ zts
theorem zMk.sig {M : zM} {np : Nat} (hm : zMk M np) : ∀ sig, parseMethodDescriptor M.1.desc = some sig → np = sig.parameters.length := by
  intro sig h
  have h2 := hm.2.1
  rw [h] at h2
  exact (Option.some.inj h2).symm
theorem zcatsum (G : zG) (st : List Value) : ((st.map (zv G)).map fun v => v.category).sum = (st.map fun v => v.category).sum := by
  rw [List.map_map]
  congr 1
  apply List.map_congr_left
  intro v _
  exact zv_cat G v
theorem z_back {p : Program} {l : Launch} {e : Env} {R : Room} {s : State} {m : MethodId} {args : Array Value} {below : List Frame} {meth : Method} {c : Code} {H : Heap} {locs : List Loc} {k n mc1 ms1 pc : Nat} {Q : State → Prop} {arr : Array Slot} {st0 rest : List Value} {G : zG} {X1 : zX} {a : Array Value}
    (hr : va_Run p l e R s m args below meth c H locs k n mc1 ms1 (F0 m pc arr st0) rest (zQ G X1 a) (zA G)) (hS : va_S (zA G) s.heap H locs)
    (kk : ∀ (H1 : Heap) (locs1 : List Loc), zRep G X1.2 H1 → va_S (zA G) s.heap H1 locs1 → W p l e R s m args below meth c H1 locs1 (k + mc1) (n + ms1) Q (F0 m (pc + 3) arr ((X1.1.map (zv G)).toList ++ rest))) : W p l e R s m args below meth c H locs k n Q (F0 m pc arr st0) := by
  intro T hT X
  obtain ⟨v, st₀, t, T', L, h0, X', hL, e1, e2, ⟨⟨hv, hp⟩, hz, hk⟩, st⟩ := hr T hT X
  have hv2 : v = X1.1.map (zv G) := by injection hv
  subst hv2
  rw [h0] at hz hk
  obtain ⟨t2, a1, b1⟩ := kk T'.heap (locs ++ L) (by rw [e1]; exact hp)
    ⟨Nat.le_trans hS.1 (by rw [e1]; exact hz), fun q h1 h2 => by rw [e1, hk q (Nat.lt_of_lt_of_le h1 hS.1) h2]; exact hS.2.1 q h1 h2, fun q hq => by
      rcases List.mem_append.mp hq with h | h
      · exact hS.2.2 q h
      · exact hL q h⟩ T' rfl X'
  exact ⟨t2, st t2 a1, b1⟩
theorem zstk {G : zG} {As rest : List Value} {a : Nat} : (As.reverse ++ .ref a :: rest).map (zv G) = (As.map (zv G)).reverse ++ .ref (zal G a) :: rest.map (zv G) := by
  rw [List.map_append, List.map_reverse]; rfl
theorem zres {G : zG} {r : Option Value} {rest : List Value} : (r.map (zv G)).toList ++ rest.map (zv G) = (r.toList ++ rest).map (zv G) := by
  cases r <;> rfl
theorem zcallB {M M1 : zM} {G : zG} {d mc ms mc1 ms1 np index : Nat} {p : Program} {s : State} {m : MethodId} {args : Array Value} {meth : Method} {c : Code} (F : zF M G p s m args meth c) (hm : zMk M1 np) (hl : Cond.methodLink M.1.cls index M1.1 ∈ zts) : CallB (zR (d + 1) mc ms) s args M.1.cls index M1.1 M1.2.1 M1.2.2.1 M1.2.2.2 (zws M1) (zR d mc1 ms1) mc1 ms1 np :=
  have hts := F.2.2.2.2.2.1
  ⟨rfl, rfl, Nat.le_refl _, by have := hm.2.2.1; show 8 + (M1.2.2.1 + 11) + 36 * d ≤ 36 * (d + 1); omega, pay_in hts (zts_good hm.2.2.2.1), List.mem_cons_self, hts _ hm.2.2.2.1, hts _ hm.2.2.2.2, hm.1, hm.sig, hts _ hl⟩
theorem z_callV {M : zM} {d mc ms pc q : Nat} {ls : zL} {st : List Value} {h : zH} {k n : Nat} {X : zX} {M1 : zM} {mc1 ms1 np index ci a : Nat} {fs As rest : List Value} {X1 : zX} {T : u_T} {N : Nat} (hm : zMk M1 np) (hd : decode M.2.1 pc = .ok (.invokevirtual index, 3)) (hl : Cond.methodLink M.1.cls index M1.1 ∈ zts) (hi : Cond.instanceMethod M1.1 ∈ zts) (hse : Cond.selects M1.1.cls M1.1 M1.1 ∈ zts) (hc : vwCl[ci]? = some (M1.1.cls, T, N)) (he : h[a]? = some (.inr (ci, fs))) (ev : zEv d M1 mc1 ms1 (.ref a :: As) h X1) (hnp : As.length = np) (hrest : (rest.map fun v => v.category).sum ≤ 8) (hst : As.reverse ++ .ref a :: rest = st) (hk : k + mc1 ≤ mc) (hn : n + ms1 ≤ ms) (hq : pc + 3 = q) (kk : ZW M (d + 1) mc ms q ls (X1.1.toList ++ rest) X1.2 (k + mc1) (n + ms1) X) : ZW M (d + 1) mc ms pc ls st h k n X := by
  subst hq
  subst hst
  intro l p e s m args below meth c Q G F E H locs arr hR hS hL
  have hts := F.2.2.2.2.2.1
  rw [zstk]
  refine z_back (X1 := X1) (va_runV (As := As.map (zv G)) (rest := rest.map (zv G)) (b := zal G a) (C := M1.1.cls) ⟨F.1, F.2.1, F.2.2.1, F.2.2.2.2.1, hts⟩ (ev l G) ⟨zcallB F hm hl, hts _ hi, hts _ hse⟩ ⟨zU_blind, va_recv F.2.2.2.2.2.2.1.1 hR.1 hc (zw_at he), fun U hU hW => ⟨rfl, zU_kept F.2.2.2.2.2.2.1 F.2.2.2.2.2.2.2.1 F.2.2.2.2.2.2.2.2.2.2 hR hS hU hW⟩⟩ rfl (by rw [List.length_map]; exact hnp) hL.1 rfl (lv_room (by rw [zcatsum]; exact hrest)) hd ⟨hk, hn⟩) hS fun H1 locs1 hR1 hS1 => ?_
  rw [zres]
  exact kk l p e s m args below meth c Q G F E H1 locs1 arr hR1 hS1 hL
theorem z_callS {M : zM} {d mc ms pc q : Nat} {ls : zL} {st : List Value} {h : zH} {k n : Nat} {X : zX} {M1 : zM} {mc1 ms1 np index : Nat} {As rest : List Value} {X1 : zX} (hm : zMk M1 np) (hd : decode M.2.1 pc = .ok (.invokestatic index, 3)) (hl : Cond.methodLink M.1.cls index M1.1 ∈ zts) (hi : Cond.static M1.1 ∈ zts) (ev : zEv d M1 mc1 ms1 As h X1) (hnp : As.length = np) (hrest : (rest.map fun v => v.category).sum ≤ 8) (hst : As.reverse ++ rest = st) (hk : k + mc1 ≤ mc) (hn : n + ms1 ≤ ms) (hq : pc + 3 = q) (kk : ZW M (d + 1) mc ms q ls (X1.1.toList ++ rest) X1.2 (k + mc1) (n + ms1) X) : ZW M (d + 1) mc ms pc ls st h k n X := by
  subst hq
  subst hst
  intro l p e s m args below meth c Q G F E H locs arr hR hS hL
  have hts := F.2.2.2.2.2.1
  rw [List.map_append, List.map_reverse]
  refine z_back (X1 := X1) (va_runS (As := As.map (zv G)) (rest := rest.map (zv G)) ⟨F.1, F.2.1, F.2.2.1, F.2.2.2.2.1, hts⟩ (ev l G) ⟨zcallB F hm hl, hts _ hi⟩ ⟨zU_blind, fun U hU hW => ⟨rfl, zU_kept F.2.2.2.2.2.2.1 F.2.2.2.2.2.2.2.1 F.2.2.2.2.2.2.2.2.2.2 hR hS hU hW⟩⟩ rfl (by rw [List.length_map]; exact hnp) hL.1 rfl (lv_room (by rw [zcatsum]; exact hrest)) hd ⟨hk, hn⟩) hS fun H1 locs1 hR1 hS1 => ?_
  rw [zres]
  exact kk l p e s m args below meth c Q G F E H1 locs1 arr hR1 hS1 hL
theorem z_callSN {M : zM} {d mc ms pc q : Nat} {ls : zL} {st : List Value} {h : zH} {k n : Nat} {X : zX} {M1 : zM} {mc1 ms1 np index : Nat} {host : String} {As rest : List Value} {X1 : zX} (hm : zMk M1 np) (hd : decode M.2.1 pc = .ok (.invokestatic index, 3)) (hl : (M.1.cls, index, M1.1, host) ∈ zNest) (hi : Cond.static M1.1 ∈ zts) (ev : zEv d M1 mc1 ms1 As h X1) (hnp : As.length = np) (hrest : (rest.map fun v => v.category).sum ≤ 8) (hst : As.reverse ++ rest = st) (hk : k + mc1 ≤ mc) (hn : n + ms1 ≤ ms) (hq : pc + 3 = q) (kk : ZW M (d + 1) mc ms q ls (X1.1.toList ++ rest) X1.2 (k + mc1) (n + ms1) X) : ZW M (d + 1) mc ms pc ls st h k n X := by
  subst hq
  subst hst
  intro l p e s m args below meth c Q G F E H locs arr hR hS hL
  have hts := F.2.2.2.2.2.1
  rw [List.map_append, List.map_reverse]
  have hnest := va_Nw.use (A := args) rfl (F.2.2.2.2.2.2.1.2.2.2 _ hl)
  refine z_back (X1 := X1) (va_runSN (Ts := zts) (As := As.map (zv G)) (rest := rest.map (zv G)) ⟨F.1, F.2.1, F.2.2.1, F.2.2.2.2.1, hts⟩ (ev l G) ⟨⟨⟨rfl, rfl, Nat.le_refl _, by have := hm.2.2.1; show 8 + (M1.2.2.1 + 11) + 36 * d ≤ 36 * (d + 1); omega, pay_in hts (zts_good hm.2.2.2.1), List.mem_cons_self⟩, hts _ hm.2.2.2.1, hts _ hm.2.2.2.2, hm.1, hm.sig, hnest⟩, hts _ hi, trivial⟩ ⟨zU_blind, fun U hU hW => ⟨rfl, zU_kept F.2.2.2.2.2.2.1 F.2.2.2.2.2.2.2.1 F.2.2.2.2.2.2.2.2.2.2 hR hS hU hW⟩⟩ rfl (by rw [List.length_map]; exact hnp) hL.1 rfl (lv_room (by rw [zcatsum]; exact hrest)) hd ⟨hk, hn⟩) hS fun H1 locs1 hR1 hS1 => ?_
  rw [zres]
  exact kk l p e s m args below meth c Q G F E H1 locs1 arr hR1 hS1 hL
theorem z_callI {M : zM} {d mc ms pc q : Nat} {ls : zL} {st : List Value} {h : zH} {k n : Nat} {X : zX} {M1 : zM} {mc1 ms1 np index a : Nat} {As rest : List Value} {X1 : zX} (hm : zMk M1 np) (hret : M1.2.2.2 = none) (hini : M1.1.name = "<init>") (hd : decode M.2.1 pc = .ok (.invokespecial index, 3)) (hl : Cond.methodLink M.1.cls index M1.1 ∈ zts) (hi : Cond.instanceMethod M1.1 ∈ zts) (ev : zEv d M1 mc1 ms1 (.ref a :: As) h X1) (hnp : As.length = np) (hrest : (rest.map fun v => v.category).sum ≤ 8) (hst : As.reverse ++ .ref a :: rest = st) (hk : k + mc1 ≤ mc) (hn : n + ms1 ≤ ms) (hq : pc + 3 = q) (kk : ZW M (d + 1) mc ms q ls (X1.1.toList ++ rest) X1.2 (k + mc1) (n + ms1) X) : ZW M (d + 1) mc ms pc ls st h k n X := by
  subst hq
  subst hst
  intro l p e s m args below meth c Q G F E H locs arr hR hS hL
  have hts := F.2.2.2.2.2.1
  rw [zstk]
  have hcb := zcallB (d := d) (mc := mc) (ms := ms) (mc1 := mc1) (ms1 := ms1) F hm hl
  rw [hret] at hcb
  have hM := ev l G
  refine z_back (X1 := X1) (va_runI (As := As.map (zv G)) (rest := rest.map (zv G)) (b := zal G a) ⟨F.1, F.2.1, F.2.2.1, F.2.2.2.2.1, hts⟩ hM ⟨hcb, hini, hts _ hi⟩ ⟨zU_blind, fun U hU hW => ⟨rfl, zU_kept F.2.2.2.2.2.2.1 F.2.2.2.2.2.2.2.1 F.2.2.2.2.2.2.2.2.2.2 hR hS hU hW⟩⟩ rfl (by rw [List.length_map]; exact hnp) hL.1 rfl (lv_room (by rw [zcatsum]; exact hrest)) hd ⟨hk, hn⟩) hS fun H1 locs1 hR1 hS1 => ?_
  rw [zres]
  exact kk l p e s m args below meth c Q G F E H1 locs1 arr hR1 hS1 hL
theorem z_callIN {M : zM} {d mc ms pc q : Nat} {ls : zL} {st : List Value} {h : zH} {k n : Nat} {X : zX} {M1 : zM} {mc1 ms1 np index a : Nat} {host : String} {As rest : List Value} {X1 : zX} (hm : zMk M1 np) (hret : M1.2.2.2 = none) (hini : M1.1.name = "<init>") (hd : decode M.2.1 pc = .ok (.invokespecial index, 3)) (hl : (M.1.cls, index, M1.1, host) ∈ zNest) (hi : Cond.instanceMethod M1.1 ∈ zts) (ev : zEv d M1 mc1 ms1 (.ref a :: As) h X1) (hnp : As.length = np) (hrest : (rest.map fun v => v.category).sum ≤ 8) (hst : As.reverse ++ .ref a :: rest = st) (hk : k + mc1 ≤ mc) (hn : n + ms1 ≤ ms) (hq : pc + 3 = q) (kk : ZW M (d + 1) mc ms q ls (X1.1.toList ++ rest) X1.2 (k + mc1) (n + ms1) X) : ZW M (d + 1) mc ms pc ls st h k n X := by
  subst hq
  subst hst
  intro l p e s m args below meth c Q G F E H locs arr hR hS hL
  have hts := F.2.2.2.2.2.1
  rw [zstk]
  have hnest := va_Nw.use (A := args) rfl (F.2.2.2.2.2.2.1.2.2.2 _ hl)
  have hcn : va_CN (zR (d + 1) mc ms) s args M.1.cls index M1.1 host M1.2.1 M1.2.2.1 M1.2.2.2 (zws M1) (zR d mc1 ms1) mc1 ms1 np := ⟨⟨rfl, rfl, Nat.le_refl _, by have := hm.2.2.1; show 8 + (M1.2.2.1 + 11) + 36 * d ≤ 36 * (d + 1); omega, pay_in hts (zts_good hm.2.2.2.1), List.mem_cons_self⟩, hts _ hm.2.2.2.1, hts _ hm.2.2.2.2, hm.1, hm.sig, hnest⟩
  rw [hret] at hcn
  have hM := ev l G
  refine z_back (X1 := X1) (va_runIN (Ts := zts) (As := As.map (zv G)) (rest := rest.map (zv G)) (b := zal G a) ⟨F.1, F.2.1, F.2.2.1, F.2.2.2.2.1, hts⟩ hM ⟨hcn, hini, hts _ hi⟩ ⟨zU_blind, fun U hU hW => ⟨rfl, zU_kept F.2.2.2.2.2.2.1 F.2.2.2.2.2.2.2.1 F.2.2.2.2.2.2.2.2.2.2 hR hS hU hW⟩⟩ rfl (by rw [List.length_map]; exact hnp) hL.1 rfl (lv_room (by rw [zcatsum]; exact hrest)) hd ⟨hk, hn⟩) hS fun H1 locs1 hR1 hS1 => ?_
  rw [zres]
  exact kk l p e s m args below meth c Q G F E H1 locs1 arr hR1 hS1 hL
theorem z_objInit {M : zM} {d mc ms pc q : Nat} {ls : zL} {st : List Value} {h : zH} {k n : Nat} {X : zX} {index a : Nat} (hd : decode M.2.1 pc = .ok (.invokespecial index, 3)) (hl : Cond.methodLink M.1.cls index objectInit ∈ zts) (hi : Cond.instanceMethod objectInit ∈ zts) (hcd : Cond.code objectInit ⟨#[0xb1]⟩ 1 none ∈ zts) (hrest : (st.map fun v => v.category).sum ≤ 8) (hq : pc + 3 = q) (kk : ZW M (d + 1) mc ms q ls st h k n X) : ZW M (d + 1) mc ms pc ls (.ref a :: st) h k n X := by
  subst hq
  intro l p e s m args below meth c Q G F E H locs arr hR hS hL
  have hts := F.2.2.2.2.2.1
  refine W.objInit F.1 F.2.1 F.2.2.2.2.1 (hts _ hl) (hts _ hi) (hts _ hcd) rfl (by rw [F.2.2.1]; exact hL.1) rfl hd (by show 1 ≤ d + 1; omega) ?_ ?_
  · show 2 * 0 + ((st.map (zv G)).map fun v => v.category).sum + 12 ≤ 36 * (d + 1)
    rw [zcatsum]
    omega
  · exact kk l p e s m args below meth c Q G F E H locs arr hR hS hL
theorem z_imax {M : zM} {d mc ms pc q : Nat} {ls : zL} {st : List Value} {h : zH} {k n : Nat} {X : zX} {index : Nat} {x y : Int32} (hd : decode M.2.1 pc = .ok (.invokestatic index, 3)) (hl : Cond.methodLink M.1.cls index Lib.Math.max.name ∈ zts) (hi : Cond.static Lib.Math.max.name ∈ zts) (hin : Cond.initialized "java/lang/Math" ∈ zts) (hcd : Cond.code Lib.Math.max.name Lib.Math.max.code 2 (some .int) ∈ zts) (hrest : (st.map fun v => v.category).sum ≤ 8) (hk : k ≤ mc) (hn : n ≤ ms) (hq : pc + 3 = q) (kk : ZW M (d + 1) mc ms q ls (.int (if x < y then y else x) :: st) h k n X) : ZW M (d + 1) mc ms pc ls (.int y :: .int x :: st) h k n X := by
  subst hq
  intro l p e s m args below meth c Q G F E H locs arr hR hS hL
  have hts := F.2.2.2.2.2.1
  exact va_mmax F.1 F.2.1 (by rw [F.2.2.1]; exact hL.1.symm) F.2.2.2.2.1 (hts _ hl) (hts _ hi) (hts _ hin) (hts _ hcd) (by show 1 ≤ d + 1; omega) (by rw [zcatsum]; show _ + 13 ≤ 36 * (d + 1); omega) hk hn hd (kk l p e s m args below meth c Q G F E H locs arr hR hS hL)
theorem z_imin {M : zM} {d mc ms pc q : Nat} {ls : zL} {st : List Value} {h : zH} {k n : Nat} {X : zX} {index : Nat} {x y : Int32} (hd : decode M.2.1 pc = .ok (.invokestatic index, 3)) (hl : Cond.methodLink M.1.cls index Lib.Math.min.name ∈ zts) (hi : Cond.static Lib.Math.min.name ∈ zts) (hin : Cond.initialized "java/lang/Math" ∈ zts) (hcd : Cond.code Lib.Math.min.name Lib.Math.min.code 2 (some .int) ∈ zts) (hrest : (st.map fun v => v.category).sum ≤ 8) (hk : k ≤ mc) (hn : n ≤ ms) (hq : pc + 3 = q) (kk : ZW M (d + 1) mc ms q ls (.int (if y < x then y else x) :: st) h k n X) : ZW M (d + 1) mc ms pc ls (.int y :: .int x :: st) h k n X := by
  subst hq
  intro l p e s m args below meth c Q G F E H locs arr hR hS hL
  have hts := F.2.2.2.2.2.1
  exact va_mmin F.1 F.2.1 (by rw [F.2.2.1]; exact hL.1.symm) F.2.2.2.2.1 (hts _ hl) (hts _ hi) (hts _ hin) (hts _ hcd) (by show 1 ≤ d + 1; omega) (by rw [zcatsum]; show _ + 13 ≤ 36 * (d + 1); omega) hk hn hd (kk l p e s m args below meth c Q G F E H locs arr hR hS hL)
/-- a method's contract out of the walk of its body -/
theorem zEv_of {M : zM} {d mc ms : Nat} {As : List Value} {h : zH} {X : zX} (hy : plainName M.1.cls = true) (hla : ∀ G : zG, (lg_sl (As.map (zv G))).length ≤ M.2.2.1) (kk : ZW M d mc ms 0 (zent As M.2.2.1) [] h 0 0 X) : zEv d M mc ms As h X := by
  intro l G
  refine Met.ofW (cc := M.2.1) (maxL := M.2.2.1) (ret := M.2.2.2) hy rfl ?_
  intro p e s m args below meth c s₁ B hml hv
  obtain ⟨rfl, hR, hK, hS, hb⟩ := hv
  rw [lg_entry_eq]
  refine kk l p e s m _ below meth c _ G ⟨B.exec, B.bytes, hml, B.returns, findClass_of_methodNamed B.named, fun w hw => atoms_spec (ws := zws M) B.pre w (List.mem_cons_of_mem _ hw), hK, hS, B.notSynchronized, (name_of_methodNamed B.named B.method).1, hb⟩ ?_ s.heap [] _ hR va_S.rf (zent_has (hla G))
  intro H locs arr pc hf hR1 hS1
  have hlocks := B.notSynchronized
  rcases hf with ⟨h1, h2, h3⟩ | ⟨ty, v, h1, h2, h3, h4⟩ | ⟨v, h1, h2, h3⟩ | ⟨nm, a, h1, h2, h3⟩
  · rw [h2]
    exact W.vret B.exec B.bytes (B.returns.trans h1) (fun t ht hW => ⟨⟨by rw [h2]; rfl, by rw [ht]; exact hR1⟩, hS1.F ht⟩) hS1.2.2 h3
  · rw [h2]
    exact W.zret B.exec B.bytes (B.returns.trans h1) h3 (fun t ht hW => ⟨⟨by rw [h2]; rfl, by rw [ht]; exact hR1⟩, hS1.F ht⟩) hS1.2.2 h4
  · rw [h2]
    exact W.lret B.exec B.bytes (B.returns.trans h1) (fun t ht hW => ⟨⟨by rw [h2]; rfl, by rw [ht]; exact hR1⟩, hS1.F ht⟩) hS1.2.2 h3
  · rw [h2]
    exact W.aret B.exec B.bytes (B.returns.trans h1) (Or.inl ⟨_, rfl⟩) (Or.inr ⟨_, rfl⟩) (fun t ht hW => ⟨⟨by rw [h2]; rfl, by rw [ht]; exact hR1⟩, hS1.F ht⟩) hS1.2.2 h3
