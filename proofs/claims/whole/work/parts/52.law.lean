/-! ===== the law: each pair of calls answers alike, whatever the script ===== -/
abbrev zM_L_law : zM := (yL_law, cL_law, 4, some .boolean)
/-- a call of the class and the same call of the model, one behind the other: they answer alike, and R holds behind them -/
def LawStp (R : zm → Prop) (M1 M2 : zM) (m : zm) (As : List Value) : Prop := ∃ (v : Int32) (m1 m2 : zm), zEv 11 M1 0 0 (.ref 0 :: As) (lay m) (some (.int v), lay m1) ∧ zEv 11 M2 0 0 (.ref 180 :: As) (lay m1) (some (.int v), lay m2) ∧ R m2
theorem law_more {i L : Nat} (hi : i ≤ 400) (hL : L ≤ 384) (c : ¬ nI L - 6 < nI i) : i + 6 ≤ L := by
  rw [Int32.lt_iff_toInt_lt, show (6 : Int32) = nI 6 from rfl, pk_sub_toInt (by omega) (by omega), nI_toInt (by omega)] at c
  omega
def LawAll (R : zm → Prop) : Prop := (∀ m : zm, R m → ∀ (a0 : Int32) (a1 : Int32) (a2 : Int32), LawStp R zM_X7_row zM_X8_row m [.int a0, .int a1, .int a2]) ∧ (∀ m : zm, R m → ∀ (a0 : Int32) (a1 : Int32) (a2 : Int32), LawStp R zM_X7_set zM_X8_set m [.int a0, .int a1, .int a2]) ∧ (∀ m : zm, R m → ∀ (a0 : Int32) (a1 : Int32) (a2 : Int32) (a3 : Int32) (a4 : Int32), LawStp R zM_X7_copy zM_X8_copy m [.int a0, .int a1, .int a2, .int a3, .int a4]) ∧ (∀ m : zm, R m → ∀ (a0 : Int32), LawStp R zM_X7_drop zM_X8_drop m [.int a0]) ∧ (∀ m : zm, R m → ∀ (a0 : Int64) (a1 : Int32), LawStp R zM_X7_feed zM_X8_feed m [.long a0, .int a1]) ∧ (∀ m : zm, R m → LawStp R zM_X7_league zM_X8_league m []) ∧ (∀ m : zm, R m → LawStp R zM_X7_fault zM_X8_fault m []) ∧ (∀ m : zm, R m → ∀ (a0 : Int32) (a1 : Int32), LawStp R zM_X7_sail zM_X8_sail m [.int a0, .int a1]) ∧ (∀ m : zm, R m → ∀ (a0 : Int32) (a1 : Int32) (a2 : Int32) (a3 : Int32), LawStp R zM_X7_sails zM_X8_sails m [.int a0, .int a1, .int a2, .int a3]) ∧ (∀ m : zm, R m → ∀ (a0 : Int32) (a1 : Int32), LawStp R zM_X7_stay zM_X8_stay m [.int a0, .int a1]) ∧ (∀ m : zm, R m → ∀ (a0 : Int32) (a1 : Int32), LawStp R zM_X7_meet zM_X8_meet m [.int a0, .int a1]) ∧ (∀ m : zm, R m → ∀ (a0 : Int32) (a1 : Int32), LawStp R zM_X7_borrow zM_X8_borrow m [.int a0, .int a1]) ∧ (∀ m : zm, R m → LawStp R zM_X7_undo zM_X8_undo m []) ∧ (∀ m : zm, R m → ∀ (a0 : Int32) (a1 : Int32), LawStp R zM_X7_person zM_X8_person m [.int a0, .int a1]) ∧ (∀ m : zm, R m → ∀ (a0 : Int32) (a1 : Int32) (a2 : Int32) (a3 : Int32), LawStp R zM_X7_gains zM_X8_gains m [.int a0, .int a1, .int a2, .int a3]) ∧ (∀ m : zm, R m → ∀ (a0 : Int32) (a1 : Int32) (a2 : Int32), LawStp R zM_X7_soonest zM_X8_soonest m [.int a0, .int a1, .int a2]) ∧ (∀ m : zm, R m → ∀ (a0 : Int32) (a1 : Int32), LawStp R zM_X7_voyages zM_X8_voyages m [.int a0, .int a1]) ∧ (∀ m : zm, R m → ∀ (a0 : Int32) (a1 : Int32) (a2 : Int32), LawStp R zM_X7_even zM_X8_even m [.int a0, .int a1, .int a2]) ∧ (∀ m : zm, R m → ∀ (a0 : Int32) (a1 : Int32) (a2 : Int32), LawStp R zM_X7_where zM_X8_where m [.int a0, .int a1, .int a2]) ∧ (∀ m : zm, R m → ∀ (a0 : Int32), LawStp R zM_X7_gone zM_X8_gone m [.int a0]) ∧ (∀ m : zm, R m → ∀ (a0 : Int32), LawStp R zM_X7_eldest zM_X8_eldest m [.int a0]) ∧ (∀ m : zm, R m → ∀ (a0 : Int32), LawStp R zM_X7_image zM_X8_image m [.int a0]) ∧ (∀ m : zm, R m → ∀ (a0 : Int32), LawStp R zM_X7_restore zM_X8_restore m [.int a0]) ∧ (∀ m : zm, R m → ∀ (a0 : Int32), LawStp R zM_X7_kind zM_X8_kind m [.int a0]) ∧ (∀ m : zm, R m → ∀ (a0 : Int32) (a1 : Int32), LawStp R zM_X7_as zM_X8_as m [.int a0, .int a1]) ∧ (∀ m : zm, R m → ∀ (a0 : Int32) (a1 : Int32), LawStp R zM_X7_ask zM_X8_ask m [.int a0, .int a1]) ∧ (∀ m : zm, R m → ∀ (a0 : Int32), LawStp R zM_X7_trace zM_X8_trace m [.int a0]) ∧ (∀ m : zm, R m → ∀ (a0 : Int32), LawStp R zM_X7_count zM_X8_count m [.int a0]) ∧ (∀ m : zm, R m → LawStp R zM_X7_status zM_X8_status m [])
set_option maxHeartbeats 4000000 in
set_option maxRecDepth 100000 in
theorem law_row {R : zm → Prop} (hS : ∀ m : zm, R m → ∀ (a0 : Int32) (a1 : Int32) (a2 : Int32), LawStp R zM_X7_row zM_X8_row m [.int a0, .int a1, .int a2]) {b L : Nat} {xs : Nat → Int32} (hL : L ≤ 384) (i : Nat) (hi : i + 6 ≤ L) (m : zm) (hR : R m) (kk : ∀ m2, R m2 → YW (yP b L xs) zM_L_law 12 600000 7302250 1111 [some (.ref 2000000), some (.ref 0), some (.ref 180), some (.int (nI i))] [] (lay m2) 193 5489 (none, [])) : YW (yP b L xs) zM_L_law 12 600000 7302250 164 [some (.ref 2000000), some (.ref 0), some (.ref 180), some (.int (nI i))] [] (lay m) 193 5489 (none, []) := by
  obtain ⟨v, m1, m2, e1, e2, hR2⟩ := hS m hR (xs (i + 1)) (xs (i + 2)) (xs (i + 3))
  refine y_aload_n (i := 1) (q := 165) dL_law_164 rfl rfl rfl ?_
  refine y_aload_n (i := 0) (q := 166) dL_law_165 rfl rfl rfl ?_
  refine y_iload_n (i := 3) (q := 167) dL_law_166 rfl rfl rfl ?_
  refine y_iconst (v := 1) (q := 168) dL_law_167 (by decide) rfl ?_
  refine y_iadd (q := 169) dL_law_168 rfl ?_
  rw [show nI i + 1 = nI (i + 1) from nI_add i 1]
  refine y_sld (j := i + 1) (q := 170) dL_law_169 (by omega) (by omega) rfl ?_
  refine y_aload_n (i := 0) (q := 171) dL_law_170 rfl rfl rfl ?_
  refine y_iload_n (i := 3) (q := 172) dL_law_171 rfl rfl rfl ?_
  refine y_iconst (v := 2) (q := 173) dL_law_172 (by decide) rfl ?_
  refine y_iadd (q := 174) dL_law_173 rfl ?_
  rw [show nI i + 2 = nI (i + 2) from nI_add i 2]
  refine y_sld (j := i + 2) (q := 175) dL_law_174 (by omega) (by omega) rfl ?_
  refine y_aload_n (i := 0) (q := 176) dL_law_175 rfl rfl rfl ?_
  refine y_iload_n (i := 3) (q := 177) dL_law_176 rfl rfl rfl ?_
  refine y_iconst (v := 3) (q := 178) dL_law_177 (by decide) rfl ?_
  refine y_iadd (q := 179) dL_law_178 rfl ?_
  rw [show nI i + 3 = nI (i + 3) from nI_add i 3]
  refine y_sld (j := i + 3) (q := 180) dL_law_179 (by omega) (by omega) rfl ?_
  refine ym_callV_r (As := [_, _, _]) (q := 183) mk_X7_row dL_law_180 wd_269 wd_270 wd_271 (ci := 7) rfl ⟨by decide, _, rfl⟩ e1 rfl (by simp [Value.category]) rfl (by decide) (by decide) rfl ?_
  refine y_aload_n (i := 2) (q := 184) dL_law_183 rfl rfl rfl ?_
  refine y_aload_n (i := 0) (q := 185) dL_law_184 rfl rfl rfl ?_
  refine y_iload_n (i := 3) (q := 186) dL_law_185 rfl rfl rfl ?_
  refine y_iconst (v := 1) (q := 187) dL_law_186 (by decide) rfl ?_
  refine y_iadd (q := 188) dL_law_187 rfl ?_
  rw [show nI i + 1 = nI (i + 1) from nI_add i 1]
  refine y_sld (j := i + 1) (q := 189) dL_law_188 (by omega) (by omega) rfl ?_
  refine y_aload_n (i := 0) (q := 190) dL_law_189 rfl rfl rfl ?_
  refine y_iload_n (i := 3) (q := 191) dL_law_190 rfl rfl rfl ?_
  refine y_iconst (v := 2) (q := 192) dL_law_191 (by decide) rfl ?_
  refine y_iadd (q := 193) dL_law_192 rfl ?_
  rw [show nI i + 2 = nI (i + 2) from nI_add i 2]
  refine y_sld (j := i + 2) (q := 194) dL_law_193 (by omega) (by omega) rfl ?_
  refine y_aload_n (i := 0) (q := 195) dL_law_194 rfl rfl rfl ?_
  refine y_iload_n (i := 3) (q := 196) dL_law_195 rfl rfl rfl ?_
  refine y_iconst (v := 3) (q := 197) dL_law_196 (by decide) rfl ?_
  refine y_iadd (q := 198) dL_law_197 rfl ?_
  rw [show nI i + 3 = nI (i + 3) from nI_add i 3]
  refine y_sld (j := i + 3) (q := 199) dL_law_198 (by omega) (by omega) rfl ?_
  refine ym_callV_r (As := [_, _, _]) (q := 202) mk_X8_row dL_law_199 wd_819 wd_820 wd_821 (ci := 8) rfl ⟨by decide, _, rfl⟩ e2 rfl (by simp [Value.category]) rfl (by decide) (by decide) rfl ?_
  refine y_icmp_eq (tgt := 1111) (q := 205) dL_law_202 (by decide) rfl (fun _ => kk m2 hR2) (fun c => absurd rfl c)
set_option maxHeartbeats 4000000 in
set_option maxRecDepth 100000 in
theorem law_set {R : zm → Prop} (hS : ∀ m : zm, R m → ∀ (a0 : Int32) (a1 : Int32) (a2 : Int32), LawStp R zM_X7_set zM_X8_set m [.int a0, .int a1, .int a2]) {b L : Nat} {xs : Nat → Int32} (hL : L ≤ 384) (i : Nat) (hi : i + 6 ≤ L) (m : zm) (hR : R m) (kk : ∀ m2, R m2 → YW (yP b L xs) zM_L_law 12 600000 7302250 1111 [some (.ref 2000000), some (.ref 0), some (.ref 180), some (.int (nI i))] [] (lay m2) 193 5489 (none, [])) : YW (yP b L xs) zM_L_law 12 600000 7302250 207 [some (.ref 2000000), some (.ref 0), some (.ref 180), some (.int (nI i))] [] (lay m) 193 5489 (none, []) := by
  obtain ⟨v, m1, m2, e1, e2, hR2⟩ := hS m hR (xs (i + 1)) (xs (i + 2)) (xs (i + 3))
  refine y_aload_n (i := 1) (q := 208) dL_law_207 rfl rfl rfl ?_
  refine y_aload_n (i := 0) (q := 209) dL_law_208 rfl rfl rfl ?_
  refine y_iload_n (i := 3) (q := 210) dL_law_209 rfl rfl rfl ?_
  refine y_iconst (v := 1) (q := 211) dL_law_210 (by decide) rfl ?_
  refine y_iadd (q := 212) dL_law_211 rfl ?_
  rw [show nI i + 1 = nI (i + 1) from nI_add i 1]
  refine y_sld (j := i + 1) (q := 213) dL_law_212 (by omega) (by omega) rfl ?_
  refine y_aload_n (i := 0) (q := 214) dL_law_213 rfl rfl rfl ?_
  refine y_iload_n (i := 3) (q := 215) dL_law_214 rfl rfl rfl ?_
  refine y_iconst (v := 2) (q := 216) dL_law_215 (by decide) rfl ?_
  refine y_iadd (q := 217) dL_law_216 rfl ?_
  rw [show nI i + 2 = nI (i + 2) from nI_add i 2]
  refine y_sld (j := i + 2) (q := 218) dL_law_217 (by omega) (by omega) rfl ?_
  refine y_aload_n (i := 0) (q := 219) dL_law_218 rfl rfl rfl ?_
  refine y_iload_n (i := 3) (q := 220) dL_law_219 rfl rfl rfl ?_
  refine y_iconst (v := 3) (q := 221) dL_law_220 (by decide) rfl ?_
  refine y_iadd (q := 222) dL_law_221 rfl ?_
  rw [show nI i + 3 = nI (i + 3) from nI_add i 3]
  refine y_sld (j := i + 3) (q := 223) dL_law_222 (by omega) (by omega) rfl ?_
  refine ym_callV_r (As := [_, _, _]) (q := 226) mk_X7_set dL_law_223 wd_289 wd_290 wd_291 (ci := 7) rfl ⟨by decide, _, rfl⟩ e1 rfl (by simp [Value.category]) rfl (by decide) (by decide) rfl ?_
  refine y_aload_n (i := 2) (q := 227) dL_law_226 rfl rfl rfl ?_
  refine y_aload_n (i := 0) (q := 228) dL_law_227 rfl rfl rfl ?_
  refine y_iload_n (i := 3) (q := 229) dL_law_228 rfl rfl rfl ?_
  refine y_iconst (v := 1) (q := 230) dL_law_229 (by decide) rfl ?_
  refine y_iadd (q := 231) dL_law_230 rfl ?_
  rw [show nI i + 1 = nI (i + 1) from nI_add i 1]
  refine y_sld (j := i + 1) (q := 232) dL_law_231 (by omega) (by omega) rfl ?_
  refine y_aload_n (i := 0) (q := 233) dL_law_232 rfl rfl rfl ?_
  refine y_iload_n (i := 3) (q := 234) dL_law_233 rfl rfl rfl ?_
  refine y_iconst (v := 2) (q := 235) dL_law_234 (by decide) rfl ?_
  refine y_iadd (q := 236) dL_law_235 rfl ?_
  rw [show nI i + 2 = nI (i + 2) from nI_add i 2]
  refine y_sld (j := i + 2) (q := 237) dL_law_236 (by omega) (by omega) rfl ?_
  refine y_aload_n (i := 0) (q := 238) dL_law_237 rfl rfl rfl ?_
  refine y_iload_n (i := 3) (q := 239) dL_law_238 rfl rfl rfl ?_
  refine y_iconst (v := 3) (q := 240) dL_law_239 (by decide) rfl ?_
  refine y_iadd (q := 241) dL_law_240 rfl ?_
  rw [show nI i + 3 = nI (i + 3) from nI_add i 3]
  refine y_sld (j := i + 3) (q := 242) dL_law_241 (by omega) (by omega) rfl ?_
  refine ym_callV_r (As := [_, _, _]) (q := 245) mk_X8_set dL_law_242 wd_837 wd_838 wd_839 (ci := 8) rfl ⟨by decide, _, rfl⟩ e2 rfl (by simp [Value.category]) rfl (by decide) (by decide) rfl ?_
  refine y_icmp_eq (tgt := 1111) (q := 248) dL_law_245 (by decide) rfl (fun _ => kk m2 hR2) (fun c => absurd rfl c)
set_option maxHeartbeats 4000000 in
set_option maxRecDepth 100000 in
theorem law_copy {R : zm → Prop} (hS : ∀ m : zm, R m → ∀ (a0 : Int32) (a1 : Int32) (a2 : Int32) (a3 : Int32) (a4 : Int32), LawStp R zM_X7_copy zM_X8_copy m [.int a0, .int a1, .int a2, .int a3, .int a4]) {b L : Nat} {xs : Nat → Int32} (hL : L ≤ 384) (i : Nat) (hi : i + 6 ≤ L) (m : zm) (hR : R m) (kk : ∀ m2, R m2 → YW (yP b L xs) zM_L_law 12 600000 7302250 1111 [some (.ref 2000000), some (.ref 0), some (.ref 180), some (.int (nI i))] [] (lay m2) 193 5489 (none, [])) : YW (yP b L xs) zM_L_law 12 600000 7302250 250 [some (.ref 2000000), some (.ref 0), some (.ref 180), some (.int (nI i))] [] (lay m) 193 5489 (none, []) := by
  obtain ⟨v, m1, m2, e1, e2, hR2⟩ := hS m hR (xs (i + 1)) (xs (i + 2)) (xs (i + 3)) (xs (i + 4)) (xs (i + 5))
  refine y_aload_n (i := 1) (q := 251) dL_law_250 rfl rfl rfl ?_
  refine y_aload_n (i := 0) (q := 252) dL_law_251 rfl rfl rfl ?_
  refine y_iload_n (i := 3) (q := 253) dL_law_252 rfl rfl rfl ?_
  refine y_iconst (v := 1) (q := 254) dL_law_253 (by decide) rfl ?_
  refine y_iadd (q := 255) dL_law_254 rfl ?_
  rw [show nI i + 1 = nI (i + 1) from nI_add i 1]
  refine y_sld (j := i + 1) (q := 256) dL_law_255 (by omega) (by omega) rfl ?_
  refine y_aload_n (i := 0) (q := 257) dL_law_256 rfl rfl rfl ?_
  refine y_iload_n (i := 3) (q := 258) dL_law_257 rfl rfl rfl ?_
  refine y_iconst (v := 2) (q := 259) dL_law_258 (by decide) rfl ?_
  refine y_iadd (q := 260) dL_law_259 rfl ?_
  rw [show nI i + 2 = nI (i + 2) from nI_add i 2]
  refine y_sld (j := i + 2) (q := 261) dL_law_260 (by omega) (by omega) rfl ?_
  refine y_aload_n (i := 0) (q := 262) dL_law_261 rfl rfl rfl ?_
  refine y_iload_n (i := 3) (q := 263) dL_law_262 rfl rfl rfl ?_
  refine y_iconst (v := 3) (q := 264) dL_law_263 (by decide) rfl ?_
  refine y_iadd (q := 265) dL_law_264 rfl ?_
  rw [show nI i + 3 = nI (i + 3) from nI_add i 3]
  refine y_sld (j := i + 3) (q := 266) dL_law_265 (by omega) (by omega) rfl ?_
  refine y_aload_n (i := 0) (q := 267) dL_law_266 rfl rfl rfl ?_
  refine y_iload_n (i := 3) (q := 268) dL_law_267 rfl rfl rfl ?_
  refine y_iconst (v := 4) (q := 269) dL_law_268 (by decide) rfl ?_
  refine y_iadd (q := 270) dL_law_269 rfl ?_
  rw [show nI i + 4 = nI (i + 4) from nI_add i 4]
  refine y_sld (j := i + 4) (q := 271) dL_law_270 (by omega) (by omega) rfl ?_
  refine y_aload_n (i := 0) (q := 272) dL_law_271 rfl rfl rfl ?_
  refine y_iload_n (i := 3) (q := 273) dL_law_272 rfl rfl rfl ?_
  refine y_iconst (v := 5) (q := 274) dL_law_273 (by decide) rfl ?_
  refine y_iadd (q := 275) dL_law_274 rfl ?_
  rw [show nI i + 5 = nI (i + 5) from nI_add i 5]
  refine y_sld (j := i + 5) (q := 276) dL_law_275 (by omega) (by omega) rfl ?_
  refine ym_callV_r (As := [_, _, _, _, _]) (q := 279) mk_X7_copy dL_law_276 wd_304 wd_305 wd_306 (ci := 7) rfl ⟨by decide, _, rfl⟩ e1 rfl (by simp [Value.category]) rfl (by decide) (by decide) rfl ?_
  refine y_aload_n (i := 2) (q := 280) dL_law_279 rfl rfl rfl ?_
  refine y_aload_n (i := 0) (q := 281) dL_law_280 rfl rfl rfl ?_
  refine y_iload_n (i := 3) (q := 282) dL_law_281 rfl rfl rfl ?_
  refine y_iconst (v := 1) (q := 283) dL_law_282 (by decide) rfl ?_
  refine y_iadd (q := 284) dL_law_283 rfl ?_
  rw [show nI i + 1 = nI (i + 1) from nI_add i 1]
  refine y_sld (j := i + 1) (q := 285) dL_law_284 (by omega) (by omega) rfl ?_
  refine y_aload_n (i := 0) (q := 286) dL_law_285 rfl rfl rfl ?_
  refine y_iload_n (i := 3) (q := 287) dL_law_286 rfl rfl rfl ?_
  refine y_iconst (v := 2) (q := 288) dL_law_287 (by decide) rfl ?_
  refine y_iadd (q := 289) dL_law_288 rfl ?_
  rw [show nI i + 2 = nI (i + 2) from nI_add i 2]
  refine y_sld (j := i + 2) (q := 290) dL_law_289 (by omega) (by omega) rfl ?_
  refine y_aload_n (i := 0) (q := 291) dL_law_290 rfl rfl rfl ?_
  refine y_iload_n (i := 3) (q := 292) dL_law_291 rfl rfl rfl ?_
  refine y_iconst (v := 3) (q := 293) dL_law_292 (by decide) rfl ?_
  refine y_iadd (q := 294) dL_law_293 rfl ?_
  rw [show nI i + 3 = nI (i + 3) from nI_add i 3]
  refine y_sld (j := i + 3) (q := 295) dL_law_294 (by omega) (by omega) rfl ?_
  refine y_aload_n (i := 0) (q := 296) dL_law_295 rfl rfl rfl ?_
  refine y_iload_n (i := 3) (q := 297) dL_law_296 rfl rfl rfl ?_
  refine y_iconst (v := 4) (q := 298) dL_law_297 (by decide) rfl ?_
  refine y_iadd (q := 299) dL_law_298 rfl ?_
  rw [show nI i + 4 = nI (i + 4) from nI_add i 4]
  refine y_sld (j := i + 4) (q := 300) dL_law_299 (by omega) (by omega) rfl ?_
  refine y_aload_n (i := 0) (q := 301) dL_law_300 rfl rfl rfl ?_
  refine y_iload_n (i := 3) (q := 302) dL_law_301 rfl rfl rfl ?_
  refine y_iconst (v := 5) (q := 303) dL_law_302 (by decide) rfl ?_
  refine y_iadd (q := 304) dL_law_303 rfl ?_
  rw [show nI i + 5 = nI (i + 5) from nI_add i 5]
  refine y_sld (j := i + 5) (q := 305) dL_law_304 (by omega) (by omega) rfl ?_
  refine ym_callV_r (As := [_, _, _, _, _]) (q := 308) mk_X8_copy dL_law_305 wd_841 wd_842 wd_843 (ci := 8) rfl ⟨by decide, _, rfl⟩ e2 rfl (by simp [Value.category]) rfl (by decide) (by decide) rfl ?_
  refine y_icmp_eq (tgt := 1111) (q := 311) dL_law_308 (by decide) rfl (fun _ => kk m2 hR2) (fun c => absurd rfl c)
set_option maxHeartbeats 4000000 in
set_option maxRecDepth 100000 in
theorem law_drop {R : zm → Prop} (hS : ∀ m : zm, R m → ∀ (a0 : Int32), LawStp R zM_X7_drop zM_X8_drop m [.int a0]) {b L : Nat} {xs : Nat → Int32} (hL : L ≤ 384) (i : Nat) (hi : i + 6 ≤ L) (m : zm) (hR : R m) (kk : ∀ m2, R m2 → YW (yP b L xs) zM_L_law 12 600000 7302250 1111 [some (.ref 2000000), some (.ref 0), some (.ref 180), some (.int (nI i))] [] (lay m2) 193 5489 (none, [])) : YW (yP b L xs) zM_L_law 12 600000 7302250 313 [some (.ref 2000000), some (.ref 0), some (.ref 180), some (.int (nI i))] [] (lay m) 193 5489 (none, []) := by
  obtain ⟨v, m1, m2, e1, e2, hR2⟩ := hS m hR (xs (i + 1))
  refine y_aload_n (i := 1) (q := 314) dL_law_313 rfl rfl rfl ?_
  refine y_aload_n (i := 0) (q := 315) dL_law_314 rfl rfl rfl ?_
  refine y_iload_n (i := 3) (q := 316) dL_law_315 rfl rfl rfl ?_
  refine y_iconst (v := 1) (q := 317) dL_law_316 (by decide) rfl ?_
  refine y_iadd (q := 318) dL_law_317 rfl ?_
  rw [show nI i + 1 = nI (i + 1) from nI_add i 1]
  refine y_sld (j := i + 1) (q := 319) dL_law_318 (by omega) (by omega) rfl ?_
  refine ym_callV_r (As := [_]) (q := 322) mk_X7_drop dL_law_319 wd_311 wd_312 wd_313 (ci := 7) rfl ⟨by decide, _, rfl⟩ e1 rfl (by simp [Value.category]) rfl (by decide) (by decide) rfl ?_
  refine y_aload_n (i := 2) (q := 323) dL_law_322 rfl rfl rfl ?_
  refine y_aload_n (i := 0) (q := 324) dL_law_323 rfl rfl rfl ?_
  refine y_iload_n (i := 3) (q := 325) dL_law_324 rfl rfl rfl ?_
  refine y_iconst (v := 1) (q := 326) dL_law_325 (by decide) rfl ?_
  refine y_iadd (q := 327) dL_law_326 rfl ?_
  rw [show nI i + 1 = nI (i + 1) from nI_add i 1]
  refine y_sld (j := i + 1) (q := 328) dL_law_327 (by omega) (by omega) rfl ?_
  refine ym_callV_r (As := [_]) (q := 331) mk_X8_drop dL_law_328 wd_845 wd_846 wd_847 (ci := 8) rfl ⟨by decide, _, rfl⟩ e2 rfl (by simp [Value.category]) rfl (by decide) (by decide) rfl ?_
  refine y_icmp_eq (tgt := 1111) (q := 334) dL_law_331 (by decide) rfl (fun _ => kk m2 hR2) (fun c => absurd rfl c)
set_option maxHeartbeats 4000000 in
set_option maxRecDepth 100000 in
theorem law_feed {R : zm → Prop} (hS : ∀ m : zm, R m → ∀ (a0 : Int64) (a1 : Int32), LawStp R zM_X7_feed zM_X8_feed m [.long a0, .int a1]) {b L : Nat} {xs : Nat → Int32} (hL : L ≤ 384) (i : Nat) (hi : i + 6 ≤ L) (m : zm) (hR : R m) (kk : ∀ m2, R m2 → YW (yP b L xs) zM_L_law 12 600000 7302250 1111 [some (.ref 2000000), some (.ref 0), some (.ref 180), some (.int (nI i))] [] (lay m2) 193 5489 (none, [])) : YW (yP b L xs) zM_L_law 12 600000 7302250 336 [some (.ref 2000000), some (.ref 0), some (.ref 180), some (.int (nI i))] [] (lay m) 193 5489 (none, []) := by
  obtain ⟨v, m1, m2, e1, e2, hR2⟩ := hS m hR (((xs (i + 1)).toInt64 <<< ((32 : Int32).toInt64 &&& 63)) ||| ((xs (i + 2)).toInt64 &&& 4294967295)) (xs (i + 3))
  refine y_aload_n (i := 1) (q := 337) dL_law_336 rfl rfl rfl ?_
  refine y_aload_n (i := 0) (q := 338) dL_law_337 rfl rfl rfl ?_
  refine y_iload_n (i := 3) (q := 339) dL_law_338 rfl rfl rfl ?_
  refine y_iconst (v := 1) (q := 340) dL_law_339 (by decide) rfl ?_
  refine y_iadd (q := 341) dL_law_340 rfl ?_
  rw [show nI i + 1 = nI (i + 1) from nI_add i 1]
  refine y_sld (j := i + 1) (q := 342) dL_law_341 (by omega) (by omega) rfl ?_
  refine y_i2l (q := 343) dL_law_342 rfl ?_
  refine y_bipush (v := 32) (q := 345) dL_law_343 (by decide) rfl ?_
  refine y_lshl (q := 346) dL_law_345 rfl ?_
  refine y_aload_n (i := 0) (q := 347) dL_law_346 rfl rfl rfl ?_
  refine y_iload_n (i := 3) (q := 348) dL_law_347 rfl rfl rfl ?_
  refine y_iconst (v := 2) (q := 349) dL_law_348 (by decide) rfl ?_
  refine y_iadd (q := 350) dL_law_349 rfl ?_
  rw [show nI i + 2 = nI (i + 2) from nI_add i 2]
  refine y_sld (j := i + 2) (q := 351) dL_law_350 (by omega) (by omega) rfl ?_
  refine y_i2l (q := 352) dL_law_351 rfl ?_
  refine y_ldc2 (q := 355) dL_law_352 wd_1107 rfl ?_
  refine y_land (q := 356) dL_law_355 rfl ?_
  refine y_lor (q := 357) dL_law_356 rfl ?_
  refine y_aload_n (i := 0) (q := 358) dL_law_357 rfl rfl rfl ?_
  refine y_iload_n (i := 3) (q := 359) dL_law_358 rfl rfl rfl ?_
  refine y_iconst (v := 3) (q := 360) dL_law_359 (by decide) rfl ?_
  refine y_iadd (q := 361) dL_law_360 rfl ?_
  rw [show nI i + 3 = nI (i + 3) from nI_add i 3]
  refine y_sld (j := i + 3) (q := 362) dL_law_361 (by omega) (by omega) rfl ?_
  refine ym_callV_r (As := [_, _]) (q := 365) mk_X7_feed dL_law_362 wd_315 wd_316 wd_317 (ci := 7) rfl ⟨by decide, _, rfl⟩ e1 rfl (by simp [Value.category]) rfl (by decide) (by decide) rfl ?_
  refine y_aload_n (i := 2) (q := 366) dL_law_365 rfl rfl rfl ?_
  refine y_aload_n (i := 0) (q := 367) dL_law_366 rfl rfl rfl ?_
  refine y_iload_n (i := 3) (q := 368) dL_law_367 rfl rfl rfl ?_
  refine y_iconst (v := 1) (q := 369) dL_law_368 (by decide) rfl ?_
  refine y_iadd (q := 370) dL_law_369 rfl ?_
  rw [show nI i + 1 = nI (i + 1) from nI_add i 1]
  refine y_sld (j := i + 1) (q := 371) dL_law_370 (by omega) (by omega) rfl ?_
  refine y_i2l (q := 372) dL_law_371 rfl ?_
  refine y_bipush (v := 32) (q := 374) dL_law_372 (by decide) rfl ?_
  refine y_lshl (q := 375) dL_law_374 rfl ?_
  refine y_aload_n (i := 0) (q := 376) dL_law_375 rfl rfl rfl ?_
  refine y_iload_n (i := 3) (q := 377) dL_law_376 rfl rfl rfl ?_
  refine y_iconst (v := 2) (q := 378) dL_law_377 (by decide) rfl ?_
  refine y_iadd (q := 379) dL_law_378 rfl ?_
  rw [show nI i + 2 = nI (i + 2) from nI_add i 2]
  refine y_sld (j := i + 2) (q := 380) dL_law_379 (by omega) (by omega) rfl ?_
  refine y_i2l (q := 381) dL_law_380 rfl ?_
  refine y_ldc2 (q := 384) dL_law_381 wd_1107 rfl ?_
  refine y_land (q := 385) dL_law_384 rfl ?_
  refine y_lor (q := 386) dL_law_385 rfl ?_
  refine y_aload_n (i := 0) (q := 387) dL_law_386 rfl rfl rfl ?_
  refine y_iload_n (i := 3) (q := 388) dL_law_387 rfl rfl rfl ?_
  refine y_iconst (v := 3) (q := 389) dL_law_388 (by decide) rfl ?_
  refine y_iadd (q := 390) dL_law_389 rfl ?_
  rw [show nI i + 3 = nI (i + 3) from nI_add i 3]
  refine y_sld (j := i + 3) (q := 391) dL_law_390 (by omega) (by omega) rfl ?_
  refine ym_callV_r (As := [_, _]) (q := 394) mk_X8_feed dL_law_391 wd_849 wd_850 wd_851 (ci := 8) rfl ⟨by decide, _, rfl⟩ e2 rfl (by simp [Value.category]) rfl (by decide) (by decide) rfl ?_
  refine y_icmp_eq (tgt := 1111) (q := 397) dL_law_394 (by decide) rfl (fun _ => kk m2 hR2) (fun c => absurd rfl c)
set_option maxHeartbeats 4000000 in
set_option maxRecDepth 100000 in
theorem law_league {R : zm → Prop} (hS : ∀ m : zm, R m → LawStp R zM_X7_league zM_X8_league m []) {b L : Nat} {xs : Nat → Int32} (hL : L ≤ 384) (i : Nat) (hi : i + 6 ≤ L) (m : zm) (hR : R m) (kk : ∀ m2, R m2 → YW (yP b L xs) zM_L_law 12 600000 7302250 1111 [some (.ref 2000000), some (.ref 0), some (.ref 180), some (.int (nI i))] [] (lay m2) 193 5489 (none, [])) : YW (yP b L xs) zM_L_law 12 600000 7302250 399 [some (.ref 2000000), some (.ref 0), some (.ref 180), some (.int (nI i))] [] (lay m) 193 5489 (none, []) := by
  obtain ⟨v, m1, m2, e1, e2, hR2⟩ := hS m hR
  refine y_aload_n (i := 1) (q := 400) dL_law_399 rfl rfl rfl ?_
  refine ym_callV_r (As := []) (q := 403) mk_X7_league dL_law_400 wd_325 wd_326 wd_327 (ci := 7) rfl ⟨by decide, _, rfl⟩ e1 rfl (by simp [Value.category]) rfl (by decide) (by decide) rfl ?_
  refine y_aload_n (i := 2) (q := 404) dL_law_403 rfl rfl rfl ?_
  refine ym_callV_r (As := []) (q := 407) mk_X8_league dL_law_404 wd_856 wd_857 wd_858 (ci := 8) rfl ⟨by decide, _, rfl⟩ e2 rfl (by simp [Value.category]) rfl (by decide) (by decide) rfl ?_
  refine y_icmp_eq (tgt := 1111) (q := 410) dL_law_407 (by decide) rfl (fun _ => kk m2 hR2) (fun c => absurd rfl c)
set_option maxHeartbeats 4000000 in
set_option maxRecDepth 100000 in
theorem law_fault {R : zm → Prop} (hS : ∀ m : zm, R m → LawStp R zM_X7_fault zM_X8_fault m []) {b L : Nat} {xs : Nat → Int32} (hL : L ≤ 384) (i : Nat) (hi : i + 6 ≤ L) (m : zm) (hR : R m) (kk : ∀ m2, R m2 → YW (yP b L xs) zM_L_law 12 600000 7302250 1111 [some (.ref 2000000), some (.ref 0), some (.ref 180), some (.int (nI i))] [] (lay m2) 193 5489 (none, [])) : YW (yP b L xs) zM_L_law 12 600000 7302250 412 [some (.ref 2000000), some (.ref 0), some (.ref 180), some (.int (nI i))] [] (lay m) 193 5489 (none, []) := by
  obtain ⟨v, m1, m2, e1, e2, hR2⟩ := hS m hR
  refine y_aload_n (i := 1) (q := 413) dL_law_412 rfl rfl rfl ?_
  refine ym_callV_r (As := []) (q := 416) mk_X7_fault dL_law_413 wd_464 wd_465 wd_466 (ci := 7) rfl ⟨by decide, _, rfl⟩ e1 rfl (by simp [Value.category]) rfl (by decide) (by decide) rfl ?_
  refine y_aload_n (i := 2) (q := 417) dL_law_416 rfl rfl rfl ?_
  refine ym_callV_r (As := []) (q := 420) mk_X8_fault dL_law_417 wd_927 wd_928 wd_929 (ci := 8) rfl ⟨by decide, _, rfl⟩ e2 rfl (by simp [Value.category]) rfl (by decide) (by decide) rfl ?_
  refine y_icmp_eq (tgt := 1111) (q := 423) dL_law_420 (by decide) rfl (fun _ => kk m2 hR2) (fun c => absurd rfl c)
set_option maxHeartbeats 4000000 in
set_option maxRecDepth 100000 in
theorem law_sail {R : zm → Prop} (hS : ∀ m : zm, R m → ∀ (a0 : Int32) (a1 : Int32), LawStp R zM_X7_sail zM_X8_sail m [.int a0, .int a1]) {b L : Nat} {xs : Nat → Int32} (hL : L ≤ 384) (i : Nat) (hi : i + 6 ≤ L) (m : zm) (hR : R m) (kk : ∀ m2, R m2 → YW (yP b L xs) zM_L_law 12 600000 7302250 1111 [some (.ref 2000000), some (.ref 0), some (.ref 180), some (.int (nI i))] [] (lay m2) 193 5489 (none, [])) : YW (yP b L xs) zM_L_law 12 600000 7302250 425 [some (.ref 2000000), some (.ref 0), some (.ref 180), some (.int (nI i))] [] (lay m) 193 5489 (none, []) := by
  obtain ⟨v, m1, m2, e1, e2, hR2⟩ := hS m hR (xs (i + 1)) (xs (i + 2))
  refine y_aload_n (i := 1) (q := 426) dL_law_425 rfl rfl rfl ?_
  refine y_aload_n (i := 0) (q := 427) dL_law_426 rfl rfl rfl ?_
  refine y_iload_n (i := 3) (q := 428) dL_law_427 rfl rfl rfl ?_
  refine y_iconst (v := 1) (q := 429) dL_law_428 (by decide) rfl ?_
  refine y_iadd (q := 430) dL_law_429 rfl ?_
  rw [show nI i + 1 = nI (i + 1) from nI_add i 1]
  refine y_sld (j := i + 1) (q := 431) dL_law_430 (by omega) (by omega) rfl ?_
  refine y_aload_n (i := 0) (q := 432) dL_law_431 rfl rfl rfl ?_
  refine y_iload_n (i := 3) (q := 433) dL_law_432 rfl rfl rfl ?_
  refine y_iconst (v := 2) (q := 434) dL_law_433 (by decide) rfl ?_
  refine y_iadd (q := 435) dL_law_434 rfl ?_
  rw [show nI i + 2 = nI (i + 2) from nI_add i 2]
  refine y_sld (j := i + 2) (q := 436) dL_law_435 (by omega) (by omega) rfl ?_
  refine ym_callV_r (As := [_, _]) (q := 439) mk_X7_sail dL_law_436 wd_468 wd_469 wd_470 (ci := 7) rfl ⟨by decide, _, rfl⟩ e1 rfl (by simp [Value.category]) rfl (by decide) (by decide) rfl ?_
  refine y_aload_n (i := 2) (q := 440) dL_law_439 rfl rfl rfl ?_
  refine y_aload_n (i := 0) (q := 441) dL_law_440 rfl rfl rfl ?_
  refine y_iload_n (i := 3) (q := 442) dL_law_441 rfl rfl rfl ?_
  refine y_iconst (v := 1) (q := 443) dL_law_442 (by decide) rfl ?_
  refine y_iadd (q := 444) dL_law_443 rfl ?_
  rw [show nI i + 1 = nI (i + 1) from nI_add i 1]
  refine y_sld (j := i + 1) (q := 445) dL_law_444 (by omega) (by omega) rfl ?_
  refine y_aload_n (i := 0) (q := 446) dL_law_445 rfl rfl rfl ?_
  refine y_iload_n (i := 3) (q := 447) dL_law_446 rfl rfl rfl ?_
  refine y_iconst (v := 2) (q := 448) dL_law_447 (by decide) rfl ?_
  refine y_iadd (q := 449) dL_law_448 rfl ?_
  rw [show nI i + 2 = nI (i + 2) from nI_add i 2]
  refine y_sld (j := i + 2) (q := 450) dL_law_449 (by omega) (by omega) rfl ?_
  refine ym_callV_r (As := [_, _]) (q := 453) mk_X8_sail dL_law_450 wd_931 wd_932 wd_933 (ci := 8) rfl ⟨by decide, _, rfl⟩ e2 rfl (by simp [Value.category]) rfl (by decide) (by decide) rfl ?_
  refine y_icmp_eq (tgt := 1111) (q := 456) dL_law_453 (by decide) rfl (fun _ => kk m2 hR2) (fun c => absurd rfl c)
set_option maxHeartbeats 4000000 in
set_option maxRecDepth 100000 in
theorem law_sails {R : zm → Prop} (hS : ∀ m : zm, R m → ∀ (a0 : Int32) (a1 : Int32) (a2 : Int32) (a3 : Int32), LawStp R zM_X7_sails zM_X8_sails m [.int a0, .int a1, .int a2, .int a3]) {b L : Nat} {xs : Nat → Int32} (hL : L ≤ 384) (i : Nat) (hi : i + 6 ≤ L) (m : zm) (hR : R m) (kk : ∀ m2, R m2 → YW (yP b L xs) zM_L_law 12 600000 7302250 1111 [some (.ref 2000000), some (.ref 0), some (.ref 180), some (.int (nI i))] [] (lay m2) 193 5489 (none, [])) : YW (yP b L xs) zM_L_law 12 600000 7302250 458 [some (.ref 2000000), some (.ref 0), some (.ref 180), some (.int (nI i))] [] (lay m) 193 5489 (none, []) := by
  obtain ⟨v, m1, m2, e1, e2, hR2⟩ := hS m hR (xs (i + 1)) (xs (i + 2)) (xs (i + 3)) (xs (i + 4))
  refine y_aload_n (i := 1) (q := 459) dL_law_458 rfl rfl rfl ?_
  refine y_aload_n (i := 0) (q := 460) dL_law_459 rfl rfl rfl ?_
  refine y_iload_n (i := 3) (q := 461) dL_law_460 rfl rfl rfl ?_
  refine y_iconst (v := 1) (q := 462) dL_law_461 (by decide) rfl ?_
  refine y_iadd (q := 463) dL_law_462 rfl ?_
  rw [show nI i + 1 = nI (i + 1) from nI_add i 1]
  refine y_sld (j := i + 1) (q := 464) dL_law_463 (by omega) (by omega) rfl ?_
  refine y_aload_n (i := 0) (q := 465) dL_law_464 rfl rfl rfl ?_
  refine y_iload_n (i := 3) (q := 466) dL_law_465 rfl rfl rfl ?_
  refine y_iconst (v := 2) (q := 467) dL_law_466 (by decide) rfl ?_
  refine y_iadd (q := 468) dL_law_467 rfl ?_
  rw [show nI i + 2 = nI (i + 2) from nI_add i 2]
  refine y_sld (j := i + 2) (q := 469) dL_law_468 (by omega) (by omega) rfl ?_
  refine y_aload_n (i := 0) (q := 470) dL_law_469 rfl rfl rfl ?_
  refine y_iload_n (i := 3) (q := 471) dL_law_470 rfl rfl rfl ?_
  refine y_iconst (v := 3) (q := 472) dL_law_471 (by decide) rfl ?_
  refine y_iadd (q := 473) dL_law_472 rfl ?_
  rw [show nI i + 3 = nI (i + 3) from nI_add i 3]
  refine y_sld (j := i + 3) (q := 474) dL_law_473 (by omega) (by omega) rfl ?_
  refine y_aload_n (i := 0) (q := 475) dL_law_474 rfl rfl rfl ?_
  refine y_iload_n (i := 3) (q := 476) dL_law_475 rfl rfl rfl ?_
  refine y_iconst (v := 4) (q := 477) dL_law_476 (by decide) rfl ?_
  refine y_iadd (q := 478) dL_law_477 rfl ?_
  rw [show nI i + 4 = nI (i + 4) from nI_add i 4]
  refine y_sld (j := i + 4) (q := 479) dL_law_478 (by omega) (by omega) rfl ?_
  refine ym_callV_r (As := [_, _, _, _]) (q := 482) mk_X7_sails dL_law_479 wd_517 wd_518 wd_519 (ci := 7) rfl ⟨by decide, _, rfl⟩ e1 rfl (by simp [Value.category]) rfl (by decide) (by decide) rfl ?_
  refine y_aload_n (i := 2) (q := 483) dL_law_482 rfl rfl rfl ?_
  refine y_aload_n (i := 0) (q := 484) dL_law_483 rfl rfl rfl ?_
  refine y_iload_n (i := 3) (q := 485) dL_law_484 rfl rfl rfl ?_
  refine y_iconst (v := 1) (q := 486) dL_law_485 (by decide) rfl ?_
  refine y_iadd (q := 487) dL_law_486 rfl ?_
  rw [show nI i + 1 = nI (i + 1) from nI_add i 1]
  refine y_sld (j := i + 1) (q := 488) dL_law_487 (by omega) (by omega) rfl ?_
  refine y_aload_n (i := 0) (q := 489) dL_law_488 rfl rfl rfl ?_
  refine y_iload_n (i := 3) (q := 490) dL_law_489 rfl rfl rfl ?_
  refine y_iconst (v := 2) (q := 491) dL_law_490 (by decide) rfl ?_
  refine y_iadd (q := 492) dL_law_491 rfl ?_
  rw [show nI i + 2 = nI (i + 2) from nI_add i 2]
  refine y_sld (j := i + 2) (q := 493) dL_law_492 (by omega) (by omega) rfl ?_
  refine y_aload_n (i := 0) (q := 494) dL_law_493 rfl rfl rfl ?_
  refine y_iload_n (i := 3) (q := 495) dL_law_494 rfl rfl rfl ?_
  refine y_iconst (v := 3) (q := 496) dL_law_495 (by decide) rfl ?_
  refine y_iadd (q := 497) dL_law_496 rfl ?_
  rw [show nI i + 3 = nI (i + 3) from nI_add i 3]
  refine y_sld (j := i + 3) (q := 498) dL_law_497 (by omega) (by omega) rfl ?_
  refine y_aload_n (i := 0) (q := 499) dL_law_498 rfl rfl rfl ?_
  refine y_iload_n (i := 3) (q := 500) dL_law_499 rfl rfl rfl ?_
  refine y_iconst (v := 4) (q := 501) dL_law_500 (by decide) rfl ?_
  refine y_iadd (q := 502) dL_law_501 rfl ?_
  rw [show nI i + 4 = nI (i + 4) from nI_add i 4]
  refine y_sld (j := i + 4) (q := 503) dL_law_502 (by omega) (by omega) rfl ?_
  refine ym_callV_r (As := [_, _, _, _]) (q := 506) mk_X8_sails dL_law_503 wd_972 wd_973 wd_974 (ci := 8) rfl ⟨by decide, _, rfl⟩ e2 rfl (by simp [Value.category]) rfl (by decide) (by decide) rfl ?_
  refine y_icmp_eq (tgt := 1111) (q := 509) dL_law_506 (by decide) rfl (fun _ => kk m2 hR2) (fun c => absurd rfl c)
set_option maxHeartbeats 4000000 in
set_option maxRecDepth 100000 in
theorem law_stay {R : zm → Prop} (hS : ∀ m : zm, R m → ∀ (a0 : Int32) (a1 : Int32), LawStp R zM_X7_stay zM_X8_stay m [.int a0, .int a1]) {b L : Nat} {xs : Nat → Int32} (hL : L ≤ 384) (i : Nat) (hi : i + 6 ≤ L) (m : zm) (hR : R m) (kk : ∀ m2, R m2 → YW (yP b L xs) zM_L_law 12 600000 7302250 1111 [some (.ref 2000000), some (.ref 0), some (.ref 180), some (.int (nI i))] [] (lay m2) 193 5489 (none, [])) : YW (yP b L xs) zM_L_law 12 600000 7302250 511 [some (.ref 2000000), some (.ref 0), some (.ref 180), some (.int (nI i))] [] (lay m) 193 5489 (none, []) := by
  obtain ⟨v, m1, m2, e1, e2, hR2⟩ := hS m hR (xs (i + 1)) (xs (i + 2))
  refine y_aload_n (i := 1) (q := 512) dL_law_511 rfl rfl rfl ?_
  refine y_aload_n (i := 0) (q := 513) dL_law_512 rfl rfl rfl ?_
  refine y_iload_n (i := 3) (q := 514) dL_law_513 rfl rfl rfl ?_
  refine y_iconst (v := 1) (q := 515) dL_law_514 (by decide) rfl ?_
  refine y_iadd (q := 516) dL_law_515 rfl ?_
  rw [show nI i + 1 = nI (i + 1) from nI_add i 1]
  refine y_sld (j := i + 1) (q := 517) dL_law_516 (by omega) (by omega) rfl ?_
  refine y_aload_n (i := 0) (q := 518) dL_law_517 rfl rfl rfl ?_
  refine y_iload_n (i := 3) (q := 519) dL_law_518 rfl rfl rfl ?_
  refine y_iconst (v := 2) (q := 520) dL_law_519 (by decide) rfl ?_
  refine y_iadd (q := 521) dL_law_520 rfl ?_
  rw [show nI i + 2 = nI (i + 2) from nI_add i 2]
  refine y_sld (j := i + 2) (q := 522) dL_law_521 (by omega) (by omega) rfl ?_
  refine ym_callV_r (As := [_, _]) (q := 525) mk_X7_stay dL_law_522 wd_521 wd_522 wd_523 (ci := 7) rfl ⟨by decide, _, rfl⟩ e1 rfl (by simp [Value.category]) rfl (by decide) (by decide) rfl ?_
  refine y_aload_n (i := 2) (q := 526) dL_law_525 rfl rfl rfl ?_
  refine y_aload_n (i := 0) (q := 527) dL_law_526 rfl rfl rfl ?_
  refine y_iload_n (i := 3) (q := 528) dL_law_527 rfl rfl rfl ?_
  refine y_iconst (v := 1) (q := 529) dL_law_528 (by decide) rfl ?_
  refine y_iadd (q := 530) dL_law_529 rfl ?_
  rw [show nI i + 1 = nI (i + 1) from nI_add i 1]
  refine y_sld (j := i + 1) (q := 531) dL_law_530 (by omega) (by omega) rfl ?_
  refine y_aload_n (i := 0) (q := 532) dL_law_531 rfl rfl rfl ?_
  refine y_iload_n (i := 3) (q := 533) dL_law_532 rfl rfl rfl ?_
  refine y_iconst (v := 2) (q := 534) dL_law_533 (by decide) rfl ?_
  refine y_iadd (q := 535) dL_law_534 rfl ?_
  rw [show nI i + 2 = nI (i + 2) from nI_add i 2]
  refine y_sld (j := i + 2) (q := 536) dL_law_535 (by omega) (by omega) rfl ?_
  refine ym_callV_r (As := [_, _]) (q := 539) mk_X8_stay dL_law_536 wd_977 wd_978 wd_979 (ci := 8) rfl ⟨by decide, _, rfl⟩ e2 rfl (by simp [Value.category]) rfl (by decide) (by decide) rfl ?_
  refine y_icmp_eq (tgt := 1111) (q := 542) dL_law_539 (by decide) rfl (fun _ => kk m2 hR2) (fun c => absurd rfl c)
set_option maxHeartbeats 4000000 in
set_option maxRecDepth 100000 in
theorem law_meet {R : zm → Prop} (hS : ∀ m : zm, R m → ∀ (a0 : Int32) (a1 : Int32), LawStp R zM_X7_meet zM_X8_meet m [.int a0, .int a1]) {b L : Nat} {xs : Nat → Int32} (hL : L ≤ 384) (i : Nat) (hi : i + 6 ≤ L) (m : zm) (hR : R m) (kk : ∀ m2, R m2 → YW (yP b L xs) zM_L_law 12 600000 7302250 1111 [some (.ref 2000000), some (.ref 0), some (.ref 180), some (.int (nI i))] [] (lay m2) 193 5489 (none, [])) : YW (yP b L xs) zM_L_law 12 600000 7302250 544 [some (.ref 2000000), some (.ref 0), some (.ref 180), some (.int (nI i))] [] (lay m) 193 5489 (none, []) := by
  obtain ⟨v, m1, m2, e1, e2, hR2⟩ := hS m hR (xs (i + 1)) (xs (i + 2))
  refine y_aload_n (i := 1) (q := 545) dL_law_544 rfl rfl rfl ?_
  refine y_aload_n (i := 0) (q := 546) dL_law_545 rfl rfl rfl ?_
  refine y_iload_n (i := 3) (q := 547) dL_law_546 rfl rfl rfl ?_
  refine y_iconst (v := 1) (q := 548) dL_law_547 (by decide) rfl ?_
  refine y_iadd (q := 549) dL_law_548 rfl ?_
  rw [show nI i + 1 = nI (i + 1) from nI_add i 1]
  refine y_sld (j := i + 1) (q := 550) dL_law_549 (by omega) (by omega) rfl ?_
  refine y_aload_n (i := 0) (q := 551) dL_law_550 rfl rfl rfl ?_
  refine y_iload_n (i := 3) (q := 552) dL_law_551 rfl rfl rfl ?_
  refine y_iconst (v := 2) (q := 553) dL_law_552 (by decide) rfl ?_
  refine y_iadd (q := 554) dL_law_553 rfl ?_
  rw [show nI i + 2 = nI (i + 2) from nI_add i 2]
  refine y_sld (j := i + 2) (q := 555) dL_law_554 (by omega) (by omega) rfl ?_
  refine ym_callV_r (As := [_, _]) (q := 558) mk_X7_meet dL_law_555 wd_529 wd_530 wd_531 (ci := 7) rfl ⟨by decide, _, rfl⟩ e1 rfl (by simp [Value.category]) rfl (by decide) (by decide) rfl ?_
  refine y_aload_n (i := 2) (q := 559) dL_law_558 rfl rfl rfl ?_
  refine y_aload_n (i := 0) (q := 560) dL_law_559 rfl rfl rfl ?_
  refine y_iload_n (i := 3) (q := 561) dL_law_560 rfl rfl rfl ?_
  refine y_iconst (v := 1) (q := 562) dL_law_561 (by decide) rfl ?_
  refine y_iadd (q := 563) dL_law_562 rfl ?_
  rw [show nI i + 1 = nI (i + 1) from nI_add i 1]
  refine y_sld (j := i + 1) (q := 564) dL_law_563 (by omega) (by omega) rfl ?_
  refine y_aload_n (i := 0) (q := 565) dL_law_564 rfl rfl rfl ?_
  refine y_iload_n (i := 3) (q := 566) dL_law_565 rfl rfl rfl ?_
  refine y_iconst (v := 2) (q := 567) dL_law_566 (by decide) rfl ?_
  refine y_iadd (q := 568) dL_law_567 rfl ?_
  rw [show nI i + 2 = nI (i + 2) from nI_add i 2]
  refine y_sld (j := i + 2) (q := 569) dL_law_568 (by omega) (by omega) rfl ?_
  refine ym_callV_r (As := [_, _]) (q := 572) mk_X8_meet dL_law_569 wd_982 wd_983 wd_984 (ci := 8) rfl ⟨by decide, _, rfl⟩ e2 rfl (by simp [Value.category]) rfl (by decide) (by decide) rfl ?_
  refine y_icmp_eq (tgt := 1111) (q := 575) dL_law_572 (by decide) rfl (fun _ => kk m2 hR2) (fun c => absurd rfl c)
set_option maxHeartbeats 4000000 in
set_option maxRecDepth 100000 in
theorem law_borrow {R : zm → Prop} (hS : ∀ m : zm, R m → ∀ (a0 : Int32) (a1 : Int32), LawStp R zM_X7_borrow zM_X8_borrow m [.int a0, .int a1]) {b L : Nat} {xs : Nat → Int32} (hL : L ≤ 384) (i : Nat) (hi : i + 6 ≤ L) (m : zm) (hR : R m) (kk : ∀ m2, R m2 → YW (yP b L xs) zM_L_law 12 600000 7302250 1111 [some (.ref 2000000), some (.ref 0), some (.ref 180), some (.int (nI i))] [] (lay m2) 193 5489 (none, [])) : YW (yP b L xs) zM_L_law 12 600000 7302250 577 [some (.ref 2000000), some (.ref 0), some (.ref 180), some (.int (nI i))] [] (lay m) 193 5489 (none, []) := by
  obtain ⟨v, m1, m2, e1, e2, hR2⟩ := hS m hR (xs (i + 1)) (xs (i + 2))
  refine y_aload_n (i := 1) (q := 578) dL_law_577 rfl rfl rfl ?_
  refine y_aload_n (i := 0) (q := 579) dL_law_578 rfl rfl rfl ?_
  refine y_iload_n (i := 3) (q := 580) dL_law_579 rfl rfl rfl ?_
  refine y_iconst (v := 1) (q := 581) dL_law_580 (by decide) rfl ?_
  refine y_iadd (q := 582) dL_law_581 rfl ?_
  rw [show nI i + 1 = nI (i + 1) from nI_add i 1]
  refine y_sld (j := i + 1) (q := 583) dL_law_582 (by omega) (by omega) rfl ?_
  refine y_aload_n (i := 0) (q := 584) dL_law_583 rfl rfl rfl ?_
  refine y_iload_n (i := 3) (q := 585) dL_law_584 rfl rfl rfl ?_
  refine y_iconst (v := 2) (q := 586) dL_law_585 (by decide) rfl ?_
  refine y_iadd (q := 587) dL_law_586 rfl ?_
  rw [show nI i + 2 = nI (i + 2) from nI_add i 2]
  refine y_sld (j := i + 2) (q := 588) dL_law_587 (by omega) (by omega) rfl ?_
  refine ym_callV_r (As := [_, _]) (q := 591) mk_X7_borrow dL_law_588 wd_534 wd_535 wd_536 (ci := 7) rfl ⟨by decide, _, rfl⟩ e1 rfl (by simp [Value.category]) rfl (by decide) (by decide) rfl ?_
  refine y_aload_n (i := 2) (q := 592) dL_law_591 rfl rfl rfl ?_
  refine y_aload_n (i := 0) (q := 593) dL_law_592 rfl rfl rfl ?_
  refine y_iload_n (i := 3) (q := 594) dL_law_593 rfl rfl rfl ?_
  refine y_iconst (v := 1) (q := 595) dL_law_594 (by decide) rfl ?_
  refine y_iadd (q := 596) dL_law_595 rfl ?_
  rw [show nI i + 1 = nI (i + 1) from nI_add i 1]
  refine y_sld (j := i + 1) (q := 597) dL_law_596 (by omega) (by omega) rfl ?_
  refine y_aload_n (i := 0) (q := 598) dL_law_597 rfl rfl rfl ?_
  refine y_iload_n (i := 3) (q := 599) dL_law_598 rfl rfl rfl ?_
  refine y_iconst (v := 2) (q := 600) dL_law_599 (by decide) rfl ?_
  refine y_iadd (q := 601) dL_law_600 rfl ?_
  rw [show nI i + 2 = nI (i + 2) from nI_add i 2]
  refine y_sld (j := i + 2) (q := 602) dL_law_601 (by omega) (by omega) rfl ?_
  refine ym_callV_r (As := [_, _]) (q := 605) mk_X8_borrow dL_law_602 wd_986 wd_987 wd_988 (ci := 8) rfl ⟨by decide, _, rfl⟩ e2 rfl (by simp [Value.category]) rfl (by decide) (by decide) rfl ?_
  refine y_icmp_eq (tgt := 1111) (q := 608) dL_law_605 (by decide) rfl (fun _ => kk m2 hR2) (fun c => absurd rfl c)
set_option maxHeartbeats 4000000 in
set_option maxRecDepth 100000 in
theorem law_undo {R : zm → Prop} (hS : ∀ m : zm, R m → LawStp R zM_X7_undo zM_X8_undo m []) {b L : Nat} {xs : Nat → Int32} (hL : L ≤ 384) (i : Nat) (hi : i + 6 ≤ L) (m : zm) (hR : R m) (kk : ∀ m2, R m2 → YW (yP b L xs) zM_L_law 12 600000 7302250 1111 [some (.ref 2000000), some (.ref 0), some (.ref 180), some (.int (nI i))] [] (lay m2) 193 5489 (none, [])) : YW (yP b L xs) zM_L_law 12 600000 7302250 610 [some (.ref 2000000), some (.ref 0), some (.ref 180), some (.int (nI i))] [] (lay m) 193 5489 (none, []) := by
  obtain ⟨v, m1, m2, e1, e2, hR2⟩ := hS m hR
  refine y_aload_n (i := 1) (q := 611) dL_law_610 rfl rfl rfl ?_
  refine ym_callV_r (As := []) (q := 614) mk_X7_undo dL_law_611 wd_554 wd_555 wd_556 (ci := 7) rfl ⟨by decide, _, rfl⟩ e1 rfl (by simp [Value.category]) rfl (by decide) (by decide) rfl ?_
  refine y_aload_n (i := 2) (q := 615) dL_law_614 rfl rfl rfl ?_
  refine ym_callV_r (As := []) (q := 618) mk_X8_undo dL_law_615 wd_1000 wd_1001 wd_1002 (ci := 8) rfl ⟨by decide, _, rfl⟩ e2 rfl (by simp [Value.category]) rfl (by decide) (by decide) rfl ?_
  refine y_icmp_eq (tgt := 1111) (q := 621) dL_law_618 (by decide) rfl (fun _ => kk m2 hR2) (fun c => absurd rfl c)
set_option maxHeartbeats 4000000 in
set_option maxRecDepth 100000 in
theorem law_person {R : zm → Prop} (hS : ∀ m : zm, R m → ∀ (a0 : Int32) (a1 : Int32), LawStp R zM_X7_person zM_X8_person m [.int a0, .int a1]) {b L : Nat} {xs : Nat → Int32} (hL : L ≤ 384) (i : Nat) (hi : i + 6 ≤ L) (m : zm) (hR : R m) (kk : ∀ m2, R m2 → YW (yP b L xs) zM_L_law 12 600000 7302250 1111 [some (.ref 2000000), some (.ref 0), some (.ref 180), some (.int (nI i))] [] (lay m2) 193 5489 (none, [])) : YW (yP b L xs) zM_L_law 12 600000 7302250 623 [some (.ref 2000000), some (.ref 0), some (.ref 180), some (.int (nI i))] [] (lay m) 193 5489 (none, []) := by
  obtain ⟨v, m1, m2, e1, e2, hR2⟩ := hS m hR (xs (i + 1)) (xs (i + 2))
  refine y_aload_n (i := 1) (q := 624) dL_law_623 rfl rfl rfl ?_
  refine y_aload_n (i := 0) (q := 625) dL_law_624 rfl rfl rfl ?_
  refine y_iload_n (i := 3) (q := 626) dL_law_625 rfl rfl rfl ?_
  refine y_iconst (v := 1) (q := 627) dL_law_626 (by decide) rfl ?_
  refine y_iadd (q := 628) dL_law_627 rfl ?_
  rw [show nI i + 1 = nI (i + 1) from nI_add i 1]
  refine y_sld (j := i + 1) (q := 629) dL_law_628 (by omega) (by omega) rfl ?_
  refine y_aload_n (i := 0) (q := 630) dL_law_629 rfl rfl rfl ?_
  refine y_iload_n (i := 3) (q := 631) dL_law_630 rfl rfl rfl ?_
  refine y_iconst (v := 2) (q := 632) dL_law_631 (by decide) rfl ?_
  refine y_iadd (q := 633) dL_law_632 rfl ?_
  rw [show nI i + 2 = nI (i + 2) from nI_add i 2]
  refine y_sld (j := i + 2) (q := 634) dL_law_633 (by omega) (by omega) rfl ?_
  refine ym_callV_r (As := [_, _]) (q := 637) mk_X7_person dL_law_634 wd_562 wd_563 wd_564 (ci := 7) rfl ⟨by decide, _, rfl⟩ e1 rfl (by simp [Value.category]) rfl (by decide) (by decide) rfl ?_
  refine y_aload_n (i := 2) (q := 638) dL_law_637 rfl rfl rfl ?_
  refine y_aload_n (i := 0) (q := 639) dL_law_638 rfl rfl rfl ?_
  refine y_iload_n (i := 3) (q := 640) dL_law_639 rfl rfl rfl ?_
  refine y_iconst (v := 1) (q := 641) dL_law_640 (by decide) rfl ?_
  refine y_iadd (q := 642) dL_law_641 rfl ?_
  rw [show nI i + 1 = nI (i + 1) from nI_add i 1]
  refine y_sld (j := i + 1) (q := 643) dL_law_642 (by omega) (by omega) rfl ?_
  refine y_aload_n (i := 0) (q := 644) dL_law_643 rfl rfl rfl ?_
  refine y_iload_n (i := 3) (q := 645) dL_law_644 rfl rfl rfl ?_
  refine y_iconst (v := 2) (q := 646) dL_law_645 (by decide) rfl ?_
  refine y_iadd (q := 647) dL_law_646 rfl ?_
  rw [show nI i + 2 = nI (i + 2) from nI_add i 2]
  refine y_sld (j := i + 2) (q := 648) dL_law_647 (by omega) (by omega) rfl ?_
  refine ym_callV_r (As := [_, _]) (q := 651) mk_X8_person dL_law_648 wd_1004 wd_1005 wd_1006 (ci := 8) rfl ⟨by decide, _, rfl⟩ e2 rfl (by simp [Value.category]) rfl (by decide) (by decide) rfl ?_
  refine y_icmp_eq (tgt := 1111) (q := 654) dL_law_651 (by decide) rfl (fun _ => kk m2 hR2) (fun c => absurd rfl c)
set_option maxHeartbeats 4000000 in
set_option maxRecDepth 100000 in
theorem law_gains {R : zm → Prop} (hS : ∀ m : zm, R m → ∀ (a0 : Int32) (a1 : Int32) (a2 : Int32) (a3 : Int32), LawStp R zM_X7_gains zM_X8_gains m [.int a0, .int a1, .int a2, .int a3]) {b L : Nat} {xs : Nat → Int32} (hL : L ≤ 384) (i : Nat) (hi : i + 6 ≤ L) (m : zm) (hR : R m) (kk : ∀ m2, R m2 → YW (yP b L xs) zM_L_law 12 600000 7302250 1111 [some (.ref 2000000), some (.ref 0), some (.ref 180), some (.int (nI i))] [] (lay m2) 193 5489 (none, [])) : YW (yP b L xs) zM_L_law 12 600000 7302250 656 [some (.ref 2000000), some (.ref 0), some (.ref 180), some (.int (nI i))] [] (lay m) 193 5489 (none, []) := by
  obtain ⟨v, m1, m2, e1, e2, hR2⟩ := hS m hR (xs (i + 1)) (xs (i + 2)) (xs (i + 3)) (xs (i + 4))
  refine y_aload_n (i := 1) (q := 657) dL_law_656 rfl rfl rfl ?_
  refine y_aload_n (i := 0) (q := 658) dL_law_657 rfl rfl rfl ?_
  refine y_iload_n (i := 3) (q := 659) dL_law_658 rfl rfl rfl ?_
  refine y_iconst (v := 1) (q := 660) dL_law_659 (by decide) rfl ?_
  refine y_iadd (q := 661) dL_law_660 rfl ?_
  rw [show nI i + 1 = nI (i + 1) from nI_add i 1]
  refine y_sld (j := i + 1) (q := 662) dL_law_661 (by omega) (by omega) rfl ?_
  refine y_aload_n (i := 0) (q := 663) dL_law_662 rfl rfl rfl ?_
  refine y_iload_n (i := 3) (q := 664) dL_law_663 rfl rfl rfl ?_
  refine y_iconst (v := 2) (q := 665) dL_law_664 (by decide) rfl ?_
  refine y_iadd (q := 666) dL_law_665 rfl ?_
  rw [show nI i + 2 = nI (i + 2) from nI_add i 2]
  refine y_sld (j := i + 2) (q := 667) dL_law_666 (by omega) (by omega) rfl ?_
  refine y_aload_n (i := 0) (q := 668) dL_law_667 rfl rfl rfl ?_
  refine y_iload_n (i := 3) (q := 669) dL_law_668 rfl rfl rfl ?_
  refine y_iconst (v := 3) (q := 670) dL_law_669 (by decide) rfl ?_
  refine y_iadd (q := 671) dL_law_670 rfl ?_
  rw [show nI i + 3 = nI (i + 3) from nI_add i 3]
  refine y_sld (j := i + 3) (q := 672) dL_law_671 (by omega) (by omega) rfl ?_
  refine y_aload_n (i := 0) (q := 673) dL_law_672 rfl rfl rfl ?_
  refine y_iload_n (i := 3) (q := 674) dL_law_673 rfl rfl rfl ?_
  refine y_iconst (v := 4) (q := 675) dL_law_674 (by decide) rfl ?_
  refine y_iadd (q := 676) dL_law_675 rfl ?_
  rw [show nI i + 4 = nI (i + 4) from nI_add i 4]
  refine y_sld (j := i + 4) (q := 677) dL_law_676 (by omega) (by omega) rfl ?_
  refine ym_callV_r (As := [_, _, _, _]) (q := 680) mk_X7_gains dL_law_677 wd_574 wd_575 wd_576 (ci := 7) rfl ⟨by decide, _, rfl⟩ e1 rfl (by simp [Value.category]) rfl (by decide) (by decide) rfl ?_
  refine y_aload_n (i := 2) (q := 681) dL_law_680 rfl rfl rfl ?_
  refine y_aload_n (i := 0) (q := 682) dL_law_681 rfl rfl rfl ?_
  refine y_iload_n (i := 3) (q := 683) dL_law_682 rfl rfl rfl ?_
  refine y_iconst (v := 1) (q := 684) dL_law_683 (by decide) rfl ?_
  refine y_iadd (q := 685) dL_law_684 rfl ?_
  rw [show nI i + 1 = nI (i + 1) from nI_add i 1]
  refine y_sld (j := i + 1) (q := 686) dL_law_685 (by omega) (by omega) rfl ?_
  refine y_aload_n (i := 0) (q := 687) dL_law_686 rfl rfl rfl ?_
  refine y_iload_n (i := 3) (q := 688) dL_law_687 rfl rfl rfl ?_
  refine y_iconst (v := 2) (q := 689) dL_law_688 (by decide) rfl ?_
  refine y_iadd (q := 690) dL_law_689 rfl ?_
  rw [show nI i + 2 = nI (i + 2) from nI_add i 2]
  refine y_sld (j := i + 2) (q := 691) dL_law_690 (by omega) (by omega) rfl ?_
  refine y_aload_n (i := 0) (q := 692) dL_law_691 rfl rfl rfl ?_
  refine y_iload_n (i := 3) (q := 693) dL_law_692 rfl rfl rfl ?_
  refine y_iconst (v := 3) (q := 694) dL_law_693 (by decide) rfl ?_
  refine y_iadd (q := 695) dL_law_694 rfl ?_
  rw [show nI i + 3 = nI (i + 3) from nI_add i 3]
  refine y_sld (j := i + 3) (q := 696) dL_law_695 (by omega) (by omega) rfl ?_
  refine y_aload_n (i := 0) (q := 697) dL_law_696 rfl rfl rfl ?_
  refine y_iload_n (i := 3) (q := 698) dL_law_697 rfl rfl rfl ?_
  refine y_iconst (v := 4) (q := 699) dL_law_698 (by decide) rfl ?_
  refine y_iadd (q := 700) dL_law_699 rfl ?_
  rw [show nI i + 4 = nI (i + 4) from nI_add i 4]
  refine y_sld (j := i + 4) (q := 701) dL_law_700 (by omega) (by omega) rfl ?_
  refine ym_callV_r (As := [_, _, _, _]) (q := 704) mk_X8_gains dL_law_701 wd_1009 wd_1010 wd_1011 (ci := 8) rfl ⟨by decide, _, rfl⟩ e2 rfl (by simp [Value.category]) rfl (by decide) (by decide) rfl ?_
  refine y_icmp_eq (tgt := 1111) (q := 707) dL_law_704 (by decide) rfl (fun _ => kk m2 hR2) (fun c => absurd rfl c)
set_option maxHeartbeats 4000000 in
set_option maxRecDepth 100000 in
theorem law_soonest {R : zm → Prop} (hS : ∀ m : zm, R m → ∀ (a0 : Int32) (a1 : Int32) (a2 : Int32), LawStp R zM_X7_soonest zM_X8_soonest m [.int a0, .int a1, .int a2]) {b L : Nat} {xs : Nat → Int32} (hL : L ≤ 384) (i : Nat) (hi : i + 6 ≤ L) (m : zm) (hR : R m) (kk : ∀ m2, R m2 → YW (yP b L xs) zM_L_law 12 600000 7302250 1111 [some (.ref 2000000), some (.ref 0), some (.ref 180), some (.int (nI i))] [] (lay m2) 193 5489 (none, [])) : YW (yP b L xs) zM_L_law 12 600000 7302250 709 [some (.ref 2000000), some (.ref 0), some (.ref 180), some (.int (nI i))] [] (lay m) 193 5489 (none, []) := by
  obtain ⟨v, m1, m2, e1, e2, hR2⟩ := hS m hR (xs (i + 1)) (xs (i + 2)) (xs (i + 3))
  refine y_aload_n (i := 1) (q := 710) dL_law_709 rfl rfl rfl ?_
  refine y_aload_n (i := 0) (q := 711) dL_law_710 rfl rfl rfl ?_
  refine y_iload_n (i := 3) (q := 712) dL_law_711 rfl rfl rfl ?_
  refine y_iconst (v := 1) (q := 713) dL_law_712 (by decide) rfl ?_
  refine y_iadd (q := 714) dL_law_713 rfl ?_
  rw [show nI i + 1 = nI (i + 1) from nI_add i 1]
  refine y_sld (j := i + 1) (q := 715) dL_law_714 (by omega) (by omega) rfl ?_
  refine y_aload_n (i := 0) (q := 716) dL_law_715 rfl rfl rfl ?_
  refine y_iload_n (i := 3) (q := 717) dL_law_716 rfl rfl rfl ?_
  refine y_iconst (v := 2) (q := 718) dL_law_717 (by decide) rfl ?_
  refine y_iadd (q := 719) dL_law_718 rfl ?_
  rw [show nI i + 2 = nI (i + 2) from nI_add i 2]
  refine y_sld (j := i + 2) (q := 720) dL_law_719 (by omega) (by omega) rfl ?_
  refine y_aload_n (i := 0) (q := 721) dL_law_720 rfl rfl rfl ?_
  refine y_iload_n (i := 3) (q := 722) dL_law_721 rfl rfl rfl ?_
  refine y_iconst (v := 3) (q := 723) dL_law_722 (by decide) rfl ?_
  refine y_iadd (q := 724) dL_law_723 rfl ?_
  rw [show nI i + 3 = nI (i + 3) from nI_add i 3]
  refine y_sld (j := i + 3) (q := 725) dL_law_724 (by omega) (by omega) rfl ?_
  refine ym_callV_r (As := [_, _, _]) (q := 728) mk_X7_soonest dL_law_725 wd_618 wd_619 wd_620 (ci := 7) rfl ⟨by decide, _, rfl⟩ e1 rfl (by simp [Value.category]) rfl (by decide) (by decide) rfl ?_
  refine y_aload_n (i := 2) (q := 729) dL_law_728 rfl rfl rfl ?_
  refine y_aload_n (i := 0) (q := 730) dL_law_729 rfl rfl rfl ?_
  refine y_iload_n (i := 3) (q := 731) dL_law_730 rfl rfl rfl ?_
  refine y_iconst (v := 1) (q := 732) dL_law_731 (by decide) rfl ?_
  refine y_iadd (q := 733) dL_law_732 rfl ?_
  rw [show nI i + 1 = nI (i + 1) from nI_add i 1]
  refine y_sld (j := i + 1) (q := 734) dL_law_733 (by omega) (by omega) rfl ?_
  refine y_aload_n (i := 0) (q := 735) dL_law_734 rfl rfl rfl ?_
  refine y_iload_n (i := 3) (q := 736) dL_law_735 rfl rfl rfl ?_
  refine y_iconst (v := 2) (q := 737) dL_law_736 (by decide) rfl ?_
  refine y_iadd (q := 738) dL_law_737 rfl ?_
  rw [show nI i + 2 = nI (i + 2) from nI_add i 2]
  refine y_sld (j := i + 2) (q := 739) dL_law_738 (by omega) (by omega) rfl ?_
  refine y_aload_n (i := 0) (q := 740) dL_law_739 rfl rfl rfl ?_
  refine y_iload_n (i := 3) (q := 741) dL_law_740 rfl rfl rfl ?_
  refine y_iconst (v := 3) (q := 742) dL_law_741 (by decide) rfl ?_
  refine y_iadd (q := 743) dL_law_742 rfl ?_
  rw [show nI i + 3 = nI (i + 3) from nI_add i 3]
  refine y_sld (j := i + 3) (q := 744) dL_law_743 (by omega) (by omega) rfl ?_
  refine ym_callV_r (As := [_, _, _]) (q := 747) mk_X8_soonest dL_law_744 wd_1022 wd_1023 wd_1024 (ci := 8) rfl ⟨by decide, _, rfl⟩ e2 rfl (by simp [Value.category]) rfl (by decide) (by decide) rfl ?_
  refine y_icmp_eq (tgt := 1111) (q := 750) dL_law_747 (by decide) rfl (fun _ => kk m2 hR2) (fun c => absurd rfl c)
set_option maxHeartbeats 4000000 in
set_option maxRecDepth 100000 in
theorem law_voyages {R : zm → Prop} (hS : ∀ m : zm, R m → ∀ (a0 : Int32) (a1 : Int32), LawStp R zM_X7_voyages zM_X8_voyages m [.int a0, .int a1]) {b L : Nat} {xs : Nat → Int32} (hL : L ≤ 384) (i : Nat) (hi : i + 6 ≤ L) (m : zm) (hR : R m) (kk : ∀ m2, R m2 → YW (yP b L xs) zM_L_law 12 600000 7302250 1111 [some (.ref 2000000), some (.ref 0), some (.ref 180), some (.int (nI i))] [] (lay m2) 193 5489 (none, [])) : YW (yP b L xs) zM_L_law 12 600000 7302250 752 [some (.ref 2000000), some (.ref 0), some (.ref 180), some (.int (nI i))] [] (lay m) 193 5489 (none, []) := by
  obtain ⟨v, m1, m2, e1, e2, hR2⟩ := hS m hR (xs (i + 1)) (xs (i + 2))
  refine y_aload_n (i := 1) (q := 753) dL_law_752 rfl rfl rfl ?_
  refine y_aload_n (i := 0) (q := 754) dL_law_753 rfl rfl rfl ?_
  refine y_iload_n (i := 3) (q := 755) dL_law_754 rfl rfl rfl ?_
  refine y_iconst (v := 1) (q := 756) dL_law_755 (by decide) rfl ?_
  refine y_iadd (q := 757) dL_law_756 rfl ?_
  rw [show nI i + 1 = nI (i + 1) from nI_add i 1]
  refine y_sld (j := i + 1) (q := 758) dL_law_757 (by omega) (by omega) rfl ?_
  refine y_aload_n (i := 0) (q := 759) dL_law_758 rfl rfl rfl ?_
  refine y_iload_n (i := 3) (q := 760) dL_law_759 rfl rfl rfl ?_
  refine y_iconst (v := 2) (q := 761) dL_law_760 (by decide) rfl ?_
  refine y_iadd (q := 762) dL_law_761 rfl ?_
  rw [show nI i + 2 = nI (i + 2) from nI_add i 2]
  refine y_sld (j := i + 2) (q := 763) dL_law_762 (by omega) (by omega) rfl ?_
  refine ym_callV_r (As := [_, _]) (q := 766) mk_X7_voyages dL_law_763 wd_626 wd_627 wd_628 (ci := 7) rfl ⟨by decide, _, rfl⟩ e1 rfl (by simp [Value.category]) rfl (by decide) (by decide) rfl ?_
  refine y_aload_n (i := 2) (q := 767) dL_law_766 rfl rfl rfl ?_
  refine y_aload_n (i := 0) (q := 768) dL_law_767 rfl rfl rfl ?_
  refine y_iload_n (i := 3) (q := 769) dL_law_768 rfl rfl rfl ?_
  refine y_iconst (v := 1) (q := 770) dL_law_769 (by decide) rfl ?_
  refine y_iadd (q := 771) dL_law_770 rfl ?_
  rw [show nI i + 1 = nI (i + 1) from nI_add i 1]
  refine y_sld (j := i + 1) (q := 772) dL_law_771 (by omega) (by omega) rfl ?_
  refine y_aload_n (i := 0) (q := 773) dL_law_772 rfl rfl rfl ?_
  refine y_iload_n (i := 3) (q := 774) dL_law_773 rfl rfl rfl ?_
  refine y_iconst (v := 2) (q := 775) dL_law_774 (by decide) rfl ?_
  refine y_iadd (q := 776) dL_law_775 rfl ?_
  rw [show nI i + 2 = nI (i + 2) from nI_add i 2]
  refine y_sld (j := i + 2) (q := 777) dL_law_776 (by omega) (by omega) rfl ?_
  refine ym_callV_r (As := [_, _]) (q := 780) mk_X8_voyages dL_law_777 wd_1026 wd_1027 wd_1028 (ci := 8) rfl ⟨by decide, _, rfl⟩ e2 rfl (by simp [Value.category]) rfl (by decide) (by decide) rfl ?_
  refine y_icmp_eq (tgt := 1111) (q := 783) dL_law_780 (by decide) rfl (fun _ => kk m2 hR2) (fun c => absurd rfl c)
set_option maxHeartbeats 4000000 in
set_option maxRecDepth 100000 in
theorem law_even {R : zm → Prop} (hS : ∀ m : zm, R m → ∀ (a0 : Int32) (a1 : Int32) (a2 : Int32), LawStp R zM_X7_even zM_X8_even m [.int a0, .int a1, .int a2]) {b L : Nat} {xs : Nat → Int32} (hL : L ≤ 384) (i : Nat) (hi : i + 6 ≤ L) (m : zm) (hR : R m) (kk : ∀ m2, R m2 → YW (yP b L xs) zM_L_law 12 600000 7302250 1111 [some (.ref 2000000), some (.ref 0), some (.ref 180), some (.int (nI i))] [] (lay m2) 193 5489 (none, [])) : YW (yP b L xs) zM_L_law 12 600000 7302250 785 [some (.ref 2000000), some (.ref 0), some (.ref 180), some (.int (nI i))] [] (lay m) 193 5489 (none, []) := by
  obtain ⟨v, m1, m2, e1, e2, hR2⟩ := hS m hR (xs (i + 1)) (xs (i + 2)) (xs (i + 3))
  refine y_aload_n (i := 1) (q := 786) dL_law_785 rfl rfl rfl ?_
  refine y_aload_n (i := 0) (q := 787) dL_law_786 rfl rfl rfl ?_
  refine y_iload_n (i := 3) (q := 788) dL_law_787 rfl rfl rfl ?_
  refine y_iconst (v := 1) (q := 789) dL_law_788 (by decide) rfl ?_
  refine y_iadd (q := 790) dL_law_789 rfl ?_
  rw [show nI i + 1 = nI (i + 1) from nI_add i 1]
  refine y_sld (j := i + 1) (q := 791) dL_law_790 (by omega) (by omega) rfl ?_
  refine y_aload_n (i := 0) (q := 792) dL_law_791 rfl rfl rfl ?_
  refine y_iload_n (i := 3) (q := 793) dL_law_792 rfl rfl rfl ?_
  refine y_iconst (v := 2) (q := 794) dL_law_793 (by decide) rfl ?_
  refine y_iadd (q := 795) dL_law_794 rfl ?_
  rw [show nI i + 2 = nI (i + 2) from nI_add i 2]
  refine y_sld (j := i + 2) (q := 796) dL_law_795 (by omega) (by omega) rfl ?_
  refine y_aload_n (i := 0) (q := 797) dL_law_796 rfl rfl rfl ?_
  refine y_iload_n (i := 3) (q := 798) dL_law_797 rfl rfl rfl ?_
  refine y_iconst (v := 3) (q := 799) dL_law_798 (by decide) rfl ?_
  refine y_iadd (q := 800) dL_law_799 rfl ?_
  rw [show nI i + 3 = nI (i + 3) from nI_add i 3]
  refine y_sld (j := i + 3) (q := 801) dL_law_800 (by omega) (by omega) rfl ?_
  refine ym_callV_r (As := [_, _, _]) (q := 804) mk_X7_even dL_law_801 wd_635 wd_636 wd_637 (ci := 7) rfl ⟨by decide, _, rfl⟩ e1 rfl (by simp [Value.category]) rfl (by decide) (by decide) rfl ?_
  refine y_aload_n (i := 2) (q := 805) dL_law_804 rfl rfl rfl ?_
  refine y_aload_n (i := 0) (q := 806) dL_law_805 rfl rfl rfl ?_
  refine y_iload_n (i := 3) (q := 807) dL_law_806 rfl rfl rfl ?_
  refine y_iconst (v := 1) (q := 808) dL_law_807 (by decide) rfl ?_
  refine y_iadd (q := 809) dL_law_808 rfl ?_
  rw [show nI i + 1 = nI (i + 1) from nI_add i 1]
  refine y_sld (j := i + 1) (q := 810) dL_law_809 (by omega) (by omega) rfl ?_
  refine y_aload_n (i := 0) (q := 811) dL_law_810 rfl rfl rfl ?_
  refine y_iload_n (i := 3) (q := 812) dL_law_811 rfl rfl rfl ?_
  refine y_iconst (v := 2) (q := 813) dL_law_812 (by decide) rfl ?_
  refine y_iadd (q := 814) dL_law_813 rfl ?_
  rw [show nI i + 2 = nI (i + 2) from nI_add i 2]
  refine y_sld (j := i + 2) (q := 815) dL_law_814 (by omega) (by omega) rfl ?_
  refine y_aload_n (i := 0) (q := 816) dL_law_815 rfl rfl rfl ?_
  refine y_iload_n (i := 3) (q := 817) dL_law_816 rfl rfl rfl ?_
  refine y_iconst (v := 3) (q := 818) dL_law_817 (by decide) rfl ?_
  refine y_iadd (q := 819) dL_law_818 rfl ?_
  rw [show nI i + 3 = nI (i + 3) from nI_add i 3]
  refine y_sld (j := i + 3) (q := 820) dL_law_819 (by omega) (by omega) rfl ?_
  refine ym_callV_r (As := [_, _, _]) (q := 823) mk_X8_even dL_law_820 wd_1030 wd_1031 wd_1032 (ci := 8) rfl ⟨by decide, _, rfl⟩ e2 rfl (by simp [Value.category]) rfl (by decide) (by decide) rfl ?_
  refine y_icmp_eq (tgt := 1111) (q := 826) dL_law_823 (by decide) rfl (fun _ => kk m2 hR2) (fun c => absurd rfl c)
set_option maxHeartbeats 4000000 in
set_option maxRecDepth 100000 in
theorem law_where {R : zm → Prop} (hS : ∀ m : zm, R m → ∀ (a0 : Int32) (a1 : Int32) (a2 : Int32), LawStp R zM_X7_where zM_X8_where m [.int a0, .int a1, .int a2]) {b L : Nat} {xs : Nat → Int32} (hL : L ≤ 384) (i : Nat) (hi : i + 6 ≤ L) (m : zm) (hR : R m) (kk : ∀ m2, R m2 → YW (yP b L xs) zM_L_law 12 600000 7302250 1111 [some (.ref 2000000), some (.ref 0), some (.ref 180), some (.int (nI i))] [] (lay m2) 193 5489 (none, [])) : YW (yP b L xs) zM_L_law 12 600000 7302250 828 [some (.ref 2000000), some (.ref 0), some (.ref 180), some (.int (nI i))] [] (lay m) 193 5489 (none, []) := by
  obtain ⟨v, m1, m2, e1, e2, hR2⟩ := hS m hR (xs (i + 1)) (xs (i + 2)) (xs (i + 3))
  refine y_aload_n (i := 1) (q := 829) dL_law_828 rfl rfl rfl ?_
  refine y_aload_n (i := 0) (q := 830) dL_law_829 rfl rfl rfl ?_
  refine y_iload_n (i := 3) (q := 831) dL_law_830 rfl rfl rfl ?_
  refine y_iconst (v := 1) (q := 832) dL_law_831 (by decide) rfl ?_
  refine y_iadd (q := 833) dL_law_832 rfl ?_
  rw [show nI i + 1 = nI (i + 1) from nI_add i 1]
  refine y_sld (j := i + 1) (q := 834) dL_law_833 (by omega) (by omega) rfl ?_
  refine y_aload_n (i := 0) (q := 835) dL_law_834 rfl rfl rfl ?_
  refine y_iload_n (i := 3) (q := 836) dL_law_835 rfl rfl rfl ?_
  refine y_iconst (v := 2) (q := 837) dL_law_836 (by decide) rfl ?_
  refine y_iadd (q := 838) dL_law_837 rfl ?_
  rw [show nI i + 2 = nI (i + 2) from nI_add i 2]
  refine y_sld (j := i + 2) (q := 839) dL_law_838 (by omega) (by omega) rfl ?_
  refine y_aload_n (i := 0) (q := 840) dL_law_839 rfl rfl rfl ?_
  refine y_iload_n (i := 3) (q := 841) dL_law_840 rfl rfl rfl ?_
  refine y_iconst (v := 3) (q := 842) dL_law_841 (by decide) rfl ?_
  refine y_iadd (q := 843) dL_law_842 rfl ?_
  rw [show nI i + 3 = nI (i + 3) from nI_add i 3]
  refine y_sld (j := i + 3) (q := 844) dL_law_843 (by omega) (by omega) rfl ?_
  refine ym_callV_r (As := [_, _, _]) (q := 847) mk_X7_where dL_law_844 wd_645 wd_646 wd_647 (ci := 7) rfl ⟨by decide, _, rfl⟩ e1 rfl (by simp [Value.category]) rfl (by decide) (by decide) rfl ?_
  refine y_aload_n (i := 2) (q := 848) dL_law_847 rfl rfl rfl ?_
  refine y_aload_n (i := 0) (q := 849) dL_law_848 rfl rfl rfl ?_
  refine y_iload_n (i := 3) (q := 850) dL_law_849 rfl rfl rfl ?_
  refine y_iconst (v := 1) (q := 851) dL_law_850 (by decide) rfl ?_
  refine y_iadd (q := 852) dL_law_851 rfl ?_
  rw [show nI i + 1 = nI (i + 1) from nI_add i 1]
  refine y_sld (j := i + 1) (q := 853) dL_law_852 (by omega) (by omega) rfl ?_
  refine y_aload_n (i := 0) (q := 854) dL_law_853 rfl rfl rfl ?_
  refine y_iload_n (i := 3) (q := 855) dL_law_854 rfl rfl rfl ?_
  refine y_iconst (v := 2) (q := 856) dL_law_855 (by decide) rfl ?_
  refine y_iadd (q := 857) dL_law_856 rfl ?_
  rw [show nI i + 2 = nI (i + 2) from nI_add i 2]
  refine y_sld (j := i + 2) (q := 858) dL_law_857 (by omega) (by omega) rfl ?_
  refine y_aload_n (i := 0) (q := 859) dL_law_858 rfl rfl rfl ?_
  refine y_iload_n (i := 3) (q := 860) dL_law_859 rfl rfl rfl ?_
  refine y_iconst (v := 3) (q := 861) dL_law_860 (by decide) rfl ?_
  refine y_iadd (q := 862) dL_law_861 rfl ?_
  rw [show nI i + 3 = nI (i + 3) from nI_add i 3]
  refine y_sld (j := i + 3) (q := 863) dL_law_862 (by omega) (by omega) rfl ?_
  refine ym_callV_r (As := [_, _, _]) (q := 866) mk_X8_where dL_law_863 wd_1034 wd_1035 wd_1036 (ci := 8) rfl ⟨by decide, _, rfl⟩ e2 rfl (by simp [Value.category]) rfl (by decide) (by decide) rfl ?_
  refine y_icmp_eq (tgt := 1111) (q := 869) dL_law_866 (by decide) rfl (fun _ => kk m2 hR2) (fun c => absurd rfl c)
set_option maxHeartbeats 4000000 in
set_option maxRecDepth 100000 in
theorem law_gone {R : zm → Prop} (hS : ∀ m : zm, R m → ∀ (a0 : Int32), LawStp R zM_X7_gone zM_X8_gone m [.int a0]) {b L : Nat} {xs : Nat → Int32} (hL : L ≤ 384) (i : Nat) (hi : i + 6 ≤ L) (m : zm) (hR : R m) (kk : ∀ m2, R m2 → YW (yP b L xs) zM_L_law 12 600000 7302250 1111 [some (.ref 2000000), some (.ref 0), some (.ref 180), some (.int (nI i))] [] (lay m2) 193 5489 (none, [])) : YW (yP b L xs) zM_L_law 12 600000 7302250 871 [some (.ref 2000000), some (.ref 0), some (.ref 180), some (.int (nI i))] [] (lay m) 193 5489 (none, []) := by
  obtain ⟨v, m1, m2, e1, e2, hR2⟩ := hS m hR (xs (i + 1))
  refine y_aload_n (i := 1) (q := 872) dL_law_871 rfl rfl rfl ?_
  refine y_aload_n (i := 0) (q := 873) dL_law_872 rfl rfl rfl ?_
  refine y_iload_n (i := 3) (q := 874) dL_law_873 rfl rfl rfl ?_
  refine y_iconst (v := 1) (q := 875) dL_law_874 (by decide) rfl ?_
  refine y_iadd (q := 876) dL_law_875 rfl ?_
  rw [show nI i + 1 = nI (i + 1) from nI_add i 1]
  refine y_sld (j := i + 1) (q := 877) dL_law_876 (by omega) (by omega) rfl ?_
  refine ym_callV_r (As := [_]) (q := 880) mk_X7_gone dL_law_877 wd_649 wd_650 wd_651 (ci := 7) rfl ⟨by decide, _, rfl⟩ e1 rfl (by simp [Value.category]) rfl (by decide) (by decide) rfl ?_
  refine y_aload_n (i := 2) (q := 881) dL_law_880 rfl rfl rfl ?_
  refine y_aload_n (i := 0) (q := 882) dL_law_881 rfl rfl rfl ?_
  refine y_iload_n (i := 3) (q := 883) dL_law_882 rfl rfl rfl ?_
  refine y_iconst (v := 1) (q := 884) dL_law_883 (by decide) rfl ?_
  refine y_iadd (q := 885) dL_law_884 rfl ?_
  rw [show nI i + 1 = nI (i + 1) from nI_add i 1]
  refine y_sld (j := i + 1) (q := 886) dL_law_885 (by omega) (by omega) rfl ?_
  refine ym_callV_r (As := [_]) (q := 889) mk_X8_gone dL_law_886 wd_1040 wd_1041 wd_1042 (ci := 8) rfl ⟨by decide, _, rfl⟩ e2 rfl (by simp [Value.category]) rfl (by decide) (by decide) rfl ?_
  refine y_icmp_eq (tgt := 1111) (q := 892) dL_law_889 (by decide) rfl (fun _ => kk m2 hR2) (fun c => absurd rfl c)
set_option maxHeartbeats 4000000 in
set_option maxRecDepth 100000 in
theorem law_eldest {R : zm → Prop} (hS : ∀ m : zm, R m → ∀ (a0 : Int32), LawStp R zM_X7_eldest zM_X8_eldest m [.int a0]) {b L : Nat} {xs : Nat → Int32} (hL : L ≤ 384) (i : Nat) (hi : i + 6 ≤ L) (m : zm) (hR : R m) (kk : ∀ m2, R m2 → YW (yP b L xs) zM_L_law 12 600000 7302250 1111 [some (.ref 2000000), some (.ref 0), some (.ref 180), some (.int (nI i))] [] (lay m2) 193 5489 (none, [])) : YW (yP b L xs) zM_L_law 12 600000 7302250 894 [some (.ref 2000000), some (.ref 0), some (.ref 180), some (.int (nI i))] [] (lay m) 193 5489 (none, []) := by
  obtain ⟨v, m1, m2, e1, e2, hR2⟩ := hS m hR (xs (i + 1))
  refine y_aload_n (i := 1) (q := 895) dL_law_894 rfl rfl rfl ?_
  refine y_aload_n (i := 0) (q := 896) dL_law_895 rfl rfl rfl ?_
  refine y_iload_n (i := 3) (q := 897) dL_law_896 rfl rfl rfl ?_
  refine y_iconst (v := 1) (q := 898) dL_law_897 (by decide) rfl ?_
  refine y_iadd (q := 899) dL_law_898 rfl ?_
  rw [show nI i + 1 = nI (i + 1) from nI_add i 1]
  refine y_sld (j := i + 1) (q := 900) dL_law_899 (by omega) (by omega) rfl ?_
  refine ym_callV_r (As := [_]) (q := 903) mk_X7_eldest dL_law_900 wd_653 wd_654 wd_655 (ci := 7) rfl ⟨by decide, _, rfl⟩ e1 rfl (by simp [Value.category]) rfl (by decide) (by decide) rfl ?_
  refine y_aload_n (i := 2) (q := 904) dL_law_903 rfl rfl rfl ?_
  refine y_aload_n (i := 0) (q := 905) dL_law_904 rfl rfl rfl ?_
  refine y_iload_n (i := 3) (q := 906) dL_law_905 rfl rfl rfl ?_
  refine y_iconst (v := 1) (q := 907) dL_law_906 (by decide) rfl ?_
  refine y_iadd (q := 908) dL_law_907 rfl ?_
  rw [show nI i + 1 = nI (i + 1) from nI_add i 1]
  refine y_sld (j := i + 1) (q := 909) dL_law_908 (by omega) (by omega) rfl ?_
  refine ym_callV_r (As := [_]) (q := 912) mk_X8_eldest dL_law_909 wd_1044 wd_1045 wd_1046 (ci := 8) rfl ⟨by decide, _, rfl⟩ e2 rfl (by simp [Value.category]) rfl (by decide) (by decide) rfl ?_
  refine y_icmp_eq (tgt := 1111) (q := 915) dL_law_912 (by decide) rfl (fun _ => kk m2 hR2) (fun c => absurd rfl c)
set_option maxHeartbeats 4000000 in
set_option maxRecDepth 100000 in
theorem law_image {R : zm → Prop} (hS : ∀ m : zm, R m → ∀ (a0 : Int32), LawStp R zM_X7_image zM_X8_image m [.int a0]) {b L : Nat} {xs : Nat → Int32} (hL : L ≤ 384) (i : Nat) (hi : i + 6 ≤ L) (m : zm) (hR : R m) (kk : ∀ m2, R m2 → YW (yP b L xs) zM_L_law 12 600000 7302250 1111 [some (.ref 2000000), some (.ref 0), some (.ref 180), some (.int (nI i))] [] (lay m2) 193 5489 (none, [])) : YW (yP b L xs) zM_L_law 12 600000 7302250 917 [some (.ref 2000000), some (.ref 0), some (.ref 180), some (.int (nI i))] [] (lay m) 193 5489 (none, []) := by
  obtain ⟨v, m1, m2, e1, e2, hR2⟩ := hS m hR (xs (i + 1))
  refine y_aload_n (i := 1) (q := 918) dL_law_917 rfl rfl rfl ?_
  refine y_aload_n (i := 0) (q := 919) dL_law_918 rfl rfl rfl ?_
  refine y_iload_n (i := 3) (q := 920) dL_law_919 rfl rfl rfl ?_
  refine y_iconst (v := 1) (q := 921) dL_law_920 (by decide) rfl ?_
  refine y_iadd (q := 922) dL_law_921 rfl ?_
  rw [show nI i + 1 = nI (i + 1) from nI_add i 1]
  refine y_sld (j := i + 1) (q := 923) dL_law_922 (by omega) (by omega) rfl ?_
  refine ym_callV_r (As := [_]) (q := 926) mk_X7_image dL_law_923 wd_657 wd_658 wd_659 (ci := 7) rfl ⟨by decide, _, rfl⟩ e1 rfl (by simp [Value.category]) rfl (by decide) (by decide) rfl ?_
  refine y_aload_n (i := 2) (q := 927) dL_law_926 rfl rfl rfl ?_
  refine y_aload_n (i := 0) (q := 928) dL_law_927 rfl rfl rfl ?_
  refine y_iload_n (i := 3) (q := 929) dL_law_928 rfl rfl rfl ?_
  refine y_iconst (v := 1) (q := 930) dL_law_929 (by decide) rfl ?_
  refine y_iadd (q := 931) dL_law_930 rfl ?_
  rw [show nI i + 1 = nI (i + 1) from nI_add i 1]
  refine y_sld (j := i + 1) (q := 932) dL_law_931 (by omega) (by omega) rfl ?_
  refine ym_callV_r (As := [_]) (q := 935) mk_X8_image dL_law_932 wd_1052 wd_1053 wd_1054 (ci := 8) rfl ⟨by decide, _, rfl⟩ e2 rfl (by simp [Value.category]) rfl (by decide) (by decide) rfl ?_
  refine y_icmp_eq (tgt := 1111) (q := 938) dL_law_935 (by decide) rfl (fun _ => kk m2 hR2) (fun c => absurd rfl c)
set_option maxHeartbeats 4000000 in
set_option maxRecDepth 100000 in
theorem law_restore {R : zm → Prop} (hS : ∀ m : zm, R m → ∀ (a0 : Int32), LawStp R zM_X7_restore zM_X8_restore m [.int a0]) {b L : Nat} {xs : Nat → Int32} (hL : L ≤ 384) (i : Nat) (hi : i + 6 ≤ L) (m : zm) (hR : R m) (kk : ∀ m2, R m2 → YW (yP b L xs) zM_L_law 12 600000 7302250 1111 [some (.ref 2000000), some (.ref 0), some (.ref 180), some (.int (nI i))] [] (lay m2) 193 5489 (none, [])) : YW (yP b L xs) zM_L_law 12 600000 7302250 940 [some (.ref 2000000), some (.ref 0), some (.ref 180), some (.int (nI i))] [] (lay m) 193 5489 (none, []) := by
  obtain ⟨v, m1, m2, e1, e2, hR2⟩ := hS m hR (xs (i + 1))
  refine y_aload_n (i := 1) (q := 941) dL_law_940 rfl rfl rfl ?_
  refine y_aload_n (i := 0) (q := 942) dL_law_941 rfl rfl rfl ?_
  refine y_iload_n (i := 3) (q := 943) dL_law_942 rfl rfl rfl ?_
  refine y_iconst (v := 1) (q := 944) dL_law_943 (by decide) rfl ?_
  refine y_iadd (q := 945) dL_law_944 rfl ?_
  rw [show nI i + 1 = nI (i + 1) from nI_add i 1]
  refine y_sld (j := i + 1) (q := 946) dL_law_945 (by omega) (by omega) rfl ?_
  refine ym_callV_r (As := [_]) (q := 949) mk_X7_restore dL_law_946 wd_661 wd_662 wd_663 (ci := 7) rfl ⟨by decide, _, rfl⟩ e1 rfl (by simp [Value.category]) rfl (by decide) (by decide) rfl ?_
  refine y_aload_n (i := 2) (q := 950) dL_law_949 rfl rfl rfl ?_
  refine y_aload_n (i := 0) (q := 951) dL_law_950 rfl rfl rfl ?_
  refine y_iload_n (i := 3) (q := 952) dL_law_951 rfl rfl rfl ?_
  refine y_iconst (v := 1) (q := 953) dL_law_952 (by decide) rfl ?_
  refine y_iadd (q := 954) dL_law_953 rfl ?_
  rw [show nI i + 1 = nI (i + 1) from nI_add i 1]
  refine y_sld (j := i + 1) (q := 955) dL_law_954 (by omega) (by omega) rfl ?_
  refine ym_callV_r (As := [_]) (q := 958) mk_X8_restore dL_law_955 wd_1056 wd_1057 wd_1058 (ci := 8) rfl ⟨by decide, _, rfl⟩ e2 rfl (by simp [Value.category]) rfl (by decide) (by decide) rfl ?_
  refine y_icmp_eq (tgt := 1111) (q := 961) dL_law_958 (by decide) rfl (fun _ => kk m2 hR2) (fun c => absurd rfl c)
set_option maxHeartbeats 4000000 in
set_option maxRecDepth 100000 in
theorem law_kind {R : zm → Prop} (hS : ∀ m : zm, R m → ∀ (a0 : Int32), LawStp R zM_X7_kind zM_X8_kind m [.int a0]) {b L : Nat} {xs : Nat → Int32} (hL : L ≤ 384) (i : Nat) (hi : i + 6 ≤ L) (m : zm) (hR : R m) (kk : ∀ m2, R m2 → YW (yP b L xs) zM_L_law 12 600000 7302250 1111 [some (.ref 2000000), some (.ref 0), some (.ref 180), some (.int (nI i))] [] (lay m2) 193 5489 (none, [])) : YW (yP b L xs) zM_L_law 12 600000 7302250 963 [some (.ref 2000000), some (.ref 0), some (.ref 180), some (.int (nI i))] [] (lay m) 193 5489 (none, []) := by
  obtain ⟨v, m1, m2, e1, e2, hR2⟩ := hS m hR (xs (i + 1))
  refine y_aload_n (i := 1) (q := 964) dL_law_963 rfl rfl rfl ?_
  refine y_aload_n (i := 0) (q := 965) dL_law_964 rfl rfl rfl ?_
  refine y_iload_n (i := 3) (q := 966) dL_law_965 rfl rfl rfl ?_
  refine y_iconst (v := 1) (q := 967) dL_law_966 (by decide) rfl ?_
  refine y_iadd (q := 968) dL_law_967 rfl ?_
  rw [show nI i + 1 = nI (i + 1) from nI_add i 1]
  refine y_sld (j := i + 1) (q := 969) dL_law_968 (by omega) (by omega) rfl ?_
  refine ym_callV_r (As := [_]) (q := 972) mk_X7_kind dL_law_969 wd_665 wd_666 wd_667 (ci := 7) rfl ⟨by decide, _, rfl⟩ e1 rfl (by simp [Value.category]) rfl (by decide) (by decide) rfl ?_
  refine y_aload_n (i := 2) (q := 973) dL_law_972 rfl rfl rfl ?_
  refine y_aload_n (i := 0) (q := 974) dL_law_973 rfl rfl rfl ?_
  refine y_iload_n (i := 3) (q := 975) dL_law_974 rfl rfl rfl ?_
  refine y_iconst (v := 1) (q := 976) dL_law_975 (by decide) rfl ?_
  refine y_iadd (q := 977) dL_law_976 rfl ?_
  rw [show nI i + 1 = nI (i + 1) from nI_add i 1]
  refine y_sld (j := i + 1) (q := 978) dL_law_977 (by omega) (by omega) rfl ?_
  refine ym_callV_r (As := [_]) (q := 981) mk_X8_kind dL_law_978 wd_1060 wd_1061 wd_1062 (ci := 8) rfl ⟨by decide, _, rfl⟩ e2 rfl (by simp [Value.category]) rfl (by decide) (by decide) rfl ?_
  refine y_icmp_eq (tgt := 1111) (q := 984) dL_law_981 (by decide) rfl (fun _ => kk m2 hR2) (fun c => absurd rfl c)
set_option maxHeartbeats 4000000 in
set_option maxRecDepth 100000 in
theorem law_as {R : zm → Prop} (hS : ∀ m : zm, R m → ∀ (a0 : Int32) (a1 : Int32), LawStp R zM_X7_as zM_X8_as m [.int a0, .int a1]) {b L : Nat} {xs : Nat → Int32} (hL : L ≤ 384) (i : Nat) (hi : i + 6 ≤ L) (m : zm) (hR : R m) (kk : ∀ m2, R m2 → YW (yP b L xs) zM_L_law 12 600000 7302250 1111 [some (.ref 2000000), some (.ref 0), some (.ref 180), some (.int (nI i))] [] (lay m2) 193 5489 (none, [])) : YW (yP b L xs) zM_L_law 12 600000 7302250 986 [some (.ref 2000000), some (.ref 0), some (.ref 180), some (.int (nI i))] [] (lay m) 193 5489 (none, []) := by
  obtain ⟨v, m1, m2, e1, e2, hR2⟩ := hS m hR (xs (i + 1)) (xs (i + 2))
  refine y_aload_n (i := 1) (q := 987) dL_law_986 rfl rfl rfl ?_
  refine y_aload_n (i := 0) (q := 988) dL_law_987 rfl rfl rfl ?_
  refine y_iload_n (i := 3) (q := 989) dL_law_988 rfl rfl rfl ?_
  refine y_iconst (v := 1) (q := 990) dL_law_989 (by decide) rfl ?_
  refine y_iadd (q := 991) dL_law_990 rfl ?_
  rw [show nI i + 1 = nI (i + 1) from nI_add i 1]
  refine y_sld (j := i + 1) (q := 992) dL_law_991 (by omega) (by omega) rfl ?_
  refine y_aload_n (i := 0) (q := 993) dL_law_992 rfl rfl rfl ?_
  refine y_iload_n (i := 3) (q := 994) dL_law_993 rfl rfl rfl ?_
  refine y_iconst (v := 2) (q := 995) dL_law_994 (by decide) rfl ?_
  refine y_iadd (q := 996) dL_law_995 rfl ?_
  rw [show nI i + 2 = nI (i + 2) from nI_add i 2]
  refine y_sld (j := i + 2) (q := 997) dL_law_996 (by omega) (by omega) rfl ?_
  refine ym_callV_r (As := [_, _]) (q := 1000) mk_X7_as dL_law_997 wd_669 wd_670 wd_671 (ci := 7) rfl ⟨by decide, _, rfl⟩ e1 rfl (by simp [Value.category]) rfl (by decide) (by decide) rfl ?_
  refine y_aload_n (i := 2) (q := 1001) dL_law_1000 rfl rfl rfl ?_
  refine y_aload_n (i := 0) (q := 1002) dL_law_1001 rfl rfl rfl ?_
  refine y_iload_n (i := 3) (q := 1003) dL_law_1002 rfl rfl rfl ?_
  refine y_iconst (v := 1) (q := 1004) dL_law_1003 (by decide) rfl ?_
  refine y_iadd (q := 1005) dL_law_1004 rfl ?_
  rw [show nI i + 1 = nI (i + 1) from nI_add i 1]
  refine y_sld (j := i + 1) (q := 1006) dL_law_1005 (by omega) (by omega) rfl ?_
  refine y_aload_n (i := 0) (q := 1007) dL_law_1006 rfl rfl rfl ?_
  refine y_iload_n (i := 3) (q := 1008) dL_law_1007 rfl rfl rfl ?_
  refine y_iconst (v := 2) (q := 1009) dL_law_1008 (by decide) rfl ?_
  refine y_iadd (q := 1010) dL_law_1009 rfl ?_
  rw [show nI i + 2 = nI (i + 2) from nI_add i 2]
  refine y_sld (j := i + 2) (q := 1011) dL_law_1010 (by omega) (by omega) rfl ?_
  refine ym_callV_r (As := [_, _]) (q := 1014) mk_X8_as dL_law_1011 wd_1064 wd_1065 wd_1066 (ci := 8) rfl ⟨by decide, _, rfl⟩ e2 rfl (by simp [Value.category]) rfl (by decide) (by decide) rfl ?_
  refine y_icmp_eq (tgt := 1111) (q := 1017) dL_law_1014 (by decide) rfl (fun _ => kk m2 hR2) (fun c => absurd rfl c)
set_option maxHeartbeats 4000000 in
set_option maxRecDepth 100000 in
theorem law_ask {R : zm → Prop} (hS : ∀ m : zm, R m → ∀ (a0 : Int32) (a1 : Int32), LawStp R zM_X7_ask zM_X8_ask m [.int a0, .int a1]) {b L : Nat} {xs : Nat → Int32} (hL : L ≤ 384) (i : Nat) (hi : i + 6 ≤ L) (m : zm) (hR : R m) (kk : ∀ m2, R m2 → YW (yP b L xs) zM_L_law 12 600000 7302250 1111 [some (.ref 2000000), some (.ref 0), some (.ref 180), some (.int (nI i))] [] (lay m2) 193 5489 (none, [])) : YW (yP b L xs) zM_L_law 12 600000 7302250 1019 [some (.ref 2000000), some (.ref 0), some (.ref 180), some (.int (nI i))] [] (lay m) 193 5489 (none, []) := by
  obtain ⟨v, m1, m2, e1, e2, hR2⟩ := hS m hR (xs (i + 1)) (xs (i + 2))
  refine y_aload_n (i := 1) (q := 1020) dL_law_1019 rfl rfl rfl ?_
  refine y_aload_n (i := 0) (q := 1021) dL_law_1020 rfl rfl rfl ?_
  refine y_iload_n (i := 3) (q := 1022) dL_law_1021 rfl rfl rfl ?_
  refine y_iconst (v := 1) (q := 1023) dL_law_1022 (by decide) rfl ?_
  refine y_iadd (q := 1024) dL_law_1023 rfl ?_
  rw [show nI i + 1 = nI (i + 1) from nI_add i 1]
  refine y_sld (j := i + 1) (q := 1025) dL_law_1024 (by omega) (by omega) rfl ?_
  refine y_aload_n (i := 0) (q := 1026) dL_law_1025 rfl rfl rfl ?_
  refine y_iload_n (i := 3) (q := 1027) dL_law_1026 rfl rfl rfl ?_
  refine y_iconst (v := 2) (q := 1028) dL_law_1027 (by decide) rfl ?_
  refine y_iadd (q := 1029) dL_law_1028 rfl ?_
  rw [show nI i + 2 = nI (i + 2) from nI_add i 2]
  refine y_sld (j := i + 2) (q := 1030) dL_law_1029 (by omega) (by omega) rfl ?_
  refine ym_callV_r (As := [_, _]) (q := 1033) mk_X7_ask dL_law_1030 wd_679 wd_680 wd_681 (ci := 7) rfl ⟨by decide, _, rfl⟩ e1 rfl (by simp [Value.category]) rfl (by decide) (by decide) rfl ?_
  refine y_aload_n (i := 2) (q := 1034) dL_law_1033 rfl rfl rfl ?_
  refine y_aload_n (i := 0) (q := 1035) dL_law_1034 rfl rfl rfl ?_
  refine y_iload_n (i := 3) (q := 1036) dL_law_1035 rfl rfl rfl ?_
  refine y_iconst (v := 1) (q := 1037) dL_law_1036 (by decide) rfl ?_
  refine y_iadd (q := 1038) dL_law_1037 rfl ?_
  rw [show nI i + 1 = nI (i + 1) from nI_add i 1]
  refine y_sld (j := i + 1) (q := 1039) dL_law_1038 (by omega) (by omega) rfl ?_
  refine y_aload_n (i := 0) (q := 1040) dL_law_1039 rfl rfl rfl ?_
  refine y_iload_n (i := 3) (q := 1041) dL_law_1040 rfl rfl rfl ?_
  refine y_iconst (v := 2) (q := 1042) dL_law_1041 (by decide) rfl ?_
  refine y_iadd (q := 1043) dL_law_1042 rfl ?_
  rw [show nI i + 2 = nI (i + 2) from nI_add i 2]
  refine y_sld (j := i + 2) (q := 1044) dL_law_1043 (by omega) (by omega) rfl ?_
  refine ym_callV_r (As := [_, _]) (q := 1047) mk_X8_ask dL_law_1044 wd_1071 wd_1072 wd_1073 (ci := 8) rfl ⟨by decide, _, rfl⟩ e2 rfl (by simp [Value.category]) rfl (by decide) (by decide) rfl ?_
  refine y_icmp_eq (tgt := 1111) (q := 1050) dL_law_1047 (by decide) rfl (fun _ => kk m2 hR2) (fun c => absurd rfl c)
set_option maxHeartbeats 4000000 in
set_option maxRecDepth 100000 in
theorem law_trace {R : zm → Prop} (hS : ∀ m : zm, R m → ∀ (a0 : Int32), LawStp R zM_X7_trace zM_X8_trace m [.int a0]) {b L : Nat} {xs : Nat → Int32} (hL : L ≤ 384) (i : Nat) (hi : i + 6 ≤ L) (m : zm) (hR : R m) (kk : ∀ m2, R m2 → YW (yP b L xs) zM_L_law 12 600000 7302250 1111 [some (.ref 2000000), some (.ref 0), some (.ref 180), some (.int (nI i))] [] (lay m2) 193 5489 (none, [])) : YW (yP b L xs) zM_L_law 12 600000 7302250 1052 [some (.ref 2000000), some (.ref 0), some (.ref 180), some (.int (nI i))] [] (lay m) 193 5489 (none, []) := by
  obtain ⟨v, m1, m2, e1, e2, hR2⟩ := hS m hR (xs (i + 1))
  refine y_aload_n (i := 1) (q := 1053) dL_law_1052 rfl rfl rfl ?_
  refine y_aload_n (i := 0) (q := 1054) dL_law_1053 rfl rfl rfl ?_
  refine y_iload_n (i := 3) (q := 1055) dL_law_1054 rfl rfl rfl ?_
  refine y_iconst (v := 1) (q := 1056) dL_law_1055 (by decide) rfl ?_
  refine y_iadd (q := 1057) dL_law_1056 rfl ?_
  rw [show nI i + 1 = nI (i + 1) from nI_add i 1]
  refine y_sld (j := i + 1) (q := 1058) dL_law_1057 (by omega) (by omega) rfl ?_
  refine ym_callV_r (As := [_]) (q := 1061) mk_X7_trace dL_law_1058 wd_721 wd_722 wd_723 (ci := 7) rfl ⟨by decide, _, rfl⟩ e1 rfl (by simp [Value.category]) rfl (by decide) (by decide) rfl ?_
  refine y_aload_n (i := 2) (q := 1062) dL_law_1061 rfl rfl rfl ?_
  refine y_aload_n (i := 0) (q := 1063) dL_law_1062 rfl rfl rfl ?_
  refine y_iload_n (i := 3) (q := 1064) dL_law_1063 rfl rfl rfl ?_
  refine y_iconst (v := 1) (q := 1065) dL_law_1064 (by decide) rfl ?_
  refine y_iadd (q := 1066) dL_law_1065 rfl ?_
  rw [show nI i + 1 = nI (i + 1) from nI_add i 1]
  refine y_sld (j := i + 1) (q := 1067) dL_law_1066 (by omega) (by omega) rfl ?_
  refine ym_callV_r (As := [_]) (q := 1070) mk_X8_trace dL_law_1067 wd_1095 wd_1096 wd_1097 (ci := 8) rfl ⟨by decide, _, rfl⟩ e2 rfl (by simp [Value.category]) rfl (by decide) (by decide) rfl ?_
  refine y_icmp_eq (tgt := 1111) (q := 1073) dL_law_1070 (by decide) rfl (fun _ => kk m2 hR2) (fun c => absurd rfl c)
set_option maxHeartbeats 4000000 in
set_option maxRecDepth 100000 in
theorem law_count {R : zm → Prop} (hS : ∀ m : zm, R m → ∀ (a0 : Int32), LawStp R zM_X7_count zM_X8_count m [.int a0]) {b L : Nat} {xs : Nat → Int32} (hL : L ≤ 384) (i : Nat) (hi : i + 6 ≤ L) (m : zm) (hR : R m) (kk : ∀ m2, R m2 → YW (yP b L xs) zM_L_law 12 600000 7302250 1111 [some (.ref 2000000), some (.ref 0), some (.ref 180), some (.int (nI i))] [] (lay m2) 193 5489 (none, [])) : YW (yP b L xs) zM_L_law 12 600000 7302250 1075 [some (.ref 2000000), some (.ref 0), some (.ref 180), some (.int (nI i))] [] (lay m) 193 5489 (none, []) := by
  obtain ⟨v, m1, m2, e1, e2, hR2⟩ := hS m hR (xs (i + 1))
  refine y_aload_n (i := 1) (q := 1076) dL_law_1075 rfl rfl rfl ?_
  refine y_aload_n (i := 0) (q := 1077) dL_law_1076 rfl rfl rfl ?_
  refine y_iload_n (i := 3) (q := 1078) dL_law_1077 rfl rfl rfl ?_
  refine y_iconst (v := 1) (q := 1079) dL_law_1078 (by decide) rfl ?_
  refine y_iadd (q := 1080) dL_law_1079 rfl ?_
  rw [show nI i + 1 = nI (i + 1) from nI_add i 1]
  refine y_sld (j := i + 1) (q := 1081) dL_law_1080 (by omega) (by omega) rfl ?_
  refine ym_callV_r (As := [_]) (q := 1084) mk_X7_count dL_law_1081 wd_725 wd_726 wd_727 (ci := 7) rfl ⟨by decide, _, rfl⟩ e1 rfl (by simp [Value.category]) rfl (by decide) (by decide) rfl ?_
  refine y_aload_n (i := 2) (q := 1085) dL_law_1084 rfl rfl rfl ?_
  refine y_aload_n (i := 0) (q := 1086) dL_law_1085 rfl rfl rfl ?_
  refine y_iload_n (i := 3) (q := 1087) dL_law_1086 rfl rfl rfl ?_
  refine y_iconst (v := 1) (q := 1088) dL_law_1087 (by decide) rfl ?_
  refine y_iadd (q := 1089) dL_law_1088 rfl ?_
  rw [show nI i + 1 = nI (i + 1) from nI_add i 1]
  refine y_sld (j := i + 1) (q := 1090) dL_law_1089 (by omega) (by omega) rfl ?_
  refine ym_callV_r (As := [_]) (q := 1093) mk_X8_count dL_law_1090 wd_1099 wd_1100 wd_1101 (ci := 8) rfl ⟨by decide, _, rfl⟩ e2 rfl (by simp [Value.category]) rfl (by decide) (by decide) rfl ?_
  refine y_icmp_eq (tgt := 1111) (q := 1096) dL_law_1093 (by decide) rfl (fun _ => kk m2 hR2) (fun c => absurd rfl c)
set_option maxHeartbeats 4000000 in
set_option maxRecDepth 100000 in
theorem law_status {R : zm → Prop} (hS : ∀ m : zm, R m → LawStp R zM_X7_status zM_X8_status m []) {b L : Nat} {xs : Nat → Int32} (hL : L ≤ 384) (i : Nat) (hi : i + 6 ≤ L) (m : zm) (hR : R m) (kk : ∀ m2, R m2 → YW (yP b L xs) zM_L_law 12 600000 7302250 1111 [some (.ref 2000000), some (.ref 0), some (.ref 180), some (.int (nI i))] [] (lay m2) 193 5489 (none, [])) : YW (yP b L xs) zM_L_law 12 600000 7302250 1098 [some (.ref 2000000), some (.ref 0), some (.ref 180), some (.int (nI i))] [] (lay m) 193 5489 (none, []) := by
  obtain ⟨v, m1, m2, e1, e2, hR2⟩ := hS m hR
  refine y_aload_n (i := 1) (q := 1099) dL_law_1098 rfl rfl rfl ?_
  refine ym_callV_r (As := []) (q := 1102) mk_X7_status dL_law_1099 wd_733 wd_734 wd_735 (ci := 7) rfl ⟨by decide, _, rfl⟩ e1 rfl (by simp [Value.category]) rfl (by decide) (by decide) rfl ?_
  refine y_aload_n (i := 2) (q := 1103) dL_law_1102 rfl rfl rfl ?_
  refine ym_callV_r (As := []) (q := 1106) mk_X8_status dL_law_1103 wd_1103 wd_1104 wd_1105 (ci := 8) rfl ⟨by decide, _, rfl⟩ e2 rfl (by simp [Value.category]) rfl (by decide) (by decide) rfl ?_
  refine y_icmp_eq (tgt := 1111) (q := 1109) dL_law_1106 (by decide) rfl (fun _ => kk m2 hR2) (fun c => absurd rfl c)
set_option maxHeartbeats 4000000 in
set_option maxRecDepth 100000 in
theorem law_loop {R : zm → Prop} (hS : LawAll R) {b L : Nat} {xs : Nat → Int32} (hL : L ≤ 384) : ∀ (n i : Nat) (m : zm), L - i < n → i ≤ 400 → R m → YW (yP b L xs) zM_L_law 12 600000 7302250 18 [some (.ref 2000000), some (.ref 0), some (.ref 180), some (.int (nI i))] [] (lay m) 193 5489 (none, []) := by
  intro n
  induction n with
  | zero => intro i m hm; exact absurd hm (by omega)
  | succ n ih =>
    intro i m hm hi hR
    refine y_iload_n (i := 3) (q := 19) dL_law_18 rfl rfl rfl ?_
    refine y_aload_n (i := 0) (q := 20) dL_law_19 rfl rfl rfl ?_
    refine y_slen (q := 21) dL_law_20 rfl ?_
    refine y_bipush (v := 6) (q := 23) dL_law_21 (by decide) rfl ?_
    refine y_isub (q := 24) dL_law_23 rfl ?_
    refine y_icmp_gt (tgt := 1117) (q := 27) dL_law_24 (by decide) rfl (fun _ => ?_) (fun c => ?_)
    · refine y_iconst (v := 1) (q := 1118) dL_law_1117 (by decide) rfl ?_
      exact y_end dL_law_1118 (by decide) (by decide)
    have hi6 := law_more hi hL c
    have kk : ∀ m2, R m2 → YW (yP b L xs) zM_L_law 12 600000 7302250 1111 [some (.ref 2000000), some (.ref 0), some (.ref 180), some (.int (nI i))] [] (lay m2) 193 5489 (none, []) := by
      intro m2 hR2
      refine y_iinc (i := 3) (ls' := [_, _, _, _]) (v := nI (i + 6)) (q := 1114) dL_law_1111 rfl (nI_add i 6) (by decide) rfl rfl ?_
      refine y_goto (tgt := 18) dL_law_1114 (by decide) ?_
      exact ih (i + 6) m2 (by omega) (by omega) hR2
    refine y_aload_n (i := 0) (q := 28) dL_law_27 rfl rfl rfl ?_
    refine y_iload_n (i := 3) (q := 29) dL_law_28 rfl rfl rfl ?_
    refine y_sld (j := i) (q := 30) dL_law_29 (by omega) (by omega) rfl ?_
    refine y_bipush (v := 31) (q := 32) dL_law_30 (by decide) rfl ?_
    refine y_iand (q := 33) dL_law_32 rfl ?_
    refine y_table (tgts := [164, 207, 250, 313, 336, 399, 412, 425, 458, 511, 544, 577, 610, 623, 656, 709, 752, 785, 828, 871, 894, 917, 940, 963, 986, 1019, 1052, 1075, 1098]) (dt := 1111) dL_law_33 (by decide) (by decide) (by decide) (fun j t ht c => ?_) (fun c => ?_)
    · match j, ht with
      | 0, ht => cases ht; exact law_row hS.1 hL i hi6 m hR kk
      | 1, ht => cases ht; exact law_set hS.2.1 hL i hi6 m hR kk
      | 2, ht => cases ht; exact law_copy hS.2.2.1 hL i hi6 m hR kk
      | 3, ht => cases ht; exact law_drop hS.2.2.2.1 hL i hi6 m hR kk
      | 4, ht => cases ht; exact law_feed hS.2.2.2.2.1 hL i hi6 m hR kk
      | 5, ht => cases ht; exact law_league hS.2.2.2.2.2.1 hL i hi6 m hR kk
      | 6, ht => cases ht; exact law_fault hS.2.2.2.2.2.2.1 hL i hi6 m hR kk
      | 7, ht => cases ht; exact law_sail hS.2.2.2.2.2.2.2.1 hL i hi6 m hR kk
      | 8, ht => cases ht; exact law_sails hS.2.2.2.2.2.2.2.2.1 hL i hi6 m hR kk
      | 9, ht => cases ht; exact law_stay hS.2.2.2.2.2.2.2.2.2.1 hL i hi6 m hR kk
      | 10, ht => cases ht; exact law_meet hS.2.2.2.2.2.2.2.2.2.2.1 hL i hi6 m hR kk
      | 11, ht => cases ht; exact law_borrow hS.2.2.2.2.2.2.2.2.2.2.2.1 hL i hi6 m hR kk
      | 12, ht => cases ht; exact law_undo hS.2.2.2.2.2.2.2.2.2.2.2.2.1 hL i hi6 m hR kk
      | 13, ht => cases ht; exact law_person hS.2.2.2.2.2.2.2.2.2.2.2.2.2.1 hL i hi6 m hR kk
      | 14, ht => cases ht; exact law_gains hS.2.2.2.2.2.2.2.2.2.2.2.2.2.2.1 hL i hi6 m hR kk
      | 15, ht => cases ht; exact law_soonest hS.2.2.2.2.2.2.2.2.2.2.2.2.2.2.2.1 hL i hi6 m hR kk
      | 16, ht => cases ht; exact law_voyages hS.2.2.2.2.2.2.2.2.2.2.2.2.2.2.2.2.1 hL i hi6 m hR kk
      | 17, ht => cases ht; exact law_even hS.2.2.2.2.2.2.2.2.2.2.2.2.2.2.2.2.2.1 hL i hi6 m hR kk
      | 18, ht => cases ht; exact law_where hS.2.2.2.2.2.2.2.2.2.2.2.2.2.2.2.2.2.2.1 hL i hi6 m hR kk
      | 19, ht => cases ht; exact law_gone hS.2.2.2.2.2.2.2.2.2.2.2.2.2.2.2.2.2.2.2.1 hL i hi6 m hR kk
      | 20, ht => cases ht; exact law_eldest hS.2.2.2.2.2.2.2.2.2.2.2.2.2.2.2.2.2.2.2.2.1 hL i hi6 m hR kk
      | 21, ht => cases ht; exact law_image hS.2.2.2.2.2.2.2.2.2.2.2.2.2.2.2.2.2.2.2.2.2.1 hL i hi6 m hR kk
      | 22, ht => cases ht; exact law_restore hS.2.2.2.2.2.2.2.2.2.2.2.2.2.2.2.2.2.2.2.2.2.2.1 hL i hi6 m hR kk
      | 23, ht => cases ht; exact law_kind hS.2.2.2.2.2.2.2.2.2.2.2.2.2.2.2.2.2.2.2.2.2.2.2.1 hL i hi6 m hR kk
      | 24, ht => cases ht; exact law_as hS.2.2.2.2.2.2.2.2.2.2.2.2.2.2.2.2.2.2.2.2.2.2.2.2.1 hL i hi6 m hR kk
      | 25, ht => cases ht; exact law_ask hS.2.2.2.2.2.2.2.2.2.2.2.2.2.2.2.2.2.2.2.2.2.2.2.2.2.1 hL i hi6 m hR kk
      | 26, ht => cases ht; exact law_trace hS.2.2.2.2.2.2.2.2.2.2.2.2.2.2.2.2.2.2.2.2.2.2.2.2.2.2.1 hL i hi6 m hR kk
      | 27, ht => cases ht; exact law_count hS.2.2.2.2.2.2.2.2.2.2.2.2.2.2.2.2.2.2.2.2.2.2.2.2.2.2.2.1 hL i hi6 m hR kk
      | 28, ht => cases ht; exact law_status hS.2.2.2.2.2.2.2.2.2.2.2.2.2.2.2.2.2.2.2.2.2.2.2.2.2.2.2.2 hL i hi6 m hR kk
      | j + 29, ht => exact absurd ht (by simp)
    · exact kk m hR
set_option maxHeartbeats 4000000 in
set_option maxRecDepth 100000 in
theorem law_whole {R : zm → Prop} (h0 : R m0) (hS : LawAll R) {b L : Nat} {xs : Nat → Int32} (hL : L ≤ 384) : YW (yP b L xs) zM_L_law 12 600000 7302250 0 [some (.ref 2000000), none, none, none] [] [] 0 0 (none, []) := by
  obtain ⟨c, ec, hc⟩ := ev_X7_init 8
  obtain ⟨c1, ec1, hc1, hc2⟩ := ev_X8_init 10 c
  refine y_new (ci := 7) (N := 15) (fs := [.null, .null, .null, .int 0, .null, .int 0, .int 0, .null, .null, .null, .null, .null, .null, .null, .null]) (q := 3) dL_law_0 rfl zin7 tyX7_ok wd_18 wd_19 wd_1 (by intro j hj; match j, hj with | 0, _ => rfl | 1, _ => rfl | 2, _ => rfl | 3, _ => rfl | 4, _ => rfl | 5, _ => rfl | 6, _ => rfl | 7, _ => rfl | 8, _ => rfl | 9, _ => rfl | 10, _ => rfl | 11, _ => rfl | 12, _ => rfl | 13, _ => rfl | 14, _ => rfl | j + 15, hj => exact absurd hj (by omega)) (fun _ => rfl) (by decide) (by decide) (by decide) rfl ?_
  refine y_dup (q := 4) dL_law_3 rfl rfl ?_
  have ec' : zEv 11 zM_X7_init 179 2381 [.ref 0] [.inr (7, [.null, .null, .null, .int 0, .null, .int 0, .int 0, .null, .null, .null, .null, .null, .null, .null, .null])] (none, zmk 180 c) := ec
  refine y_callI (As := []) (q := 7) mk_X7_init rfl rfl dL_law_4 wd_20 wd_21 ec' rfl (by simp [Value.category]) rfl (by decide) (by decide) rfl ?_
  refine y_astore_n (i := 1) (ls' := [_, _, _, _]) (q := 8) dL_law_7 rfl (by decide) rfl rfl ?_
  show YW _ _ _ _ _ _ _ _ (zmk 180 c) _ _ _
  refine y_new (ci := 8) (N := 25) (fs := [.int 0, .int 0, .null, .null, .null, .null, .null, .null, .int 0, .null, .int 0, .int 0, .int 0, .int 0, .int 0, .int 0, .int 0, .int 0, .int 0, .null, .null, .null, .null, .null, .int 0]) (q := 11) dL_law_8 rfl zin8 tyX8_ok wd_737 wd_738 wd_9 (by intro j hj; match j, hj with | 0, _ => rfl | 1, _ => rfl | 2, _ => rfl | 3, _ => rfl | 4, _ => rfl | 5, _ => rfl | 6, _ => rfl | 7, _ => rfl | 8, _ => rfl | 9, _ => rfl | 10, _ => rfl | 11, _ => rfl | 12, _ => rfl | 13, _ => rfl | 14, _ => rfl | 15, _ => rfl | 16, _ => rfl | 17, _ => rfl | 18, _ => rfl | 19, _ => rfl | 20, _ => rfl | 21, _ => rfl | 22, _ => rfl | 23, _ => rfl | 24, _ => rfl | j + 25, hj => exact absurd hj (by omega)) (fun _ => rfl) (by rw [zmk_len]; decide) (by decide) (by decide) rfl ?_
  rw [zmk_len, zmk_push]
  refine y_dup (q := 12) dL_law_11 rfl rfl ?_
  refine y_callI (As := []) (q := 15) mk_X8_init rfl rfl dL_law_12 wd_739 wd_740 ec1 rfl (by simp [Value.category]) rfl (by decide) (by decide) rfl ?_
  refine y_astore_n (i := 2) (ls' := [_, _, _, _]) (q := 16) dL_law_15 rfl (by decide) rfl rfl ?_
  refine y_iconst (v := 0) (q := 17) dL_law_16 (by decide) rfl ?_
  refine y_istore_n (i := 3) (ls' := [_, _, _, _]) (q := 18) dL_law_17 rfl (by decide) rfl rfl ?_
  have hl : zmk 193 c1 = lay m0 := by
    show zmk 193 c1 = zmk 193 (zcell m0)
    refine zmk_congr (fun a ha => ?_)
    rcases Nat.lt_or_ge a 180 with q | q
    · rw [hc1 a q, hc a q]
    · exact hc2 a q ha
  show YW _ _ _ _ _ _ _ _ (zmk 193 c1) _ _ _
  rw [hl]
  exact law_loop hS hL (L + 1) 0 m0 (by omega) (by omega) h0
