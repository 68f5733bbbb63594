/-! the law's cases 0 to 7 -/
section LC
variable {p : Program} {l : Launch} {e : Env} {s : State} {m : MethodId} {args : Array Value} {below : List Frame} {meth : Method} {c : Code} {H : Heap} {locs : List Loc} {cells slots : Nat} {Q : State → Prop}
variable {ret : Option FieldType} {γ : kG} {A : Nat → Prop} {ls : Array Slot}
set_option maxHeartbeats 4000000 in
set_option maxRecDepth 100000 in
theorem L_case_0 (hfl : l.stackTraces = false) (hM : kM p s m args meth c cL_law 7 ret "InvoicebridgeLaw") (hE : kE γ A s) {b N : Nat} {xs : Nat → Int32} (hS : lX b N xs A s) {o om q nd i : Nat} {adm : Nat → Nat} (h : Lw γ A s o om q adm nd H locs) (hnd : nd < 512) (hi : i + 6 ≤ N) (hc : cells + 30 ≤ 601024) (hs : slots + 4000 ≤ 7293034) (hl : lv_has ls 7 [(0, .ref b), (1, .ref o), (2, .ref om), (3, .ref q), (4, .int (nI i))]) (kk : ∀ (H1 : Heap) (locs1 : List Loc) (ls1 : Array Slot), Lw γ A s o om q adm (nd + 1) H1 locs1 → lv_has ls1 7 [(0, .ref b), (1, .ref o), (2, .ref om), (3, .ref q), (4, .int (nI i))] → W p l e room_1 s m args below meth c H1 locs1 (cells + 30) (slots + 4000) Q (F0 m 1735 ls1 [])) : W p l e room_1 s m args below meth c H locs cells slots Q (F0 m 156 ls []) := by
  obtain ⟨Lc, Lr, F, ad, tg, M, D, nd0, f, hX, hR, hI, hn0, hRm, hq⟩ := h
  have hx := hM.1
  have hb := hM.2.1
  refine lv_aload_n hx hb dL_law_156 rfl (lv_at hl 1 rfl) ?_
  refine L_arg (j := 1) hM hS hX (by decide) (by omega) (lv_at hl 0 rfl) (lv_at hl 4 rfl) dL_law_157 dL_law_158 dL_law_160 dL_law_161 dL_law_162 ?_
  refine L_arg (j := 2) hM hS hX (by decide) (by omega) (lv_at hl 0 rfl) (lv_at hl 4 rfl) dL_law_163 dL_law_164 dL_law_166 dL_law_167 dL_law_168 ?_
  refine L_arg (j := 3) hM hS hX (by decide) (by omega) (lv_at hl 0 rfl) (lv_at hl 4 rfl) dL_law_169 dL_law_170 dL_law_172 dL_law_173 dL_law_174 ?_
  refine L_arg (j := 4) hM hS hX (by decide) (by omega) (lv_at hl 0 rfl) (lv_at hl 4 rfl) dL_law_175 dL_law_176 dL_law_178 dL_law_179 dL_law_180 ?_
  refine L_arg (j := 5) hM hS hX (by decide) (by omega) (lv_at hl 0 rfl) (lv_at hl 4 rfl) dL_law_181 dL_law_182 dL_law_184 dL_law_185 dL_law_186 ?_
  refine lv_aload_n hx hb dL_law_187 rfl (lv_at hl 3 rfl) ?_
  refine L_wrap (MC := sendM M (xs (i + 1)) (xs (i + 2)) (xs (i + 3)) (xs (i + 4)) (xs (i + 5))) (k_SW (n := 7) (As := [.ref o, .int (xs (i + 1)), .int (xs (i + 2)), .int (xs (i + 3)), .int (xs (i + 4)), .int (xs (i + 5)), .ref q]) (rest := []) hM hE (kX_left (kX_w hX)) hl (c_L_send l hfl γ Lc F o q ad tg M nd0 D f hR hI (by omega) hq (xs (i + 1)) (xs (i + 2)) (xs (i + 3)) (xs (i + 4)) (xs (i + 5))) k_496 k_497 k_0 k_498 ⟨by decide, by decide, by decide +kernel⟩ ⟨Nat.le_of_ble_eq_true rfl, Nat.le_of_ble_eq_true rfl⟩ rfl rfl (Nat.le_of_ble_eq_true rfl) dL_law_188 ⟨by show cells + 20 ≤ 601024; omega, by show slots + 3000 ≤ 7293034; omega⟩) hE hX hRm (fun k Lc F1 H1 locs1 ad tg nd1 D1 f1 hX1 hR1 hI1 hn1 hk hq1 hf hRm1 => ?_)
  refine W.widen (k := cells + 30) (n := slots + 4000) (by show cells + 20 ≤ _; omega) (by show slots + 3000 ≤ _; omega) ?_
  refine lv_istore (lv' := [(5, .int k), (0, .ref b), (1, .ref o), (2, .ref om), (3, .ref q), (4, .int (nI i))]) hx hb dL_law_191 hl (by decide) rfl (fun ls hl => ?_)
  refine lv_aload_n hx hb dL_law_193 rfl (lv_at hl 3 rfl) ?_
  refine L_arg (j := 1) hM hS hX1 (by decide) (by omega) (lv_at hl 1 rfl) (lv_at hl 5 rfl) dL_law_194 dL_law_195 dL_law_197 dL_law_198 dL_law_199 ?_
  refine L_arg (j := 2) hM hS hX1 (by decide) (by omega) (lv_at hl 1 rfl) (lv_at hl 5 rfl) dL_law_200 dL_law_201 dL_law_203 dL_law_204 dL_law_205 ?_
  refine L_arg (j := 3) hM hS hX1 (by decide) (by omega) (lv_at hl 1 rfl) (lv_at hl 5 rfl) dL_law_206 dL_law_207 dL_law_209 dL_law_210 dL_law_211 ?_
  refine L_arg (j := 4) hM hS hX1 (by decide) (by omega) (lv_at hl 1 rfl) (lv_at hl 5 rfl) dL_law_212 dL_law_213 dL_law_215 dL_law_216 dL_law_217 ?_
  refine L_arg (j := 5) hM hS hX1 (by decide) (by omega) (lv_at hl 1 rfl) (lv_at hl 5 rfl) dL_law_218 dL_law_219 dL_law_221 dL_law_222 dL_law_223 ?_
  refine L_ref (MC := sendM M (xs (i + 1)) (xs (i + 2)) (xs (i + 3)) (xs (i + 4)) (xs (i + 5))) (k_V (n := 5) (As := [.int (xs (i + 1)), .int (xs (i + 2)), .int (xs (i + 3)), .int (xs (i + 4)), .int (xs (i + 5))]) (rest := []) hM hE (kX_left (kX_r hX1)) hl (c_X5_send l γ Lr F1 om adm M hRm1 (xs (i + 1)) (xs (i + 2)) (xs (i + 3)) (xs (i + 4)) (xs (i + 5)) hI.1 hI.xz) hRm1.1 hRm1.2.1 rfl k_1148 k_1149 k_1150 k_9 k_1151 ⟨rfl, by decide, by decide, by decide +kernel⟩ ⟨Nat.le_of_ble_eq_true rfl, Nat.le_of_ble_eq_true rfl⟩ rfl rfl (Nat.le_of_ble_eq_true rfl) dL_law_224 ⟨by show cells + 30 ≤ 601024; omega, by show slots + 4000 ≤ 7293034; omega⟩) hE hX1 hR1 hq1 (fun F2 H2 locs2 hX2 hR2 hq2 hRm2 => ?_)
  refine W.widen (k := cells + 30) (n := slots + 4000) (Nat.le_refl _) (Nat.le_refl _) ?_
  refine lv_istore (lv' := [(6, .int (sendM M (xs (i + 1)) (xs (i + 2)) (xs (i + 3)) (xs (i + 4)) (xs (i + 5))).1), (5, .int k), (0, .ref b), (1, .ref o), (2, .ref om), (3, .ref q), (4, .int (nI i))]) hx hb dL_law_227 hl (by decide) rfl (fun ls hl => ?_)
  exact L_tail hM rfl hE hX2 hRm2 hq2 hk hf hl ⟨by omega, by omega⟩ dL_law_229 dL_law_230 dL_law_233 dL_law_235 dL_law_240 dL_law_242 dL_law_245 dL_law_246 dL_law_247 dL_law_248 dL_law_250 dL_law_251 dL_law_252 dL_law_257 (by decide) (fun H3 locs3 hX3 => kk H3 locs3 ls ⟨Lc, Lr, F2, ad, tg, _, D1, nd1, f1, hX3, hR2, hI1, by omega, hRm2, hq2⟩ (lv_sub hl [2, 3, 4, 5, 6] rfl))
set_option maxHeartbeats 4000000 in
set_option maxRecDepth 100000 in
theorem L_case_1 (hfl : l.stackTraces = false) (hM : kM p s m args meth c cL_law 7 ret "InvoicebridgeLaw") (hE : kE γ A s) {b N : Nat} {xs : Nat → Int32} (hS : lX b N xs A s) {o om q nd i : Nat} {adm : Nat → Nat} (h : Lw γ A s o om q adm nd H locs) (hnd : nd < 512) (hi : i + 6 ≤ N) (hc : cells + 30 ≤ 601024) (hs : slots + 4000 ≤ 7293034) (hl : lv_has ls 7 [(0, .ref b), (1, .ref o), (2, .ref om), (3, .ref q), (4, .int (nI i))]) (kk : ∀ (H1 : Heap) (locs1 : List Loc) (ls1 : Array Slot), Lw γ A s o om q adm (nd + 1) H1 locs1 → lv_has ls1 7 [(0, .ref b), (1, .ref o), (2, .ref om), (3, .ref q), (4, .int (nI i))] → W p l e room_1 s m args below meth c H1 locs1 (cells + 30) (slots + 4000) Q (F0 m 1735 ls1 [])) : W p l e room_1 s m args below meth c H locs cells slots Q (F0 m 260 ls []) := by
  obtain ⟨Lc, Lr, F, ad, tg, M, D, nd0, f, hX, hR, hI, hn0, hRm, hq⟩ := h
  have hx := hM.1
  have hb := hM.2.1
  refine lv_aload_n hx hb dL_law_260 rfl (lv_at hl 1 rfl) ?_
  refine L_arg (j := 1) hM hS hX (by decide) (by omega) (lv_at hl 0 rfl) (lv_at hl 4 rfl) dL_law_261 dL_law_262 dL_law_264 dL_law_265 dL_law_266 ?_
  refine L_arg (j := 2) hM hS hX (by decide) (by omega) (lv_at hl 0 rfl) (lv_at hl 4 rfl) dL_law_267 dL_law_268 dL_law_270 dL_law_271 dL_law_272 ?_
  refine L_arg (j := 3) hM hS hX (by decide) (by omega) (lv_at hl 0 rfl) (lv_at hl 4 rfl) dL_law_273 dL_law_274 dL_law_276 dL_law_277 dL_law_278 ?_
  refine lv_aload_n hx hb dL_law_279 rfl (lv_at hl 3 rfl) ?_
  refine L_wrap (MC := addLineM M (xs (i + 1)) (xs (i + 2)) (xs (i + 3))) (k_SW (n := 5) (As := [.ref o, .int (xs (i + 1)), .int (xs (i + 2)), .int (xs (i + 3)), .ref q]) (rest := []) hM hE (kX_left (kX_w hX)) hl (c_L_addLine l hfl γ Lc F o q ad tg M nd0 D f hR hI (by omega) hq (xs (i + 1)) (xs (i + 2)) (xs (i + 3))) k_695 k_696 k_0 k_697 ⟨by decide, by decide, by decide +kernel⟩ ⟨Nat.le_of_ble_eq_true rfl, Nat.le_of_ble_eq_true rfl⟩ rfl rfl (Nat.le_of_ble_eq_true rfl) dL_law_280 ⟨by show cells + 7 ≤ 601024; omega, by show slots + 1100 ≤ 7293034; omega⟩) hE hX hRm (fun k Lc F1 H1 locs1 ad tg nd1 D1 f1 hX1 hR1 hI1 hn1 hk hq1 hf hRm1 => ?_)
  refine W.widen (k := cells + 30) (n := slots + 4000) (by show cells + 7 ≤ _; omega) (by show slots + 1100 ≤ _; omega) ?_
  refine lv_istore (lv' := [(5, .int k), (0, .ref b), (1, .ref o), (2, .ref om), (3, .ref q), (4, .int (nI i))]) hx hb dL_law_283 hl (by decide) rfl (fun ls hl => ?_)
  refine lv_aload_n hx hb dL_law_285 rfl (lv_at hl 3 rfl) ?_
  refine L_arg (j := 1) hM hS hX1 (by decide) (by omega) (lv_at hl 1 rfl) (lv_at hl 5 rfl) dL_law_286 dL_law_287 dL_law_289 dL_law_290 dL_law_291 ?_
  refine L_arg (j := 2) hM hS hX1 (by decide) (by omega) (lv_at hl 1 rfl) (lv_at hl 5 rfl) dL_law_292 dL_law_293 dL_law_295 dL_law_296 dL_law_297 ?_
  refine L_arg (j := 3) hM hS hX1 (by decide) (by omega) (lv_at hl 1 rfl) (lv_at hl 5 rfl) dL_law_298 dL_law_299 dL_law_301 dL_law_302 dL_law_303 ?_
  refine L_ref (MC := addLineM M (xs (i + 1)) (xs (i + 2)) (xs (i + 3))) (k_V (n := 3) (As := [.int (xs (i + 1)), .int (xs (i + 2)), .int (xs (i + 3))]) (rest := []) hM hE (kX_left (kX_r hX1)) hl (c_X5_addLine l γ Lr F1 om adm M hRm1 (xs (i + 1)) (xs (i + 2)) (xs (i + 3)) hI.1 hI.2.1 hI.2.2.1) hRm1.1 hRm1.2.1 rfl k_1165 k_1166 k_1167 k_9 k_1168 ⟨rfl, by decide, by decide, by decide +kernel⟩ ⟨Nat.le_of_ble_eq_true rfl, Nat.le_of_ble_eq_true rfl⟩ rfl rfl (Nat.le_of_ble_eq_true rfl) dL_law_304 ⟨by show cells + 30 ≤ 601024; omega, by show slots + 4000 ≤ 7293034; omega⟩) hE hX1 hR1 hq1 (fun F2 H2 locs2 hX2 hR2 hq2 hRm2 => ?_)
  refine W.widen (k := cells + 30) (n := slots + 4000) (Nat.le_refl _) (Nat.le_refl _) ?_
  refine lv_istore (lv' := [(6, .int (addLineM M (xs (i + 1)) (xs (i + 2)) (xs (i + 3))).1), (5, .int k), (0, .ref b), (1, .ref o), (2, .ref om), (3, .ref q), (4, .int (nI i))]) hx hb dL_law_307 hl (by decide) rfl (fun ls hl => ?_)
  exact L_tail hM rfl hE hX2 hRm2 hq2 hk hf hl ⟨by omega, by omega⟩ dL_law_309 dL_law_310 dL_law_313 dL_law_315 dL_law_320 dL_law_322 dL_law_325 dL_law_326 dL_law_327 dL_law_328 dL_law_330 dL_law_331 dL_law_332 dL_law_337 (by decide) (fun H3 locs3 hX3 => kk H3 locs3 ls ⟨Lc, Lr, F2, ad, tg, _, D1, nd1, f1, hX3, hR2, hI1, by omega, hRm2, hq2⟩ (lv_sub hl [2, 3, 4, 5, 6] rfl))
set_option maxHeartbeats 4000000 in
set_option maxRecDepth 100000 in
theorem L_case_2 (hfl : l.stackTraces = false) (hM : kM p s m args meth c cL_law 7 ret "InvoicebridgeLaw") (hE : kE γ A s) {b N : Nat} {xs : Nat → Int32} (hS : lX b N xs A s) {o om q nd i : Nat} {adm : Nat → Nat} (h : Lw γ A s o om q adm nd H locs) (hnd : nd < 512) (hi : i + 6 ≤ N) (hc : cells + 30 ≤ 601024) (hs : slots + 4000 ≤ 7293034) (hl : lv_has ls 7 [(0, .ref b), (1, .ref o), (2, .ref om), (3, .ref q), (4, .int (nI i))]) (kk : ∀ (H1 : Heap) (locs1 : List Loc) (ls1 : Array Slot), Lw γ A s o om q adm (nd + 1) H1 locs1 → lv_has ls1 7 [(0, .ref b), (1, .ref o), (2, .ref om), (3, .ref q), (4, .int (nI i))] → W p l e room_1 s m args below meth c H1 locs1 (cells + 30) (slots + 4000) Q (F0 m 1735 ls1 [])) : W p l e room_1 s m args below meth c H locs cells slots Q (F0 m 340 ls []) := by
  obtain ⟨Lc, Lr, F, ad, tg, M, D, nd0, f, hX, hR, hI, hn0, hRm, hq⟩ := h
  have hx := hM.1
  have hb := hM.2.1
  refine lv_aload_n hx hb dL_law_340 rfl (lv_at hl 1 rfl) ?_
  refine L_arg (j := 1) hM hS hX (by decide) (by omega) (lv_at hl 0 rfl) (lv_at hl 4 rfl) dL_law_341 dL_law_342 dL_law_344 dL_law_345 dL_law_346 ?_
  refine lv_aload_n hx hb dL_law_347 rfl (lv_at hl 3 rfl) ?_
  refine L_wrap (MC := acceptM M (xs (i + 1))) (k_SW (n := 3) (As := [.ref o, .int (xs (i + 1)), .ref q]) (rest := []) hM hE (kX_left (kX_w hX)) hl (c_L_accept l hfl γ Lc F o q ad tg M nd0 D f hR hI (by omega) hq (xs (i + 1))) k_731 k_732 k_0 k_733 ⟨by decide, by decide, by decide +kernel⟩ ⟨Nat.le_of_ble_eq_true rfl, Nat.le_of_ble_eq_true rfl⟩ rfl rfl (Nat.le_of_ble_eq_true rfl) dL_law_348 ⟨by show cells + 2 ≤ 601024; omega, by show slots + 12 ≤ 7293034; omega⟩) hE hX hRm (fun k Lc F1 H1 locs1 ad tg nd1 D1 f1 hX1 hR1 hI1 hn1 hk hq1 hf hRm1 => ?_)
  refine W.widen (k := cells + 30) (n := slots + 4000) (by show cells + 2 ≤ _; omega) (by show slots + 12 ≤ _; omega) ?_
  refine lv_istore (lv' := [(5, .int k), (0, .ref b), (1, .ref o), (2, .ref om), (3, .ref q), (4, .int (nI i))]) hx hb dL_law_351 hl (by decide) rfl (fun ls hl => ?_)
  refine lv_aload_n hx hb dL_law_353 rfl (lv_at hl 3 rfl) ?_
  refine L_arg (j := 1) hM hS hX1 (by decide) (by omega) (lv_at hl 1 rfl) (lv_at hl 5 rfl) dL_law_354 dL_law_355 dL_law_357 dL_law_358 dL_law_359 ?_
  refine L_ref (MC := acceptM M (xs (i + 1))) (k_V (n := 1) (As := [.int (xs (i + 1))]) (rest := []) hM hE (kX_left (kX_r hX1)) hl (c_X5_accept l γ Lr F1 om adm M hRm1 (xs (i + 1)) hI.1 hI.2.1) hRm1.1 hRm1.2.1 rfl k_1177 k_1178 k_1179 k_9 k_1180 ⟨rfl, by decide, by decide, by decide +kernel⟩ ⟨Nat.le_of_ble_eq_true rfl, Nat.le_of_ble_eq_true rfl⟩ rfl rfl (Nat.le_of_ble_eq_true rfl) dL_law_360 ⟨by show cells + 30 ≤ 601024; omega, by show slots + 4000 ≤ 7293034; omega⟩) hE hX1 hR1 hq1 (fun F2 H2 locs2 hX2 hR2 hq2 hRm2 => ?_)
  refine W.widen (k := cells + 30) (n := slots + 4000) (Nat.le_refl _) (Nat.le_refl _) ?_
  refine lv_istore (lv' := [(6, .int (acceptM M (xs (i + 1))).1), (5, .int k), (0, .ref b), (1, .ref o), (2, .ref om), (3, .ref q), (4, .int (nI i))]) hx hb dL_law_363 hl (by decide) rfl (fun ls hl => ?_)
  exact L_tail hM rfl hE hX2 hRm2 hq2 hk hf hl ⟨by omega, by omega⟩ dL_law_365 dL_law_366 dL_law_369 dL_law_371 dL_law_376 dL_law_378 dL_law_381 dL_law_382 dL_law_383 dL_law_384 dL_law_386 dL_law_387 dL_law_388 dL_law_393 (by decide) (fun H3 locs3 hX3 => kk H3 locs3 ls ⟨Lc, Lr, F2, ad, tg, _, D1, nd1, f1, hX3, hR2, hI1, by omega, hRm2, hq2⟩ (lv_sub hl [2, 3, 4, 5, 6] rfl))
set_option maxHeartbeats 4000000 in
set_option maxRecDepth 100000 in
theorem L_case_3 (hfl : l.stackTraces = false) (hM : kM p s m args meth c cL_law 7 ret "InvoicebridgeLaw") (hE : kE γ A s) {b N : Nat} {xs : Nat → Int32} (hS : lX b N xs A s) {o om q nd i : Nat} {adm : Nat → Nat} (h : Lw γ A s o om q adm nd H locs) (hnd : nd < 512) (hi : i + 6 ≤ N) (hc : cells + 30 ≤ 601024) (hs : slots + 4000 ≤ 7293034) (hl : lv_has ls 7 [(0, .ref b), (1, .ref o), (2, .ref om), (3, .ref q), (4, .int (nI i))]) (kk : ∀ (H1 : Heap) (locs1 : List Loc) (ls1 : Array Slot), Lw γ A s o om q adm (nd + 1) H1 locs1 → lv_has ls1 7 [(0, .ref b), (1, .ref o), (2, .ref om), (3, .ref q), (4, .int (nI i))] → W p l e room_1 s m args below meth c H1 locs1 (cells + 30) (slots + 4000) Q (F0 m 1735 ls1 [])) : W p l e room_1 s m args below meth c H locs cells slots Q (F0 m 396 ls []) := by
  obtain ⟨Lc, Lr, F, ad, tg, M, D, nd0, f, hX, hR, hI, hn0, hRm, hq⟩ := h
  have hx := hM.1
  have hb := hM.2.1
  refine lv_aload_n hx hb dL_law_396 rfl (lv_at hl 1 rfl) ?_
  refine L_arg (j := 1) hM hS hX (by decide) (by omega) (lv_at hl 0 rfl) (lv_at hl 4 rfl) dL_law_397 dL_law_398 dL_law_400 dL_law_401 dL_law_402 ?_
  refine lv_aload_n hx hb dL_law_403 rfl (lv_at hl 3 rfl) ?_
  refine L_wrap (MC := refuseM M (xs (i + 1))) (k_SW (n := 3) (As := [.ref o, .int (xs (i + 1)), .ref q]) (rest := []) hM hE (kX_left (kX_w hX)) hl (c_L_refuse l hfl γ Lc F o q ad tg M nd0 D f hR hI (by omega) hq (xs (i + 1))) k_757 k_758 k_0 k_759 ⟨by decide, by decide, by decide +kernel⟩ ⟨Nat.le_of_ble_eq_true rfl, Nat.le_of_ble_eq_true rfl⟩ rfl rfl (Nat.le_of_ble_eq_true rfl) dL_law_404 ⟨by show cells + 2 ≤ 601024; omega, by show slots + 12 ≤ 7293034; omega⟩) hE hX hRm (fun k Lc F1 H1 locs1 ad tg nd1 D1 f1 hX1 hR1 hI1 hn1 hk hq1 hf hRm1 => ?_)
  refine W.widen (k := cells + 30) (n := slots + 4000) (by show cells + 2 ≤ _; omega) (by show slots + 12 ≤ _; omega) ?_
  refine lv_istore (lv' := [(5, .int k), (0, .ref b), (1, .ref o), (2, .ref om), (3, .ref q), (4, .int (nI i))]) hx hb dL_law_407 hl (by decide) rfl (fun ls hl => ?_)
  refine lv_aload_n hx hb dL_law_409 rfl (lv_at hl 3 rfl) ?_
  refine L_arg (j := 1) hM hS hX1 (by decide) (by omega) (lv_at hl 1 rfl) (lv_at hl 5 rfl) dL_law_410 dL_law_411 dL_law_413 dL_law_414 dL_law_415 ?_
  refine L_ref (MC := refuseM M (xs (i + 1))) (k_V (n := 1) (As := [.int (xs (i + 1))]) (rest := []) hM hE (kX_left (kX_r hX1)) hl (c_X5_refuse l γ Lr F1 om adm M hRm1 (xs (i + 1)) hI.1 hI.2.1) hRm1.1 hRm1.2.1 rfl k_1192 k_1193 k_1194 k_9 k_1195 ⟨rfl, by decide, by decide, by decide +kernel⟩ ⟨Nat.le_of_ble_eq_true rfl, Nat.le_of_ble_eq_true rfl⟩ rfl rfl (Nat.le_of_ble_eq_true rfl) dL_law_416 ⟨by show cells + 30 ≤ 601024; omega, by show slots + 4000 ≤ 7293034; omega⟩) hE hX1 hR1 hq1 (fun F2 H2 locs2 hX2 hR2 hq2 hRm2 => ?_)
  refine W.widen (k := cells + 30) (n := slots + 4000) (Nat.le_refl _) (Nat.le_refl _) ?_
  refine lv_istore (lv' := [(6, .int (refuseM M (xs (i + 1))).1), (5, .int k), (0, .ref b), (1, .ref o), (2, .ref om), (3, .ref q), (4, .int (nI i))]) hx hb dL_law_419 hl (by decide) rfl (fun ls hl => ?_)
  exact L_tail hM rfl hE hX2 hRm2 hq2 hk hf hl ⟨by omega, by omega⟩ dL_law_421 dL_law_422 dL_law_425 dL_law_427 dL_law_432 dL_law_434 dL_law_437 dL_law_438 dL_law_439 dL_law_440 dL_law_442 dL_law_443 dL_law_444 dL_law_449 (by decide) (fun H3 locs3 hX3 => kk H3 locs3 ls ⟨Lc, Lr, F2, ad, tg, _, D1, nd1, f1, hX3, hR2, hI1, by omega, hRm2, hq2⟩ (lv_sub hl [2, 3, 4, 5, 6] rfl))
set_option maxHeartbeats 4000000 in
set_option maxRecDepth 100000 in
theorem L_case_4 (hfl : l.stackTraces = false) (hM : kM p s m args meth c cL_law 7 ret "InvoicebridgeLaw") (hE : kE γ A s) {b N : Nat} {xs : Nat → Int32} (hS : lX b N xs A s) {o om q nd i : Nat} {adm : Nat → Nat} (h : Lw γ A s o om q adm nd H locs) (hnd : nd < 512) (hi : i + 6 ≤ N) (hc : cells + 30 ≤ 601024) (hs : slots + 4000 ≤ 7293034) (hl : lv_has ls 7 [(0, .ref b), (1, .ref o), (2, .ref om), (3, .ref q), (4, .int (nI i))]) (kk : ∀ (H1 : Heap) (locs1 : List Loc) (ls1 : Array Slot), Lw γ A s o om q adm (nd + 1) H1 locs1 → lv_has ls1 7 [(0, .ref b), (1, .ref o), (2, .ref om), (3, .ref q), (4, .int (nI i))] → W p l e room_1 s m args below meth c H1 locs1 (cells + 30) (slots + 4000) Q (F0 m 1735 ls1 [])) : W p l e room_1 s m args below meth c H locs cells slots Q (F0 m 452 ls []) := by
  obtain ⟨Lc, Lr, F, ad, tg, M, D, nd0, f, hX, hR, hI, hn0, hRm, hq⟩ := h
  have hx := hM.1
  have hb := hM.2.1
  refine lv_aload_n hx hb dL_law_452 rfl (lv_at hl 1 rfl) ?_
  refine L_arg (j := 1) hM hS hX (by decide) (by omega) (lv_at hl 0 rfl) (lv_at hl 4 rfl) dL_law_453 dL_law_454 dL_law_456 dL_law_457 dL_law_458 ?_
  refine L_arg (j := 2) hM hS hX (by decide) (by omega) (lv_at hl 0 rfl) (lv_at hl 4 rfl) dL_law_459 dL_law_460 dL_law_462 dL_law_463 dL_law_464 ?_
  refine L_arg (j := 3) hM hS hX (by decide) (by omega) (lv_at hl 0 rfl) (lv_at hl 4 rfl) dL_law_465 dL_law_466 dL_law_468 dL_law_469 dL_law_470 ?_
  refine lv_aload_n hx hb dL_law_471 rfl (lv_at hl 3 rfl) ?_
  refine L_wrap (MC := creditM M (xs (i + 1)) (xs (i + 2)) (xs (i + 3))) (k_SW (n := 5) (As := [.ref o, .int (xs (i + 1)), .int (xs (i + 2)), .int (xs (i + 3)), .ref q]) (rest := []) hM hE (kX_left (kX_w hX)) hl (c_L_credit l hfl γ Lc F o q ad tg M nd0 D f hR hI (by omega) hq (xs (i + 1)) (xs (i + 2)) (xs (i + 3))) k_768 k_769 k_0 k_770 ⟨by decide, by decide, by decide +kernel⟩ ⟨Nat.le_of_ble_eq_true rfl, Nat.le_of_ble_eq_true rfl⟩ rfl rfl (Nat.le_of_ble_eq_true rfl) dL_law_472 ⟨by show cells + 6 ≤ 601024; omega, by show slots + 1100 ≤ 7293034; omega⟩) hE hX hRm (fun k Lc F1 H1 locs1 ad tg nd1 D1 f1 hX1 hR1 hI1 hn1 hk hq1 hf hRm1 => ?_)
  refine W.widen (k := cells + 30) (n := slots + 4000) (by show cells + 6 ≤ _; omega) (by show slots + 1100 ≤ _; omega) ?_
  refine lv_istore (lv' := [(5, .int k), (0, .ref b), (1, .ref o), (2, .ref om), (3, .ref q), (4, .int (nI i))]) hx hb dL_law_475 hl (by decide) rfl (fun ls hl => ?_)
  refine lv_aload_n hx hb dL_law_477 rfl (lv_at hl 3 rfl) ?_
  refine L_arg (j := 1) hM hS hX1 (by decide) (by omega) (lv_at hl 1 rfl) (lv_at hl 5 rfl) dL_law_478 dL_law_479 dL_law_481 dL_law_482 dL_law_483 ?_
  refine L_arg (j := 2) hM hS hX1 (by decide) (by omega) (lv_at hl 1 rfl) (lv_at hl 5 rfl) dL_law_484 dL_law_485 dL_law_487 dL_law_488 dL_law_489 ?_
  refine L_arg (j := 3) hM hS hX1 (by decide) (by omega) (lv_at hl 1 rfl) (lv_at hl 5 rfl) dL_law_490 dL_law_491 dL_law_493 dL_law_494 dL_law_495 ?_
  refine L_ref (MC := creditM M (xs (i + 1)) (xs (i + 2)) (xs (i + 3))) (k_V (n := 3) (As := [.int (xs (i + 1)), .int (xs (i + 2)), .int (xs (i + 3))]) (rest := []) hM hE (kX_left (kX_r hX1)) hl (c_X5_credit l γ Lr F1 om adm M hRm1 (xs (i + 1)) (xs (i + 2)) (xs (i + 3)) hI.1 hI.2.1 hI.2.2.1) hRm1.1 hRm1.2.1 rfl k_1196 k_1197 k_1198 k_9 k_1199 ⟨rfl, by decide, by decide, by decide +kernel⟩ ⟨Nat.le_of_ble_eq_true rfl, Nat.le_of_ble_eq_true rfl⟩ rfl rfl (Nat.le_of_ble_eq_true rfl) dL_law_496 ⟨by show cells + 30 ≤ 601024; omega, by show slots + 4000 ≤ 7293034; omega⟩) hE hX1 hR1 hq1 (fun F2 H2 locs2 hX2 hR2 hq2 hRm2 => ?_)
  refine W.widen (k := cells + 30) (n := slots + 4000) (Nat.le_refl _) (Nat.le_refl _) ?_
  refine lv_istore (lv' := [(6, .int (creditM M (xs (i + 1)) (xs (i + 2)) (xs (i + 3))).1), (5, .int k), (0, .ref b), (1, .ref o), (2, .ref om), (3, .ref q), (4, .int (nI i))]) hx hb dL_law_499 hl (by decide) rfl (fun ls hl => ?_)
  exact L_tail hM rfl hE hX2 hRm2 hq2 hk hf hl ⟨by omega, by omega⟩ dL_law_501 dL_law_502 dL_law_505 dL_law_507 dL_law_512 dL_law_514 dL_law_517 dL_law_518 dL_law_519 dL_law_520 dL_law_522 dL_law_523 dL_law_524 dL_law_529 (by decide) (fun H3 locs3 hX3 => kk H3 locs3 ls ⟨Lc, Lr, F2, ad, tg, _, D1, nd1, f1, hX3, hR2, hI1, by omega, hRm2, hq2⟩ (lv_sub hl [2, 3, 4, 5, 6] rfl))
set_option maxHeartbeats 4000000 in
set_option maxRecDepth 100000 in
theorem L_case_5 (hfl : l.stackTraces = false) (hM : kM p s m args meth c cL_law 7 ret "InvoicebridgeLaw") (hE : kE γ A s) {b N : Nat} {xs : Nat → Int32} (hS : lX b N xs A s) {o om q nd i : Nat} {adm : Nat → Nat} (h : Lw γ A s o om q adm nd H locs) (hnd : nd < 512) (hi : i + 6 ≤ N) (hc : cells + 30 ≤ 601024) (hs : slots + 4000 ≤ 7293034) (hl : lv_has ls 7 [(0, .ref b), (1, .ref o), (2, .ref om), (3, .ref q), (4, .int (nI i))]) (kk : ∀ (H1 : Heap) (locs1 : List Loc) (ls1 : Array Slot), Lw γ A s o om q adm (nd + 1) H1 locs1 → lv_has ls1 7 [(0, .ref b), (1, .ref o), (2, .ref om), (3, .ref q), (4, .int (nI i))] → W p l e room_1 s m args below meth c H1 locs1 (cells + 30) (slots + 4000) Q (F0 m 1735 ls1 [])) : W p l e room_1 s m args below meth c H locs cells slots Q (F0 m 532 ls []) := by
  obtain ⟨Lc, Lr, F, ad, tg, M, D, nd0, f, hX, hR, hI, hn0, hRm, hq⟩ := h
  have hx := hM.1
  have hb := hM.2.1
  refine lv_aload_n hx hb dL_law_532 rfl (lv_at hl 1 rfl) ?_
  refine L_arg (j := 1) hM hS hX (by decide) (by omega) (lv_at hl 0 rfl) (lv_at hl 4 rfl) dL_law_533 dL_law_534 dL_law_536 dL_law_537 dL_law_538 ?_
  refine L_arg (j := 2) hM hS hX (by decide) (by omega) (lv_at hl 0 rfl) (lv_at hl 4 rfl) dL_law_539 dL_law_540 dL_law_542 dL_law_543 dL_law_544 ?_
  refine lv_aload_n hx hb dL_law_545 rfl (lv_at hl 3 rfl) ?_
  refine L_wrap (MC := disputeM M (xs (i + 1)) (xs (i + 2))) (k_SW (n := 4) (As := [.ref o, .int (xs (i + 1)), .int (xs (i + 2)), .ref q]) (rest := []) hM hE (kX_left (kX_w hX)) hl (c_L_dispute l hfl γ Lc F o q ad tg M nd0 D f hR hI (by omega) hq (xs (i + 1)) (xs (i + 2))) k_811 k_812 k_0 k_813 ⟨by decide, by decide, by decide +kernel⟩ ⟨Nat.le_of_ble_eq_true rfl, Nat.le_of_ble_eq_true rfl⟩ rfl rfl (Nat.le_of_ble_eq_true rfl) dL_law_546 ⟨by show cells + 3 ≤ 601024; omega, by show slots + 18 ≤ 7293034; omega⟩) hE hX hRm (fun k Lc F1 H1 locs1 ad tg nd1 D1 f1 hX1 hR1 hI1 hn1 hk hq1 hf hRm1 => ?_)
  refine W.widen (k := cells + 30) (n := slots + 4000) (by show cells + 3 ≤ _; omega) (by show slots + 18 ≤ _; omega) ?_
  refine lv_istore (lv' := [(5, .int k), (0, .ref b), (1, .ref o), (2, .ref om), (3, .ref q), (4, .int (nI i))]) hx hb dL_law_549 hl (by decide) rfl (fun ls hl => ?_)
  refine lv_aload_n hx hb dL_law_551 rfl (lv_at hl 3 rfl) ?_
  refine L_arg (j := 1) hM hS hX1 (by decide) (by omega) (lv_at hl 1 rfl) (lv_at hl 5 rfl) dL_law_552 dL_law_553 dL_law_555 dL_law_556 dL_law_557 ?_
  refine L_arg (j := 2) hM hS hX1 (by decide) (by omega) (lv_at hl 1 rfl) (lv_at hl 5 rfl) dL_law_558 dL_law_559 dL_law_561 dL_law_562 dL_law_563 ?_
  refine L_ref (MC := disputeM M (xs (i + 1)) (xs (i + 2))) (k_V (n := 2) (As := [.int (xs (i + 1)), .int (xs (i + 2))]) (rest := []) hM hE (kX_left (kX_r hX1)) hl (c_X5_dispute l γ Lr F1 om adm M hRm1 (xs (i + 1)) (xs (i + 2)) hI.1 hI.2.1) hRm1.1 hRm1.2.1 rfl k_1208 k_1209 k_1210 k_9 k_1211 ⟨rfl, by decide, by decide, by decide +kernel⟩ ⟨Nat.le_of_ble_eq_true rfl, Nat.le_of_ble_eq_true rfl⟩ rfl rfl (Nat.le_of_ble_eq_true rfl) dL_law_564 ⟨by show cells + 30 ≤ 601024; omega, by show slots + 4000 ≤ 7293034; omega⟩) hE hX1 hR1 hq1 (fun F2 H2 locs2 hX2 hR2 hq2 hRm2 => ?_)
  refine W.widen (k := cells + 30) (n := slots + 4000) (Nat.le_refl _) (Nat.le_refl _) ?_
  refine lv_istore (lv' := [(6, .int (disputeM M (xs (i + 1)) (xs (i + 2))).1), (5, .int k), (0, .ref b), (1, .ref o), (2, .ref om), (3, .ref q), (4, .int (nI i))]) hx hb dL_law_567 hl (by decide) rfl (fun ls hl => ?_)
  exact L_tail hM rfl hE hX2 hRm2 hq2 hk hf hl ⟨by omega, by omega⟩ dL_law_569 dL_law_570 dL_law_573 dL_law_575 dL_law_580 dL_law_582 dL_law_585 dL_law_586 dL_law_587 dL_law_588 dL_law_590 dL_law_591 dL_law_592 dL_law_597 (by decide) (fun H3 locs3 hX3 => kk H3 locs3 ls ⟨Lc, Lr, F2, ad, tg, _, D1, nd1, f1, hX3, hR2, hI1, by omega, hRm2, hq2⟩ (lv_sub hl [2, 3, 4, 5, 6] rfl))
set_option maxHeartbeats 4000000 in
set_option maxRecDepth 100000 in
theorem L_case_6 (hfl : l.stackTraces = false) (hM : kM p s m args meth c cL_law 7 ret "InvoicebridgeLaw") (hE : kE γ A s) {b N : Nat} {xs : Nat → Int32} (hS : lX b N xs A s) {o om q nd i : Nat} {adm : Nat → Nat} (h : Lw γ A s o om q adm nd H locs) (hnd : nd < 512) (hi : i + 6 ≤ N) (hc : cells + 30 ≤ 601024) (hs : slots + 4000 ≤ 7293034) (hl : lv_has ls 7 [(0, .ref b), (1, .ref o), (2, .ref om), (3, .ref q), (4, .int (nI i))]) (kk : ∀ (H1 : Heap) (locs1 : List Loc) (ls1 : Array Slot), Lw γ A s o om q adm (nd + 1) H1 locs1 → lv_has ls1 7 [(0, .ref b), (1, .ref o), (2, .ref om), (3, .ref q), (4, .int (nI i))] → W p l e room_1 s m args below meth c H1 locs1 (cells + 30) (slots + 4000) Q (F0 m 1735 ls1 [])) : W p l e room_1 s m args below meth c H locs cells slots Q (F0 m 600 ls []) := by
  obtain ⟨Lc, Lr, F, ad, tg, M, D, nd0, f, hX, hR, hI, hn0, hRm, hq⟩ := h
  have hx := hM.1
  have hb := hM.2.1
  refine lv_aload_n hx hb dL_law_600 rfl (lv_at hl 1 rfl) ?_
  refine L_arg (j := 1) hM hS hX (by decide) (by omega) (lv_at hl 0 rfl) (lv_at hl 4 rfl) dL_law_601 dL_law_602 dL_law_604 dL_law_605 dL_law_606 ?_
  refine L_arg (j := 2) hM hS hX (by decide) (by omega) (lv_at hl 0 rfl) (lv_at hl 4 rfl) dL_law_607 dL_law_608 dL_law_610 dL_law_611 dL_law_612 ?_
  refine L_arg (j := 3) hM hS hX (by decide) (by omega) (lv_at hl 0 rfl) (lv_at hl 4 rfl) dL_law_613 dL_law_614 dL_law_616 dL_law_617 dL_law_618 ?_
  refine L_bool hM dL_law_619 dL_law_622 dL_law_623 dL_law_626 ?_
  refine lv_aload_n hx hb dL_law_627 rfl (lv_at hl 3 rfl) ?_
  refine L_wrap (MC := settleM M (xs (i + 1)) (xs (i + 2)) (b01 (xs (i + 3)))) (k_SW (n := 5) (As := [.ref o, .int (xs (i + 1)), .int (xs (i + 2)), .int (b01 (xs (i + 3))), .ref q]) (rest := []) hM hE (kX_left (kX_w hX)) hl (c_L_settle l hfl γ Lc F o q ad tg M nd0 D f hR hI (by omega) hq (xs (i + 1)) (xs (i + 2)) (b01 (xs (i + 3)))) k_821 k_822 k_0 k_823 ⟨by decide, by decide, by decide +kernel⟩ ⟨Nat.le_of_ble_eq_true rfl, Nat.le_of_ble_eq_true rfl⟩ rfl rfl (Nat.le_of_ble_eq_true rfl) dL_law_628 ⟨by show cells + 6 ≤ 601024; omega, by show slots + 1100 ≤ 7293034; omega⟩) hE hX hRm (fun k Lc F1 H1 locs1 ad tg nd1 D1 f1 hX1 hR1 hI1 hn1 hk hq1 hf hRm1 => ?_)
  refine W.widen (k := cells + 30) (n := slots + 4000) (by show cells + 6 ≤ _; omega) (by show slots + 1100 ≤ _; omega) ?_
  refine lv_istore (lv' := [(5, .int k), (0, .ref b), (1, .ref o), (2, .ref om), (3, .ref q), (4, .int (nI i))]) hx hb dL_law_631 hl (by decide) rfl (fun ls hl => ?_)
  refine lv_aload_n hx hb dL_law_633 rfl (lv_at hl 3 rfl) ?_
  refine L_arg (j := 1) hM hS hX1 (by decide) (by omega) (lv_at hl 1 rfl) (lv_at hl 5 rfl) dL_law_634 dL_law_635 dL_law_637 dL_law_638 dL_law_639 ?_
  refine L_arg (j := 2) hM hS hX1 (by decide) (by omega) (lv_at hl 1 rfl) (lv_at hl 5 rfl) dL_law_640 dL_law_641 dL_law_643 dL_law_644 dL_law_645 ?_
  refine L_arg (j := 3) hM hS hX1 (by decide) (by omega) (lv_at hl 1 rfl) (lv_at hl 5 rfl) dL_law_646 dL_law_647 dL_law_649 dL_law_650 dL_law_651 ?_
  refine L_bool hM dL_law_652 dL_law_655 dL_law_656 dL_law_659 ?_
  refine L_ref (MC := settleM M (xs (i + 1)) (xs (i + 2)) (b01 (xs (i + 3)))) (k_V (n := 3) (As := [.int (xs (i + 1)), .int (xs (i + 2)), .int (b01 (xs (i + 3)))]) (rest := []) hM hE (kX_left (kX_r hX1)) hl (c_X5_settle l γ Lr F1 om adm M hRm1 (xs (i + 1)) (xs (i + 2)) (b01 (xs (i + 3))) hI.1 hI.2.1 hI.2.2.1) hRm1.1 hRm1.2.1 rfl k_1212 k_1213 k_1214 k_9 k_1215 ⟨rfl, by decide, by decide, by decide +kernel⟩ ⟨Nat.le_of_ble_eq_true rfl, Nat.le_of_ble_eq_true rfl⟩ rfl rfl (Nat.le_of_ble_eq_true rfl) dL_law_660 ⟨by show cells + 30 ≤ 601024; omega, by show slots + 4000 ≤ 7293034; omega⟩) hE hX1 hR1 hq1 (fun F2 H2 locs2 hX2 hR2 hq2 hRm2 => ?_)
  refine W.widen (k := cells + 30) (n := slots + 4000) (Nat.le_refl _) (Nat.le_refl _) ?_
  refine lv_istore (lv' := [(6, .int (settleM M (xs (i + 1)) (xs (i + 2)) (b01 (xs (i + 3)))).1), (5, .int k), (0, .ref b), (1, .ref o), (2, .ref om), (3, .ref q), (4, .int (nI i))]) hx hb dL_law_663 hl (by decide) rfl (fun ls hl => ?_)
  exact L_tail hM rfl hE hX2 hRm2 hq2 hk hf hl ⟨by omega, by omega⟩ dL_law_665 dL_law_666 dL_law_669 dL_law_671 dL_law_676 dL_law_678 dL_law_681 dL_law_682 dL_law_683 dL_law_684 dL_law_686 dL_law_687 dL_law_688 dL_law_693 (by decide) (fun H3 locs3 hX3 => kk H3 locs3 ls ⟨Lc, Lr, F2, ad, tg, _, D1, nd1, f1, hX3, hR2, hI1, by omega, hRm2, hq2⟩ (lv_sub hl [2, 3, 4, 5, 6] rfl))
set_option maxHeartbeats 4000000 in
set_option maxRecDepth 100000 in
theorem L_case_7 (hfl : l.stackTraces = false) (hM : kM p s m args meth c cL_law 7 ret "InvoicebridgeLaw") (hE : kE γ A s) {b N : Nat} {xs : Nat → Int32} (hS : lX b N xs A s) {o om q nd i : Nat} {adm : Nat → Nat} (h : Lw γ A s o om q adm nd H locs) (hnd : nd < 512) (hi : i + 6 ≤ N) (hc : cells + 30 ≤ 601024) (hs : slots + 4000 ≤ 7293034) (hl : lv_has ls 7 [(0, .ref b), (1, .ref o), (2, .ref om), (3, .ref q), (4, .int (nI i))]) (kk : ∀ (H1 : Heap) (locs1 : List Loc) (ls1 : Array Slot), Lw γ A s o om q adm (nd + 1) H1 locs1 → lv_has ls1 7 [(0, .ref b), (1, .ref o), (2, .ref om), (3, .ref q), (4, .int (nI i))] → W p l e room_1 s m args below meth c H1 locs1 (cells + 30) (slots + 4000) Q (F0 m 1735 ls1 [])) : W p l e room_1 s m args below meth c H locs cells slots Q (F0 m 696 ls []) := by
  obtain ⟨Lc, Lr, F, ad, tg, M, D, nd0, f, hX, hR, hI, hn0, hRm, hq⟩ := h
  have hx := hM.1
  have hb := hM.2.1
  refine lv_aload_n hx hb dL_law_696 rfl (lv_at hl 1 rfl) ?_
  refine L_arg (j := 1) hM hS hX (by decide) (by omega) (lv_at hl 0 rfl) (lv_at hl 4 rfl) dL_law_697 dL_law_698 dL_law_700 dL_law_701 dL_law_702 ?_
  refine L_arg (j := 2) hM hS hX (by decide) (by omega) (lv_at hl 0 rfl) (lv_at hl 4 rfl) dL_law_703 dL_law_704 dL_law_706 dL_law_707 dL_law_708 ?_
  refine L_arg (j := 3) hM hS hX (by decide) (by omega) (lv_at hl 0 rfl) (lv_at hl 4 rfl) dL_law_709 dL_law_710 dL_law_712 dL_law_713 dL_law_714 ?_
  refine L_arg (j := 4) hM hS hX (by decide) (by omega) (lv_at hl 0 rfl) (lv_at hl 4 rfl) dL_law_715 dL_law_716 dL_law_718 dL_law_719 dL_law_720 ?_
  refine L_bool hM dL_law_721 dL_law_724 dL_law_725 dL_law_728 ?_
  refine lv_aload_n hx hb dL_law_729 rfl (lv_at hl 3 rfl) ?_
  refine L_wrap (MC := sellM M (xs (i + 1)) (xs (i + 2)) (xs (i + 3)) (b01 (xs (i + 4)))) (k_SW (n := 6) (As := [.ref o, .int (xs (i + 1)), .int (xs (i + 2)), .int (xs (i + 3)), .int (b01 (xs (i + 4))), .ref q]) (rest := []) hM hE (kX_left (kX_w hX)) hl (c_L_sell l hfl γ Lc F o q ad tg M nd0 D f hR hI (by omega) hq (xs (i + 1)) (xs (i + 2)) (xs (i + 3)) (b01 (xs (i + 4))) (b01_or _)) k_829 k_830 k_0 k_831 ⟨by decide, by decide, by decide +kernel⟩ ⟨Nat.le_of_ble_eq_true rfl, Nat.le_of_ble_eq_true rfl⟩ rfl rfl (Nat.le_of_ble_eq_true rfl) dL_law_730 ⟨by show cells + 6 ≤ 601024; omega, by show slots + 1100 ≤ 7293034; omega⟩) hE hX hRm (fun k Lc F1 H1 locs1 ad tg nd1 D1 f1 hX1 hR1 hI1 hn1 hk hq1 hf hRm1 => ?_)
  refine W.widen (k := cells + 30) (n := slots + 4000) (by show cells + 6 ≤ _; omega) (by show slots + 1100 ≤ _; omega) ?_
  refine lv_istore (lv' := [(5, .int k), (0, .ref b), (1, .ref o), (2, .ref om), (3, .ref q), (4, .int (nI i))]) hx hb dL_law_733 hl (by decide) rfl (fun ls hl => ?_)
  refine lv_aload_n hx hb dL_law_735 rfl (lv_at hl 3 rfl) ?_
  refine L_arg (j := 1) hM hS hX1 (by decide) (by omega) (lv_at hl 1 rfl) (lv_at hl 5 rfl) dL_law_736 dL_law_737 dL_law_739 dL_law_740 dL_law_741 ?_
  refine L_arg (j := 2) hM hS hX1 (by decide) (by omega) (lv_at hl 1 rfl) (lv_at hl 5 rfl) dL_law_742 dL_law_743 dL_law_745 dL_law_746 dL_law_747 ?_
  refine L_arg (j := 3) hM hS hX1 (by decide) (by omega) (lv_at hl 1 rfl) (lv_at hl 5 rfl) dL_law_748 dL_law_749 dL_law_751 dL_law_752 dL_law_753 ?_
  refine L_arg (j := 4) hM hS hX1 (by decide) (by omega) (lv_at hl 1 rfl) (lv_at hl 5 rfl) dL_law_754 dL_law_755 dL_law_757 dL_law_758 dL_law_759 ?_
  refine L_bool hM dL_law_760 dL_law_763 dL_law_764 dL_law_767 ?_
  refine L_ref (MC := sellM M (xs (i + 1)) (xs (i + 2)) (xs (i + 3)) (b01 (xs (i + 4)))) (k_V (n := 4) (As := [.int (xs (i + 1)), .int (xs (i + 2)), .int (xs (i + 3)), .int (b01 (xs (i + 4)))]) (rest := []) hM hE (kX_left (kX_r hX1)) hl (c_X5_sell l γ Lr F1 om adm M hRm1 (xs (i + 1)) (xs (i + 2)) (xs (i + 3)) (b01 (xs (i + 4))) (b01_or _) hI.1 hI.2.1 hI.xs) hRm1.1 hRm1.2.1 rfl k_1216 k_1217 k_1218 k_9 k_1219 ⟨rfl, by decide, by decide, by decide +kernel⟩ ⟨Nat.le_of_ble_eq_true rfl, Nat.le_of_ble_eq_true rfl⟩ rfl rfl (Nat.le_of_ble_eq_true rfl) dL_law_768 ⟨by show cells + 30 ≤ 601024; omega, by show slots + 4000 ≤ 7293034; omega⟩) hE hX1 hR1 hq1 (fun F2 H2 locs2 hX2 hR2 hq2 hRm2 => ?_)
  refine W.widen (k := cells + 30) (n := slots + 4000) (Nat.le_refl _) (Nat.le_refl _) ?_
  refine lv_istore (lv' := [(6, .int (sellM M (xs (i + 1)) (xs (i + 2)) (xs (i + 3)) (b01 (xs (i + 4)))).1), (5, .int k), (0, .ref b), (1, .ref o), (2, .ref om), (3, .ref q), (4, .int (nI i))]) hx hb dL_law_771 hl (by decide) rfl (fun ls hl => ?_)
  exact L_tail hM rfl hE hX2 hRm2 hq2 hk hf hl ⟨by omega, by omega⟩ dL_law_773 dL_law_774 dL_law_777 dL_law_779 dL_law_784 dL_law_786 dL_law_789 dL_law_790 dL_law_791 dL_law_792 dL_law_794 dL_law_795 dL_law_796 dL_law_801 (by decide) (fun H3 locs3 hX3 => kk H3 locs3 ls ⟨Lc, Lr, F2, ad, tg, _, D1, nd1, f1, hX3, hR2, hI1, by omega, hRm2, hq2⟩ (lv_sub hl [2, 3, 4, 5, 6] rfl))
end LC
