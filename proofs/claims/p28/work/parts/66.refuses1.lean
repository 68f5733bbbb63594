/-! refuses: what there is not is refused, and nothing changes -/
section RF
variable {p : Program} {l : Launch} {e : Env} {s : State} {m : MethodId} {args : Array Value} {below : List Frame} {meth : Method} {c : Code} {H : Heap} {locs : List Loc} {Q : State → Prop}
variable {ret : Option FieldType} {γ : kG} {A : Nat → Prop} {L : List Nat} {F : kF} {ls : Array Slot} {o n : Nat} {M : mM}
set_option maxHeartbeats 8000000 in
set_option maxRecDepth 100000 in
theorem rf_1_1 (hfl : l.stackTraces = false) (hM : kM p s m args meth c cL_refuses 15 ret "InvoicebridgeLaw") (hE : kE γ A s) (hX : kX γ A s L F H locs) (hO : Ob γ o M n L F) (hn : n < 512) (hl : lv_has ls 15 [(7, .int 1), (6, .int (faultM (mset M 24 0 0))), (5, .int (M 0 0)), (4, .int (sumsM (mset M 24 0 0) 1 0)), (3, .int (M 1 (kj 1))), (2, .int 2147483647), (0, .ref o), (1, .int (M 2 0))])
    (kk : ∀ (L : List Nat) (F : kF) (H : Heap) (locs : List Loc) (ls : Array Slot), kX γ A s L F H locs → Ob γ o M n L F → lv_has ls 15 [(14, .int 1), (13, .int 20), (12, .int 100000), (11, .int 10000), (10, .int (M 2 0)), (9, .int 6), (8, .int (-2147483648)), (7, .int 1), (6, .int (faultM (mset M 24 0 0))), (5, .int (M 0 0)), (4, .int (sumsM (mset M 24 0 0) 1 0)), (3, .int (M 1 (kj 1))), (2, .int 2147483647), (0, .ref o), (1, .int (M 2 0))] → W p l e (kRm 10 1242 169940) s m args below meth c H locs 490 69348 Q (F0 m 506 ls [])) : W p l e (kRm 10 1242 169940) s m args below meth c H locs 311 42488 Q (F0 m 31 ls []) := by
  have hx := hM.1
  have hb := hM.2.1
  obtain ⟨nd9, D9, hI⟩ := hO.inv
  refine lv_iload hx hb dL_refuses_31 (lv_at hl 0 rfl) ?_
  refine lv_iconst (v := 4) hx hb dL_refuses_33 (by decide) ?_
  refine lv_icmp_ge (tgt := 1199) hx hb dL_refuses_34 (by decide) (fun h9 => absurd h9 (show ¬ (4 : Int32) ≤ 1 from (by decide))) (fun _ => ?_)
  refine lv_iload hx hb dL_refuses_37 (lv_at hl 0 rfl) ?_
  refine lv_if_ne (tgt := 46) hx hb dL_refuses_39 (by decide) (fun _ => ?_) (fun h9 => absurd h9 (show ¬ (1 : Int32) = 0 from (by decide)))
  refine lv_iload hx hb dL_refuses_46 (lv_at hl 0 rfl) ?_
  refine lv_iconst (v := 2) hx hb dL_refuses_48 (by decide) ?_
  refine lv_icmp_ne (tgt := 56) hx hb dL_refuses_49 (by decide) (fun _ => ?_) (fun h9 => absurd h9 (show ¬ (1 : Int32) = 2 from (by decide)))
  refine lv_iload_n hx hb dL_refuses_56 rfl (lv_at hl 5 rfl) ?_
  refine lv_ineg hx hb dL_refuses_57 ?_
  refine lv_is (y := (-2147483647)) (by decide) ?_
  refine lv_iconst (v := 1) hx hb dL_refuses_58 (by decide) ?_
  refine lv_isub hx hb dL_refuses_59 ?_
  refine lv_is (y := (-2147483648)) (by decide) ?_
  refine lv_istore (lv' := [(8, .int (-2147483648)), (7, .int 1), (6, .int (faultM (mset M 24 0 0))), (5, .int (M 0 0)), (4, .int (sumsM (mset M 24 0 0) 1 0)), (3, .int (M 1 (kj 1))), (2, .int 2147483647), (0, .ref o), (1, .int (M 2 0))]) hx hb dL_refuses_60 hl (by decide) rfl (fun ls hl => ?_)
  refine lv_iload hx hb dL_refuses_62 (lv_at hl 1 rfl) ?_
  refine lv_iconst (v := 1) hx hb dL_refuses_64 (by decide) ?_
  refine lv_icmp_ne (tgt := 73) hx hb dL_refuses_65 (by decide) (fun h9 => absurd (show (1 : Int32) = 1 from (by decide)) h9) (fun _ => ?_)
  refine lv_bipush (v := 6) hx hb dL_refuses_68 (by decide) ?_
  refine lv_goto (tgt := 75) hx hb dL_refuses_70 (by decide) ?_
  refine lv_istore (lv' := [(9, .int 6), (8, .int (-2147483648)), (7, .int 1), (6, .int (faultM (mset M 24 0 0))), (5, .int (M 0 0)), (4, .int (sumsM (mset M 24 0 0) 1 0)), (3, .int (M 1 (kj 1))), (2, .int 2147483647), (0, .ref o), (1, .int (M 2 0))]) hx hb dL_refuses_75 hl (by decide) rfl (fun ls hl => ?_)
  refine lv_iload hx hb dL_refuses_77 (lv_at hl 2 rfl) ?_
  refine lv_iconst (v := 1) hx hb dL_refuses_79 (by decide) ?_
  refine lv_icmp_ne (tgt := 87) hx hb dL_refuses_80 (by decide) (fun h9 => absurd (show (1 : Int32) = 1 from (by decide)) h9) (fun _ => ?_)
  refine lv_iload_n hx hb dL_refuses_83 rfl (lv_at hl 9 rfl) ?_
  refine lv_goto (tgt := 89) hx hb dL_refuses_84 (by decide) ?_
  refine lv_istore (lv' := [(10, .int (M 2 0)), (9, .int 6), (8, .int (-2147483648)), (7, .int 1), (6, .int (faultM (mset M 24 0 0))), (5, .int (M 0 0)), (4, .int (sumsM (mset M 24 0 0) 1 0)), (3, .int (M 1 (kj 1))), (2, .int 2147483647), (0, .ref o), (1, .int (M 2 0))]) hx hb dL_refuses_89 hl (by decide) rfl (fun ls hl => ?_)
  refine lv_iload hx hb dL_refuses_91 (lv_at hl 3 rfl) ?_
  refine lv_if_ne (tgt := 100) hx hb dL_refuses_93 (by decide) (fun _ => ?_) (fun h9 => absurd h9 (show ¬ (1 : Int32) = 0 from (by decide)))
  refine lv_iload hx hb dL_refuses_100 (lv_at hl 3 rfl) ?_
  refine lv_iconst (v := 1) hx hb dL_refuses_102 (by decide) ?_
  refine lv_icmp_ne (tgt := 112) hx hb dL_refuses_103 (by decide) (fun h9 => absurd (show (1 : Int32) = 1 from (by decide)) h9) (fun _ => ?_)
  refine lv_sipush (v := 10000) hx hb dL_refuses_106 (by decide) ?_
  refine lv_goto (tgt := 114) hx hb dL_refuses_109 (by decide) ?_
  refine lv_istore (lv' := [(11, .int 10000), (10, .int (M 2 0)), (9, .int 6), (8, .int (-2147483648)), (7, .int 1), (6, .int (faultM (mset M 24 0 0))), (5, .int (M 0 0)), (4, .int (sumsM (mset M 24 0 0) 1 0)), (3, .int (M 1 (kj 1))), (2, .int 2147483647), (0, .ref o), (1, .int (M 2 0))]) hx hb dL_refuses_114 hl (by decide) rfl (fun ls hl => ?_)
  refine lv_iload hx hb dL_refuses_116 (lv_at hl 4 rfl) ?_
  refine lv_if_ne (tgt := 125) hx hb dL_refuses_118 (by decide) (fun _ => ?_) (fun h9 => absurd h9 (show ¬ (1 : Int32) = 0 from (by decide)))
  refine lv_iload hx hb dL_refuses_125 (lv_at hl 4 rfl) ?_
  refine lv_iconst (v := 1) hx hb dL_refuses_127 (by decide) ?_
  refine lv_icmp_ne (tgt := 136) hx hb dL_refuses_128 (by decide) (fun h9 => absurd (show (1 : Int32) = 1 from (by decide)) h9) (fun _ => ?_)
  refine lv_ldc hx hb hM.2.2.2.1 (hM.2.2.2.2.1 _ k_999) dL_refuses_131 ?_
  refine lv_goto (tgt := 138) hx hb dL_refuses_133 (by decide) ?_
  refine lv_istore (lv' := [(12, .int 100000), (11, .int 10000), (10, .int (M 2 0)), (9, .int 6), (8, .int (-2147483648)), (7, .int 1), (6, .int (faultM (mset M 24 0 0))), (5, .int (M 0 0)), (4, .int (sumsM (mset M 24 0 0) 1 0)), (3, .int (M 1 (kj 1))), (2, .int 2147483647), (0, .ref o), (1, .int (M 2 0))]) hx hb dL_refuses_138 hl (by decide) rfl (fun ls hl => ?_)
  refine lv_iload hx hb dL_refuses_140 (lv_at hl 5 rfl) ?_
  refine lv_if_ne (tgt := 149) hx hb dL_refuses_142 (by decide) (fun _ => ?_) (fun h9 => absurd h9 (show ¬ (1 : Int32) = 0 from (by decide)))
  refine lv_iload hx hb dL_refuses_149 (lv_at hl 5 rfl) ?_
  refine lv_iconst (v := 1) hx hb dL_refuses_151 (by decide) ?_
  refine lv_icmp_ne (tgt := 160) hx hb dL_refuses_152 (by decide) (fun h9 => absurd (show (1 : Int32) = 1 from (by decide)) h9) (fun _ => ?_)
  refine lv_bipush (v := 20) hx hb dL_refuses_155 (by decide) ?_
  refine lv_goto (tgt := 162) hx hb dL_refuses_157 (by decide) ?_
  refine lv_istore (lv' := [(13, .int 20), (12, .int 100000), (11, .int 10000), (10, .int (M 2 0)), (9, .int 6), (8, .int (-2147483648)), (7, .int 1), (6, .int (faultM (mset M 24 0 0))), (5, .int (M 0 0)), (4, .int (sumsM (mset M 24 0 0) 1 0)), (3, .int (M 1 (kj 1))), (2, .int 2147483647), (0, .ref o), (1, .int (M 2 0))]) hx hb dL_refuses_162 hl (by decide) rfl (fun ls hl => ?_)
  refine lv_aload_n hx hb dL_refuses_164 rfl (lv_at hl 12 rfl) ?_
  refine lv_iconst (v := 0) hx hb dL_refuses_165 (by decide) ?_
  refine lv_iload hx hb dL_refuses_166 (lv_at hl 4 rfl) ?_
  refine lv_iconst (v := 0) hx hb dL_refuses_168 (by decide) ?_
  refine lv_iconst (v := 0) hx hb dL_refuses_169 (by decide) ?_
  refine lv_iconst (v := 0) hx hb dL_refuses_170 (by decide) ?_
  refine lv_iconst (v := 0) hx hb dL_refuses_171 (by decide) ?_
  refine A_no_0 (q := 1) (v := (-7000001)) hfl hM hE hX hO hl (by simp) (tw_send_a (by decide)) (by decide) (by decide) ⟨Nat.le_of_ble_eq_true rfl, Nat.le_of_ble_eq_true rfl⟩ dL_refuses_172 (fun L F H locs hX hO => ?_)
  refine lv_ldc hx hb hM.2.2.2.1 (hM.2.2.2.2.1 _ k_988) dL_refuses_175 ?_
  refine lv_icmp_ne (tgt := 503) hx hb dL_refuses_177 (by decide) (fun h9 => absurd (show ((-7000001) : Int32) = (-7000001) from (by decide)) h9) (fun _ => ?_)
  refine lv_aload_n hx hb dL_refuses_180 rfl (lv_at hl 12 rfl) ?_
  refine lv_iconst (v := 0) hx hb dL_refuses_181 (by decide) ?_
  refine lv_iconst (v := 0) hx hb dL_refuses_182 (by decide) ?_
  refine lv_iload hx hb dL_refuses_183 (lv_at hl 4 rfl) ?_
  refine lv_iconst (v := 0) hx hb dL_refuses_185 (by decide) ?_
  refine lv_iconst (v := 0) hx hb dL_refuses_186 (by decide) ?_
  refine lv_iconst (v := 0) hx hb dL_refuses_187 (by decide) ?_
  refine A_no_0 (q := 1) (v := (-7000001)) hfl hM hE hX hO hl (by simp) (tw_send_b (by decide) (by decide)) (by decide) (by decide) ⟨Nat.le_of_ble_eq_true rfl, Nat.le_of_ble_eq_true rfl⟩ dL_refuses_188 (fun L F H locs hX hO => ?_)
  refine lv_ldc hx hb hM.2.2.2.1 (hM.2.2.2.2.1 _ k_988) dL_refuses_191 ?_
  refine lv_icmp_ne (tgt := 503) hx hb dL_refuses_193 (by decide) (fun h9 => absurd (show ((-7000001) : Int32) = (-7000001) from (by decide)) h9) (fun _ => ?_)
  refine lv_aload_n hx hb dL_refuses_196 rfl (lv_at hl 12 rfl) ?_
  refine lv_iconst (v := 0) hx hb dL_refuses_197 (by decide) ?_
  refine lv_iconst (v := 0) hx hb dL_refuses_198 (by decide) ?_
  refine lv_iconst (v := 0) hx hb dL_refuses_199 (by decide) ?_
  refine lv_iload hx hb dL_refuses_200 (lv_at hl 6 rfl) ?_
  refine lv_iconst (v := 1) hx hb dL_refuses_202 (by decide) ?_
  refine lv_icmp_ne (tgt := 211) hx hb dL_refuses_203 (by decide) (fun h9 => absurd (show (1 : Int32) = 1 from (by decide)) h9) (fun _ => ?_)
  refine lv_bipush (v := 8) hx hb dL_refuses_206 (by decide) ?_
  refine lv_goto (tgt := 213) hx hb dL_refuses_208 (by decide) ?_
  refine lv_iconst (v := 0) hx hb dL_refuses_213 (by decide) ?_
  refine lv_iconst (v := 0) hx hb dL_refuses_214 (by decide) ?_
  refine A_no_0 (q := 1) (v := (-7000001)) hfl hM hE hX hO hl (by simp) (tw_send_z (by decide) (by decide) (by decide)) (by decide) (by decide) ⟨Nat.le_of_ble_eq_true rfl, Nat.le_of_ble_eq_true rfl⟩ dL_refuses_215 (fun L F H locs hX hO => ?_)
  refine lv_ldc hx hb hM.2.2.2.1 (hM.2.2.2.2.1 _ k_988) dL_refuses_218 ?_
  refine lv_icmp_ne (tgt := 503) hx hb dL_refuses_220 (by decide) (fun h9 => absurd (show ((-7000001) : Int32) = (-7000001) from (by decide)) h9) (fun _ => ?_)
  refine lv_aload_n hx hb dL_refuses_223 rfl (lv_at hl 12 rfl) ?_
  refine lv_iconst (v := 0) hx hb dL_refuses_224 (by decide) ?_
  refine lv_iconst (v := 3) hx hb dL_refuses_225 (by decide) ?_
  refine lv_iconst (v := 3) hx hb dL_refuses_226 (by decide) ?_
  refine lv_iconst (v := 0) hx hb dL_refuses_227 (by decide) ?_
  refine lv_iconst (v := 1) hx hb dL_refuses_228 (by decide) ?_
  refine lv_bipush (v := 7) hx hb dL_refuses_229 (by decide) ?_
  refine A_no_0 (q := 2) (v := (-7000002)) hfl hM hE hX hO hl (by simp) (tw_send_e (by decide) (by decide) (by decide) (by decide) rfl) (by decide) (by decide) ⟨Nat.le_of_ble_eq_true rfl, Nat.le_of_ble_eq_true rfl⟩ dL_refuses_231 (fun L F H locs hX hO => ?_)
  refine lv_ldc hx hb hM.2.2.2.1 (hM.2.2.2.2.1 _ k_989) dL_refuses_234 ?_
  refine lv_icmp_ne (tgt := 503) hx hb dL_refuses_236 (by decide) (fun h9 => absurd (show ((-7000002) : Int32) = (-7000002) from (by decide)) h9) (fun _ => ?_)
  refine lv_aload_n hx hb dL_refuses_239 rfl (lv_at hl 12 rfl) ?_
  refine lv_iconst (v := 0) hx hb dL_refuses_240 (by decide) ?_
  refine lv_iconst (v := 0) hx hb dL_refuses_241 (by decide) ?_
  refine lv_iconst (v := 1) hx hb dL_refuses_242 (by decide) ?_
  refine lv_iconst (v := 0) hx hb dL_refuses_243 (by decide) ?_
  refine lv_iload hx hb dL_refuses_244 (lv_at hl 2 rfl) ?_
  refine lv_bipush (v := 7) hx hb dL_refuses_246 (by decide) ?_
  refine A_no_0 (q := 2) (v := (-7000002)) hfl hM hE hX hO hl (by simp) (tw_send_q (by decide) (by decide) (by decide) (by decide)) (by decide) (by decide) ⟨Nat.le_of_ble_eq_true rfl, Nat.le_of_ble_eq_true rfl⟩ dL_refuses_248 (fun L F H locs hX hO => ?_)
  refine lv_ldc hx hb hM.2.2.2.1 (hM.2.2.2.2.1 _ k_989) dL_refuses_251 ?_
  refine lv_icmp_ne (tgt := 503) hx hb dL_refuses_253 (by decide) (fun h9 => absurd (show ((-7000002) : Int32) = (-7000002) from (by decide)) h9) (fun _ => ?_)
  refine lv_aload_n hx hb dL_refuses_256 rfl (lv_at hl 12 rfl) ?_
  refine lv_iconst (v := 0) hx hb dL_refuses_257 (by decide) ?_
  refine lv_iconst (v := 0) hx hb dL_refuses_258 (by decide) ?_
  refine lv_iconst (v := 1) hx hb dL_refuses_259 (by decide) ?_
  refine lv_iconst (v := 0) hx hb dL_refuses_260 (by decide) ?_
  refine lv_iconst (v := 1) hx hb dL_refuses_261 (by decide) ?_
  refine lv_iload hx hb dL_refuses_262 (lv_at hl 0 rfl) ?_
  refine A_no_0 (q := 2) (v := (-7000002)) hfl hM hE hX hO hl (by simp) (tw_send_q (by decide) (by decide) (by decide) (by decide)) (by decide) (by decide) ⟨Nat.le_of_ble_eq_true rfl, Nat.le_of_ble_eq_true rfl⟩ dL_refuses_264 (fun L F H locs hX hO => ?_)
  refine lv_ldc hx hb hM.2.2.2.1 (hM.2.2.2.2.1 _ k_989) dL_refuses_267 ?_
  refine lv_icmp_ne (tgt := 503) hx hb dL_refuses_269 (by decide) (fun h9 => absurd (show ((-7000002) : Int32) = (-7000002) from (by decide)) h9) (fun _ => ?_)
  refine lv_aload_n hx hb dL_refuses_272 rfl (lv_at hl 12 rfl) ?_
  refine lv_iconst (v := 1) hx hb dL_refuses_273 (by decide) ?_
  refine lv_iload hx hb dL_refuses_274 (lv_at hl 3 rfl) ?_
  refine lv_iconst (v := 0) hx hb dL_refuses_276 (by decide) ?_
  refine lv_iconst (v := 0) hx hb dL_refuses_277 (by decide) ?_
  refine lv_iconst (v := 0) hx hb dL_refuses_278 (by decide) ?_
  refine lv_iconst (v := 0) hx hb dL_refuses_279 (by decide) ?_
  refine A_no_1 (q := 1) (v := (-7000001)) hfl hM hE hX hO hl (by simp) (tw_addLine_i (ib_inv hI)) (by decide) (by decide) ⟨Nat.le_of_ble_eq_true rfl, Nat.le_of_ble_eq_true rfl⟩ dL_refuses_280 (fun L F H locs hX hO => ?_)
  refine lv_ldc hx hb hM.2.2.2.1 (hM.2.2.2.2.1 _ k_988) dL_refuses_283 ?_
  refine lv_icmp_ne (tgt := 503) hx hb dL_refuses_285 (by decide) (fun h9 => absurd (show ((-7000001) : Int32) = (-7000001) from (by decide)) h9) (fun _ => ?_)
  refine lv_aload_n hx hb dL_refuses_288 rfl (lv_at hl 12 rfl) ?_
  refine lv_iconst (v := 2) hx hb dL_refuses_289 (by decide) ?_
  refine lv_iload hx hb dL_refuses_290 (lv_at hl 3 rfl) ?_
  refine lv_iconst (v := 0) hx hb dL_refuses_292 (by decide) ?_
  refine lv_iconst (v := 0) hx hb dL_refuses_293 (by decide) ?_
  refine lv_iconst (v := 0) hx hb dL_refuses_294 (by decide) ?_
  refine lv_iconst (v := 0) hx hb dL_refuses_295 (by decide) ?_
  refine A_no_2 (q := 1) (v := (-7000001)) hfl hM hE hX hO hl (by simp) (tw_accept_i (ib_inv hI)) (by decide) (by decide) ⟨Nat.le_of_ble_eq_true rfl, Nat.le_of_ble_eq_true rfl⟩ dL_refuses_296 (fun L F H locs hX hO => ?_)
  refine lv_ldc hx hb hM.2.2.2.1 (hM.2.2.2.2.1 _ k_988) dL_refuses_299 ?_
  refine lv_icmp_ne (tgt := 503) hx hb dL_refuses_301 (by decide) (fun h9 => absurd (show ((-7000001) : Int32) = (-7000001) from (by decide)) h9) (fun _ => ?_)
  refine lv_aload_n hx hb dL_refuses_304 rfl (lv_at hl 12 rfl) ?_
  refine lv_iconst (v := 3) hx hb dL_refuses_305 (by decide) ?_
  refine lv_iload hx hb dL_refuses_306 (lv_at hl 3 rfl) ?_
  refine lv_iconst (v := 0) hx hb dL_refuses_308 (by decide) ?_
  refine lv_iconst (v := 0) hx hb dL_refuses_309 (by decide) ?_
  refine lv_iconst (v := 0) hx hb dL_refuses_310 (by decide) ?_
  refine lv_iconst (v := 0) hx hb dL_refuses_311 (by decide) ?_
  refine A_no_3 (q := 1) (v := (-7000001)) hfl hM hE hX hO hl (by simp) (tw_refuse_i (ib_inv hI)) (by decide) (by decide) ⟨Nat.le_of_ble_eq_true rfl, Nat.le_of_ble_eq_true rfl⟩ dL_refuses_312 (fun L F H locs hX hO => ?_)
  refine lv_ldc hx hb hM.2.2.2.1 (hM.2.2.2.2.1 _ k_988) dL_refuses_315 ?_
  refine lv_icmp_ne (tgt := 503) hx hb dL_refuses_317 (by decide) (fun h9 => absurd (show ((-7000001) : Int32) = (-7000001) from (by decide)) h9) (fun _ => ?_)
  refine lv_aload_n hx hb dL_refuses_320 rfl (lv_at hl 12 rfl) ?_
  refine lv_iconst (v := 4) hx hb dL_refuses_321 (by decide) ?_
  refine lv_iload hx hb dL_refuses_322 (lv_at hl 3 rfl) ?_
  refine lv_iconst (v := 0) hx hb dL_refuses_324 (by decide) ?_
  refine lv_iconst (v := 0) hx hb dL_refuses_325 (by decide) ?_
  refine lv_iconst (v := 0) hx hb dL_refuses_326 (by decide) ?_
  refine lv_iconst (v := 0) hx hb dL_refuses_327 (by decide) ?_
  refine A_no_4 (q := 1) (v := (-7000001)) hfl hM hE hX hO hl (by simp) (tw_credit_i (fun h9 => (ib_inv hI) h9.1)) (by decide) (by decide) ⟨Nat.le_of_ble_eq_true rfl, Nat.le_of_ble_eq_true rfl⟩ dL_refuses_328 (fun L F H locs hX hO => ?_)
  refine lv_ldc hx hb hM.2.2.2.1 (hM.2.2.2.2.1 _ k_988) dL_refuses_331 ?_
  refine lv_icmp_ne (tgt := 503) hx hb dL_refuses_333 (by decide) (fun h9 => absurd (show ((-7000001) : Int32) = (-7000001) from (by decide)) h9) (fun _ => ?_)
  refine lv_aload_n hx hb dL_refuses_336 rfl (lv_at hl 12 rfl) ?_
  refine lv_iconst (v := 4) hx hb dL_refuses_337 (by decide) ?_
  refine lv_iconst (v := 0) hx hb dL_refuses_338 (by decide) ?_
  refine lv_iload hx hb dL_refuses_339 (lv_at hl 6 rfl) ?_
  refine lv_iconst (v := 1) hx hb dL_refuses_341 (by decide) ?_
  refine lv_icmp_ne (tgt := 349) hx hb dL_refuses_342 (by decide) (fun h9 => absurd (show (1 : Int32) = 1 from (by decide)) h9) (fun _ => ?_)
  refine lv_iconst (v := 3) hx hb dL_refuses_345 (by decide) ?_
  refine lv_goto (tgt := 351) hx hb dL_refuses_346 (by decide) ?_
  refine lv_iconst (v := 0) hx hb dL_refuses_351 (by decide) ?_
  refine lv_iconst (v := 0) hx hb dL_refuses_352 (by decide) ?_
  refine lv_iconst (v := 0) hx hb dL_refuses_353 (by decide) ?_
  refine A_no_4 (q := 1) (v := (-7000001)) hfl hM hE hX hO hl (by simp) (tw_credit_i (fun h9 => (lb_3 hI (kj 0)) h9.2)) (by decide) (by decide) ⟨Nat.le_of_ble_eq_true rfl, Nat.le_of_ble_eq_true rfl⟩ dL_refuses_354 (fun L F H locs hX hO => ?_)
  refine lv_ldc hx hb hM.2.2.2.1 (hM.2.2.2.2.1 _ k_988) dL_refuses_357 ?_
  refine lv_icmp_ne (tgt := 503) hx hb dL_refuses_359 (by decide) (fun h9 => absurd (show ((-7000001) : Int32) = (-7000001) from (by decide)) h9) (fun _ => ?_)
  refine lv_aload_n hx hb dL_refuses_362 rfl (lv_at hl 12 rfl) ?_
  refine lv_iconst (v := 5) hx hb dL_refuses_363 (by decide) ?_
  refine lv_iload hx hb dL_refuses_364 (lv_at hl 3 rfl) ?_
  refine lv_iconst (v := 0) hx hb dL_refuses_366 (by decide) ?_
  refine lv_iconst (v := 0) hx hb dL_refuses_367 (by decide) ?_
  refine lv_iconst (v := 0) hx hb dL_refuses_368 (by decide) ?_
  refine lv_iconst (v := 0) hx hb dL_refuses_369 (by decide) ?_
  refine A_no_5 (q := 1) (v := (-7000001)) hfl hM hE hX hO hl (by simp) (tw_dispute_i (fun h9 => (ib_inv hI) h9.1)) (by decide) (by decide) ⟨Nat.le_of_ble_eq_true rfl, Nat.le_of_ble_eq_true rfl⟩ dL_refuses_370 (fun L F H locs hX hO => ?_)
  refine lv_ldc hx hb hM.2.2.2.1 (hM.2.2.2.2.1 _ k_988) dL_refuses_373 ?_
  refine lv_icmp_ne (tgt := 503) hx hb dL_refuses_375 (by decide) (fun h9 => absurd (show ((-7000001) : Int32) = (-7000001) from (by decide)) h9) (fun _ => ?_)
  refine lv_aload_n hx hb dL_refuses_378 rfl (lv_at hl 12 rfl) ?_
  refine lv_iconst (v := 5) hx hb dL_refuses_379 (by decide) ?_
  refine lv_iconst (v := 0) hx hb dL_refuses_380 (by decide) ?_
  refine lv_iload hx hb dL_refuses_381 (lv_at hl 6 rfl) ?_
  refine lv_iconst (v := 1) hx hb dL_refuses_383 (by decide) ?_
  refine lv_icmp_ne (tgt := 391) hx hb dL_refuses_384 (by decide) (fun h9 => absurd (show (1 : Int32) = 1 from (by decide)) h9) (fun _ => ?_)
  refine lv_iconst (v := 3) hx hb dL_refuses_387 (by decide) ?_
  refine lv_goto (tgt := 393) hx hb dL_refuses_388 (by decide) ?_
  refine lv_iconst (v := 0) hx hb dL_refuses_393 (by decide) ?_
  refine lv_iconst (v := 0) hx hb dL_refuses_394 (by decide) ?_
  refine lv_iconst (v := 0) hx hb dL_refuses_395 (by decide) ?_
  refine A_no_5 (q := 1) (v := (-7000001)) hfl hM hE hX hO hl (by simp) (tw_dispute_i (fun h9 => (lb_3 hI (kj 0)) h9.2)) (by decide) (by decide) ⟨Nat.le_of_ble_eq_true rfl, Nat.le_of_ble_eq_true rfl⟩ dL_refuses_396 (fun L F H locs hX hO => ?_)
  refine lv_ldc hx hb hM.2.2.2.1 (hM.2.2.2.2.1 _ k_988) dL_refuses_399 ?_
  refine lv_icmp_ne (tgt := 503) hx hb dL_refuses_401 (by decide) (fun h9 => absurd (show ((-7000001) : Int32) = (-7000001) from (by decide)) h9) (fun _ => ?_)
  refine lv_aload_n hx hb dL_refuses_404 rfl (lv_at hl 12 rfl) ?_
  refine lv_bipush (v := 6) hx hb dL_refuses_405 (by decide) ?_
  refine lv_iload hx hb dL_refuses_407 (lv_at hl 3 rfl) ?_
  refine lv_iconst (v := 0) hx hb dL_refuses_409 (by decide) ?_
  refine lv_iconst (v := 0) hx hb dL_refuses_410 (by decide) ?_
  refine lv_iconst (v := 0) hx hb dL_refuses_411 (by decide) ?_
  refine lv_iconst (v := 0) hx hb dL_refuses_412 (by decide) ?_
  refine A_no_6 (q := 1) (v := (-7000001)) hfl hM hE hX hO hl (by simp) (tw_settle_i (fun h9 => (ib_inv hI) h9.1)) (by decide) (by decide) ⟨Nat.le_of_ble_eq_true rfl, Nat.le_of_ble_eq_true rfl⟩ dL_refuses_413 (fun L F H locs hX hO => ?_)
  refine lv_ldc hx hb hM.2.2.2.1 (hM.2.2.2.2.1 _ k_988) dL_refuses_416 ?_
  refine lv_icmp_ne (tgt := 503) hx hb dL_refuses_418 (by decide) (fun h9 => absurd (show ((-7000001) : Int32) = (-7000001) from (by decide)) h9) (fun _ => ?_)
  refine lv_aload_n hx hb dL_refuses_421 rfl (lv_at hl 12 rfl) ?_
  refine lv_bipush (v := 6) hx hb dL_refuses_422 (by decide) ?_
  refine lv_iconst (v := 0) hx hb dL_refuses_424 (by decide) ?_
  refine lv_iload hx hb dL_refuses_425 (lv_at hl 6 rfl) ?_
  refine lv_iconst (v := 1) hx hb dL_refuses_427 (by decide) ?_
  refine lv_icmp_ne (tgt := 435) hx hb dL_refuses_428 (by decide) (fun h9 => absurd (show (1 : Int32) = 1 from (by decide)) h9) (fun _ => ?_)
  refine lv_iconst (v := 3) hx hb dL_refuses_431 (by decide) ?_
  refine lv_goto (tgt := 437) hx hb dL_refuses_432 (by decide) ?_
  refine lv_iconst (v := 0) hx hb dL_refuses_437 (by decide) ?_
  refine lv_iconst (v := 0) hx hb dL_refuses_438 (by decide) ?_
  refine lv_iconst (v := 0) hx hb dL_refuses_439 (by decide) ?_
  refine A_no_6 (q := 1) (v := (-7000001)) hfl hM hE hX hO hl (by simp) (tw_settle_i (fun h9 => (lb_3 hI (kj 0)) h9.2)) (by decide) (by decide) ⟨Nat.le_of_ble_eq_true rfl, Nat.le_of_ble_eq_true rfl⟩ dL_refuses_440 (fun L F H locs hX hO => ?_)
  refine lv_ldc hx hb hM.2.2.2.1 (hM.2.2.2.2.1 _ k_988) dL_refuses_443 ?_
  refine lv_icmp_ne (tgt := 503) hx hb dL_refuses_445 (by decide) (fun h9 => absurd (show ((-7000001) : Int32) = (-7000001) from (by decide)) h9) (fun _ => ?_)
  refine lv_aload_n hx hb dL_refuses_448 rfl (lv_at hl 12 rfl) ?_
  refine lv_bipush (v := 7) hx hb dL_refuses_449 (by decide) ?_
  refine lv_iload hx hb dL_refuses_451 (lv_at hl 3 rfl) ?_
  refine lv_iconst (v := 0) hx hb dL_refuses_453 (by decide) ?_
  refine lv_iconst (v := 0) hx hb dL_refuses_454 (by decide) ?_
  refine lv_iconst (v := 0) hx hb dL_refuses_455 (by decide) ?_
  refine lv_iconst (v := 0) hx hb dL_refuses_456 (by decide) ?_
  refine A_no_7 (q := 1) (v := (-7000001)) hfl hM hE hX hO hl hn (by simp) (tw_sell_i (ib_inv hI)) (by decide) (by decide) ⟨Nat.le_of_ble_eq_true rfl, Nat.le_of_ble_eq_true rfl⟩ dL_refuses_457 (fun L F H locs hX hO => ?_)
  refine lv_ldc hx hb hM.2.2.2.1 (hM.2.2.2.2.1 _ k_988) dL_refuses_460 ?_
  refine lv_icmp_ne (tgt := 503) hx hb dL_refuses_462 (by decide) (fun h9 => absurd (show ((-7000001) : Int32) = (-7000001) from (by decide)) h9) (fun _ => ?_)
  refine lv_aload_n hx hb dL_refuses_465 rfl (lv_at hl 12 rfl) ?_
  refine lv_bipush (v := 7) hx hb dL_refuses_466 (by decide) ?_
  refine lv_iconst (v := 0) hx hb dL_refuses_468 (by decide) ?_
  refine lv_iload hx hb dL_refuses_469 (lv_at hl 4 rfl) ?_
  refine lv_iconst (v := 0) hx hb dL_refuses_471 (by decide) ?_
  refine lv_iconst (v := 0) hx hb dL_refuses_472 (by decide) ?_
  refine lv_iconst (v := 0) hx hb dL_refuses_473 (by decide) ?_
  refine A_no_7 (q := 1) (v := (-7000001)) hfl hM hE hX hO hl hn (by simp) (tw_sell_c (by decide)) (by decide) (by decide) ⟨Nat.le_of_ble_eq_true rfl, Nat.le_of_ble_eq_true rfl⟩ dL_refuses_474 (fun L F H locs hX hO => ?_)
  refine lv_ldc hx hb hM.2.2.2.1 (hM.2.2.2.2.1 _ k_988) dL_refuses_477 ?_
  refine lv_icmp_ne (tgt := 503) hx hb dL_refuses_479 (by decide) (fun h9 => absurd (show ((-7000001) : Int32) = (-7000001) from (by decide)) h9) (fun _ => ?_)
  refine lv_aload_n hx hb dL_refuses_482 rfl (lv_at hl 12 rfl) ?_
  refine lv_bipush (v := 8) hx hb dL_refuses_483 (by decide) ?_
  refine lv_iload hx hb dL_refuses_485 (lv_at hl 3 rfl) ?_
  refine lv_iconst (v := 0) hx hb dL_refuses_487 (by decide) ?_
  refine lv_iconst (v := 0) hx hb dL_refuses_488 (by decide) ?_
  refine lv_iconst (v := 0) hx hb dL_refuses_489 (by decide) ?_
  refine lv_iconst (v := 0) hx hb dL_refuses_490 (by decide) ?_
  refine A_no_8 (q := 1) (v := (-7000001)) hfl hM hE hX hO hl hn (by simp) (tw_giveBack_i (ib_inv hI)) (by decide) (by decide) ⟨Nat.le_of_ble_eq_true rfl, Nat.le_of_ble_eq_true rfl⟩ dL_refuses_491 (fun L F H locs hX hO => ?_)
  refine lv_ldc hx hb hM.2.2.2.1 (hM.2.2.2.2.1 _ k_988) dL_refuses_494 ?_
  refine lv_icmp_ne (tgt := 503) hx hb dL_refuses_496 (by decide) (fun h9 => absurd (show ((-7000001) : Int32) = (-7000001) from (by decide)) h9) (fun _ => ?_)
  refine lv_iconst (v := 1) hx hb dL_refuses_499 (by decide) ?_
  refine lv_goto (tgt := 504) hx hb dL_refuses_500 (by decide) ?_
  refine lv_istore (lv' := [(14, .int 1), (13, .int 20), (12, .int 100000), (11, .int 10000), (10, .int (M 2 0)), (9, .int 6), (8, .int (-2147483648)), (7, .int 1), (6, .int (faultM (mset M 24 0 0))), (5, .int (M 0 0)), (4, .int (sumsM (mset M 24 0 0) 1 0)), (3, .int (M 1 (kj 1))), (2, .int 2147483647), (0, .ref o), (1, .int (M 2 0))]) hx hb dL_refuses_504 hl (by decide) rfl (fun ls hl => ?_)
  exact W.widen (k := 490) (n := 69348) (Nat.le_of_ble_eq_true rfl) (Nat.le_of_ble_eq_true rfl) (kk L F H locs ls hX hO hl)
set_option maxHeartbeats 8000000 in
set_option maxRecDepth 100000 in
theorem rf_1_2 (hfl : l.stackTraces = false) (hM : kM p s m args meth c cL_refuses 15 ret "InvoicebridgeLaw") (hE : kE γ A s) (hX : kX γ A s L F H locs) (hO : Ob γ o M n L F) (hn : n < 512) (hl : lv_has ls 15 [(14, .int 1), (13, .int 20), (12, .int 100000), (11, .int 10000), (10, .int (M 2 0)), (9, .int 6), (8, .int (-2147483648)), (7, .int 1), (6, .int (faultM (mset M 24 0 0))), (5, .int (M 0 0)), (4, .int (sumsM (mset M 24 0 0) 1 0)), (3, .int (M 1 (kj 1))), (2, .int 2147483647), (0, .ref o), (1, .int (M 2 0))])
    (kk : ∀ (L : List Nat) (F : kF) (H : Heap) (locs : List Loc) (ls : Array Slot), kX γ A s L F H locs → Ob γ o M n L F → lv_has ls 15 [(14, .int 1), (13, .int 20), (12, .int 100000), (11, .int 10000), (10, .int (M 2 0)), (9, .int 6), (8, .int (-2147483648)), (7, .int 1), (6, .int (faultM (mset M 24 0 0))), (5, .int (M 0 0)), (4, .int (sumsM (mset M 24 0 0) 1 0)), (3, .int (M 1 (kj 1))), (2, .int 2147483647), (0, .ref o), (1, .int (M 2 0))] → W p l e (kRm 10 1242 169940) s m args below meth c H locs 573 78310 Q (F0 m 987 ls [])) : W p l e (kRm 10 1242 169940) s m args below meth c H locs 490 69348 Q (F0 m 506 ls []) := by
  have hx := hM.1
  have hb := hM.2.1
  obtain ⟨nd9, D9, hI⟩ := hO.inv
  refine lv_iload hx hb dL_refuses_506 (lv_at hl 0 rfl) ?_
  refine lv_if_eq (tgt := 984) hx hb dL_refuses_508 (by decide) (fun h9 => absurd h9 (show ¬ (1 : Int32) = 0 from (by decide))) (fun _ => ?_)
  refine lv_aload_n hx hb dL_refuses_511 rfl (lv_at hl 13 rfl) ?_
  refine lv_bipush (v := 9) hx hb dL_refuses_512 (by decide) ?_
  refine lv_iload hx hb dL_refuses_514 (lv_at hl 7 rfl) ?_
  refine lv_if_ne (tgt := 524) hx hb dL_refuses_516 (by decide) (fun _ => ?_) (fun h9 => absurd h9 (show ¬ (1 : Int32) = 0 from (by decide)))
  refine lv_iload hx hb dL_refuses_524 (lv_at hl 7 rfl) ?_
  refine lv_iconst (v := 1) hx hb dL_refuses_526 (by decide) ?_
  refine lv_icmp_ne (tgt := 535) hx hb dL_refuses_527 (by decide) (fun h9 => absurd (show (1 : Int32) = 1 from (by decide)) h9) (fun _ => ?_)
  refine lv_bipush (v := 127) hx hb dL_refuses_530 (by decide) ?_
  refine lv_goto (tgt := 537) hx hb dL_refuses_532 (by decide) ?_
  refine lv_iconst (v := 0) hx hb dL_refuses_537 (by decide) ?_
  refine lv_iconst (v := 0) hx hb dL_refuses_538 (by decide) ?_
  refine lv_iconst (v := 0) hx hb dL_refuses_539 (by decide) ?_
  refine lv_iconst (v := 0) hx hb dL_refuses_540 (by decide) ?_
  refine A_no_9 (q := 1) (v := (-7000002)) hfl hM hE hX hO hl (by simp) (tw_type (by decide)) (by decide) (by decide) ⟨Nat.le_of_ble_eq_true rfl, Nat.le_of_ble_eq_true rfl⟩ dL_refuses_541 (fun L F H locs hX hO => ?_)
  refine lv_ldc hx hb hM.2.2.2.1 (hM.2.2.2.2.1 _ k_989) dL_refuses_544 ?_
  refine lv_icmp_ne (tgt := 984) hx hb dL_refuses_546 (by decide) (fun h9 => absurd (show ((-7000002) : Int32) = (-7000002) from (by decide)) h9) (fun _ => ?_)
  refine lv_aload_n hx hb dL_refuses_549 rfl (lv_at hl 13 rfl) ?_
  refine lv_bipush (v := 10) hx hb dL_refuses_550 (by decide) ?_
  refine lv_iload hx hb dL_refuses_552 (lv_at hl 5 rfl) ?_
  refine lv_iconst (v := 0) hx hb dL_refuses_554 (by decide) ?_
  refine lv_iconst (v := 0) hx hb dL_refuses_555 (by decide) ?_
  refine lv_iconst (v := 0) hx hb dL_refuses_556 (by decide) ?_
  refine lv_iconst (v := 0) hx hb dL_refuses_557 (by decide) ?_
  refine A_no_10 (q := 1) (v := (-7000001)) hfl hM hE hX hO hl hn (by simp) (tw_payText (k := 1) (by decide) (by decide)) (by decide) (by decide) ⟨Nat.le_of_ble_eq_true rfl, Nat.le_of_ble_eq_true rfl⟩ dL_refuses_558 (fun L F H locs hX hO => ?_)
  refine lv_ldc hx hb hM.2.2.2.1 (hM.2.2.2.2.1 _ k_988) dL_refuses_561 ?_
  refine lv_icmp_ne (tgt := 984) hx hb dL_refuses_563 (by decide) (fun h9 => absurd (show ((-7000001) : Int32) = (-7000001) from (by decide)) h9) (fun _ => ?_)
  refine lv_aload_n hx hb dL_refuses_566 rfl (lv_at hl 13 rfl) ?_
  refine lv_bipush (v := 10) hx hb dL_refuses_567 (by decide) ?_
  refine lv_iconst (v := 0) hx hb dL_refuses_569 (by decide) ?_
  refine lv_iload hx hb dL_refuses_570 (lv_at hl 5 rfl) ?_
  refine lv_iconst (v := 0) hx hb dL_refuses_572 (by decide) ?_
  refine lv_iconst (v := 0) hx hb dL_refuses_573 (by decide) ?_
  refine lv_iconst (v := 0) hx hb dL_refuses_574 (by decide) ?_
  refine A_no_10 (q := 1) (v := (-7000001)) hfl hM hE hX hO hl hn (by simp) (tw_payText (k := 1) (by decide) (by decide)) (by decide) (by decide) ⟨Nat.le_of_ble_eq_true rfl, Nat.le_of_ble_eq_true rfl⟩ dL_refuses_575 (fun L F H locs hX hO => ?_)
  refine lv_ldc hx hb hM.2.2.2.1 (hM.2.2.2.2.1 _ k_988) dL_refuses_578 ?_
  refine lv_icmp_ne (tgt := 984) hx hb dL_refuses_580 (by decide) (fun h9 => absurd (show ((-7000001) : Int32) = (-7000001) from (by decide)) h9) (fun _ => ?_)
  refine lv_aload_n hx hb dL_refuses_583 rfl (lv_at hl 13 rfl) ?_
  refine lv_bipush (v := 10) hx hb dL_refuses_584 (by decide) ?_
  refine lv_iconst (v := 0) hx hb dL_refuses_586 (by decide) ?_
  refine lv_iconst (v := 1) hx hb dL_refuses_587 (by decide) ?_
  refine lv_iload hx hb dL_refuses_588 (lv_at hl 2 rfl) ?_
  refine lv_iconst (v := 0) hx hb dL_refuses_590 (by decide) ?_
  refine lv_iconst (v := 0) hx hb dL_refuses_591 (by decide) ?_
  refine A_no_10 (q := 2) (v := (-7000002)) hfl hM hE hX hO hl hn (by simp) (tw_payText (k := 2) (by decide) (by decide)) (by decide) (by decide) ⟨Nat.le_of_ble_eq_true rfl, Nat.le_of_ble_eq_true rfl⟩ dL_refuses_592 (fun L F H locs hX hO => ?_)
  refine lv_ldc hx hb hM.2.2.2.1 (hM.2.2.2.2.1 _ k_989) dL_refuses_595 ?_
  refine lv_icmp_ne (tgt := 984) hx hb dL_refuses_597 (by decide) (fun h9 => absurd (show ((-7000002) : Int32) = (-7000002) from (by decide)) h9) (fun _ => ?_)
  refine lv_aload_n hx hb dL_refuses_600 rfl (lv_at hl 13 rfl) ?_
  refine lv_bipush (v := 10) hx hb dL_refuses_601 (by decide) ?_
  refine lv_iconst (v := 2) hx hb dL_refuses_603 (by decide) ?_
  refine lv_iconst (v := 2) hx hb dL_refuses_604 (by decide) ?_
  refine lv_iconst (v := 5) hx hb dL_refuses_605 (by decide) ?_
  refine lv_iconst (v := 0) hx hb dL_refuses_606 (by decide) ?_
  refine lv_iconst (v := 0) hx hb dL_refuses_607 (by decide) ?_
  refine A_no_10 (q := 2) (v := (-7000002)) hfl hM hE hX hO hl hn (by simp) (tw_payText (k := 2) (by decide) (by decide)) (by decide) (by decide) ⟨Nat.le_of_ble_eq_true rfl, Nat.le_of_ble_eq_true rfl⟩ dL_refuses_608 (fun L F H locs hX hO => ?_)
  refine lv_ldc hx hb hM.2.2.2.1 (hM.2.2.2.2.1 _ k_989) dL_refuses_611 ?_
  refine lv_icmp_ne (tgt := 984) hx hb dL_refuses_613 (by decide) (fun h9 => absurd (show ((-7000002) : Int32) = (-7000002) from (by decide)) h9) (fun _ => ?_)
  refine lv_aload_n hx hb dL_refuses_616 rfl (lv_at hl 13 rfl) ?_
  refine lv_bipush (v := 11) hx hb dL_refuses_617 (by decide) ?_
  refine lv_iload hx hb dL_refuses_619 (lv_at hl 5 rfl) ?_
  refine lv_iconst (v := 0) hx hb dL_refuses_621 (by decide) ?_
  refine lv_iconst (v := 0) hx hb dL_refuses_622 (by decide) ?_
  refine lv_iconst (v := 0) hx hb dL_refuses_623 (by decide) ?_
  refine lv_iconst (v := 0) hx hb dL_refuses_624 (by decide) ?_
  refine A_no_11 (q := 1) (v := (-7000001)) hfl hM hE hX hO hl hn (by simp) (tw_paySum (k := 1) (by decide) (by decide)) (by decide) (by decide) ⟨Nat.le_of_ble_eq_true rfl, Nat.le_of_ble_eq_true rfl⟩ dL_refuses_625 (fun L F H locs hX hO => ?_)
  refine lv_ldc hx hb hM.2.2.2.1 (hM.2.2.2.2.1 _ k_988) dL_refuses_628 ?_
  refine lv_icmp_ne (tgt := 984) hx hb dL_refuses_630 (by decide) (fun h9 => absurd (show ((-7000001) : Int32) = (-7000001) from (by decide)) h9) (fun _ => ?_)
  refine lv_aload_n hx hb dL_refuses_633 rfl (lv_at hl 13 rfl) ?_
  refine lv_bipush (v := 11) hx hb dL_refuses_634 (by decide) ?_
  refine lv_iconst (v := 0) hx hb dL_refuses_636 (by decide) ?_
  refine lv_iload hx hb dL_refuses_637 (lv_at hl 5 rfl) ?_
  refine lv_iconst (v := 0) hx hb dL_refuses_639 (by decide) ?_
  refine lv_iconst (v := 0) hx hb dL_refuses_640 (by decide) ?_
  refine lv_iconst (v := 0) hx hb dL_refuses_641 (by decide) ?_
  refine A_no_11 (q := 1) (v := (-7000001)) hfl hM hE hX hO hl hn (by simp) (tw_paySum (k := 1) (by decide) (by decide)) (by decide) (by decide) ⟨Nat.le_of_ble_eq_true rfl, Nat.le_of_ble_eq_true rfl⟩ dL_refuses_642 (fun L F H locs hX hO => ?_)
  refine lv_ldc hx hb hM.2.2.2.1 (hM.2.2.2.2.1 _ k_988) dL_refuses_645 ?_
  refine lv_icmp_ne (tgt := 984) hx hb dL_refuses_647 (by decide) (fun h9 => absurd (show ((-7000001) : Int32) = (-7000001) from (by decide)) h9) (fun _ => ?_)
  refine lv_aload_n hx hb dL_refuses_650 rfl (lv_at hl 13 rfl) ?_
  refine lv_bipush (v := 11) hx hb dL_refuses_651 (by decide) ?_
  refine lv_iconst (v := 0) hx hb dL_refuses_653 (by decide) ?_
  refine lv_iconst (v := 1) hx hb dL_refuses_654 (by decide) ?_
  refine lv_iload hx hb dL_refuses_655 (lv_at hl 2 rfl) ?_
  refine lv_iconst (v := 0) hx hb dL_refuses_657 (by decide) ?_
  refine lv_iconst (v := 0) hx hb dL_refuses_658 (by decide) ?_
  refine A_no_11 (q := 2) (v := (-7000002)) hfl hM hE hX hO hl hn (by simp) (tw_paySum (k := 2) (by decide) (by decide)) (by decide) (by decide) ⟨Nat.le_of_ble_eq_true rfl, Nat.le_of_ble_eq_true rfl⟩ dL_refuses_659 (fun L F H locs hX hO => ?_)
  refine lv_ldc hx hb hM.2.2.2.1 (hM.2.2.2.2.1 _ k_989) dL_refuses_662 ?_
  refine lv_icmp_ne (tgt := 984) hx hb dL_refuses_664 (by decide) (fun h9 => absurd (show ((-7000002) : Int32) = (-7000002) from (by decide)) h9) (fun _ => ?_)
  refine lv_aload_n hx hb dL_refuses_667 rfl (lv_at hl 13 rfl) ?_
  refine lv_bipush (v := 11) hx hb dL_refuses_668 (by decide) ?_
  refine lv_iconst (v := 2) hx hb dL_refuses_670 (by decide) ?_
  refine lv_iconst (v := 2) hx hb dL_refuses_671 (by decide) ?_
  refine lv_iconst (v := 5) hx hb dL_refuses_672 (by decide) ?_
  refine lv_iconst (v := 0) hx hb dL_refuses_673 (by decide) ?_
  refine lv_iconst (v := 0) hx hb dL_refuses_674 (by decide) ?_
  refine A_no_11 (q := 2) (v := (-7000002)) hfl hM hE hX hO hl hn (by simp) (tw_paySum (k := 2) (by decide) (by decide)) (by decide) (by decide) ⟨Nat.le_of_ble_eq_true rfl, Nat.le_of_ble_eq_true rfl⟩ dL_refuses_675 (fun L F H locs hX hO => ?_)
  refine lv_ldc hx hb hM.2.2.2.1 (hM.2.2.2.2.1 _ k_989) dL_refuses_678 ?_
  refine lv_icmp_ne (tgt := 984) hx hb dL_refuses_680 (by decide) (fun h9 => absurd (show ((-7000002) : Int32) = (-7000002) from (by decide)) h9) (fun _ => ?_)
  refine lv_aload_n hx hb dL_refuses_683 rfl (lv_at hl 13 rfl) ?_
  refine lv_bipush (v := 12) hx hb dL_refuses_684 (by decide) ?_
  refine lv_iload hx hb dL_refuses_686 (lv_at hl 7 rfl) ?_
  refine lv_if_ne (tgt := 695) hx hb dL_refuses_688 (by decide) (fun _ => ?_) (fun h9 => absurd h9 (show ¬ (1 : Int32) = 0 from (by decide)))
  refine lv_iload hx hb dL_refuses_695 (lv_at hl 7 rfl) ?_
  refine lv_iconst (v := 1) hx hb dL_refuses_697 (by decide) ?_
  refine lv_icmp_ne (tgt := 706) hx hb dL_refuses_698 (by decide) (fun h9 => absurd (show (1 : Int32) = 1 from (by decide)) h9) (fun _ => ?_)
  refine lv_bipush (v := 61) hx hb dL_refuses_701 (by decide) ?_
  refine lv_goto (tgt := 708) hx hb dL_refuses_703 (by decide) ?_
  refine lv_iconst (v := 0) hx hb dL_refuses_708 (by decide) ?_
  refine lv_iconst (v := 0) hx hb dL_refuses_709 (by decide) ?_
  refine lv_iconst (v := 0) hx hb dL_refuses_710 (by decide) ?_
  refine lv_iconst (v := 0) hx hb dL_refuses_711 (by decide) ?_
  refine A_no_12 (q := 1) (v := (-7000002)) hfl hM hE hX hO hl (by simp) (tw_pass (by decide)) (by decide) (by decide) ⟨Nat.le_of_ble_eq_true rfl, Nat.le_of_ble_eq_true rfl⟩ dL_refuses_712 (fun L F H locs hX hO => ?_)
  refine lv_ldc hx hb hM.2.2.2.1 (hM.2.2.2.2.1 _ k_989) dL_refuses_715 ?_
  refine lv_icmp_ne (tgt := 984) hx hb dL_refuses_717 (by decide) (fun h9 => absurd (show ((-7000002) : Int32) = (-7000002) from (by decide)) h9) (fun _ => ?_)
  refine lv_aload_n hx hb dL_refuses_720 rfl (lv_at hl 13 rfl) ?_
  refine lv_bipush (v := 13) hx hb dL_refuses_721 (by decide) ?_
  refine lv_iload hx hb dL_refuses_723 (lv_at hl 4 rfl) ?_
  refine lv_bipush (v := 99) hx hb dL_refuses_725 (by decide) ?_
  refine lv_iconst (v := 0) hx hb dL_refuses_727 (by decide) ?_
  refine lv_iconst (v := 0) hx hb dL_refuses_728 (by decide) ?_
  refine lv_iconst (v := 0) hx hb dL_refuses_729 (by decide) ?_
  refine A_no_13 (q := 1) (v := (-7000001)) hfl hM hE hX hO hl (by simp) (tw_about_i (ib_inv hI)) (by decide) (by decide) ⟨Nat.le_of_ble_eq_true rfl, Nat.le_of_ble_eq_true rfl⟩ dL_refuses_730 (fun L F H locs hX hO => ?_)
  refine lv_ldc hx hb hM.2.2.2.1 (hM.2.2.2.2.1 _ k_988) dL_refuses_733 ?_
  refine lv_icmp_ne (tgt := 984) hx hb dL_refuses_735 (by decide) (fun h9 => absurd (show ((-7000001) : Int32) = (-7000001) from (by decide)) h9) (fun _ => ?_)
  refine lv_aload_n hx hb dL_refuses_738 rfl (lv_at hl 13 rfl) ?_
  refine lv_bipush (v := 14) hx hb dL_refuses_739 (by decide) ?_
  refine lv_iload hx hb dL_refuses_741 (lv_at hl 4 rfl) ?_
  refine lv_iconst (v := 0) hx hb dL_refuses_743 (by decide) ?_
  refine lv_bipush (v := 99) hx hb dL_refuses_744 (by decide) ?_
  refine lv_iconst (v := 0) hx hb dL_refuses_746 (by decide) ?_
  refine lv_iconst (v := 0) hx hb dL_refuses_747 (by decide) ?_
  refine A_no_14 (q := 1) (v := (-7000001)) hfl hM hE hX hO hl (by simp) (tw_lineOf_i (fun h9 => (ib_inv hI) h9.1)) (by decide) (by decide) ⟨Nat.le_of_ble_eq_true rfl, Nat.le_of_ble_eq_true rfl⟩ dL_refuses_748 (fun L F H locs hX hO => ?_)
  refine lv_ldc hx hb hM.2.2.2.1 (hM.2.2.2.2.1 _ k_988) dL_refuses_751 ?_
  refine lv_icmp_ne (tgt := 984) hx hb dL_refuses_753 (by decide) (fun h9 => absurd (show ((-7000001) : Int32) = (-7000001) from (by decide)) h9) (fun _ => ?_)
  refine lv_aload_n hx hb dL_refuses_756 rfl (lv_at hl 13 rfl) ?_
  refine lv_bipush (v := 14) hx hb dL_refuses_757 (by decide) ?_
  refine lv_iconst (v := 0) hx hb dL_refuses_759 (by decide) ?_
  refine lv_iload hx hb dL_refuses_760 (lv_at hl 7 rfl) ?_
  refine lv_iconst (v := 1) hx hb dL_refuses_762 (by decide) ?_
  refine lv_icmp_ne (tgt := 770) hx hb dL_refuses_763 (by decide) (fun h9 => absurd (show (1 : Int32) = 1 from (by decide)) h9) (fun _ => ?_)
  refine lv_iconst (v := 3) hx hb dL_refuses_766 (by decide) ?_
  refine lv_goto (tgt := 772) hx hb dL_refuses_767 (by decide) ?_
  refine lv_bipush (v := 99) hx hb dL_refuses_772 (by decide) ?_
  refine lv_iconst (v := 0) hx hb dL_refuses_774 (by decide) ?_
  refine lv_iconst (v := 0) hx hb dL_refuses_775 (by decide) ?_
  refine A_no_14 (q := 1) (v := (-7000001)) hfl hM hE hX hO hl (by simp) (tw_lineOf_i (fun h9 => (lb_3 hI (kj 0)) h9.2)) (by decide) (by decide) ⟨Nat.le_of_ble_eq_true rfl, Nat.le_of_ble_eq_true rfl⟩ dL_refuses_776 (fun L F H locs hX hO => ?_)
  refine lv_ldc hx hb hM.2.2.2.1 (hM.2.2.2.2.1 _ k_988) dL_refuses_779 ?_
  refine lv_icmp_ne (tgt := 984) hx hb dL_refuses_781 (by decide) (fun h9 => absurd (show ((-7000001) : Int32) = (-7000001) from (by decide)) h9) (fun _ => ?_)
  refine lv_aload_n hx hb dL_refuses_784 rfl (lv_at hl 13 rfl) ?_
  refine lv_bipush (v := 15) hx hb dL_refuses_785 (by decide) ?_
  refine lv_iload hx hb dL_refuses_787 (lv_at hl 5 rfl) ?_
  refine lv_iconst (v := 0) hx hb dL_refuses_789 (by decide) ?_
  refine lv_iconst (v := 0) hx hb dL_refuses_790 (by decide) ?_
  refine lv_iconst (v := 0) hx hb dL_refuses_791 (by decide) ?_
  refine lv_iconst (v := 0) hx hb dL_refuses_792 (by decide) ?_
  refine A_no_15 (q := 1) (v := (-7000001)) hfl hM hE hX hO hl (by simp) (tw_cash (by decide)) (by decide) (by decide) ⟨Nat.le_of_ble_eq_true rfl, Nat.le_of_ble_eq_true rfl⟩ dL_refuses_793 (fun L F H locs hX hO => ?_)
  refine lv_ldc hx hb hM.2.2.2.1 (hM.2.2.2.2.1 _ k_988) dL_refuses_796 ?_
  refine lv_icmp_ne (tgt := 984) hx hb dL_refuses_798 (by decide) (fun h9 => absurd (show ((-7000001) : Int32) = (-7000001) from (by decide)) h9) (fun _ => ?_)
  refine lv_aload_n hx hb dL_refuses_801 rfl (lv_at hl 13 rfl) ?_
  refine lv_bipush (v := 16) hx hb dL_refuses_802 (by decide) ?_
  refine lv_iload hx hb dL_refuses_804 (lv_at hl 5 rfl) ?_
  refine lv_iconst (v := 0) hx hb dL_refuses_806 (by decide) ?_
  refine lv_iconst (v := 0) hx hb dL_refuses_807 (by decide) ?_
  refine lv_iconst (v := 0) hx hb dL_refuses_808 (by decide) ?_
  refine lv_iconst (v := 0) hx hb dL_refuses_809 (by decide) ?_
  refine A_no_16 (q := 1) (v := (-7000001)) hfl hM hE hX hO hl hn (by simp) (tw_cashAnew (by decide)) (by decide) (by decide) ⟨Nat.le_of_ble_eq_true rfl, Nat.le_of_ble_eq_true rfl⟩ dL_refuses_810 (fun L F H locs hX hO => ?_)
  refine lv_ldc hx hb hM.2.2.2.1 (hM.2.2.2.2.1 _ k_988) dL_refuses_813 ?_
  refine lv_icmp_ne (tgt := 984) hx hb dL_refuses_815 (by decide) (fun h9 => absurd (show ((-7000001) : Int32) = (-7000001) from (by decide)) h9) (fun _ => ?_)
  refine lv_aload_n hx hb dL_refuses_818 rfl (lv_at hl 13 rfl) ?_
  refine lv_bipush (v := 17) hx hb dL_refuses_819 (by decide) ?_
  refine lv_iload hx hb dL_refuses_821 (lv_at hl 5 rfl) ?_
  refine lv_iconst (v := 0) hx hb dL_refuses_823 (by decide) ?_
  refine lv_iconst (v := 0) hx hb dL_refuses_824 (by decide) ?_
  refine lv_iconst (v := 0) hx hb dL_refuses_825 (by decide) ?_
  refine lv_iconst (v := 0) hx hb dL_refuses_826 (by decide) ?_
  refine A_no_17 (q := 1) (v := (-7000001)) hfl hM hE hX hO hl (by simp) (tw_owedTo (by decide)) (by decide) (by decide) ⟨Nat.le_of_ble_eq_true rfl, Nat.le_of_ble_eq_true rfl⟩ dL_refuses_827 (fun L F H locs hX hO => ?_)
  refine lv_ldc hx hb hM.2.2.2.1 (hM.2.2.2.2.1 _ k_988) dL_refuses_830 ?_
  refine lv_icmp_ne (tgt := 984) hx hb dL_refuses_832 (by decide) (fun h9 => absurd (show ((-7000001) : Int32) = (-7000001) from (by decide)) h9) (fun _ => ?_)
  refine lv_aload_n hx hb dL_refuses_835 rfl (lv_at hl 13 rfl) ?_
  refine lv_bipush (v := 18) hx hb dL_refuses_836 (by decide) ?_
  refine lv_iload hx hb dL_refuses_838 (lv_at hl 5 rfl) ?_
  refine lv_iconst (v := 0) hx hb dL_refuses_840 (by decide) ?_
  refine lv_iconst (v := 0) hx hb dL_refuses_841 (by decide) ?_
  refine lv_iconst (v := 0) hx hb dL_refuses_842 (by decide) ?_
  refine lv_iconst (v := 0) hx hb dL_refuses_843 (by decide) ?_
  refine A_no_18 (q := 1) (v := (-7000001)) hfl hM hE hX hO hl (by simp) (tw_owes (by decide)) (by decide) (by decide) ⟨Nat.le_of_ble_eq_true rfl, Nat.le_of_ble_eq_true rfl⟩ dL_refuses_844 (fun L F H locs hX hO => ?_)
  refine lv_ldc hx hb hM.2.2.2.1 (hM.2.2.2.2.1 _ k_988) dL_refuses_847 ?_
  refine lv_icmp_ne (tgt := 984) hx hb dL_refuses_849 (by decide) (fun h9 => absurd (show ((-7000001) : Int32) = (-7000001) from (by decide)) h9) (fun _ => ?_)
  refine lv_aload_n hx hb dL_refuses_852 rfl (lv_at hl 13 rfl) ?_
  refine lv_bipush (v := 19) hx hb dL_refuses_853 (by decide) ?_
  refine lv_iload hx hb dL_refuses_855 (lv_at hl 5 rfl) ?_
  refine lv_iconst (v := 0) hx hb dL_refuses_857 (by decide) ?_
  refine lv_iconst (v := 0) hx hb dL_refuses_858 (by decide) ?_
  refine lv_iconst (v := 0) hx hb dL_refuses_859 (by decide) ?_
  refine lv_iconst (v := 0) hx hb dL_refuses_860 (by decide) ?_
  refine A_no_19 (q := 1) (v := (-7000001)) hfl hM hE hX hO hl (by simp) (tw_tax (by decide)) (by decide) (by decide) ⟨Nat.le_of_ble_eq_true rfl, Nat.le_of_ble_eq_true rfl⟩ dL_refuses_861 (fun L F H locs hX hO => ?_)
  refine lv_ldc hx hb hM.2.2.2.1 (hM.2.2.2.2.1 _ k_988) dL_refuses_864 ?_
  refine lv_icmp_ne (tgt := 984) hx hb dL_refuses_866 (by decide) (fun h9 => absurd (show ((-7000001) : Int32) = (-7000001) from (by decide)) h9) (fun _ => ?_)
  refine lv_aload_n hx hb dL_refuses_869 rfl (lv_at hl 13 rfl) ?_
  refine lv_bipush (v := 19) hx hb dL_refuses_870 (by decide) ?_
  refine lv_iconst (v := 0) hx hb dL_refuses_872 (by decide) ?_
  refine lv_iload hx hb dL_refuses_873 (lv_at hl 7 rfl) ?_
  refine lv_iconst (v := 1) hx hb dL_refuses_875 (by decide) ?_
  refine lv_icmp_ne (tgt := 889) hx hb dL_refuses_876 (by decide) (fun h9 => absurd (show (1 : Int32) = 1 from (by decide)) h9) (fun _ => ?_)
  refine lv_iload hx hb dL_refuses_879 (lv_at hl 9 rfl) ?_
  refine lv_bipush (v := 30) hx hb dL_refuses_881 (by decide) ?_
  refine lv_idiv hx hb dL_refuses_883 (by decide) ?_
  refine lv_iconst (v := 1) hx hb dL_refuses_884 (by decide) ?_
  refine lv_iadd hx hb dL_refuses_885 ?_
  refine lv_goto (tgt := 891) hx hb dL_refuses_886 (by decide) ?_
  refine lv_iconst (v := 0) hx hb dL_refuses_891 (by decide) ?_
  refine lv_iconst (v := 0) hx hb dL_refuses_892 (by decide) ?_
  refine lv_iconst (v := 0) hx hb dL_refuses_893 (by decide) ?_
  refine A_no_19 (q := 1) (v := (-7000001)) hfl hM hE hX hO hl (by simp) (tw_tax_m (by decide) (mb_inv hI)) (by decide) (by decide) ⟨Nat.le_of_ble_eq_true rfl, Nat.le_of_ble_eq_true rfl⟩ dL_refuses_894 (fun L F H locs hX hO => ?_)
  refine lv_ldc hx hb hM.2.2.2.1 (hM.2.2.2.2.1 _ k_988) dL_refuses_897 ?_
  refine lv_icmp_ne (tgt := 984) hx hb dL_refuses_899 (by decide) (fun h9 => absurd (show ((-7000001) : Int32) = (-7000001) from (by decide)) h9) (fun _ => ?_)
  refine lv_aload_n hx hb dL_refuses_902 rfl (lv_at hl 13 rfl) ?_
  refine lv_bipush (v := 20) hx hb dL_refuses_903 (by decide) ?_
  refine lv_iload hx hb dL_refuses_905 (lv_at hl 5 rfl) ?_
  refine lv_iconst (v := 0) hx hb dL_refuses_907 (by decide) ?_
  refine lv_iconst (v := 0) hx hb dL_refuses_908 (by decide) ?_
  refine lv_iconst (v := 0) hx hb dL_refuses_909 (by decide) ?_
  refine lv_iconst (v := 0) hx hb dL_refuses_910 (by decide) ?_
  refine A_no_20 (q := 1) (v := (-7000001)) hfl hM hE hX hO hl (by simp) (tw_carried (by decide)) (by decide) (by decide) ⟨Nat.le_of_ble_eq_true rfl, Nat.le_of_ble_eq_true rfl⟩ dL_refuses_911 (fun L F H locs hX hO => ?_)
  refine lv_ldc hx hb hM.2.2.2.1 (hM.2.2.2.2.1 _ k_988) dL_refuses_914 ?_
  refine lv_icmp_ne (tgt := 984) hx hb dL_refuses_916 (by decide) (fun h9 => absurd (show ((-7000001) : Int32) = (-7000001) from (by decide)) h9) (fun _ => ?_)
  refine lv_aload_n hx hb dL_refuses_919 rfl (lv_at hl 13 rfl) ?_
  refine lv_bipush (v := 20) hx hb dL_refuses_920 (by decide) ?_
  refine lv_iconst (v := 0) hx hb dL_refuses_922 (by decide) ?_
  refine lv_iload hx hb dL_refuses_923 (lv_at hl 7 rfl) ?_
  refine lv_iconst (v := 1) hx hb dL_refuses_925 (by decide) ?_
  refine lv_icmp_ne (tgt := 939) hx hb dL_refuses_926 (by decide) (fun h9 => absurd (show (1 : Int32) = 1 from (by decide)) h9) (fun _ => ?_)
  refine lv_iload hx hb dL_refuses_929 (lv_at hl 9 rfl) ?_
  refine lv_bipush (v := 30) hx hb dL_refuses_931 (by decide) ?_
  refine lv_idiv hx hb dL_refuses_933 (by decide) ?_
  refine lv_iconst (v := 1) hx hb dL_refuses_934 (by decide) ?_
  refine lv_iadd hx hb dL_refuses_935 ?_
  refine lv_goto (tgt := 941) hx hb dL_refuses_936 (by decide) ?_
  refine lv_iconst (v := 0) hx hb dL_refuses_941 (by decide) ?_
  refine lv_iconst (v := 0) hx hb dL_refuses_942 (by decide) ?_
  refine lv_iconst (v := 0) hx hb dL_refuses_943 (by decide) ?_
  refine A_no_20 (q := 1) (v := (-7000001)) hfl hM hE hX hO hl (by simp) (tw_carried_m (by decide) (mb_inv hI)) (by decide) (by decide) ⟨Nat.le_of_ble_eq_true rfl, Nat.le_of_ble_eq_true rfl⟩ dL_refuses_944 (fun L F H locs hX hO => ?_)
  refine lv_ldc hx hb hM.2.2.2.1 (hM.2.2.2.2.1 _ k_988) dL_refuses_947 ?_
  refine lv_icmp_ne (tgt := 984) hx hb dL_refuses_949 (by decide) (fun h9 => absurd (show ((-7000001) : Int32) = (-7000001) from (by decide)) h9) (fun _ => ?_)
  refine lv_aload_n hx hb dL_refuses_952 rfl (lv_at hl 13 rfl) ?_
  refine lv_bipush (v := 21) hx hb dL_refuses_953 (by decide) ?_
  refine lv_iload hx hb dL_refuses_955 (lv_at hl 7 rfl) ?_
  refine lv_iconst (v := 1) hx hb dL_refuses_957 (by decide) ?_
  refine lv_icmp_ne (tgt := 966) hx hb dL_refuses_958 (by decide) (fun h9 => absurd (show (1 : Int32) = 1 from (by decide)) h9) (fun _ => ?_)
  refine lv_bipush (v := 8) hx hb dL_refuses_961 (by decide) ?_
  refine lv_goto (tgt := 968) hx hb dL_refuses_963 (by decide) ?_
  refine lv_iconst (v := 0) hx hb dL_refuses_968 (by decide) ?_
  refine lv_iconst (v := 0) hx hb dL_refuses_969 (by decide) ?_
  refine lv_iconst (v := 0) hx hb dL_refuses_970 (by decide) ?_
  refine lv_iconst (v := 0) hx hb dL_refuses_971 (by decide) ?_
  refine A_no_21 (q := 1) (v := (-7000001)) hfl hM hE hX hO hl (by simp) (tw_chain (by decide)) (by decide) (by decide) ⟨Nat.le_of_ble_eq_true rfl, Nat.le_of_ble_eq_true rfl⟩ dL_refuses_972 (fun L F H locs hX hO => ?_)
  refine lv_ldc hx hb hM.2.2.2.1 (hM.2.2.2.2.1 _ k_988) dL_refuses_975 ?_
  refine lv_icmp_ne (tgt := 984) hx hb dL_refuses_977 (by decide) (fun h9 => absurd (show ((-7000001) : Int32) = (-7000001) from (by decide)) h9) (fun _ => ?_)
  refine lv_iconst (v := 1) hx hb dL_refuses_980 (by decide) ?_
  refine lv_goto (tgt := 985) hx hb dL_refuses_981 (by decide) ?_
  refine lv_istore (lv' := [(14, .int 1), (13, .int 20), (12, .int 100000), (11, .int 10000), (10, .int (M 2 0)), (9, .int 6), (8, .int (-2147483648)), (7, .int 1), (6, .int (faultM (mset M 24 0 0))), (5, .int (M 0 0)), (4, .int (sumsM (mset M 24 0 0) 1 0)), (3, .int (M 1 (kj 1))), (2, .int 2147483647), (0, .ref o), (1, .int (M 2 0))]) hx hb dL_refuses_985 hl (by decide) rfl (fun ls hl => ?_)
  exact W.widen (k := 573) (n := 78310) (Nat.le_of_ble_eq_true rfl) (Nat.le_of_ble_eq_true rfl) (kk L F H locs ls hX hO hl)
set_option maxHeartbeats 8000000 in
set_option maxRecDepth 100000 in
theorem rf_1_3 (hfl : l.stackTraces = false) (hM : kM p s m args meth c cL_refuses 15 ret "InvoicebridgeLaw") (hE : kE γ A s) (hX : kX γ A s L F H locs) (hO : Ob γ o M n L F) (hn : n < 512) (hi0 : ¬ M 2 0 = 0) (hl : lv_has ls 15 [(14, .int 1), (13, .int 20), (12, .int 100000), (11, .int 10000), (10, .int (M 2 0)), (9, .int 6), (8, .int (-2147483648)), (7, .int 1), (6, .int (faultM (mset M 24 0 0))), (5, .int (M 0 0)), (4, .int (sumsM (mset M 24 0 0) 1 0)), (3, .int (M 1 (kj 1))), (2, .int 2147483647), (0, .ref o), (1, .int (M 2 0))])
    (kk : ∀ (L : List Nat) (F : kF) (H : Heap) (locs : List Loc) (ls : Array Slot), kX γ A s L F H locs → Ob γ o M n L F → lv_has ls 15 [(7, .int 2), (14, .int 1), (13, .int 20), (12, .int 100000), (11, .int 10000), (10, .int (M 2 0)), (9, .int 6), (8, .int (-2147483648)), (6, .int (faultM (mset M 24 0 0))), (5, .int (M 0 0)), (4, .int (sumsM (mset M 24 0 0) 1 0)), (3, .int (M 1 (kj 1))), (2, .int 2147483647), (0, .ref o), (1, .int (M 2 0))] → W p l e (kRm 10 1242 169940) s m args below meth c H locs 620 84964 Q (F0 m 31 ls [])) : W p l e (kRm 10 1242 169940) s m args below meth c H locs 573 78310 Q (F0 m 987 ls []) := by
  have hx := hM.1
  have hb := hM.2.1
  obtain ⟨nd9, D9, hI⟩ := hO.inv
  have h34 : ∀ {M : mM} {nd : Nat} {D : cD}, Inv M nd D → ¬ M 2 0 = 0 → okI (M 3 (kj 0)) 6 ∧ okI (M 4 (kj 0)) 6 := fun hI h => ⟨(hI.2.2.2.2.2.1 0 (nn_pos hI h)).1, (hI.2.2.2.2.2.1 0 (nn_pos hI h)).2.1⟩
  refine lv_iload hx hb dL_refuses_987 (lv_at hl 0 rfl) ?_
  refine lv_if_eq (tgt := 1183) hx hb dL_refuses_989 (by decide) (fun h9 => absurd h9 (show ¬ (1 : Int32) = 0 from (by decide))) (fun _ => ?_)
  refine lv_iload_n hx hb dL_refuses_992 rfl (lv_at hl 14 rfl) ?_
  refine lv_if_eq (tgt := 1179) hx hb dL_refuses_993 (by decide) (fun h9 => absurd h9 (show ¬ ((M 2 0) : Int32) = 0 from hi0)) (fun _ => ?_)
  refine lv_aload_n hx hb dL_refuses_996 rfl (lv_at hl 13 rfl) ?_
  refine lv_iconst (v := 1) hx hb dL_refuses_997 (by decide) ?_
  refine lv_iconst (v := 0) hx hb dL_refuses_998 (by decide) ?_
  refine lv_iload hx hb dL_refuses_999 (lv_at hl 3 rfl) ?_
  refine lv_bipush (v := 7) hx hb dL_refuses_1001 (by decide) ?_
  refine lv_iconst (v := 0) hx hb dL_refuses_1003 (by decide) ?_
  refine lv_iconst (v := 0) hx hb dL_refuses_1004 (by decide) ?_
  refine A_no_1 (q := 2) (v := (-7000002)) hfl hM hE hX hO hl (by simp) (tw_addLine_q (i0_ok hI hi0) (by decide)) (by decide) (by decide) ⟨Nat.le_of_ble_eq_true rfl, Nat.le_of_ble_eq_true rfl⟩ dL_refuses_1005 (fun L F H locs hX hO => ?_)
  refine lv_ldc hx hb hM.2.2.2.1 (hM.2.2.2.2.1 _ k_989) dL_refuses_1008 ?_
  refine lv_icmp_ne (tgt := 1183) hx hb dL_refuses_1010 (by decide) (fun h9 => absurd (show ((-7000002) : Int32) = (-7000002) from (by decide)) h9) (fun _ => ?_)
  refine lv_aload_n hx hb dL_refuses_1013 rfl (lv_at hl 13 rfl) ?_
  refine lv_iconst (v := 1) hx hb dL_refuses_1014 (by decide) ?_
  refine lv_iconst (v := 0) hx hb dL_refuses_1015 (by decide) ?_
  refine lv_iconst (v := 1) hx hb dL_refuses_1016 (by decide) ?_
  refine lv_iload hx hb dL_refuses_1017 (lv_at hl 1 rfl) ?_
  refine lv_iconst (v := 0) hx hb dL_refuses_1019 (by decide) ?_
  refine lv_iconst (v := 0) hx hb dL_refuses_1020 (by decide) ?_
  refine A_no_1 (q := 2) (v := (-7000002)) hfl hM hE hX hO hl (by simp) (tw_addLine_q (i0_ok hI hi0) (by decide)) (by decide) (by decide) ⟨Nat.le_of_ble_eq_true rfl, Nat.le_of_ble_eq_true rfl⟩ dL_refuses_1021 (fun L F H locs hX hO => ?_)
  refine lv_ldc hx hb hM.2.2.2.1 (hM.2.2.2.2.1 _ k_989) dL_refuses_1024 ?_
  refine lv_icmp_ne (tgt := 1183) hx hb dL_refuses_1026 (by decide) (fun h9 => absurd (show ((-7000002) : Int32) = (-7000002) from (by decide)) h9) (fun _ => ?_)
  refine lv_aload_n hx hb dL_refuses_1029 rfl (lv_at hl 13 rfl) ?_
  refine lv_iconst (v := 4) hx hb dL_refuses_1030 (by decide) ?_
  refine lv_iconst (v := 0) hx hb dL_refuses_1031 (by decide) ?_
  refine lv_iconst (v := 0) hx hb dL_refuses_1032 (by decide) ?_
  refine lv_iload hx hb dL_refuses_1033 (lv_at hl 3 rfl) ?_
  refine lv_iconst (v := 0) hx hb dL_refuses_1035 (by decide) ?_
  refine lv_iconst (v := 0) hx hb dL_refuses_1036 (by decide) ?_
  refine A_no_4 (q := 2) (v := (-7000002)) hfl hM hE hX hO hl (by simp) (tw_credit_q (l0_ok hI hi0) (by decide)) (by decide) (by decide) ⟨Nat.le_of_ble_eq_true rfl, Nat.le_of_ble_eq_true rfl⟩ dL_refuses_1037 (fun L F H locs hX hO => ?_)
  refine lv_ldc hx hb hM.2.2.2.1 (hM.2.2.2.2.1 _ k_989) dL_refuses_1040 ?_
  refine lv_icmp_ne (tgt := 1183) hx hb dL_refuses_1042 (by decide) (fun h9 => absurd (show ((-7000002) : Int32) = (-7000002) from (by decide)) h9) (fun _ => ?_)
  refine lv_aload_n hx hb dL_refuses_1045 rfl (lv_at hl 13 rfl) ?_
  refine lv_bipush (v := 7) hx hb dL_refuses_1046 (by decide) ?_
  refine lv_iconst (v := 0) hx hb dL_refuses_1048 (by decide) ?_
  refine lv_aload_n hx hb dL_refuses_1049 rfl (lv_at hl 13 rfl) ?_
  refine lv_iconst (v := 0) hx hb dL_refuses_1050 (by decide) ?_
  refine lv_iconst (v := 1) hx hb dL_refuses_1051 (by decide) ?_
  refine O_about hfl hM hE hX hO hl (ok_about1 (i0_ok hI hi0)).1 (ok_about1 (i0_ok hI hi0)).2 (by decide) (Nat.le_of_ble_eq_true rfl) ⟨Nat.le_of_ble_eq_true rfl, Nat.le_of_ble_eq_true rfl⟩ dL_refuses_1052 (fun L F H locs hX hO => ?_)
  refine lv_iconst (v := 5) hx hb dL_refuses_1055 (by decide) ?_
  refine lv_iconst (v := 0) hx hb dL_refuses_1056 (by decide) ?_
  refine lv_iconst (v := 0) hx hb dL_refuses_1057 (by decide) ?_
  refine A_no_7 (q := 2) (v := (-7000002)) hfl hM hE hX hO hl hn (by simp) (tw_sell_s (i0_ok hI hi0) (okI_le5 (h34 hI hi0).1) (by decide) rfl) (by decide) (by decide) ⟨Nat.le_of_ble_eq_true rfl, Nat.le_of_ble_eq_true rfl⟩ dL_refuses_1058 (fun L F H locs hX hO => ?_)
  refine lv_ldc hx hb hM.2.2.2.1 (hM.2.2.2.2.1 _ k_989) dL_refuses_1061 ?_
  refine lv_icmp_ne (tgt := 1183) hx hb dL_refuses_1063 (by decide) (fun h9 => absurd (show ((-7000002) : Int32) = (-7000002) from (by decide)) h9) (fun _ => ?_)
  refine lv_aload_n hx hb dL_refuses_1066 rfl (lv_at hl 13 rfl) ?_
  refine lv_bipush (v := 7) hx hb dL_refuses_1067 (by decide) ?_
  refine lv_iconst (v := 0) hx hb dL_refuses_1069 (by decide) ?_
  refine lv_aload_n hx hb dL_refuses_1070 rfl (lv_at hl 13 rfl) ?_
  refine lv_iconst (v := 0) hx hb dL_refuses_1071 (by decide) ?_
  refine lv_iconst (v := 2) hx hb dL_refuses_1072 (by decide) ?_
  refine O_about hfl hM hE hX hO hl (ok_about2 (i0_ok hI hi0)).1 (ok_about2 (i0_ok hI hi0)).2 (by decide) (Nat.le_of_ble_eq_true rfl) ⟨Nat.le_of_ble_eq_true rfl, Nat.le_of_ble_eq_true rfl⟩ dL_refuses_1073 (fun L F H locs hX hO => ?_)
  refine lv_iconst (v := 5) hx hb dL_refuses_1076 (by decide) ?_
  refine lv_iconst (v := 0) hx hb dL_refuses_1077 (by decide) ?_
  refine lv_iconst (v := 0) hx hb dL_refuses_1078 (by decide) ?_
  refine A_no_7 (q := 2) (v := (-7000002)) hfl hM hE hX hO hl hn (by simp) (tw_sell_b (i0_ok hI hi0) (okI_le5 (h34 hI hi0).2) (by decide) rfl) (by decide) (by decide) ⟨Nat.le_of_ble_eq_true rfl, Nat.le_of_ble_eq_true rfl⟩ dL_refuses_1079 (fun L F H locs hX hO => ?_)
  refine lv_ldc hx hb hM.2.2.2.1 (hM.2.2.2.2.1 _ k_989) dL_refuses_1082 ?_
  refine lv_icmp_ne (tgt := 1183) hx hb dL_refuses_1084 (by decide) (fun h9 => absurd (show ((-7000002) : Int32) = (-7000002) from (by decide)) h9) (fun _ => ?_)
  refine lv_aload_n hx hb dL_refuses_1087 rfl (lv_at hl 13 rfl) ?_
  refine lv_bipush (v := 7) hx hb dL_refuses_1088 (by decide) ?_
  refine lv_iconst (v := 0) hx hb dL_refuses_1090 (by decide) ?_
  refine lv_iconst (v := 5) hx hb dL_refuses_1091 (by decide) ?_
  refine lv_iload hx hb dL_refuses_1092 (lv_at hl 7 rfl) ?_
  refine lv_if_ne (tgt := 1101) hx hb dL_refuses_1094 (by decide) (fun _ => ?_) (fun h9 => absurd h9 (show ¬ (1 : Int32) = 0 from (by decide)))
  refine lv_iload hx hb dL_refuses_1101 (lv_at hl 7 rfl) ?_
  refine lv_iconst (v := 1) hx hb dL_refuses_1103 (by decide) ?_
  refine lv_icmp_ne (tgt := 1112) hx hb dL_refuses_1104 (by decide) (fun h9 => absurd (show (1 : Int32) = 1 from (by decide)) h9) (fun _ => ?_)
  refine lv_bipush (v := 101) hx hb dL_refuses_1107 (by decide) ?_
  refine lv_goto (tgt := 1114) hx hb dL_refuses_1109 (by decide) ?_
  refine lv_iconst (v := 0) hx hb dL_refuses_1114 (by decide) ?_
  refine lv_iconst (v := 0) hx hb dL_refuses_1115 (by decide) ?_
  refine A_no_7 (q := 2) (v := (-7000002)) hfl hM hE hX hO hl hn (by simp) (tw_sell_q (i0_ok hI hi0) (by decide) (by decide)) (by decide) (by decide) ⟨Nat.le_of_ble_eq_true rfl, Nat.le_of_ble_eq_true rfl⟩ dL_refuses_1116 (fun L F H locs hX hO => ?_)
  refine lv_ldc hx hb hM.2.2.2.1 (hM.2.2.2.2.1 _ k_989) dL_refuses_1119 ?_
  refine lv_icmp_ne (tgt := 1183) hx hb dL_refuses_1121 (by decide) (fun h9 => absurd (show ((-7000002) : Int32) = (-7000002) from (by decide)) h9) (fun _ => ?_)
  refine lv_aload_n hx hb dL_refuses_1124 rfl (lv_at hl 13 rfl) ?_
  refine lv_bipush (v := 13) hx hb dL_refuses_1125 (by decide) ?_
  refine lv_iconst (v := 0) hx hb dL_refuses_1127 (by decide) ?_
  refine lv_iload hx hb dL_refuses_1128 (lv_at hl 7 rfl) ?_
  refine lv_iconst (v := 1) hx hb dL_refuses_1130 (by decide) ?_
  refine lv_icmp_ne (tgt := 1139) hx hb dL_refuses_1131 (by decide) (fun h9 => absurd (show (1 : Int32) = 1 from (by decide)) h9) (fun _ => ?_)
  refine lv_bipush (v := 10) hx hb dL_refuses_1134 (by decide) ?_
  refine lv_goto (tgt := 1141) hx hb dL_refuses_1136 (by decide) ?_
  refine lv_iconst (v := 0) hx hb dL_refuses_1141 (by decide) ?_
  refine lv_iconst (v := 0) hx hb dL_refuses_1142 (by decide) ?_
  refine lv_iconst (v := 0) hx hb dL_refuses_1143 (by decide) ?_
  refine A_no_13 (q := 2) (v := (-7000002)) hfl hM hE hX hO hl (by simp) (tw_about_q (i0_ok hI hi0) (by decide)) (by decide) (by decide) ⟨Nat.le_of_ble_eq_true rfl, Nat.le_of_ble_eq_true rfl⟩ dL_refuses_1144 (fun L F H locs hX hO => ?_)
  refine lv_ldc hx hb hM.2.2.2.1 (hM.2.2.2.2.1 _ k_989) dL_refuses_1147 ?_
  refine lv_icmp_ne (tgt := 1183) hx hb dL_refuses_1149 (by decide) (fun h9 => absurd (show ((-7000002) : Int32) = (-7000002) from (by decide)) h9) (fun _ => ?_)
  refine lv_aload_n hx hb dL_refuses_1152 rfl (lv_at hl 13 rfl) ?_
  refine lv_bipush (v := 14) hx hb dL_refuses_1153 (by decide) ?_
  refine lv_iconst (v := 0) hx hb dL_refuses_1155 (by decide) ?_
  refine lv_iconst (v := 0) hx hb dL_refuses_1156 (by decide) ?_
  refine lv_iload hx hb dL_refuses_1157 (lv_at hl 7 rfl) ?_
  refine lv_iconst (v := 1) hx hb dL_refuses_1159 (by decide) ?_
  refine lv_icmp_ne (tgt := 1167) hx hb dL_refuses_1160 (by decide) (fun h9 => absurd (show (1 : Int32) = 1 from (by decide)) h9) (fun _ => ?_)
  refine lv_iconst (v := 5) hx hb dL_refuses_1163 (by decide) ?_
  refine lv_goto (tgt := 1169) hx hb dL_refuses_1164 (by decide) ?_
  refine lv_iconst (v := 0) hx hb dL_refuses_1169 (by decide) ?_
  refine lv_iconst (v := 0) hx hb dL_refuses_1170 (by decide) ?_
  refine A_no_14 (q := 2) (v := (-7000002)) hfl hM hE hX hO hl (by simp) (tw_lineOf_q (l0_ok hI hi0) (by decide)) (by decide) (by decide) ⟨Nat.le_of_ble_eq_true rfl, Nat.le_of_ble_eq_true rfl⟩ dL_refuses_1171 (fun L F H locs hX hO => ?_)
  refine lv_ldc hx hb hM.2.2.2.1 (hM.2.2.2.2.1 _ k_989) dL_refuses_1174 ?_
  refine lv_icmp_ne (tgt := 1183) hx hb dL_refuses_1176 (by decide) (fun h9 => absurd (show ((-7000002) : Int32) = (-7000002) from (by decide)) h9) (fun _ => ?_)
  refine lv_iconst (v := 1) hx hb dL_refuses_1179 (by decide) ?_
  refine lv_goto (tgt := 1184) hx hb dL_refuses_1180 (by decide) ?_
  refine lv_istore (lv' := [(14, .int 1), (13, .int 20), (12, .int 100000), (11, .int 10000), (10, .int (M 2 0)), (9, .int 6), (8, .int (-2147483648)), (7, .int 1), (6, .int (faultM (mset M 24 0 0))), (5, .int (M 0 0)), (4, .int (sumsM (mset M 24 0 0) 1 0)), (3, .int (M 1 (kj 1))), (2, .int 2147483647), (0, .ref o), (1, .int (M 2 0))]) hx hb dL_refuses_1184 hl (by decide) rfl (fun ls hl => ?_)
  refine lv_iload hx hb dL_refuses_1186 (lv_at hl 0 rfl) ?_
  refine lv_if_ne (tgt := 1193) hx hb dL_refuses_1188 (by decide) (fun _ => ?_) (fun h9 => absurd h9 (show ¬ (1 : Int32) = 0 from (by decide)))
  refine lv_iinc (v := 2) (lv' := [(7, .int 2), (14, .int 1), (13, .int 20), (12, .int 100000), (11, .int 10000), (10, .int (M 2 0)), (9, .int 6), (8, .int (-2147483648)), (6, .int (faultM (mset M 24 0 0))), (5, .int (M 0 0)), (4, .int (sumsM (mset M 24 0 0) 1 0)), (3, .int (M 1 (kj 1))), (2, .int 2147483647), (0, .ref o), (1, .int (M 2 0))]) hx hb dL_refuses_1193 hl (k := 7) rfl (by decide) (by decide) rfl (fun ls hl => ?_)
  refine lv_goto (tgt := 31) hx hb dL_refuses_1196 (by decide) ?_
  exact W.widen (k := 620) (n := 84964) (Nat.le_of_ble_eq_true rfl) (Nat.le_of_ble_eq_true rfl) (kk L F H locs ls hX hO hl)
set_option maxHeartbeats 8000000 in
set_option maxRecDepth 100000 in
theorem rf_1_4 (hfl : l.stackTraces = false) (hM : kM p s m args meth c cL_refuses 15 ret "InvoicebridgeLaw") (hE : kE γ A s) (hX : kX γ A s L F H locs) (hO : Ob γ o M n L F) (hn : n < 512) (hi0 : M 2 0 = 0) (hl : lv_has ls 15 [(14, .int 1), (13, .int 20), (12, .int 100000), (11, .int 10000), (10, .int (M 2 0)), (9, .int 6), (8, .int (-2147483648)), (7, .int 1), (6, .int (faultM (mset M 24 0 0))), (5, .int (M 0 0)), (4, .int (sumsM (mset M 24 0 0) 1 0)), (3, .int (M 1 (kj 1))), (2, .int 2147483647), (0, .ref o), (1, .int (M 2 0))])
    (kk : ∀ (L : List Nat) (F : kF) (H : Heap) (locs : List Loc) (ls : Array Slot), kX γ A s L F H locs → Ob γ o M n L F → lv_has ls 15 [(7, .int 2), (14, .int 1), (13, .int 20), (12, .int 100000), (11, .int 10000), (10, .int (M 2 0)), (9, .int 6), (8, .int (-2147483648)), (6, .int (faultM (mset M 24 0 0))), (5, .int (M 0 0)), (4, .int (sumsM (mset M 24 0 0) 1 0)), (3, .int (M 1 (kj 1))), (2, .int 2147483647), (0, .ref o), (1, .int (M 2 0))] → W p l e (kRm 10 1242 169940) s m args below meth c H locs 620 84964 Q (F0 m 31 ls [])) : W p l e (kRm 10 1242 169940) s m args below meth c H locs 573 78310 Q (F0 m 987 ls []) := by
  have hx := hM.1
  have hb := hM.2.1
  obtain ⟨nd9, D9, hI⟩ := hO.inv
  refine lv_iload hx hb dL_refuses_987 (lv_at hl 0 rfl) ?_
  refine lv_if_eq (tgt := 1183) hx hb dL_refuses_989 (by decide) (fun h9 => absurd h9 (show ¬ (1 : Int32) = 0 from (by decide))) (fun _ => ?_)
  refine lv_iload_n hx hb dL_refuses_992 rfl (lv_at hl 14 rfl) ?_
  refine lv_if_eq (tgt := 1179) hx hb dL_refuses_993 (by decide) (fun _ => ?_) (fun h9 => absurd (show ((M 2 0) : Int32) = 0 from hi0) h9)
  refine lv_iconst (v := 1) hx hb dL_refuses_1179 (by decide) ?_
  refine lv_goto (tgt := 1184) hx hb dL_refuses_1180 (by decide) ?_
  refine lv_istore (lv' := [(14, .int 1), (13, .int 20), (12, .int 100000), (11, .int 10000), (10, .int (M 2 0)), (9, .int 6), (8, .int (-2147483648)), (7, .int 1), (6, .int (faultM (mset M 24 0 0))), (5, .int (M 0 0)), (4, .int (sumsM (mset M 24 0 0) 1 0)), (3, .int (M 1 (kj 1))), (2, .int 2147483647), (0, .ref o), (1, .int (M 2 0))]) hx hb dL_refuses_1184 hl (by decide) rfl (fun ls hl => ?_)
  refine lv_iload hx hb dL_refuses_1186 (lv_at hl 0 rfl) ?_
  refine lv_if_ne (tgt := 1193) hx hb dL_refuses_1188 (by decide) (fun _ => ?_) (fun h9 => absurd h9 (show ¬ (1 : Int32) = 0 from (by decide)))
  refine lv_iinc (v := 2) (lv' := [(7, .int 2), (14, .int 1), (13, .int 20), (12, .int 100000), (11, .int 10000), (10, .int (M 2 0)), (9, .int 6), (8, .int (-2147483648)), (6, .int (faultM (mset M 24 0 0))), (5, .int (M 0 0)), (4, .int (sumsM (mset M 24 0 0) 1 0)), (3, .int (M 1 (kj 1))), (2, .int 2147483647), (0, .ref o), (1, .int (M 2 0))]) hx hb dL_refuses_1193 hl (k := 7) rfl (by decide) (by decide) rfl (fun ls hl => ?_)
  refine lv_goto (tgt := 31) hx hb dL_refuses_1196 (by decide) ?_
  exact W.widen (k := 620) (n := 84964) (Nat.le_of_ble_eq_true rfl) (Nat.le_of_ble_eq_true rfl) (kk L F H locs ls hX hO hl)
end RF
