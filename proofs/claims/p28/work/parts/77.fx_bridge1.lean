section FX
variable {p : Program} {l : Launch} {e : Env} {R : Room} {s : State} {m : MethodId} {args : Array Value} {below : List Frame} {meth : Method} {c : Code} {H : Heap} {locs : List Loc} {cells slots : Nat} {Q : State → Prop}
variable {cc : ByteArray} {nL : Nat} {ret : Option FieldType} {γ : kG} {A : Nat → Prop} {L : List Nat} {F : kF} {pc : Nat} {ls : Array Slot} {rest : List Value} {o n : Nat} {M M1 : mM} {lv : List (Nat × Value)} {r : Int32}
set_option maxHeartbeats 8000000 in
set_option maxRecDepth 100000 in
theorem br_0 (hfl : l.stackTraces = false) (hM : kM p s m args meth c cL_bridge 1 ret "InvoicebridgeLaw") (hE : kE γ A s) (hX : kX γ A s L F H locs) (hO : Ob γ o (mk br_tb0) 0 L F) (hl : lv_has ls 1 [(0, .ref o)])
    (kk : ∀ (L : List Nat) (F : kF) (H : Heap) (locs : List Loc) (ls : Array Slot), kX γ A s L F H locs → Ob γ o (mk br_tb3) 3 L F → lv_has ls 1 [(0, .ref o)] → W p l e (kRm 12 9890 1299582) s m args below meth c H locs 1306 176418 Q (F0 m 100 ls [])) : W p l e (kRm 12 9890 1299582) s m args below meth c H locs 11 106 Q (F0 m 8 ls []) := by
  have hx := hM.1
  have hb := hM.2.1
  refine lv_aload_n hx hb dL_bridge_8 rfl (lv_at hl 0 rfl) ?_
  refine lv_iconst (v := 0) hx hb dL_bridge_9 (by decide) ?_
  refine H_refuses  hfl hM hE hX hO hl (by decide +kernel) (by decide +kernel) (by decide) (Nat.le_of_ble_eq_true rfl) ⟨Nat.le_of_ble_eq_true rfl, Nat.le_of_ble_eq_true rfl⟩ dL_bridge_10 (fun L F H locs hX hO => ?_)
  refine lv_if_eq (tgt := 401) hx hb dL_bridge_13 (by decide) (fun h9 => absurd h9 (show ¬ (1 : Int32) = 0 from (by decide))) (fun _ => ?_)
  refine lv_aload_n hx hb dL_bridge_16 rfl (lv_at hl 0 rfl) ?_
  refine lv_iconst (v := 0) hx hb dL_bridge_17 (by decide) ?_
  refine lv_iconst (v := 1) hx hb dL_bridge_18 (by decide) ?_
  refine lv_iconst (v := 3) hx hb dL_bridge_19 (by decide) ?_
  refine lv_sipush (v := 1000) hx hb dL_bridge_20 (by decide) ?_
  refine lv_bipush (v := 19) hx hb dL_bridge_23 (by decide) ?_
  refine O_send hfl hM hE hX hO hl (f_send (r := 0) (by decide +kernel)) (mk_24 _ 0) (by decide) (Nat.le_of_ble_eq_true rfl) ⟨Nat.le_of_ble_eq_true rfl, Nat.le_of_ble_eq_true rfl⟩ dL_bridge_25 (fun L F H locs hX hO => ?_)
  have hO : Ob γ o (mk br_tb1) 1 L F := hO
  refine lv_if_ne (tgt := 401) hx hb dL_bridge_28 (by decide) (fun h9 => absurd (show (0 : Int32) = 0 from (by decide)) h9) (fun _ => ?_)
  refine lv_aload_n hx hb dL_bridge_31 rfl (lv_at hl 0 rfl) ?_
  refine lv_iconst (v := 0) hx hb dL_bridge_32 (by decide) ?_
  refine lv_sipush (v := 500) hx hb dL_bridge_33 (by decide) ?_
  refine lv_bipush (v := 7) hx hb dL_bridge_36 (by decide) ?_
  refine O_addLine hfl hM hE hX hO hl (f_addLine (r := 1) (by decide +kernel)) (mk_24 _ 0) (by decide) (Nat.le_of_ble_eq_true rfl) ⟨Nat.le_of_ble_eq_true rfl, Nat.le_of_ble_eq_true rfl⟩ dL_bridge_38 (fun L F H locs hX hO => ?_)
  have hO : Ob γ o (mk br_tb2) 2 L F := hO
  refine lv_iconst (v := 1) hx hb dL_bridge_41 (by decide) ?_
  refine lv_icmp_ne (tgt := 401) hx hb dL_bridge_42 (by decide) (fun h9 => absurd (show (1 : Int32) = 1 from (by decide)) h9) (fun _ => ?_)
  refine lv_aload_n hx hb dL_bridge_45 rfl (lv_at hl 0 rfl) ?_
  refine lv_iconst (v := 0) hx hb dL_bridge_46 (by decide) ?_
  refine lv_bipush (v := 99) hx hb dL_bridge_47 (by decide) ?_
  refine lv_iconst (v := 0) hx hb dL_bridge_49 (by decide) ?_
  refine O_addLine hfl hM hE hX hO hl (f_addLine (r := 2) (by decide +kernel)) (mk_24 _ 0) (by decide) (Nat.le_of_ble_eq_true rfl) ⟨Nat.le_of_ble_eq_true rfl, Nat.le_of_ble_eq_true rfl⟩ dL_bridge_50 (fun L F H locs hX hO => ?_)
  have hO : Ob γ o (mk br_tb3) 3 L F := hO
  refine lv_iconst (v := 2) hx hb dL_bridge_53 (by decide) ?_
  refine lv_icmp_ne (tgt := 401) hx hb dL_bridge_54 (by decide) (fun h9 => absurd (show (2 : Int32) = 2 from (by decide)) h9) (fun _ => ?_)
  refine lv_aload_n hx hb dL_bridge_57 rfl (lv_at hl 0 rfl) ?_
  refine lv_iconst (v := 1) hx hb dL_bridge_58 (by decide) ?_
  refine lv_iconst (v := 0) hx hb dL_bridge_59 (by decide) ?_
  refine lv_iconst (v := 1) hx hb dL_bridge_60 (by decide) ?_
  refine lv_iconst (v := 0) hx hb dL_bridge_61 (by decide) ?_
  refine lv_iconst (v := 0) hx hb dL_bridge_62 (by decide) ?_
  refine lv_iconst (v := 0) hx hb dL_bridge_63 (by decide) ?_
  refine A_no_1 (q := 3) (v := (-7000003)) hfl hM hE hX hO hl (by simp) (by decide +kernel) (by decide) (by decide) ⟨Nat.le_of_ble_eq_true rfl, Nat.le_of_ble_eq_true rfl⟩ dL_bridge_64 (fun L F H locs hX hO => ?_)
  refine lv_ldc hx hb hM.2.2.2.1 (hM.2.2.2.2.1 _ k_990) dL_bridge_67 ?_
  refine lv_icmp_ne (tgt := 401) hx hb dL_bridge_69 (by decide) (fun h9 => absurd (show ((-7000003) : Int32) = (-7000003) from (by decide)) h9) (fun _ => ?_)
  refine lv_aload_n hx hb dL_bridge_72 rfl (lv_at hl 0 rfl) ?_
  refine lv_iconst (v := 0) hx hb dL_bridge_73 (by decide) ?_
  refine lv_iconst (v := 0) hx hb dL_bridge_74 (by decide) ?_
  refine lv_iconst (v := 0) hx hb dL_bridge_75 (by decide) ?_
  refine lv_sipush (v := 1824) hx hb dL_bridge_76 (by decide) ?_
  refine lv_iconst (v := 0) hx hb dL_bridge_79 (by decide) ?_
  refine lv_iconst (v := 0) hx hb dL_bridge_80 (by decide) ?_
  refine H_about  hfl hM hE hX hO hl (by decide +kernel) (by decide) (Nat.le_of_ble_eq_true rfl) ⟨Nat.le_of_ble_eq_true rfl, Nat.le_of_ble_eq_true rfl⟩ dL_bridge_81 (fun L F H locs hX hO => ?_)
  refine lv_if_eq (tgt := 401) hx hb dL_bridge_84 (by decide) (fun h9 => absurd h9 (show ¬ (1 : Int32) = 0 from (by decide))) (fun _ => ?_)
  refine lv_aload_n hx hb dL_bridge_87 rfl (lv_at hl 0 rfl) ?_
  refine lv_iconst (v := 0) hx hb dL_bridge_88 (by decide) ?_
  refine lv_bipush (v := 9) hx hb dL_bridge_89 (by decide) ?_
  refine O_about hfl hM hE hX hO hl (r := 225) (by decide +kernel) (by decide +kernel) (by decide) (Nat.le_of_ble_eq_true rfl) ⟨Nat.le_of_ble_eq_true rfl, Nat.le_of_ble_eq_true rfl⟩ dL_bridge_91 (fun L F H locs hX hO => ?_)
  refine lv_sipush (v := 225) hx hb dL_bridge_94 (by decide) ?_
  refine lv_icmp_ne (tgt := 401) hx hb dL_bridge_97 (by decide) (fun h9 => absurd (show (225 : Int32) = 225 from (by decide)) h9) (fun _ => ?_)
  exact W.widen (k := 1306) (n := 176418) (Nat.le_of_ble_eq_true rfl) (Nat.le_of_ble_eq_true rfl) (kk L F H locs ls hX hO hl)
set_option maxHeartbeats 8000000 in
set_option maxRecDepth 100000 in
theorem br_1 (hfl : l.stackTraces = false) (hM : kM p s m args meth c cL_bridge 1 ret "InvoicebridgeLaw") (hE : kE γ A s) (hX : kX γ A s L F H locs) (hO : Ob γ o (mk br_tb3) 3 L F) (hl : lv_has ls 1 [(0, .ref o)])
    (kk : ∀ (L : List Nat) (F : kF) (H : Heap) (locs : List Loc) (ls : Array Slot), kX γ A s L F H locs → Ob γ o (mk br_tb4) 4 L F → lv_has ls 1 [(0, .ref o)] → W p l e (kRm 12 9890 1299582) s m args below meth c H locs 1325 177596 Q (F0 m 189 ls [])) : W p l e (kRm 12 9890 1299582) s m args below meth c H locs 1306 176418 Q (F0 m 100 ls []) := by
  have hx := hM.1
  have hb := hM.2.1
  refine lv_aload_n hx hb dL_bridge_100 rfl (lv_at hl 0 rfl) ?_
  refine lv_iconst (v := 0) hx hb dL_bridge_101 (by decide) ?_
  refine lv_bipush (v := 7) hx hb dL_bridge_102 (by decide) ?_
  refine O_about hfl hM hE hX hO hl (r := 3) (by decide +kernel) (by decide +kernel) (by decide) (Nat.le_of_ble_eq_true rfl) ⟨Nat.le_of_ble_eq_true rfl, Nat.le_of_ble_eq_true rfl⟩ dL_bridge_104 (fun L F H locs hX hO => ?_)
  refine lv_iconst (v := 3) hx hb dL_bridge_107 (by decide) ?_
  refine lv_icmp_ne (tgt := 401) hx hb dL_bridge_108 (by decide) (fun h9 => absurd (show (3 : Int32) = 3 from (by decide)) h9) (fun _ => ?_)
  refine lv_aload_n hx hb dL_bridge_111 rfl (lv_at hl 0 rfl) ?_
  refine lv_iconst (v := 0) hx hb dL_bridge_112 (by decide) ?_
  refine lv_iconst (v := 1) hx hb dL_bridge_113 (by decide) ?_
  refine lv_iconst (v := 2) hx hb dL_bridge_114 (by decide) ?_
  refine O_lineOf hfl hM hE hX hO hl (r := 35) (by decide +kernel) (by decide +kernel) (by decide) (Nat.le_of_ble_eq_true rfl) ⟨Nat.le_of_ble_eq_true rfl, Nat.le_of_ble_eq_true rfl⟩ dL_bridge_115 (fun L F H locs hX hO => ?_)
  refine lv_bipush (v := 35) hx hb dL_bridge_118 (by decide) ?_
  refine lv_icmp_ne (tgt := 401) hx hb dL_bridge_120 (by decide) (fun h9 => absurd (show (35 : Int32) = 35 from (by decide)) h9) (fun _ => ?_)
  refine lv_aload_n hx hb dL_bridge_123 rfl (lv_at hl 0 rfl) ?_
  refine lv_iconst (v := 5) hx hb dL_bridge_124 (by decide) ?_
  refine lv_iconst (v := 0) hx hb dL_bridge_125 (by decide) ?_
  refine lv_iconst (v := 0) hx hb dL_bridge_126 (by decide) ?_
  refine lv_iconst (v := 0) hx hb dL_bridge_127 (by decide) ?_
  refine lv_iconst (v := 0) hx hb dL_bridge_128 (by decide) ?_
  refine lv_iconst (v := 0) hx hb dL_bridge_129 (by decide) ?_
  refine A_no_5 (q := 2) (v := (-7000003)) hfl hM hE hX hO hl (by simp) (by decide +kernel) (by decide) (by decide) ⟨Nat.le_of_ble_eq_true rfl, Nat.le_of_ble_eq_true rfl⟩ dL_bridge_130 (fun L F H locs hX hO => ?_)
  refine lv_ldc hx hb hM.2.2.2.1 (hM.2.2.2.2.1 _ k_990) dL_bridge_133 ?_
  refine lv_icmp_ne (tgt := 401) hx hb dL_bridge_135 (by decide) (fun h9 => absurd (show ((-7000003) : Int32) = (-7000003) from (by decide)) h9) (fun _ => ?_)
  refine lv_aload_n hx hb dL_bridge_138 rfl (lv_at hl 0 rfl) ?_
  refine lv_bipush (v := 7) hx hb dL_bridge_139 (by decide) ?_
  refine lv_iconst (v := 0) hx hb dL_bridge_141 (by decide) ?_
  refine lv_iconst (v := 2) hx hb dL_bridge_142 (by decide) ?_
  refine lv_bipush (v := 50) hx hb dL_bridge_143 (by decide) ?_
  refine lv_iconst (v := 1) hx hb dL_bridge_145 (by decide) ?_
  refine lv_iconst (v := 0) hx hb dL_bridge_146 (by decide) ?_
  refine A_no_7 (q := 3) (v := (-7000003)) hfl hM hE hX hO hl (by decide +kernel) (by simp) (by decide +kernel) (by decide) (by decide) ⟨Nat.le_of_ble_eq_true rfl, Nat.le_of_ble_eq_true rfl⟩ dL_bridge_147 (fun L F H locs hX hO => ?_)
  refine lv_ldc hx hb hM.2.2.2.1 (hM.2.2.2.2.1 _ k_990) dL_bridge_150 ?_
  refine lv_icmp_ne (tgt := 401) hx hb dL_bridge_152 (by decide) (fun h9 => absurd (show ((-7000003) : Int32) = (-7000003) from (by decide)) h9) (fun _ => ?_)
  refine lv_aload_n hx hb dL_bridge_155 rfl (lv_at hl 0 rfl) ?_
  refine lv_iconst (v := 1) hx hb dL_bridge_156 (by decide) ?_
  refine O_owes hfl hM hE hX hO hl (r := 0) (by decide +kernel) (by decide +kernel) (by decide) (Nat.le_of_ble_eq_true rfl) ⟨Nat.le_of_ble_eq_true rfl, Nat.le_of_ble_eq_true rfl⟩ dL_bridge_157 (fun L F H locs hX hO => ?_)
  refine lv_if_ne (tgt := 401) hx hb dL_bridge_160 (by decide) (fun h9 => absurd (show (0 : Int32) = 0 from (by decide)) h9) (fun _ => ?_)
  refine lv_aload_n hx hb dL_bridge_163 rfl (lv_at hl 0 rfl) ?_
  refine lv_iconst (v := 0) hx hb dL_bridge_164 (by decide) ?_
  refine O_accept hfl hM hE hX hO hl (f_accept (r := 1824) (by decide +kernel)) (mk_24 _ 0) (by decide) (Nat.le_of_ble_eq_true rfl) ⟨Nat.le_of_ble_eq_true rfl, Nat.le_of_ble_eq_true rfl⟩ dL_bridge_165 (fun L F H locs hX hO => ?_)
  have hO : Ob γ o (mk br_tb4) 4 L F := hO
  refine lv_sipush (v := 1824) hx hb dL_bridge_168 (by decide) ?_
  refine lv_icmp_ne (tgt := 401) hx hb dL_bridge_171 (by decide) (fun h9 => absurd (show (1824 : Int32) = 1824 from (by decide)) h9) (fun _ => ?_)
  refine lv_aload_n hx hb dL_bridge_174 rfl (lv_at hl 0 rfl) ?_
  refine lv_iconst (v := 2) hx hb dL_bridge_175 (by decide) ?_
  refine lv_iconst (v := 0) hx hb dL_bridge_176 (by decide) ?_
  refine lv_iconst (v := 0) hx hb dL_bridge_177 (by decide) ?_
  refine lv_iconst (v := 0) hx hb dL_bridge_178 (by decide) ?_
  refine lv_iconst (v := 0) hx hb dL_bridge_179 (by decide) ?_
  refine lv_iconst (v := 0) hx hb dL_bridge_180 (by decide) ?_
  refine A_no_2 (q := 2) (v := (-7000003)) hfl hM hE hX hO hl (by simp) (by decide +kernel) (by decide) (by decide) ⟨Nat.le_of_ble_eq_true rfl, Nat.le_of_ble_eq_true rfl⟩ dL_bridge_181 (fun L F H locs hX hO => ?_)
  refine lv_ldc hx hb hM.2.2.2.1 (hM.2.2.2.2.1 _ k_990) dL_bridge_184 ?_
  refine lv_icmp_ne (tgt := 401) hx hb dL_bridge_186 (by decide) (fun h9 => absurd (show ((-7000003) : Int32) = (-7000003) from (by decide)) h9) (fun _ => ?_)
  exact W.widen (k := 1325) (n := 177596) (Nat.le_of_ble_eq_true rfl) (Nat.le_of_ble_eq_true rfl) (kk L F H locs ls hX hO hl)
set_option maxHeartbeats 8000000 in
set_option maxRecDepth 100000 in
theorem br_2 (hfl : l.stackTraces = false) (hM : kM p s m args meth c cL_bridge 1 ret "InvoicebridgeLaw") (hE : kE γ A s) (hX : kX γ A s L F H locs) (hO : Ob γ o (mk br_tb4) 4 L F) (hl : lv_has ls 1 [(0, .ref o)])
    (kk : ∀ (L : List Nat) (F : kF) (H : Heap) (locs : List Loc) (ls : Array Slot), kX γ A s L F H locs → Ob γ o (mk br_tb5) 5 L F → lv_has ls 1 [(0, .ref o)] → W p l e (kRm 12 9890 1299582) s m args below meth c H locs 1348 179856 Q (F0 m 284 ls [])) : W p l e (kRm 12 9890 1299582) s m args below meth c H locs 1325 177596 Q (F0 m 189 ls []) := by
  have hx := hM.1
  have hb := hM.2.1
  refine lv_aload_n hx hb dL_bridge_189 rfl (lv_at hl 0 rfl) ?_
  refine lv_iconst (v := 3) hx hb dL_bridge_190 (by decide) ?_
  refine lv_iconst (v := 0) hx hb dL_bridge_191 (by decide) ?_
  refine lv_iconst (v := 0) hx hb dL_bridge_192 (by decide) ?_
  refine lv_iconst (v := 0) hx hb dL_bridge_193 (by decide) ?_
  refine lv_iconst (v := 0) hx hb dL_bridge_194 (by decide) ?_
  refine lv_iconst (v := 0) hx hb dL_bridge_195 (by decide) ?_
  refine A_no_3 (q := 2) (v := (-7000003)) hfl hM hE hX hO hl (by simp) (by decide +kernel) (by decide) (by decide) ⟨Nat.le_of_ble_eq_true rfl, Nat.le_of_ble_eq_true rfl⟩ dL_bridge_196 (fun L F H locs hX hO => ?_)
  refine lv_ldc hx hb hM.2.2.2.1 (hM.2.2.2.2.1 _ k_990) dL_bridge_199 ?_
  refine lv_icmp_ne (tgt := 401) hx hb dL_bridge_201 (by decide) (fun h9 => absurd (show ((-7000003) : Int32) = (-7000003) from (by decide)) h9) (fun _ => ?_)
  refine lv_aload_n hx hb dL_bridge_204 rfl (lv_at hl 0 rfl) ?_
  refine lv_iconst (v := 1) hx hb dL_bridge_205 (by decide) ?_
  refine lv_iconst (v := 0) hx hb dL_bridge_206 (by decide) ?_
  refine lv_iconst (v := 1) hx hb dL_bridge_207 (by decide) ?_
  refine lv_iconst (v := 0) hx hb dL_bridge_208 (by decide) ?_
  refine lv_iconst (v := 0) hx hb dL_bridge_209 (by decide) ?_
  refine lv_iconst (v := 0) hx hb dL_bridge_210 (by decide) ?_
  refine A_no_1 (q := 3) (v := (-7000003)) hfl hM hE hX hO hl (by simp) (by decide +kernel) (by decide) (by decide) ⟨Nat.le_of_ble_eq_true rfl, Nat.le_of_ble_eq_true rfl⟩ dL_bridge_211 (fun L F H locs hX hO => ?_)
  refine lv_ldc hx hb hM.2.2.2.1 (hM.2.2.2.2.1 _ k_990) dL_bridge_214 ?_
  refine lv_icmp_ne (tgt := 401) hx hb dL_bridge_216 (by decide) (fun h9 => absurd (show ((-7000003) : Int32) = (-7000003) from (by decide)) h9) (fun _ => ?_)
  refine lv_aload_n hx hb dL_bridge_219 rfl (lv_at hl 0 rfl) ?_
  refine lv_iconst (v := 0) hx hb dL_bridge_220 (by decide) ?_
  refine lv_iconst (v := 1) hx hb dL_bridge_221 (by decide) ?_
  refine O_dispute hfl hM hE hX hO hl (f_dispute (r := 1289) (by decide +kernel)) (mk_24 _ 0) (by decide) (Nat.le_of_ble_eq_true rfl) ⟨Nat.le_of_ble_eq_true rfl, Nat.le_of_ble_eq_true rfl⟩ dL_bridge_222 (fun L F H locs hX hO => ?_)
  have hO : Ob γ o (mk br_tb5) 5 L F := hO
  refine lv_sipush (v := 1289) hx hb dL_bridge_225 (by decide) ?_
  refine lv_icmp_ne (tgt := 401) hx hb dL_bridge_228 (by decide) (fun h9 => absurd (show (1289 : Int32) = 1289 from (by decide)) h9) (fun _ => ?_)
  refine lv_aload_n hx hb dL_bridge_231 rfl (lv_at hl 0 rfl) ?_
  refine lv_iconst (v := 5) hx hb dL_bridge_232 (by decide) ?_
  refine lv_iconst (v := 0) hx hb dL_bridge_233 (by decide) ?_
  refine lv_iconst (v := 1) hx hb dL_bridge_234 (by decide) ?_
  refine lv_iconst (v := 0) hx hb dL_bridge_235 (by decide) ?_
  refine lv_iconst (v := 0) hx hb dL_bridge_236 (by decide) ?_
  refine lv_iconst (v := 0) hx hb dL_bridge_237 (by decide) ?_
  refine A_no_5 (q := 2) (v := (-7000003)) hfl hM hE hX hO hl (by simp) (by decide +kernel) (by decide) (by decide) ⟨Nat.le_of_ble_eq_true rfl, Nat.le_of_ble_eq_true rfl⟩ dL_bridge_238 (fun L F H locs hX hO => ?_)
  refine lv_ldc hx hb hM.2.2.2.1 (hM.2.2.2.2.1 _ k_990) dL_bridge_241 ?_
  refine lv_icmp_ne (tgt := 401) hx hb dL_bridge_243 (by decide) (fun h9 => absurd (show ((-7000003) : Int32) = (-7000003) from (by decide)) h9) (fun _ => ?_)
  refine lv_aload_n hx hb dL_bridge_246 rfl (lv_at hl 0 rfl) ?_
  refine lv_bipush (v := 6) hx hb dL_bridge_247 (by decide) ?_
  refine lv_iconst (v := 0) hx hb dL_bridge_249 (by decide) ?_
  refine lv_iconst (v := 0) hx hb dL_bridge_250 (by decide) ?_
  refine lv_iconst (v := 1) hx hb dL_bridge_251 (by decide) ?_
  refine lv_iconst (v := 0) hx hb dL_bridge_252 (by decide) ?_
  refine lv_iconst (v := 0) hx hb dL_bridge_253 (by decide) ?_
  refine A_no_6 (q := 2) (v := (-7000003)) hfl hM hE hX hO hl (by simp) (by decide +kernel) (by decide) (by decide) ⟨Nat.le_of_ble_eq_true rfl, Nat.le_of_ble_eq_true rfl⟩ dL_bridge_254 (fun L F H locs hX hO => ?_)
  refine lv_ldc hx hb hM.2.2.2.1 (hM.2.2.2.2.1 _ k_990) dL_bridge_257 ?_
  refine lv_icmp_ne (tgt := 401) hx hb dL_bridge_259 (by decide) (fun h9 => absurd (show ((-7000003) : Int32) = (-7000003) from (by decide)) h9) (fun _ => ?_)
  refine lv_aload_n hx hb dL_bridge_262 rfl (lv_at hl 0 rfl) ?_
  refine lv_iconst (v := 1) hx hb dL_bridge_263 (by decide) ?_
  refine O_owes hfl hM hE hX hO hl (r := 1289) (by decide +kernel) (by decide +kernel) (by decide) (Nat.le_of_ble_eq_true rfl) ⟨Nat.le_of_ble_eq_true rfl, Nat.le_of_ble_eq_true rfl⟩ dL_bridge_264 (fun L F H locs hX hO => ?_)
  refine lv_sipush (v := 1289) hx hb dL_bridge_267 (by decide) ?_
  refine lv_icmp_ne (tgt := 401) hx hb dL_bridge_270 (by decide) (fun h9 => absurd (show (1289 : Int32) = 1289 from (by decide)) h9) (fun _ => ?_)
  refine lv_aload_n hx hb dL_bridge_273 rfl (lv_at hl 0 rfl) ?_
  refine lv_iconst (v := 0) hx hb dL_bridge_274 (by decide) ?_
  refine O_owedTo hfl hM hE hX hO hl (r := 1289) (by decide +kernel) (by decide +kernel) (by decide) (Nat.le_of_ble_eq_true rfl) ⟨Nat.le_of_ble_eq_true rfl, Nat.le_of_ble_eq_true rfl⟩ dL_bridge_275 (fun L F H locs hX hO => ?_)
  refine lv_sipush (v := 1289) hx hb dL_bridge_278 (by decide) ?_
  refine lv_icmp_ne (tgt := 401) hx hb dL_bridge_281 (by decide) (fun h9 => absurd (show (1289 : Int32) = 1289 from (by decide)) h9) (fun _ => ?_)
  exact W.widen (k := 1348) (n := 179856) (Nat.le_of_ble_eq_true rfl) (Nat.le_of_ble_eq_true rfl) (kk L F H locs ls hX hO hl)
set_option maxHeartbeats 8000000 in
set_option maxRecDepth 100000 in
theorem br_3 (hfl : l.stackTraces = false) (hM : kM p s m args meth c cL_bridge 1 ret "InvoicebridgeLaw") (hE : kE γ A s) (hX : kX γ A s L F H locs) (hO : Ob γ o (mk br_tb5) 5 L F) (hl : lv_has ls 1 [(0, .ref o)])
    (kk : ∀ (L : List Nat) (F : kF) (H : Heap) (locs : List Loc) (ls : Array Slot), kX γ A s L F H locs → Ob γ o (mk br_tb6) 6 L F → lv_has ls 1 [(0, .ref o)] → W p l e (kRm 12 9890 1299582) s m args below meth c H locs 1378 182164 Q (F0 m 376 ls [])) : W p l e (kRm 12 9890 1299582) s m args below meth c H locs 1348 179856 Q (F0 m 284 ls []) := by
  have hx := hM.1
  have hb := hM.2.1
  refine lv_aload_n hx hb dL_bridge_284 rfl (lv_at hl 0 rfl) ?_
  refine lv_iconst (v := 0) hx hb dL_bridge_285 (by decide) ?_
  refine lv_iconst (v := 1) hx hb dL_bridge_286 (by decide) ?_
  refine lv_iconst (v := 3) hx hb dL_bridge_287 (by decide) ?_
  refine O_lineOf hfl hM hE hX hO hl (r := 1) (by decide +kernel) (by decide +kernel) (by decide) (Nat.le_of_ble_eq_true rfl) ⟨Nat.le_of_ble_eq_true rfl, Nat.le_of_ble_eq_true rfl⟩ dL_bridge_288 (fun L F H locs hX hO => ?_)
  refine lv_iconst (v := 1) hx hb dL_bridge_291 (by decide) ?_
  refine lv_icmp_ne (tgt := 401) hx hb dL_bridge_292 (by decide) (fun h9 => absurd (show (1 : Int32) = 1 from (by decide)) h9) (fun _ => ?_)
  refine lv_aload_n hx hb dL_bridge_295 rfl (lv_at hl 0 rfl) ?_
  refine lv_bipush (v := 8) hx hb dL_bridge_296 (by decide) ?_
  refine lv_iconst (v := 0) hx hb dL_bridge_298 (by decide) ?_
  refine lv_iconst (v := 0) hx hb dL_bridge_299 (by decide) ?_
  refine lv_iconst (v := 0) hx hb dL_bridge_300 (by decide) ?_
  refine lv_iconst (v := 0) hx hb dL_bridge_301 (by decide) ?_
  refine lv_iconst (v := 0) hx hb dL_bridge_302 (by decide) ?_
  refine A_no_8 (q := 2) (v := (-7000003)) hfl hM hE hX hO hl (by decide +kernel) (by simp) (by decide +kernel) (by decide) (by decide) ⟨Nat.le_of_ble_eq_true rfl, Nat.le_of_ble_eq_true rfl⟩ dL_bridge_303 (fun L F H locs hX hO => ?_)
  refine lv_ldc hx hb hM.2.2.2.1 (hM.2.2.2.2.1 _ k_990) dL_bridge_306 ?_
  refine lv_icmp_ne (tgt := 401) hx hb dL_bridge_308 (by decide) (fun h9 => absurd (show ((-7000003) : Int32) = (-7000003) from (by decide)) h9) (fun _ => ?_)
  refine lv_aload_n hx hb dL_bridge_311 rfl (lv_at hl 0 rfl) ?_
  refine lv_iconst (v := 0) hx hb dL_bridge_312 (by decide) ?_
  refine lv_iconst (v := 2) hx hb dL_bridge_313 (by decide) ?_
  refine lv_bipush (v := 90) hx hb dL_bridge_314 (by decide) ?_
  refine lv_iconst (v := 1) hx hb dL_bridge_316 (by decide) ?_
  refine O_sell hfl hM hE hX hO hl (by decide +kernel) (by decide +kernel) (f_sell (r := 1160) (by decide +kernel)) (mk_24 _ 0) (by decide) (Nat.le_of_ble_eq_true rfl) ⟨Nat.le_of_ble_eq_true rfl, Nat.le_of_ble_eq_true rfl⟩ dL_bridge_317 (fun L F H locs hX hO => ?_)
  have hO : Ob γ o (mk br_tb6) 6 L F := hO
  refine lv_sipush (v := 1160) hx hb dL_bridge_320 (by decide) ?_
  refine lv_icmp_ne (tgt := 401) hx hb dL_bridge_323 (by decide) (fun h9 => absurd (show (1160 : Int32) = 1160 from (by decide)) h9) (fun _ => ?_)
  refine lv_aload_n hx hb dL_bridge_326 rfl (lv_at hl 0 rfl) ?_
  refine lv_iconst (v := 2) hx hb dL_bridge_327 (by decide) ?_
  refine lv_sipush (v := (-1160)) hx hb dL_bridge_328 (by decide) ?_
  refine H_cash  hfl hM hE hX hO hl (by decide +kernel) (by decide) (Nat.le_of_ble_eq_true rfl) ⟨Nat.le_of_ble_eq_true rfl, Nat.le_of_ble_eq_true rfl⟩ dL_bridge_331 (fun L F H locs hX hO => ?_)
  refine lv_if_eq (tgt := 401) hx hb dL_bridge_334 (by decide) (fun h9 => absurd h9 (show ¬ (1 : Int32) = 0 from (by decide))) (fun _ => ?_)
  refine lv_aload_n hx hb dL_bridge_337 rfl (lv_at hl 0 rfl) ?_
  refine lv_iconst (v := 0) hx hb dL_bridge_338 (by decide) ?_
  refine lv_sipush (v := 1160) hx hb dL_bridge_339 (by decide) ?_
  refine H_cash  hfl hM hE hX hO hl (by decide +kernel) (by decide) (Nat.le_of_ble_eq_true rfl) ⟨Nat.le_of_ble_eq_true rfl, Nat.le_of_ble_eq_true rfl⟩ dL_bridge_342 (fun L F H locs hX hO => ?_)
  refine lv_if_eq (tgt := 401) hx hb dL_bridge_345 (by decide) (fun h9 => absurd h9 (show ¬ (1 : Int32) = 0 from (by decide))) (fun _ => ?_)
  refine lv_aload_n hx hb dL_bridge_348 rfl (lv_at hl 0 rfl) ?_
  refine lv_iconst (v := 0) hx hb dL_bridge_349 (by decide) ?_
  refine lv_iconst (v := 1) hx hb dL_bridge_350 (by decide) ?_
  refine lv_iconst (v := 2) hx hb dL_bridge_351 (by decide) ?_
  refine lv_sipush (v := 1824) hx hb dL_bridge_352 (by decide) ?_
  refine lv_sipush (v := 1289) hx hb dL_bridge_355 (by decide) ?_
  refine lv_iconst (v := 0) hx hb dL_bridge_358 (by decide) ?_
  refine H_about  hfl hM hE hX hO hl (by decide +kernel) (by decide) (Nat.le_of_ble_eq_true rfl) ⟨Nat.le_of_ble_eq_true rfl, Nat.le_of_ble_eq_true rfl⟩ dL_bridge_359 (fun L F H locs hX hO => ?_)
  refine lv_if_eq (tgt := 401) hx hb dL_bridge_362 (by decide) (fun h9 => absurd h9 (show ¬ (1 : Int32) = 0 from (by decide))) (fun _ => ?_)
  refine lv_aload_n hx hb dL_bridge_365 rfl (lv_at hl 0 rfl) ?_
  refine lv_iconst (v := 2) hx hb dL_bridge_366 (by decide) ?_
  refine O_owedTo hfl hM hE hX hO hl (r := 1289) (by decide +kernel) (by decide +kernel) (by decide) (Nat.le_of_ble_eq_true rfl) ⟨Nat.le_of_ble_eq_true rfl, Nat.le_of_ble_eq_true rfl⟩ dL_bridge_367 (fun L F H locs hX hO => ?_)
  refine lv_sipush (v := 1289) hx hb dL_bridge_370 (by decide) ?_
  refine lv_icmp_ne (tgt := 401) hx hb dL_bridge_373 (by decide) (fun h9 => absurd (show (1289 : Int32) = 1289 from (by decide)) h9) (fun _ => ?_)
  exact W.widen (k := 1378) (n := 182164) (Nat.le_of_ble_eq_true rfl) (Nat.le_of_ble_eq_true rfl) (kk L F H locs ls hX hO hl)
set_option maxHeartbeats 8000000 in
set_option maxRecDepth 100000 in
theorem br_4 (hfl : l.stackTraces = false) (hM : kM p s m args meth c cL_bridge 1 ret "InvoicebridgeLaw") (hE : kE γ A s) (hX : kX γ A s L F H locs) (hO : Ob γ o (mk br_tb6) 6 L F) (hl : lv_has ls 1 [(0, .ref o)])
    (kk : ∀ (L : List Nat) (F : kF) (H : Heap) (locs : List Loc) (ls : Array Slot), kX γ A s L F H locs → Ob γ o (mk br_tb8) 10 L F → lv_has ls 1 [(0, .ref o)] → W p l e (kRm 12 9890 1299582) s m args below meth c H locs 1423 187730 Q (F0 m 477 ls [])) : W p l e (kRm 12 9890 1299582) s m args below meth c H locs 1378 182164 Q (F0 m 376 ls []) := by
  have hx := hM.1
  have hb := hM.2.1
  refine lv_aload_n hx hb dL_bridge_376 rfl (lv_at hl 0 rfl) ?_
  refine lv_iconst (v := 0) hx hb dL_bridge_377 (by decide) ?_
  refine O_owedTo hfl hM hE hX hO hl (r := 0) (by decide +kernel) (by decide +kernel) (by decide) (Nat.le_of_ble_eq_true rfl) ⟨Nat.le_of_ble_eq_true rfl, Nat.le_of_ble_eq_true rfl⟩ dL_bridge_378 (fun L F H locs hX hO => ?_)
  refine lv_if_ne (tgt := 401) hx hb dL_bridge_381 (by decide) (fun h9 => absurd (show (0 : Int32) = 0 from (by decide)) h9) (fun _ => ?_)
  refine lv_aload_n hx hb dL_bridge_384 rfl (lv_at hl 0 rfl) ?_
  refine lv_bipush (v := 7) hx hb dL_bridge_385 (by decide) ?_
  refine lv_iconst (v := 0) hx hb dL_bridge_387 (by decide) ?_
  refine lv_iconst (v := 3) hx hb dL_bridge_388 (by decide) ?_
  refine lv_bipush (v := 50) hx hb dL_bridge_389 (by decide) ?_
  refine lv_iconst (v := 1) hx hb dL_bridge_391 (by decide) ?_
  refine lv_iconst (v := 0) hx hb dL_bridge_392 (by decide) ?_
  refine A_no_7 (q := 3) (v := (-7000003)) hfl hM hE hX hO hl (by decide +kernel) (by simp) (by decide +kernel) (by decide) (by decide) ⟨Nat.le_of_ble_eq_true rfl, Nat.le_of_ble_eq_true rfl⟩ dL_bridge_393 (fun L F H locs hX hO => ?_)
  refine lv_ldc hx hb hM.2.2.2.1 (hM.2.2.2.2.1 _ k_990) dL_bridge_396 ?_
  refine lv_icmp_eq (tgt := 403) hx hb dL_bridge_398 (by decide) (fun _ => ?_) (fun h9 => absurd (show ((-7000003) : Int32) = (-7000003) from (by decide)) h9)
  refine lv_aload_n hx hb dL_bridge_403 rfl (lv_at hl 0 rfl) ?_
  refine lv_ldc2 hx hb hM.2.2.2.1 (hM.2.2.2.2.1 _ k_1017) dL_bridge_404 ?_
  refine lv_iconst (v := 2) hx hb dL_bridge_407 (by decide) ?_
  refine H_types (n9 := 2) (r := (-1)) hfl hM hE hX hO hl (by decide) (by decide) (by decide +kernel) (ty_mk _ _ _) (by decide +kernel) (by decide) (Nat.le_of_ble_eq_true rfl) ⟨Nat.le_of_ble_eq_true rfl, Nat.le_of_ble_eq_true rfl⟩ dL_bridge_408 (fun L F H locs hX hO => ?_)
  have hO : Ob γ o (mk br_tb7) 9 L F := hO
  refine lv_iconst (v := (-1)) hx hb dL_bridge_411 (by decide) ?_
  refine lv_icmp_ne (tgt := 817) hx hb dL_bridge_412 (by decide) (fun h9 => absurd (show ((-1) : Int32) = (-1) from (by decide)) h9) (fun _ => ?_)
  refine lv_aload_n hx hb dL_bridge_415 rfl (lv_at hl 0 rfl) ?_
  refine lv_bipush (v := 10) hx hb dL_bridge_416 (by decide) ?_
  refine lv_iconst (v := 1) hx hb dL_bridge_418 (by decide) ?_
  refine lv_iconst (v := 0) hx hb dL_bridge_419 (by decide) ?_
  refine lv_iconst (v := 5) hx hb dL_bridge_420 (by decide) ?_
  refine lv_iconst (v := 0) hx hb dL_bridge_421 (by decide) ?_
  refine lv_iconst (v := 0) hx hb dL_bridge_422 (by decide) ?_
  refine A_no_10 (q := 3) (v := (-7000003)) hfl hM hE hX hO hl (by decide +kernel) (by simp) (by decide +kernel) (by decide) (by decide) ⟨Nat.le_of_ble_eq_true rfl, Nat.le_of_ble_eq_true rfl⟩ dL_bridge_423 (fun L F H locs hX hO => ?_)
  refine lv_ldc hx hb hM.2.2.2.1 (hM.2.2.2.2.1 _ k_990) dL_bridge_426 ?_
  refine lv_icmp_ne (tgt := 817) hx hb dL_bridge_428 (by decide) (fun h9 => absurd (show ((-7000003) : Int32) = (-7000003) from (by decide)) h9) (fun _ => ?_)
  refine lv_aload_n hx hb dL_bridge_431 rfl (lv_at hl 0 rfl) ?_
  refine lv_bipush (v := 10) hx hb dL_bridge_432 (by decide) ?_
  refine lv_iconst (v := 0) hx hb dL_bridge_434 (by decide) ?_
  refine lv_iconst (v := 2) hx hb dL_bridge_435 (by decide) ?_
  refine lv_iconst (v := 5) hx hb dL_bridge_436 (by decide) ?_
  refine lv_iconst (v := 0) hx hb dL_bridge_437 (by decide) ?_
  refine lv_iconst (v := 0) hx hb dL_bridge_438 (by decide) ?_
  refine A_no_10 (q := 3) (v := (-7000003)) hfl hM hE hX hO hl (by decide +kernel) (by simp) (by decide +kernel) (by decide) (by decide) ⟨Nat.le_of_ble_eq_true rfl, Nat.le_of_ble_eq_true rfl⟩ dL_bridge_439 (fun L F H locs hX hO => ?_)
  refine lv_ldc hx hb hM.2.2.2.1 (hM.2.2.2.2.1 _ k_990) dL_bridge_442 ?_
  refine lv_icmp_ne (tgt := 817) hx hb dL_bridge_444 (by decide) (fun h9 => absurd (show ((-7000003) : Int32) = (-7000003) from (by decide)) h9) (fun _ => ?_)
  refine lv_aload_n hx hb dL_bridge_447 rfl (lv_at hl 0 rfl) ?_
  refine lv_bipush (v := 10) hx hb dL_bridge_448 (by decide) ?_
  refine lv_iconst (v := 1) hx hb dL_bridge_450 (by decide) ?_
  refine lv_iconst (v := 2) hx hb dL_bridge_451 (by decide) ?_
  refine lv_sipush (v := 1290) hx hb dL_bridge_452 (by decide) ?_
  refine lv_iconst (v := 0) hx hb dL_bridge_455 (by decide) ?_
  refine lv_iconst (v := 0) hx hb dL_bridge_456 (by decide) ?_
  refine A_no_10 (q := 3) (v := (-7000003)) hfl hM hE hX hO hl (by decide +kernel) (by simp) (by decide +kernel) (by decide) (by decide) ⟨Nat.le_of_ble_eq_true rfl, Nat.le_of_ble_eq_true rfl⟩ dL_bridge_457 (fun L F H locs hX hO => ?_)
  refine lv_ldc hx hb hM.2.2.2.1 (hM.2.2.2.2.1 _ k_990) dL_bridge_460 ?_
  refine lv_icmp_ne (tgt := 817) hx hb dL_bridge_462 (by decide) (fun h9 => absurd (show ((-7000003) : Int32) = (-7000003) from (by decide)) h9) (fun _ => ?_)
  refine lv_aload_n hx hb dL_bridge_465 rfl (lv_at hl 0 rfl) ?_
  refine lv_iconst (v := 1) hx hb dL_bridge_466 (by decide) ?_
  refine lv_iconst (v := 2) hx hb dL_bridge_467 (by decide) ?_
  refine lv_sipush (v := 1000) hx hb dL_bridge_468 (by decide) ?_
  refine O_payByText hfl hM hE hX hO hl (by decide +kernel) (f_payText (r := 0) (by decide +kernel)) (mk_24 _ 0) (by decide) (Nat.le_of_ble_eq_true rfl) ⟨Nat.le_of_ble_eq_true rfl, Nat.le_of_ble_eq_true rfl⟩ dL_bridge_471 (fun L F H locs hX hO => ?_)
  have hO : Ob γ o (mk br_tb8) 10 L F := hO
  refine lv_if_ne (tgt := 817) hx hb dL_bridge_474 (by decide) (fun h9 => absurd (show (0 : Int32) = 0 from (by decide)) h9) (fun _ => ?_)
  exact W.widen (k := 1423) (n := 187730) (Nat.le_of_ble_eq_true rfl) (Nat.le_of_ble_eq_true rfl) (kk L F H locs ls hX hO hl)
set_option maxHeartbeats 8000000 in
set_option maxRecDepth 100000 in
theorem br_5 (hfl : l.stackTraces = false) (hM : kM p s m args meth c cL_bridge 1 ret "InvoicebridgeLaw") (hE : kE γ A s) (hX : kX γ A s L F H locs) (hO : Ob γ o (mk br_tb8) 10 L F) (hl : lv_has ls 1 [(0, .ref o)])
    (kk : ∀ (L : List Nat) (F : kF) (H : Heap) (locs : List Loc) (ls : Array Slot), kX γ A s L F H locs → Ob γ o (mk br_tb9) 11 L F → lv_has ls 1 [(0, .ref o)] → W p l e (kRm 12 9890 1299582) s m args below meth c H locs 1451 190014 Q (F0 m 566 ls [])) : W p l e (kRm 12 9890 1299582) s m args below meth c H locs 1423 187730 Q (F0 m 477 ls []) := by
  have hx := hM.1
  have hb := hM.2.1
  refine lv_aload_n hx hb dL_bridge_477 rfl (lv_at hl 0 rfl) ?_
  refine O_fault hM hE hX hO hl (r := 0) (by decide +kernel) (by decide) (Nat.le_of_ble_eq_true rfl) ⟨Nat.le_of_ble_eq_true rfl, Nat.le_of_ble_eq_true rfl⟩ dL_bridge_478 (fun L F H locs hX hO => ?_)
  refine lv_if_ne (tgt := 817) hx hb dL_bridge_481 (by decide) (fun h9 => absurd (show (0 : Int32) = 0 from (by decide)) h9) (fun _ => ?_)
  refine lv_aload_n hx hb dL_bridge_484 rfl (lv_at hl 0 rfl) ?_
  refine O_clear hM hE hX hO hl (f_clear (r := 0) (by decide +kernel)) (by decide) (Nat.le_of_ble_eq_true rfl) ⟨Nat.le_of_ble_eq_true rfl, Nat.le_of_ble_eq_true rfl⟩ dL_bridge_485 (fun L F H locs hX hO => ?_)
  have hO : Ob γ o (mk br_tb9) 11 L F := hO
  refine lv_if_ne (tgt := 817) hx hb dL_bridge_488 (by decide) (fun h9 => absurd (show (0 : Int32) = 0 from (by decide)) h9) (fun _ => ?_)
  refine lv_aload_n hx hb dL_bridge_491 rfl (lv_at hl 0 rfl) ?_
  refine lv_bipush (v := 10) hx hb dL_bridge_492 (by decide) ?_
  refine lv_iconst (v := 1) hx hb dL_bridge_494 (by decide) ?_
  refine lv_iconst (v := 2) hx hb dL_bridge_495 (by decide) ?_
  refine lv_iconst (v := 5) hx hb dL_bridge_496 (by decide) ?_
  refine lv_iconst (v := 0) hx hb dL_bridge_497 (by decide) ?_
  refine lv_iconst (v := 0) hx hb dL_bridge_498 (by decide) ?_
  refine A_no_10 (q := 3) (v := (-7000003)) hfl hM hE hX hO hl (by decide +kernel) (by simp) (by decide +kernel) (by decide) (by decide) ⟨Nat.le_of_ble_eq_true rfl, Nat.le_of_ble_eq_true rfl⟩ dL_bridge_499 (fun L F H locs hX hO => ?_)
  refine lv_ldc hx hb hM.2.2.2.1 (hM.2.2.2.2.1 _ k_990) dL_bridge_502 ?_
  refine lv_icmp_ne (tgt := 817) hx hb dL_bridge_504 (by decide) (fun h9 => absurd (show ((-7000003) : Int32) = (-7000003) from (by decide)) h9) (fun _ => ?_)
  refine lv_aload_n hx hb dL_bridge_507 rfl (lv_at hl 0 rfl) ?_
  refine lv_iconst (v := 0) hx hb dL_bridge_508 (by decide) ?_
  refine lv_iconst (v := 1) hx hb dL_bridge_509 (by decide) ?_
  refine lv_iconst (v := 2) hx hb dL_bridge_510 (by decide) ?_
  refine lv_sipush (v := 1824) hx hb dL_bridge_511 (by decide) ?_
  refine lv_sipush (v := 289) hx hb dL_bridge_514 (by decide) ?_
  refine lv_sipush (v := 1000) hx hb dL_bridge_517 (by decide) ?_
  refine H_about  hfl hM hE hX hO hl (by decide +kernel) (by decide) (Nat.le_of_ble_eq_true rfl) ⟨Nat.le_of_ble_eq_true rfl, Nat.le_of_ble_eq_true rfl⟩ dL_bridge_520 (fun L F H locs hX hO => ?_)
  refine lv_if_eq (tgt := 817) hx hb dL_bridge_523 (by decide) (fun h9 => absurd h9 (show ¬ (1 : Int32) = 0 from (by decide))) (fun _ => ?_)
  refine lv_aload_n hx hb dL_bridge_526 rfl (lv_at hl 0 rfl) ?_
  refine lv_iconst (v := 1) hx hb dL_bridge_527 (by decide) ?_
  refine lv_sipush (v := (-1000)) hx hb dL_bridge_528 (by decide) ?_
  refine H_cash  hfl hM hE hX hO hl (by decide +kernel) (by decide) (Nat.le_of_ble_eq_true rfl) ⟨Nat.le_of_ble_eq_true rfl, Nat.le_of_ble_eq_true rfl⟩ dL_bridge_531 (fun L F H locs hX hO => ?_)
  refine lv_if_eq (tgt := 817) hx hb dL_bridge_534 (by decide) (fun h9 => absurd h9 (show ¬ (1 : Int32) = 0 from (by decide))) (fun _ => ?_)
  refine lv_aload_n hx hb dL_bridge_537 rfl (lv_at hl 0 rfl) ?_
  refine lv_iconst (v := 2) hx hb dL_bridge_538 (by decide) ?_
  refine lv_sipush (v := (-160)) hx hb dL_bridge_539 (by decide) ?_
  refine H_cash  hfl hM hE hX hO hl (by decide +kernel) (by decide) (Nat.le_of_ble_eq_true rfl) ⟨Nat.le_of_ble_eq_true rfl, Nat.le_of_ble_eq_true rfl⟩ dL_bridge_542 (fun L F H locs hX hO => ?_)
  refine lv_if_eq (tgt := 817) hx hb dL_bridge_545 (by decide) (fun h9 => absurd h9 (show ¬ (1 : Int32) = 0 from (by decide))) (fun _ => ?_)
  refine lv_aload_n hx hb dL_bridge_548 rfl (lv_at hl 0 rfl) ?_
  refine lv_bipush (v := 11) hx hb dL_bridge_549 (by decide) ?_
  refine lv_iconst (v := 1) hx hb dL_bridge_551 (by decide) ?_
  refine lv_iconst (v := 2) hx hb dL_bridge_552 (by decide) ?_
  refine lv_sipush (v := 288) hx hb dL_bridge_553 (by decide) ?_
  refine lv_iconst (v := 0) hx hb dL_bridge_556 (by decide) ?_
  refine lv_iconst (v := 0) hx hb dL_bridge_557 (by decide) ?_
  refine A_no_11 (q := 3) (v := (-7000003)) hfl hM hE hX hO hl (by decide +kernel) (by simp) (by decide +kernel) (by decide) (by decide) ⟨Nat.le_of_ble_eq_true rfl, Nat.le_of_ble_eq_true rfl⟩ dL_bridge_558 (fun L F H locs hX hO => ?_)
  refine lv_ldc hx hb hM.2.2.2.1 (hM.2.2.2.2.1 _ k_990) dL_bridge_561 ?_
  refine lv_icmp_ne (tgt := 817) hx hb dL_bridge_563 (by decide) (fun h9 => absurd (show ((-7000003) : Int32) = (-7000003) from (by decide)) h9) (fun _ => ?_)
  exact W.widen (k := 1451) (n := 190014) (Nat.le_of_ble_eq_true rfl) (Nat.le_of_ble_eq_true rfl) (kk L F H locs ls hX hO hl)
set_option maxHeartbeats 8000000 in
set_option maxRecDepth 100000 in
theorem br_6 (hfl : l.stackTraces = false) (hM : kM p s m args meth c cL_bridge 1 ret "InvoicebridgeLaw") (hE : kE γ A s) (hX : kX γ A s L F H locs) (hO : Ob γ o (mk br_tb9) 11 L F) (hl : lv_has ls 1 [(0, .ref o)])
    (kk : ∀ (L : List Nat) (F : kF) (H : Heap) (locs : List Loc) (ls : Array Slot), kX γ A s L F H locs → Ob γ o (mk br_tb12) 14 L F → lv_has ls 1 [(0, .ref o)] → W p l e (kRm 12 9890 1299582) s m args below meth c H locs 1487 195538 Q (F0 m 658 ls [])) : W p l e (kRm 12 9890 1299582) s m args below meth c H locs 1451 190014 Q (F0 m 566 ls []) := by
  have hx := hM.1
  have hb := hM.2.1
  refine lv_aload_n hx hb dL_bridge_566 rfl (lv_at hl 0 rfl) ?_
  refine lv_bipush (v := 11) hx hb dL_bridge_567 (by decide) ?_
  refine lv_iconst (v := 1) hx hb dL_bridge_569 (by decide) ?_
  refine lv_iconst (v := 0) hx hb dL_bridge_570 (by decide) ?_
  refine lv_sipush (v := 289) hx hb dL_bridge_571 (by decide) ?_
  refine lv_iconst (v := 0) hx hb dL_bridge_574 (by decide) ?_
  refine lv_iconst (v := 0) hx hb dL_bridge_575 (by decide) ?_
  refine A_no_11 (q := 3) (v := (-7000003)) hfl hM hE hX hO hl (by decide +kernel) (by simp) (by decide +kernel) (by decide) (by decide) ⟨Nat.le_of_ble_eq_true rfl, Nat.le_of_ble_eq_true rfl⟩ dL_bridge_576 (fun L F H locs hX hO => ?_)
  refine lv_ldc hx hb hM.2.2.2.1 (hM.2.2.2.2.1 _ k_990) dL_bridge_579 ?_
  refine lv_icmp_ne (tgt := 817) hx hb dL_bridge_581 (by decide) (fun h9 => absurd (show ((-7000003) : Int32) = (-7000003) from (by decide)) h9) (fun _ => ?_)
  refine lv_aload_n hx hb dL_bridge_584 rfl (lv_at hl 0 rfl) ?_
  refine lv_iconst (v := 1) hx hb dL_bridge_585 (by decide) ?_
  refine lv_iconst (v := 2) hx hb dL_bridge_586 (by decide) ?_
  refine lv_sipush (v := 289) hx hb dL_bridge_587 (by decide) ?_
  refine O_payBySum hfl hM hE hX hO hl (by decide +kernel) (f_paySum (r := 0) (by decide +kernel)) (mk_24 _ 0) (by decide) (Nat.le_of_ble_eq_true rfl) ⟨Nat.le_of_ble_eq_true rfl, Nat.le_of_ble_eq_true rfl⟩ dL_bridge_590 (fun L F H locs hX hO => ?_)
  have hO : Ob γ o (mk br_tb10) 12 L F := hO
  refine lv_if_ne (tgt := 817) hx hb dL_bridge_593 (by decide) (fun h9 => absurd (show (0 : Int32) = 0 from (by decide)) h9) (fun _ => ?_)
  refine lv_aload_n hx hb dL_bridge_596 rfl (lv_at hl 0 rfl) ?_
  refine lv_iconst (v := 1) hx hb dL_bridge_597 (by decide) ?_
  refine lv_sipush (v := (-1289)) hx hb dL_bridge_598 (by decide) ?_
  refine H_cash  hfl hM hE hX hO hl (by decide +kernel) (by decide) (Nat.le_of_ble_eq_true rfl) ⟨Nat.le_of_ble_eq_true rfl, Nat.le_of_ble_eq_true rfl⟩ dL_bridge_601 (fun L F H locs hX hO => ?_)
  refine lv_if_eq (tgt := 817) hx hb dL_bridge_604 (by decide) (fun h9 => absurd h9 (show ¬ (1 : Int32) = 0 from (by decide))) (fun _ => ?_)
  refine lv_aload_n hx hb dL_bridge_607 rfl (lv_at hl 0 rfl) ?_
  refine lv_iconst (v := 2) hx hb dL_bridge_608 (by decide) ?_
  refine lv_sipush (v := 129) hx hb dL_bridge_609 (by decide) ?_
  refine H_cash  hfl hM hE hX hO hl (by decide +kernel) (by decide) (Nat.le_of_ble_eq_true rfl) ⟨Nat.le_of_ble_eq_true rfl, Nat.le_of_ble_eq_true rfl⟩ dL_bridge_612 (fun L F H locs hX hO => ?_)
  refine lv_if_eq (tgt := 817) hx hb dL_bridge_615 (by decide) (fun h9 => absurd h9 (show ¬ (1 : Int32) = 0 from (by decide))) (fun _ => ?_)
  refine lv_aload_n hx hb dL_bridge_618 rfl (lv_at hl 0 rfl) ?_
  refine lv_bipush (v := 8) hx hb dL_bridge_619 (by decide) ?_
  refine lv_iconst (v := 0) hx hb dL_bridge_621 (by decide) ?_
  refine lv_iconst (v := 0) hx hb dL_bridge_622 (by decide) ?_
  refine lv_iconst (v := 0) hx hb dL_bridge_623 (by decide) ?_
  refine lv_iconst (v := 0) hx hb dL_bridge_624 (by decide) ?_
  refine lv_iconst (v := 0) hx hb dL_bridge_625 (by decide) ?_
  refine A_no_8 (q := 2) (v := (-7000003)) hfl hM hE hX hO hl (by decide +kernel) (by simp) (by decide +kernel) (by decide) (by decide) ⟨Nat.le_of_ble_eq_true rfl, Nat.le_of_ble_eq_true rfl⟩ dL_bridge_626 (fun L F H locs hX hO => ?_)
  refine lv_ldc hx hb hM.2.2.2.1 (hM.2.2.2.2.1 _ k_990) dL_bridge_629 ?_
  refine lv_icmp_ne (tgt := 817) hx hb dL_bridge_631 (by decide) (fun h9 => absurd (show ((-7000003) : Int32) = (-7000003) from (by decide)) h9) (fun _ => ?_)
  refine lv_aload_n hx hb dL_bridge_634 rfl (lv_at hl 0 rfl) ?_
  refine lv_iconst (v := 0) hx hb dL_bridge_635 (by decide) ?_
  refine lv_iconst (v := 1) hx hb dL_bridge_636 (by decide) ?_
  refine lv_iconst (v := 0) hx hb dL_bridge_637 (by decide) ?_
  refine O_settle hfl hM hE hX hO hl (f_settle (r := 535) (by decide +kernel)) (mk_24 _ 0) (by decide) (Nat.le_of_ble_eq_true rfl) ⟨Nat.le_of_ble_eq_true rfl, Nat.le_of_ble_eq_true rfl⟩ dL_bridge_638 (fun L F H locs hX hO => ?_)
  have hO : Ob γ o (mk br_tb11) 13 L F := hO
  refine lv_sipush (v := 535) hx hb dL_bridge_641 (by decide) ?_
  refine lv_icmp_ne (tgt := 817) hx hb dL_bridge_644 (by decide) (fun h9 => absurd (show (535 : Int32) = 535 from (by decide)) h9) (fun _ => ?_)
  refine lv_aload_n hx hb dL_bridge_647 rfl (lv_at hl 0 rfl) ?_
  refine lv_iconst (v := 0) hx hb dL_bridge_648 (by decide) ?_
  refine O_giveBack hfl hM hE hX hO hl (by decide +kernel) (f_giveBack (r := 1160) (by decide +kernel)) (mk_24 _ 0) (by decide) (Nat.le_of_ble_eq_true rfl) ⟨Nat.le_of_ble_eq_true rfl, Nat.le_of_ble_eq_true rfl⟩ dL_bridge_649 (fun L F H locs hX hO => ?_)
  have hO : Ob γ o (mk br_tb12) 14 L F := hO
  refine lv_sipush (v := 1160) hx hb dL_bridge_652 (by decide) ?_
  refine lv_icmp_ne (tgt := 817) hx hb dL_bridge_655 (by decide) (fun h9 => absurd (show (1160 : Int32) = 1160 from (by decide)) h9) (fun _ => ?_)
  exact W.widen (k := 1487) (n := 195538) (Nat.le_of_ble_eq_true rfl) (Nat.le_of_ble_eq_true rfl) (kk L F H locs ls hX hO hl)
set_option maxHeartbeats 8000000 in
set_option maxRecDepth 100000 in
theorem br_7 (hfl : l.stackTraces = false) (hM : kM p s m args meth c cL_bridge 1 ret "InvoicebridgeLaw") (hE : kE γ A s) (hX : kX γ A s L F H locs) (hO : Ob γ o (mk br_tb12) 14 L F) (hl : lv_has ls 1 [(0, .ref o)])
    (kk : ∀ (L : List Nat) (F : kF) (H : Heap) (locs : List Loc) (ls : Array Slot), kX γ A s L F H locs → Ob γ o (mk br_tb13) 15 L F → lv_has ls 1 [(0, .ref o)] → W p l e (kRm 12 9890 1299582) s m args below meth c H locs 1519 197858 Q (F0 m 753 ls [])) : W p l e (kRm 12 9890 1299582) s m args below meth c H locs 1487 195538 Q (F0 m 658 ls []) := by
  have hx := hM.1
  have hb := hM.2.1
  refine lv_aload_n hx hb dL_bridge_658 rfl (lv_at hl 0 rfl) ?_
  refine lv_iconst (v := 0) hx hb dL_bridge_659 (by decide) ?_
  refine lv_iconst (v := 0) hx hb dL_bridge_660 (by decide) ?_
  refine H_cash  hfl hM hE hX hO hl (by decide +kernel) (by decide) (Nat.le_of_ble_eq_true rfl) ⟨Nat.le_of_ble_eq_true rfl, Nat.le_of_ble_eq_true rfl⟩ dL_bridge_661 (fun L F H locs hX hO => ?_)
  refine lv_if_eq (tgt := 817) hx hb dL_bridge_664 (by decide) (fun h9 => absurd h9 (show ¬ (1 : Int32) = 0 from (by decide))) (fun _ => ?_)
  refine lv_aload_n hx hb dL_bridge_667 rfl (lv_at hl 0 rfl) ?_
  refine lv_iconst (v := 2) hx hb dL_bridge_668 (by decide) ?_
  refine lv_sipush (v := 1289) hx hb dL_bridge_669 (by decide) ?_
  refine H_cash  hfl hM hE hX hO hl (by decide +kernel) (by decide) (Nat.le_of_ble_eq_true rfl) ⟨Nat.le_of_ble_eq_true rfl, Nat.le_of_ble_eq_true rfl⟩ dL_bridge_672 (fun L F H locs hX hO => ?_)
  refine lv_if_eq (tgt := 817) hx hb dL_bridge_675 (by decide) (fun h9 => absurd h9 (show ¬ (1 : Int32) = 0 from (by decide))) (fun _ => ?_)
  refine lv_aload_n hx hb dL_bridge_678 rfl (lv_at hl 0 rfl) ?_
  refine lv_iconst (v := 0) hx hb dL_bridge_679 (by decide) ?_
  refine lv_iconst (v := 1) hx hb dL_bridge_680 (by decide) ?_
  refine lv_iconst (v := 0) hx hb dL_bridge_681 (by decide) ?_
  refine lv_sipush (v := 1824) hx hb dL_bridge_682 (by decide) ?_
  refine lv_sipush (v := 535) hx hb dL_bridge_685 (by decide) ?_
  refine lv_sipush (v := 1289) hx hb dL_bridge_688 (by decide) ?_
  refine H_about  hfl hM hE hX hO hl (by decide +kernel) (by decide) (Nat.le_of_ble_eq_true rfl) ⟨Nat.le_of_ble_eq_true rfl, Nat.le_of_ble_eq_true rfl⟩ dL_bridge_691 (fun L F H locs hX hO => ?_)
  refine lv_if_eq (tgt := 817) hx hb dL_bridge_694 (by decide) (fun h9 => absurd h9 (show ¬ (1 : Int32) = 0 from (by decide))) (fun _ => ?_)
  refine lv_aload_n hx hb dL_bridge_697 rfl (lv_at hl 0 rfl) ?_
  refine lv_bipush (v := 8) hx hb dL_bridge_698 (by decide) ?_
  refine lv_iconst (v := 0) hx hb dL_bridge_700 (by decide) ?_
  refine lv_iconst (v := 0) hx hb dL_bridge_701 (by decide) ?_
  refine lv_iconst (v := 0) hx hb dL_bridge_702 (by decide) ?_
  refine lv_iconst (v := 0) hx hb dL_bridge_703 (by decide) ?_
  refine lv_iconst (v := 0) hx hb dL_bridge_704 (by decide) ?_
  refine A_no_8 (q := 2) (v := (-7000003)) hfl hM hE hX hO hl (by decide +kernel) (by simp) (by decide +kernel) (by decide) (by decide) ⟨Nat.le_of_ble_eq_true rfl, Nat.le_of_ble_eq_true rfl⟩ dL_bridge_705 (fun L F H locs hX hO => ?_)
  refine lv_ldc hx hb hM.2.2.2.1 (hM.2.2.2.2.1 _ k_990) dL_bridge_708 ?_
  refine lv_icmp_ne (tgt := 817) hx hb dL_bridge_710 (by decide) (fun h9 => absurd (show ((-7000003) : Int32) = (-7000003) from (by decide)) h9) (fun _ => ?_)
  refine lv_aload_n hx hb dL_bridge_713 rfl (lv_at hl 0 rfl) ?_
  refine lv_iconst (v := 0) hx hb dL_bridge_714 (by decide) ?_
  refine lv_iconst (v := 0) hx hb dL_bridge_715 (by decide) ?_
  refine lv_bipush (v := 100) hx hb dL_bridge_716 (by decide) ?_
  refine O_credit hfl hM hE hX hO hl (f_credit (r := 900) (by decide +kernel)) (mk_24 _ 0) (by decide) (Nat.le_of_ble_eq_true rfl) ⟨Nat.le_of_ble_eq_true rfl, Nat.le_of_ble_eq_true rfl⟩ dL_bridge_718 (fun L F H locs hX hO => ?_)
  have hO : Ob γ o (mk br_tb13) 15 L F := hO
  refine lv_sipush (v := 900) hx hb dL_bridge_721 (by decide) ?_
  refine lv_icmp_ne (tgt := 817) hx hb dL_bridge_724 (by decide) (fun h9 => absurd (show (900 : Int32) = 900 from (by decide)) h9) (fun _ => ?_)
  refine lv_aload_n hx hb dL_bridge_727 rfl (lv_at hl 0 rfl) ?_
  refine lv_iconst (v := 0) hx hb dL_bridge_728 (by decide) ?_
  refine lv_iconst (v := 0) hx hb dL_bridge_729 (by decide) ?_
  refine lv_iconst (v := 2) hx hb dL_bridge_730 (by decide) ?_
  refine O_lineOf hfl hM hE hX hO hl (r := 171) (by decide +kernel) (by decide +kernel) (by decide) (Nat.le_of_ble_eq_true rfl) ⟨Nat.le_of_ble_eq_true rfl, Nat.le_of_ble_eq_true rfl⟩ dL_bridge_731 (fun L F H locs hX hO => ?_)
  refine lv_sipush (v := 171) hx hb dL_bridge_734 (by decide) ?_
  refine lv_icmp_ne (tgt := 817) hx hb dL_bridge_737 (by decide) (fun h9 => absurd (show (171 : Int32) = 171 from (by decide)) h9) (fun _ => ?_)
  refine lv_aload_n hx hb dL_bridge_740 rfl (lv_at hl 0 rfl) ?_
  refine lv_iconst (v := 0) hx hb dL_bridge_741 (by decide) ?_
  refine lv_iconst (v := 0) hx hb dL_bridge_742 (by decide) ?_
  refine lv_iconst (v := 4) hx hb dL_bridge_743 (by decide) ?_
  refine O_lineOf hfl hM hE hX hO hl (r := 1000) (by decide +kernel) (by decide +kernel) (by decide) (Nat.le_of_ble_eq_true rfl) ⟨Nat.le_of_ble_eq_true rfl, Nat.le_of_ble_eq_true rfl⟩ dL_bridge_744 (fun L F H locs hX hO => ?_)
  refine lv_sipush (v := 1000) hx hb dL_bridge_747 (by decide) ?_
  refine lv_icmp_ne (tgt := 817) hx hb dL_bridge_750 (by decide) (fun h9 => absurd (show (1000 : Int32) = 1000 from (by decide)) h9) (fun _ => ?_)
  exact W.widen (k := 1519) (n := 197858) (Nat.le_of_ble_eq_true rfl) (Nat.le_of_ble_eq_true rfl) (kk L F H locs ls hX hO hl)
end FX
