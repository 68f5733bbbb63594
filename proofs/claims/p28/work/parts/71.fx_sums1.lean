section FX
variable {p : Program} {l : Launch} {e : Env} {R : Room} {s : State} {m : MethodId} {args : Array Value} {below : List Frame} {meth : Method} {c : Code} {H : Heap} {locs : List Loc} {cells slots : Nat} {Q : State → Prop}
variable {cc : ByteArray} {nL : Nat} {ret : Option FieldType} {γ : kG} {A : Nat → Prop} {L : List Nat} {F : kF} {pc : Nat} {ls : Array Slot} {rest : List Value} {o n : Nat} {M M1 : mM} {lv : List (Nat × Value)} {r : Int32}
set_option maxHeartbeats 8000000 in
set_option maxRecDepth 100000 in
theorem su_0 (hfl : l.stackTraces = false) (hM : kM p s m args meth c cL_sums 1 ret "InvoicebridgeLaw") (hE : kE γ A s) (hX : kX γ A s L F H locs) (hO : Ob γ o (mk su_tb0) 0 L F) (hl : lv_has ls 1 [(0, .ref o)])
    (kk : ∀ (L : List Nat) (F : kF) (H : Heap) (locs : List Loc) (ls : Array Slot), kX γ A s L F H locs → Ob γ o (mk su_tb6) 6 L F → lv_has ls 1 [(0, .ref o)] → W p l e (kRm 11 1542 205742) s m args below meth c H locs 89 11330 Q (F0 m 100 ls [])) : W p l e (kRm 11 1542 205742) s m args below meth c H locs 11 106 Q (F0 m 8 ls []) := by
  have hx := hM.1
  have hb := hM.2.1
  refine lv_aload_n hx hb dL_sums_8 rfl (lv_at hl 0 rfl) ?_
  refine lv_iconst (v := 2) hx hb dL_sums_9 (by decide) ?_
  refine lv_iconst (v := 3) hx hb dL_sums_10 (by decide) ?_
  refine lv_iconst (v := 1) hx hb dL_sums_11 (by decide) ?_
  refine lv_bipush (v := 100) hx hb dL_sums_12 (by decide) ?_
  refine lv_bipush (v := 19) hx hb dL_sums_14 (by decide) ?_
  refine O_send hfl hM hE hX hO hl (f_send (r := 0) (by decide +kernel)) (mk_24 _ 0) (by decide) (Nat.le_of_ble_eq_true rfl) ⟨Nat.le_of_ble_eq_true rfl, Nat.le_of_ble_eq_true rfl⟩ dL_sums_16 (fun L F H locs hX hO => ?_)
  have hO : Ob γ o (mk su_tb1) 1 L F := hO
  refine lv_if_ne (tgt := 313) hx hb dL_sums_19 (by decide) (fun h9 => absurd (show (0 : Int32) = 0 from (by decide)) h9) (fun _ => ?_)
  refine lv_aload_n hx hb dL_sums_22 rfl (lv_at hl 0 rfl) ?_
  refine lv_iconst (v := 2) hx hb dL_sums_23 (by decide) ?_
  refine lv_iconst (v := 3) hx hb dL_sums_24 (by decide) ?_
  refine lv_iconst (v := 1) hx hb dL_sums_25 (by decide) ?_
  refine lv_bipush (v := 119) hx hb dL_sums_26 (by decide) ?_
  refine lv_iconst (v := 0) hx hb dL_sums_28 (by decide) ?_
  refine O_send hfl hM hE hX hO hl (f_send (r := 1) (by decide +kernel)) (mk_24 _ 0) (by decide) (Nat.le_of_ble_eq_true rfl) ⟨Nat.le_of_ble_eq_true rfl, Nat.le_of_ble_eq_true rfl⟩ dL_sums_29 (fun L F H locs hX hO => ?_)
  have hO : Ob γ o (mk su_tb2) 2 L F := hO
  refine lv_iconst (v := 1) hx hb dL_sums_32 (by decide) ?_
  refine lv_icmp_ne (tgt := 313) hx hb dL_sums_33 (by decide) (fun h9 => absurd (show (1 : Int32) = 1 from (by decide)) h9) (fun _ => ?_)
  refine lv_aload_n hx hb dL_sums_36 rfl (lv_at hl 0 rfl) ?_
  refine lv_iconst (v := 2) hx hb dL_sums_37 (by decide) ?_
  refine lv_iconst (v := 4) hx hb dL_sums_38 (by decide) ?_
  refine lv_iconst (v := 1) hx hb dL_sums_39 (by decide) ?_
  refine lv_bipush (v := 100) hx hb dL_sums_40 (by decide) ?_
  refine lv_bipush (v := 19) hx hb dL_sums_42 (by decide) ?_
  refine O_send hfl hM hE hX hO hl (f_send (r := 2) (by decide +kernel)) (mk_24 _ 0) (by decide) (Nat.le_of_ble_eq_true rfl) ⟨Nat.le_of_ble_eq_true rfl, Nat.le_of_ble_eq_true rfl⟩ dL_sums_44 (fun L F H locs hX hO => ?_)
  have hO : Ob γ o (mk su_tb3) 3 L F := hO
  refine lv_iconst (v := 2) hx hb dL_sums_47 (by decide) ?_
  refine lv_icmp_ne (tgt := 313) hx hb dL_sums_48 (by decide) (fun h9 => absurd (show (2 : Int32) = 2 from (by decide)) h9) (fun _ => ?_)
  refine lv_aload_n hx hb dL_sums_51 rfl (lv_at hl 0 rfl) ?_
  refine lv_iconst (v := 1) hx hb dL_sums_52 (by decide) ?_
  refine O_accept hfl hM hE hX hO hl (f_accept (r := 119) (by decide +kernel)) (mk_24 _ 0) (by decide) (Nat.le_of_ble_eq_true rfl) ⟨Nat.le_of_ble_eq_true rfl, Nat.le_of_ble_eq_true rfl⟩ dL_sums_53 (fun L F H locs hX hO => ?_)
  have hO : Ob γ o (mk su_tb4) 4 L F := hO
  refine lv_bipush (v := 119) hx hb dL_sums_56 (by decide) ?_
  refine lv_icmp_ne (tgt := 313) hx hb dL_sums_58 (by decide) (fun h9 => absurd (show (119 : Int32) = 119 from (by decide)) h9) (fun _ => ?_)
  refine lv_aload_n hx hb dL_sums_61 rfl (lv_at hl 0 rfl) ?_
  refine lv_iconst (v := 2) hx hb dL_sums_62 (by decide) ?_
  refine O_accept hfl hM hE hX hO hl (f_accept (r := 119) (by decide +kernel)) (mk_24 _ 0) (by decide) (Nat.le_of_ble_eq_true rfl) ⟨Nat.le_of_ble_eq_true rfl, Nat.le_of_ble_eq_true rfl⟩ dL_sums_63 (fun L F H locs hX hO => ?_)
  have hO : Ob γ o (mk su_tb5) 5 L F := hO
  refine lv_bipush (v := 119) hx hb dL_sums_66 (by decide) ?_
  refine lv_icmp_ne (tgt := 313) hx hb dL_sums_68 (by decide) (fun h9 => absurd (show (119 : Int32) = 119 from (by decide)) h9) (fun _ => ?_)
  refine lv_aload_n hx hb dL_sums_71 rfl (lv_at hl 0 rfl) ?_
  refine lv_bipush (v := 11) hx hb dL_sums_72 (by decide) ?_
  refine lv_iconst (v := 3) hx hb dL_sums_74 (by decide) ?_
  refine lv_iconst (v := 2) hx hb dL_sums_75 (by decide) ?_
  refine lv_bipush (v := 118) hx hb dL_sums_76 (by decide) ?_
  refine lv_iconst (v := 0) hx hb dL_sums_78 (by decide) ?_
  refine lv_iconst (v := 0) hx hb dL_sums_79 (by decide) ?_
  refine A_no_11 (q := 3) (v := (-7000003)) hfl hM hE hX hO hl (by decide +kernel) (by simp) (by decide +kernel) (by decide) (by decide) ⟨Nat.le_of_ble_eq_true rfl, Nat.le_of_ble_eq_true rfl⟩ dL_sums_80 (fun L F H locs hX hO => ?_)
  refine lv_ldc hx hb hM.2.2.2.1 (hM.2.2.2.2.1 _ k_990) dL_sums_83 ?_
  refine lv_icmp_ne (tgt := 313) hx hb dL_sums_85 (by decide) (fun h9 => absurd (show ((-7000003) : Int32) = (-7000003) from (by decide)) h9) (fun _ => ?_)
  refine lv_aload_n hx hb dL_sums_88 rfl (lv_at hl 0 rfl) ?_
  refine lv_iconst (v := 3) hx hb dL_sums_89 (by decide) ?_
  refine lv_iconst (v := 2) hx hb dL_sums_90 (by decide) ?_
  refine lv_bipush (v := 119) hx hb dL_sums_91 (by decide) ?_
  refine O_payBySum hfl hM hE hX hO hl (by decide +kernel) (f_paySum (r := 1) (by decide +kernel)) (mk_24 _ 0) (by decide) (Nat.le_of_ble_eq_true rfl) ⟨Nat.le_of_ble_eq_true rfl, Nat.le_of_ble_eq_true rfl⟩ dL_sums_93 (fun L F H locs hX hO => ?_)
  have hO : Ob γ o (mk su_tb6) 6 L F := hO
  refine lv_iconst (v := 1) hx hb dL_sums_96 (by decide) ?_
  refine lv_icmp_ne (tgt := 313) hx hb dL_sums_97 (by decide) (fun h9 => absurd (show (1 : Int32) = 1 from (by decide)) h9) (fun _ => ?_)
  exact W.widen (k := 89) (n := 11330) (Nat.le_of_ble_eq_true rfl) (Nat.le_of_ble_eq_true rfl) (kk L F H locs ls hX hO hl)
set_option maxHeartbeats 8000000 in
set_option maxRecDepth 100000 in
theorem su_1 (hfl : l.stackTraces = false) (hM : kM p s m args meth c cL_sums 1 ret "InvoicebridgeLaw") (hE : kE γ A s) (hX : kX γ A s L F H locs) (hO : Ob γ o (mk su_tb6) 6 L F) (hl : lv_has ls 1 [(0, .ref o)])
    (kk : ∀ (L : List Nat) (F : kF) (H : Heap) (locs : List Loc) (ls : Array Slot), kX γ A s L F H locs → Ob γ o (mk su_tb9) 9 L F → lv_has ls 1 [(0, .ref o)] → W p l e (kRm 11 1542 205742) s m args below meth c H locs 121 15766 Q (F0 m 186 ls [])) : W p l e (kRm 11 1542 205742) s m args below meth c H locs 89 11330 Q (F0 m 100 ls []) := by
  have hx := hM.1
  have hb := hM.2.1
  refine lv_aload_n hx hb dL_sums_100 rfl (lv_at hl 0 rfl) ?_
  refine lv_iconst (v := 0) hx hb dL_sums_101 (by decide) ?_
  refine O_accept hfl hM hE hX hO hl (f_accept (r := 119) (by decide +kernel)) (mk_24 _ 0) (by decide) (Nat.le_of_ble_eq_true rfl) ⟨Nat.le_of_ble_eq_true rfl, Nat.le_of_ble_eq_true rfl⟩ dL_sums_102 (fun L F H locs hX hO => ?_)
  have hO : Ob γ o (mk su_tb7) 7 L F := hO
  refine lv_bipush (v := 119) hx hb dL_sums_105 (by decide) ?_
  refine lv_icmp_ne (tgt := 313) hx hb dL_sums_107 (by decide) (fun h9 => absurd (show (119 : Int32) = 119 from (by decide)) h9) (fun _ => ?_)
  refine lv_aload_n hx hb dL_sums_110 rfl (lv_at hl 0 rfl) ?_
  refine lv_iconst (v := 0) hx hb dL_sums_111 (by decide) ?_
  refine lv_iconst (v := 5) hx hb dL_sums_112 (by decide) ?_
  refine lv_iconst (v := 1) hx hb dL_sums_113 (by decide) ?_
  refine lv_iconst (v := 0) hx hb dL_sums_114 (by decide) ?_
  refine O_sell hfl hM hE hX hO hl (by decide +kernel) (by decide +kernel) (f_sell (r := 1) (by decide +kernel)) (mk_24 _ 0) (by decide) (Nat.le_of_ble_eq_true rfl) ⟨Nat.le_of_ble_eq_true rfl, Nat.le_of_ble_eq_true rfl⟩ dL_sums_115 (fun L F H locs hX hO => ?_)
  have hO : Ob γ o (mk su_tb8) 8 L F := hO
  refine lv_iconst (v := 1) hx hb dL_sums_118 (by decide) ?_
  refine lv_icmp_ne (tgt := 313) hx hb dL_sums_119 (by decide) (fun h9 => absurd (show (1 : Int32) = 1 from (by decide)) h9) (fun _ => ?_)
  refine lv_aload_n hx hb dL_sums_122 rfl (lv_at hl 0 rfl) ?_
  refine lv_bipush (v := 11) hx hb dL_sums_123 (by decide) ?_
  refine lv_iconst (v := 3) hx hb dL_sums_125 (by decide) ?_
  refine lv_iconst (v := 2) hx hb dL_sums_126 (by decide) ?_
  refine lv_bipush (v := 119) hx hb dL_sums_127 (by decide) ?_
  refine lv_iconst (v := 0) hx hb dL_sums_129 (by decide) ?_
  refine lv_iconst (v := 0) hx hb dL_sums_130 (by decide) ?_
  refine A_no_11 (q := 3) (v := (-7000003)) hfl hM hE hX hO hl (by decide +kernel) (by simp) (by decide +kernel) (by decide) (by decide) ⟨Nat.le_of_ble_eq_true rfl, Nat.le_of_ble_eq_true rfl⟩ dL_sums_131 (fun L F H locs hX hO => ?_)
  refine lv_ldc hx hb hM.2.2.2.1 (hM.2.2.2.2.1 _ k_990) dL_sums_134 ?_
  refine lv_icmp_ne (tgt := 313) hx hb dL_sums_136 (by decide) (fun h9 => absurd (show ((-7000003) : Int32) = (-7000003) from (by decide)) h9) (fun _ => ?_)
  refine lv_aload_n hx hb dL_sums_139 rfl (lv_at hl 0 rfl) ?_
  refine lv_bipush (v := 8) hx hb dL_sums_140 (by decide) ?_
  refine lv_iconst (v := 0) hx hb dL_sums_142 (by decide) ?_
  refine lv_iconst (v := 0) hx hb dL_sums_143 (by decide) ?_
  refine lv_iconst (v := 0) hx hb dL_sums_144 (by decide) ?_
  refine lv_iconst (v := 0) hx hb dL_sums_145 (by decide) ?_
  refine lv_iconst (v := 0) hx hb dL_sums_146 (by decide) ?_
  refine A_no_8 (q := 2) (v := (-7000003)) hfl hM hE hX hO hl (by decide +kernel) (by simp) (by decide +kernel) (by decide) (by decide) ⟨Nat.le_of_ble_eq_true rfl, Nat.le_of_ble_eq_true rfl⟩ dL_sums_147 (fun L F H locs hX hO => ?_)
  refine lv_ldc hx hb hM.2.2.2.1 (hM.2.2.2.2.1 _ k_990) dL_sums_150 ?_
  refine lv_icmp_ne (tgt := 313) hx hb dL_sums_152 (by decide) (fun h9 => absurd (show ((-7000003) : Int32) = (-7000003) from (by decide)) h9) (fun _ => ?_)
  refine lv_aload_n hx hb dL_sums_155 rfl (lv_at hl 0 rfl) ?_
  refine lv_iconst (v := 3) hx hb dL_sums_156 (by decide) ?_
  refine lv_iconst (v := 5) hx hb dL_sums_157 (by decide) ?_
  refine lv_bipush (v := 119) hx hb dL_sums_158 (by decide) ?_
  refine O_payBySum hfl hM hE hX hO hl (by decide +kernel) (f_paySum (r := 0) (by decide +kernel)) (mk_24 _ 0) (by decide) (Nat.le_of_ble_eq_true rfl) ⟨Nat.le_of_ble_eq_true rfl, Nat.le_of_ble_eq_true rfl⟩ dL_sums_160 (fun L F H locs hX hO => ?_)
  have hO : Ob γ o (mk su_tb9) 9 L F := hO
  refine lv_if_ne (tgt := 313) hx hb dL_sums_163 (by decide) (fun h9 => absurd (show (0 : Int32) = 0 from (by decide)) h9) (fun _ => ?_)
  refine lv_aload_n hx hb dL_sums_166 rfl (lv_at hl 0 rfl) ?_
  refine lv_iconst (v := 5) hx hb dL_sums_167 (by decide) ?_
  refine lv_bipush (v := 118) hx hb dL_sums_168 (by decide) ?_
  refine H_cash  hfl hM hE hX hO hl (by decide +kernel) (by decide) (Nat.le_of_ble_eq_true rfl) ⟨Nat.le_of_ble_eq_true rfl, Nat.le_of_ble_eq_true rfl⟩ dL_sums_170 (fun L F H locs hX hO => ?_)
  refine lv_if_eq (tgt := 313) hx hb dL_sums_173 (by decide) (fun h9 => absurd h9 (show ¬ (1 : Int32) = 0 from (by decide))) (fun _ => ?_)
  refine lv_aload_n hx hb dL_sums_176 rfl (lv_at hl 0 rfl) ?_
  refine lv_iconst (v := 2) hx hb dL_sums_177 (by decide) ?_
  refine lv_bipush (v := 120) hx hb dL_sums_178 (by decide) ?_
  refine H_cash  hfl hM hE hX hO hl (by decide +kernel) (by decide) (Nat.le_of_ble_eq_true rfl) ⟨Nat.le_of_ble_eq_true rfl, Nat.le_of_ble_eq_true rfl⟩ dL_sums_180 (fun L F H locs hX hO => ?_)
  refine lv_if_eq (tgt := 313) hx hb dL_sums_183 (by decide) (fun h9 => absurd h9 (show ¬ (1 : Int32) = 0 from (by decide))) (fun _ => ?_)
  exact W.widen (k := 121) (n := 15766) (Nat.le_of_ble_eq_true rfl) (Nat.le_of_ble_eq_true rfl) (kk L F H locs ls hX hO hl)
set_option maxHeartbeats 8000000 in
set_option maxRecDepth 100000 in
theorem su_2 (hfl : l.stackTraces = false) (hM : kM p s m args meth c cL_sums 1 ret "InvoicebridgeLaw") (hE : kE γ A s) (hX : kX γ A s L F H locs) (hO : Ob γ o (mk su_tb9) 9 L F) (hl : lv_has ls 1 [(0, .ref o)])
    (kk : ∀ (L : List Nat) (F : kF) (H : Heap) (locs : List Loc) (ls : Array Slot), kX γ A s L F H locs → Ob γ o (mk su_tb13) 13 L F → lv_has ls 1 [(0, .ref o)] → W p l e (kRm 11 1542 205742) s m args below meth c H locs 159 20250 Q (F0 m 267 ls [])) : W p l e (kRm 11 1542 205742) s m args below meth c H locs 121 15766 Q (F0 m 186 ls []) := by
  have hx := hM.1
  have hb := hM.2.1
  refine lv_aload_n hx hb dL_sums_186 rfl (lv_at hl 0 rfl) ?_
  refine lv_iconst (v := 3) hx hb dL_sums_187 (by decide) ?_
  refine lv_sipush (v := (-238)) hx hb dL_sums_188 (by decide) ?_
  refine H_cash  hfl hM hE hX hO hl (by decide +kernel) (by decide) (Nat.le_of_ble_eq_true rfl) ⟨Nat.le_of_ble_eq_true rfl, Nat.le_of_ble_eq_true rfl⟩ dL_sums_191 (fun L F H locs hX hO => ?_)
  refine lv_if_eq (tgt := 313) hx hb dL_sums_194 (by decide) (fun h9 => absurd h9 (show ¬ (1 : Int32) = 0 from (by decide))) (fun _ => ?_)
  refine lv_aload_n hx hb dL_sums_197 rfl (lv_at hl 0 rfl) ?_
  refine lv_iconst (v := 2) hx hb dL_sums_198 (by decide) ?_
  refine lv_iconst (v := 0) hx hb dL_sums_199 (by decide) ?_
  refine lv_bipush (v := 100) hx hb dL_sums_200 (by decide) ?_
  refine lv_iconst (v := 1) hx hb dL_sums_202 (by decide) ?_
  refine O_sell hfl hM hE hX hO hl (by decide +kernel) (by decide +kernel) (f_sell (r := 119) (by decide +kernel)) (mk_24 _ 0) (by decide) (Nat.le_of_ble_eq_true rfl) ⟨Nat.le_of_ble_eq_true rfl, Nat.le_of_ble_eq_true rfl⟩ dL_sums_203 (fun L F H locs hX hO => ?_)
  have hO : Ob γ o (mk su_tb10) 10 L F := hO
  refine lv_bipush (v := 119) hx hb dL_sums_206 (by decide) ?_
  refine lv_icmp_ne (tgt := 313) hx hb dL_sums_208 (by decide) (fun h9 => absurd (show (119 : Int32) = 119 from (by decide)) h9) (fun _ => ?_)
  refine lv_aload_n hx hb dL_sums_211 rfl (lv_at hl 0 rfl) ?_
  refine lv_iconst (v := 2) hx hb dL_sums_212 (by decide) ?_
  refine lv_iconst (v := 0) hx hb dL_sums_213 (by decide) ?_
  refine lv_bipush (v := 99) hx hb dL_sums_214 (by decide) ?_
  refine O_credit hfl hM hE hX hO hl (f_credit (r := 1) (by decide +kernel)) (mk_24 _ 0) (by decide) (Nat.le_of_ble_eq_true rfl) ⟨Nat.le_of_ble_eq_true rfl, Nat.le_of_ble_eq_true rfl⟩ dL_sums_216 (fun L F H locs hX hO => ?_)
  have hO : Ob γ o (mk su_tb11) 11 L F := hO
  refine lv_iconst (v := 1) hx hb dL_sums_219 (by decide) ?_
  refine lv_icmp_ne (tgt := 313) hx hb dL_sums_220 (by decide) (fun h9 => absurd (show (1 : Int32) = 1 from (by decide)) h9) (fun _ => ?_)
  refine lv_aload_n hx hb dL_sums_223 rfl (lv_at hl 0 rfl) ?_
  refine lv_iconst (v := 2) hx hb dL_sums_224 (by decide) ?_
  refine lv_iconst (v := 1) hx hb dL_sums_225 (by decide) ?_
  refine lv_iconst (v := 0) hx hb dL_sums_226 (by decide) ?_
  refine lv_iconst (v := 1) hx hb dL_sums_227 (by decide) ?_
  refine lv_iconst (v := 1) hx hb dL_sums_228 (by decide) ?_
  refine lv_iconst (v := 0) hx hb dL_sums_229 (by decide) ?_
  refine H_about  hfl hM hE hX hO hl (by decide +kernel) (by decide) (Nat.le_of_ble_eq_true rfl) ⟨Nat.le_of_ble_eq_true rfl, Nat.le_of_ble_eq_true rfl⟩ dL_sums_230 (fun L F H locs hX hO => ?_)
  refine lv_if_eq (tgt := 313) hx hb dL_sums_233 (by decide) (fun h9 => absurd h9 (show ¬ (1 : Int32) = 0 from (by decide))) (fun _ => ?_)
  refine lv_aload_n hx hb dL_sums_236 rfl (lv_at hl 0 rfl) ?_
  refine lv_iconst (v := 2) hx hb dL_sums_237 (by decide) ?_
  refine O_giveBack hfl hM hE hX hO hl (by decide +kernel) (f_giveBack (r := 119) (by decide +kernel)) (mk_24 _ 0) (by decide) (Nat.le_of_ble_eq_true rfl) ⟨Nat.le_of_ble_eq_true rfl, Nat.le_of_ble_eq_true rfl⟩ dL_sums_238 (fun L F H locs hX hO => ?_)
  have hO : Ob γ o (mk su_tb12) 12 L F := hO
  refine lv_bipush (v := 119) hx hb dL_sums_241 (by decide) ?_
  refine lv_icmp_ne (tgt := 313) hx hb dL_sums_243 (by decide) (fun h9 => absurd (show (119 : Int32) = 119 from (by decide)) h9) (fun _ => ?_)
  refine lv_aload_n hx hb dL_sums_246 rfl (lv_at hl 0 rfl) ?_
  refine lv_iconst (v := 2) hx hb dL_sums_247 (by decide) ?_
  refine lv_iconst (v := 1) hx hb dL_sums_248 (by decide) ?_
  refine lv_bipush (v := 99) hx hb dL_sums_249 (by decide) ?_
  refine lv_iconst (v := 1) hx hb dL_sums_251 (by decide) ?_
  refine O_sell hfl hM hE hX hO hl (by decide +kernel) (by decide +kernel) (f_sell (r := 0) (by decide +kernel)) (mk_24 _ 0) (by decide) (Nat.le_of_ble_eq_true rfl) ⟨Nat.le_of_ble_eq_true rfl, Nat.le_of_ble_eq_true rfl⟩ dL_sums_252 (fun L F H locs hX hO => ?_)
  have hO : Ob γ o (mk su_tb13) 13 L F := hO
  refine lv_if_ne (tgt := 313) hx hb dL_sums_255 (by decide) (fun h9 => absurd (show (0 : Int32) = 0 from (by decide)) h9) (fun _ => ?_)
  refine lv_aload_n hx hb dL_sums_258 rfl (lv_at hl 0 rfl) ?_
  refine lv_iconst (v := 1) hx hb dL_sums_259 (by decide) ?_
  refine lv_iconst (v := 0) hx hb dL_sums_260 (by decide) ?_
  refine H_cash  hfl hM hE hX hO hl (by decide +kernel) (by decide) (Nat.le_of_ble_eq_true rfl) ⟨Nat.le_of_ble_eq_true rfl, Nat.le_of_ble_eq_true rfl⟩ dL_sums_261 (fun L F H locs hX hO => ?_)
  refine lv_if_eq (tgt := 313) hx hb dL_sums_264 (by decide) (fun h9 => absurd h9 (show ¬ (1 : Int32) = 0 from (by decide))) (fun _ => ?_)
  exact W.widen (k := 159) (n := 20250) (Nat.le_of_ble_eq_true rfl) (Nat.le_of_ble_eq_true rfl) (kk L F H locs ls hX hO hl)
set_option maxHeartbeats 8000000 in
set_option maxRecDepth 100000 in
theorem su_3 (hfl : l.stackTraces = false) (hM : kM p s m args meth c cL_sums 1 ret "InvoicebridgeLaw") (hE : kE γ A s) (hX : kX γ A s L F H locs) (hO : Ob γ o (mk su_tb13) 13 L F) (hl : lv_has ls 1 [(0, .ref o)])
    (kk : ∀ (L : List Nat) (F : kF) (H : Heap) (locs : List Loc) (ls : Array Slot), kX γ A s L F H locs → Ob γ o (mk su_tb16) 16 L F → lv_has ls 1 [(0, .ref o)] → W p l e (kRm 11 1542 205742) s m args below meth c H locs 199 25492 Q (F0 m 350 ls [])) : W p l e (kRm 11 1542 205742) s m args below meth c H locs 159 20250 Q (F0 m 267 ls []) := by
  have hx := hM.1
  have hb := hM.2.1
  refine lv_aload_n hx hb dL_sums_267 rfl (lv_at hl 0 rfl) ?_
  refine lv_iconst (v := 2) hx hb dL_sums_268 (by decide) ?_
  refine lv_iconst (v := 3) hx hb dL_sums_269 (by decide) ?_
  refine O_about hfl hM hE hX hO hl (r := 1) (by decide +kernel) (by decide +kernel) (by decide) (Nat.le_of_ble_eq_true rfl) ⟨Nat.le_of_ble_eq_true rfl, Nat.le_of_ble_eq_true rfl⟩ dL_sums_270 (fun L F H locs hX hO => ?_)
  refine lv_iconst (v := 1) hx hb dL_sums_273 (by decide) ?_
  refine lv_icmp_ne (tgt := 313) hx hb dL_sums_274 (by decide) (fun h9 => absurd (show (1 : Int32) = 1 from (by decide)) h9) (fun _ => ?_)
  refine lv_aload_n hx hb dL_sums_277 rfl (lv_at hl 0 rfl) ?_
  refine lv_iconst (v := 4) hx hb dL_sums_278 (by decide) ?_
  refine lv_iconst (v := 1) hx hb dL_sums_279 (by decide) ?_
  refine lv_iconst (v := 1) hx hb dL_sums_280 (by decide) ?_
  refine O_payBySum hfl hM hE hX hO hl (by decide +kernel) (f_paySum (r := 2) (by decide +kernel)) (mk_24 _ 0) (by decide) (Nat.le_of_ble_eq_true rfl) ⟨Nat.le_of_ble_eq_true rfl, Nat.le_of_ble_eq_true rfl⟩ dL_sums_281 (fun L F H locs hX hO => ?_)
  have hO : Ob γ o (mk su_tb14) 14 L F := hO
  refine lv_iconst (v := 2) hx hb dL_sums_284 (by decide) ?_
  refine lv_icmp_ne (tgt := 313) hx hb dL_sums_285 (by decide) (fun h9 => absurd (show (2 : Int32) = 2 from (by decide)) h9) (fun _ => ?_)
  refine lv_aload_n hx hb dL_sums_288 rfl (lv_at hl 0 rfl) ?_
  refine lv_iconst (v := 1) hx hb dL_sums_289 (by decide) ?_
  refine lv_iconst (v := 1) hx hb dL_sums_290 (by decide) ?_
  refine H_cash  hfl hM hE hX hO hl (by decide +kernel) (by decide) (Nat.le_of_ble_eq_true rfl) ⟨Nat.le_of_ble_eq_true rfl, Nat.le_of_ble_eq_true rfl⟩ dL_sums_291 (fun L F H locs hX hO => ?_)
  refine lv_if_eq (tgt := 313) hx hb dL_sums_294 (by decide) (fun h9 => absurd h9 (show ¬ (1 : Int32) = 0 from (by decide))) (fun _ => ?_)
  refine lv_aload_n hx hb dL_sums_297 rfl (lv_at hl 0 rfl) ?_
  refine lv_bipush (v := 8) hx hb dL_sums_298 (by decide) ?_
  refine lv_iconst (v := 2) hx hb dL_sums_300 (by decide) ?_
  refine lv_iconst (v := 0) hx hb dL_sums_301 (by decide) ?_
  refine lv_iconst (v := 0) hx hb dL_sums_302 (by decide) ?_
  refine lv_iconst (v := 0) hx hb dL_sums_303 (by decide) ?_
  refine lv_iconst (v := 0) hx hb dL_sums_304 (by decide) ?_
  refine A_no_8 (q := 2) (v := (-7000003)) hfl hM hE hX hO hl (by decide +kernel) (by simp) (by decide +kernel) (by decide) (by decide) ⟨Nat.le_of_ble_eq_true rfl, Nat.le_of_ble_eq_true rfl⟩ dL_sums_305 (fun L F H locs hX hO => ?_)
  refine lv_ldc hx hb hM.2.2.2.1 (hM.2.2.2.2.1 _ k_990) dL_sums_308 ?_
  refine lv_icmp_eq (tgt := 315) hx hb dL_sums_310 (by decide) (fun _ => ?_) (fun h9 => absurd (show ((-7000003) : Int32) = (-7000003) from (by decide)) h9)
  refine lv_aload_n hx hb dL_sums_315 rfl (lv_at hl 0 rfl) ?_
  refine lv_iconst (v := 3) hx hb dL_sums_316 (by decide) ?_
  refine lv_iconst (v := 4) hx hb dL_sums_317 (by decide) ?_
  refine lv_iconst (v := 1) hx hb dL_sums_318 (by decide) ?_
  refine lv_bipush (v := 100) hx hb dL_sums_319 (by decide) ?_
  refine lv_bipush (v := 7) hx hb dL_sums_321 (by decide) ?_
  refine O_send hfl hM hE hX hO hl (f_send (r := 3) (by decide +kernel)) (mk_24 _ 0) (by decide) (Nat.le_of_ble_eq_true rfl) ⟨Nat.le_of_ble_eq_true rfl, Nat.le_of_ble_eq_true rfl⟩ dL_sums_323 (fun L F H locs hX hO => ?_)
  have hO : Ob γ o (mk su_tb15) 15 L F := hO
  refine lv_iconst (v := 3) hx hb dL_sums_326 (by decide) ?_
  refine lv_icmp_ne (tgt := 492) hx hb dL_sums_327 (by decide) (fun h9 => absurd (show (3 : Int32) = 3 from (by decide)) h9) (fun _ => ?_)
  refine lv_aload_n hx hb dL_sums_330 rfl (lv_at hl 0 rfl) ?_
  refine lv_iconst (v := 3) hx hb dL_sums_331 (by decide) ?_
  refine O_accept hfl hM hE hX hO hl (f_accept (r := 107) (by decide +kernel)) (mk_24 _ 0) (by decide) (Nat.le_of_ble_eq_true rfl) ⟨Nat.le_of_ble_eq_true rfl, Nat.le_of_ble_eq_true rfl⟩ dL_sums_332 (fun L F H locs hX hO => ?_)
  have hO : Ob γ o (mk su_tb16) 16 L F := hO
  refine lv_bipush (v := 107) hx hb dL_sums_335 (by decide) ?_
  refine lv_icmp_ne (tgt := 492) hx hb dL_sums_337 (by decide) (fun h9 => absurd (show (107 : Int32) = 107 from (by decide)) h9) (fun _ => ?_)
  refine lv_aload_n hx hb dL_sums_340 rfl (lv_at hl 0 rfl) ?_
  refine lv_iconst (v := 1) hx hb dL_sums_341 (by decide) ?_
  refine O_chain hfl hM hE hX hO hl (r := 19) (by decide +kernel) (by decide +kernel) (by decide) (Nat.le_of_ble_eq_true rfl) ⟨Nat.le_of_ble_eq_true rfl, Nat.le_of_ble_eq_true rfl⟩ dL_sums_342 (fun L F H locs hX hO => ?_)
  refine lv_bipush (v := 19) hx hb dL_sums_345 (by decide) ?_
  refine lv_icmp_ne (tgt := 492) hx hb dL_sums_347 (by decide) (fun h9 => absurd (show (19 : Int32) = 19 from (by decide)) h9) (fun _ => ?_)
  exact W.widen (k := 199) (n := 25492) (Nat.le_of_ble_eq_true rfl) (Nat.le_of_ble_eq_true rfl) (kk L F H locs ls hX hO hl)
set_option maxHeartbeats 8000000 in
set_option maxRecDepth 100000 in
theorem su_4 (hfl : l.stackTraces = false) (hM : kM p s m args meth c cL_sums 1 ret "InvoicebridgeLaw") (hE : kE γ A s) (hX : kX γ A s L F H locs) (hO : Ob γ o (mk su_tb16) 16 L F) (hl : lv_has ls 1 [(0, .ref o)])
    (kk : ∀ (L : List Nat) (F : kF) (H : Heap) (locs : List Loc) (ls : Array Slot), kX γ A s L F H locs → Ob γ o (mk su_tb20) 20 L F → lv_has ls 1 [(0, .ref o)] → W p l e (kRm 11 1542 205742) s m args below meth c H locs 246 31534 Q (F0 m 432 ls [])) : W p l e (kRm 11 1542 205742) s m args below meth c H locs 199 25492 Q (F0 m 350 ls []) := by
  have hx := hM.1
  have hb := hM.2.1
  refine lv_aload_n hx hb dL_sums_350 rfl (lv_at hl 0 rfl) ?_
  refine lv_iconst (v := 4) hx hb dL_sums_351 (by decide) ?_
  refine lv_iconst (v := 5) hx hb dL_sums_352 (by decide) ?_
  refine lv_iconst (v := 1) hx hb dL_sums_353 (by decide) ?_
  refine lv_bipush (v := 100) hx hb dL_sums_354 (by decide) ?_
  refine lv_bipush (v := 19) hx hb dL_sums_356 (by decide) ?_
  refine O_send hfl hM hE hX hO hl (f_send (r := 4) (by decide +kernel)) (mk_24 _ 0) (by decide) (Nat.le_of_ble_eq_true rfl) ⟨Nat.le_of_ble_eq_true rfl, Nat.le_of_ble_eq_true rfl⟩ dL_sums_358 (fun L F H locs hX hO => ?_)
  have hO : Ob γ o (mk su_tb17) 17 L F := hO
  refine lv_iconst (v := 4) hx hb dL_sums_361 (by decide) ?_
  refine lv_icmp_ne (tgt := 492) hx hb dL_sums_362 (by decide) (fun h9 => absurd (show (4 : Int32) = 4 from (by decide)) h9) (fun _ => ?_)
  refine lv_aload_n hx hb dL_sums_365 rfl (lv_at hl 0 rfl) ?_
  refine lv_iconst (v := 4) hx hb dL_sums_366 (by decide) ?_
  refine O_accept hfl hM hE hX hO hl (f_accept (r := 119) (by decide +kernel)) (mk_24 _ 0) (by decide) (Nat.le_of_ble_eq_true rfl) ⟨Nat.le_of_ble_eq_true rfl, Nat.le_of_ble_eq_true rfl⟩ dL_sums_367 (fun L F H locs hX hO => ?_)
  have hO : Ob γ o (mk su_tb18) 18 L F := hO
  refine lv_bipush (v := 119) hx hb dL_sums_370 (by decide) ?_
  refine lv_icmp_ne (tgt := 492) hx hb dL_sums_372 (by decide) (fun h9 => absurd (show (119 : Int32) = 119 from (by decide)) h9) (fun _ => ?_)
  refine lv_aload_n hx hb dL_sums_375 rfl (lv_at hl 0 rfl) ?_
  refine lv_iconst (v := 1) hx hb dL_sums_376 (by decide) ?_
  refine O_chain hfl hM hE hX hO hl (r := 31) (by decide +kernel) (by decide +kernel) (by decide) (Nat.le_of_ble_eq_true rfl) ⟨Nat.le_of_ble_eq_true rfl, Nat.le_of_ble_eq_true rfl⟩ dL_sums_377 (fun L F H locs hX hO => ?_)
  refine lv_bipush (v := 31) hx hb dL_sums_380 (by decide) ?_
  refine lv_icmp_ne (tgt := 492) hx hb dL_sums_382 (by decide) (fun h9 => absurd (show (31 : Int32) = 31 from (by decide)) h9) (fun _ => ?_)
  refine lv_aload_n hx hb dL_sums_385 rfl (lv_at hl 0 rfl) ?_
  refine lv_iconst (v := 3) hx hb dL_sums_386 (by decide) ?_
  refine lv_iconst (v := 4) hx hb dL_sums_387 (by decide) ?_
  refine lv_iconst (v := 1) hx hb dL_sums_388 (by decide) ?_
  refine lv_sipush (v := 158) hx hb dL_sums_389 (by decide) ?_
  refine lv_bipush (v := 19) hx hb dL_sums_392 (by decide) ?_
  refine O_send hfl hM hE hX hO hl (f_send (r := 5) (by decide +kernel)) (mk_24 _ 0) (by decide) (Nat.le_of_ble_eq_true rfl) ⟨Nat.le_of_ble_eq_true rfl, Nat.le_of_ble_eq_true rfl⟩ dL_sums_394 (fun L F H locs hX hO => ?_)
  have hO : Ob γ o (mk su_tb19) 19 L F := hO
  refine lv_iconst (v := 5) hx hb dL_sums_397 (by decide) ?_
  refine lv_icmp_ne (tgt := 492) hx hb dL_sums_398 (by decide) (fun h9 => absurd (show (5 : Int32) = 5 from (by decide)) h9) (fun _ => ?_)
  refine lv_aload_n hx hb dL_sums_401 rfl (lv_at hl 0 rfl) ?_
  refine lv_iconst (v := 1) hx hb dL_sums_402 (by decide) ?_
  refine O_chain hfl hM hE hX hO hl (r := 31) (by decide +kernel) (by decide +kernel) (by decide) (Nat.le_of_ble_eq_true rfl) ⟨Nat.le_of_ble_eq_true rfl, Nat.le_of_ble_eq_true rfl⟩ dL_sums_403 (fun L F H locs hX hO => ?_)
  refine lv_bipush (v := 31) hx hb dL_sums_406 (by decide) ?_
  refine lv_icmp_ne (tgt := 492) hx hb dL_sums_408 (by decide) (fun h9 => absurd (show (31 : Int32) = 31 from (by decide)) h9) (fun _ => ?_)
  refine lv_aload_n hx hb dL_sums_411 rfl (lv_at hl 0 rfl) ?_
  refine lv_iconst (v := 5) hx hb dL_sums_412 (by decide) ?_
  refine O_accept hfl hM hE hX hO hl (f_accept (r := 188) (by decide +kernel)) (mk_24 _ 0) (by decide) (Nat.le_of_ble_eq_true rfl) ⟨Nat.le_of_ble_eq_true rfl, Nat.le_of_ble_eq_true rfl⟩ dL_sums_413 (fun L F H locs hX hO => ?_)
  have hO : Ob γ o (mk su_tb20) 20 L F := hO
  refine lv_sipush (v := 188) hx hb dL_sums_416 (by decide) ?_
  refine lv_icmp_ne (tgt := 492) hx hb dL_sums_419 (by decide) (fun h9 => absurd (show (188 : Int32) = 188 from (by decide)) h9) (fun _ => ?_)
  refine lv_aload_n hx hb dL_sums_422 rfl (lv_at hl 0 rfl) ?_
  refine lv_iconst (v := 1) hx hb dL_sums_423 (by decide) ?_
  refine O_chain hfl hM hE hX hO hl (r := 42) (by decide +kernel) (by decide +kernel) (by decide) (Nat.le_of_ble_eq_true rfl) ⟨Nat.le_of_ble_eq_true rfl, Nat.le_of_ble_eq_true rfl⟩ dL_sums_424 (fun L F H locs hX hO => ?_)
  refine lv_bipush (v := 42) hx hb dL_sums_427 (by decide) ?_
  refine lv_icmp_ne (tgt := 492) hx hb dL_sums_429 (by decide) (fun h9 => absurd (show (42 : Int32) = 42 from (by decide)) h9) (fun _ => ?_)
  exact W.widen (k := 246) (n := 31534) (Nat.le_of_ble_eq_true rfl) (Nat.le_of_ble_eq_true rfl) (kk L F H locs ls hX hO hl)
set_option maxHeartbeats 8000000 in
set_option maxRecDepth 100000 in
theorem su_5 (hfl : l.stackTraces = false) (hM : kM p s m args meth c cL_sums 1 ret "InvoicebridgeLaw") (hE : kE γ A s) (hX : kX γ A s L F H locs) (hO : Ob γ o (mk su_tb20) 20 L F) (hl : lv_has ls 1 [(0, .ref o)])
    (kk : ∀ (L : List Nat) (F : kF) (H : Heap) (locs : List Loc) (ls : Array Slot), kX γ A s L F H locs → Ob γ o (mk su_tb23) 23 L F → lv_has ls 1 [(0, .ref o)] → W p l e (kRm 11 1542 205742) s m args below meth c H locs 288 35730 Q (F0 m 517 ls [])) : W p l e (kRm 11 1542 205742) s m args below meth c H locs 246 31534 Q (F0 m 432 ls []) := by
  have hx := hM.1
  have hb := hM.2.1
  refine lv_aload_n hx hb dL_sums_432 rfl (lv_at hl 0 rfl) ?_
  refine lv_iconst (v := 0) hx hb dL_sums_433 (by decide) ?_
  refine lv_iconst (v := 0) hx hb dL_sums_434 (by decide) ?_
  refine lv_bipush (v := 100) hx hb dL_sums_435 (by decide) ?_
  refine O_credit hfl hM hE hX hO hl (f_credit (r := 0) (by decide +kernel)) (mk_24 _ 0) (by decide) (Nat.le_of_ble_eq_true rfl) ⟨Nat.le_of_ble_eq_true rfl, Nat.le_of_ble_eq_true rfl⟩ dL_sums_437 (fun L F H locs hX hO => ?_)
  have hO : Ob γ o (mk su_tb21) 21 L F := hO
  refine lv_if_ne (tgt := 492) hx hb dL_sums_440 (by decide) (fun h9 => absurd (show (0 : Int32) = 0 from (by decide)) h9) (fun _ => ?_)
  refine lv_aload_n hx hb dL_sums_443 rfl (lv_at hl 0 rfl) ?_
  refine lv_iconst (v := 1) hx hb dL_sums_444 (by decide) ?_
  refine O_chain hfl hM hE hX hO hl (r := 49) (by decide +kernel) (by decide +kernel) (by decide) (Nat.le_of_ble_eq_true rfl) ⟨Nat.le_of_ble_eq_true rfl, Nat.le_of_ble_eq_true rfl⟩ dL_sums_445 (fun L F H locs hX hO => ?_)
  refine lv_bipush (v := 49) hx hb dL_sums_448 (by decide) ?_
  refine lv_icmp_ne (tgt := 492) hx hb dL_sums_450 (by decide) (fun h9 => absurd (show (49 : Int32) = 49 from (by decide)) h9) (fun _ => ?_)
  refine lv_aload_n hx hb dL_sums_453 rfl (lv_at hl 0 rfl) ?_
  refine lv_iconst (v := 4) hx hb dL_sums_454 (by decide) ?_
  refine lv_iconst (v := 5) hx hb dL_sums_455 (by decide) ?_
  refine lv_iconst (v := 1) hx hb dL_sums_456 (by decide) ?_
  refine lv_sipush (v := 300) hx hb dL_sums_457 (by decide) ?_
  refine lv_bipush (v := 19) hx hb dL_sums_460 (by decide) ?_
  refine O_send hfl hM hE hX hO hl (f_send (r := 6) (by decide +kernel)) (mk_24 _ 0) (by decide) (Nat.le_of_ble_eq_true rfl) ⟨Nat.le_of_ble_eq_true rfl, Nat.le_of_ble_eq_true rfl⟩ dL_sums_462 (fun L F H locs hX hO => ?_)
  have hO : Ob γ o (mk su_tb22) 22 L F := hO
  refine lv_bipush (v := 6) hx hb dL_sums_465 (by decide) ?_
  refine lv_icmp_ne (tgt := 492) hx hb dL_sums_467 (by decide) (fun h9 => absurd (show (6 : Int32) = 6 from (by decide)) h9) (fun _ => ?_)
  refine lv_aload_n hx hb dL_sums_470 rfl (lv_at hl 0 rfl) ?_
  refine lv_bipush (v := 6) hx hb dL_sums_471 (by decide) ?_
  refine O_accept hfl hM hE hX hO hl (f_accept (r := 357) (by decide +kernel)) (mk_24 _ 0) (by decide) (Nat.le_of_ble_eq_true rfl) ⟨Nat.le_of_ble_eq_true rfl, Nat.le_of_ble_eq_true rfl⟩ dL_sums_473 (fun L F H locs hX hO => ?_)
  have hO : Ob γ o (mk su_tb23) 23 L F := hO
  refine lv_sipush (v := 357) hx hb dL_sums_476 (by decide) ?_
  refine lv_icmp_ne (tgt := 492) hx hb dL_sums_479 (by decide) (fun h9 => absurd (show (357 : Int32) = 357 from (by decide)) h9) (fun _ => ?_)
  refine lv_aload_n hx hb dL_sums_482 rfl (lv_at hl 0 rfl) ?_
  refine lv_iconst (v := 1) hx hb dL_sums_483 (by decide) ?_
  refine O_chain hfl hM hE hX hO hl (r := 76) (by decide +kernel) (by decide +kernel) (by decide) (Nat.le_of_ble_eq_true rfl) ⟨Nat.le_of_ble_eq_true rfl, Nat.le_of_ble_eq_true rfl⟩ dL_sums_484 (fun L F H locs hX hO => ?_)
  refine lv_bipush (v := 76) hx hb dL_sums_487 (by decide) ?_
  refine lv_icmp_eq (tgt := 494) hx hb dL_sums_489 (by decide) (fun _ => ?_) (fun h9 => absurd (show (76 : Int32) = 76 from (by decide)) h9)
  refine lv_aload_n hx hb dL_sums_494 rfl (lv_at hl 0 rfl) ?_
  refine lv_iconst (v := 2) hx hb dL_sums_495 (by decide) ?_
  refine lv_iconst (v := 0) hx hb dL_sums_496 (by decide) ?_
  refine lv_iconst (v := 0) hx hb dL_sums_497 (by decide) ?_
  refine lv_iconst (v := 0) hx hb dL_sums_498 (by decide) ?_
  refine H_taxes  hfl hM hE hX hO hl (by decide +kernel) (by decide) (Nat.le_of_ble_eq_true rfl) ⟨Nat.le_of_ble_eq_true rfl, Nat.le_of_ble_eq_true rfl⟩ dL_sums_499 (fun L F H locs hX hO => ?_)
  refine lv_if_eq (tgt := 554) hx hb dL_sums_502 (by decide) (fun h9 => absurd h9 (show ¬ (1 : Int32) = 0 from (by decide))) (fun _ => ?_)
  refine lv_aload_n hx hb dL_sums_505 rfl (lv_at hl 0 rfl) ?_
  refine lv_iconst (v := 3) hx hb dL_sums_506 (by decide) ?_
  refine lv_iconst (v := 0) hx hb dL_sums_507 (by decide) ?_
  refine lv_bipush (v := 37) hx hb dL_sums_508 (by decide) ?_
  refine lv_iconst (v := 0) hx hb dL_sums_510 (by decide) ?_
  refine H_taxes  hfl hM hE hX hO hl (by decide +kernel) (by decide) (Nat.le_of_ble_eq_true rfl) ⟨Nat.le_of_ble_eq_true rfl, Nat.le_of_ble_eq_true rfl⟩ dL_sums_511 (fun L F H locs hX hO => ?_)
  refine lv_if_eq (tgt := 554) hx hb dL_sums_514 (by decide) (fun h9 => absurd h9 (show ¬ (1 : Int32) = 0 from (by decide))) (fun _ => ?_)
  exact W.widen (k := 288) (n := 35730) (Nat.le_of_ble_eq_true rfl) (Nat.le_of_ble_eq_true rfl) (kk L F H locs ls hX hO hl)
set_option maxHeartbeats 8000000 in
set_option maxRecDepth 100000 in
theorem su_6 (hfl : l.stackTraces = false) (hM : kM p s m args meth c cL_sums 1 ret "InvoicebridgeLaw") (hE : kE γ A s) (hX : kX γ A s L F H locs) (hO : Ob γ o (mk su_tb23) 23 L F) (hl : lv_has ls 1 [(0, .ref o)])
    (kk : ∀ (L : List Nat) (F : kF) (H : Heap) (locs : List Loc) (ls : Array Slot), kX γ A s L F H locs → Ob γ o (mk su_tb23) 23 L F → lv_has ls 1 [(0, .ref o)] → W p l e (kRm 11 1542 205742) s m args below meth c H locs 1542 205742 Q (F0 m 555 ls [.int 1])) : W p l e (kRm 11 1542 205742) s m args below meth c H locs 288 35730 Q (F0 m 517 ls []) := by
  have hx := hM.1
  have hb := hM.2.1
  refine lv_aload_n hx hb dL_sums_517 rfl (lv_at hl 0 rfl) ?_
  refine lv_iconst (v := 4) hx hb dL_sums_518 (by decide) ?_
  refine lv_iconst (v := 0) hx hb dL_sums_519 (by decide) ?_
  refine lv_bipush (v := 39) hx hb dL_sums_520 (by decide) ?_
  refine lv_iconst (v := 0) hx hb dL_sums_522 (by decide) ?_
  refine H_taxes  hfl hM hE hX hO hl (by decide +kernel) (by decide) (Nat.le_of_ble_eq_true rfl) ⟨Nat.le_of_ble_eq_true rfl, Nat.le_of_ble_eq_true rfl⟩ dL_sums_523 (fun L F H locs hX hO => ?_)
  refine lv_if_eq (tgt := 554) hx hb dL_sums_526 (by decide) (fun h9 => absurd h9 (show ¬ (1 : Int32) = 0 from (by decide))) (fun _ => ?_)
  refine lv_aload_n hx hb dL_sums_529 rfl (lv_at hl 0 rfl) ?_
  refine lv_iconst (v := 5) hx hb dL_sums_530 (by decide) ?_
  refine lv_iconst (v := 0) hx hb dL_sums_531 (by decide) ?_
  refine lv_iconst (v := 0) hx hb dL_sums_532 (by decide) ?_
  refine lv_bipush (v := (-76)) hx hb dL_sums_533 (by decide) ?_
  refine H_taxes  hfl hM hE hX hO hl (by decide +kernel) (by decide) (Nat.le_of_ble_eq_true rfl) ⟨Nat.le_of_ble_eq_true rfl, Nat.le_of_ble_eq_true rfl⟩ dL_sums_535 (fun L F H locs hX hO => ?_)
  refine lv_if_eq (tgt := 554) hx hb dL_sums_538 (by decide) (fun h9 => absurd h9 (show ¬ (1 : Int32) = 0 from (by decide))) (fun _ => ?_)
  refine lv_aload_n hx hb dL_sums_541 rfl (lv_at hl 0 rfl) ?_
  refine lv_bipush (v := 7) hx hb dL_sums_542 (by decide) ?_
  refine H_refuses  hfl hM hE hX hO hl (by decide +kernel) (by decide +kernel) (by decide) (Nat.le_of_ble_eq_true rfl) ⟨Nat.le_of_ble_eq_true rfl, Nat.le_of_ble_eq_true rfl⟩ dL_sums_544 (fun L F H locs hX hO => ?_)
  refine lv_if_eq (tgt := 554) hx hb dL_sums_547 (by decide) (fun h9 => absurd h9 (show ¬ (1 : Int32) = 0 from (by decide))) (fun _ => ?_)
  refine lv_iconst (v := 1) hx hb dL_sums_550 (by decide) ?_
  refine lv_goto (tgt := 555) hx hb dL_sums_551 (by decide) ?_
  exact W.widen (k := 1542) (n := 205742) (Nat.le_of_ble_eq_true rfl) (Nat.le_of_ble_eq_true rfl) (kk L F H locs ls hX hO hl)
end FX
