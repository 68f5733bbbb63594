section FX
variable {p : Program} {l : Launch} {e : Env} {R : Room} {s : State} {m : MethodId} {args : Array Value} {below : List Frame} {meth : Method} {c : Code} {H : Heap} {locs : List Loc} {cells slots : Nat} {Q : State → Prop}
variable {cc : ByteArray} {nL : Nat} {ret : Option FieldType} {γ : kG} {A : Nat → Prop} {L : List Nat} {F : kF} {pc : Nat} {ls : Array Slot} {rest : List Value} {o n : Nat} {M M1 : mM} {lv : List (Nat × Value)} {r : Int32}
set_option maxHeartbeats 8000000 in
set_option maxRecDepth 100000 in
theorem te_0 (hfl : l.stackTraces = false) (hM : kM p s m args meth c cL_texts 2 ret "InvoicebridgeLaw") (hE : kE γ A s) (hX : kX γ A s L F H locs) (hO : Ob γ o (mk te_tb0) 0 L F) (hl : lv_has ls 2 [(0, .ref o)])
    (kk : ∀ (L : List Nat) (F : kF) (H : Heap) (locs : List Loc) (ls : Array Slot), kX γ A s L F H locs → Ob γ o (mk te_tb6) 20 L F → lv_has ls 2 [(0, .ref o)] → W p l e (kRm 11 1673 203776) s m args below meth c H locs 71 466 Q (F0 m 86 ls [])) : W p l e (kRm 11 1673 203776) s m args below meth c H locs 11 106 Q (F0 m 8 ls []) := by
  have hx := hM.1
  have hb := hM.2.1
  refine lv_aload_n hx hb dL_texts_8 rfl (lv_at hl 0 rfl) ?_
  refine O_fault hM hE hX hO hl (r := 0) (by decide +kernel) (by decide) (Nat.le_of_ble_eq_true rfl) ⟨Nat.le_of_ble_eq_true rfl, Nat.le_of_ble_eq_true rfl⟩ dL_texts_9 (fun L F H locs hX hO => ?_)
  refine lv_if_ne (tgt := 145) hx hb dL_texts_12 (by decide) (fun h9 => absurd (show (0 : Int32) = 0 from (by decide)) h9) (fun _ => ?_)
  refine lv_aload_n hx hb dL_texts_15 rfl (lv_at hl 0 rfl) ?_
  refine lv_ldc2 hx hb hM.2.2.2.1 (hM.2.2.2.2.1 _ k_1024) dL_texts_16 ?_
  refine lv_iconst (v := 1) hx hb dL_texts_19 (by decide) ?_
  refine H_types (n9 := 1) (r := 1) hfl hM hE hX hO hl (by decide) (by decide) (by decide +kernel) (ty_mk _ _ _) (by decide +kernel) (by decide) (Nat.le_of_ble_eq_true rfl) ⟨Nat.le_of_ble_eq_true rfl, Nat.le_of_ble_eq_true rfl⟩ dL_texts_20 (fun L F H locs hX hO => ?_)
  have hO : Ob γ o (mk te_tb1) 2 L F := hO
  refine lv_iconst (v := 1) hx hb dL_texts_23 (by decide) ?_
  refine lv_icmp_ne (tgt := 145) hx hb dL_texts_24 (by decide) (fun h9 => absurd (show (1 : Int32) = 1 from (by decide)) h9) (fun _ => ?_)
  refine lv_aload_n hx hb dL_texts_27 rfl (lv_at hl 0 rfl) ?_
  refine lv_ldc2 hx hb hM.2.2.2.1 (hM.2.2.2.2.1 _ k_1025) dL_texts_28 ?_
  refine lv_iconst (v := 2) hx hb dL_texts_31 (by decide) ?_
  refine H_types (n9 := 2) (r := (-1)) hfl hM hE hX hO hl (by decide) (by decide) (by decide +kernel) (ty_mk _ _ _) (by decide +kernel) (by decide) (Nat.le_of_ble_eq_true rfl) ⟨Nat.le_of_ble_eq_true rfl, Nat.le_of_ble_eq_true rfl⟩ dL_texts_32 (fun L F H locs hX hO => ?_)
  have hO : Ob γ o (mk te_tb2) 5 L F := hO
  refine lv_iconst (v := (-1)) hx hb dL_texts_35 (by decide) ?_
  refine lv_icmp_ne (tgt := 145) hx hb dL_texts_36 (by decide) (fun h9 => absurd (show ((-1) : Int32) = (-1) from (by decide)) h9) (fun _ => ?_)
  refine lv_aload_n hx hb dL_texts_39 rfl (lv_at hl 0 rfl) ?_
  refine lv_ldc2 hx hb hM.2.2.2.1 (hM.2.2.2.2.1 _ k_1026) dL_texts_40 ?_
  refine lv_iconst (v := 3) hx hb dL_texts_43 (by decide) ?_
  refine H_types (n9 := 3) (r := (-1)) hfl hM hE hX hO hl (by decide) (by decide) (by decide +kernel) (ty_mk _ _ _) (by decide +kernel) (by decide) (Nat.le_of_ble_eq_true rfl) ⟨Nat.le_of_ble_eq_true rfl, Nat.le_of_ble_eq_true rfl⟩ dL_texts_44 (fun L F H locs hX hO => ?_)
  have hO : Ob γ o (mk te_tb3) 9 L F := hO
  refine lv_iconst (v := (-1)) hx hb dL_texts_47 (by decide) ?_
  refine lv_icmp_ne (tgt := 145) hx hb dL_texts_48 (by decide) (fun h9 => absurd (show ((-1) : Int32) = (-1) from (by decide)) h9) (fun _ => ?_)
  refine lv_aload_n hx hb dL_texts_51 rfl (lv_at hl 0 rfl) ?_
  refine lv_ldc2 hx hb hM.2.2.2.1 (hM.2.2.2.2.1 _ k_1027) dL_texts_52 ?_
  refine lv_iconst (v := 4) hx hb dL_texts_55 (by decide) ?_
  refine H_types (n9 := 4) (r := 3) hfl hM hE hX hO hl (by decide) (by decide) (by decide +kernel) (ty_mk _ _ _) (by decide +kernel) (by decide) (Nat.le_of_ble_eq_true rfl) ⟨Nat.le_of_ble_eq_true rfl, Nat.le_of_ble_eq_true rfl⟩ dL_texts_56 (fun L F H locs hX hO => ?_)
  have hO : Ob γ o (mk te_tb4) 14 L F := hO
  refine lv_iconst (v := 3) hx hb dL_texts_59 (by decide) ?_
  refine lv_icmp_ne (tgt := 145) hx hb dL_texts_60 (by decide) (fun h9 => absurd (show (3 : Int32) = 3 from (by decide)) h9) (fun _ => ?_)
  refine lv_aload_n hx hb dL_texts_63 rfl (lv_at hl 0 rfl) ?_
  refine lv_ldc2 hx hb hM.2.2.2.1 (hM.2.2.2.2.1 _ k_1028) dL_texts_64 ?_
  refine lv_iconst (v := 2) hx hb dL_texts_67 (by decide) ?_
  refine H_types (n9 := 2) (r := 0) hfl hM hE hX hO hl (by decide) (by decide) (by decide +kernel) (ty_mk _ _ _) (by decide +kernel) (by decide) (Nat.le_of_ble_eq_true rfl) ⟨Nat.le_of_ble_eq_true rfl, Nat.le_of_ble_eq_true rfl⟩ dL_texts_68 (fun L F H locs hX hO => ?_)
  have hO : Ob γ o (mk te_tb5) 17 L F := hO
  refine lv_if_ne (tgt := 145) hx hb dL_texts_71 (by decide) (fun h9 => absurd (show (0 : Int32) = 0 from (by decide)) h9) (fun _ => ?_)
  refine lv_aload_n hx hb dL_texts_74 rfl (lv_at hl 0 rfl) ?_
  refine lv_ldc2 hx hb hM.2.2.2.1 (hM.2.2.2.2.1 _ k_1029) dL_texts_75 ?_
  refine lv_iconst (v := 2) hx hb dL_texts_78 (by decide) ?_
  refine H_types (n9 := 2) (r := 1) hfl hM hE hX hO hl (by decide) (by decide) (by decide +kernel) (ty_mk _ _ _) (by decide +kernel) (by decide) (Nat.le_of_ble_eq_true rfl) ⟨Nat.le_of_ble_eq_true rfl, Nat.le_of_ble_eq_true rfl⟩ dL_texts_79 (fun L F H locs hX hO => ?_)
  have hO : Ob γ o (mk te_tb6) 20 L F := hO
  refine lv_iconst (v := 1) hx hb dL_texts_82 (by decide) ?_
  refine lv_icmp_ne (tgt := 145) hx hb dL_texts_83 (by decide) (fun h9 => absurd (show (1 : Int32) = 1 from (by decide)) h9) (fun _ => ?_)
  exact W.widen (k := 71) (n := 466) (Nat.le_of_ble_eq_true rfl) (Nat.le_of_ble_eq_true rfl) (kk L F H locs ls hX hO hl)
set_option maxHeartbeats 8000000 in
set_option maxRecDepth 100000 in
theorem te_1 (hfl : l.stackTraces = false) (hM : kM p s m args meth c cL_texts 2 ret "InvoicebridgeLaw") (hE : kE γ A s) (hX : kX γ A s L F H locs) (hO : Ob γ o (mk te_tb6) 20 L F) (hl : lv_has ls 2 [(0, .ref o)])
    (kk : ∀ (L : List Nat) (F : kF) (H : Heap) (locs : List Loc) (ls : Array Slot), kX γ A s L F H locs → Ob γ o (mk te_tb13) 37 L F → lv_has ls 2 [(1, .int 0), (0, .ref o)] → W p l e (kRm 11 1673 203776) s m args below meth c H locs 143 3778 Q (F0 m 188 ls [])) : W p l e (kRm 11 1673 203776) s m args below meth c H locs 71 466 Q (F0 m 86 ls []) := by
  have hx := hM.1
  have hb := hM.2.1
  refine lv_aload_n hx hb dL_texts_86 rfl (lv_at hl 0 rfl) ?_
  refine lv_ldc2 hx hb hM.2.2.2.1 (hM.2.2.2.2.1 _ k_1030) dL_texts_87 ?_
  refine lv_iconst (v := 3) hx hb dL_texts_90 (by decide) ?_
  refine H_types (n9 := 3) (r := 2) hfl hM hE hX hO hl (by decide) (by decide) (by decide +kernel) (ty_mk _ _ _) (by decide +kernel) (by decide) (Nat.le_of_ble_eq_true rfl) ⟨Nat.le_of_ble_eq_true rfl, Nat.le_of_ble_eq_true rfl⟩ dL_texts_91 (fun L F H locs hX hO => ?_)
  have hO : Ob γ o (mk te_tb7) 24 L F := hO
  refine lv_iconst (v := 2) hx hb dL_texts_94 (by decide) ?_
  refine lv_icmp_ne (tgt := 145) hx hb dL_texts_95 (by decide) (fun h9 => absurd (show (2 : Int32) = 2 from (by decide)) h9) (fun _ => ?_)
  refine lv_aload_n hx hb dL_texts_98 rfl (lv_at hl 0 rfl) ?_
  refine lv_ldc2 hx hb hM.2.2.2.1 (hM.2.2.2.2.1 _ k_1031) dL_texts_99 ?_
  refine lv_iconst (v := 2) hx hb dL_texts_102 (by decide) ?_
  refine H_types (n9 := 2) (r := 1) hfl hM hE hX hO hl (by decide) (by decide) (by decide +kernel) (ty_mk _ _ _) (by decide +kernel) (by decide) (Nat.le_of_ble_eq_true rfl) ⟨Nat.le_of_ble_eq_true rfl, Nat.le_of_ble_eq_true rfl⟩ dL_texts_103 (fun L F H locs hX hO => ?_)
  have hO : Ob γ o (mk te_tb8) 27 L F := hO
  refine lv_iconst (v := 1) hx hb dL_texts_106 (by decide) ?_
  refine lv_icmp_ne (tgt := 145) hx hb dL_texts_107 (by decide) (fun h9 => absurd (show (1 : Int32) = 1 from (by decide)) h9) (fun _ => ?_)
  refine lv_aload_n hx hb dL_texts_110 rfl (lv_at hl 0 rfl) ?_
  refine lv_ldc2 hx hb hM.2.2.2.1 (hM.2.2.2.2.1 _ k_1032) dL_texts_111 ?_
  refine lv_iconst (v := 1) hx hb dL_texts_114 (by decide) ?_
  refine H_types (n9 := 1) (r := 0) hfl hM hE hX hO hl (by decide) (by decide) (by decide +kernel) (ty_mk _ _ _) (by decide +kernel) (by decide) (Nat.le_of_ble_eq_true rfl) ⟨Nat.le_of_ble_eq_true rfl, Nat.le_of_ble_eq_true rfl⟩ dL_texts_115 (fun L F H locs hX hO => ?_)
  have hO : Ob γ o (mk te_tb9) 29 L F := hO
  refine lv_if_ne (tgt := 145) hx hb dL_texts_118 (by decide) (fun h9 => absurd (show (0 : Int32) = 0 from (by decide)) h9) (fun _ => ?_)
  refine lv_aload_n hx hb dL_texts_121 rfl (lv_at hl 0 rfl) ?_
  refine lv_ldc2 hx hb hM.2.2.2.1 (hM.2.2.2.2.1 _ k_1033) dL_texts_122 ?_
  refine lv_iconst (v := 2) hx hb dL_texts_125 (by decide) ?_
  refine H_types (n9 := 2) (r := 1) hfl hM hE hX hO hl (by decide) (by decide) (by decide +kernel) (ty_mk _ _ _) (by decide +kernel) (by decide) (Nat.le_of_ble_eq_true rfl) ⟨Nat.le_of_ble_eq_true rfl, Nat.le_of_ble_eq_true rfl⟩ dL_texts_126 (fun L F H locs hX hO => ?_)
  have hO : Ob γ o (mk te_tb10) 32 L F := hO
  refine lv_iconst (v := 1) hx hb dL_texts_129 (by decide) ?_
  refine lv_icmp_ne (tgt := 145) hx hb dL_texts_130 (by decide) (fun h9 => absurd (show (1 : Int32) = 1 from (by decide)) h9) (fun _ => ?_)
  refine lv_aload_n hx hb dL_texts_133 rfl (lv_at hl 0 rfl) ?_
  refine lv_ldc2 hx hb hM.2.2.2.1 (hM.2.2.2.2.1 _ k_1034) dL_texts_134 ?_
  refine lv_iconst (v := 2) hx hb dL_texts_137 (by decide) ?_
  refine H_types (n9 := 2) (r := 1) hfl hM hE hX hO hl (by decide) (by decide) (by decide +kernel) (ty_mk _ _ _) (by decide +kernel) (by decide) (Nat.le_of_ble_eq_true rfl) ⟨Nat.le_of_ble_eq_true rfl, Nat.le_of_ble_eq_true rfl⟩ dL_texts_138 (fun L F H locs hX hO => ?_)
  have hO : Ob γ o (mk te_tb11) 35 L F := hO
  refine lv_iconst (v := 1) hx hb dL_texts_141 (by decide) ?_
  refine lv_icmp_eq (tgt := 147) hx hb dL_texts_142 (by decide) (fun _ => ?_) (fun h9 => absurd (show (1 : Int32) = 1 from (by decide)) h9)
  refine lv_iconst (v := 0) hx hb dL_texts_147 (by decide) ?_
  refine lv_istore_n (lv' := [(1, .int 0), (0, .ref o)]) hx hb dL_texts_148 rfl hl (by decide) rfl (fun ls hl => ?_)
  refine lv_iload_n hx hb dL_texts_149 rfl (lv_at hl 0 rfl) ?_
  refine lv_bipush (v := 9) hx hb dL_texts_150 (by decide) ?_
  refine lv_icmp_ge (tgt := 194) hx hb dL_texts_152 (by decide) (fun h9 => absurd h9 (show ¬ (9 : Int32) ≤ 0 from (by decide))) (fun _ => ?_)
  refine lv_aload_n hx hb dL_texts_155 rfl (lv_at hl 1 rfl) ?_
  refine lv_iconst (v := 0) hx hb dL_texts_156 (by decide) ?_
  refine lv_iconst (v := 1) hx hb dL_texts_157 (by decide) ?_
  refine lv_iload_n hx hb dL_texts_158 rfl (lv_at hl 0 rfl) ?_
  refine lv_bipush (v := 8) hx hb dL_texts_159 (by decide) ?_
  refine lv_irem hx hb dL_texts_161 (by decide) ?_
  refine lv_is (y := 0) (by decide) ?_
  refine lv_bipush (v := 10) hx hb dL_texts_162 (by decide) ?_
  refine lv_iload_n hx hb dL_texts_164 rfl (lv_at hl 0 rfl) ?_
  refine lv_iadd hx hb dL_texts_165 ?_
  refine lv_is (y := 10) (by decide) ?_
  refine lv_iconst (v := 0) hx hb dL_texts_166 (by decide) ?_
  refine O_send hfl hM hE hX hO hl (f_send (r := 0) (by decide +kernel)) (mk_24 _ 0) (by decide) (Nat.le_of_ble_eq_true rfl) ⟨Nat.le_of_ble_eq_true rfl, Nat.le_of_ble_eq_true rfl⟩ dL_texts_167 (fun L F H locs hX hO => ?_)
  have hO : Ob γ o (mk te_tb12) 36 L F := hO
  refine lv_iload_n hx hb dL_texts_170 rfl (lv_at hl 0 rfl) ?_
  refine lv_icmp_ne (tgt := 186) hx hb dL_texts_171 (by decide) (fun h9 => absurd (show (0 : Int32) = 0 from (by decide)) h9) (fun _ => ?_)
  refine lv_aload_n hx hb dL_texts_174 rfl (lv_at hl 1 rfl) ?_
  refine lv_iload_n hx hb dL_texts_175 rfl (lv_at hl 0 rfl) ?_
  refine O_accept hfl hM hE hX hO hl (f_accept (r := 10) (by decide +kernel)) (mk_24 _ 0) (by decide) (Nat.le_of_ble_eq_true rfl) ⟨Nat.le_of_ble_eq_true rfl, Nat.le_of_ble_eq_true rfl⟩ dL_texts_176 (fun L F H locs hX hO => ?_)
  have hO : Ob γ o (mk te_tb13) 37 L F := hO
  refine lv_bipush (v := 10) hx hb dL_texts_179 (by decide) ?_
  refine lv_iload_n hx hb dL_texts_181 rfl (lv_at hl 0 rfl) ?_
  refine lv_iadd hx hb dL_texts_182 ?_
  refine lv_is (y := 10) (by decide) ?_
  refine lv_icmp_eq (tgt := 188) hx hb dL_texts_183 (by decide) (fun _ => ?_) (fun h9 => absurd (show (10 : Int32) = 10 from (by decide)) h9)
  exact W.widen (k := 143) (n := 3778) (Nat.le_of_ble_eq_true rfl) (Nat.le_of_ble_eq_true rfl) (kk L F H locs ls hX hO hl)
set_option maxHeartbeats 8000000 in
set_option maxRecDepth 100000 in
theorem te_2 (hfl : l.stackTraces = false) (hM : kM p s m args meth c cL_texts 2 ret "InvoicebridgeLaw") (hE : kE γ A s) (hX : kX γ A s L F H locs) (hO : Ob γ o (mk te_tb13) 37 L F) (hl : lv_has ls 2 [(1, .int 0), (0, .ref o)])
    (kk : ∀ (L : List Nat) (F : kF) (H : Heap) (locs : List Loc) (ls : Array Slot), kX γ A s L F H locs → Ob γ o (mk te_tb20) 44 L F → lv_has ls 2 [(1, .int 4), (0, .ref o)] → W p l e (kRm 11 1673 203776) s m args below meth c H locs 229 15814 Q (F0 m 174 ls [])) : W p l e (kRm 11 1673 203776) s m args below meth c H locs 143 3778 Q (F0 m 188 ls []) := by
  have hx := hM.1
  have hb := hM.2.1
  refine lv_iinc (v := 1) (lv' := [(1, .int 1), (0, .ref o)]) hx hb dL_texts_188 hl (k := 0) rfl (by decide) (by decide) rfl (fun ls hl => ?_)
  refine lv_goto (tgt := 149) hx hb dL_texts_191 (by decide) ?_
  refine lv_iload_n hx hb dL_texts_149 rfl (lv_at hl 0 rfl) ?_
  refine lv_bipush (v := 9) hx hb dL_texts_150 (by decide) ?_
  refine lv_icmp_ge (tgt := 194) hx hb dL_texts_152 (by decide) (fun h9 => absurd h9 (show ¬ (9 : Int32) ≤ 1 from (by decide))) (fun _ => ?_)
  refine lv_aload_n hx hb dL_texts_155 rfl (lv_at hl 1 rfl) ?_
  refine lv_iconst (v := 0) hx hb dL_texts_156 (by decide) ?_
  refine lv_iconst (v := 1) hx hb dL_texts_157 (by decide) ?_
  refine lv_iload_n hx hb dL_texts_158 rfl (lv_at hl 0 rfl) ?_
  refine lv_bipush (v := 8) hx hb dL_texts_159 (by decide) ?_
  refine lv_irem hx hb dL_texts_161 (by decide) ?_
  refine lv_is (y := 1) (by decide) ?_
  refine lv_bipush (v := 10) hx hb dL_texts_162 (by decide) ?_
  refine lv_iload_n hx hb dL_texts_164 rfl (lv_at hl 0 rfl) ?_
  refine lv_iadd hx hb dL_texts_165 ?_
  refine lv_is (y := 11) (by decide) ?_
  refine lv_iconst (v := 0) hx hb dL_texts_166 (by decide) ?_
  refine O_send hfl hM hE hX hO hl (f_send (r := 1) (by decide +kernel)) (mk_24 _ 0) (by decide) (Nat.le_of_ble_eq_true rfl) ⟨Nat.le_of_ble_eq_true rfl, Nat.le_of_ble_eq_true rfl⟩ dL_texts_167 (fun L F H locs hX hO => ?_)
  have hO : Ob γ o (mk te_tb14) 38 L F := hO
  refine lv_iload_n hx hb dL_texts_170 rfl (lv_at hl 0 rfl) ?_
  refine lv_icmp_ne (tgt := 186) hx hb dL_texts_171 (by decide) (fun h9 => absurd (show (1 : Int32) = 1 from (by decide)) h9) (fun _ => ?_)
  refine lv_aload_n hx hb dL_texts_174 rfl (lv_at hl 1 rfl) ?_
  refine lv_iload_n hx hb dL_texts_175 rfl (lv_at hl 0 rfl) ?_
  refine O_accept hfl hM hE hX hO hl (f_accept (r := 11) (by decide +kernel)) (mk_24 _ 0) (by decide) (Nat.le_of_ble_eq_true rfl) ⟨Nat.le_of_ble_eq_true rfl, Nat.le_of_ble_eq_true rfl⟩ dL_texts_176 (fun L F H locs hX hO => ?_)
  have hO : Ob γ o (mk te_tb15) 39 L F := hO
  refine lv_bipush (v := 10) hx hb dL_texts_179 (by decide) ?_
  refine lv_iload_n hx hb dL_texts_181 rfl (lv_at hl 0 rfl) ?_
  refine lv_iadd hx hb dL_texts_182 ?_
  refine lv_is (y := 11) (by decide) ?_
  refine lv_icmp_eq (tgt := 188) hx hb dL_texts_183 (by decide) (fun _ => ?_) (fun h9 => absurd (show (11 : Int32) = 11 from (by decide)) h9)
  refine lv_iinc (v := 2) (lv' := [(1, .int 2), (0, .ref o)]) hx hb dL_texts_188 hl (k := 0) rfl (by decide) (by decide) rfl (fun ls hl => ?_)
  refine lv_goto (tgt := 149) hx hb dL_texts_191 (by decide) ?_
  refine lv_iload_n hx hb dL_texts_149 rfl (lv_at hl 0 rfl) ?_
  refine lv_bipush (v := 9) hx hb dL_texts_150 (by decide) ?_
  refine lv_icmp_ge (tgt := 194) hx hb dL_texts_152 (by decide) (fun h9 => absurd h9 (show ¬ (9 : Int32) ≤ 2 from (by decide))) (fun _ => ?_)
  refine lv_aload_n hx hb dL_texts_155 rfl (lv_at hl 1 rfl) ?_
  refine lv_iconst (v := 0) hx hb dL_texts_156 (by decide) ?_
  refine lv_iconst (v := 1) hx hb dL_texts_157 (by decide) ?_
  refine lv_iload_n hx hb dL_texts_158 rfl (lv_at hl 0 rfl) ?_
  refine lv_bipush (v := 8) hx hb dL_texts_159 (by decide) ?_
  refine lv_irem hx hb dL_texts_161 (by decide) ?_
  refine lv_is (y := 2) (by decide) ?_
  refine lv_bipush (v := 10) hx hb dL_texts_162 (by decide) ?_
  refine lv_iload_n hx hb dL_texts_164 rfl (lv_at hl 0 rfl) ?_
  refine lv_iadd hx hb dL_texts_165 ?_
  refine lv_is (y := 12) (by decide) ?_
  refine lv_iconst (v := 0) hx hb dL_texts_166 (by decide) ?_
  refine O_send hfl hM hE hX hO hl (f_send (r := 2) (by decide +kernel)) (mk_24 _ 0) (by decide) (Nat.le_of_ble_eq_true rfl) ⟨Nat.le_of_ble_eq_true rfl, Nat.le_of_ble_eq_true rfl⟩ dL_texts_167 (fun L F H locs hX hO => ?_)
  have hO : Ob γ o (mk te_tb16) 40 L F := hO
  refine lv_iload_n hx hb dL_texts_170 rfl (lv_at hl 0 rfl) ?_
  refine lv_icmp_ne (tgt := 186) hx hb dL_texts_171 (by decide) (fun h9 => absurd (show (2 : Int32) = 2 from (by decide)) h9) (fun _ => ?_)
  refine lv_aload_n hx hb dL_texts_174 rfl (lv_at hl 1 rfl) ?_
  refine lv_iload_n hx hb dL_texts_175 rfl (lv_at hl 0 rfl) ?_
  refine O_accept hfl hM hE hX hO hl (f_accept (r := 12) (by decide +kernel)) (mk_24 _ 0) (by decide) (Nat.le_of_ble_eq_true rfl) ⟨Nat.le_of_ble_eq_true rfl, Nat.le_of_ble_eq_true rfl⟩ dL_texts_176 (fun L F H locs hX hO => ?_)
  have hO : Ob γ o (mk te_tb17) 41 L F := hO
  refine lv_bipush (v := 10) hx hb dL_texts_179 (by decide) ?_
  refine lv_iload_n hx hb dL_texts_181 rfl (lv_at hl 0 rfl) ?_
  refine lv_iadd hx hb dL_texts_182 ?_
  refine lv_is (y := 12) (by decide) ?_
  refine lv_icmp_eq (tgt := 188) hx hb dL_texts_183 (by decide) (fun _ => ?_) (fun h9 => absurd (show (12 : Int32) = 12 from (by decide)) h9)
  refine lv_iinc (v := 3) (lv' := [(1, .int 3), (0, .ref o)]) hx hb dL_texts_188 hl (k := 0) rfl (by decide) (by decide) rfl (fun ls hl => ?_)
  refine lv_goto (tgt := 149) hx hb dL_texts_191 (by decide) ?_
  refine lv_iload_n hx hb dL_texts_149 rfl (lv_at hl 0 rfl) ?_
  refine lv_bipush (v := 9) hx hb dL_texts_150 (by decide) ?_
  refine lv_icmp_ge (tgt := 194) hx hb dL_texts_152 (by decide) (fun h9 => absurd h9 (show ¬ (9 : Int32) ≤ 3 from (by decide))) (fun _ => ?_)
  refine lv_aload_n hx hb dL_texts_155 rfl (lv_at hl 1 rfl) ?_
  refine lv_iconst (v := 0) hx hb dL_texts_156 (by decide) ?_
  refine lv_iconst (v := 1) hx hb dL_texts_157 (by decide) ?_
  refine lv_iload_n hx hb dL_texts_158 rfl (lv_at hl 0 rfl) ?_
  refine lv_bipush (v := 8) hx hb dL_texts_159 (by decide) ?_
  refine lv_irem hx hb dL_texts_161 (by decide) ?_
  refine lv_is (y := 3) (by decide) ?_
  refine lv_bipush (v := 10) hx hb dL_texts_162 (by decide) ?_
  refine lv_iload_n hx hb dL_texts_164 rfl (lv_at hl 0 rfl) ?_
  refine lv_iadd hx hb dL_texts_165 ?_
  refine lv_is (y := 13) (by decide) ?_
  refine lv_iconst (v := 0) hx hb dL_texts_166 (by decide) ?_
  refine O_send hfl hM hE hX hO hl (f_send (r := 3) (by decide +kernel)) (mk_24 _ 0) (by decide) (Nat.le_of_ble_eq_true rfl) ⟨Nat.le_of_ble_eq_true rfl, Nat.le_of_ble_eq_true rfl⟩ dL_texts_167 (fun L F H locs hX hO => ?_)
  have hO : Ob γ o (mk te_tb18) 42 L F := hO
  refine lv_iload_n hx hb dL_texts_170 rfl (lv_at hl 0 rfl) ?_
  refine lv_icmp_ne (tgt := 186) hx hb dL_texts_171 (by decide) (fun h9 => absurd (show (3 : Int32) = 3 from (by decide)) h9) (fun _ => ?_)
  refine lv_aload_n hx hb dL_texts_174 rfl (lv_at hl 1 rfl) ?_
  refine lv_iload_n hx hb dL_texts_175 rfl (lv_at hl 0 rfl) ?_
  refine O_accept hfl hM hE hX hO hl (f_accept (r := 13) (by decide +kernel)) (mk_24 _ 0) (by decide) (Nat.le_of_ble_eq_true rfl) ⟨Nat.le_of_ble_eq_true rfl, Nat.le_of_ble_eq_true rfl⟩ dL_texts_176 (fun L F H locs hX hO => ?_)
  have hO : Ob γ o (mk te_tb19) 43 L F := hO
  refine lv_bipush (v := 10) hx hb dL_texts_179 (by decide) ?_
  refine lv_iload_n hx hb dL_texts_181 rfl (lv_at hl 0 rfl) ?_
  refine lv_iadd hx hb dL_texts_182 ?_
  refine lv_is (y := 13) (by decide) ?_
  refine lv_icmp_eq (tgt := 188) hx hb dL_texts_183 (by decide) (fun _ => ?_) (fun h9 => absurd (show (13 : Int32) = 13 from (by decide)) h9)
  refine lv_iinc (v := 4) (lv' := [(1, .int 4), (0, .ref o)]) hx hb dL_texts_188 hl (k := 0) rfl (by decide) (by decide) rfl (fun ls hl => ?_)
  refine lv_goto (tgt := 149) hx hb dL_texts_191 (by decide) ?_
  refine lv_iload_n hx hb dL_texts_149 rfl (lv_at hl 0 rfl) ?_
  refine lv_bipush (v := 9) hx hb dL_texts_150 (by decide) ?_
  refine lv_icmp_ge (tgt := 194) hx hb dL_texts_152 (by decide) (fun h9 => absurd h9 (show ¬ (9 : Int32) ≤ 4 from (by decide))) (fun _ => ?_)
  refine lv_aload_n hx hb dL_texts_155 rfl (lv_at hl 1 rfl) ?_
  refine lv_iconst (v := 0) hx hb dL_texts_156 (by decide) ?_
  refine lv_iconst (v := 1) hx hb dL_texts_157 (by decide) ?_
  refine lv_iload_n hx hb dL_texts_158 rfl (lv_at hl 0 rfl) ?_
  refine lv_bipush (v := 8) hx hb dL_texts_159 (by decide) ?_
  refine lv_irem hx hb dL_texts_161 (by decide) ?_
  refine lv_is (y := 4) (by decide) ?_
  refine lv_bipush (v := 10) hx hb dL_texts_162 (by decide) ?_
  refine lv_iload_n hx hb dL_texts_164 rfl (lv_at hl 0 rfl) ?_
  refine lv_iadd hx hb dL_texts_165 ?_
  refine lv_is (y := 14) (by decide) ?_
  refine lv_iconst (v := 0) hx hb dL_texts_166 (by decide) ?_
  refine O_send hfl hM hE hX hO hl (f_send (r := 4) (by decide +kernel)) (mk_24 _ 0) (by decide) (Nat.le_of_ble_eq_true rfl) ⟨Nat.le_of_ble_eq_true rfl, Nat.le_of_ble_eq_true rfl⟩ dL_texts_167 (fun L F H locs hX hO => ?_)
  have hO : Ob γ o (mk te_tb20) 44 L F := hO
  refine lv_iload_n hx hb dL_texts_170 rfl (lv_at hl 0 rfl) ?_
  refine lv_icmp_ne (tgt := 186) hx hb dL_texts_171 (by decide) (fun h9 => absurd (show (4 : Int32) = 4 from (by decide)) h9) (fun _ => ?_)
  exact W.widen (k := 229) (n := 15814) (Nat.le_of_ble_eq_true rfl) (Nat.le_of_ble_eq_true rfl) (kk L F H locs ls hX hO hl)
set_option maxHeartbeats 8000000 in
set_option maxRecDepth 100000 in
theorem te_3 (hfl : l.stackTraces = false) (hM : kM p s m args meth c cL_texts 2 ret "InvoicebridgeLaw") (hE : kE γ A s) (hX : kX γ A s L F H locs) (hO : Ob γ o (mk te_tb20) 44 L F) (hl : lv_has ls 2 [(1, .int 4), (0, .ref o)])
    (kk : ∀ (L : List Nat) (F : kF) (H : Heap) (locs : List Loc) (ls : Array Slot), kX γ A s L F H locs → Ob γ o (mk te_tb27) 51 L F → lv_has ls 2 [(1, .int 7), (0, .ref o)] → W p l e (kRm 11 1673 203776) s m args below meth c H locs 297 24862 Q (F0 m 188 ls [])) : W p l e (kRm 11 1673 203776) s m args below meth c H locs 229 15814 Q (F0 m 174 ls []) := by
  have hx := hM.1
  have hb := hM.2.1
  refine lv_aload_n hx hb dL_texts_174 rfl (lv_at hl 1 rfl) ?_
  refine lv_iload_n hx hb dL_texts_175 rfl (lv_at hl 0 rfl) ?_
  refine O_accept hfl hM hE hX hO hl (f_accept (r := 14) (by decide +kernel)) (mk_24 _ 0) (by decide) (Nat.le_of_ble_eq_true rfl) ⟨Nat.le_of_ble_eq_true rfl, Nat.le_of_ble_eq_true rfl⟩ dL_texts_176 (fun L F H locs hX hO => ?_)
  have hO : Ob γ o (mk te_tb21) 45 L F := hO
  refine lv_bipush (v := 10) hx hb dL_texts_179 (by decide) ?_
  refine lv_iload_n hx hb dL_texts_181 rfl (lv_at hl 0 rfl) ?_
  refine lv_iadd hx hb dL_texts_182 ?_
  refine lv_is (y := 14) (by decide) ?_
  refine lv_icmp_eq (tgt := 188) hx hb dL_texts_183 (by decide) (fun _ => ?_) (fun h9 => absurd (show (14 : Int32) = 14 from (by decide)) h9)
  refine lv_iinc (v := 5) (lv' := [(1, .int 5), (0, .ref o)]) hx hb dL_texts_188 hl (k := 0) rfl (by decide) (by decide) rfl (fun ls hl => ?_)
  refine lv_goto (tgt := 149) hx hb dL_texts_191 (by decide) ?_
  refine lv_iload_n hx hb dL_texts_149 rfl (lv_at hl 0 rfl) ?_
  refine lv_bipush (v := 9) hx hb dL_texts_150 (by decide) ?_
  refine lv_icmp_ge (tgt := 194) hx hb dL_texts_152 (by decide) (fun h9 => absurd h9 (show ¬ (9 : Int32) ≤ 5 from (by decide))) (fun _ => ?_)
  refine lv_aload_n hx hb dL_texts_155 rfl (lv_at hl 1 rfl) ?_
  refine lv_iconst (v := 0) hx hb dL_texts_156 (by decide) ?_
  refine lv_iconst (v := 1) hx hb dL_texts_157 (by decide) ?_
  refine lv_iload_n hx hb dL_texts_158 rfl (lv_at hl 0 rfl) ?_
  refine lv_bipush (v := 8) hx hb dL_texts_159 (by decide) ?_
  refine lv_irem hx hb dL_texts_161 (by decide) ?_
  refine lv_is (y := 5) (by decide) ?_
  refine lv_bipush (v := 10) hx hb dL_texts_162 (by decide) ?_
  refine lv_iload_n hx hb dL_texts_164 rfl (lv_at hl 0 rfl) ?_
  refine lv_iadd hx hb dL_texts_165 ?_
  refine lv_is (y := 15) (by decide) ?_
  refine lv_iconst (v := 0) hx hb dL_texts_166 (by decide) ?_
  refine O_send hfl hM hE hX hO hl (f_send (r := 5) (by decide +kernel)) (mk_24 _ 0) (by decide) (Nat.le_of_ble_eq_true rfl) ⟨Nat.le_of_ble_eq_true rfl, Nat.le_of_ble_eq_true rfl⟩ dL_texts_167 (fun L F H locs hX hO => ?_)
  have hO : Ob γ o (mk te_tb22) 46 L F := hO
  refine lv_iload_n hx hb dL_texts_170 rfl (lv_at hl 0 rfl) ?_
  refine lv_icmp_ne (tgt := 186) hx hb dL_texts_171 (by decide) (fun h9 => absurd (show (5 : Int32) = 5 from (by decide)) h9) (fun _ => ?_)
  refine lv_aload_n hx hb dL_texts_174 rfl (lv_at hl 1 rfl) ?_
  refine lv_iload_n hx hb dL_texts_175 rfl (lv_at hl 0 rfl) ?_
  refine O_accept hfl hM hE hX hO hl (f_accept (r := 15) (by decide +kernel)) (mk_24 _ 0) (by decide) (Nat.le_of_ble_eq_true rfl) ⟨Nat.le_of_ble_eq_true rfl, Nat.le_of_ble_eq_true rfl⟩ dL_texts_176 (fun L F H locs hX hO => ?_)
  have hO : Ob γ o (mk te_tb23) 47 L F := hO
  refine lv_bipush (v := 10) hx hb dL_texts_179 (by decide) ?_
  refine lv_iload_n hx hb dL_texts_181 rfl (lv_at hl 0 rfl) ?_
  refine lv_iadd hx hb dL_texts_182 ?_
  refine lv_is (y := 15) (by decide) ?_
  refine lv_icmp_eq (tgt := 188) hx hb dL_texts_183 (by decide) (fun _ => ?_) (fun h9 => absurd (show (15 : Int32) = 15 from (by decide)) h9)
  refine lv_iinc (v := 6) (lv' := [(1, .int 6), (0, .ref o)]) hx hb dL_texts_188 hl (k := 0) rfl (by decide) (by decide) rfl (fun ls hl => ?_)
  refine lv_goto (tgt := 149) hx hb dL_texts_191 (by decide) ?_
  refine lv_iload_n hx hb dL_texts_149 rfl (lv_at hl 0 rfl) ?_
  refine lv_bipush (v := 9) hx hb dL_texts_150 (by decide) ?_
  refine lv_icmp_ge (tgt := 194) hx hb dL_texts_152 (by decide) (fun h9 => absurd h9 (show ¬ (9 : Int32) ≤ 6 from (by decide))) (fun _ => ?_)
  refine lv_aload_n hx hb dL_texts_155 rfl (lv_at hl 1 rfl) ?_
  refine lv_iconst (v := 0) hx hb dL_texts_156 (by decide) ?_
  refine lv_iconst (v := 1) hx hb dL_texts_157 (by decide) ?_
  refine lv_iload_n hx hb dL_texts_158 rfl (lv_at hl 0 rfl) ?_
  refine lv_bipush (v := 8) hx hb dL_texts_159 (by decide) ?_
  refine lv_irem hx hb dL_texts_161 (by decide) ?_
  refine lv_is (y := 6) (by decide) ?_
  refine lv_bipush (v := 10) hx hb dL_texts_162 (by decide) ?_
  refine lv_iload_n hx hb dL_texts_164 rfl (lv_at hl 0 rfl) ?_
  refine lv_iadd hx hb dL_texts_165 ?_
  refine lv_is (y := 16) (by decide) ?_
  refine lv_iconst (v := 0) hx hb dL_texts_166 (by decide) ?_
  refine O_send hfl hM hE hX hO hl (f_send (r := 6) (by decide +kernel)) (mk_24 _ 0) (by decide) (Nat.le_of_ble_eq_true rfl) ⟨Nat.le_of_ble_eq_true rfl, Nat.le_of_ble_eq_true rfl⟩ dL_texts_167 (fun L F H locs hX hO => ?_)
  have hO : Ob γ o (mk te_tb24) 48 L F := hO
  refine lv_iload_n hx hb dL_texts_170 rfl (lv_at hl 0 rfl) ?_
  refine lv_icmp_ne (tgt := 186) hx hb dL_texts_171 (by decide) (fun h9 => absurd (show (6 : Int32) = 6 from (by decide)) h9) (fun _ => ?_)
  refine lv_aload_n hx hb dL_texts_174 rfl (lv_at hl 1 rfl) ?_
  refine lv_iload_n hx hb dL_texts_175 rfl (lv_at hl 0 rfl) ?_
  refine O_accept hfl hM hE hX hO hl (f_accept (r := 16) (by decide +kernel)) (mk_24 _ 0) (by decide) (Nat.le_of_ble_eq_true rfl) ⟨Nat.le_of_ble_eq_true rfl, Nat.le_of_ble_eq_true rfl⟩ dL_texts_176 (fun L F H locs hX hO => ?_)
  have hO : Ob γ o (mk te_tb25) 49 L F := hO
  refine lv_bipush (v := 10) hx hb dL_texts_179 (by decide) ?_
  refine lv_iload_n hx hb dL_texts_181 rfl (lv_at hl 0 rfl) ?_
  refine lv_iadd hx hb dL_texts_182 ?_
  refine lv_is (y := 16) (by decide) ?_
  refine lv_icmp_eq (tgt := 188) hx hb dL_texts_183 (by decide) (fun _ => ?_) (fun h9 => absurd (show (16 : Int32) = 16 from (by decide)) h9)
  refine lv_iinc (v := 7) (lv' := [(1, .int 7), (0, .ref o)]) hx hb dL_texts_188 hl (k := 0) rfl (by decide) (by decide) rfl (fun ls hl => ?_)
  refine lv_goto (tgt := 149) hx hb dL_texts_191 (by decide) ?_
  refine lv_iload_n hx hb dL_texts_149 rfl (lv_at hl 0 rfl) ?_
  refine lv_bipush (v := 9) hx hb dL_texts_150 (by decide) ?_
  refine lv_icmp_ge (tgt := 194) hx hb dL_texts_152 (by decide) (fun h9 => absurd h9 (show ¬ (9 : Int32) ≤ 7 from (by decide))) (fun _ => ?_)
  refine lv_aload_n hx hb dL_texts_155 rfl (lv_at hl 1 rfl) ?_
  refine lv_iconst (v := 0) hx hb dL_texts_156 (by decide) ?_
  refine lv_iconst (v := 1) hx hb dL_texts_157 (by decide) ?_
  refine lv_iload_n hx hb dL_texts_158 rfl (lv_at hl 0 rfl) ?_
  refine lv_bipush (v := 8) hx hb dL_texts_159 (by decide) ?_
  refine lv_irem hx hb dL_texts_161 (by decide) ?_
  refine lv_is (y := 7) (by decide) ?_
  refine lv_bipush (v := 10) hx hb dL_texts_162 (by decide) ?_
  refine lv_iload_n hx hb dL_texts_164 rfl (lv_at hl 0 rfl) ?_
  refine lv_iadd hx hb dL_texts_165 ?_
  refine lv_is (y := 17) (by decide) ?_
  refine lv_iconst (v := 0) hx hb dL_texts_166 (by decide) ?_
  refine O_send hfl hM hE hX hO hl (f_send (r := 7) (by decide +kernel)) (mk_24 _ 0) (by decide) (Nat.le_of_ble_eq_true rfl) ⟨Nat.le_of_ble_eq_true rfl, Nat.le_of_ble_eq_true rfl⟩ dL_texts_167 (fun L F H locs hX hO => ?_)
  have hO : Ob γ o (mk te_tb26) 50 L F := hO
  refine lv_iload_n hx hb dL_texts_170 rfl (lv_at hl 0 rfl) ?_
  refine lv_icmp_ne (tgt := 186) hx hb dL_texts_171 (by decide) (fun h9 => absurd (show (7 : Int32) = 7 from (by decide)) h9) (fun _ => ?_)
  refine lv_aload_n hx hb dL_texts_174 rfl (lv_at hl 1 rfl) ?_
  refine lv_iload_n hx hb dL_texts_175 rfl (lv_at hl 0 rfl) ?_
  refine O_accept hfl hM hE hX hO hl (f_accept (r := 17) (by decide +kernel)) (mk_24 _ 0) (by decide) (Nat.le_of_ble_eq_true rfl) ⟨Nat.le_of_ble_eq_true rfl, Nat.le_of_ble_eq_true rfl⟩ dL_texts_176 (fun L F H locs hX hO => ?_)
  have hO : Ob γ o (mk te_tb27) 51 L F := hO
  refine lv_bipush (v := 10) hx hb dL_texts_179 (by decide) ?_
  refine lv_iload_n hx hb dL_texts_181 rfl (lv_at hl 0 rfl) ?_
  refine lv_iadd hx hb dL_texts_182 ?_
  refine lv_is (y := 17) (by decide) ?_
  refine lv_icmp_eq (tgt := 188) hx hb dL_texts_183 (by decide) (fun _ => ?_) (fun h9 => absurd (show (17 : Int32) = 17 from (by decide)) h9)
  exact W.widen (k := 297) (n := 24862) (Nat.le_of_ble_eq_true rfl) (Nat.le_of_ble_eq_true rfl) (kk L F H locs ls hX hO hl)
set_option maxHeartbeats 8000000 in
set_option maxRecDepth 100000 in
theorem te_4 (hfl : l.stackTraces = false) (hM : kM p s m args meth c cL_texts 2 ret "InvoicebridgeLaw") (hE : kE γ A s) (hX : kX γ A s L F H locs) (hO : Ob γ o (mk te_tb27) 51 L F) (hl : lv_has ls 2 [(1, .int 7), (0, .ref o)])
    (kk : ∀ (L : List Nat) (F : kF) (H : Heap) (locs : List Loc) (ls : Array Slot), kX γ A s L F H locs → Ob γ o (mk te_tb33) 65 L F → lv_has ls 2 [(1, .int 9), (0, .ref o)] → W p l e (kRm 11 1673 203776) s m args below meth c H locs 332 27952 Q (F0 m 257 ls [])) : W p l e (kRm 11 1673 203776) s m args below meth c H locs 297 24862 Q (F0 m 188 ls []) := by
  have hx := hM.1
  have hb := hM.2.1
  refine lv_iinc (v := 8) (lv' := [(1, .int 8), (0, .ref o)]) hx hb dL_texts_188 hl (k := 0) rfl (by decide) (by decide) rfl (fun ls hl => ?_)
  refine lv_goto (tgt := 149) hx hb dL_texts_191 (by decide) ?_
  refine lv_iload_n hx hb dL_texts_149 rfl (lv_at hl 0 rfl) ?_
  refine lv_bipush (v := 9) hx hb dL_texts_150 (by decide) ?_
  refine lv_icmp_ge (tgt := 194) hx hb dL_texts_152 (by decide) (fun h9 => absurd h9 (show ¬ (9 : Int32) ≤ 8 from (by decide))) (fun _ => ?_)
  refine lv_aload_n hx hb dL_texts_155 rfl (lv_at hl 1 rfl) ?_
  refine lv_iconst (v := 0) hx hb dL_texts_156 (by decide) ?_
  refine lv_iconst (v := 1) hx hb dL_texts_157 (by decide) ?_
  refine lv_iload_n hx hb dL_texts_158 rfl (lv_at hl 0 rfl) ?_
  refine lv_bipush (v := 8) hx hb dL_texts_159 (by decide) ?_
  refine lv_irem hx hb dL_texts_161 (by decide) ?_
  refine lv_is (y := 0) (by decide) ?_
  refine lv_bipush (v := 10) hx hb dL_texts_162 (by decide) ?_
  refine lv_iload_n hx hb dL_texts_164 rfl (lv_at hl 0 rfl) ?_
  refine lv_iadd hx hb dL_texts_165 ?_
  refine lv_is (y := 18) (by decide) ?_
  refine lv_iconst (v := 0) hx hb dL_texts_166 (by decide) ?_
  refine O_send hfl hM hE hX hO hl (f_send (r := 8) (by decide +kernel)) (mk_24 _ 0) (by decide) (Nat.le_of_ble_eq_true rfl) ⟨Nat.le_of_ble_eq_true rfl, Nat.le_of_ble_eq_true rfl⟩ dL_texts_167 (fun L F H locs hX hO => ?_)
  have hO : Ob γ o (mk te_tb28) 52 L F := hO
  refine lv_iload_n hx hb dL_texts_170 rfl (lv_at hl 0 rfl) ?_
  refine lv_icmp_ne (tgt := 186) hx hb dL_texts_171 (by decide) (fun h9 => absurd (show (8 : Int32) = 8 from (by decide)) h9) (fun _ => ?_)
  refine lv_aload_n hx hb dL_texts_174 rfl (lv_at hl 1 rfl) ?_
  refine lv_iload_n hx hb dL_texts_175 rfl (lv_at hl 0 rfl) ?_
  refine O_accept hfl hM hE hX hO hl (f_accept (r := 18) (by decide +kernel)) (mk_24 _ 0) (by decide) (Nat.le_of_ble_eq_true rfl) ⟨Nat.le_of_ble_eq_true rfl, Nat.le_of_ble_eq_true rfl⟩ dL_texts_176 (fun L F H locs hX hO => ?_)
  have hO : Ob γ o (mk te_tb29) 53 L F := hO
  refine lv_bipush (v := 10) hx hb dL_texts_179 (by decide) ?_
  refine lv_iload_n hx hb dL_texts_181 rfl (lv_at hl 0 rfl) ?_
  refine lv_iadd hx hb dL_texts_182 ?_
  refine lv_is (y := 18) (by decide) ?_
  refine lv_icmp_eq (tgt := 188) hx hb dL_texts_183 (by decide) (fun _ => ?_) (fun h9 => absurd (show (18 : Int32) = 18 from (by decide)) h9)
  refine lv_iinc (v := 9) (lv' := [(1, .int 9), (0, .ref o)]) hx hb dL_texts_188 hl (k := 0) rfl (by decide) (by decide) rfl (fun ls hl => ?_)
  refine lv_goto (tgt := 149) hx hb dL_texts_191 (by decide) ?_
  refine lv_iload_n hx hb dL_texts_149 rfl (lv_at hl 0 rfl) ?_
  refine lv_bipush (v := 9) hx hb dL_texts_150 (by decide) ?_
  refine lv_icmp_ge (tgt := 194) hx hb dL_texts_152 (by decide) (fun _ => ?_) (fun h9 => absurd (show (9 : Int32) ≤ 9 from (by decide)) h9)
  refine lv_aload_n hx hb dL_texts_194 rfl (lv_at hl 1 rfl) ?_
  refine lv_ldc2 hx hb hM.2.2.2.1 (hM.2.2.2.2.1 _ k_1035) dL_texts_195 ?_
  refine lv_bipush (v := 8) hx hb dL_texts_198 (by decide) ?_
  refine H_types (n9 := 8) (r := 3) hfl hM hE hX hO hl (by decide) (by decide) (by decide +kernel) (ty_mk _ _ _) (by decide +kernel) (by decide) (Nat.le_of_ble_eq_true rfl) ⟨Nat.le_of_ble_eq_true rfl, Nat.le_of_ble_eq_true rfl⟩ dL_texts_200 (fun L F H locs hX hO => ?_)
  have hO : Ob γ o (mk te_tb30) 62 L F := hO
  refine lv_iconst (v := 3) hx hb dL_texts_203 (by decide) ?_
  refine lv_icmp_ne (tgt := 255) hx hb dL_texts_204 (by decide) (fun h9 => absurd (show (3 : Int32) = 3 from (by decide)) h9) (fun _ => ?_)
  refine lv_aload_n hx hb dL_texts_207 rfl (lv_at hl 1 rfl) ?_
  refine lv_bipush (v := 32) hx hb dL_texts_208 (by decide) ?_
  refine O_type hfl hM hE hX hO hl (f_type (r := 9) (by decide +kernel)) (mk_24 _ 0) (by decide) (Nat.le_of_ble_eq_true rfl) ⟨Nat.le_of_ble_eq_true rfl, Nat.le_of_ble_eq_true rfl⟩ dL_texts_210 (fun L F H locs hX hO => ?_)
  have hO : Ob γ o (mk te_tb31) 63 L F := hO
  refine lv_bipush (v := 9) hx hb dL_texts_213 (by decide) ?_
  refine lv_icmp_ne (tgt := 255) hx hb dL_texts_215 (by decide) (fun h9 => absurd (show (9 : Int32) = 9 from (by decide)) h9) (fun _ => ?_)
  refine lv_aload_n hx hb dL_texts_218 rfl (lv_at hl 1 rfl) ?_
  refine lv_bipush (v := 126) hx hb dL_texts_219 (by decide) ?_
  refine O_type hfl hM hE hX hO hl (f_type (r := 10) (by decide +kernel)) (mk_24 _ 0) (by decide) (Nat.le_of_ble_eq_true rfl) ⟨Nat.le_of_ble_eq_true rfl, Nat.le_of_ble_eq_true rfl⟩ dL_texts_221 (fun L F H locs hX hO => ?_)
  have hO : Ob γ o (mk te_tb32) 64 L F := hO
  refine lv_bipush (v := 10) hx hb dL_texts_224 (by decide) ?_
  refine lv_icmp_ne (tgt := 255) hx hb dL_texts_226 (by decide) (fun h9 => absurd (show (10 : Int32) = 10 from (by decide)) h9) (fun _ => ?_)
  refine lv_aload_n hx hb dL_texts_229 rfl (lv_at hl 1 rfl) ?_
  refine lv_bipush (v := 9) hx hb dL_texts_230 (by decide) ?_
  refine lv_bipush (v := 50) hx hb dL_texts_232 (by decide) ?_
  refine lv_iconst (v := 0) hx hb dL_texts_234 (by decide) ?_
  refine lv_iconst (v := 0) hx hb dL_texts_235 (by decide) ?_
  refine lv_iconst (v := 0) hx hb dL_texts_236 (by decide) ?_
  refine lv_iconst (v := 0) hx hb dL_texts_237 (by decide) ?_
  refine A_no_9 (q := 2) (v := (-7000003)) hfl hM hE hX hO hl (by simp) (by decide +kernel) (by decide) (by decide) ⟨Nat.le_of_ble_eq_true rfl, Nat.le_of_ble_eq_true rfl⟩ dL_texts_238 (fun L F H locs hX hO => ?_)
  refine lv_ldc hx hb hM.2.2.2.1 (hM.2.2.2.2.1 _ k_990) dL_texts_241 ?_
  refine lv_icmp_ne (tgt := 255) hx hb dL_texts_243 (by decide) (fun h9 => absurd (show ((-7000003) : Int32) = (-7000003) from (by decide)) h9) (fun _ => ?_)
  refine lv_aload_n hx hb dL_texts_246 rfl (lv_at hl 1 rfl) ?_
  refine O_clear hM hE hX hO hl (f_clear (r := 10) (by decide +kernel)) (by decide) (Nat.le_of_ble_eq_true rfl) ⟨Nat.le_of_ble_eq_true rfl, Nat.le_of_ble_eq_true rfl⟩ dL_texts_247 (fun L F H locs hX hO => ?_)
  have hO : Ob γ o (mk te_tb33) 65 L F := hO
  refine lv_bipush (v := 10) hx hb dL_texts_250 (by decide) ?_
  refine lv_icmp_eq (tgt := 257) hx hb dL_texts_252 (by decide) (fun _ => ?_) (fun h9 => absurd (show (10 : Int32) = 10 from (by decide)) h9)
  exact W.widen (k := 332) (n := 27952) (Nat.le_of_ble_eq_true rfl) (Nat.le_of_ble_eq_true rfl) (kk L F H locs ls hX hO hl)
set_option maxHeartbeats 8000000 in
set_option maxRecDepth 100000 in
theorem te_5 (hfl : l.stackTraces = false) (hM : kM p s m args meth c cL_texts 2 ret "InvoicebridgeLaw") (hE : kE γ A s) (hX : kX γ A s L F H locs) (hO : Ob γ o (mk te_tb33) 65 L F) (hl : lv_has ls 2 [(1, .int 9), (0, .ref o)])
    (kk : ∀ (L : List Nat) (F : kF) (H : Heap) (locs : List Loc) (ls : Array Slot), kX γ A s L F H locs → Ob γ o (mk te_tb38) 77 L F → lv_has ls 2 [(1, .int 9), (0, .ref o)] → W p l e (kRm 11 1673 203776) s m args below meth c H locs 393 31492 Q (F0 m 350 ls [])) : W p l e (kRm 11 1673 203776) s m args below meth c H locs 332 27952 Q (F0 m 257 ls []) := by
  have hx := hM.1
  have hb := hM.2.1
  refine lv_aload_n hx hb dL_texts_257 rfl (lv_at hl 1 rfl) ?_
  refine lv_ldc2 hx hb hM.2.2.2.1 (hM.2.2.2.2.1 _ k_1036) dL_texts_258 ?_
  refine lv_iconst (v := 3) hx hb dL_texts_261 (by decide) ?_
  refine H_types (n9 := 3) (r := (-1)) hfl hM hE hX hO hl (by decide) (by decide) (by decide +kernel) (ty_mk _ _ _) (by decide +kernel) (by decide) (Nat.le_of_ble_eq_true rfl) ⟨Nat.le_of_ble_eq_true rfl, Nat.le_of_ble_eq_true rfl⟩ dL_texts_262 (fun L F H locs hX hO => ?_)
  have hO : Ob γ o (mk te_tb34) 69 L F := hO
  refine lv_iconst (v := (-1)) hx hb dL_texts_265 (by decide) ?_
  refine lv_icmp_ne (tgt := 455) hx hb dL_texts_266 (by decide) (fun h9 => absurd (show ((-1) : Int32) = (-1) from (by decide)) h9) (fun _ => ?_)
  refine lv_aload_n hx hb dL_texts_269 rfl (lv_at hl 1 rfl) ?_
  refine lv_iconst (v := 1) hx hb dL_texts_270 (by decide) ?_
  refine lv_iconst (v := 0) hx hb dL_texts_271 (by decide) ?_
  refine lv_iconst (v := 3) hx hb dL_texts_272 (by decide) ?_
  refine O_payByText hfl hM hE hX hO hl (by decide +kernel) (f_payText (r := 7) (by decide +kernel)) (mk_24 _ 0) (by decide) (Nat.le_of_ble_eq_true rfl) ⟨Nat.le_of_ble_eq_true rfl, Nat.le_of_ble_eq_true rfl⟩ dL_texts_273 (fun L F H locs hX hO => ?_)
  have hO : Ob γ o (mk te_tb35) 70 L F := hO
  refine lv_bipush (v := 7) hx hb dL_texts_276 (by decide) ?_
  refine lv_icmp_ne (tgt := 455) hx hb dL_texts_278 (by decide) (fun h9 => absurd (show (7 : Int32) = 7 from (by decide)) h9) (fun _ => ?_)
  refine lv_aload_n hx hb dL_texts_281 rfl (lv_at hl 1 rfl) ?_
  refine lv_bipush (v := 7) hx hb dL_texts_282 (by decide) ?_
  refine lv_iconst (v := 1) hx hb dL_texts_284 (by decide) ?_
  refine lv_iconst (v := 0) hx hb dL_texts_285 (by decide) ?_
  refine lv_bipush (v := 17) hx hb dL_texts_286 (by decide) ?_
  refine lv_bipush (v := 14) hx hb dL_texts_288 (by decide) ?_
  refine lv_iconst (v := 3) hx hb dL_texts_290 (by decide) ?_
  refine H_about  hfl hM hE hX hO hl (by decide +kernel) (by decide) (Nat.le_of_ble_eq_true rfl) ⟨Nat.le_of_ble_eq_true rfl, Nat.le_of_ble_eq_true rfl⟩ dL_texts_291 (fun L F H locs hX hO => ?_)
  refine lv_if_eq (tgt := 455) hx hb dL_texts_294 (by decide) (fun h9 => absurd h9 (show ¬ (1 : Int32) = 0 from (by decide))) (fun _ => ?_)
  refine lv_aload_n hx hb dL_texts_297 rfl (lv_at hl 1 rfl) ?_
  refine lv_ldc2 hx hb hM.2.2.2.1 (hM.2.2.2.2.1 _ k_1037) dL_texts_298 ?_
  refine lv_iconst (v := 2) hx hb dL_texts_301 (by decide) ?_
  refine H_types (n9 := 2) (r := (-1)) hfl hM hE hX hO hl (by decide) (by decide) (by decide +kernel) (ty_mk _ _ _) (by decide +kernel) (by decide) (Nat.le_of_ble_eq_true rfl) ⟨Nat.le_of_ble_eq_true rfl, Nat.le_of_ble_eq_true rfl⟩ dL_texts_302 (fun L F H locs hX hO => ?_)
  have hO : Ob γ o (mk te_tb36) 73 L F := hO
  refine lv_iconst (v := (-1)) hx hb dL_texts_305 (by decide) ?_
  refine lv_icmp_ne (tgt := 455) hx hb dL_texts_306 (by decide) (fun h9 => absurd (show ((-1) : Int32) = (-1) from (by decide)) h9) (fun _ => ?_)
  refine lv_aload_n hx hb dL_texts_309 rfl (lv_at hl 1 rfl) ?_
  refine lv_iconst (v := 1) hx hb dL_texts_310 (by decide) ?_
  refine lv_iconst (v := 0) hx hb dL_texts_311 (by decide) ?_
  refine lv_bipush (v := 18) hx hb dL_texts_312 (by decide) ?_
  refine O_payByText hfl hM hE hX hO hl (by decide +kernel) (f_payText (r := 8) (by decide +kernel)) (mk_24 _ 0) (by decide) (Nat.le_of_ble_eq_true rfl) ⟨Nat.le_of_ble_eq_true rfl, Nat.le_of_ble_eq_true rfl⟩ dL_texts_314 (fun L F H locs hX hO => ?_)
  have hO : Ob γ o (mk te_tb37) 74 L F := hO
  refine lv_bipush (v := 8) hx hb dL_texts_317 (by decide) ?_
  refine lv_icmp_ne (tgt := 455) hx hb dL_texts_319 (by decide) (fun h9 => absurd (show (8 : Int32) = 8 from (by decide)) h9) (fun _ => ?_)
  refine lv_aload_n hx hb dL_texts_322 rfl (lv_at hl 1 rfl) ?_
  refine lv_ldc2 hx hb hM.2.2.2.1 (hM.2.2.2.2.1 _ k_1038) dL_texts_323 ?_
  refine lv_iconst (v := 2) hx hb dL_texts_326 (by decide) ?_
  refine H_types (n9 := 2) (r := (-1)) hfl hM hE hX hO hl (by decide) (by decide) (by decide +kernel) (ty_mk _ _ _) (by decide +kernel) (by decide) (Nat.le_of_ble_eq_true rfl) ⟨Nat.le_of_ble_eq_true rfl, Nat.le_of_ble_eq_true rfl⟩ dL_texts_327 (fun L F H locs hX hO => ?_)
  have hO : Ob γ o (mk te_tb38) 77 L F := hO
  refine lv_iconst (v := (-1)) hx hb dL_texts_330 (by decide) ?_
  refine lv_icmp_ne (tgt := 455) hx hb dL_texts_331 (by decide) (fun h9 => absurd (show ((-1) : Int32) = (-1) from (by decide)) h9) (fun _ => ?_)
  refine lv_aload_n hx hb dL_texts_334 rfl (lv_at hl 1 rfl) ?_
  refine lv_bipush (v := 10) hx hb dL_texts_335 (by decide) ?_
  refine lv_iconst (v := 1) hx hb dL_texts_337 (by decide) ?_
  refine lv_iconst (v := 0) hx hb dL_texts_338 (by decide) ?_
  refine lv_iconst (v := 1) hx hb dL_texts_339 (by decide) ?_
  refine lv_iconst (v := 0) hx hb dL_texts_340 (by decide) ?_
  refine lv_iconst (v := 0) hx hb dL_texts_341 (by decide) ?_
  refine A_no_10 (q := 3) (v := (-7000003)) hfl hM hE hX hO hl (by decide +kernel) (by simp) (by decide +kernel) (by decide) (by decide) ⟨Nat.le_of_ble_eq_true rfl, Nat.le_of_ble_eq_true rfl⟩ dL_texts_342 (fun L F H locs hX hO => ?_)
  refine lv_ldc hx hb hM.2.2.2.1 (hM.2.2.2.2.1 _ k_990) dL_texts_345 ?_
  refine lv_icmp_ne (tgt := 455) hx hb dL_texts_347 (by decide) (fun h9 => absurd (show ((-7000003) : Int32) = (-7000003) from (by decide)) h9) (fun _ => ?_)
  exact W.widen (k := 393) (n := 31492) (Nat.le_of_ble_eq_true rfl) (Nat.le_of_ble_eq_true rfl) (kk L F H locs ls hX hO hl)
set_option maxHeartbeats 8000000 in
set_option maxRecDepth 100000 in
theorem te_6 (hfl : l.stackTraces = false) (hM : kM p s m args meth c cL_texts 2 ret "InvoicebridgeLaw") (hE : kE γ A s) (hX : kX γ A s L F H locs) (hO : Ob γ o (mk te_tb38) 77 L F) (hl : lv_has ls 2 [(1, .int 9), (0, .ref o)])
    (kk : ∀ (L : List Nat) (F : kF) (H : Heap) (locs : List Loc) (ls : Array Slot), kX γ A s L F H locs → Ob γ o (mk te_tb42) 86 L F → lv_has ls 2 [(1, .int 9), (0, .ref o)] → W p l e (kRm 11 1673 203776) s m args below meth c H locs 429 33824 Q (F0 m 432 ls [])) : W p l e (kRm 11 1673 203776) s m args below meth c H locs 393 31492 Q (F0 m 350 ls []) := by
  have hx := hM.1
  have hb := hM.2.1
  refine lv_aload_n hx hb dL_texts_350 rfl (lv_at hl 1 rfl) ?_
  refine O_clear hM hE hX hO hl (f_clear (r := 2) (by decide +kernel)) (by decide) (Nat.le_of_ble_eq_true rfl) ⟨Nat.le_of_ble_eq_true rfl, Nat.le_of_ble_eq_true rfl⟩ dL_texts_351 (fun L F H locs hX hO => ?_)
  have hO : Ob γ o (mk te_tb39) 78 L F := hO
  refine lv_iconst (v := 2) hx hb dL_texts_354 (by decide) ?_
  refine lv_icmp_ne (tgt := 455) hx hb dL_texts_355 (by decide) (fun h9 => absurd (show (2 : Int32) = 2 from (by decide)) h9) (fun _ => ?_)
  refine lv_aload_n hx hb dL_texts_358 rfl (lv_at hl 1 rfl) ?_
  refine lv_ldc2 hx hb hM.2.2.2.1 (hM.2.2.2.2.1 _ k_1039) dL_texts_359 ?_
  refine lv_iconst (v := 3) hx hb dL_texts_362 (by decide) ?_
  refine H_types (n9 := 3) (r := (-1)) hfl hM hE hX hO hl (by decide) (by decide) (by decide +kernel) (ty_mk _ _ _) (by decide +kernel) (by decide) (Nat.le_of_ble_eq_true rfl) ⟨Nat.le_of_ble_eq_true rfl, Nat.le_of_ble_eq_true rfl⟩ dL_texts_363 (fun L F H locs hX hO => ?_)
  have hO : Ob γ o (mk te_tb40) 82 L F := hO
  refine lv_iconst (v := (-1)) hx hb dL_texts_366 (by decide) ?_
  refine lv_icmp_ne (tgt := 455) hx hb dL_texts_367 (by decide) (fun h9 => absurd (show ((-1) : Int32) = (-1) from (by decide)) h9) (fun _ => ?_)
  refine lv_aload_n hx hb dL_texts_370 rfl (lv_at hl 1 rfl) ?_
  refine lv_bipush (v := 10) hx hb dL_texts_371 (by decide) ?_
  refine lv_iconst (v := 1) hx hb dL_texts_373 (by decide) ?_
  refine lv_iconst (v := 0) hx hb dL_texts_374 (by decide) ?_
  refine lv_iconst (v := 1) hx hb dL_texts_375 (by decide) ?_
  refine lv_iconst (v := 0) hx hb dL_texts_376 (by decide) ?_
  refine lv_iconst (v := 0) hx hb dL_texts_377 (by decide) ?_
  refine A_no_10 (q := 3) (v := (-7000003)) hfl hM hE hX hO hl (by decide +kernel) (by simp) (by decide +kernel) (by decide) (by decide) ⟨Nat.le_of_ble_eq_true rfl, Nat.le_of_ble_eq_true rfl⟩ dL_texts_378 (fun L F H locs hX hO => ?_)
  refine lv_ldc hx hb hM.2.2.2.1 (hM.2.2.2.2.1 _ k_990) dL_texts_381 ?_
  refine lv_icmp_ne (tgt := 455) hx hb dL_texts_383 (by decide) (fun h9 => absurd (show ((-7000003) : Int32) = (-7000003) from (by decide)) h9) (fun _ => ?_)
  refine lv_aload_n hx hb dL_texts_386 rfl (lv_at hl 1 rfl) ?_
  refine lv_ldc2 hx hb hM.2.2.2.1 (hM.2.2.2.2.1 _ k_1037) dL_texts_387 ?_
  refine lv_iconst (v := 2) hx hb dL_texts_390 (by decide) ?_
  refine H_types (n9 := 2) (r := (-1)) hfl hM hE hX hO hl (by decide) (by decide) (by decide +kernel) (ty_mk _ _ _) (by decide +kernel) (by decide) (Nat.le_of_ble_eq_true rfl) ⟨Nat.le_of_ble_eq_true rfl, Nat.le_of_ble_eq_true rfl⟩ dL_texts_391 (fun L F H locs hX hO => ?_)
  have hO : Ob γ o (mk te_tb41) 85 L F := hO
  refine lv_iconst (v := (-1)) hx hb dL_texts_394 (by decide) ?_
  refine lv_icmp_ne (tgt := 455) hx hb dL_texts_395 (by decide) (fun h9 => absurd (show ((-1) : Int32) = (-1) from (by decide)) h9) (fun _ => ?_)
  refine lv_aload_n hx hb dL_texts_398 rfl (lv_at hl 1 rfl) ?_
  refine lv_bipush (v := 10) hx hb dL_texts_399 (by decide) ?_
  refine lv_iconst (v := 1) hx hb dL_texts_401 (by decide) ?_
  refine lv_iconst (v := 0) hx hb dL_texts_402 (by decide) ?_
  refine lv_iconst (v := 1) hx hb dL_texts_403 (by decide) ?_
  refine lv_iconst (v := 0) hx hb dL_texts_404 (by decide) ?_
  refine lv_iconst (v := 0) hx hb dL_texts_405 (by decide) ?_
  refine A_no_10 (q := 3) (v := (-7000003)) hfl hM hE hX hO hl (by decide +kernel) (by simp) (by decide +kernel) (by decide) (by decide) ⟨Nat.le_of_ble_eq_true rfl, Nat.le_of_ble_eq_true rfl⟩ dL_texts_406 (fun L F H locs hX hO => ?_)
  refine lv_ldc hx hb hM.2.2.2.1 (hM.2.2.2.2.1 _ k_990) dL_texts_409 ?_
  refine lv_icmp_ne (tgt := 455) hx hb dL_texts_411 (by decide) (fun h9 => absurd (show ((-7000003) : Int32) = (-7000003) from (by decide)) h9) (fun _ => ?_)
  refine lv_aload_n hx hb dL_texts_414 rfl (lv_at hl 1 rfl) ?_
  refine O_clear hM hE hX hO hl (f_clear (r := 2) (by decide +kernel)) (by decide) (Nat.le_of_ble_eq_true rfl) ⟨Nat.le_of_ble_eq_true rfl, Nat.le_of_ble_eq_true rfl⟩ dL_texts_415 (fun L F H locs hX hO => ?_)
  have hO : Ob γ o (mk te_tb42) 86 L F := hO
  refine lv_iconst (v := 2) hx hb dL_texts_418 (by decide) ?_
  refine lv_icmp_ne (tgt := 455) hx hb dL_texts_419 (by decide) (fun h9 => absurd (show (2 : Int32) = 2 from (by decide)) h9) (fun _ => ?_)
  refine lv_aload_n hx hb dL_texts_422 rfl (lv_at hl 1 rfl) ?_
  refine lv_iconst (v := 0) hx hb dL_texts_423 (by decide) ?_
  refine lv_bipush (v := 21) hx hb dL_texts_424 (by decide) ?_
  refine H_cash  hfl hM hE hX hO hl (by decide +kernel) (by decide) (Nat.le_of_ble_eq_true rfl) ⟨Nat.le_of_ble_eq_true rfl, Nat.le_of_ble_eq_true rfl⟩ dL_texts_426 (fun L F H locs hX hO => ?_)
  refine lv_if_eq (tgt := 455) hx hb dL_texts_429 (by decide) (fun h9 => absurd h9 (show ¬ (1 : Int32) = 0 from (by decide))) (fun _ => ?_)
  exact W.widen (k := 429) (n := 33824) (Nat.le_of_ble_eq_true rfl) (Nat.le_of_ble_eq_true rfl) (kk L F H locs ls hX hO hl)
set_option maxHeartbeats 8000000 in
set_option maxRecDepth 100000 in
theorem te_7 (hfl : l.stackTraces = false) (hM : kM p s m args meth c cL_texts 2 ret "InvoicebridgeLaw") (hE : kE γ A s) (hX : kX γ A s L F H locs) (hO : Ob γ o (mk te_tb42) 86 L F) (hl : lv_has ls 2 [(1, .int 9), (0, .ref o)])
    (kk : ∀ (L : List Nat) (F : kF) (H : Heap) (locs : List Loc) (ls : Array Slot), kX γ A s L F H locs → Ob γ o (mk te_tb42) 86 L F → lv_has ls 2 [(1, .int 9), (0, .ref o)] → W p l e (kRm 11 1673 203776) s m args below meth c H locs 1673 203776 Q (F0 m 456 ls [.int 1])) : W p l e (kRm 11 1673 203776) s m args below meth c H locs 429 33824 Q (F0 m 432 ls []) := by
  have hx := hM.1
  have hb := hM.2.1
  refine lv_aload_n hx hb dL_texts_432 rfl (lv_at hl 1 rfl) ?_
  refine lv_iconst (v := 1) hx hb dL_texts_433 (by decide) ?_
  refine lv_bipush (v := (-21)) hx hb dL_texts_434 (by decide) ?_
  refine H_cash  hfl hM hE hX hO hl (by decide +kernel) (by decide) (Nat.le_of_ble_eq_true rfl) ⟨Nat.le_of_ble_eq_true rfl, Nat.le_of_ble_eq_true rfl⟩ dL_texts_436 (fun L F H locs hX hO => ?_)
  refine lv_if_eq (tgt := 455) hx hb dL_texts_439 (by decide) (fun h9 => absurd h9 (show ¬ (1 : Int32) = 0 from (by decide))) (fun _ => ?_)
  refine lv_aload_n hx hb dL_texts_442 rfl (lv_at hl 1 rfl) ?_
  refine lv_bipush (v := 9) hx hb dL_texts_443 (by decide) ?_
  refine H_refuses  hfl hM hE hX hO hl (by decide +kernel) (by decide +kernel) (by decide) (Nat.le_of_ble_eq_true rfl) ⟨Nat.le_of_ble_eq_true rfl, Nat.le_of_ble_eq_true rfl⟩ dL_texts_445 (fun L F H locs hX hO => ?_)
  refine lv_if_eq (tgt := 455) hx hb dL_texts_448 (by decide) (fun h9 => absurd h9 (show ¬ (1 : Int32) = 0 from (by decide))) (fun _ => ?_)
  refine lv_iconst (v := 1) hx hb dL_texts_451 (by decide) ?_
  refine lv_goto (tgt := 456) hx hb dL_texts_452 (by decide) ?_
  exact W.widen (k := 1673) (n := 203776) (Nat.le_of_ble_eq_true rfl) (Nat.le_of_ble_eq_true rfl) (kk L F H locs ls hX hO hl)
end FX
