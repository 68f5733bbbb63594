section FX
variable {p : Program} {l : Launch} {e : Env} {R : Room} {s : State} {m : MethodId} {args : Array Value} {below : List Frame} {meth : Method} {c : Code} {H : Heap} {locs : List Loc} {cells slots : Nat} {Q : State → Prop}
variable {cc : ByteArray} {nL : Nat} {ret : Option FieldType} {γ : kG} {A : Nat → Prop} {L : List Nat} {F : kF} {pc : Nat} {ls : Array Slot} {rest : List Value} {o n : Nat} {M M1 : mM} {lv : List (Nat × Value)} {r : Int32}
set_option maxHeartbeats 8000000 in
set_option maxRecDepth 100000 in
theorem mo_16 (hfl : l.stackTraces = false) (hM : kM p s m args meth c cL_most 2 ret "InvoicebridgeLaw") (hE : kE γ A s) (hX : kX γ A s L F H locs) (hO : Ob γ o (mk mo_tb91) 91 L F) (hl : lv_has ls 2 [(1, .int 9), (0, .ref o)])
    (kk : ∀ (L : List Nat) (F : kF) (H : Heap) (locs : List Loc) (ls : Array Slot), kX γ A s L F H locs → Ob γ o (mk mo_tb98) 98 L F → lv_has ls 2 [(1, .int 16), (0, .ref o)] → W p l e (kRm 11 2357 330422) s m args below meth c H locs 996 148064 Q (F0 m 182 ls [])) : W p l e (kRm 11 2357 330422) s m args below meth c H locs 954 140364 Q (F0 m 182 ls []) := by
  have hx := hM.1
  have hb := hM.2.1
  refine lv_iinc (v := 10) (lv' := [(1, .int 10), (0, .ref o)]) hx hb dL_most_182 hl (k := 0) rfl (by decide) (by decide) rfl (fun ls hl => ?_)
  refine lv_goto (tgt := 141) hx hb dL_most_185 (by decide) ?_
  refine lv_iload_n hx hb dL_most_141 rfl (lv_at hl 0 rfl) ?_
  refine lv_bipush (v := 25) hx hb dL_most_142 (by decide) ?_
  refine lv_icmp_ge (tgt := 188) hx hb dL_most_144 (by decide) (fun h9 => absurd h9 (show ¬ (25 : Int32) ≤ 10 from (by decide))) (fun _ => ?_)
  refine lv_aload_n hx hb dL_most_147 rfl (lv_at hl 1 rfl) ?_
  refine lv_iconst (v := 4) hx hb dL_most_148 (by decide) ?_
  refine lv_iload_n hx hb dL_most_149 rfl (lv_at hl 0 rfl) ?_
  refine lv_bipush (v := 20) hx hb dL_most_150 (by decide) ?_
  refine lv_irem hx hb dL_most_152 (by decide) ?_
  refine lv_is (y := 10) (by decide) ?_
  refine lv_iload_n hx hb dL_most_153 rfl (lv_at hl 0 rfl) ?_
  refine lv_bipush (v := 20) hx hb dL_most_154 (by decide) ?_
  refine lv_idiv hx hb dL_most_156 (by decide) ?_
  refine lv_is (y := 0) (by decide) ?_
  refine lv_iconst (v := 1) hx hb dL_most_157 (by decide) ?_
  refine lv_iconst (v := 0) hx hb dL_most_158 (by decide) ?_
  refine lv_iconst (v := 0) hx hb dL_most_159 (by decide) ?_
  refine A_ok_4 hfl hM hE hX hO hl (f_credit (r := 9998) (by decide +kernel)) (mk_24 _ 0) (by decide) (by decide) ⟨Nat.le_of_ble_eq_true rfl, Nat.le_of_ble_eq_true rfl⟩ dL_most_160 (fun L F H locs hX hO => ?_)
  have hO : Ob γ o (mk mo_tb92) 92 L F := hO
  refine lv_iload_n hx hb dL_most_163 rfl (lv_at hl 0 rfl) ?_
  refine lv_bipush (v := 24) hx hb dL_most_164 (by decide) ?_
  refine lv_icmp_ge (tgt := 175) hx hb dL_most_166 (by decide) (fun h9 => absurd h9 (show ¬ (24 : Int32) ≤ 10 from (by decide))) (fun _ => ?_)
  refine lv_sipush (v := 9998) hx hb dL_most_169 (by decide) ?_
  refine lv_goto (tgt := 177) hx hb dL_most_172 (by decide) ?_
  refine lv_icmp_eq (tgt := 182) hx hb dL_most_177 (by decide) (fun _ => ?_) (fun h9 => absurd (show (9998 : Int32) = 9998 from (by decide)) h9)
  refine lv_iinc (v := 11) (lv' := [(1, .int 11), (0, .ref o)]) hx hb dL_most_182 hl (k := 0) rfl (by decide) (by decide) rfl (fun ls hl => ?_)
  refine lv_goto (tgt := 141) hx hb dL_most_185 (by decide) ?_
  refine lv_iload_n hx hb dL_most_141 rfl (lv_at hl 0 rfl) ?_
  refine lv_bipush (v := 25) hx hb dL_most_142 (by decide) ?_
  refine lv_icmp_ge (tgt := 188) hx hb dL_most_144 (by decide) (fun h9 => absurd h9 (show ¬ (25 : Int32) ≤ 11 from (by decide))) (fun _ => ?_)
  refine lv_aload_n hx hb dL_most_147 rfl (lv_at hl 1 rfl) ?_
  refine lv_iconst (v := 4) hx hb dL_most_148 (by decide) ?_
  refine lv_iload_n hx hb dL_most_149 rfl (lv_at hl 0 rfl) ?_
  refine lv_bipush (v := 20) hx hb dL_most_150 (by decide) ?_
  refine lv_irem hx hb dL_most_152 (by decide) ?_
  refine lv_is (y := 11) (by decide) ?_
  refine lv_iload_n hx hb dL_most_153 rfl (lv_at hl 0 rfl) ?_
  refine lv_bipush (v := 20) hx hb dL_most_154 (by decide) ?_
  refine lv_idiv hx hb dL_most_156 (by decide) ?_
  refine lv_is (y := 0) (by decide) ?_
  refine lv_iconst (v := 1) hx hb dL_most_157 (by decide) ?_
  refine lv_iconst (v := 0) hx hb dL_most_158 (by decide) ?_
  refine lv_iconst (v := 0) hx hb dL_most_159 (by decide) ?_
  refine A_ok_4 hfl hM hE hX hO hl (f_credit (r := 9998) (by decide +kernel)) (mk_24 _ 0) (by decide) (by decide) ⟨Nat.le_of_ble_eq_true rfl, Nat.le_of_ble_eq_true rfl⟩ dL_most_160 (fun L F H locs hX hO => ?_)
  have hO : Ob γ o (mk mo_tb93) 93 L F := hO
  refine lv_iload_n hx hb dL_most_163 rfl (lv_at hl 0 rfl) ?_
  refine lv_bipush (v := 24) hx hb dL_most_164 (by decide) ?_
  refine lv_icmp_ge (tgt := 175) hx hb dL_most_166 (by decide) (fun h9 => absurd h9 (show ¬ (24 : Int32) ≤ 11 from (by decide))) (fun _ => ?_)
  refine lv_sipush (v := 9998) hx hb dL_most_169 (by decide) ?_
  refine lv_goto (tgt := 177) hx hb dL_most_172 (by decide) ?_
  refine lv_icmp_eq (tgt := 182) hx hb dL_most_177 (by decide) (fun _ => ?_) (fun h9 => absurd (show (9998 : Int32) = 9998 from (by decide)) h9)
  refine lv_iinc (v := 12) (lv' := [(1, .int 12), (0, .ref o)]) hx hb dL_most_182 hl (k := 0) rfl (by decide) (by decide) rfl (fun ls hl => ?_)
  refine lv_goto (tgt := 141) hx hb dL_most_185 (by decide) ?_
  refine lv_iload_n hx hb dL_most_141 rfl (lv_at hl 0 rfl) ?_
  refine lv_bipush (v := 25) hx hb dL_most_142 (by decide) ?_
  refine lv_icmp_ge (tgt := 188) hx hb dL_most_144 (by decide) (fun h9 => absurd h9 (show ¬ (25 : Int32) ≤ 12 from (by decide))) (fun _ => ?_)
  refine lv_aload_n hx hb dL_most_147 rfl (lv_at hl 1 rfl) ?_
  refine lv_iconst (v := 4) hx hb dL_most_148 (by decide) ?_
  refine lv_iload_n hx hb dL_most_149 rfl (lv_at hl 0 rfl) ?_
  refine lv_bipush (v := 20) hx hb dL_most_150 (by decide) ?_
  refine lv_irem hx hb dL_most_152 (by decide) ?_
  refine lv_is (y := 12) (by decide) ?_
  refine lv_iload_n hx hb dL_most_153 rfl (lv_at hl 0 rfl) ?_
  refine lv_bipush (v := 20) hx hb dL_most_154 (by decide) ?_
  refine lv_idiv hx hb dL_most_156 (by decide) ?_
  refine lv_is (y := 0) (by decide) ?_
  refine lv_iconst (v := 1) hx hb dL_most_157 (by decide) ?_
  refine lv_iconst (v := 0) hx hb dL_most_158 (by decide) ?_
  refine lv_iconst (v := 0) hx hb dL_most_159 (by decide) ?_
  refine A_ok_4 hfl hM hE hX hO hl (f_credit (r := 9998) (by decide +kernel)) (mk_24 _ 0) (by decide) (by decide) ⟨Nat.le_of_ble_eq_true rfl, Nat.le_of_ble_eq_true rfl⟩ dL_most_160 (fun L F H locs hX hO => ?_)
  have hO : Ob γ o (mk mo_tb94) 94 L F := hO
  refine lv_iload_n hx hb dL_most_163 rfl (lv_at hl 0 rfl) ?_
  refine lv_bipush (v := 24) hx hb dL_most_164 (by decide) ?_
  refine lv_icmp_ge (tgt := 175) hx hb dL_most_166 (by decide) (fun h9 => absurd h9 (show ¬ (24 : Int32) ≤ 12 from (by decide))) (fun _ => ?_)
  refine lv_sipush (v := 9998) hx hb dL_most_169 (by decide) ?_
  refine lv_goto (tgt := 177) hx hb dL_most_172 (by decide) ?_
  refine lv_icmp_eq (tgt := 182) hx hb dL_most_177 (by decide) (fun _ => ?_) (fun h9 => absurd (show (9998 : Int32) = 9998 from (by decide)) h9)
  refine lv_iinc (v := 13) (lv' := [(1, .int 13), (0, .ref o)]) hx hb dL_most_182 hl (k := 0) rfl (by decide) (by decide) rfl (fun ls hl => ?_)
  refine lv_goto (tgt := 141) hx hb dL_most_185 (by decide) ?_
  refine lv_iload_n hx hb dL_most_141 rfl (lv_at hl 0 rfl) ?_
  refine lv_bipush (v := 25) hx hb dL_most_142 (by decide) ?_
  refine lv_icmp_ge (tgt := 188) hx hb dL_most_144 (by decide) (fun h9 => absurd h9 (show ¬ (25 : Int32) ≤ 13 from (by decide))) (fun _ => ?_)
  refine lv_aload_n hx hb dL_most_147 rfl (lv_at hl 1 rfl) ?_
  refine lv_iconst (v := 4) hx hb dL_most_148 (by decide) ?_
  refine lv_iload_n hx hb dL_most_149 rfl (lv_at hl 0 rfl) ?_
  refine lv_bipush (v := 20) hx hb dL_most_150 (by decide) ?_
  refine lv_irem hx hb dL_most_152 (by decide) ?_
  refine lv_is (y := 13) (by decide) ?_
  refine lv_iload_n hx hb dL_most_153 rfl (lv_at hl 0 rfl) ?_
  refine lv_bipush (v := 20) hx hb dL_most_154 (by decide) ?_
  refine lv_idiv hx hb dL_most_156 (by decide) ?_
  refine lv_is (y := 0) (by decide) ?_
  refine lv_iconst (v := 1) hx hb dL_most_157 (by decide) ?_
  refine lv_iconst (v := 0) hx hb dL_most_158 (by decide) ?_
  refine lv_iconst (v := 0) hx hb dL_most_159 (by decide) ?_
  refine A_ok_4 hfl hM hE hX hO hl (f_credit (r := 9998) (by decide +kernel)) (mk_24 _ 0) (by decide) (by decide) ⟨Nat.le_of_ble_eq_true rfl, Nat.le_of_ble_eq_true rfl⟩ dL_most_160 (fun L F H locs hX hO => ?_)
  have hO : Ob γ o (mk mo_tb95) 95 L F := hO
  refine lv_iload_n hx hb dL_most_163 rfl (lv_at hl 0 rfl) ?_
  refine lv_bipush (v := 24) hx hb dL_most_164 (by decide) ?_
  refine lv_icmp_ge (tgt := 175) hx hb dL_most_166 (by decide) (fun h9 => absurd h9 (show ¬ (24 : Int32) ≤ 13 from (by decide))) (fun _ => ?_)
  refine lv_sipush (v := 9998) hx hb dL_most_169 (by decide) ?_
  refine lv_goto (tgt := 177) hx hb dL_most_172 (by decide) ?_
  refine lv_icmp_eq (tgt := 182) hx hb dL_most_177 (by decide) (fun _ => ?_) (fun h9 => absurd (show (9998 : Int32) = 9998 from (by decide)) h9)
  refine lv_iinc (v := 14) (lv' := [(1, .int 14), (0, .ref o)]) hx hb dL_most_182 hl (k := 0) rfl (by decide) (by decide) rfl (fun ls hl => ?_)
  refine lv_goto (tgt := 141) hx hb dL_most_185 (by decide) ?_
  refine lv_iload_n hx hb dL_most_141 rfl (lv_at hl 0 rfl) ?_
  refine lv_bipush (v := 25) hx hb dL_most_142 (by decide) ?_
  refine lv_icmp_ge (tgt := 188) hx hb dL_most_144 (by decide) (fun h9 => absurd h9 (show ¬ (25 : Int32) ≤ 14 from (by decide))) (fun _ => ?_)
  refine lv_aload_n hx hb dL_most_147 rfl (lv_at hl 1 rfl) ?_
  refine lv_iconst (v := 4) hx hb dL_most_148 (by decide) ?_
  refine lv_iload_n hx hb dL_most_149 rfl (lv_at hl 0 rfl) ?_
  refine lv_bipush (v := 20) hx hb dL_most_150 (by decide) ?_
  refine lv_irem hx hb dL_most_152 (by decide) ?_
  refine lv_is (y := 14) (by decide) ?_
  refine lv_iload_n hx hb dL_most_153 rfl (lv_at hl 0 rfl) ?_
  refine lv_bipush (v := 20) hx hb dL_most_154 (by decide) ?_
  refine lv_idiv hx hb dL_most_156 (by decide) ?_
  refine lv_is (y := 0) (by decide) ?_
  refine lv_iconst (v := 1) hx hb dL_most_157 (by decide) ?_
  refine lv_iconst (v := 0) hx hb dL_most_158 (by decide) ?_
  refine lv_iconst (v := 0) hx hb dL_most_159 (by decide) ?_
  refine A_ok_4 hfl hM hE hX hO hl (f_credit (r := 9998) (by decide +kernel)) (mk_24 _ 0) (by decide) (by decide) ⟨Nat.le_of_ble_eq_true rfl, Nat.le_of_ble_eq_true rfl⟩ dL_most_160 (fun L F H locs hX hO => ?_)
  have hO : Ob γ o (mk mo_tb96) 96 L F := hO
  refine lv_iload_n hx hb dL_most_163 rfl (lv_at hl 0 rfl) ?_
  refine lv_bipush (v := 24) hx hb dL_most_164 (by decide) ?_
  refine lv_icmp_ge (tgt := 175) hx hb dL_most_166 (by decide) (fun h9 => absurd h9 (show ¬ (24 : Int32) ≤ 14 from (by decide))) (fun _ => ?_)
  refine lv_sipush (v := 9998) hx hb dL_most_169 (by decide) ?_
  refine lv_goto (tgt := 177) hx hb dL_most_172 (by decide) ?_
  refine lv_icmp_eq (tgt := 182) hx hb dL_most_177 (by decide) (fun _ => ?_) (fun h9 => absurd (show (9998 : Int32) = 9998 from (by decide)) h9)
  refine lv_iinc (v := 15) (lv' := [(1, .int 15), (0, .ref o)]) hx hb dL_most_182 hl (k := 0) rfl (by decide) (by decide) rfl (fun ls hl => ?_)
  refine lv_goto (tgt := 141) hx hb dL_most_185 (by decide) ?_
  refine lv_iload_n hx hb dL_most_141 rfl (lv_at hl 0 rfl) ?_
  refine lv_bipush (v := 25) hx hb dL_most_142 (by decide) ?_
  refine lv_icmp_ge (tgt := 188) hx hb dL_most_144 (by decide) (fun h9 => absurd h9 (show ¬ (25 : Int32) ≤ 15 from (by decide))) (fun _ => ?_)
  refine lv_aload_n hx hb dL_most_147 rfl (lv_at hl 1 rfl) ?_
  refine lv_iconst (v := 4) hx hb dL_most_148 (by decide) ?_
  refine lv_iload_n hx hb dL_most_149 rfl (lv_at hl 0 rfl) ?_
  refine lv_bipush (v := 20) hx hb dL_most_150 (by decide) ?_
  refine lv_irem hx hb dL_most_152 (by decide) ?_
  refine lv_is (y := 15) (by decide) ?_
  refine lv_iload_n hx hb dL_most_153 rfl (lv_at hl 0 rfl) ?_
  refine lv_bipush (v := 20) hx hb dL_most_154 (by decide) ?_
  refine lv_idiv hx hb dL_most_156 (by decide) ?_
  refine lv_is (y := 0) (by decide) ?_
  refine lv_iconst (v := 1) hx hb dL_most_157 (by decide) ?_
  refine lv_iconst (v := 0) hx hb dL_most_158 (by decide) ?_
  refine lv_iconst (v := 0) hx hb dL_most_159 (by decide) ?_
  refine A_ok_4 hfl hM hE hX hO hl (f_credit (r := 9998) (by decide +kernel)) (mk_24 _ 0) (by decide) (by decide) ⟨Nat.le_of_ble_eq_true rfl, Nat.le_of_ble_eq_true rfl⟩ dL_most_160 (fun L F H locs hX hO => ?_)
  have hO : Ob γ o (mk mo_tb97) 97 L F := hO
  refine lv_iload_n hx hb dL_most_163 rfl (lv_at hl 0 rfl) ?_
  refine lv_bipush (v := 24) hx hb dL_most_164 (by decide) ?_
  refine lv_icmp_ge (tgt := 175) hx hb dL_most_166 (by decide) (fun h9 => absurd h9 (show ¬ (24 : Int32) ≤ 15 from (by decide))) (fun _ => ?_)
  refine lv_sipush (v := 9998) hx hb dL_most_169 (by decide) ?_
  refine lv_goto (tgt := 177) hx hb dL_most_172 (by decide) ?_
  refine lv_icmp_eq (tgt := 182) hx hb dL_most_177 (by decide) (fun _ => ?_) (fun h9 => absurd (show (9998 : Int32) = 9998 from (by decide)) h9)
  refine lv_iinc (v := 16) (lv' := [(1, .int 16), (0, .ref o)]) hx hb dL_most_182 hl (k := 0) rfl (by decide) (by decide) rfl (fun ls hl => ?_)
  refine lv_goto (tgt := 141) hx hb dL_most_185 (by decide) ?_
  refine lv_iload_n hx hb dL_most_141 rfl (lv_at hl 0 rfl) ?_
  refine lv_bipush (v := 25) hx hb dL_most_142 (by decide) ?_
  refine lv_icmp_ge (tgt := 188) hx hb dL_most_144 (by decide) (fun h9 => absurd h9 (show ¬ (25 : Int32) ≤ 16 from (by decide))) (fun _ => ?_)
  refine lv_aload_n hx hb dL_most_147 rfl (lv_at hl 1 rfl) ?_
  refine lv_iconst (v := 4) hx hb dL_most_148 (by decide) ?_
  refine lv_iload_n hx hb dL_most_149 rfl (lv_at hl 0 rfl) ?_
  refine lv_bipush (v := 20) hx hb dL_most_150 (by decide) ?_
  refine lv_irem hx hb dL_most_152 (by decide) ?_
  refine lv_is (y := 16) (by decide) ?_
  refine lv_iload_n hx hb dL_most_153 rfl (lv_at hl 0 rfl) ?_
  refine lv_bipush (v := 20) hx hb dL_most_154 (by decide) ?_
  refine lv_idiv hx hb dL_most_156 (by decide) ?_
  refine lv_is (y := 0) (by decide) ?_
  refine lv_iconst (v := 1) hx hb dL_most_157 (by decide) ?_
  refine lv_iconst (v := 0) hx hb dL_most_158 (by decide) ?_
  refine lv_iconst (v := 0) hx hb dL_most_159 (by decide) ?_
  refine A_ok_4 hfl hM hE hX hO hl (f_credit (r := 9998) (by decide +kernel)) (mk_24 _ 0) (by decide) (by decide) ⟨Nat.le_of_ble_eq_true rfl, Nat.le_of_ble_eq_true rfl⟩ dL_most_160 (fun L F H locs hX hO => ?_)
  have hO : Ob γ o (mk mo_tb98) 98 L F := hO
  refine lv_iload_n hx hb dL_most_163 rfl (lv_at hl 0 rfl) ?_
  refine lv_bipush (v := 24) hx hb dL_most_164 (by decide) ?_
  refine lv_icmp_ge (tgt := 175) hx hb dL_most_166 (by decide) (fun h9 => absurd h9 (show ¬ (24 : Int32) ≤ 16 from (by decide))) (fun _ => ?_)
  refine lv_sipush (v := 9998) hx hb dL_most_169 (by decide) ?_
  refine lv_goto (tgt := 177) hx hb dL_most_172 (by decide) ?_
  refine lv_icmp_eq (tgt := 182) hx hb dL_most_177 (by decide) (fun _ => ?_) (fun h9 => absurd (show (9998 : Int32) = 9998 from (by decide)) h9)
  exact W.widen (k := 996) (n := 148064) (Nat.le_of_ble_eq_true rfl) (Nat.le_of_ble_eq_true rfl) (kk L F H locs ls hX hO hl)
set_option maxHeartbeats 8000000 in
set_option maxRecDepth 100000 in
theorem mo_17 (hfl : l.stackTraces = false) (hM : kM p s m args meth c cL_most 2 ret "InvoicebridgeLaw") (hE : kE γ A s) (hX : kX γ A s L F H locs) (hO : Ob γ o (mk mo_tb98) 98 L F) (hl : lv_has ls 2 [(1, .int 16), (0, .ref o)])
    (kk : ∀ (L : List Nat) (F : kF) (H : Heap) (locs : List Loc) (ls : Array Slot), kX γ A s L F H locs → Ob γ o (mk mo_tb105) 105 L F → lv_has ls 2 [(1, .int 23), (0, .ref o)] → W p l e (kRm 11 2357 330422) s m args below meth c H locs 1038 155764 Q (F0 m 182 ls [])) : W p l e (kRm 11 2357 330422) s m args below meth c H locs 996 148064 Q (F0 m 182 ls []) := by
  have hx := hM.1
  have hb := hM.2.1
  refine lv_iinc (v := 17) (lv' := [(1, .int 17), (0, .ref o)]) hx hb dL_most_182 hl (k := 0) rfl (by decide) (by decide) rfl (fun ls hl => ?_)
  refine lv_goto (tgt := 141) hx hb dL_most_185 (by decide) ?_
  refine lv_iload_n hx hb dL_most_141 rfl (lv_at hl 0 rfl) ?_
  refine lv_bipush (v := 25) hx hb dL_most_142 (by decide) ?_
  refine lv_icmp_ge (tgt := 188) hx hb dL_most_144 (by decide) (fun h9 => absurd h9 (show ¬ (25 : Int32) ≤ 17 from (by decide))) (fun _ => ?_)
  refine lv_aload_n hx hb dL_most_147 rfl (lv_at hl 1 rfl) ?_
  refine lv_iconst (v := 4) hx hb dL_most_148 (by decide) ?_
  refine lv_iload_n hx hb dL_most_149 rfl (lv_at hl 0 rfl) ?_
  refine lv_bipush (v := 20) hx hb dL_most_150 (by decide) ?_
  refine lv_irem hx hb dL_most_152 (by decide) ?_
  refine lv_is (y := 17) (by decide) ?_
  refine lv_iload_n hx hb dL_most_153 rfl (lv_at hl 0 rfl) ?_
  refine lv_bipush (v := 20) hx hb dL_most_154 (by decide) ?_
  refine lv_idiv hx hb dL_most_156 (by decide) ?_
  refine lv_is (y := 0) (by decide) ?_
  refine lv_iconst (v := 1) hx hb dL_most_157 (by decide) ?_
  refine lv_iconst (v := 0) hx hb dL_most_158 (by decide) ?_
  refine lv_iconst (v := 0) hx hb dL_most_159 (by decide) ?_
  refine A_ok_4 hfl hM hE hX hO hl (f_credit (r := 9998) (by decide +kernel)) (mk_24 _ 0) (by decide) (by decide) ⟨Nat.le_of_ble_eq_true rfl, Nat.le_of_ble_eq_true rfl⟩ dL_most_160 (fun L F H locs hX hO => ?_)
  have hO : Ob γ o (mk mo_tb99) 99 L F := hO
  refine lv_iload_n hx hb dL_most_163 rfl (lv_at hl 0 rfl) ?_
  refine lv_bipush (v := 24) hx hb dL_most_164 (by decide) ?_
  refine lv_icmp_ge (tgt := 175) hx hb dL_most_166 (by decide) (fun h9 => absurd h9 (show ¬ (24 : Int32) ≤ 17 from (by decide))) (fun _ => ?_)
  refine lv_sipush (v := 9998) hx hb dL_most_169 (by decide) ?_
  refine lv_goto (tgt := 177) hx hb dL_most_172 (by decide) ?_
  refine lv_icmp_eq (tgt := 182) hx hb dL_most_177 (by decide) (fun _ => ?_) (fun h9 => absurd (show (9998 : Int32) = 9998 from (by decide)) h9)
  refine lv_iinc (v := 18) (lv' := [(1, .int 18), (0, .ref o)]) hx hb dL_most_182 hl (k := 0) rfl (by decide) (by decide) rfl (fun ls hl => ?_)
  refine lv_goto (tgt := 141) hx hb dL_most_185 (by decide) ?_
  refine lv_iload_n hx hb dL_most_141 rfl (lv_at hl 0 rfl) ?_
  refine lv_bipush (v := 25) hx hb dL_most_142 (by decide) ?_
  refine lv_icmp_ge (tgt := 188) hx hb dL_most_144 (by decide) (fun h9 => absurd h9 (show ¬ (25 : Int32) ≤ 18 from (by decide))) (fun _ => ?_)
  refine lv_aload_n hx hb dL_most_147 rfl (lv_at hl 1 rfl) ?_
  refine lv_iconst (v := 4) hx hb dL_most_148 (by decide) ?_
  refine lv_iload_n hx hb dL_most_149 rfl (lv_at hl 0 rfl) ?_
  refine lv_bipush (v := 20) hx hb dL_most_150 (by decide) ?_
  refine lv_irem hx hb dL_most_152 (by decide) ?_
  refine lv_is (y := 18) (by decide) ?_
  refine lv_iload_n hx hb dL_most_153 rfl (lv_at hl 0 rfl) ?_
  refine lv_bipush (v := 20) hx hb dL_most_154 (by decide) ?_
  refine lv_idiv hx hb dL_most_156 (by decide) ?_
  refine lv_is (y := 0) (by decide) ?_
  refine lv_iconst (v := 1) hx hb dL_most_157 (by decide) ?_
  refine lv_iconst (v := 0) hx hb dL_most_158 (by decide) ?_
  refine lv_iconst (v := 0) hx hb dL_most_159 (by decide) ?_
  refine A_ok_4 hfl hM hE hX hO hl (f_credit (r := 9998) (by decide +kernel)) (mk_24 _ 0) (by decide) (by decide) ⟨Nat.le_of_ble_eq_true rfl, Nat.le_of_ble_eq_true rfl⟩ dL_most_160 (fun L F H locs hX hO => ?_)
  have hO : Ob γ o (mk mo_tb100) 100 L F := hO
  refine lv_iload_n hx hb dL_most_163 rfl (lv_at hl 0 rfl) ?_
  refine lv_bipush (v := 24) hx hb dL_most_164 (by decide) ?_
  refine lv_icmp_ge (tgt := 175) hx hb dL_most_166 (by decide) (fun h9 => absurd h9 (show ¬ (24 : Int32) ≤ 18 from (by decide))) (fun _ => ?_)
  refine lv_sipush (v := 9998) hx hb dL_most_169 (by decide) ?_
  refine lv_goto (tgt := 177) hx hb dL_most_172 (by decide) ?_
  refine lv_icmp_eq (tgt := 182) hx hb dL_most_177 (by decide) (fun _ => ?_) (fun h9 => absurd (show (9998 : Int32) = 9998 from (by decide)) h9)
  refine lv_iinc (v := 19) (lv' := [(1, .int 19), (0, .ref o)]) hx hb dL_most_182 hl (k := 0) rfl (by decide) (by decide) rfl (fun ls hl => ?_)
  refine lv_goto (tgt := 141) hx hb dL_most_185 (by decide) ?_
  refine lv_iload_n hx hb dL_most_141 rfl (lv_at hl 0 rfl) ?_
  refine lv_bipush (v := 25) hx hb dL_most_142 (by decide) ?_
  refine lv_icmp_ge (tgt := 188) hx hb dL_most_144 (by decide) (fun h9 => absurd h9 (show ¬ (25 : Int32) ≤ 19 from (by decide))) (fun _ => ?_)
  refine lv_aload_n hx hb dL_most_147 rfl (lv_at hl 1 rfl) ?_
  refine lv_iconst (v := 4) hx hb dL_most_148 (by decide) ?_
  refine lv_iload_n hx hb dL_most_149 rfl (lv_at hl 0 rfl) ?_
  refine lv_bipush (v := 20) hx hb dL_most_150 (by decide) ?_
  refine lv_irem hx hb dL_most_152 (by decide) ?_
  refine lv_is (y := 19) (by decide) ?_
  refine lv_iload_n hx hb dL_most_153 rfl (lv_at hl 0 rfl) ?_
  refine lv_bipush (v := 20) hx hb dL_most_154 (by decide) ?_
  refine lv_idiv hx hb dL_most_156 (by decide) ?_
  refine lv_is (y := 0) (by decide) ?_
  refine lv_iconst (v := 1) hx hb dL_most_157 (by decide) ?_
  refine lv_iconst (v := 0) hx hb dL_most_158 (by decide) ?_
  refine lv_iconst (v := 0) hx hb dL_most_159 (by decide) ?_
  refine A_ok_4 hfl hM hE hX hO hl (f_credit (r := 9998) (by decide +kernel)) (mk_24 _ 0) (by decide) (by decide) ⟨Nat.le_of_ble_eq_true rfl, Nat.le_of_ble_eq_true rfl⟩ dL_most_160 (fun L F H locs hX hO => ?_)
  have hO : Ob γ o (mk mo_tb101) 101 L F := hO
  refine lv_iload_n hx hb dL_most_163 rfl (lv_at hl 0 rfl) ?_
  refine lv_bipush (v := 24) hx hb dL_most_164 (by decide) ?_
  refine lv_icmp_ge (tgt := 175) hx hb dL_most_166 (by decide) (fun h9 => absurd h9 (show ¬ (24 : Int32) ≤ 19 from (by decide))) (fun _ => ?_)
  refine lv_sipush (v := 9998) hx hb dL_most_169 (by decide) ?_
  refine lv_goto (tgt := 177) hx hb dL_most_172 (by decide) ?_
  refine lv_icmp_eq (tgt := 182) hx hb dL_most_177 (by decide) (fun _ => ?_) (fun h9 => absurd (show (9998 : Int32) = 9998 from (by decide)) h9)
  refine lv_iinc (v := 20) (lv' := [(1, .int 20), (0, .ref o)]) hx hb dL_most_182 hl (k := 0) rfl (by decide) (by decide) rfl (fun ls hl => ?_)
  refine lv_goto (tgt := 141) hx hb dL_most_185 (by decide) ?_
  refine lv_iload_n hx hb dL_most_141 rfl (lv_at hl 0 rfl) ?_
  refine lv_bipush (v := 25) hx hb dL_most_142 (by decide) ?_
  refine lv_icmp_ge (tgt := 188) hx hb dL_most_144 (by decide) (fun h9 => absurd h9 (show ¬ (25 : Int32) ≤ 20 from (by decide))) (fun _ => ?_)
  refine lv_aload_n hx hb dL_most_147 rfl (lv_at hl 1 rfl) ?_
  refine lv_iconst (v := 4) hx hb dL_most_148 (by decide) ?_
  refine lv_iload_n hx hb dL_most_149 rfl (lv_at hl 0 rfl) ?_
  refine lv_bipush (v := 20) hx hb dL_most_150 (by decide) ?_
  refine lv_irem hx hb dL_most_152 (by decide) ?_
  refine lv_is (y := 0) (by decide) ?_
  refine lv_iload_n hx hb dL_most_153 rfl (lv_at hl 0 rfl) ?_
  refine lv_bipush (v := 20) hx hb dL_most_154 (by decide) ?_
  refine lv_idiv hx hb dL_most_156 (by decide) ?_
  refine lv_is (y := 1) (by decide) ?_
  refine lv_iconst (v := 1) hx hb dL_most_157 (by decide) ?_
  refine lv_iconst (v := 0) hx hb dL_most_158 (by decide) ?_
  refine lv_iconst (v := 0) hx hb dL_most_159 (by decide) ?_
  refine A_ok_4 hfl hM hE hX hO hl (f_credit (r := 9998) (by decide +kernel)) (mk_24 _ 0) (by decide) (by decide) ⟨Nat.le_of_ble_eq_true rfl, Nat.le_of_ble_eq_true rfl⟩ dL_most_160 (fun L F H locs hX hO => ?_)
  have hO : Ob γ o (mk mo_tb102) 102 L F := hO
  refine lv_iload_n hx hb dL_most_163 rfl (lv_at hl 0 rfl) ?_
  refine lv_bipush (v := 24) hx hb dL_most_164 (by decide) ?_
  refine lv_icmp_ge (tgt := 175) hx hb dL_most_166 (by decide) (fun h9 => absurd h9 (show ¬ (24 : Int32) ≤ 20 from (by decide))) (fun _ => ?_)
  refine lv_sipush (v := 9998) hx hb dL_most_169 (by decide) ?_
  refine lv_goto (tgt := 177) hx hb dL_most_172 (by decide) ?_
  refine lv_icmp_eq (tgt := 182) hx hb dL_most_177 (by decide) (fun _ => ?_) (fun h9 => absurd (show (9998 : Int32) = 9998 from (by decide)) h9)
  refine lv_iinc (v := 21) (lv' := [(1, .int 21), (0, .ref o)]) hx hb dL_most_182 hl (k := 0) rfl (by decide) (by decide) rfl (fun ls hl => ?_)
  refine lv_goto (tgt := 141) hx hb dL_most_185 (by decide) ?_
  refine lv_iload_n hx hb dL_most_141 rfl (lv_at hl 0 rfl) ?_
  refine lv_bipush (v := 25) hx hb dL_most_142 (by decide) ?_
  refine lv_icmp_ge (tgt := 188) hx hb dL_most_144 (by decide) (fun h9 => absurd h9 (show ¬ (25 : Int32) ≤ 21 from (by decide))) (fun _ => ?_)
  refine lv_aload_n hx hb dL_most_147 rfl (lv_at hl 1 rfl) ?_
  refine lv_iconst (v := 4) hx hb dL_most_148 (by decide) ?_
  refine lv_iload_n hx hb dL_most_149 rfl (lv_at hl 0 rfl) ?_
  refine lv_bipush (v := 20) hx hb dL_most_150 (by decide) ?_
  refine lv_irem hx hb dL_most_152 (by decide) ?_
  refine lv_is (y := 1) (by decide) ?_
  refine lv_iload_n hx hb dL_most_153 rfl (lv_at hl 0 rfl) ?_
  refine lv_bipush (v := 20) hx hb dL_most_154 (by decide) ?_
  refine lv_idiv hx hb dL_most_156 (by decide) ?_
  refine lv_is (y := 1) (by decide) ?_
  refine lv_iconst (v := 1) hx hb dL_most_157 (by decide) ?_
  refine lv_iconst (v := 0) hx hb dL_most_158 (by decide) ?_
  refine lv_iconst (v := 0) hx hb dL_most_159 (by decide) ?_
  refine A_ok_4 hfl hM hE hX hO hl (f_credit (r := 9998) (by decide +kernel)) (mk_24 _ 0) (by decide) (by decide) ⟨Nat.le_of_ble_eq_true rfl, Nat.le_of_ble_eq_true rfl⟩ dL_most_160 (fun L F H locs hX hO => ?_)
  have hO : Ob γ o (mk mo_tb103) 103 L F := hO
  refine lv_iload_n hx hb dL_most_163 rfl (lv_at hl 0 rfl) ?_
  refine lv_bipush (v := 24) hx hb dL_most_164 (by decide) ?_
  refine lv_icmp_ge (tgt := 175) hx hb dL_most_166 (by decide) (fun h9 => absurd h9 (show ¬ (24 : Int32) ≤ 21 from (by decide))) (fun _ => ?_)
  refine lv_sipush (v := 9998) hx hb dL_most_169 (by decide) ?_
  refine lv_goto (tgt := 177) hx hb dL_most_172 (by decide) ?_
  refine lv_icmp_eq (tgt := 182) hx hb dL_most_177 (by decide) (fun _ => ?_) (fun h9 => absurd (show (9998 : Int32) = 9998 from (by decide)) h9)
  refine lv_iinc (v := 22) (lv' := [(1, .int 22), (0, .ref o)]) hx hb dL_most_182 hl (k := 0) rfl (by decide) (by decide) rfl (fun ls hl => ?_)
  refine lv_goto (tgt := 141) hx hb dL_most_185 (by decide) ?_
  refine lv_iload_n hx hb dL_most_141 rfl (lv_at hl 0 rfl) ?_
  refine lv_bipush (v := 25) hx hb dL_most_142 (by decide) ?_
  refine lv_icmp_ge (tgt := 188) hx hb dL_most_144 (by decide) (fun h9 => absurd h9 (show ¬ (25 : Int32) ≤ 22 from (by decide))) (fun _ => ?_)
  refine lv_aload_n hx hb dL_most_147 rfl (lv_at hl 1 rfl) ?_
  refine lv_iconst (v := 4) hx hb dL_most_148 (by decide) ?_
  refine lv_iload_n hx hb dL_most_149 rfl (lv_at hl 0 rfl) ?_
  refine lv_bipush (v := 20) hx hb dL_most_150 (by decide) ?_
  refine lv_irem hx hb dL_most_152 (by decide) ?_
  refine lv_is (y := 2) (by decide) ?_
  refine lv_iload_n hx hb dL_most_153 rfl (lv_at hl 0 rfl) ?_
  refine lv_bipush (v := 20) hx hb dL_most_154 (by decide) ?_
  refine lv_idiv hx hb dL_most_156 (by decide) ?_
  refine lv_is (y := 1) (by decide) ?_
  refine lv_iconst (v := 1) hx hb dL_most_157 (by decide) ?_
  refine lv_iconst (v := 0) hx hb dL_most_158 (by decide) ?_
  refine lv_iconst (v := 0) hx hb dL_most_159 (by decide) ?_
  refine A_ok_4 hfl hM hE hX hO hl (f_credit (r := 9998) (by decide +kernel)) (mk_24 _ 0) (by decide) (by decide) ⟨Nat.le_of_ble_eq_true rfl, Nat.le_of_ble_eq_true rfl⟩ dL_most_160 (fun L F H locs hX hO => ?_)
  have hO : Ob γ o (mk mo_tb104) 104 L F := hO
  refine lv_iload_n hx hb dL_most_163 rfl (lv_at hl 0 rfl) ?_
  refine lv_bipush (v := 24) hx hb dL_most_164 (by decide) ?_
  refine lv_icmp_ge (tgt := 175) hx hb dL_most_166 (by decide) (fun h9 => absurd h9 (show ¬ (24 : Int32) ≤ 22 from (by decide))) (fun _ => ?_)
  refine lv_sipush (v := 9998) hx hb dL_most_169 (by decide) ?_
  refine lv_goto (tgt := 177) hx hb dL_most_172 (by decide) ?_
  refine lv_icmp_eq (tgt := 182) hx hb dL_most_177 (by decide) (fun _ => ?_) (fun h9 => absurd (show (9998 : Int32) = 9998 from (by decide)) h9)
  refine lv_iinc (v := 23) (lv' := [(1, .int 23), (0, .ref o)]) hx hb dL_most_182 hl (k := 0) rfl (by decide) (by decide) rfl (fun ls hl => ?_)
  refine lv_goto (tgt := 141) hx hb dL_most_185 (by decide) ?_
  refine lv_iload_n hx hb dL_most_141 rfl (lv_at hl 0 rfl) ?_
  refine lv_bipush (v := 25) hx hb dL_most_142 (by decide) ?_
  refine lv_icmp_ge (tgt := 188) hx hb dL_most_144 (by decide) (fun h9 => absurd h9 (show ¬ (25 : Int32) ≤ 23 from (by decide))) (fun _ => ?_)
  refine lv_aload_n hx hb dL_most_147 rfl (lv_at hl 1 rfl) ?_
  refine lv_iconst (v := 4) hx hb dL_most_148 (by decide) ?_
  refine lv_iload_n hx hb dL_most_149 rfl (lv_at hl 0 rfl) ?_
  refine lv_bipush (v := 20) hx hb dL_most_150 (by decide) ?_
  refine lv_irem hx hb dL_most_152 (by decide) ?_
  refine lv_is (y := 3) (by decide) ?_
  refine lv_iload_n hx hb dL_most_153 rfl (lv_at hl 0 rfl) ?_
  refine lv_bipush (v := 20) hx hb dL_most_154 (by decide) ?_
  refine lv_idiv hx hb dL_most_156 (by decide) ?_
  refine lv_is (y := 1) (by decide) ?_
  refine lv_iconst (v := 1) hx hb dL_most_157 (by decide) ?_
  refine lv_iconst (v := 0) hx hb dL_most_158 (by decide) ?_
  refine lv_iconst (v := 0) hx hb dL_most_159 (by decide) ?_
  refine A_ok_4 hfl hM hE hX hO hl (f_credit (r := 9998) (by decide +kernel)) (mk_24 _ 0) (by decide) (by decide) ⟨Nat.le_of_ble_eq_true rfl, Nat.le_of_ble_eq_true rfl⟩ dL_most_160 (fun L F H locs hX hO => ?_)
  have hO : Ob γ o (mk mo_tb105) 105 L F := hO
  refine lv_iload_n hx hb dL_most_163 rfl (lv_at hl 0 rfl) ?_
  refine lv_bipush (v := 24) hx hb dL_most_164 (by decide) ?_
  refine lv_icmp_ge (tgt := 175) hx hb dL_most_166 (by decide) (fun h9 => absurd h9 (show ¬ (24 : Int32) ≤ 23 from (by decide))) (fun _ => ?_)
  refine lv_sipush (v := 9998) hx hb dL_most_169 (by decide) ?_
  refine lv_goto (tgt := 177) hx hb dL_most_172 (by decide) ?_
  refine lv_icmp_eq (tgt := 182) hx hb dL_most_177 (by decide) (fun _ => ?_) (fun h9 => absurd (show (9998 : Int32) = 9998 from (by decide)) h9)
  exact W.widen (k := 1038) (n := 155764) (Nat.le_of_ble_eq_true rfl) (Nat.le_of_ble_eq_true rfl) (kk L F H locs ls hX hO hl)
set_option maxHeartbeats 8000000 in
set_option maxRecDepth 100000 in
theorem mo_18 (hfl : l.stackTraces = false) (hM : kM p s m args meth c cL_most 2 ret "InvoicebridgeLaw") (hE : kE γ A s) (hX : kX γ A s L F H locs) (hO : Ob γ o (mk mo_tb105) 105 L F) (hl : lv_has ls 2 [(1, .int 23), (0, .ref o)])
    (kk : ∀ (L : List Nat) (F : kF) (H : Heap) (locs : List Loc) (ls : Array Slot), kX γ A s L F H locs → Ob γ o (mk mo_tb107) 107 L F → lv_has ls 2 [(1, .int 25), (0, .ref o)] → W p l e (kRm 11 2357 330422) s m args below meth c H locs 1066 160188 Q (F0 m 263 ls [])) : W p l e (kRm 11 2357 330422) s m args below meth c H locs 1038 155764 Q (F0 m 182 ls []) := by
  have hx := hM.1
  have hb := hM.2.1
  refine lv_iinc (v := 24) (lv' := [(1, .int 24), (0, .ref o)]) hx hb dL_most_182 hl (k := 0) rfl (by decide) (by decide) rfl (fun ls hl => ?_)
  refine lv_goto (tgt := 141) hx hb dL_most_185 (by decide) ?_
  refine lv_iload_n hx hb dL_most_141 rfl (lv_at hl 0 rfl) ?_
  refine lv_bipush (v := 25) hx hb dL_most_142 (by decide) ?_
  refine lv_icmp_ge (tgt := 188) hx hb dL_most_144 (by decide) (fun h9 => absurd h9 (show ¬ (25 : Int32) ≤ 24 from (by decide))) (fun _ => ?_)
  refine lv_aload_n hx hb dL_most_147 rfl (lv_at hl 1 rfl) ?_
  refine lv_iconst (v := 4) hx hb dL_most_148 (by decide) ?_
  refine lv_iload_n hx hb dL_most_149 rfl (lv_at hl 0 rfl) ?_
  refine lv_bipush (v := 20) hx hb dL_most_150 (by decide) ?_
  refine lv_irem hx hb dL_most_152 (by decide) ?_
  refine lv_is (y := 4) (by decide) ?_
  refine lv_iload_n hx hb dL_most_153 rfl (lv_at hl 0 rfl) ?_
  refine lv_bipush (v := 20) hx hb dL_most_154 (by decide) ?_
  refine lv_idiv hx hb dL_most_156 (by decide) ?_
  refine lv_is (y := 1) (by decide) ?_
  refine lv_iconst (v := 1) hx hb dL_most_157 (by decide) ?_
  refine lv_iconst (v := 0) hx hb dL_most_158 (by decide) ?_
  refine lv_iconst (v := 0) hx hb dL_most_159 (by decide) ?_
  refine A_no_4 (q := 3) (v := (-7000003)) hfl hM hE hX hO hl (by simp) (by decide +kernel) (by decide) (by decide) ⟨Nat.le_of_ble_eq_true rfl, Nat.le_of_ble_eq_true rfl⟩ dL_most_160 (fun L F H locs hX hO => ?_)
  refine lv_iload_n hx hb dL_most_163 rfl (lv_at hl 0 rfl) ?_
  refine lv_bipush (v := 24) hx hb dL_most_164 (by decide) ?_
  refine lv_icmp_ge (tgt := 175) hx hb dL_most_166 (by decide) (fun _ => ?_) (fun h9 => absurd (show (24 : Int32) ≤ 24 from (by decide)) h9)
  refine lv_ldc hx hb hM.2.2.2.1 (hM.2.2.2.2.1 _ k_990) dL_most_175 ?_
  refine lv_icmp_eq (tgt := 182) hx hb dL_most_177 (by decide) (fun _ => ?_) (fun h9 => absurd (show ((-7000003) : Int32) = (-7000003) from (by decide)) h9)
  refine lv_iinc (v := 25) (lv' := [(1, .int 25), (0, .ref o)]) hx hb dL_most_182 hl (k := 0) rfl (by decide) (by decide) rfl (fun ls hl => ?_)
  refine lv_goto (tgt := 141) hx hb dL_most_185 (by decide) ?_
  refine lv_iload_n hx hb dL_most_141 rfl (lv_at hl 0 rfl) ?_
  refine lv_bipush (v := 25) hx hb dL_most_142 (by decide) ?_
  refine lv_icmp_ge (tgt := 188) hx hb dL_most_144 (by decide) (fun _ => ?_) (fun h9 => absurd (show (25 : Int32) ≤ 25 from (by decide)) h9)
  refine lv_aload_n hx hb dL_most_188 rfl (lv_at hl 1 rfl) ?_
  refine lv_bipush (v := 6) hx hb dL_most_189 (by decide) ?_
  refine lv_bipush (v := 19) hx hb dL_most_191 (by decide) ?_
  refine lv_iconst (v := 2) hx hb dL_most_193 (by decide) ?_
  refine lv_iconst (v := 1) hx hb dL_most_194 (by decide) ?_
  refine lv_iconst (v := 0) hx hb dL_most_195 (by decide) ?_
  refine lv_iconst (v := 0) hx hb dL_most_196 (by decide) ?_
  refine A_no_6 (q := 2) (v := (-7000003)) hfl hM hE hX hO hl (by simp) (by decide +kernel) (by decide) (by decide) ⟨Nat.le_of_ble_eq_true rfl, Nat.le_of_ble_eq_true rfl⟩ dL_most_197 (fun L F H locs hX hO => ?_)
  refine lv_ldc hx hb hM.2.2.2.1 (hM.2.2.2.2.1 _ k_990) dL_most_200 ?_
  refine lv_icmp_ne (tgt := 273) hx hb dL_most_202 (by decide) (fun h9 => absurd (show ((-7000003) : Int32) = (-7000003) from (by decide)) h9) (fun _ => ?_)
  refine lv_aload_n hx hb dL_most_205 rfl (lv_at hl 1 rfl) ?_
  refine lv_bipush (v := 19) hx hb dL_most_206 (by decide) ?_
  refine lv_iconst (v := 2) hx hb dL_most_208 (by decide) ?_
  refine lv_iconst (v := 0) hx hb dL_most_209 (by decide) ?_
  refine O_settle hfl hM hE hX hO hl (f_settle (r := 35693) (by decide +kernel)) (mk_24 _ 0) (by decide) (Nat.le_of_ble_eq_true rfl) ⟨Nat.le_of_ble_eq_true rfl, Nat.le_of_ble_eq_true rfl⟩ dL_most_210 (fun L F H locs hX hO => ?_)
  have hO : Ob γ o (mk mo_tb106) 106 L F := hO
  refine lv_ldc hx hb hM.2.2.2.1 (hM.2.2.2.2.1 _ k_1047) dL_most_213 ?_
  refine lv_icmp_ne (tgt := 273) hx hb dL_most_215 (by decide) (fun h9 => absurd (show (35693 : Int32) = 35693 from (by decide)) h9) (fun _ => ?_)
  refine lv_aload_n hx hb dL_most_218 rfl (lv_at hl 1 rfl) ?_
  refine lv_iconst (v := 0) hx hb dL_most_219 (by decide) ?_
  refine O_owes hfl hM hE hX hO hl (r := 107079) (by decide +kernel) (by decide +kernel) (by decide) (Nat.le_of_ble_eq_true rfl) ⟨Nat.le_of_ble_eq_true rfl, Nat.le_of_ble_eq_true rfl⟩ dL_most_220 (fun L F H locs hX hO => ?_)
  refine lv_ldc hx hb hM.2.2.2.1 (hM.2.2.2.2.1 _ k_1048) dL_most_223 ?_
  refine lv_icmp_ne (tgt := 273) hx hb dL_most_225 (by decide) (fun h9 => absurd (show (107079 : Int32) = 107079 from (by decide)) h9) (fun _ => ?_)
  refine lv_aload_n hx hb dL_most_228 rfl (lv_at hl 1 rfl) ?_
  refine lv_iconst (v := 5) hx hb dL_most_229 (by decide) ?_
  refine O_owedTo hfl hM hE hX hO hl (r := 107079) (by decide +kernel) (by decide +kernel) (by decide) (Nat.le_of_ble_eq_true rfl) ⟨Nat.le_of_ble_eq_true rfl, Nat.le_of_ble_eq_true rfl⟩ dL_most_230 (fun L F H locs hX hO => ?_)
  refine lv_ldc hx hb hM.2.2.2.1 (hM.2.2.2.2.1 _ k_1048) dL_most_233 ?_
  refine lv_icmp_ne (tgt := 273) hx hb dL_most_235 (by decide) (fun h9 => absurd (show (107079 : Int32) = 107079 from (by decide)) h9) (fun _ => ?_)
  refine lv_aload_n hx hb dL_most_238 rfl (lv_at hl 1 rfl) ?_
  refine lv_bipush (v := 19) hx hb dL_most_239 (by decide) ?_
  refine lv_iconst (v := 4) hx hb dL_most_241 (by decide) ?_
  refine lv_bipush (v := 100) hx hb dL_most_242 (by decide) ?_
  refine lv_iconst (v := 0) hx hb dL_most_244 (by decide) ?_
  refine O_sell hfl hM hE hX hO hl (by decide +kernel) (by decide +kernel) (f_sell (r := 35693) (by decide +kernel)) (mk_24 _ 0) (by decide) (Nat.le_of_ble_eq_true rfl) ⟨Nat.le_of_ble_eq_true rfl, Nat.le_of_ble_eq_true rfl⟩ dL_most_245 (fun L F H locs hX hO => ?_)
  have hO : Ob γ o (mk mo_tb107) 107 L F := hO
  refine lv_ldc hx hb hM.2.2.2.1 (hM.2.2.2.2.1 _ k_1047) dL_most_248 ?_
  refine lv_icmp_ne (tgt := 273) hx hb dL_most_250 (by decide) (fun h9 => absurd (show (35693 : Int32) = 35693 from (by decide)) h9) (fun _ => ?_)
  refine lv_aload_n hx hb dL_most_253 rfl (lv_at hl 1 rfl) ?_
  refine lv_iconst (v := 4) hx hb dL_most_254 (by decide) ?_
  refine lv_ldc hx hb hM.2.2.2.1 (hM.2.2.2.2.1 _ k_1049) dL_most_255 ?_
  refine H_cash  hfl hM hE hX hO hl (by decide +kernel) (by decide) (Nat.le_of_ble_eq_true rfl) ⟨Nat.le_of_ble_eq_true rfl, Nat.le_of_ble_eq_true rfl⟩ dL_most_257 (fun L F H locs hX hO => ?_)
  refine lv_if_eq (tgt := 273) hx hb dL_most_260 (by decide) (fun h9 => absurd h9 (show ¬ (1 : Int32) = 0 from (by decide))) (fun _ => ?_)
  exact W.widen (k := 1066) (n := 160188) (Nat.le_of_ble_eq_true rfl) (Nat.le_of_ble_eq_true rfl) (kk L F H locs ls hX hO hl)
set_option maxHeartbeats 8000000 in
set_option maxRecDepth 100000 in
theorem mo_19 (hfl : l.stackTraces = false) (hM : kM p s m args meth c cL_most 2 ret "InvoicebridgeLaw") (hE : kE γ A s) (hX : kX γ A s L F H locs) (hO : Ob γ o (mk mo_tb107) 107 L F) (hl : lv_has ls 2 [(1, .int 25), (0, .ref o)])
    (kk : ∀ (L : List Nat) (F : kF) (H : Heap) (locs : List Loc) (ls : Array Slot), kX γ A s L F H locs → Ob γ o (mk mo_tb113) 113 L F → lv_has ls 2 [(1, .int 6), (0, .ref o)] → W p l e (kRm 11 2357 330422) s m args below meth c H locs 1073 160230 Q (F0 m 297 ls [])) : W p l e (kRm 11 2357 330422) s m args below meth c H locs 1066 160188 Q (F0 m 263 ls []) := by
  have hx := hM.1
  have hb := hM.2.1
  refine lv_aload_n hx hb dL_most_263 rfl (lv_at hl 1 rfl) ?_
  refine lv_iconst (v := 4) hx hb dL_most_264 (by decide) ?_
  refine O_owedTo hfl hM hE hX hO hl (r := 142772) (by decide +kernel) (by decide +kernel) (by decide) (Nat.le_of_ble_eq_true rfl) ⟨Nat.le_of_ble_eq_true rfl, Nat.le_of_ble_eq_true rfl⟩ dL_most_265 (fun L F H locs hX hO => ?_)
  refine lv_ldc hx hb hM.2.2.2.1 (hM.2.2.2.2.1 _ k_1050) dL_most_268 ?_
  refine lv_icmp_eq (tgt := 275) hx hb dL_most_270 (by decide) (fun _ => ?_) (fun h9 => absurd (show (142772 : Int32) = 142772 from (by decide)) h9)
  refine lv_iconst (v := 1) hx hb dL_most_275 (by decide) ?_
  refine lv_istore_n (lv' := [(1, .int 1), (0, .ref o)]) hx hb dL_most_276 rfl hl (by decide) rfl (fun ls hl => ?_)
  refine lv_iload_n hx hb dL_most_277 rfl (lv_at hl 0 rfl) ?_
  refine lv_bipush (v := 17) hx hb dL_most_278 (by decide) ?_
  refine lv_icmp_ge (tgt := 303) hx hb dL_most_280 (by decide) (fun h9 => absurd h9 (show ¬ (17 : Int32) ≤ 1 from (by decide))) (fun _ => ?_)
  refine lv_aload_n hx hb dL_most_283 rfl (lv_at hl 1 rfl) ?_
  refine lv_bipush (v := 60) hx hb dL_most_284 (by decide) ?_
  refine O_pass hfl hM hE hX hO hl (f_pass (r := 2) (by decide +kernel)) (mk_24 _ 0) (by decide) (Nat.le_of_ble_eq_true rfl) ⟨Nat.le_of_ble_eq_true rfl, Nat.le_of_ble_eq_true rfl⟩ dL_most_286 (fun L F H locs hX hO => ?_)
  have hO : Ob γ o (mk mo_tb108) 108 L F := hO
  refine lv_iconst (v := 2) hx hb dL_most_289 (by decide) ?_
  refine lv_iload_n hx hb dL_most_290 rfl (lv_at hl 0 rfl) ?_
  refine lv_imul hx hb dL_most_291 ?_
  refine lv_is (y := 2) (by decide) ?_
  refine lv_icmp_eq (tgt := 297) hx hb dL_most_292 (by decide) (fun _ => ?_) (fun h9 => absurd (show (2 : Int32) = 2 from (by decide)) h9)
  refine lv_iinc (v := 2) (lv' := [(1, .int 2), (0, .ref o)]) hx hb dL_most_297 hl (k := 0) rfl (by decide) (by decide) rfl (fun ls hl => ?_)
  refine lv_goto (tgt := 277) hx hb dL_most_300 (by decide) ?_
  refine lv_iload_n hx hb dL_most_277 rfl (lv_at hl 0 rfl) ?_
  refine lv_bipush (v := 17) hx hb dL_most_278 (by decide) ?_
  refine lv_icmp_ge (tgt := 303) hx hb dL_most_280 (by decide) (fun h9 => absurd h9 (show ¬ (17 : Int32) ≤ 2 from (by decide))) (fun _ => ?_)
  refine lv_aload_n hx hb dL_most_283 rfl (lv_at hl 1 rfl) ?_
  refine lv_bipush (v := 60) hx hb dL_most_284 (by decide) ?_
  refine O_pass hfl hM hE hX hO hl (f_pass (r := 4) (by decide +kernel)) (mk_24 _ 0) (by decide) (Nat.le_of_ble_eq_true rfl) ⟨Nat.le_of_ble_eq_true rfl, Nat.le_of_ble_eq_true rfl⟩ dL_most_286 (fun L F H locs hX hO => ?_)
  have hO : Ob γ o (mk mo_tb109) 109 L F := hO
  refine lv_iconst (v := 2) hx hb dL_most_289 (by decide) ?_
  refine lv_iload_n hx hb dL_most_290 rfl (lv_at hl 0 rfl) ?_
  refine lv_imul hx hb dL_most_291 ?_
  refine lv_is (y := 4) (by decide) ?_
  refine lv_icmp_eq (tgt := 297) hx hb dL_most_292 (by decide) (fun _ => ?_) (fun h9 => absurd (show (4 : Int32) = 4 from (by decide)) h9)
  refine lv_iinc (v := 3) (lv' := [(1, .int 3), (0, .ref o)]) hx hb dL_most_297 hl (k := 0) rfl (by decide) (by decide) rfl (fun ls hl => ?_)
  refine lv_goto (tgt := 277) hx hb dL_most_300 (by decide) ?_
  refine lv_iload_n hx hb dL_most_277 rfl (lv_at hl 0 rfl) ?_
  refine lv_bipush (v := 17) hx hb dL_most_278 (by decide) ?_
  refine lv_icmp_ge (tgt := 303) hx hb dL_most_280 (by decide) (fun h9 => absurd h9 (show ¬ (17 : Int32) ≤ 3 from (by decide))) (fun _ => ?_)
  refine lv_aload_n hx hb dL_most_283 rfl (lv_at hl 1 rfl) ?_
  refine lv_bipush (v := 60) hx hb dL_most_284 (by decide) ?_
  refine O_pass hfl hM hE hX hO hl (f_pass (r := 6) (by decide +kernel)) (mk_24 _ 0) (by decide) (Nat.le_of_ble_eq_true rfl) ⟨Nat.le_of_ble_eq_true rfl, Nat.le_of_ble_eq_true rfl⟩ dL_most_286 (fun L F H locs hX hO => ?_)
  have hO : Ob γ o (mk mo_tb110) 110 L F := hO
  refine lv_iconst (v := 2) hx hb dL_most_289 (by decide) ?_
  refine lv_iload_n hx hb dL_most_290 rfl (lv_at hl 0 rfl) ?_
  refine lv_imul hx hb dL_most_291 ?_
  refine lv_is (y := 6) (by decide) ?_
  refine lv_icmp_eq (tgt := 297) hx hb dL_most_292 (by decide) (fun _ => ?_) (fun h9 => absurd (show (6 : Int32) = 6 from (by decide)) h9)
  refine lv_iinc (v := 4) (lv' := [(1, .int 4), (0, .ref o)]) hx hb dL_most_297 hl (k := 0) rfl (by decide) (by decide) rfl (fun ls hl => ?_)
  refine lv_goto (tgt := 277) hx hb dL_most_300 (by decide) ?_
  refine lv_iload_n hx hb dL_most_277 rfl (lv_at hl 0 rfl) ?_
  refine lv_bipush (v := 17) hx hb dL_most_278 (by decide) ?_
  refine lv_icmp_ge (tgt := 303) hx hb dL_most_280 (by decide) (fun h9 => absurd h9 (show ¬ (17 : Int32) ≤ 4 from (by decide))) (fun _ => ?_)
  refine lv_aload_n hx hb dL_most_283 rfl (lv_at hl 1 rfl) ?_
  refine lv_bipush (v := 60) hx hb dL_most_284 (by decide) ?_
  refine O_pass hfl hM hE hX hO hl (f_pass (r := 8) (by decide +kernel)) (mk_24 _ 0) (by decide) (Nat.le_of_ble_eq_true rfl) ⟨Nat.le_of_ble_eq_true rfl, Nat.le_of_ble_eq_true rfl⟩ dL_most_286 (fun L F H locs hX hO => ?_)
  have hO : Ob γ o (mk mo_tb111) 111 L F := hO
  refine lv_iconst (v := 2) hx hb dL_most_289 (by decide) ?_
  refine lv_iload_n hx hb dL_most_290 rfl (lv_at hl 0 rfl) ?_
  refine lv_imul hx hb dL_most_291 ?_
  refine lv_is (y := 8) (by decide) ?_
  refine lv_icmp_eq (tgt := 297) hx hb dL_most_292 (by decide) (fun _ => ?_) (fun h9 => absurd (show (8 : Int32) = 8 from (by decide)) h9)
  refine lv_iinc (v := 5) (lv' := [(1, .int 5), (0, .ref o)]) hx hb dL_most_297 hl (k := 0) rfl (by decide) (by decide) rfl (fun ls hl => ?_)
  refine lv_goto (tgt := 277) hx hb dL_most_300 (by decide) ?_
  refine lv_iload_n hx hb dL_most_277 rfl (lv_at hl 0 rfl) ?_
  refine lv_bipush (v := 17) hx hb dL_most_278 (by decide) ?_
  refine lv_icmp_ge (tgt := 303) hx hb dL_most_280 (by decide) (fun h9 => absurd h9 (show ¬ (17 : Int32) ≤ 5 from (by decide))) (fun _ => ?_)
  refine lv_aload_n hx hb dL_most_283 rfl (lv_at hl 1 rfl) ?_
  refine lv_bipush (v := 60) hx hb dL_most_284 (by decide) ?_
  refine O_pass hfl hM hE hX hO hl (f_pass (r := 10) (by decide +kernel)) (mk_24 _ 0) (by decide) (Nat.le_of_ble_eq_true rfl) ⟨Nat.le_of_ble_eq_true rfl, Nat.le_of_ble_eq_true rfl⟩ dL_most_286 (fun L F H locs hX hO => ?_)
  have hO : Ob γ o (mk mo_tb112) 112 L F := hO
  refine lv_iconst (v := 2) hx hb dL_most_289 (by decide) ?_
  refine lv_iload_n hx hb dL_most_290 rfl (lv_at hl 0 rfl) ?_
  refine lv_imul hx hb dL_most_291 ?_
  refine lv_is (y := 10) (by decide) ?_
  refine lv_icmp_eq (tgt := 297) hx hb dL_most_292 (by decide) (fun _ => ?_) (fun h9 => absurd (show (10 : Int32) = 10 from (by decide)) h9)
  refine lv_iinc (v := 6) (lv' := [(1, .int 6), (0, .ref o)]) hx hb dL_most_297 hl (k := 0) rfl (by decide) (by decide) rfl (fun ls hl => ?_)
  refine lv_goto (tgt := 277) hx hb dL_most_300 (by decide) ?_
  refine lv_iload_n hx hb dL_most_277 rfl (lv_at hl 0 rfl) ?_
  refine lv_bipush (v := 17) hx hb dL_most_278 (by decide) ?_
  refine lv_icmp_ge (tgt := 303) hx hb dL_most_280 (by decide) (fun h9 => absurd h9 (show ¬ (17 : Int32) ≤ 6 from (by decide))) (fun _ => ?_)
  refine lv_aload_n hx hb dL_most_283 rfl (lv_at hl 1 rfl) ?_
  refine lv_bipush (v := 60) hx hb dL_most_284 (by decide) ?_
  refine O_pass hfl hM hE hX hO hl (f_pass (r := 12) (by decide +kernel)) (mk_24 _ 0) (by decide) (Nat.le_of_ble_eq_true rfl) ⟨Nat.le_of_ble_eq_true rfl, Nat.le_of_ble_eq_true rfl⟩ dL_most_286 (fun L F H locs hX hO => ?_)
  have hO : Ob γ o (mk mo_tb113) 113 L F := hO
  refine lv_iconst (v := 2) hx hb dL_most_289 (by decide) ?_
  refine lv_iload_n hx hb dL_most_290 rfl (lv_at hl 0 rfl) ?_
  refine lv_imul hx hb dL_most_291 ?_
  refine lv_is (y := 12) (by decide) ?_
  refine lv_icmp_eq (tgt := 297) hx hb dL_most_292 (by decide) (fun _ => ?_) (fun h9 => absurd (show (12 : Int32) = 12 from (by decide)) h9)
  exact W.widen (k := 1073) (n := 160230) (Nat.le_of_ble_eq_true rfl) (Nat.le_of_ble_eq_true rfl) (kk L F H locs ls hX hO hl)
set_option maxHeartbeats 8000000 in
set_option maxRecDepth 100000 in
theorem mo_20 (hfl : l.stackTraces = false) (hM : kM p s m args meth c cL_most 2 ret "InvoicebridgeLaw") (hE : kE γ A s) (hX : kX γ A s L F H locs) (hO : Ob γ o (mk mo_tb113) 113 L F) (hl : lv_has ls 2 [(1, .int 6), (0, .ref o)])
    (kk : ∀ (L : List Nat) (F : kF) (H : Heap) (locs : List Loc) (ls : Array Slot), kX γ A s L F H locs → Ob γ o (mk mo_tb120) 120 L F → lv_has ls 2 [(1, .int 13), (0, .ref o)] → W p l e (kRm 11 2357 330422) s m args below meth c H locs 1080 160272 Q (F0 m 297 ls [])) : W p l e (kRm 11 2357 330422) s m args below meth c H locs 1073 160230 Q (F0 m 297 ls []) := by
  have hx := hM.1
  have hb := hM.2.1
  refine lv_iinc (v := 7) (lv' := [(1, .int 7), (0, .ref o)]) hx hb dL_most_297 hl (k := 0) rfl (by decide) (by decide) rfl (fun ls hl => ?_)
  refine lv_goto (tgt := 277) hx hb dL_most_300 (by decide) ?_
  refine lv_iload_n hx hb dL_most_277 rfl (lv_at hl 0 rfl) ?_
  refine lv_bipush (v := 17) hx hb dL_most_278 (by decide) ?_
  refine lv_icmp_ge (tgt := 303) hx hb dL_most_280 (by decide) (fun h9 => absurd h9 (show ¬ (17 : Int32) ≤ 7 from (by decide))) (fun _ => ?_)
  refine lv_aload_n hx hb dL_most_283 rfl (lv_at hl 1 rfl) ?_
  refine lv_bipush (v := 60) hx hb dL_most_284 (by decide) ?_
  refine O_pass hfl hM hE hX hO hl (f_pass (r := 14) (by decide +kernel)) (mk_24 _ 0) (by decide) (Nat.le_of_ble_eq_true rfl) ⟨Nat.le_of_ble_eq_true rfl, Nat.le_of_ble_eq_true rfl⟩ dL_most_286 (fun L F H locs hX hO => ?_)
  have hO : Ob γ o (mk mo_tb114) 114 L F := hO
  refine lv_iconst (v := 2) hx hb dL_most_289 (by decide) ?_
  refine lv_iload_n hx hb dL_most_290 rfl (lv_at hl 0 rfl) ?_
  refine lv_imul hx hb dL_most_291 ?_
  refine lv_is (y := 14) (by decide) ?_
  refine lv_icmp_eq (tgt := 297) hx hb dL_most_292 (by decide) (fun _ => ?_) (fun h9 => absurd (show (14 : Int32) = 14 from (by decide)) h9)
  refine lv_iinc (v := 8) (lv' := [(1, .int 8), (0, .ref o)]) hx hb dL_most_297 hl (k := 0) rfl (by decide) (by decide) rfl (fun ls hl => ?_)
  refine lv_goto (tgt := 277) hx hb dL_most_300 (by decide) ?_
  refine lv_iload_n hx hb dL_most_277 rfl (lv_at hl 0 rfl) ?_
  refine lv_bipush (v := 17) hx hb dL_most_278 (by decide) ?_
  refine lv_icmp_ge (tgt := 303) hx hb dL_most_280 (by decide) (fun h9 => absurd h9 (show ¬ (17 : Int32) ≤ 8 from (by decide))) (fun _ => ?_)
  refine lv_aload_n hx hb dL_most_283 rfl (lv_at hl 1 rfl) ?_
  refine lv_bipush (v := 60) hx hb dL_most_284 (by decide) ?_
  refine O_pass hfl hM hE hX hO hl (f_pass (r := 16) (by decide +kernel)) (mk_24 _ 0) (by decide) (Nat.le_of_ble_eq_true rfl) ⟨Nat.le_of_ble_eq_true rfl, Nat.le_of_ble_eq_true rfl⟩ dL_most_286 (fun L F H locs hX hO => ?_)
  have hO : Ob γ o (mk mo_tb115) 115 L F := hO
  refine lv_iconst (v := 2) hx hb dL_most_289 (by decide) ?_
  refine lv_iload_n hx hb dL_most_290 rfl (lv_at hl 0 rfl) ?_
  refine lv_imul hx hb dL_most_291 ?_
  refine lv_is (y := 16) (by decide) ?_
  refine lv_icmp_eq (tgt := 297) hx hb dL_most_292 (by decide) (fun _ => ?_) (fun h9 => absurd (show (16 : Int32) = 16 from (by decide)) h9)
  refine lv_iinc (v := 9) (lv' := [(1, .int 9), (0, .ref o)]) hx hb dL_most_297 hl (k := 0) rfl (by decide) (by decide) rfl (fun ls hl => ?_)
  refine lv_goto (tgt := 277) hx hb dL_most_300 (by decide) ?_
  refine lv_iload_n hx hb dL_most_277 rfl (lv_at hl 0 rfl) ?_
  refine lv_bipush (v := 17) hx hb dL_most_278 (by decide) ?_
  refine lv_icmp_ge (tgt := 303) hx hb dL_most_280 (by decide) (fun h9 => absurd h9 (show ¬ (17 : Int32) ≤ 9 from (by decide))) (fun _ => ?_)
  refine lv_aload_n hx hb dL_most_283 rfl (lv_at hl 1 rfl) ?_
  refine lv_bipush (v := 60) hx hb dL_most_284 (by decide) ?_
  refine O_pass hfl hM hE hX hO hl (f_pass (r := 18) (by decide +kernel)) (mk_24 _ 0) (by decide) (Nat.le_of_ble_eq_true rfl) ⟨Nat.le_of_ble_eq_true rfl, Nat.le_of_ble_eq_true rfl⟩ dL_most_286 (fun L F H locs hX hO => ?_)
  have hO : Ob γ o (mk mo_tb116) 116 L F := hO
  refine lv_iconst (v := 2) hx hb dL_most_289 (by decide) ?_
  refine lv_iload_n hx hb dL_most_290 rfl (lv_at hl 0 rfl) ?_
  refine lv_imul hx hb dL_most_291 ?_
  refine lv_is (y := 18) (by decide) ?_
  refine lv_icmp_eq (tgt := 297) hx hb dL_most_292 (by decide) (fun _ => ?_) (fun h9 => absurd (show (18 : Int32) = 18 from (by decide)) h9)
  refine lv_iinc (v := 10) (lv' := [(1, .int 10), (0, .ref o)]) hx hb dL_most_297 hl (k := 0) rfl (by decide) (by decide) rfl (fun ls hl => ?_)
  refine lv_goto (tgt := 277) hx hb dL_most_300 (by decide) ?_
  refine lv_iload_n hx hb dL_most_277 rfl (lv_at hl 0 rfl) ?_
  refine lv_bipush (v := 17) hx hb dL_most_278 (by decide) ?_
  refine lv_icmp_ge (tgt := 303) hx hb dL_most_280 (by decide) (fun h9 => absurd h9 (show ¬ (17 : Int32) ≤ 10 from (by decide))) (fun _ => ?_)
  refine lv_aload_n hx hb dL_most_283 rfl (lv_at hl 1 rfl) ?_
  refine lv_bipush (v := 60) hx hb dL_most_284 (by decide) ?_
  refine O_pass hfl hM hE hX hO hl (f_pass (r := 20) (by decide +kernel)) (mk_24 _ 0) (by decide) (Nat.le_of_ble_eq_true rfl) ⟨Nat.le_of_ble_eq_true rfl, Nat.le_of_ble_eq_true rfl⟩ dL_most_286 (fun L F H locs hX hO => ?_)
  have hO : Ob γ o (mk mo_tb117) 117 L F := hO
  refine lv_iconst (v := 2) hx hb dL_most_289 (by decide) ?_
  refine lv_iload_n hx hb dL_most_290 rfl (lv_at hl 0 rfl) ?_
  refine lv_imul hx hb dL_most_291 ?_
  refine lv_is (y := 20) (by decide) ?_
  refine lv_icmp_eq (tgt := 297) hx hb dL_most_292 (by decide) (fun _ => ?_) (fun h9 => absurd (show (20 : Int32) = 20 from (by decide)) h9)
  refine lv_iinc (v := 11) (lv' := [(1, .int 11), (0, .ref o)]) hx hb dL_most_297 hl (k := 0) rfl (by decide) (by decide) rfl (fun ls hl => ?_)
  refine lv_goto (tgt := 277) hx hb dL_most_300 (by decide) ?_
  refine lv_iload_n hx hb dL_most_277 rfl (lv_at hl 0 rfl) ?_
  refine lv_bipush (v := 17) hx hb dL_most_278 (by decide) ?_
  refine lv_icmp_ge (tgt := 303) hx hb dL_most_280 (by decide) (fun h9 => absurd h9 (show ¬ (17 : Int32) ≤ 11 from (by decide))) (fun _ => ?_)
  refine lv_aload_n hx hb dL_most_283 rfl (lv_at hl 1 rfl) ?_
  refine lv_bipush (v := 60) hx hb dL_most_284 (by decide) ?_
  refine O_pass hfl hM hE hX hO hl (f_pass (r := 22) (by decide +kernel)) (mk_24 _ 0) (by decide) (Nat.le_of_ble_eq_true rfl) ⟨Nat.le_of_ble_eq_true rfl, Nat.le_of_ble_eq_true rfl⟩ dL_most_286 (fun L F H locs hX hO => ?_)
  have hO : Ob γ o (mk mo_tb118) 118 L F := hO
  refine lv_iconst (v := 2) hx hb dL_most_289 (by decide) ?_
  refine lv_iload_n hx hb dL_most_290 rfl (lv_at hl 0 rfl) ?_
  refine lv_imul hx hb dL_most_291 ?_
  refine lv_is (y := 22) (by decide) ?_
  refine lv_icmp_eq (tgt := 297) hx hb dL_most_292 (by decide) (fun _ => ?_) (fun h9 => absurd (show (22 : Int32) = 22 from (by decide)) h9)
  refine lv_iinc (v := 12) (lv' := [(1, .int 12), (0, .ref o)]) hx hb dL_most_297 hl (k := 0) rfl (by decide) (by decide) rfl (fun ls hl => ?_)
  refine lv_goto (tgt := 277) hx hb dL_most_300 (by decide) ?_
  refine lv_iload_n hx hb dL_most_277 rfl (lv_at hl 0 rfl) ?_
  refine lv_bipush (v := 17) hx hb dL_most_278 (by decide) ?_
  refine lv_icmp_ge (tgt := 303) hx hb dL_most_280 (by decide) (fun h9 => absurd h9 (show ¬ (17 : Int32) ≤ 12 from (by decide))) (fun _ => ?_)
  refine lv_aload_n hx hb dL_most_283 rfl (lv_at hl 1 rfl) ?_
  refine lv_bipush (v := 60) hx hb dL_most_284 (by decide) ?_
  refine O_pass hfl hM hE hX hO hl (f_pass (r := 24) (by decide +kernel)) (mk_24 _ 0) (by decide) (Nat.le_of_ble_eq_true rfl) ⟨Nat.le_of_ble_eq_true rfl, Nat.le_of_ble_eq_true rfl⟩ dL_most_286 (fun L F H locs hX hO => ?_)
  have hO : Ob γ o (mk mo_tb119) 119 L F := hO
  refine lv_iconst (v := 2) hx hb dL_most_289 (by decide) ?_
  refine lv_iload_n hx hb dL_most_290 rfl (lv_at hl 0 rfl) ?_
  refine lv_imul hx hb dL_most_291 ?_
  refine lv_is (y := 24) (by decide) ?_
  refine lv_icmp_eq (tgt := 297) hx hb dL_most_292 (by decide) (fun _ => ?_) (fun h9 => absurd (show (24 : Int32) = 24 from (by decide)) h9)
  refine lv_iinc (v := 13) (lv' := [(1, .int 13), (0, .ref o)]) hx hb dL_most_297 hl (k := 0) rfl (by decide) (by decide) rfl (fun ls hl => ?_)
  refine lv_goto (tgt := 277) hx hb dL_most_300 (by decide) ?_
  refine lv_iload_n hx hb dL_most_277 rfl (lv_at hl 0 rfl) ?_
  refine lv_bipush (v := 17) hx hb dL_most_278 (by decide) ?_
  refine lv_icmp_ge (tgt := 303) hx hb dL_most_280 (by decide) (fun h9 => absurd h9 (show ¬ (17 : Int32) ≤ 13 from (by decide))) (fun _ => ?_)
  refine lv_aload_n hx hb dL_most_283 rfl (lv_at hl 1 rfl) ?_
  refine lv_bipush (v := 60) hx hb dL_most_284 (by decide) ?_
  refine O_pass hfl hM hE hX hO hl (f_pass (r := 26) (by decide +kernel)) (mk_24 _ 0) (by decide) (Nat.le_of_ble_eq_true rfl) ⟨Nat.le_of_ble_eq_true rfl, Nat.le_of_ble_eq_true rfl⟩ dL_most_286 (fun L F H locs hX hO => ?_)
  have hO : Ob γ o (mk mo_tb120) 120 L F := hO
  refine lv_iconst (v := 2) hx hb dL_most_289 (by decide) ?_
  refine lv_iload_n hx hb dL_most_290 rfl (lv_at hl 0 rfl) ?_
  refine lv_imul hx hb dL_most_291 ?_
  refine lv_is (y := 26) (by decide) ?_
  refine lv_icmp_eq (tgt := 297) hx hb dL_most_292 (by decide) (fun _ => ?_) (fun h9 => absurd (show (26 : Int32) = 26 from (by decide)) h9)
  exact W.widen (k := 1080) (n := 160272) (Nat.le_of_ble_eq_true rfl) (Nat.le_of_ble_eq_true rfl) (kk L F H locs ls hX hO hl)
set_option maxHeartbeats 8000000 in
set_option maxRecDepth 100000 in
theorem mo_21 (hfl : l.stackTraces = false) (hM : kM p s m args meth c cL_most 2 ret "InvoicebridgeLaw") (hE : kE γ A s) (hX : kX γ A s L F H locs) (hO : Ob γ o (mk mo_tb120) 120 L F) (hl : lv_has ls 2 [(1, .int 13), (0, .ref o)])
    (kk : ∀ (L : List Nat) (F : kF) (H : Heap) (locs : List Loc) (ls : Array Slot), kX γ A s L F H locs → Ob γ o (mk mo_tb124) 124 L F → lv_has ls 2 [(1, .int 17), (0, .ref o)] → W p l e (kRm 11 2357 330422) s m args below meth c H locs 1091 160338 Q (F0 m 352 ls [])) : W p l e (kRm 11 2357 330422) s m args below meth c H locs 1080 160272 Q (F0 m 297 ls []) := by
  have hx := hM.1
  have hb := hM.2.1
  refine lv_iinc (v := 14) (lv' := [(1, .int 14), (0, .ref o)]) hx hb dL_most_297 hl (k := 0) rfl (by decide) (by decide) rfl (fun ls hl => ?_)
  refine lv_goto (tgt := 277) hx hb dL_most_300 (by decide) ?_
  refine lv_iload_n hx hb dL_most_277 rfl (lv_at hl 0 rfl) ?_
  refine lv_bipush (v := 17) hx hb dL_most_278 (by decide) ?_
  refine lv_icmp_ge (tgt := 303) hx hb dL_most_280 (by decide) (fun h9 => absurd h9 (show ¬ (17 : Int32) ≤ 14 from (by decide))) (fun _ => ?_)
  refine lv_aload_n hx hb dL_most_283 rfl (lv_at hl 1 rfl) ?_
  refine lv_bipush (v := 60) hx hb dL_most_284 (by decide) ?_
  refine O_pass hfl hM hE hX hO hl (f_pass (r := 28) (by decide +kernel)) (mk_24 _ 0) (by decide) (Nat.le_of_ble_eq_true rfl) ⟨Nat.le_of_ble_eq_true rfl, Nat.le_of_ble_eq_true rfl⟩ dL_most_286 (fun L F H locs hX hO => ?_)
  have hO : Ob γ o (mk mo_tb121) 121 L F := hO
  refine lv_iconst (v := 2) hx hb dL_most_289 (by decide) ?_
  refine lv_iload_n hx hb dL_most_290 rfl (lv_at hl 0 rfl) ?_
  refine lv_imul hx hb dL_most_291 ?_
  refine lv_is (y := 28) (by decide) ?_
  refine lv_icmp_eq (tgt := 297) hx hb dL_most_292 (by decide) (fun _ => ?_) (fun h9 => absurd (show (28 : Int32) = 28 from (by decide)) h9)
  refine lv_iinc (v := 15) (lv' := [(1, .int 15), (0, .ref o)]) hx hb dL_most_297 hl (k := 0) rfl (by decide) (by decide) rfl (fun ls hl => ?_)
  refine lv_goto (tgt := 277) hx hb dL_most_300 (by decide) ?_
  refine lv_iload_n hx hb dL_most_277 rfl (lv_at hl 0 rfl) ?_
  refine lv_bipush (v := 17) hx hb dL_most_278 (by decide) ?_
  refine lv_icmp_ge (tgt := 303) hx hb dL_most_280 (by decide) (fun h9 => absurd h9 (show ¬ (17 : Int32) ≤ 15 from (by decide))) (fun _ => ?_)
  refine lv_aload_n hx hb dL_most_283 rfl (lv_at hl 1 rfl) ?_
  refine lv_bipush (v := 60) hx hb dL_most_284 (by decide) ?_
  refine O_pass hfl hM hE hX hO hl (f_pass (r := 30) (by decide +kernel)) (mk_24 _ 0) (by decide) (Nat.le_of_ble_eq_true rfl) ⟨Nat.le_of_ble_eq_true rfl, Nat.le_of_ble_eq_true rfl⟩ dL_most_286 (fun L F H locs hX hO => ?_)
  have hO : Ob γ o (mk mo_tb122) 122 L F := hO
  refine lv_iconst (v := 2) hx hb dL_most_289 (by decide) ?_
  refine lv_iload_n hx hb dL_most_290 rfl (lv_at hl 0 rfl) ?_
  refine lv_imul hx hb dL_most_291 ?_
  refine lv_is (y := 30) (by decide) ?_
  refine lv_icmp_eq (tgt := 297) hx hb dL_most_292 (by decide) (fun _ => ?_) (fun h9 => absurd (show (30 : Int32) = 30 from (by decide)) h9)
  refine lv_iinc (v := 16) (lv' := [(1, .int 16), (0, .ref o)]) hx hb dL_most_297 hl (k := 0) rfl (by decide) (by decide) rfl (fun ls hl => ?_)
  refine lv_goto (tgt := 277) hx hb dL_most_300 (by decide) ?_
  refine lv_iload_n hx hb dL_most_277 rfl (lv_at hl 0 rfl) ?_
  refine lv_bipush (v := 17) hx hb dL_most_278 (by decide) ?_
  refine lv_icmp_ge (tgt := 303) hx hb dL_most_280 (by decide) (fun h9 => absurd h9 (show ¬ (17 : Int32) ≤ 16 from (by decide))) (fun _ => ?_)
  refine lv_aload_n hx hb dL_most_283 rfl (lv_at hl 1 rfl) ?_
  refine lv_bipush (v := 60) hx hb dL_most_284 (by decide) ?_
  refine O_pass hfl hM hE hX hO hl (f_pass (r := 32) (by decide +kernel)) (mk_24 _ 0) (by decide) (Nat.le_of_ble_eq_true rfl) ⟨Nat.le_of_ble_eq_true rfl, Nat.le_of_ble_eq_true rfl⟩ dL_most_286 (fun L F H locs hX hO => ?_)
  have hO : Ob γ o (mk mo_tb123) 123 L F := hO
  refine lv_iconst (v := 2) hx hb dL_most_289 (by decide) ?_
  refine lv_iload_n hx hb dL_most_290 rfl (lv_at hl 0 rfl) ?_
  refine lv_imul hx hb dL_most_291 ?_
  refine lv_is (y := 32) (by decide) ?_
  refine lv_icmp_eq (tgt := 297) hx hb dL_most_292 (by decide) (fun _ => ?_) (fun h9 => absurd (show (32 : Int32) = 32 from (by decide)) h9)
  refine lv_iinc (v := 17) (lv' := [(1, .int 17), (0, .ref o)]) hx hb dL_most_297 hl (k := 0) rfl (by decide) (by decide) rfl (fun ls hl => ?_)
  refine lv_goto (tgt := 277) hx hb dL_most_300 (by decide) ?_
  refine lv_iload_n hx hb dL_most_277 rfl (lv_at hl 0 rfl) ?_
  refine lv_bipush (v := 17) hx hb dL_most_278 (by decide) ?_
  refine lv_icmp_ge (tgt := 303) hx hb dL_most_280 (by decide) (fun _ => ?_) (fun h9 => absurd (show (17 : Int32) ≤ 17 from (by decide)) h9)
  refine lv_aload_n hx hb dL_most_303 rfl (lv_at hl 1 rfl) ?_
  refine lv_bipush (v := 39) hx hb dL_most_304 (by decide) ?_
  refine O_pass hfl hM hE hX hO hl (f_pass (r := 33) (by decide +kernel)) (mk_24 _ 0) (by decide) (Nat.le_of_ble_eq_true rfl) ⟨Nat.le_of_ble_eq_true rfl, Nat.le_of_ble_eq_true rfl⟩ dL_most_306 (fun L F H locs hX hO => ?_)
  have hO : Ob γ o (mk mo_tb124) 124 L F := hO
  refine lv_bipush (v := 33) hx hb dL_most_309 (by decide) ?_
  refine lv_icmp_ne (tgt := 416) hx hb dL_most_311 (by decide) (fun h9 => absurd (show (33 : Int32) = 33 from (by decide)) h9) (fun _ => ?_)
  refine lv_aload_n hx hb dL_most_314 rfl (lv_at hl 1 rfl) ?_
  refine lv_bipush (v := 12) hx hb dL_most_315 (by decide) ?_
  refine lv_iconst (v := 1) hx hb dL_most_317 (by decide) ?_
  refine lv_iconst (v := 0) hx hb dL_most_318 (by decide) ?_
  refine lv_iconst (v := 0) hx hb dL_most_319 (by decide) ?_
  refine lv_iconst (v := 0) hx hb dL_most_320 (by decide) ?_
  refine lv_iconst (v := 0) hx hb dL_most_321 (by decide) ?_
  refine A_no_12 (q := 2) (v := (-7000003)) hfl hM hE hX hO hl (by simp) (by decide +kernel) (by decide) (by decide) ⟨Nat.le_of_ble_eq_true rfl, Nat.le_of_ble_eq_true rfl⟩ dL_most_322 (fun L F H locs hX hO => ?_)
  refine lv_ldc hx hb hM.2.2.2.1 (hM.2.2.2.2.1 _ k_990) dL_most_325 ?_
  refine lv_icmp_ne (tgt := 416) hx hb dL_most_327 (by decide) (fun h9 => absurd (show ((-7000003) : Int32) = (-7000003) from (by decide)) h9) (fun _ => ?_)
  refine lv_aload_n hx hb dL_most_330 rfl (lv_at hl 1 rfl) ?_
  refine O_day hM hE hX hO hl (r := 999) (by decide +kernel) (by decide) (Nat.le_of_ble_eq_true rfl) ⟨Nat.le_of_ble_eq_true rfl, Nat.le_of_ble_eq_true rfl⟩ dL_most_331 (fun L F H locs hX hO => ?_)
  refine lv_sipush (v := 999) hx hb dL_most_334 (by decide) ?_
  refine lv_icmp_ne (tgt := 416) hx hb dL_most_337 (by decide) (fun h9 => absurd (show (999 : Int32) = 999 from (by decide)) h9) (fun _ => ?_)
  refine lv_aload_n hx hb dL_most_340 rfl (lv_at hl 1 rfl) ?_
  refine lv_iconst (v := 0) hx hb dL_most_341 (by decide) ?_
  refine lv_bipush (v := 33) hx hb dL_most_342 (by decide) ?_
  refine lv_iconst (v := 0) hx hb dL_most_344 (by decide) ?_
  refine lv_iconst (v := 0) hx hb dL_most_345 (by decide) ?_
  refine H_taxes  hfl hM hE hX hO hl (by decide +kernel) (by decide) (Nat.le_of_ble_eq_true rfl) ⟨Nat.le_of_ble_eq_true rfl, Nat.le_of_ble_eq_true rfl⟩ dL_most_346 (fun L F H locs hX hO => ?_)
  refine lv_if_eq (tgt := 416) hx hb dL_most_349 (by decide) (fun h9 => absurd h9 (show ¬ (1 : Int32) = 0 from (by decide))) (fun _ => ?_)
  exact W.widen (k := 1091) (n := 160338) (Nat.le_of_ble_eq_true rfl) (Nat.le_of_ble_eq_true rfl) (kk L F H locs ls hX hO hl)
set_option maxHeartbeats 8000000 in
set_option maxRecDepth 100000 in
theorem mo_22 (hfl : l.stackTraces = false) (hM : kM p s m args meth c cL_most 2 ret "InvoicebridgeLaw") (hE : kE γ A s) (hX : kX γ A s L F H locs) (hO : Ob γ o (mk mo_tb124) 124 L F) (hl : lv_has ls 2 [(1, .int 17), (0, .ref o)])
    (kk : ∀ (L : List Nat) (F : kF) (H : Heap) (locs : List Loc) (ls : Array Slot), kX γ A s L F H locs → Ob γ o (mk mo_tb124) 124 L F → lv_has ls 2 [(1, .int 17), (0, .ref o)] → W p l e (kRm 11 2357 330422) s m args below meth c H locs 2357 330422 Q (F0 m 417 ls [.int 1])) : W p l e (kRm 11 2357 330422) s m args below meth c H locs 1091 160338 Q (F0 m 352 ls []) := by
  have hx := hM.1
  have hb := hM.2.1
  refine lv_aload_n hx hb dL_most_352 rfl (lv_at hl 1 rfl) ?_
  refine lv_iconst (v := 0) hx hb dL_most_353 (by decide) ?_
  refine lv_iconst (v := 0) hx hb dL_most_354 (by decide) ?_
  refine lv_sipush (v := 5697) hx hb dL_most_355 (by decide) ?_
  refine lv_iconst (v := 0) hx hb dL_most_358 (by decide) ?_
  refine H_taxes  hfl hM hE hX hO hl (by decide +kernel) (by decide) (Nat.le_of_ble_eq_true rfl) ⟨Nat.le_of_ble_eq_true rfl, Nat.le_of_ble_eq_true rfl⟩ dL_most_359 (fun L F H locs hX hO => ?_)
  refine lv_if_eq (tgt := 416) hx hb dL_most_362 (by decide) (fun h9 => absurd h9 (show ¬ (1 : Int32) = 0 from (by decide))) (fun _ => ?_)
  refine lv_aload_n hx hb dL_most_365 rfl (lv_at hl 1 rfl) ?_
  refine lv_iconst (v := 1) hx hb dL_most_366 (by decide) ?_
  refine lv_iconst (v := 0) hx hb dL_most_367 (by decide) ?_
  refine lv_iconst (v := 0) hx hb dL_most_368 (by decide) ?_
  refine lv_iconst (v := 0) hx hb dL_most_369 (by decide) ?_
  refine H_taxes  hfl hM hE hX hO hl (by decide +kernel) (by decide) (Nat.le_of_ble_eq_true rfl) ⟨Nat.le_of_ble_eq_true rfl, Nat.le_of_ble_eq_true rfl⟩ dL_most_370 (fun L F H locs hX hO => ?_)
  refine lv_if_eq (tgt := 416) hx hb dL_most_373 (by decide) (fun h9 => absurd h9 (show ¬ (1 : Int32) = 0 from (by decide))) (fun _ => ?_)
  refine lv_aload_n hx hb dL_most_376 rfl (lv_at hl 1 rfl) ?_
  refine lv_iconst (v := 2) hx hb dL_most_377 (by decide) ?_
  refine lv_iconst (v := 0) hx hb dL_most_378 (by decide) ?_
  refine lv_iconst (v := 0) hx hb dL_most_379 (by decide) ?_
  refine lv_sipush (v := (-5697)) hx hb dL_most_380 (by decide) ?_
  refine H_taxes  hfl hM hE hX hO hl (by decide +kernel) (by decide) (Nat.le_of_ble_eq_true rfl) ⟨Nat.le_of_ble_eq_true rfl, Nat.le_of_ble_eq_true rfl⟩ dL_most_383 (fun L F H locs hX hO => ?_)
  refine lv_if_eq (tgt := 416) hx hb dL_most_386 (by decide) (fun h9 => absurd h9 (show ¬ (1 : Int32) = 0 from (by decide))) (fun _ => ?_)
  refine lv_aload_n hx hb dL_most_389 rfl (lv_at hl 1 rfl) ?_
  refine lv_iconst (v := 2) hx hb dL_most_390 (by decide) ?_
  refine lv_bipush (v := 33) hx hb dL_most_391 (by decide) ?_
  refine lv_iconst (v := 0) hx hb dL_most_393 (by decide) ?_
  refine lv_sipush (v := (-5697)) hx hb dL_most_394 (by decide) ?_
  refine H_taxes  hfl hM hE hX hO hl (by decide +kernel) (by decide) (Nat.le_of_ble_eq_true rfl) ⟨Nat.le_of_ble_eq_true rfl, Nat.le_of_ble_eq_true rfl⟩ dL_most_397 (fun L F H locs hX hO => ?_)
  refine lv_if_eq (tgt := 416) hx hb dL_most_400 (by decide) (fun h9 => absurd h9 (show ¬ (1 : Int32) = 0 from (by decide))) (fun _ => ?_)
  refine lv_aload_n hx hb dL_most_403 rfl (lv_at hl 1 rfl) ?_
  refine lv_bipush (v := 20) hx hb dL_most_404 (by decide) ?_
  refine H_refuses  hfl hM hE hX hO hl (by decide +kernel) (by decide +kernel) (by decide) (Nat.le_of_ble_eq_true rfl) ⟨Nat.le_of_ble_eq_true rfl, Nat.le_of_ble_eq_true rfl⟩ dL_most_406 (fun L F H locs hX hO => ?_)
  refine lv_if_eq (tgt := 416) hx hb dL_most_409 (by decide) (fun h9 => absurd h9 (show ¬ (1 : Int32) = 0 from (by decide))) (fun _ => ?_)
  refine lv_iconst (v := 1) hx hb dL_most_412 (by decide) ?_
  refine lv_goto (tgt := 417) hx hb dL_most_413 (by decide) ?_
  exact W.widen (k := 2357) (n := 330422) (Nat.le_of_ble_eq_true rfl) (Nat.le_of_ble_eq_true rfl) (kk L F H locs ls hX hO hl)
end FX
