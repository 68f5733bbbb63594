section FX
variable {p : Program} {l : Launch} {e : Env} {R : Room} {s : State} {m : MethodId} {args : Array Value} {below : List Frame} {meth : Method} {c : Code} {H : Heap} {locs : List Loc} {cells slots : Nat} {Q : State → Prop}
variable {cc : ByteArray} {nL : Nat} {ret : Option FieldType} {γ : kG} {A : Nat → Prop} {L : List Nat} {F : kF} {pc : Nat} {ls : Array Slot} {rest : List Value} {o n : Nat} {M M1 : mM} {lv : List (Nat × Value)} {r : Int32}
set_option maxHeartbeats 8000000 in
set_option maxRecDepth 100000 in
theorem mo_0 (hfl : l.stackTraces = false) (hM : kM p s m args meth c cL_most 2 ret "InvoicebridgeLaw") (hE : kE γ A s) (hX : kX γ A s L F H locs) (hO : Ob γ o (mk mo_tb0) 0 L F) (hl : lv_has ls 2 [(0, .ref o)])
    (kk : ∀ (L : List Nat) (F : kF) (H : Heap) (locs : List Loc) (ls : Array Slot), kX γ A s L F H locs → Ob γ o (mk mo_tb6) 6 L F → lv_has ls 2 [(1, .int 1), (0, .ref o)] → W p l e (kRm 11 2357 330422) s m args below meth c H locs 81 10518 Q (F0 m 77 ls [])) : W p l e (kRm 11 2357 330422) s m args below meth c H locs 11 106 Q (F0 m 8 ls []) := by
  have hx := hM.1
  have hb := hM.2.1
  refine lv_iconst (v := 0) hx hb dL_most_8 (by decide) ?_
  refine lv_istore_n (lv' := [(1, .int 0), (0, .ref o)]) hx hb dL_most_9 rfl hl (by decide) rfl (fun ls hl => ?_)
  refine lv_iload_n hx hb dL_most_10 rfl (lv_at hl 0 rfl) ?_
  refine lv_bipush (v := 21) hx hb dL_most_11 (by decide) ?_
  refine lv_icmp_ge (tgt := 124) hx hb dL_most_13 (by decide) (fun h9 => absurd h9 (show ¬ (21 : Int32) ≤ 0 from (by decide))) (fun _ => ?_)
  refine lv_aload_n hx hb dL_most_16 rfl (lv_at hl 1 rfl) ?_
  refine lv_iconst (v := 0) hx hb dL_most_17 (by decide) ?_
  refine lv_iload_n hx hb dL_most_18 rfl (lv_at hl 0 rfl) ?_
  refine lv_bipush (v := 6) hx hb dL_most_19 (by decide) ?_
  refine lv_irem hx hb dL_most_21 (by decide) ?_
  refine lv_is (y := 0) (by decide) ?_
  refine lv_iload_n hx hb dL_most_22 rfl (lv_at hl 0 rfl) ?_
  refine lv_iconst (v := 1) hx hb dL_most_23 (by decide) ?_
  refine lv_iadd hx hb dL_most_24 ?_
  refine lv_is (y := 1) (by decide) ?_
  refine lv_bipush (v := 6) hx hb dL_most_25 (by decide) ?_
  refine lv_irem hx hb dL_most_27 (by decide) ?_
  refine lv_is (y := 1) (by decide) ?_
  refine lv_iload_n hx hb dL_most_28 rfl (lv_at hl 0 rfl) ?_
  refine lv_bipush (v := 8) hx hb dL_most_29 (by decide) ?_
  refine lv_irem hx hb dL_most_31 (by decide) ?_
  refine lv_is (y := 0) (by decide) ?_
  refine lv_sipush (v := 9999) hx hb dL_most_32 (by decide) ?_
  refine lv_bipush (v := 19) hx hb dL_most_35 (by decide) ?_
  refine A_ok_0 hfl hM hE hX hO hl (f_send (r := 0) (by decide +kernel)) (mk_24 _ 0) (by decide) (by decide) ⟨Nat.le_of_ble_eq_true rfl, Nat.le_of_ble_eq_true rfl⟩ dL_most_37 (fun L F H locs hX hO => ?_)
  have hO : Ob γ o (mk mo_tb1) 1 L F := hO
  refine lv_iload_n hx hb dL_most_40 rfl (lv_at hl 0 rfl) ?_
  refine lv_bipush (v := 20) hx hb dL_most_41 (by decide) ?_
  refine lv_icmp_ge (tgt := 50) hx hb dL_most_43 (by decide) (fun h9 => absurd h9 (show ¬ (20 : Int32) ≤ 0 from (by decide))) (fun _ => ?_)
  refine lv_iload_n hx hb dL_most_46 rfl (lv_at hl 0 rfl) ?_
  refine lv_goto (tgt := 52) hx hb dL_most_47 (by decide) ?_
  refine lv_icmp_eq (tgt := 57) hx hb dL_most_52 (by decide) (fun _ => ?_) (fun h9 => absurd (show (0 : Int32) = 0 from (by decide)) h9)
  refine lv_iload_n hx hb dL_most_57 rfl (lv_at hl 0 rfl) ?_
  refine lv_bipush (v := 20) hx hb dL_most_58 (by decide) ?_
  refine lv_icmp_ge (tgt := 118) hx hb dL_most_60 (by decide) (fun h9 => absurd h9 (show ¬ (20 : Int32) ≤ 0 from (by decide))) (fun _ => ?_)
  refine lv_aload_n hx hb dL_most_63 rfl (lv_at hl 1 rfl) ?_
  refine lv_iload_n hx hb dL_most_64 rfl (lv_at hl 0 rfl) ?_
  refine lv_sipush (v := 9999) hx hb dL_most_65 (by decide) ?_
  refine lv_bipush (v := 19) hx hb dL_most_68 (by decide) ?_
  refine O_addLine hfl hM hE hX hO hl (f_addLine (r := 1) (by decide +kernel)) (mk_24 _ 0) (by decide) (Nat.le_of_ble_eq_true rfl) ⟨Nat.le_of_ble_eq_true rfl, Nat.le_of_ble_eq_true rfl⟩ dL_most_70 (fun L F H locs hX hO => ?_)
  have hO : Ob γ o (mk mo_tb2) 2 L F := hO
  refine lv_iconst (v := 1) hx hb dL_most_73 (by decide) ?_
  refine lv_icmp_ne (tgt := 116) hx hb dL_most_74 (by decide) (fun h9 => absurd (show (1 : Int32) = 1 from (by decide)) h9) (fun _ => ?_)
  refine lv_aload_n hx hb dL_most_77 rfl (lv_at hl 1 rfl) ?_
  refine lv_iload_n hx hb dL_most_78 rfl (lv_at hl 0 rfl) ?_
  refine lv_sipush (v := 9999) hx hb dL_most_79 (by decide) ?_
  refine lv_bipush (v := 19) hx hb dL_most_82 (by decide) ?_
  refine O_addLine hfl hM hE hX hO hl (f_addLine (r := 2) (by decide +kernel)) (mk_24 _ 0) (by decide) (Nat.le_of_ble_eq_true rfl) ⟨Nat.le_of_ble_eq_true rfl, Nat.le_of_ble_eq_true rfl⟩ dL_most_84 (fun L F H locs hX hO => ?_)
  have hO : Ob γ o (mk mo_tb3) 3 L F := hO
  refine lv_iconst (v := 2) hx hb dL_most_87 (by decide) ?_
  refine lv_icmp_ne (tgt := 116) hx hb dL_most_88 (by decide) (fun h9 => absurd (show (2 : Int32) = 2 from (by decide)) h9) (fun _ => ?_)
  refine lv_aload_n hx hb dL_most_91 rfl (lv_at hl 1 rfl) ?_
  refine lv_iconst (v := 1) hx hb dL_most_92 (by decide) ?_
  refine lv_iload_n hx hb dL_most_93 rfl (lv_at hl 0 rfl) ?_
  refine lv_iconst (v := 1) hx hb dL_most_94 (by decide) ?_
  refine lv_iconst (v := 0) hx hb dL_most_95 (by decide) ?_
  refine lv_iconst (v := 0) hx hb dL_most_96 (by decide) ?_
  refine lv_iconst (v := 0) hx hb dL_most_97 (by decide) ?_
  refine A_no_1 (q := 3) (v := (-7000003)) hfl hM hE hX hO hl (by simp) (by decide +kernel) (by decide) (by decide) ⟨Nat.le_of_ble_eq_true rfl, Nat.le_of_ble_eq_true rfl⟩ dL_most_98 (fun L F H locs hX hO => ?_)
  refine lv_ldc hx hb hM.2.2.2.1 (hM.2.2.2.2.1 _ k_990) dL_most_101 ?_
  refine lv_icmp_ne (tgt := 116) hx hb dL_most_103 (by decide) (fun h9 => absurd (show ((-7000003) : Int32) = (-7000003) from (by decide)) h9) (fun _ => ?_)
  refine lv_aload_n hx hb dL_most_106 rfl (lv_at hl 1 rfl) ?_
  refine lv_iload_n hx hb dL_most_107 rfl (lv_at hl 0 rfl) ?_
  refine O_accept hfl hM hE hX hO hl (f_accept (r := 35694) (by decide +kernel)) (mk_24 _ 0) (by decide) (Nat.le_of_ble_eq_true rfl) ⟨Nat.le_of_ble_eq_true rfl, Nat.le_of_ble_eq_true rfl⟩ dL_most_108 (fun L F H locs hX hO => ?_)
  have hO : Ob γ o (mk mo_tb4) 4 L F := hO
  refine lv_ldc hx hb hM.2.2.2.1 (hM.2.2.2.2.1 _ k_1046) dL_most_111 ?_
  refine lv_icmp_eq (tgt := 118) hx hb dL_most_113 (by decide) (fun _ => ?_) (fun h9 => absurd (show (35694 : Int32) = 35694 from (by decide)) h9)
  refine lv_iinc (v := 1) (lv' := [(1, .int 1), (0, .ref o)]) hx hb dL_most_118 hl (k := 0) rfl (by decide) (by decide) rfl (fun ls hl => ?_)
  refine lv_goto (tgt := 10) hx hb dL_most_121 (by decide) ?_
  refine lv_iload_n hx hb dL_most_10 rfl (lv_at hl 0 rfl) ?_
  refine lv_bipush (v := 21) hx hb dL_most_11 (by decide) ?_
  refine lv_icmp_ge (tgt := 124) hx hb dL_most_13 (by decide) (fun h9 => absurd h9 (show ¬ (21 : Int32) ≤ 1 from (by decide))) (fun _ => ?_)
  refine lv_aload_n hx hb dL_most_16 rfl (lv_at hl 1 rfl) ?_
  refine lv_iconst (v := 0) hx hb dL_most_17 (by decide) ?_
  refine lv_iload_n hx hb dL_most_18 rfl (lv_at hl 0 rfl) ?_
  refine lv_bipush (v := 6) hx hb dL_most_19 (by decide) ?_
  refine lv_irem hx hb dL_most_21 (by decide) ?_
  refine lv_is (y := 1) (by decide) ?_
  refine lv_iload_n hx hb dL_most_22 rfl (lv_at hl 0 rfl) ?_
  refine lv_iconst (v := 1) hx hb dL_most_23 (by decide) ?_
  refine lv_iadd hx hb dL_most_24 ?_
  refine lv_is (y := 2) (by decide) ?_
  refine lv_bipush (v := 6) hx hb dL_most_25 (by decide) ?_
  refine lv_irem hx hb dL_most_27 (by decide) ?_
  refine lv_is (y := 2) (by decide) ?_
  refine lv_iload_n hx hb dL_most_28 rfl (lv_at hl 0 rfl) ?_
  refine lv_bipush (v := 8) hx hb dL_most_29 (by decide) ?_
  refine lv_irem hx hb dL_most_31 (by decide) ?_
  refine lv_is (y := 1) (by decide) ?_
  refine lv_sipush (v := 9999) hx hb dL_most_32 (by decide) ?_
  refine lv_bipush (v := 19) hx hb dL_most_35 (by decide) ?_
  refine A_ok_0 hfl hM hE hX hO hl (f_send (r := 1) (by decide +kernel)) (mk_24 _ 0) (by decide) (by decide) ⟨Nat.le_of_ble_eq_true rfl, Nat.le_of_ble_eq_true rfl⟩ dL_most_37 (fun L F H locs hX hO => ?_)
  have hO : Ob γ o (mk mo_tb5) 5 L F := hO
  refine lv_iload_n hx hb dL_most_40 rfl (lv_at hl 0 rfl) ?_
  refine lv_bipush (v := 20) hx hb dL_most_41 (by decide) ?_
  refine lv_icmp_ge (tgt := 50) hx hb dL_most_43 (by decide) (fun h9 => absurd h9 (show ¬ (20 : Int32) ≤ 1 from (by decide))) (fun _ => ?_)
  refine lv_iload_n hx hb dL_most_46 rfl (lv_at hl 0 rfl) ?_
  refine lv_goto (tgt := 52) hx hb dL_most_47 (by decide) ?_
  refine lv_icmp_eq (tgt := 57) hx hb dL_most_52 (by decide) (fun _ => ?_) (fun h9 => absurd (show (1 : Int32) = 1 from (by decide)) h9)
  refine lv_iload_n hx hb dL_most_57 rfl (lv_at hl 0 rfl) ?_
  refine lv_bipush (v := 20) hx hb dL_most_58 (by decide) ?_
  refine lv_icmp_ge (tgt := 118) hx hb dL_most_60 (by decide) (fun h9 => absurd h9 (show ¬ (20 : Int32) ≤ 1 from (by decide))) (fun _ => ?_)
  refine lv_aload_n hx hb dL_most_63 rfl (lv_at hl 1 rfl) ?_
  refine lv_iload_n hx hb dL_most_64 rfl (lv_at hl 0 rfl) ?_
  refine lv_sipush (v := 9999) hx hb dL_most_65 (by decide) ?_
  refine lv_bipush (v := 19) hx hb dL_most_68 (by decide) ?_
  refine O_addLine hfl hM hE hX hO hl (f_addLine (r := 1) (by decide +kernel)) (mk_24 _ 0) (by decide) (Nat.le_of_ble_eq_true rfl) ⟨Nat.le_of_ble_eq_true rfl, Nat.le_of_ble_eq_true rfl⟩ dL_most_70 (fun L F H locs hX hO => ?_)
  have hO : Ob γ o (mk mo_tb6) 6 L F := hO
  refine lv_iconst (v := 1) hx hb dL_most_73 (by decide) ?_
  refine lv_icmp_ne (tgt := 116) hx hb dL_most_74 (by decide) (fun h9 => absurd (show (1 : Int32) = 1 from (by decide)) h9) (fun _ => ?_)
  exact W.widen (k := 81) (n := 10518) (Nat.le_of_ble_eq_true rfl) (Nat.le_of_ble_eq_true rfl) (kk L F H locs ls hX hO hl)
set_option maxHeartbeats 8000000 in
set_option maxRecDepth 100000 in
theorem mo_1 (hfl : l.stackTraces = false) (hM : kM p s m args meth c cL_most 2 ret "InvoicebridgeLaw") (hE : kE γ A s) (hX : kX γ A s L F H locs) (hO : Ob γ o (mk mo_tb6) 6 L F) (hl : lv_has ls 2 [(1, .int 1), (0, .ref o)])
    (kk : ∀ (L : List Nat) (F : kF) (H : Heap) (locs : List Loc) (ls : Array Slot), kX γ A s L F H locs → Ob γ o (mk mo_tb11) 11 L F → lv_has ls 2 [(1, .int 2), (0, .ref o)] → W p l e (kRm 11 2357 330422) s m args below meth c H locs 138 19030 Q (F0 m 106 ls [])) : W p l e (kRm 11 2357 330422) s m args below meth c H locs 81 10518 Q (F0 m 77 ls []) := by
  have hx := hM.1
  have hb := hM.2.1
  refine lv_aload_n hx hb dL_most_77 rfl (lv_at hl 1 rfl) ?_
  refine lv_iload_n hx hb dL_most_78 rfl (lv_at hl 0 rfl) ?_
  refine lv_sipush (v := 9999) hx hb dL_most_79 (by decide) ?_
  refine lv_bipush (v := 19) hx hb dL_most_82 (by decide) ?_
  refine O_addLine hfl hM hE hX hO hl (f_addLine (r := 2) (by decide +kernel)) (mk_24 _ 0) (by decide) (Nat.le_of_ble_eq_true rfl) ⟨Nat.le_of_ble_eq_true rfl, Nat.le_of_ble_eq_true rfl⟩ dL_most_84 (fun L F H locs hX hO => ?_)
  have hO : Ob γ o (mk mo_tb7) 7 L F := hO
  refine lv_iconst (v := 2) hx hb dL_most_87 (by decide) ?_
  refine lv_icmp_ne (tgt := 116) hx hb dL_most_88 (by decide) (fun h9 => absurd (show (2 : Int32) = 2 from (by decide)) h9) (fun _ => ?_)
  refine lv_aload_n hx hb dL_most_91 rfl (lv_at hl 1 rfl) ?_
  refine lv_iconst (v := 1) hx hb dL_most_92 (by decide) ?_
  refine lv_iload_n hx hb dL_most_93 rfl (lv_at hl 0 rfl) ?_
  refine lv_iconst (v := 1) hx hb dL_most_94 (by decide) ?_
  refine lv_iconst (v := 0) hx hb dL_most_95 (by decide) ?_
  refine lv_iconst (v := 0) hx hb dL_most_96 (by decide) ?_
  refine lv_iconst (v := 0) hx hb dL_most_97 (by decide) ?_
  refine A_no_1 (q := 3) (v := (-7000003)) hfl hM hE hX hO hl (by simp) (by decide +kernel) (by decide) (by decide) ⟨Nat.le_of_ble_eq_true rfl, Nat.le_of_ble_eq_true rfl⟩ dL_most_98 (fun L F H locs hX hO => ?_)
  refine lv_ldc hx hb hM.2.2.2.1 (hM.2.2.2.2.1 _ k_990) dL_most_101 ?_
  refine lv_icmp_ne (tgt := 116) hx hb dL_most_103 (by decide) (fun h9 => absurd (show ((-7000003) : Int32) = (-7000003) from (by decide)) h9) (fun _ => ?_)
  refine lv_aload_n hx hb dL_most_106 rfl (lv_at hl 1 rfl) ?_
  refine lv_iload_n hx hb dL_most_107 rfl (lv_at hl 0 rfl) ?_
  refine O_accept hfl hM hE hX hO hl (f_accept (r := 35694) (by decide +kernel)) (mk_24 _ 0) (by decide) (Nat.le_of_ble_eq_true rfl) ⟨Nat.le_of_ble_eq_true rfl, Nat.le_of_ble_eq_true rfl⟩ dL_most_108 (fun L F H locs hX hO => ?_)
  have hO : Ob γ o (mk mo_tb8) 8 L F := hO
  refine lv_ldc hx hb hM.2.2.2.1 (hM.2.2.2.2.1 _ k_1046) dL_most_111 ?_
  refine lv_icmp_eq (tgt := 118) hx hb dL_most_113 (by decide) (fun _ => ?_) (fun h9 => absurd (show (35694 : Int32) = 35694 from (by decide)) h9)
  refine lv_iinc (v := 2) (lv' := [(1, .int 2), (0, .ref o)]) hx hb dL_most_118 hl (k := 0) rfl (by decide) (by decide) rfl (fun ls hl => ?_)
  refine lv_goto (tgt := 10) hx hb dL_most_121 (by decide) ?_
  refine lv_iload_n hx hb dL_most_10 rfl (lv_at hl 0 rfl) ?_
  refine lv_bipush (v := 21) hx hb dL_most_11 (by decide) ?_
  refine lv_icmp_ge (tgt := 124) hx hb dL_most_13 (by decide) (fun h9 => absurd h9 (show ¬ (21 : Int32) ≤ 2 from (by decide))) (fun _ => ?_)
  refine lv_aload_n hx hb dL_most_16 rfl (lv_at hl 1 rfl) ?_
  refine lv_iconst (v := 0) hx hb dL_most_17 (by decide) ?_
  refine lv_iload_n hx hb dL_most_18 rfl (lv_at hl 0 rfl) ?_
  refine lv_bipush (v := 6) hx hb dL_most_19 (by decide) ?_
  refine lv_irem hx hb dL_most_21 (by decide) ?_
  refine lv_is (y := 2) (by decide) ?_
  refine lv_iload_n hx hb dL_most_22 rfl (lv_at hl 0 rfl) ?_
  refine lv_iconst (v := 1) hx hb dL_most_23 (by decide) ?_
  refine lv_iadd hx hb dL_most_24 ?_
  refine lv_is (y := 3) (by decide) ?_
  refine lv_bipush (v := 6) hx hb dL_most_25 (by decide) ?_
  refine lv_irem hx hb dL_most_27 (by decide) ?_
  refine lv_is (y := 3) (by decide) ?_
  refine lv_iload_n hx hb dL_most_28 rfl (lv_at hl 0 rfl) ?_
  refine lv_bipush (v := 8) hx hb dL_most_29 (by decide) ?_
  refine lv_irem hx hb dL_most_31 (by decide) ?_
  refine lv_is (y := 2) (by decide) ?_
  refine lv_sipush (v := 9999) hx hb dL_most_32 (by decide) ?_
  refine lv_bipush (v := 19) hx hb dL_most_35 (by decide) ?_
  refine A_ok_0 hfl hM hE hX hO hl (f_send (r := 2) (by decide +kernel)) (mk_24 _ 0) (by decide) (by decide) ⟨Nat.le_of_ble_eq_true rfl, Nat.le_of_ble_eq_true rfl⟩ dL_most_37 (fun L F H locs hX hO => ?_)
  have hO : Ob γ o (mk mo_tb9) 9 L F := hO
  refine lv_iload_n hx hb dL_most_40 rfl (lv_at hl 0 rfl) ?_
  refine lv_bipush (v := 20) hx hb dL_most_41 (by decide) ?_
  refine lv_icmp_ge (tgt := 50) hx hb dL_most_43 (by decide) (fun h9 => absurd h9 (show ¬ (20 : Int32) ≤ 2 from (by decide))) (fun _ => ?_)
  refine lv_iload_n hx hb dL_most_46 rfl (lv_at hl 0 rfl) ?_
  refine lv_goto (tgt := 52) hx hb dL_most_47 (by decide) ?_
  refine lv_icmp_eq (tgt := 57) hx hb dL_most_52 (by decide) (fun _ => ?_) (fun h9 => absurd (show (2 : Int32) = 2 from (by decide)) h9)
  refine lv_iload_n hx hb dL_most_57 rfl (lv_at hl 0 rfl) ?_
  refine lv_bipush (v := 20) hx hb dL_most_58 (by decide) ?_
  refine lv_icmp_ge (tgt := 118) hx hb dL_most_60 (by decide) (fun h9 => absurd h9 (show ¬ (20 : Int32) ≤ 2 from (by decide))) (fun _ => ?_)
  refine lv_aload_n hx hb dL_most_63 rfl (lv_at hl 1 rfl) ?_
  refine lv_iload_n hx hb dL_most_64 rfl (lv_at hl 0 rfl) ?_
  refine lv_sipush (v := 9999) hx hb dL_most_65 (by decide) ?_
  refine lv_bipush (v := 19) hx hb dL_most_68 (by decide) ?_
  refine O_addLine hfl hM hE hX hO hl (f_addLine (r := 1) (by decide +kernel)) (mk_24 _ 0) (by decide) (Nat.le_of_ble_eq_true rfl) ⟨Nat.le_of_ble_eq_true rfl, Nat.le_of_ble_eq_true rfl⟩ dL_most_70 (fun L F H locs hX hO => ?_)
  have hO : Ob γ o (mk mo_tb10) 10 L F := hO
  refine lv_iconst (v := 1) hx hb dL_most_73 (by decide) ?_
  refine lv_icmp_ne (tgt := 116) hx hb dL_most_74 (by decide) (fun h9 => absurd (show (1 : Int32) = 1 from (by decide)) h9) (fun _ => ?_)
  refine lv_aload_n hx hb dL_most_77 rfl (lv_at hl 1 rfl) ?_
  refine lv_iload_n hx hb dL_most_78 rfl (lv_at hl 0 rfl) ?_
  refine lv_sipush (v := 9999) hx hb dL_most_79 (by decide) ?_
  refine lv_bipush (v := 19) hx hb dL_most_82 (by decide) ?_
  refine O_addLine hfl hM hE hX hO hl (f_addLine (r := 2) (by decide +kernel)) (mk_24 _ 0) (by decide) (Nat.le_of_ble_eq_true rfl) ⟨Nat.le_of_ble_eq_true rfl, Nat.le_of_ble_eq_true rfl⟩ dL_most_84 (fun L F H locs hX hO => ?_)
  have hO : Ob γ o (mk mo_tb11) 11 L F := hO
  refine lv_iconst (v := 2) hx hb dL_most_87 (by decide) ?_
  refine lv_icmp_ne (tgt := 116) hx hb dL_most_88 (by decide) (fun h9 => absurd (show (2 : Int32) = 2 from (by decide)) h9) (fun _ => ?_)
  refine lv_aload_n hx hb dL_most_91 rfl (lv_at hl 1 rfl) ?_
  refine lv_iconst (v := 1) hx hb dL_most_92 (by decide) ?_
  refine lv_iload_n hx hb dL_most_93 rfl (lv_at hl 0 rfl) ?_
  refine lv_iconst (v := 1) hx hb dL_most_94 (by decide) ?_
  refine lv_iconst (v := 0) hx hb dL_most_95 (by decide) ?_
  refine lv_iconst (v := 0) hx hb dL_most_96 (by decide) ?_
  refine lv_iconst (v := 0) hx hb dL_most_97 (by decide) ?_
  refine A_no_1 (q := 3) (v := (-7000003)) hfl hM hE hX hO hl (by simp) (by decide +kernel) (by decide) (by decide) ⟨Nat.le_of_ble_eq_true rfl, Nat.le_of_ble_eq_true rfl⟩ dL_most_98 (fun L F H locs hX hO => ?_)
  refine lv_ldc hx hb hM.2.2.2.1 (hM.2.2.2.2.1 _ k_990) dL_most_101 ?_
  refine lv_icmp_ne (tgt := 116) hx hb dL_most_103 (by decide) (fun h9 => absurd (show ((-7000003) : Int32) = (-7000003) from (by decide)) h9) (fun _ => ?_)
  exact W.widen (k := 138) (n := 19030) (Nat.le_of_ble_eq_true rfl) (Nat.le_of_ble_eq_true rfl) (kk L F H locs ls hX hO hl)
set_option maxHeartbeats 8000000 in
set_option maxRecDepth 100000 in
theorem mo_2 (hfl : l.stackTraces = false) (hM : kM p s m args meth c cL_most 2 ret "InvoicebridgeLaw") (hE : kE γ A s) (hX : kX γ A s L F H locs) (hO : Ob γ o (mk mo_tb11) 11 L F) (hl : lv_has ls 2 [(1, .int 2), (0, .ref o)])
    (kk : ∀ (L : List Nat) (F : kF) (H : Heap) (locs : List Loc) (ls : Array Slot), kX γ A s L F H locs → Ob γ o (mk mo_tb17) 17 L F → lv_has ls 2 [(1, .int 4), (0, .ref o)] → W p l e (kRm 11 2357 330422) s m args below meth c H locs 203 28354 Q (F0 m 57 ls [])) : W p l e (kRm 11 2357 330422) s m args below meth c H locs 138 19030 Q (F0 m 106 ls []) := by
  have hx := hM.1
  have hb := hM.2.1
  refine lv_aload_n hx hb dL_most_106 rfl (lv_at hl 1 rfl) ?_
  refine lv_iload_n hx hb dL_most_107 rfl (lv_at hl 0 rfl) ?_
  refine O_accept hfl hM hE hX hO hl (f_accept (r := 35694) (by decide +kernel)) (mk_24 _ 0) (by decide) (Nat.le_of_ble_eq_true rfl) ⟨Nat.le_of_ble_eq_true rfl, Nat.le_of_ble_eq_true rfl⟩ dL_most_108 (fun L F H locs hX hO => ?_)
  have hO : Ob γ o (mk mo_tb12) 12 L F := hO
  refine lv_ldc hx hb hM.2.2.2.1 (hM.2.2.2.2.1 _ k_1046) dL_most_111 ?_
  refine lv_icmp_eq (tgt := 118) hx hb dL_most_113 (by decide) (fun _ => ?_) (fun h9 => absurd (show (35694 : Int32) = 35694 from (by decide)) h9)
  refine lv_iinc (v := 3) (lv' := [(1, .int 3), (0, .ref o)]) hx hb dL_most_118 hl (k := 0) rfl (by decide) (by decide) rfl (fun ls hl => ?_)
  refine lv_goto (tgt := 10) hx hb dL_most_121 (by decide) ?_
  refine lv_iload_n hx hb dL_most_10 rfl (lv_at hl 0 rfl) ?_
  refine lv_bipush (v := 21) hx hb dL_most_11 (by decide) ?_
  refine lv_icmp_ge (tgt := 124) hx hb dL_most_13 (by decide) (fun h9 => absurd h9 (show ¬ (21 : Int32) ≤ 3 from (by decide))) (fun _ => ?_)
  refine lv_aload_n hx hb dL_most_16 rfl (lv_at hl 1 rfl) ?_
  refine lv_iconst (v := 0) hx hb dL_most_17 (by decide) ?_
  refine lv_iload_n hx hb dL_most_18 rfl (lv_at hl 0 rfl) ?_
  refine lv_bipush (v := 6) hx hb dL_most_19 (by decide) ?_
  refine lv_irem hx hb dL_most_21 (by decide) ?_
  refine lv_is (y := 3) (by decide) ?_
  refine lv_iload_n hx hb dL_most_22 rfl (lv_at hl 0 rfl) ?_
  refine lv_iconst (v := 1) hx hb dL_most_23 (by decide) ?_
  refine lv_iadd hx hb dL_most_24 ?_
  refine lv_is (y := 4) (by decide) ?_
  refine lv_bipush (v := 6) hx hb dL_most_25 (by decide) ?_
  refine lv_irem hx hb dL_most_27 (by decide) ?_
  refine lv_is (y := 4) (by decide) ?_
  refine lv_iload_n hx hb dL_most_28 rfl (lv_at hl 0 rfl) ?_
  refine lv_bipush (v := 8) hx hb dL_most_29 (by decide) ?_
  refine lv_irem hx hb dL_most_31 (by decide) ?_
  refine lv_is (y := 3) (by decide) ?_
  refine lv_sipush (v := 9999) hx hb dL_most_32 (by decide) ?_
  refine lv_bipush (v := 19) hx hb dL_most_35 (by decide) ?_
  refine A_ok_0 hfl hM hE hX hO hl (f_send (r := 3) (by decide +kernel)) (mk_24 _ 0) (by decide) (by decide) ⟨Nat.le_of_ble_eq_true rfl, Nat.le_of_ble_eq_true rfl⟩ dL_most_37 (fun L F H locs hX hO => ?_)
  have hO : Ob γ o (mk mo_tb13) 13 L F := hO
  refine lv_iload_n hx hb dL_most_40 rfl (lv_at hl 0 rfl) ?_
  refine lv_bipush (v := 20) hx hb dL_most_41 (by decide) ?_
  refine lv_icmp_ge (tgt := 50) hx hb dL_most_43 (by decide) (fun h9 => absurd h9 (show ¬ (20 : Int32) ≤ 3 from (by decide))) (fun _ => ?_)
  refine lv_iload_n hx hb dL_most_46 rfl (lv_at hl 0 rfl) ?_
  refine lv_goto (tgt := 52) hx hb dL_most_47 (by decide) ?_
  refine lv_icmp_eq (tgt := 57) hx hb dL_most_52 (by decide) (fun _ => ?_) (fun h9 => absurd (show (3 : Int32) = 3 from (by decide)) h9)
  refine lv_iload_n hx hb dL_most_57 rfl (lv_at hl 0 rfl) ?_
  refine lv_bipush (v := 20) hx hb dL_most_58 (by decide) ?_
  refine lv_icmp_ge (tgt := 118) hx hb dL_most_60 (by decide) (fun h9 => absurd h9 (show ¬ (20 : Int32) ≤ 3 from (by decide))) (fun _ => ?_)
  refine lv_aload_n hx hb dL_most_63 rfl (lv_at hl 1 rfl) ?_
  refine lv_iload_n hx hb dL_most_64 rfl (lv_at hl 0 rfl) ?_
  refine lv_sipush (v := 9999) hx hb dL_most_65 (by decide) ?_
  refine lv_bipush (v := 19) hx hb dL_most_68 (by decide) ?_
  refine O_addLine hfl hM hE hX hO hl (f_addLine (r := 1) (by decide +kernel)) (mk_24 _ 0) (by decide) (Nat.le_of_ble_eq_true rfl) ⟨Nat.le_of_ble_eq_true rfl, Nat.le_of_ble_eq_true rfl⟩ dL_most_70 (fun L F H locs hX hO => ?_)
  have hO : Ob γ o (mk mo_tb14) 14 L F := hO
  refine lv_iconst (v := 1) hx hb dL_most_73 (by decide) ?_
  refine lv_icmp_ne (tgt := 116) hx hb dL_most_74 (by decide) (fun h9 => absurd (show (1 : Int32) = 1 from (by decide)) h9) (fun _ => ?_)
  refine lv_aload_n hx hb dL_most_77 rfl (lv_at hl 1 rfl) ?_
  refine lv_iload_n hx hb dL_most_78 rfl (lv_at hl 0 rfl) ?_
  refine lv_sipush (v := 9999) hx hb dL_most_79 (by decide) ?_
  refine lv_bipush (v := 19) hx hb dL_most_82 (by decide) ?_
  refine O_addLine hfl hM hE hX hO hl (f_addLine (r := 2) (by decide +kernel)) (mk_24 _ 0) (by decide) (Nat.le_of_ble_eq_true rfl) ⟨Nat.le_of_ble_eq_true rfl, Nat.le_of_ble_eq_true rfl⟩ dL_most_84 (fun L F H locs hX hO => ?_)
  have hO : Ob γ o (mk mo_tb15) 15 L F := hO
  refine lv_iconst (v := 2) hx hb dL_most_87 (by decide) ?_
  refine lv_icmp_ne (tgt := 116) hx hb dL_most_88 (by decide) (fun h9 => absurd (show (2 : Int32) = 2 from (by decide)) h9) (fun _ => ?_)
  refine lv_aload_n hx hb dL_most_91 rfl (lv_at hl 1 rfl) ?_
  refine lv_iconst (v := 1) hx hb dL_most_92 (by decide) ?_
  refine lv_iload_n hx hb dL_most_93 rfl (lv_at hl 0 rfl) ?_
  refine lv_iconst (v := 1) hx hb dL_most_94 (by decide) ?_
  refine lv_iconst (v := 0) hx hb dL_most_95 (by decide) ?_
  refine lv_iconst (v := 0) hx hb dL_most_96 (by decide) ?_
  refine lv_iconst (v := 0) hx hb dL_most_97 (by decide) ?_
  refine A_no_1 (q := 3) (v := (-7000003)) hfl hM hE hX hO hl (by simp) (by decide +kernel) (by decide) (by decide) ⟨Nat.le_of_ble_eq_true rfl, Nat.le_of_ble_eq_true rfl⟩ dL_most_98 (fun L F H locs hX hO => ?_)
  refine lv_ldc hx hb hM.2.2.2.1 (hM.2.2.2.2.1 _ k_990) dL_most_101 ?_
  refine lv_icmp_ne (tgt := 116) hx hb dL_most_103 (by decide) (fun h9 => absurd (show ((-7000003) : Int32) = (-7000003) from (by decide)) h9) (fun _ => ?_)
  refine lv_aload_n hx hb dL_most_106 rfl (lv_at hl 1 rfl) ?_
  refine lv_iload_n hx hb dL_most_107 rfl (lv_at hl 0 rfl) ?_
  refine O_accept hfl hM hE hX hO hl (f_accept (r := 35694) (by decide +kernel)) (mk_24 _ 0) (by decide) (Nat.le_of_ble_eq_true rfl) ⟨Nat.le_of_ble_eq_true rfl, Nat.le_of_ble_eq_true rfl⟩ dL_most_108 (fun L F H locs hX hO => ?_)
  have hO : Ob γ o (mk mo_tb16) 16 L F := hO
  refine lv_ldc hx hb hM.2.2.2.1 (hM.2.2.2.2.1 _ k_1046) dL_most_111 ?_
  refine lv_icmp_eq (tgt := 118) hx hb dL_most_113 (by decide) (fun _ => ?_) (fun h9 => absurd (show (35694 : Int32) = 35694 from (by decide)) h9)
  refine lv_iinc (v := 4) (lv' := [(1, .int 4), (0, .ref o)]) hx hb dL_most_118 hl (k := 0) rfl (by decide) (by decide) rfl (fun ls hl => ?_)
  refine lv_goto (tgt := 10) hx hb dL_most_121 (by decide) ?_
  refine lv_iload_n hx hb dL_most_10 rfl (lv_at hl 0 rfl) ?_
  refine lv_bipush (v := 21) hx hb dL_most_11 (by decide) ?_
  refine lv_icmp_ge (tgt := 124) hx hb dL_most_13 (by decide) (fun h9 => absurd h9 (show ¬ (21 : Int32) ≤ 4 from (by decide))) (fun _ => ?_)
  refine lv_aload_n hx hb dL_most_16 rfl (lv_at hl 1 rfl) ?_
  refine lv_iconst (v := 0) hx hb dL_most_17 (by decide) ?_
  refine lv_iload_n hx hb dL_most_18 rfl (lv_at hl 0 rfl) ?_
  refine lv_bipush (v := 6) hx hb dL_most_19 (by decide) ?_
  refine lv_irem hx hb dL_most_21 (by decide) ?_
  refine lv_is (y := 4) (by decide) ?_
  refine lv_iload_n hx hb dL_most_22 rfl (lv_at hl 0 rfl) ?_
  refine lv_iconst (v := 1) hx hb dL_most_23 (by decide) ?_
  refine lv_iadd hx hb dL_most_24 ?_
  refine lv_is (y := 5) (by decide) ?_
  refine lv_bipush (v := 6) hx hb dL_most_25 (by decide) ?_
  refine lv_irem hx hb dL_most_27 (by decide) ?_
  refine lv_is (y := 5) (by decide) ?_
  refine lv_iload_n hx hb dL_most_28 rfl (lv_at hl 0 rfl) ?_
  refine lv_bipush (v := 8) hx hb dL_most_29 (by decide) ?_
  refine lv_irem hx hb dL_most_31 (by decide) ?_
  refine lv_is (y := 4) (by decide) ?_
  refine lv_sipush (v := 9999) hx hb dL_most_32 (by decide) ?_
  refine lv_bipush (v := 19) hx hb dL_most_35 (by decide) ?_
  refine A_ok_0 hfl hM hE hX hO hl (f_send (r := 4) (by decide +kernel)) (mk_24 _ 0) (by decide) (by decide) ⟨Nat.le_of_ble_eq_true rfl, Nat.le_of_ble_eq_true rfl⟩ dL_most_37 (fun L F H locs hX hO => ?_)
  have hO : Ob γ o (mk mo_tb17) 17 L F := hO
  refine lv_iload_n hx hb dL_most_40 rfl (lv_at hl 0 rfl) ?_
  refine lv_bipush (v := 20) hx hb dL_most_41 (by decide) ?_
  refine lv_icmp_ge (tgt := 50) hx hb dL_most_43 (by decide) (fun h9 => absurd h9 (show ¬ (20 : Int32) ≤ 4 from (by decide))) (fun _ => ?_)
  refine lv_iload_n hx hb dL_most_46 rfl (lv_at hl 0 rfl) ?_
  refine lv_goto (tgt := 52) hx hb dL_most_47 (by decide) ?_
  refine lv_icmp_eq (tgt := 57) hx hb dL_most_52 (by decide) (fun _ => ?_) (fun h9 => absurd (show (4 : Int32) = 4 from (by decide)) h9)
  exact W.widen (k := 203) (n := 28354) (Nat.le_of_ble_eq_true rfl) (Nat.le_of_ble_eq_true rfl) (kk L F H locs ls hX hO hl)
set_option maxHeartbeats 8000000 in
set_option maxRecDepth 100000 in
theorem mo_3 (hfl : l.stackTraces = false) (hM : kM p s m args meth c cL_most 2 ret "InvoicebridgeLaw") (hE : kE γ A s) (hX : kX γ A s L F H locs) (hO : Ob γ o (mk mo_tb17) 17 L F) (hl : lv_has ls 2 [(1, .int 4), (0, .ref o)])
    (kk : ∀ (L : List Nat) (F : kF) (H : Heap) (locs : List Loc) (ls : Array Slot), kX γ A s L F H locs → Ob γ o (mk mo_tb23) 23 L F → lv_has ls 2 [(1, .int 5), (0, .ref o)] → W p l e (kRm 11 2357 330422) s m args below meth c H locs 260 36866 Q (F0 m 91 ls [])) : W p l e (kRm 11 2357 330422) s m args below meth c H locs 203 28354 Q (F0 m 57 ls []) := by
  have hx := hM.1
  have hb := hM.2.1
  refine lv_iload_n hx hb dL_most_57 rfl (lv_at hl 0 rfl) ?_
  refine lv_bipush (v := 20) hx hb dL_most_58 (by decide) ?_
  refine lv_icmp_ge (tgt := 118) hx hb dL_most_60 (by decide) (fun h9 => absurd h9 (show ¬ (20 : Int32) ≤ 4 from (by decide))) (fun _ => ?_)
  refine lv_aload_n hx hb dL_most_63 rfl (lv_at hl 1 rfl) ?_
  refine lv_iload_n hx hb dL_most_64 rfl (lv_at hl 0 rfl) ?_
  refine lv_sipush (v := 9999) hx hb dL_most_65 (by decide) ?_
  refine lv_bipush (v := 19) hx hb dL_most_68 (by decide) ?_
  refine O_addLine hfl hM hE hX hO hl (f_addLine (r := 1) (by decide +kernel)) (mk_24 _ 0) (by decide) (Nat.le_of_ble_eq_true rfl) ⟨Nat.le_of_ble_eq_true rfl, Nat.le_of_ble_eq_true rfl⟩ dL_most_70 (fun L F H locs hX hO => ?_)
  have hO : Ob γ o (mk mo_tb18) 18 L F := hO
  refine lv_iconst (v := 1) hx hb dL_most_73 (by decide) ?_
  refine lv_icmp_ne (tgt := 116) hx hb dL_most_74 (by decide) (fun h9 => absurd (show (1 : Int32) = 1 from (by decide)) h9) (fun _ => ?_)
  refine lv_aload_n hx hb dL_most_77 rfl (lv_at hl 1 rfl) ?_
  refine lv_iload_n hx hb dL_most_78 rfl (lv_at hl 0 rfl) ?_
  refine lv_sipush (v := 9999) hx hb dL_most_79 (by decide) ?_
  refine lv_bipush (v := 19) hx hb dL_most_82 (by decide) ?_
  refine O_addLine hfl hM hE hX hO hl (f_addLine (r := 2) (by decide +kernel)) (mk_24 _ 0) (by decide) (Nat.le_of_ble_eq_true rfl) ⟨Nat.le_of_ble_eq_true rfl, Nat.le_of_ble_eq_true rfl⟩ dL_most_84 (fun L F H locs hX hO => ?_)
  have hO : Ob γ o (mk mo_tb19) 19 L F := hO
  refine lv_iconst (v := 2) hx hb dL_most_87 (by decide) ?_
  refine lv_icmp_ne (tgt := 116) hx hb dL_most_88 (by decide) (fun h9 => absurd (show (2 : Int32) = 2 from (by decide)) h9) (fun _ => ?_)
  refine lv_aload_n hx hb dL_most_91 rfl (lv_at hl 1 rfl) ?_
  refine lv_iconst (v := 1) hx hb dL_most_92 (by decide) ?_
  refine lv_iload_n hx hb dL_most_93 rfl (lv_at hl 0 rfl) ?_
  refine lv_iconst (v := 1) hx hb dL_most_94 (by decide) ?_
  refine lv_iconst (v := 0) hx hb dL_most_95 (by decide) ?_
  refine lv_iconst (v := 0) hx hb dL_most_96 (by decide) ?_
  refine lv_iconst (v := 0) hx hb dL_most_97 (by decide) ?_
  refine A_no_1 (q := 3) (v := (-7000003)) hfl hM hE hX hO hl (by simp) (by decide +kernel) (by decide) (by decide) ⟨Nat.le_of_ble_eq_true rfl, Nat.le_of_ble_eq_true rfl⟩ dL_most_98 (fun L F H locs hX hO => ?_)
  refine lv_ldc hx hb hM.2.2.2.1 (hM.2.2.2.2.1 _ k_990) dL_most_101 ?_
  refine lv_icmp_ne (tgt := 116) hx hb dL_most_103 (by decide) (fun h9 => absurd (show ((-7000003) : Int32) = (-7000003) from (by decide)) h9) (fun _ => ?_)
  refine lv_aload_n hx hb dL_most_106 rfl (lv_at hl 1 rfl) ?_
  refine lv_iload_n hx hb dL_most_107 rfl (lv_at hl 0 rfl) ?_
  refine O_accept hfl hM hE hX hO hl (f_accept (r := 35694) (by decide +kernel)) (mk_24 _ 0) (by decide) (Nat.le_of_ble_eq_true rfl) ⟨Nat.le_of_ble_eq_true rfl, Nat.le_of_ble_eq_true rfl⟩ dL_most_108 (fun L F H locs hX hO => ?_)
  have hO : Ob γ o (mk mo_tb20) 20 L F := hO
  refine lv_ldc hx hb hM.2.2.2.1 (hM.2.2.2.2.1 _ k_1046) dL_most_111 ?_
  refine lv_icmp_eq (tgt := 118) hx hb dL_most_113 (by decide) (fun _ => ?_) (fun h9 => absurd (show (35694 : Int32) = 35694 from (by decide)) h9)
  refine lv_iinc (v := 5) (lv' := [(1, .int 5), (0, .ref o)]) hx hb dL_most_118 hl (k := 0) rfl (by decide) (by decide) rfl (fun ls hl => ?_)
  refine lv_goto (tgt := 10) hx hb dL_most_121 (by decide) ?_
  refine lv_iload_n hx hb dL_most_10 rfl (lv_at hl 0 rfl) ?_
  refine lv_bipush (v := 21) hx hb dL_most_11 (by decide) ?_
  refine lv_icmp_ge (tgt := 124) hx hb dL_most_13 (by decide) (fun h9 => absurd h9 (show ¬ (21 : Int32) ≤ 5 from (by decide))) (fun _ => ?_)
  refine lv_aload_n hx hb dL_most_16 rfl (lv_at hl 1 rfl) ?_
  refine lv_iconst (v := 0) hx hb dL_most_17 (by decide) ?_
  refine lv_iload_n hx hb dL_most_18 rfl (lv_at hl 0 rfl) ?_
  refine lv_bipush (v := 6) hx hb dL_most_19 (by decide) ?_
  refine lv_irem hx hb dL_most_21 (by decide) ?_
  refine lv_is (y := 5) (by decide) ?_
  refine lv_iload_n hx hb dL_most_22 rfl (lv_at hl 0 rfl) ?_
  refine lv_iconst (v := 1) hx hb dL_most_23 (by decide) ?_
  refine lv_iadd hx hb dL_most_24 ?_
  refine lv_is (y := 6) (by decide) ?_
  refine lv_bipush (v := 6) hx hb dL_most_25 (by decide) ?_
  refine lv_irem hx hb dL_most_27 (by decide) ?_
  refine lv_is (y := 0) (by decide) ?_
  refine lv_iload_n hx hb dL_most_28 rfl (lv_at hl 0 rfl) ?_
  refine lv_bipush (v := 8) hx hb dL_most_29 (by decide) ?_
  refine lv_irem hx hb dL_most_31 (by decide) ?_
  refine lv_is (y := 5) (by decide) ?_
  refine lv_sipush (v := 9999) hx hb dL_most_32 (by decide) ?_
  refine lv_bipush (v := 19) hx hb dL_most_35 (by decide) ?_
  refine A_ok_0 hfl hM hE hX hO hl (f_send (r := 5) (by decide +kernel)) (mk_24 _ 0) (by decide) (by decide) ⟨Nat.le_of_ble_eq_true rfl, Nat.le_of_ble_eq_true rfl⟩ dL_most_37 (fun L F H locs hX hO => ?_)
  have hO : Ob γ o (mk mo_tb21) 21 L F := hO
  refine lv_iload_n hx hb dL_most_40 rfl (lv_at hl 0 rfl) ?_
  refine lv_bipush (v := 20) hx hb dL_most_41 (by decide) ?_
  refine lv_icmp_ge (tgt := 50) hx hb dL_most_43 (by decide) (fun h9 => absurd h9 (show ¬ (20 : Int32) ≤ 5 from (by decide))) (fun _ => ?_)
  refine lv_iload_n hx hb dL_most_46 rfl (lv_at hl 0 rfl) ?_
  refine lv_goto (tgt := 52) hx hb dL_most_47 (by decide) ?_
  refine lv_icmp_eq (tgt := 57) hx hb dL_most_52 (by decide) (fun _ => ?_) (fun h9 => absurd (show (5 : Int32) = 5 from (by decide)) h9)
  refine lv_iload_n hx hb dL_most_57 rfl (lv_at hl 0 rfl) ?_
  refine lv_bipush (v := 20) hx hb dL_most_58 (by decide) ?_
  refine lv_icmp_ge (tgt := 118) hx hb dL_most_60 (by decide) (fun h9 => absurd h9 (show ¬ (20 : Int32) ≤ 5 from (by decide))) (fun _ => ?_)
  refine lv_aload_n hx hb dL_most_63 rfl (lv_at hl 1 rfl) ?_
  refine lv_iload_n hx hb dL_most_64 rfl (lv_at hl 0 rfl) ?_
  refine lv_sipush (v := 9999) hx hb dL_most_65 (by decide) ?_
  refine lv_bipush (v := 19) hx hb dL_most_68 (by decide) ?_
  refine O_addLine hfl hM hE hX hO hl (f_addLine (r := 1) (by decide +kernel)) (mk_24 _ 0) (by decide) (Nat.le_of_ble_eq_true rfl) ⟨Nat.le_of_ble_eq_true rfl, Nat.le_of_ble_eq_true rfl⟩ dL_most_70 (fun L F H locs hX hO => ?_)
  have hO : Ob γ o (mk mo_tb22) 22 L F := hO
  refine lv_iconst (v := 1) hx hb dL_most_73 (by decide) ?_
  refine lv_icmp_ne (tgt := 116) hx hb dL_most_74 (by decide) (fun h9 => absurd (show (1 : Int32) = 1 from (by decide)) h9) (fun _ => ?_)
  refine lv_aload_n hx hb dL_most_77 rfl (lv_at hl 1 rfl) ?_
  refine lv_iload_n hx hb dL_most_78 rfl (lv_at hl 0 rfl) ?_
  refine lv_sipush (v := 9999) hx hb dL_most_79 (by decide) ?_
  refine lv_bipush (v := 19) hx hb dL_most_82 (by decide) ?_
  refine O_addLine hfl hM hE hX hO hl (f_addLine (r := 2) (by decide +kernel)) (mk_24 _ 0) (by decide) (Nat.le_of_ble_eq_true rfl) ⟨Nat.le_of_ble_eq_true rfl, Nat.le_of_ble_eq_true rfl⟩ dL_most_84 (fun L F H locs hX hO => ?_)
  have hO : Ob γ o (mk mo_tb23) 23 L F := hO
  refine lv_iconst (v := 2) hx hb dL_most_87 (by decide) ?_
  refine lv_icmp_ne (tgt := 116) hx hb dL_most_88 (by decide) (fun h9 => absurd (show (2 : Int32) = 2 from (by decide)) h9) (fun _ => ?_)
  exact W.widen (k := 260) (n := 36866) (Nat.le_of_ble_eq_true rfl) (Nat.le_of_ble_eq_true rfl) (kk L F H locs ls hX hO hl)
set_option maxHeartbeats 8000000 in
set_option maxRecDepth 100000 in
theorem mo_4 (hfl : l.stackTraces = false) (hM : kM p s m args meth c cL_most 2 ret "InvoicebridgeLaw") (hE : kE γ A s) (hX : kX γ A s L F H locs) (hO : Ob γ o (mk mo_tb23) 23 L F) (hl : lv_has ls 2 [(1, .int 5), (0, .ref o)])
    (kk : ∀ (L : List Nat) (F : kF) (H : Heap) (locs : List Loc) (ls : Array Slot), kX γ A s L F H locs → Ob γ o (mk mo_tb28) 28 L F → lv_has ls 2 [(1, .int 6), (0, .ref o)] → W p l e (kRm 11 2357 330422) s m args below meth c H locs 312 44290 Q (F0 m 118 ls [])) : W p l e (kRm 11 2357 330422) s m args below meth c H locs 260 36866 Q (F0 m 91 ls []) := by
  have hx := hM.1
  have hb := hM.2.1
  refine lv_aload_n hx hb dL_most_91 rfl (lv_at hl 1 rfl) ?_
  refine lv_iconst (v := 1) hx hb dL_most_92 (by decide) ?_
  refine lv_iload_n hx hb dL_most_93 rfl (lv_at hl 0 rfl) ?_
  refine lv_iconst (v := 1) hx hb dL_most_94 (by decide) ?_
  refine lv_iconst (v := 0) hx hb dL_most_95 (by decide) ?_
  refine lv_iconst (v := 0) hx hb dL_most_96 (by decide) ?_
  refine lv_iconst (v := 0) hx hb dL_most_97 (by decide) ?_
  refine A_no_1 (q := 3) (v := (-7000003)) hfl hM hE hX hO hl (by simp) (by decide +kernel) (by decide) (by decide) ⟨Nat.le_of_ble_eq_true rfl, Nat.le_of_ble_eq_true rfl⟩ dL_most_98 (fun L F H locs hX hO => ?_)
  refine lv_ldc hx hb hM.2.2.2.1 (hM.2.2.2.2.1 _ k_990) dL_most_101 ?_
  refine lv_icmp_ne (tgt := 116) hx hb dL_most_103 (by decide) (fun h9 => absurd (show ((-7000003) : Int32) = (-7000003) from (by decide)) h9) (fun _ => ?_)
  refine lv_aload_n hx hb dL_most_106 rfl (lv_at hl 1 rfl) ?_
  refine lv_iload_n hx hb dL_most_107 rfl (lv_at hl 0 rfl) ?_
  refine O_accept hfl hM hE hX hO hl (f_accept (r := 35694) (by decide +kernel)) (mk_24 _ 0) (by decide) (Nat.le_of_ble_eq_true rfl) ⟨Nat.le_of_ble_eq_true rfl, Nat.le_of_ble_eq_true rfl⟩ dL_most_108 (fun L F H locs hX hO => ?_)
  have hO : Ob γ o (mk mo_tb24) 24 L F := hO
  refine lv_ldc hx hb hM.2.2.2.1 (hM.2.2.2.2.1 _ k_1046) dL_most_111 ?_
  refine lv_icmp_eq (tgt := 118) hx hb dL_most_113 (by decide) (fun _ => ?_) (fun h9 => absurd (show (35694 : Int32) = 35694 from (by decide)) h9)
  refine lv_iinc (v := 6) (lv' := [(1, .int 6), (0, .ref o)]) hx hb dL_most_118 hl (k := 0) rfl (by decide) (by decide) rfl (fun ls hl => ?_)
  refine lv_goto (tgt := 10) hx hb dL_most_121 (by decide) ?_
  refine lv_iload_n hx hb dL_most_10 rfl (lv_at hl 0 rfl) ?_
  refine lv_bipush (v := 21) hx hb dL_most_11 (by decide) ?_
  refine lv_icmp_ge (tgt := 124) hx hb dL_most_13 (by decide) (fun h9 => absurd h9 (show ¬ (21 : Int32) ≤ 6 from (by decide))) (fun _ => ?_)
  refine lv_aload_n hx hb dL_most_16 rfl (lv_at hl 1 rfl) ?_
  refine lv_iconst (v := 0) hx hb dL_most_17 (by decide) ?_
  refine lv_iload_n hx hb dL_most_18 rfl (lv_at hl 0 rfl) ?_
  refine lv_bipush (v := 6) hx hb dL_most_19 (by decide) ?_
  refine lv_irem hx hb dL_most_21 (by decide) ?_
  refine lv_is (y := 0) (by decide) ?_
  refine lv_iload_n hx hb dL_most_22 rfl (lv_at hl 0 rfl) ?_
  refine lv_iconst (v := 1) hx hb dL_most_23 (by decide) ?_
  refine lv_iadd hx hb dL_most_24 ?_
  refine lv_is (y := 7) (by decide) ?_
  refine lv_bipush (v := 6) hx hb dL_most_25 (by decide) ?_
  refine lv_irem hx hb dL_most_27 (by decide) ?_
  refine lv_is (y := 1) (by decide) ?_
  refine lv_iload_n hx hb dL_most_28 rfl (lv_at hl 0 rfl) ?_
  refine lv_bipush (v := 8) hx hb dL_most_29 (by decide) ?_
  refine lv_irem hx hb dL_most_31 (by decide) ?_
  refine lv_is (y := 6) (by decide) ?_
  refine lv_sipush (v := 9999) hx hb dL_most_32 (by decide) ?_
  refine lv_bipush (v := 19) hx hb dL_most_35 (by decide) ?_
  refine A_ok_0 hfl hM hE hX hO hl (f_send (r := 6) (by decide +kernel)) (mk_24 _ 0) (by decide) (by decide) ⟨Nat.le_of_ble_eq_true rfl, Nat.le_of_ble_eq_true rfl⟩ dL_most_37 (fun L F H locs hX hO => ?_)
  have hO : Ob γ o (mk mo_tb25) 25 L F := hO
  refine lv_iload_n hx hb dL_most_40 rfl (lv_at hl 0 rfl) ?_
  refine lv_bipush (v := 20) hx hb dL_most_41 (by decide) ?_
  refine lv_icmp_ge (tgt := 50) hx hb dL_most_43 (by decide) (fun h9 => absurd h9 (show ¬ (20 : Int32) ≤ 6 from (by decide))) (fun _ => ?_)
  refine lv_iload_n hx hb dL_most_46 rfl (lv_at hl 0 rfl) ?_
  refine lv_goto (tgt := 52) hx hb dL_most_47 (by decide) ?_
  refine lv_icmp_eq (tgt := 57) hx hb dL_most_52 (by decide) (fun _ => ?_) (fun h9 => absurd (show (6 : Int32) = 6 from (by decide)) h9)
  refine lv_iload_n hx hb dL_most_57 rfl (lv_at hl 0 rfl) ?_
  refine lv_bipush (v := 20) hx hb dL_most_58 (by decide) ?_
  refine lv_icmp_ge (tgt := 118) hx hb dL_most_60 (by decide) (fun h9 => absurd h9 (show ¬ (20 : Int32) ≤ 6 from (by decide))) (fun _ => ?_)
  refine lv_aload_n hx hb dL_most_63 rfl (lv_at hl 1 rfl) ?_
  refine lv_iload_n hx hb dL_most_64 rfl (lv_at hl 0 rfl) ?_
  refine lv_sipush (v := 9999) hx hb dL_most_65 (by decide) ?_
  refine lv_bipush (v := 19) hx hb dL_most_68 (by decide) ?_
  refine O_addLine hfl hM hE hX hO hl (f_addLine (r := 1) (by decide +kernel)) (mk_24 _ 0) (by decide) (Nat.le_of_ble_eq_true rfl) ⟨Nat.le_of_ble_eq_true rfl, Nat.le_of_ble_eq_true rfl⟩ dL_most_70 (fun L F H locs hX hO => ?_)
  have hO : Ob γ o (mk mo_tb26) 26 L F := hO
  refine lv_iconst (v := 1) hx hb dL_most_73 (by decide) ?_
  refine lv_icmp_ne (tgt := 116) hx hb dL_most_74 (by decide) (fun h9 => absurd (show (1 : Int32) = 1 from (by decide)) h9) (fun _ => ?_)
  refine lv_aload_n hx hb dL_most_77 rfl (lv_at hl 1 rfl) ?_
  refine lv_iload_n hx hb dL_most_78 rfl (lv_at hl 0 rfl) ?_
  refine lv_sipush (v := 9999) hx hb dL_most_79 (by decide) ?_
  refine lv_bipush (v := 19) hx hb dL_most_82 (by decide) ?_
  refine O_addLine hfl hM hE hX hO hl (f_addLine (r := 2) (by decide +kernel)) (mk_24 _ 0) (by decide) (Nat.le_of_ble_eq_true rfl) ⟨Nat.le_of_ble_eq_true rfl, Nat.le_of_ble_eq_true rfl⟩ dL_most_84 (fun L F H locs hX hO => ?_)
  have hO : Ob γ o (mk mo_tb27) 27 L F := hO
  refine lv_iconst (v := 2) hx hb dL_most_87 (by decide) ?_
  refine lv_icmp_ne (tgt := 116) hx hb dL_most_88 (by decide) (fun h9 => absurd (show (2 : Int32) = 2 from (by decide)) h9) (fun _ => ?_)
  refine lv_aload_n hx hb dL_most_91 rfl (lv_at hl 1 rfl) ?_
  refine lv_iconst (v := 1) hx hb dL_most_92 (by decide) ?_
  refine lv_iload_n hx hb dL_most_93 rfl (lv_at hl 0 rfl) ?_
  refine lv_iconst (v := 1) hx hb dL_most_94 (by decide) ?_
  refine lv_iconst (v := 0) hx hb dL_most_95 (by decide) ?_
  refine lv_iconst (v := 0) hx hb dL_most_96 (by decide) ?_
  refine lv_iconst (v := 0) hx hb dL_most_97 (by decide) ?_
  refine A_no_1 (q := 3) (v := (-7000003)) hfl hM hE hX hO hl (by simp) (by decide +kernel) (by decide) (by decide) ⟨Nat.le_of_ble_eq_true rfl, Nat.le_of_ble_eq_true rfl⟩ dL_most_98 (fun L F H locs hX hO => ?_)
  refine lv_ldc hx hb hM.2.2.2.1 (hM.2.2.2.2.1 _ k_990) dL_most_101 ?_
  refine lv_icmp_ne (tgt := 116) hx hb dL_most_103 (by decide) (fun h9 => absurd (show ((-7000003) : Int32) = (-7000003) from (by decide)) h9) (fun _ => ?_)
  refine lv_aload_n hx hb dL_most_106 rfl (lv_at hl 1 rfl) ?_
  refine lv_iload_n hx hb dL_most_107 rfl (lv_at hl 0 rfl) ?_
  refine O_accept hfl hM hE hX hO hl (f_accept (r := 35694) (by decide +kernel)) (mk_24 _ 0) (by decide) (Nat.le_of_ble_eq_true rfl) ⟨Nat.le_of_ble_eq_true rfl, Nat.le_of_ble_eq_true rfl⟩ dL_most_108 (fun L F H locs hX hO => ?_)
  have hO : Ob γ o (mk mo_tb28) 28 L F := hO
  refine lv_ldc hx hb hM.2.2.2.1 (hM.2.2.2.2.1 _ k_1046) dL_most_111 ?_
  refine lv_icmp_eq (tgt := 118) hx hb dL_most_113 (by decide) (fun _ => ?_) (fun h9 => absurd (show (35694 : Int32) = 35694 from (by decide)) h9)
  exact W.widen (k := 312) (n := 44290) (Nat.le_of_ble_eq_true rfl) (Nat.le_of_ble_eq_true rfl) (kk L F H locs ls hX hO hl)
set_option maxHeartbeats 8000000 in
set_option maxRecDepth 100000 in
theorem mo_5 (hfl : l.stackTraces = false) (hM : kM p s m args meth c cL_most 2 ret "InvoicebridgeLaw") (hE : kE γ A s) (hX : kX γ A s L F H locs) (hO : Ob γ o (mk mo_tb28) 28 L F) (hl : lv_has ls 2 [(1, .int 6), (0, .ref o)])
    (kk : ∀ (L : List Nat) (F : kF) (H : Heap) (locs : List Loc) (ls : Array Slot), kX γ A s L F H locs → Ob γ o (mk mo_tb34) 34 L F → lv_has ls 2 [(1, .int 8), (0, .ref o)] → W p l e (kRm 11 2357 330422) s m args below meth c H locs 382 54702 Q (F0 m 77 ls [])) : W p l e (kRm 11 2357 330422) s m args below meth c H locs 312 44290 Q (F0 m 118 ls []) := by
  have hx := hM.1
  have hb := hM.2.1
  refine lv_iinc (v := 7) (lv' := [(1, .int 7), (0, .ref o)]) hx hb dL_most_118 hl (k := 0) rfl (by decide) (by decide) rfl (fun ls hl => ?_)
  refine lv_goto (tgt := 10) hx hb dL_most_121 (by decide) ?_
  refine lv_iload_n hx hb dL_most_10 rfl (lv_at hl 0 rfl) ?_
  refine lv_bipush (v := 21) hx hb dL_most_11 (by decide) ?_
  refine lv_icmp_ge (tgt := 124) hx hb dL_most_13 (by decide) (fun h9 => absurd h9 (show ¬ (21 : Int32) ≤ 7 from (by decide))) (fun _ => ?_)
  refine lv_aload_n hx hb dL_most_16 rfl (lv_at hl 1 rfl) ?_
  refine lv_iconst (v := 0) hx hb dL_most_17 (by decide) ?_
  refine lv_iload_n hx hb dL_most_18 rfl (lv_at hl 0 rfl) ?_
  refine lv_bipush (v := 6) hx hb dL_most_19 (by decide) ?_
  refine lv_irem hx hb dL_most_21 (by decide) ?_
  refine lv_is (y := 1) (by decide) ?_
  refine lv_iload_n hx hb dL_most_22 rfl (lv_at hl 0 rfl) ?_
  refine lv_iconst (v := 1) hx hb dL_most_23 (by decide) ?_
  refine lv_iadd hx hb dL_most_24 ?_
  refine lv_is (y := 8) (by decide) ?_
  refine lv_bipush (v := 6) hx hb dL_most_25 (by decide) ?_
  refine lv_irem hx hb dL_most_27 (by decide) ?_
  refine lv_is (y := 2) (by decide) ?_
  refine lv_iload_n hx hb dL_most_28 rfl (lv_at hl 0 rfl) ?_
  refine lv_bipush (v := 8) hx hb dL_most_29 (by decide) ?_
  refine lv_irem hx hb dL_most_31 (by decide) ?_
  refine lv_is (y := 7) (by decide) ?_
  refine lv_sipush (v := 9999) hx hb dL_most_32 (by decide) ?_
  refine lv_bipush (v := 19) hx hb dL_most_35 (by decide) ?_
  refine A_ok_0 hfl hM hE hX hO hl (f_send (r := 7) (by decide +kernel)) (mk_24 _ 0) (by decide) (by decide) ⟨Nat.le_of_ble_eq_true rfl, Nat.le_of_ble_eq_true rfl⟩ dL_most_37 (fun L F H locs hX hO => ?_)
  have hO : Ob γ o (mk mo_tb29) 29 L F := hO
  refine lv_iload_n hx hb dL_most_40 rfl (lv_at hl 0 rfl) ?_
  refine lv_bipush (v := 20) hx hb dL_most_41 (by decide) ?_
  refine lv_icmp_ge (tgt := 50) hx hb dL_most_43 (by decide) (fun h9 => absurd h9 (show ¬ (20 : Int32) ≤ 7 from (by decide))) (fun _ => ?_)
  refine lv_iload_n hx hb dL_most_46 rfl (lv_at hl 0 rfl) ?_
  refine lv_goto (tgt := 52) hx hb dL_most_47 (by decide) ?_
  refine lv_icmp_eq (tgt := 57) hx hb dL_most_52 (by decide) (fun _ => ?_) (fun h9 => absurd (show (7 : Int32) = 7 from (by decide)) h9)
  refine lv_iload_n hx hb dL_most_57 rfl (lv_at hl 0 rfl) ?_
  refine lv_bipush (v := 20) hx hb dL_most_58 (by decide) ?_
  refine lv_icmp_ge (tgt := 118) hx hb dL_most_60 (by decide) (fun h9 => absurd h9 (show ¬ (20 : Int32) ≤ 7 from (by decide))) (fun _ => ?_)
  refine lv_aload_n hx hb dL_most_63 rfl (lv_at hl 1 rfl) ?_
  refine lv_iload_n hx hb dL_most_64 rfl (lv_at hl 0 rfl) ?_
  refine lv_sipush (v := 9999) hx hb dL_most_65 (by decide) ?_
  refine lv_bipush (v := 19) hx hb dL_most_68 (by decide) ?_
  refine O_addLine hfl hM hE hX hO hl (f_addLine (r := 1) (by decide +kernel)) (mk_24 _ 0) (by decide) (Nat.le_of_ble_eq_true rfl) ⟨Nat.le_of_ble_eq_true rfl, Nat.le_of_ble_eq_true rfl⟩ dL_most_70 (fun L F H locs hX hO => ?_)
  have hO : Ob γ o (mk mo_tb30) 30 L F := hO
  refine lv_iconst (v := 1) hx hb dL_most_73 (by decide) ?_
  refine lv_icmp_ne (tgt := 116) hx hb dL_most_74 (by decide) (fun h9 => absurd (show (1 : Int32) = 1 from (by decide)) h9) (fun _ => ?_)
  refine lv_aload_n hx hb dL_most_77 rfl (lv_at hl 1 rfl) ?_
  refine lv_iload_n hx hb dL_most_78 rfl (lv_at hl 0 rfl) ?_
  refine lv_sipush (v := 9999) hx hb dL_most_79 (by decide) ?_
  refine lv_bipush (v := 19) hx hb dL_most_82 (by decide) ?_
  refine O_addLine hfl hM hE hX hO hl (f_addLine (r := 2) (by decide +kernel)) (mk_24 _ 0) (by decide) (Nat.le_of_ble_eq_true rfl) ⟨Nat.le_of_ble_eq_true rfl, Nat.le_of_ble_eq_true rfl⟩ dL_most_84 (fun L F H locs hX hO => ?_)
  have hO : Ob γ o (mk mo_tb31) 31 L F := hO
  refine lv_iconst (v := 2) hx hb dL_most_87 (by decide) ?_
  refine lv_icmp_ne (tgt := 116) hx hb dL_most_88 (by decide) (fun h9 => absurd (show (2 : Int32) = 2 from (by decide)) h9) (fun _ => ?_)
  refine lv_aload_n hx hb dL_most_91 rfl (lv_at hl 1 rfl) ?_
  refine lv_iconst (v := 1) hx hb dL_most_92 (by decide) ?_
  refine lv_iload_n hx hb dL_most_93 rfl (lv_at hl 0 rfl) ?_
  refine lv_iconst (v := 1) hx hb dL_most_94 (by decide) ?_
  refine lv_iconst (v := 0) hx hb dL_most_95 (by decide) ?_
  refine lv_iconst (v := 0) hx hb dL_most_96 (by decide) ?_
  refine lv_iconst (v := 0) hx hb dL_most_97 (by decide) ?_
  refine A_no_1 (q := 3) (v := (-7000003)) hfl hM hE hX hO hl (by simp) (by decide +kernel) (by decide) (by decide) ⟨Nat.le_of_ble_eq_true rfl, Nat.le_of_ble_eq_true rfl⟩ dL_most_98 (fun L F H locs hX hO => ?_)
  refine lv_ldc hx hb hM.2.2.2.1 (hM.2.2.2.2.1 _ k_990) dL_most_101 ?_
  refine lv_icmp_ne (tgt := 116) hx hb dL_most_103 (by decide) (fun h9 => absurd (show ((-7000003) : Int32) = (-7000003) from (by decide)) h9) (fun _ => ?_)
  refine lv_aload_n hx hb dL_most_106 rfl (lv_at hl 1 rfl) ?_
  refine lv_iload_n hx hb dL_most_107 rfl (lv_at hl 0 rfl) ?_
  refine O_accept hfl hM hE hX hO hl (f_accept (r := 35694) (by decide +kernel)) (mk_24 _ 0) (by decide) (Nat.le_of_ble_eq_true rfl) ⟨Nat.le_of_ble_eq_true rfl, Nat.le_of_ble_eq_true rfl⟩ dL_most_108 (fun L F H locs hX hO => ?_)
  have hO : Ob γ o (mk mo_tb32) 32 L F := hO
  refine lv_ldc hx hb hM.2.2.2.1 (hM.2.2.2.2.1 _ k_1046) dL_most_111 ?_
  refine lv_icmp_eq (tgt := 118) hx hb dL_most_113 (by decide) (fun _ => ?_) (fun h9 => absurd (show (35694 : Int32) = 35694 from (by decide)) h9)
  refine lv_iinc (v := 8) (lv' := [(1, .int 8), (0, .ref o)]) hx hb dL_most_118 hl (k := 0) rfl (by decide) (by decide) rfl (fun ls hl => ?_)
  refine lv_goto (tgt := 10) hx hb dL_most_121 (by decide) ?_
  refine lv_iload_n hx hb dL_most_10 rfl (lv_at hl 0 rfl) ?_
  refine lv_bipush (v := 21) hx hb dL_most_11 (by decide) ?_
  refine lv_icmp_ge (tgt := 124) hx hb dL_most_13 (by decide) (fun h9 => absurd h9 (show ¬ (21 : Int32) ≤ 8 from (by decide))) (fun _ => ?_)
  refine lv_aload_n hx hb dL_most_16 rfl (lv_at hl 1 rfl) ?_
  refine lv_iconst (v := 0) hx hb dL_most_17 (by decide) ?_
  refine lv_iload_n hx hb dL_most_18 rfl (lv_at hl 0 rfl) ?_
  refine lv_bipush (v := 6) hx hb dL_most_19 (by decide) ?_
  refine lv_irem hx hb dL_most_21 (by decide) ?_
  refine lv_is (y := 2) (by decide) ?_
  refine lv_iload_n hx hb dL_most_22 rfl (lv_at hl 0 rfl) ?_
  refine lv_iconst (v := 1) hx hb dL_most_23 (by decide) ?_
  refine lv_iadd hx hb dL_most_24 ?_
  refine lv_is (y := 9) (by decide) ?_
  refine lv_bipush (v := 6) hx hb dL_most_25 (by decide) ?_
  refine lv_irem hx hb dL_most_27 (by decide) ?_
  refine lv_is (y := 3) (by decide) ?_
  refine lv_iload_n hx hb dL_most_28 rfl (lv_at hl 0 rfl) ?_
  refine lv_bipush (v := 8) hx hb dL_most_29 (by decide) ?_
  refine lv_irem hx hb dL_most_31 (by decide) ?_
  refine lv_is (y := 0) (by decide) ?_
  refine lv_sipush (v := 9999) hx hb dL_most_32 (by decide) ?_
  refine lv_bipush (v := 19) hx hb dL_most_35 (by decide) ?_
  refine A_ok_0 hfl hM hE hX hO hl (f_send (r := 8) (by decide +kernel)) (mk_24 _ 0) (by decide) (by decide) ⟨Nat.le_of_ble_eq_true rfl, Nat.le_of_ble_eq_true rfl⟩ dL_most_37 (fun L F H locs hX hO => ?_)
  have hO : Ob γ o (mk mo_tb33) 33 L F := hO
  refine lv_iload_n hx hb dL_most_40 rfl (lv_at hl 0 rfl) ?_
  refine lv_bipush (v := 20) hx hb dL_most_41 (by decide) ?_
  refine lv_icmp_ge (tgt := 50) hx hb dL_most_43 (by decide) (fun h9 => absurd h9 (show ¬ (20 : Int32) ≤ 8 from (by decide))) (fun _ => ?_)
  refine lv_iload_n hx hb dL_most_46 rfl (lv_at hl 0 rfl) ?_
  refine lv_goto (tgt := 52) hx hb dL_most_47 (by decide) ?_
  refine lv_icmp_eq (tgt := 57) hx hb dL_most_52 (by decide) (fun _ => ?_) (fun h9 => absurd (show (8 : Int32) = 8 from (by decide)) h9)
  refine lv_iload_n hx hb dL_most_57 rfl (lv_at hl 0 rfl) ?_
  refine lv_bipush (v := 20) hx hb dL_most_58 (by decide) ?_
  refine lv_icmp_ge (tgt := 118) hx hb dL_most_60 (by decide) (fun h9 => absurd h9 (show ¬ (20 : Int32) ≤ 8 from (by decide))) (fun _ => ?_)
  refine lv_aload_n hx hb dL_most_63 rfl (lv_at hl 1 rfl) ?_
  refine lv_iload_n hx hb dL_most_64 rfl (lv_at hl 0 rfl) ?_
  refine lv_sipush (v := 9999) hx hb dL_most_65 (by decide) ?_
  refine lv_bipush (v := 19) hx hb dL_most_68 (by decide) ?_
  refine O_addLine hfl hM hE hX hO hl (f_addLine (r := 1) (by decide +kernel)) (mk_24 _ 0) (by decide) (Nat.le_of_ble_eq_true rfl) ⟨Nat.le_of_ble_eq_true rfl, Nat.le_of_ble_eq_true rfl⟩ dL_most_70 (fun L F H locs hX hO => ?_)
  have hO : Ob γ o (mk mo_tb34) 34 L F := hO
  refine lv_iconst (v := 1) hx hb dL_most_73 (by decide) ?_
  refine lv_icmp_ne (tgt := 116) hx hb dL_most_74 (by decide) (fun h9 => absurd (show (1 : Int32) = 1 from (by decide)) h9) (fun _ => ?_)
  exact W.widen (k := 382) (n := 54702) (Nat.le_of_ble_eq_true rfl) (Nat.le_of_ble_eq_true rfl) (kk L F H locs ls hX hO hl)
set_option maxHeartbeats 8000000 in
set_option maxRecDepth 100000 in
theorem mo_6 (hfl : l.stackTraces = false) (hM : kM p s m args meth c cL_most 2 ret "InvoicebridgeLaw") (hE : kE γ A s) (hX : kX γ A s L F H locs) (hO : Ob γ o (mk mo_tb34) 34 L F) (hl : lv_has ls 2 [(1, .int 8), (0, .ref o)])
    (kk : ∀ (L : List Nat) (F : kF) (H : Heap) (locs : List Loc) (ls : Array Slot), kX γ A s L F H locs → Ob γ o (mk mo_tb39) 39 L F → lv_has ls 2 [(1, .int 9), (0, .ref o)] → W p l e (kRm 11 2357 330422) s m args below meth c H locs 439 63214 Q (F0 m 106 ls [])) : W p l e (kRm 11 2357 330422) s m args below meth c H locs 382 54702 Q (F0 m 77 ls []) := by
  have hx := hM.1
  have hb := hM.2.1
  refine lv_aload_n hx hb dL_most_77 rfl (lv_at hl 1 rfl) ?_
  refine lv_iload_n hx hb dL_most_78 rfl (lv_at hl 0 rfl) ?_
  refine lv_sipush (v := 9999) hx hb dL_most_79 (by decide) ?_
  refine lv_bipush (v := 19) hx hb dL_most_82 (by decide) ?_
  refine O_addLine hfl hM hE hX hO hl (f_addLine (r := 2) (by decide +kernel)) (mk_24 _ 0) (by decide) (Nat.le_of_ble_eq_true rfl) ⟨Nat.le_of_ble_eq_true rfl, Nat.le_of_ble_eq_true rfl⟩ dL_most_84 (fun L F H locs hX hO => ?_)
  have hO : Ob γ o (mk mo_tb35) 35 L F := hO
  refine lv_iconst (v := 2) hx hb dL_most_87 (by decide) ?_
  refine lv_icmp_ne (tgt := 116) hx hb dL_most_88 (by decide) (fun h9 => absurd (show (2 : Int32) = 2 from (by decide)) h9) (fun _ => ?_)
  refine lv_aload_n hx hb dL_most_91 rfl (lv_at hl 1 rfl) ?_
  refine lv_iconst (v := 1) hx hb dL_most_92 (by decide) ?_
  refine lv_iload_n hx hb dL_most_93 rfl (lv_at hl 0 rfl) ?_
  refine lv_iconst (v := 1) hx hb dL_most_94 (by decide) ?_
  refine lv_iconst (v := 0) hx hb dL_most_95 (by decide) ?_
  refine lv_iconst (v := 0) hx hb dL_most_96 (by decide) ?_
  refine lv_iconst (v := 0) hx hb dL_most_97 (by decide) ?_
  refine A_no_1 (q := 3) (v := (-7000003)) hfl hM hE hX hO hl (by simp) (by decide +kernel) (by decide) (by decide) ⟨Nat.le_of_ble_eq_true rfl, Nat.le_of_ble_eq_true rfl⟩ dL_most_98 (fun L F H locs hX hO => ?_)
  refine lv_ldc hx hb hM.2.2.2.1 (hM.2.2.2.2.1 _ k_990) dL_most_101 ?_
  refine lv_icmp_ne (tgt := 116) hx hb dL_most_103 (by decide) (fun h9 => absurd (show ((-7000003) : Int32) = (-7000003) from (by decide)) h9) (fun _ => ?_)
  refine lv_aload_n hx hb dL_most_106 rfl (lv_at hl 1 rfl) ?_
  refine lv_iload_n hx hb dL_most_107 rfl (lv_at hl 0 rfl) ?_
  refine O_accept hfl hM hE hX hO hl (f_accept (r := 35694) (by decide +kernel)) (mk_24 _ 0) (by decide) (Nat.le_of_ble_eq_true rfl) ⟨Nat.le_of_ble_eq_true rfl, Nat.le_of_ble_eq_true rfl⟩ dL_most_108 (fun L F H locs hX hO => ?_)
  have hO : Ob γ o (mk mo_tb36) 36 L F := hO
  refine lv_ldc hx hb hM.2.2.2.1 (hM.2.2.2.2.1 _ k_1046) dL_most_111 ?_
  refine lv_icmp_eq (tgt := 118) hx hb dL_most_113 (by decide) (fun _ => ?_) (fun h9 => absurd (show (35694 : Int32) = 35694 from (by decide)) h9)
  refine lv_iinc (v := 9) (lv' := [(1, .int 9), (0, .ref o)]) hx hb dL_most_118 hl (k := 0) rfl (by decide) (by decide) rfl (fun ls hl => ?_)
  refine lv_goto (tgt := 10) hx hb dL_most_121 (by decide) ?_
  refine lv_iload_n hx hb dL_most_10 rfl (lv_at hl 0 rfl) ?_
  refine lv_bipush (v := 21) hx hb dL_most_11 (by decide) ?_
  refine lv_icmp_ge (tgt := 124) hx hb dL_most_13 (by decide) (fun h9 => absurd h9 (show ¬ (21 : Int32) ≤ 9 from (by decide))) (fun _ => ?_)
  refine lv_aload_n hx hb dL_most_16 rfl (lv_at hl 1 rfl) ?_
  refine lv_iconst (v := 0) hx hb dL_most_17 (by decide) ?_
  refine lv_iload_n hx hb dL_most_18 rfl (lv_at hl 0 rfl) ?_
  refine lv_bipush (v := 6) hx hb dL_most_19 (by decide) ?_
  refine lv_irem hx hb dL_most_21 (by decide) ?_
  refine lv_is (y := 3) (by decide) ?_
  refine lv_iload_n hx hb dL_most_22 rfl (lv_at hl 0 rfl) ?_
  refine lv_iconst (v := 1) hx hb dL_most_23 (by decide) ?_
  refine lv_iadd hx hb dL_most_24 ?_
  refine lv_is (y := 10) (by decide) ?_
  refine lv_bipush (v := 6) hx hb dL_most_25 (by decide) ?_
  refine lv_irem hx hb dL_most_27 (by decide) ?_
  refine lv_is (y := 4) (by decide) ?_
  refine lv_iload_n hx hb dL_most_28 rfl (lv_at hl 0 rfl) ?_
  refine lv_bipush (v := 8) hx hb dL_most_29 (by decide) ?_
  refine lv_irem hx hb dL_most_31 (by decide) ?_
  refine lv_is (y := 1) (by decide) ?_
  refine lv_sipush (v := 9999) hx hb dL_most_32 (by decide) ?_
  refine lv_bipush (v := 19) hx hb dL_most_35 (by decide) ?_
  refine A_ok_0 hfl hM hE hX hO hl (f_send (r := 9) (by decide +kernel)) (mk_24 _ 0) (by decide) (by decide) ⟨Nat.le_of_ble_eq_true rfl, Nat.le_of_ble_eq_true rfl⟩ dL_most_37 (fun L F H locs hX hO => ?_)
  have hO : Ob γ o (mk mo_tb37) 37 L F := hO
  refine lv_iload_n hx hb dL_most_40 rfl (lv_at hl 0 rfl) ?_
  refine lv_bipush (v := 20) hx hb dL_most_41 (by decide) ?_
  refine lv_icmp_ge (tgt := 50) hx hb dL_most_43 (by decide) (fun h9 => absurd h9 (show ¬ (20 : Int32) ≤ 9 from (by decide))) (fun _ => ?_)
  refine lv_iload_n hx hb dL_most_46 rfl (lv_at hl 0 rfl) ?_
  refine lv_goto (tgt := 52) hx hb dL_most_47 (by decide) ?_
  refine lv_icmp_eq (tgt := 57) hx hb dL_most_52 (by decide) (fun _ => ?_) (fun h9 => absurd (show (9 : Int32) = 9 from (by decide)) h9)
  refine lv_iload_n hx hb dL_most_57 rfl (lv_at hl 0 rfl) ?_
  refine lv_bipush (v := 20) hx hb dL_most_58 (by decide) ?_
  refine lv_icmp_ge (tgt := 118) hx hb dL_most_60 (by decide) (fun h9 => absurd h9 (show ¬ (20 : Int32) ≤ 9 from (by decide))) (fun _ => ?_)
  refine lv_aload_n hx hb dL_most_63 rfl (lv_at hl 1 rfl) ?_
  refine lv_iload_n hx hb dL_most_64 rfl (lv_at hl 0 rfl) ?_
  refine lv_sipush (v := 9999) hx hb dL_most_65 (by decide) ?_
  refine lv_bipush (v := 19) hx hb dL_most_68 (by decide) ?_
  refine O_addLine hfl hM hE hX hO hl (f_addLine (r := 1) (by decide +kernel)) (mk_24 _ 0) (by decide) (Nat.le_of_ble_eq_true rfl) ⟨Nat.le_of_ble_eq_true rfl, Nat.le_of_ble_eq_true rfl⟩ dL_most_70 (fun L F H locs hX hO => ?_)
  have hO : Ob γ o (mk mo_tb38) 38 L F := hO
  refine lv_iconst (v := 1) hx hb dL_most_73 (by decide) ?_
  refine lv_icmp_ne (tgt := 116) hx hb dL_most_74 (by decide) (fun h9 => absurd (show (1 : Int32) = 1 from (by decide)) h9) (fun _ => ?_)
  refine lv_aload_n hx hb dL_most_77 rfl (lv_at hl 1 rfl) ?_
  refine lv_iload_n hx hb dL_most_78 rfl (lv_at hl 0 rfl) ?_
  refine lv_sipush (v := 9999) hx hb dL_most_79 (by decide) ?_
  refine lv_bipush (v := 19) hx hb dL_most_82 (by decide) ?_
  refine O_addLine hfl hM hE hX hO hl (f_addLine (r := 2) (by decide +kernel)) (mk_24 _ 0) (by decide) (Nat.le_of_ble_eq_true rfl) ⟨Nat.le_of_ble_eq_true rfl, Nat.le_of_ble_eq_true rfl⟩ dL_most_84 (fun L F H locs hX hO => ?_)
  have hO : Ob γ o (mk mo_tb39) 39 L F := hO
  refine lv_iconst (v := 2) hx hb dL_most_87 (by decide) ?_
  refine lv_icmp_ne (tgt := 116) hx hb dL_most_88 (by decide) (fun h9 => absurd (show (2 : Int32) = 2 from (by decide)) h9) (fun _ => ?_)
  refine lv_aload_n hx hb dL_most_91 rfl (lv_at hl 1 rfl) ?_
  refine lv_iconst (v := 1) hx hb dL_most_92 (by decide) ?_
  refine lv_iload_n hx hb dL_most_93 rfl (lv_at hl 0 rfl) ?_
  refine lv_iconst (v := 1) hx hb dL_most_94 (by decide) ?_
  refine lv_iconst (v := 0) hx hb dL_most_95 (by decide) ?_
  refine lv_iconst (v := 0) hx hb dL_most_96 (by decide) ?_
  refine lv_iconst (v := 0) hx hb dL_most_97 (by decide) ?_
  refine A_no_1 (q := 3) (v := (-7000003)) hfl hM hE hX hO hl (by simp) (by decide +kernel) (by decide) (by decide) ⟨Nat.le_of_ble_eq_true rfl, Nat.le_of_ble_eq_true rfl⟩ dL_most_98 (fun L F H locs hX hO => ?_)
  refine lv_ldc hx hb hM.2.2.2.1 (hM.2.2.2.2.1 _ k_990) dL_most_101 ?_
  refine lv_icmp_ne (tgt := 116) hx hb dL_most_103 (by decide) (fun h9 => absurd (show ((-7000003) : Int32) = (-7000003) from (by decide)) h9) (fun _ => ?_)
  exact W.widen (k := 439) (n := 63214) (Nat.le_of_ble_eq_true rfl) (Nat.le_of_ble_eq_true rfl) (kk L F H locs ls hX hO hl)
set_option maxHeartbeats 8000000 in
set_option maxRecDepth 100000 in
theorem mo_7 (hfl : l.stackTraces = false) (hM : kM p s m args meth c cL_most 2 ret "InvoicebridgeLaw") (hE : kE γ A s) (hX : kX γ A s L F H locs) (hO : Ob γ o (mk mo_tb39) 39 L F) (hl : lv_has ls 2 [(1, .int 9), (0, .ref o)])
    (kk : ∀ (L : List Nat) (F : kF) (H : Heap) (locs : List Loc) (ls : Array Slot), kX γ A s L F H locs → Ob γ o (mk mo_tb45) 45 L F → lv_has ls 2 [(1, .int 11), (0, .ref o)] → W p l e (kRm 11 2357 330422) s m args below meth c H locs 504 72538 Q (F0 m 57 ls [])) : W p l e (kRm 11 2357 330422) s m args below meth c H locs 439 63214 Q (F0 m 106 ls []) := by
  have hx := hM.1
  have hb := hM.2.1
  refine lv_aload_n hx hb dL_most_106 rfl (lv_at hl 1 rfl) ?_
  refine lv_iload_n hx hb dL_most_107 rfl (lv_at hl 0 rfl) ?_
  refine O_accept hfl hM hE hX hO hl (f_accept (r := 35694) (by decide +kernel)) (mk_24 _ 0) (by decide) (Nat.le_of_ble_eq_true rfl) ⟨Nat.le_of_ble_eq_true rfl, Nat.le_of_ble_eq_true rfl⟩ dL_most_108 (fun L F H locs hX hO => ?_)
  have hO : Ob γ o (mk mo_tb40) 40 L F := hO
  refine lv_ldc hx hb hM.2.2.2.1 (hM.2.2.2.2.1 _ k_1046) dL_most_111 ?_
  refine lv_icmp_eq (tgt := 118) hx hb dL_most_113 (by decide) (fun _ => ?_) (fun h9 => absurd (show (35694 : Int32) = 35694 from (by decide)) h9)
  refine lv_iinc (v := 10) (lv' := [(1, .int 10), (0, .ref o)]) hx hb dL_most_118 hl (k := 0) rfl (by decide) (by decide) rfl (fun ls hl => ?_)
  refine lv_goto (tgt := 10) hx hb dL_most_121 (by decide) ?_
  refine lv_iload_n hx hb dL_most_10 rfl (lv_at hl 0 rfl) ?_
  refine lv_bipush (v := 21) hx hb dL_most_11 (by decide) ?_
  refine lv_icmp_ge (tgt := 124) hx hb dL_most_13 (by decide) (fun h9 => absurd h9 (show ¬ (21 : Int32) ≤ 10 from (by decide))) (fun _ => ?_)
  refine lv_aload_n hx hb dL_most_16 rfl (lv_at hl 1 rfl) ?_
  refine lv_iconst (v := 0) hx hb dL_most_17 (by decide) ?_
  refine lv_iload_n hx hb dL_most_18 rfl (lv_at hl 0 rfl) ?_
  refine lv_bipush (v := 6) hx hb dL_most_19 (by decide) ?_
  refine lv_irem hx hb dL_most_21 (by decide) ?_
  refine lv_is (y := 4) (by decide) ?_
  refine lv_iload_n hx hb dL_most_22 rfl (lv_at hl 0 rfl) ?_
  refine lv_iconst (v := 1) hx hb dL_most_23 (by decide) ?_
  refine lv_iadd hx hb dL_most_24 ?_
  refine lv_is (y := 11) (by decide) ?_
  refine lv_bipush (v := 6) hx hb dL_most_25 (by decide) ?_
  refine lv_irem hx hb dL_most_27 (by decide) ?_
  refine lv_is (y := 5) (by decide) ?_
  refine lv_iload_n hx hb dL_most_28 rfl (lv_at hl 0 rfl) ?_
  refine lv_bipush (v := 8) hx hb dL_most_29 (by decide) ?_
  refine lv_irem hx hb dL_most_31 (by decide) ?_
  refine lv_is (y := 2) (by decide) ?_
  refine lv_sipush (v := 9999) hx hb dL_most_32 (by decide) ?_
  refine lv_bipush (v := 19) hx hb dL_most_35 (by decide) ?_
  refine A_ok_0 hfl hM hE hX hO hl (f_send (r := 10) (by decide +kernel)) (mk_24 _ 0) (by decide) (by decide) ⟨Nat.le_of_ble_eq_true rfl, Nat.le_of_ble_eq_true rfl⟩ dL_most_37 (fun L F H locs hX hO => ?_)
  have hO : Ob γ o (mk mo_tb41) 41 L F := hO
  refine lv_iload_n hx hb dL_most_40 rfl (lv_at hl 0 rfl) ?_
  refine lv_bipush (v := 20) hx hb dL_most_41 (by decide) ?_
  refine lv_icmp_ge (tgt := 50) hx hb dL_most_43 (by decide) (fun h9 => absurd h9 (show ¬ (20 : Int32) ≤ 10 from (by decide))) (fun _ => ?_)
  refine lv_iload_n hx hb dL_most_46 rfl (lv_at hl 0 rfl) ?_
  refine lv_goto (tgt := 52) hx hb dL_most_47 (by decide) ?_
  refine lv_icmp_eq (tgt := 57) hx hb dL_most_52 (by decide) (fun _ => ?_) (fun h9 => absurd (show (10 : Int32) = 10 from (by decide)) h9)
  refine lv_iload_n hx hb dL_most_57 rfl (lv_at hl 0 rfl) ?_
  refine lv_bipush (v := 20) hx hb dL_most_58 (by decide) ?_
  refine lv_icmp_ge (tgt := 118) hx hb dL_most_60 (by decide) (fun h9 => absurd h9 (show ¬ (20 : Int32) ≤ 10 from (by decide))) (fun _ => ?_)
  refine lv_aload_n hx hb dL_most_63 rfl (lv_at hl 1 rfl) ?_
  refine lv_iload_n hx hb dL_most_64 rfl (lv_at hl 0 rfl) ?_
  refine lv_sipush (v := 9999) hx hb dL_most_65 (by decide) ?_
  refine lv_bipush (v := 19) hx hb dL_most_68 (by decide) ?_
  refine O_addLine hfl hM hE hX hO hl (f_addLine (r := 1) (by decide +kernel)) (mk_24 _ 0) (by decide) (Nat.le_of_ble_eq_true rfl) ⟨Nat.le_of_ble_eq_true rfl, Nat.le_of_ble_eq_true rfl⟩ dL_most_70 (fun L F H locs hX hO => ?_)
  have hO : Ob γ o (mk mo_tb42) 42 L F := hO
  refine lv_iconst (v := 1) hx hb dL_most_73 (by decide) ?_
  refine lv_icmp_ne (tgt := 116) hx hb dL_most_74 (by decide) (fun h9 => absurd (show (1 : Int32) = 1 from (by decide)) h9) (fun _ => ?_)
  refine lv_aload_n hx hb dL_most_77 rfl (lv_at hl 1 rfl) ?_
  refine lv_iload_n hx hb dL_most_78 rfl (lv_at hl 0 rfl) ?_
  refine lv_sipush (v := 9999) hx hb dL_most_79 (by decide) ?_
  refine lv_bipush (v := 19) hx hb dL_most_82 (by decide) ?_
  refine O_addLine hfl hM hE hX hO hl (f_addLine (r := 2) (by decide +kernel)) (mk_24 _ 0) (by decide) (Nat.le_of_ble_eq_true rfl) ⟨Nat.le_of_ble_eq_true rfl, Nat.le_of_ble_eq_true rfl⟩ dL_most_84 (fun L F H locs hX hO => ?_)
  have hO : Ob γ o (mk mo_tb43) 43 L F := hO
  refine lv_iconst (v := 2) hx hb dL_most_87 (by decide) ?_
  refine lv_icmp_ne (tgt := 116) hx hb dL_most_88 (by decide) (fun h9 => absurd (show (2 : Int32) = 2 from (by decide)) h9) (fun _ => ?_)
  refine lv_aload_n hx hb dL_most_91 rfl (lv_at hl 1 rfl) ?_
  refine lv_iconst (v := 1) hx hb dL_most_92 (by decide) ?_
  refine lv_iload_n hx hb dL_most_93 rfl (lv_at hl 0 rfl) ?_
  refine lv_iconst (v := 1) hx hb dL_most_94 (by decide) ?_
  refine lv_iconst (v := 0) hx hb dL_most_95 (by decide) ?_
  refine lv_iconst (v := 0) hx hb dL_most_96 (by decide) ?_
  refine lv_iconst (v := 0) hx hb dL_most_97 (by decide) ?_
  refine A_no_1 (q := 3) (v := (-7000003)) hfl hM hE hX hO hl (by simp) (by decide +kernel) (by decide) (by decide) ⟨Nat.le_of_ble_eq_true rfl, Nat.le_of_ble_eq_true rfl⟩ dL_most_98 (fun L F H locs hX hO => ?_)
  refine lv_ldc hx hb hM.2.2.2.1 (hM.2.2.2.2.1 _ k_990) dL_most_101 ?_
  refine lv_icmp_ne (tgt := 116) hx hb dL_most_103 (by decide) (fun h9 => absurd (show ((-7000003) : Int32) = (-7000003) from (by decide)) h9) (fun _ => ?_)
  refine lv_aload_n hx hb dL_most_106 rfl (lv_at hl 1 rfl) ?_
  refine lv_iload_n hx hb dL_most_107 rfl (lv_at hl 0 rfl) ?_
  refine O_accept hfl hM hE hX hO hl (f_accept (r := 35694) (by decide +kernel)) (mk_24 _ 0) (by decide) (Nat.le_of_ble_eq_true rfl) ⟨Nat.le_of_ble_eq_true rfl, Nat.le_of_ble_eq_true rfl⟩ dL_most_108 (fun L F H locs hX hO => ?_)
  have hO : Ob γ o (mk mo_tb44) 44 L F := hO
  refine lv_ldc hx hb hM.2.2.2.1 (hM.2.2.2.2.1 _ k_1046) dL_most_111 ?_
  refine lv_icmp_eq (tgt := 118) hx hb dL_most_113 (by decide) (fun _ => ?_) (fun h9 => absurd (show (35694 : Int32) = 35694 from (by decide)) h9)
  refine lv_iinc (v := 11) (lv' := [(1, .int 11), (0, .ref o)]) hx hb dL_most_118 hl (k := 0) rfl (by decide) (by decide) rfl (fun ls hl => ?_)
  refine lv_goto (tgt := 10) hx hb dL_most_121 (by decide) ?_
  refine lv_iload_n hx hb dL_most_10 rfl (lv_at hl 0 rfl) ?_
  refine lv_bipush (v := 21) hx hb dL_most_11 (by decide) ?_
  refine lv_icmp_ge (tgt := 124) hx hb dL_most_13 (by decide) (fun h9 => absurd h9 (show ¬ (21 : Int32) ≤ 11 from (by decide))) (fun _ => ?_)
  refine lv_aload_n hx hb dL_most_16 rfl (lv_at hl 1 rfl) ?_
  refine lv_iconst (v := 0) hx hb dL_most_17 (by decide) ?_
  refine lv_iload_n hx hb dL_most_18 rfl (lv_at hl 0 rfl) ?_
  refine lv_bipush (v := 6) hx hb dL_most_19 (by decide) ?_
  refine lv_irem hx hb dL_most_21 (by decide) ?_
  refine lv_is (y := 5) (by decide) ?_
  refine lv_iload_n hx hb dL_most_22 rfl (lv_at hl 0 rfl) ?_
  refine lv_iconst (v := 1) hx hb dL_most_23 (by decide) ?_
  refine lv_iadd hx hb dL_most_24 ?_
  refine lv_is (y := 12) (by decide) ?_
  refine lv_bipush (v := 6) hx hb dL_most_25 (by decide) ?_
  refine lv_irem hx hb dL_most_27 (by decide) ?_
  refine lv_is (y := 0) (by decide) ?_
  refine lv_iload_n hx hb dL_most_28 rfl (lv_at hl 0 rfl) ?_
  refine lv_bipush (v := 8) hx hb dL_most_29 (by decide) ?_
  refine lv_irem hx hb dL_most_31 (by decide) ?_
  refine lv_is (y := 3) (by decide) ?_
  refine lv_sipush (v := 9999) hx hb dL_most_32 (by decide) ?_
  refine lv_bipush (v := 19) hx hb dL_most_35 (by decide) ?_
  refine A_ok_0 hfl hM hE hX hO hl (f_send (r := 11) (by decide +kernel)) (mk_24 _ 0) (by decide) (by decide) ⟨Nat.le_of_ble_eq_true rfl, Nat.le_of_ble_eq_true rfl⟩ dL_most_37 (fun L F H locs hX hO => ?_)
  have hO : Ob γ o (mk mo_tb45) 45 L F := hO
  refine lv_iload_n hx hb dL_most_40 rfl (lv_at hl 0 rfl) ?_
  refine lv_bipush (v := 20) hx hb dL_most_41 (by decide) ?_
  refine lv_icmp_ge (tgt := 50) hx hb dL_most_43 (by decide) (fun h9 => absurd h9 (show ¬ (20 : Int32) ≤ 11 from (by decide))) (fun _ => ?_)
  refine lv_iload_n hx hb dL_most_46 rfl (lv_at hl 0 rfl) ?_
  refine lv_goto (tgt := 52) hx hb dL_most_47 (by decide) ?_
  refine lv_icmp_eq (tgt := 57) hx hb dL_most_52 (by decide) (fun _ => ?_) (fun h9 => absurd (show (11 : Int32) = 11 from (by decide)) h9)
  exact W.widen (k := 504) (n := 72538) (Nat.le_of_ble_eq_true rfl) (Nat.le_of_ble_eq_true rfl) (kk L F H locs ls hX hO hl)
end FX
