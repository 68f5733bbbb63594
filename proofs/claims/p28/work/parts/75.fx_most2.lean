section FX
variable {p : Program} {l : Launch} {e : Env} {R : Room} {s : State} {m : MethodId} {args : Array Value} {below : List Frame} {meth : Method} {c : Code} {H : Heap} {locs : List Loc} {cells slots : Nat} {Q : State → Prop}
variable {cc : ByteArray} {nL : Nat} {ret : Option FieldType} {γ : kG} {A : Nat → Prop} {L : List Nat} {F : kF} {pc : Nat} {ls : Array Slot} {rest : List Value} {o n : Nat} {M M1 : mM} {lv : List (Nat × Value)} {r : Int32}
set_option maxHeartbeats 8000000 in
set_option maxRecDepth 100000 in
theorem mo_8 (hfl : l.stackTraces = false) (hM : kM p s m args meth c cL_most 2 ret "InvoicebridgeLaw") (hE : kE γ A s) (hX : kX γ A s L F H locs) (hO : Ob γ o (mk mo_tb45) 45 L F) (hl : lv_has ls 2 [(1, .int 11), (0, .ref o)])
    (kk : ∀ (L : List Nat) (F : kF) (H : Heap) (locs : List Loc) (ls : Array Slot), kX γ A s L F H locs → Ob γ o (mk mo_tb51) 51 L F → lv_has ls 2 [(1, .int 12), (0, .ref o)] → W p l e (kRm 11 2357 330422) s m args below meth c H locs 561 81050 Q (F0 m 91 ls [])) : W p l e (kRm 11 2357 330422) s m args below meth c H locs 504 72538 Q (F0 m 57 ls []) := by
  have hx := hM.1
  have hb := hM.2.1
  refine lv_iload_n hx hb dL_most_57 rfl (lv_at hl 0 rfl) ?_
  refine lv_bipush (v := 20) hx hb dL_most_58 (by decide) ?_
  refine lv_icmp_ge (tgt := 118) hx hb dL_most_60 (by decide) (fun h9 => absurd h9 (show ¬ (20 : Int32) ≤ 11 from (by decide))) (fun _ => ?_)
  refine lv_aload_n hx hb dL_most_63 rfl (lv_at hl 1 rfl) ?_
  refine lv_iload_n hx hb dL_most_64 rfl (lv_at hl 0 rfl) ?_
  refine lv_sipush (v := 9999) hx hb dL_most_65 (by decide) ?_
  refine lv_bipush (v := 19) hx hb dL_most_68 (by decide) ?_
  refine O_addLine hfl hM hE hX hO hl (f_addLine (r := 1) (by decide +kernel)) (mk_24 _ 0) (by decide) (Nat.le_of_ble_eq_true rfl) ⟨Nat.le_of_ble_eq_true rfl, Nat.le_of_ble_eq_true rfl⟩ dL_most_70 (fun L F H locs hX hO => ?_)
  have hO : Ob γ o (mk mo_tb46) 46 L F := hO
  refine lv_iconst (v := 1) hx hb dL_most_73 (by decide) ?_
  refine lv_icmp_ne (tgt := 116) hx hb dL_most_74 (by decide) (fun h9 => absurd (show (1 : Int32) = 1 from (by decide)) h9) (fun _ => ?_)
  refine lv_aload_n hx hb dL_most_77 rfl (lv_at hl 1 rfl) ?_
  refine lv_iload_n hx hb dL_most_78 rfl (lv_at hl 0 rfl) ?_
  refine lv_sipush (v := 9999) hx hb dL_most_79 (by decide) ?_
  refine lv_bipush (v := 19) hx hb dL_most_82 (by decide) ?_
  refine O_addLine hfl hM hE hX hO hl (f_addLine (r := 2) (by decide +kernel)) (mk_24 _ 0) (by decide) (Nat.le_of_ble_eq_true rfl) ⟨Nat.le_of_ble_eq_true rfl, Nat.le_of_ble_eq_true rfl⟩ dL_most_84 (fun L F H locs hX hO => ?_)
  have hO : Ob γ o (mk mo_tb47) 47 L F := hO
  refine lv_iconst (v := 2) hx hb dL_most_87 (by decide) ?_
  refine lv_icmp_ne (tgt := 116) hx hb dL_most_88 (by decide) (fun h9 => absurd (show (2 : Int32) = 2 from (by decide)) h9) (fun _ => ?_)
  refine lv_aload_n hx hb dL_most_91 rfl (lv_at hl 1 rfl) ?_
  refine lv_iconst (v := 1) hx hb dL_most_92 (by decide) ?_
  refine lv_iload_n hx hb dL_most_93 rfl (lv_at hl 0 rfl) ?_
  refine lv_iconst (v := 1) hx hb dL_most_94 (by decide) ?_
  refine lv_iconst (v := 0) hx hb dL_most_95 (by decide) ?_
  refine lv_iconst (v := 0) hx hb dL_most_96 (by decide) ?_
  refine lv_iconst (v := 0) hx hb dL_most_97 (by decide) ?_
  refine A_no_1 (q := 3) (v := (-7000003)) hfl hM hE hX hO hl (by simp) (by decide +kernel) (by decide) (by decide) ⟨Nat.le_of_ble_eq_true rfl, Nat.le_of_ble_eq_true rfl⟩ dL_most_98 (fun L F H locs hX hO => ?_)
  refine lv_ldc hx hb hM.2.2.2.1 (hM.2.2.2.2.1 _ k_990) dL_most_101 ?_
  refine lv_icmp_ne (tgt := 116) hx hb dL_most_103 (by decide) (fun h9 => absurd (show ((-7000003) : Int32) = (-7000003) from (by decide)) h9) (fun _ => ?_)
  refine lv_aload_n hx hb dL_most_106 rfl (lv_at hl 1 rfl) ?_
  refine lv_iload_n hx hb dL_most_107 rfl (lv_at hl 0 rfl) ?_
  refine O_accept hfl hM hE hX hO hl (f_accept (r := 35694) (by decide +kernel)) (mk_24 _ 0) (by decide) (Nat.le_of_ble_eq_true rfl) ⟨Nat.le_of_ble_eq_true rfl, Nat.le_of_ble_eq_true rfl⟩ dL_most_108 (fun L F H locs hX hO => ?_)
  have hO : Ob γ o (mk mo_tb48) 48 L F := hO
  refine lv_ldc hx hb hM.2.2.2.1 (hM.2.2.2.2.1 _ k_1046) dL_most_111 ?_
  refine lv_icmp_eq (tgt := 118) hx hb dL_most_113 (by decide) (fun _ => ?_) (fun h9 => absurd (show (35694 : Int32) = 35694 from (by decide)) h9)
  refine lv_iinc (v := 12) (lv' := [(1, .int 12), (0, .ref o)]) hx hb dL_most_118 hl (k := 0) rfl (by decide) (by decide) rfl (fun ls hl => ?_)
  refine lv_goto (tgt := 10) hx hb dL_most_121 (by decide) ?_
  refine lv_iload_n hx hb dL_most_10 rfl (lv_at hl 0 rfl) ?_
  refine lv_bipush (v := 21) hx hb dL_most_11 (by decide) ?_
  refine lv_icmp_ge (tgt := 124) hx hb dL_most_13 (by decide) (fun h9 => absurd h9 (show ¬ (21 : Int32) ≤ 12 from (by decide))) (fun _ => ?_)
  refine lv_aload_n hx hb dL_most_16 rfl (lv_at hl 1 rfl) ?_
  refine lv_iconst (v := 0) hx hb dL_most_17 (by decide) ?_
  refine lv_iload_n hx hb dL_most_18 rfl (lv_at hl 0 rfl) ?_
  refine lv_bipush (v := 6) hx hb dL_most_19 (by decide) ?_
  refine lv_irem hx hb dL_most_21 (by decide) ?_
  refine lv_is (y := 0) (by decide) ?_
  refine lv_iload_n hx hb dL_most_22 rfl (lv_at hl 0 rfl) ?_
  refine lv_iconst (v := 1) hx hb dL_most_23 (by decide) ?_
  refine lv_iadd hx hb dL_most_24 ?_
  refine lv_is (y := 13) (by decide) ?_
  refine lv_bipush (v := 6) hx hb dL_most_25 (by decide) ?_
  refine lv_irem hx hb dL_most_27 (by decide) ?_
  refine lv_is (y := 1) (by decide) ?_
  refine lv_iload_n hx hb dL_most_28 rfl (lv_at hl 0 rfl) ?_
  refine lv_bipush (v := 8) hx hb dL_most_29 (by decide) ?_
  refine lv_irem hx hb dL_most_31 (by decide) ?_
  refine lv_is (y := 4) (by decide) ?_
  refine lv_sipush (v := 9999) hx hb dL_most_32 (by decide) ?_
  refine lv_bipush (v := 19) hx hb dL_most_35 (by decide) ?_
  refine A_ok_0 hfl hM hE hX hO hl (f_send (r := 12) (by decide +kernel)) (mk_24 _ 0) (by decide) (by decide) ⟨Nat.le_of_ble_eq_true rfl, Nat.le_of_ble_eq_true rfl⟩ dL_most_37 (fun L F H locs hX hO => ?_)
  have hO : Ob γ o (mk mo_tb49) 49 L F := hO
  refine lv_iload_n hx hb dL_most_40 rfl (lv_at hl 0 rfl) ?_
  refine lv_bipush (v := 20) hx hb dL_most_41 (by decide) ?_
  refine lv_icmp_ge (tgt := 50) hx hb dL_most_43 (by decide) (fun h9 => absurd h9 (show ¬ (20 : Int32) ≤ 12 from (by decide))) (fun _ => ?_)
  refine lv_iload_n hx hb dL_most_46 rfl (lv_at hl 0 rfl) ?_
  refine lv_goto (tgt := 52) hx hb dL_most_47 (by decide) ?_
  refine lv_icmp_eq (tgt := 57) hx hb dL_most_52 (by decide) (fun _ => ?_) (fun h9 => absurd (show (12 : Int32) = 12 from (by decide)) h9)
  refine lv_iload_n hx hb dL_most_57 rfl (lv_at hl 0 rfl) ?_
  refine lv_bipush (v := 20) hx hb dL_most_58 (by decide) ?_
  refine lv_icmp_ge (tgt := 118) hx hb dL_most_60 (by decide) (fun h9 => absurd h9 (show ¬ (20 : Int32) ≤ 12 from (by decide))) (fun _ => ?_)
  refine lv_aload_n hx hb dL_most_63 rfl (lv_at hl 1 rfl) ?_
  refine lv_iload_n hx hb dL_most_64 rfl (lv_at hl 0 rfl) ?_
  refine lv_sipush (v := 9999) hx hb dL_most_65 (by decide) ?_
  refine lv_bipush (v := 19) hx hb dL_most_68 (by decide) ?_
  refine O_addLine hfl hM hE hX hO hl (f_addLine (r := 1) (by decide +kernel)) (mk_24 _ 0) (by decide) (Nat.le_of_ble_eq_true rfl) ⟨Nat.le_of_ble_eq_true rfl, Nat.le_of_ble_eq_true rfl⟩ dL_most_70 (fun L F H locs hX hO => ?_)
  have hO : Ob γ o (mk mo_tb50) 50 L F := hO
  refine lv_iconst (v := 1) hx hb dL_most_73 (by decide) ?_
  refine lv_icmp_ne (tgt := 116) hx hb dL_most_74 (by decide) (fun h9 => absurd (show (1 : Int32) = 1 from (by decide)) h9) (fun _ => ?_)
  refine lv_aload_n hx hb dL_most_77 rfl (lv_at hl 1 rfl) ?_
  refine lv_iload_n hx hb dL_most_78 rfl (lv_at hl 0 rfl) ?_
  refine lv_sipush (v := 9999) hx hb dL_most_79 (by decide) ?_
  refine lv_bipush (v := 19) hx hb dL_most_82 (by decide) ?_
  refine O_addLine hfl hM hE hX hO hl (f_addLine (r := 2) (by decide +kernel)) (mk_24 _ 0) (by decide) (Nat.le_of_ble_eq_true rfl) ⟨Nat.le_of_ble_eq_true rfl, Nat.le_of_ble_eq_true rfl⟩ dL_most_84 (fun L F H locs hX hO => ?_)
  have hO : Ob γ o (mk mo_tb51) 51 L F := hO
  refine lv_iconst (v := 2) hx hb dL_most_87 (by decide) ?_
  refine lv_icmp_ne (tgt := 116) hx hb dL_most_88 (by decide) (fun h9 => absurd (show (2 : Int32) = 2 from (by decide)) h9) (fun _ => ?_)
  exact W.widen (k := 561) (n := 81050) (Nat.le_of_ble_eq_true rfl) (Nat.le_of_ble_eq_true rfl) (kk L F H locs ls hX hO hl)
set_option maxHeartbeats 8000000 in
set_option maxRecDepth 100000 in
theorem mo_9 (hfl : l.stackTraces = false) (hM : kM p s m args meth c cL_most 2 ret "InvoicebridgeLaw") (hE : kE γ A s) (hX : kX γ A s L F H locs) (hO : Ob γ o (mk mo_tb51) 51 L F) (hl : lv_has ls 2 [(1, .int 12), (0, .ref o)])
    (kk : ∀ (L : List Nat) (F : kF) (H : Heap) (locs : List Loc) (ls : Array Slot), kX γ A s L F H locs → Ob γ o (mk mo_tb56) 56 L F → lv_has ls 2 [(1, .int 13), (0, .ref o)] → W p l e (kRm 11 2357 330422) s m args below meth c H locs 613 88474 Q (F0 m 118 ls [])) : W p l e (kRm 11 2357 330422) s m args below meth c H locs 561 81050 Q (F0 m 91 ls []) := by
  have hx := hM.1
  have hb := hM.2.1
  refine lv_aload_n hx hb dL_most_91 rfl (lv_at hl 1 rfl) ?_
  refine lv_iconst (v := 1) hx hb dL_most_92 (by decide) ?_
  refine lv_iload_n hx hb dL_most_93 rfl (lv_at hl 0 rfl) ?_
  refine lv_iconst (v := 1) hx hb dL_most_94 (by decide) ?_
  refine lv_iconst (v := 0) hx hb dL_most_95 (by decide) ?_
  refine lv_iconst (v := 0) hx hb dL_most_96 (by decide) ?_
  refine lv_iconst (v := 0) hx hb dL_most_97 (by decide) ?_
  refine A_no_1 (q := 3) (v := (-7000003)) hfl hM hE hX hO hl (by simp) (by decide +kernel) (by decide) (by decide) ⟨Nat.le_of_ble_eq_true rfl, Nat.le_of_ble_eq_true rfl⟩ dL_most_98 (fun L F H locs hX hO => ?_)
  refine lv_ldc hx hb hM.2.2.2.1 (hM.2.2.2.2.1 _ k_990) dL_most_101 ?_
  refine lv_icmp_ne (tgt := 116) hx hb dL_most_103 (by decide) (fun h9 => absurd (show ((-7000003) : Int32) = (-7000003) from (by decide)) h9) (fun _ => ?_)
  refine lv_aload_n hx hb dL_most_106 rfl (lv_at hl 1 rfl) ?_
  refine lv_iload_n hx hb dL_most_107 rfl (lv_at hl 0 rfl) ?_
  refine O_accept hfl hM hE hX hO hl (f_accept (r := 35694) (by decide +kernel)) (mk_24 _ 0) (by decide) (Nat.le_of_ble_eq_true rfl) ⟨Nat.le_of_ble_eq_true rfl, Nat.le_of_ble_eq_true rfl⟩ dL_most_108 (fun L F H locs hX hO => ?_)
  have hO : Ob γ o (mk mo_tb52) 52 L F := hO
  refine lv_ldc hx hb hM.2.2.2.1 (hM.2.2.2.2.1 _ k_1046) dL_most_111 ?_
  refine lv_icmp_eq (tgt := 118) hx hb dL_most_113 (by decide) (fun _ => ?_) (fun h9 => absurd (show (35694 : Int32) = 35694 from (by decide)) h9)
  refine lv_iinc (v := 13) (lv' := [(1, .int 13), (0, .ref o)]) hx hb dL_most_118 hl (k := 0) rfl (by decide) (by decide) rfl (fun ls hl => ?_)
  refine lv_goto (tgt := 10) hx hb dL_most_121 (by decide) ?_
  refine lv_iload_n hx hb dL_most_10 rfl (lv_at hl 0 rfl) ?_
  refine lv_bipush (v := 21) hx hb dL_most_11 (by decide) ?_
  refine lv_icmp_ge (tgt := 124) hx hb dL_most_13 (by decide) (fun h9 => absurd h9 (show ¬ (21 : Int32) ≤ 13 from (by decide))) (fun _ => ?_)
  refine lv_aload_n hx hb dL_most_16 rfl (lv_at hl 1 rfl) ?_
  refine lv_iconst (v := 0) hx hb dL_most_17 (by decide) ?_
  refine lv_iload_n hx hb dL_most_18 rfl (lv_at hl 0 rfl) ?_
  refine lv_bipush (v := 6) hx hb dL_most_19 (by decide) ?_
  refine lv_irem hx hb dL_most_21 (by decide) ?_
  refine lv_is (y := 1) (by decide) ?_
  refine lv_iload_n hx hb dL_most_22 rfl (lv_at hl 0 rfl) ?_
  refine lv_iconst (v := 1) hx hb dL_most_23 (by decide) ?_
  refine lv_iadd hx hb dL_most_24 ?_
  refine lv_is (y := 14) (by decide) ?_
  refine lv_bipush (v := 6) hx hb dL_most_25 (by decide) ?_
  refine lv_irem hx hb dL_most_27 (by decide) ?_
  refine lv_is (y := 2) (by decide) ?_
  refine lv_iload_n hx hb dL_most_28 rfl (lv_at hl 0 rfl) ?_
  refine lv_bipush (v := 8) hx hb dL_most_29 (by decide) ?_
  refine lv_irem hx hb dL_most_31 (by decide) ?_
  refine lv_is (y := 5) (by decide) ?_
  refine lv_sipush (v := 9999) hx hb dL_most_32 (by decide) ?_
  refine lv_bipush (v := 19) hx hb dL_most_35 (by decide) ?_
  refine A_ok_0 hfl hM hE hX hO hl (f_send (r := 13) (by decide +kernel)) (mk_24 _ 0) (by decide) (by decide) ⟨Nat.le_of_ble_eq_true rfl, Nat.le_of_ble_eq_true rfl⟩ dL_most_37 (fun L F H locs hX hO => ?_)
  have hO : Ob γ o (mk mo_tb53) 53 L F := hO
  refine lv_iload_n hx hb dL_most_40 rfl (lv_at hl 0 rfl) ?_
  refine lv_bipush (v := 20) hx hb dL_most_41 (by decide) ?_
  refine lv_icmp_ge (tgt := 50) hx hb dL_most_43 (by decide) (fun h9 => absurd h9 (show ¬ (20 : Int32) ≤ 13 from (by decide))) (fun _ => ?_)
  refine lv_iload_n hx hb dL_most_46 rfl (lv_at hl 0 rfl) ?_
  refine lv_goto (tgt := 52) hx hb dL_most_47 (by decide) ?_
  refine lv_icmp_eq (tgt := 57) hx hb dL_most_52 (by decide) (fun _ => ?_) (fun h9 => absurd (show (13 : Int32) = 13 from (by decide)) h9)
  refine lv_iload_n hx hb dL_most_57 rfl (lv_at hl 0 rfl) ?_
  refine lv_bipush (v := 20) hx hb dL_most_58 (by decide) ?_
  refine lv_icmp_ge (tgt := 118) hx hb dL_most_60 (by decide) (fun h9 => absurd h9 (show ¬ (20 : Int32) ≤ 13 from (by decide))) (fun _ => ?_)
  refine lv_aload_n hx hb dL_most_63 rfl (lv_at hl 1 rfl) ?_
  refine lv_iload_n hx hb dL_most_64 rfl (lv_at hl 0 rfl) ?_
  refine lv_sipush (v := 9999) hx hb dL_most_65 (by decide) ?_
  refine lv_bipush (v := 19) hx hb dL_most_68 (by decide) ?_
  refine O_addLine hfl hM hE hX hO hl (f_addLine (r := 1) (by decide +kernel)) (mk_24 _ 0) (by decide) (Nat.le_of_ble_eq_true rfl) ⟨Nat.le_of_ble_eq_true rfl, Nat.le_of_ble_eq_true rfl⟩ dL_most_70 (fun L F H locs hX hO => ?_)
  have hO : Ob γ o (mk mo_tb54) 54 L F := hO
  refine lv_iconst (v := 1) hx hb dL_most_73 (by decide) ?_
  refine lv_icmp_ne (tgt := 116) hx hb dL_most_74 (by decide) (fun h9 => absurd (show (1 : Int32) = 1 from (by decide)) h9) (fun _ => ?_)
  refine lv_aload_n hx hb dL_most_77 rfl (lv_at hl 1 rfl) ?_
  refine lv_iload_n hx hb dL_most_78 rfl (lv_at hl 0 rfl) ?_
  refine lv_sipush (v := 9999) hx hb dL_most_79 (by decide) ?_
  refine lv_bipush (v := 19) hx hb dL_most_82 (by decide) ?_
  refine O_addLine hfl hM hE hX hO hl (f_addLine (r := 2) (by decide +kernel)) (mk_24 _ 0) (by decide) (Nat.le_of_ble_eq_true rfl) ⟨Nat.le_of_ble_eq_true rfl, Nat.le_of_ble_eq_true rfl⟩ dL_most_84 (fun L F H locs hX hO => ?_)
  have hO : Ob γ o (mk mo_tb55) 55 L F := hO
  refine lv_iconst (v := 2) hx hb dL_most_87 (by decide) ?_
  refine lv_icmp_ne (tgt := 116) hx hb dL_most_88 (by decide) (fun h9 => absurd (show (2 : Int32) = 2 from (by decide)) h9) (fun _ => ?_)
  refine lv_aload_n hx hb dL_most_91 rfl (lv_at hl 1 rfl) ?_
  refine lv_iconst (v := 1) hx hb dL_most_92 (by decide) ?_
  refine lv_iload_n hx hb dL_most_93 rfl (lv_at hl 0 rfl) ?_
  refine lv_iconst (v := 1) hx hb dL_most_94 (by decide) ?_
  refine lv_iconst (v := 0) hx hb dL_most_95 (by decide) ?_
  refine lv_iconst (v := 0) hx hb dL_most_96 (by decide) ?_
  refine lv_iconst (v := 0) hx hb dL_most_97 (by decide) ?_
  refine A_no_1 (q := 3) (v := (-7000003)) hfl hM hE hX hO hl (by simp) (by decide +kernel) (by decide) (by decide) ⟨Nat.le_of_ble_eq_true rfl, Nat.le_of_ble_eq_true rfl⟩ dL_most_98 (fun L F H locs hX hO => ?_)
  refine lv_ldc hx hb hM.2.2.2.1 (hM.2.2.2.2.1 _ k_990) dL_most_101 ?_
  refine lv_icmp_ne (tgt := 116) hx hb dL_most_103 (by decide) (fun h9 => absurd (show ((-7000003) : Int32) = (-7000003) from (by decide)) h9) (fun _ => ?_)
  refine lv_aload_n hx hb dL_most_106 rfl (lv_at hl 1 rfl) ?_
  refine lv_iload_n hx hb dL_most_107 rfl (lv_at hl 0 rfl) ?_
  refine O_accept hfl hM hE hX hO hl (f_accept (r := 35694) (by decide +kernel)) (mk_24 _ 0) (by decide) (Nat.le_of_ble_eq_true rfl) ⟨Nat.le_of_ble_eq_true rfl, Nat.le_of_ble_eq_true rfl⟩ dL_most_108 (fun L F H locs hX hO => ?_)
  have hO : Ob γ o (mk mo_tb56) 56 L F := hO
  refine lv_ldc hx hb hM.2.2.2.1 (hM.2.2.2.2.1 _ k_1046) dL_most_111 ?_
  refine lv_icmp_eq (tgt := 118) hx hb dL_most_113 (by decide) (fun _ => ?_) (fun h9 => absurd (show (35694 : Int32) = 35694 from (by decide)) h9)
  exact W.widen (k := 613) (n := 88474) (Nat.le_of_ble_eq_true rfl) (Nat.le_of_ble_eq_true rfl) (kk L F H locs ls hX hO hl)
set_option maxHeartbeats 8000000 in
set_option maxRecDepth 100000 in
theorem mo_10 (hfl : l.stackTraces = false) (hM : kM p s m args meth c cL_most 2 ret "InvoicebridgeLaw") (hE : kE γ A s) (hX : kX γ A s L F H locs) (hO : Ob γ o (mk mo_tb56) 56 L F) (hl : lv_has ls 2 [(1, .int 13), (0, .ref o)])
    (kk : ∀ (L : List Nat) (F : kF) (H : Heap) (locs : List Loc) (ls : Array Slot), kX γ A s L F H locs → Ob γ o (mk mo_tb62) 62 L F → lv_has ls 2 [(1, .int 15), (0, .ref o)] → W p l e (kRm 11 2357 330422) s m args below meth c H locs 683 98886 Q (F0 m 77 ls [])) : W p l e (kRm 11 2357 330422) s m args below meth c H locs 613 88474 Q (F0 m 118 ls []) := by
  have hx := hM.1
  have hb := hM.2.1
  refine lv_iinc (v := 14) (lv' := [(1, .int 14), (0, .ref o)]) hx hb dL_most_118 hl (k := 0) rfl (by decide) (by decide) rfl (fun ls hl => ?_)
  refine lv_goto (tgt := 10) hx hb dL_most_121 (by decide) ?_
  refine lv_iload_n hx hb dL_most_10 rfl (lv_at hl 0 rfl) ?_
  refine lv_bipush (v := 21) hx hb dL_most_11 (by decide) ?_
  refine lv_icmp_ge (tgt := 124) hx hb dL_most_13 (by decide) (fun h9 => absurd h9 (show ¬ (21 : Int32) ≤ 14 from (by decide))) (fun _ => ?_)
  refine lv_aload_n hx hb dL_most_16 rfl (lv_at hl 1 rfl) ?_
  refine lv_iconst (v := 0) hx hb dL_most_17 (by decide) ?_
  refine lv_iload_n hx hb dL_most_18 rfl (lv_at hl 0 rfl) ?_
  refine lv_bipush (v := 6) hx hb dL_most_19 (by decide) ?_
  refine lv_irem hx hb dL_most_21 (by decide) ?_
  refine lv_is (y := 2) (by decide) ?_
  refine lv_iload_n hx hb dL_most_22 rfl (lv_at hl 0 rfl) ?_
  refine lv_iconst (v := 1) hx hb dL_most_23 (by decide) ?_
  refine lv_iadd hx hb dL_most_24 ?_
  refine lv_is (y := 15) (by decide) ?_
  refine lv_bipush (v := 6) hx hb dL_most_25 (by decide) ?_
  refine lv_irem hx hb dL_most_27 (by decide) ?_
  refine lv_is (y := 3) (by decide) ?_
  refine lv_iload_n hx hb dL_most_28 rfl (lv_at hl 0 rfl) ?_
  refine lv_bipush (v := 8) hx hb dL_most_29 (by decide) ?_
  refine lv_irem hx hb dL_most_31 (by decide) ?_
  refine lv_is (y := 6) (by decide) ?_
  refine lv_sipush (v := 9999) hx hb dL_most_32 (by decide) ?_
  refine lv_bipush (v := 19) hx hb dL_most_35 (by decide) ?_
  refine A_ok_0 hfl hM hE hX hO hl (f_send (r := 14) (by decide +kernel)) (mk_24 _ 0) (by decide) (by decide) ⟨Nat.le_of_ble_eq_true rfl, Nat.le_of_ble_eq_true rfl⟩ dL_most_37 (fun L F H locs hX hO => ?_)
  have hO : Ob γ o (mk mo_tb57) 57 L F := hO
  refine lv_iload_n hx hb dL_most_40 rfl (lv_at hl 0 rfl) ?_
  refine lv_bipush (v := 20) hx hb dL_most_41 (by decide) ?_
  refine lv_icmp_ge (tgt := 50) hx hb dL_most_43 (by decide) (fun h9 => absurd h9 (show ¬ (20 : Int32) ≤ 14 from (by decide))) (fun _ => ?_)
  refine lv_iload_n hx hb dL_most_46 rfl (lv_at hl 0 rfl) ?_
  refine lv_goto (tgt := 52) hx hb dL_most_47 (by decide) ?_
  refine lv_icmp_eq (tgt := 57) hx hb dL_most_52 (by decide) (fun _ => ?_) (fun h9 => absurd (show (14 : Int32) = 14 from (by decide)) h9)
  refine lv_iload_n hx hb dL_most_57 rfl (lv_at hl 0 rfl) ?_
  refine lv_bipush (v := 20) hx hb dL_most_58 (by decide) ?_
  refine lv_icmp_ge (tgt := 118) hx hb dL_most_60 (by decide) (fun h9 => absurd h9 (show ¬ (20 : Int32) ≤ 14 from (by decide))) (fun _ => ?_)
  refine lv_aload_n hx hb dL_most_63 rfl (lv_at hl 1 rfl) ?_
  refine lv_iload_n hx hb dL_most_64 rfl (lv_at hl 0 rfl) ?_
  refine lv_sipush (v := 9999) hx hb dL_most_65 (by decide) ?_
  refine lv_bipush (v := 19) hx hb dL_most_68 (by decide) ?_
  refine O_addLine hfl hM hE hX hO hl (f_addLine (r := 1) (by decide +kernel)) (mk_24 _ 0) (by decide) (Nat.le_of_ble_eq_true rfl) ⟨Nat.le_of_ble_eq_true rfl, Nat.le_of_ble_eq_true rfl⟩ dL_most_70 (fun L F H locs hX hO => ?_)
  have hO : Ob γ o (mk mo_tb58) 58 L F := hO
  refine lv_iconst (v := 1) hx hb dL_most_73 (by decide) ?_
  refine lv_icmp_ne (tgt := 116) hx hb dL_most_74 (by decide) (fun h9 => absurd (show (1 : Int32) = 1 from (by decide)) h9) (fun _ => ?_)
  refine lv_aload_n hx hb dL_most_77 rfl (lv_at hl 1 rfl) ?_
  refine lv_iload_n hx hb dL_most_78 rfl (lv_at hl 0 rfl) ?_
  refine lv_sipush (v := 9999) hx hb dL_most_79 (by decide) ?_
  refine lv_bipush (v := 19) hx hb dL_most_82 (by decide) ?_
  refine O_addLine hfl hM hE hX hO hl (f_addLine (r := 2) (by decide +kernel)) (mk_24 _ 0) (by decide) (Nat.le_of_ble_eq_true rfl) ⟨Nat.le_of_ble_eq_true rfl, Nat.le_of_ble_eq_true rfl⟩ dL_most_84 (fun L F H locs hX hO => ?_)
  have hO : Ob γ o (mk mo_tb59) 59 L F := hO
  refine lv_iconst (v := 2) hx hb dL_most_87 (by decide) ?_
  refine lv_icmp_ne (tgt := 116) hx hb dL_most_88 (by decide) (fun h9 => absurd (show (2 : Int32) = 2 from (by decide)) h9) (fun _ => ?_)
  refine lv_aload_n hx hb dL_most_91 rfl (lv_at hl 1 rfl) ?_
  refine lv_iconst (v := 1) hx hb dL_most_92 (by decide) ?_
  refine lv_iload_n hx hb dL_most_93 rfl (lv_at hl 0 rfl) ?_
  refine lv_iconst (v := 1) hx hb dL_most_94 (by decide) ?_
  refine lv_iconst (v := 0) hx hb dL_most_95 (by decide) ?_
  refine lv_iconst (v := 0) hx hb dL_most_96 (by decide) ?_
  refine lv_iconst (v := 0) hx hb dL_most_97 (by decide) ?_
  refine A_no_1 (q := 3) (v := (-7000003)) hfl hM hE hX hO hl (by simp) (by decide +kernel) (by decide) (by decide) ⟨Nat.le_of_ble_eq_true rfl, Nat.le_of_ble_eq_true rfl⟩ dL_most_98 (fun L F H locs hX hO => ?_)
  refine lv_ldc hx hb hM.2.2.2.1 (hM.2.2.2.2.1 _ k_990) dL_most_101 ?_
  refine lv_icmp_ne (tgt := 116) hx hb dL_most_103 (by decide) (fun h9 => absurd (show ((-7000003) : Int32) = (-7000003) from (by decide)) h9) (fun _ => ?_)
  refine lv_aload_n hx hb dL_most_106 rfl (lv_at hl 1 rfl) ?_
  refine lv_iload_n hx hb dL_most_107 rfl (lv_at hl 0 rfl) ?_
  refine O_accept hfl hM hE hX hO hl (f_accept (r := 35694) (by decide +kernel)) (mk_24 _ 0) (by decide) (Nat.le_of_ble_eq_true rfl) ⟨Nat.le_of_ble_eq_true rfl, Nat.le_of_ble_eq_true rfl⟩ dL_most_108 (fun L F H locs hX hO => ?_)
  have hO : Ob γ o (mk mo_tb60) 60 L F := hO
  refine lv_ldc hx hb hM.2.2.2.1 (hM.2.2.2.2.1 _ k_1046) dL_most_111 ?_
  refine lv_icmp_eq (tgt := 118) hx hb dL_most_113 (by decide) (fun _ => ?_) (fun h9 => absurd (show (35694 : Int32) = 35694 from (by decide)) h9)
  refine lv_iinc (v := 15) (lv' := [(1, .int 15), (0, .ref o)]) hx hb dL_most_118 hl (k := 0) rfl (by decide) (by decide) rfl (fun ls hl => ?_)
  refine lv_goto (tgt := 10) hx hb dL_most_121 (by decide) ?_
  refine lv_iload_n hx hb dL_most_10 rfl (lv_at hl 0 rfl) ?_
  refine lv_bipush (v := 21) hx hb dL_most_11 (by decide) ?_
  refine lv_icmp_ge (tgt := 124) hx hb dL_most_13 (by decide) (fun h9 => absurd h9 (show ¬ (21 : Int32) ≤ 15 from (by decide))) (fun _ => ?_)
  refine lv_aload_n hx hb dL_most_16 rfl (lv_at hl 1 rfl) ?_
  refine lv_iconst (v := 0) hx hb dL_most_17 (by decide) ?_
  refine lv_iload_n hx hb dL_most_18 rfl (lv_at hl 0 rfl) ?_
  refine lv_bipush (v := 6) hx hb dL_most_19 (by decide) ?_
  refine lv_irem hx hb dL_most_21 (by decide) ?_
  refine lv_is (y := 3) (by decide) ?_
  refine lv_iload_n hx hb dL_most_22 rfl (lv_at hl 0 rfl) ?_
  refine lv_iconst (v := 1) hx hb dL_most_23 (by decide) ?_
  refine lv_iadd hx hb dL_most_24 ?_
  refine lv_is (y := 16) (by decide) ?_
  refine lv_bipush (v := 6) hx hb dL_most_25 (by decide) ?_
  refine lv_irem hx hb dL_most_27 (by decide) ?_
  refine lv_is (y := 4) (by decide) ?_
  refine lv_iload_n hx hb dL_most_28 rfl (lv_at hl 0 rfl) ?_
  refine lv_bipush (v := 8) hx hb dL_most_29 (by decide) ?_
  refine lv_irem hx hb dL_most_31 (by decide) ?_
  refine lv_is (y := 7) (by decide) ?_
  refine lv_sipush (v := 9999) hx hb dL_most_32 (by decide) ?_
  refine lv_bipush (v := 19) hx hb dL_most_35 (by decide) ?_
  refine A_ok_0 hfl hM hE hX hO hl (f_send (r := 15) (by decide +kernel)) (mk_24 _ 0) (by decide) (by decide) ⟨Nat.le_of_ble_eq_true rfl, Nat.le_of_ble_eq_true rfl⟩ dL_most_37 (fun L F H locs hX hO => ?_)
  have hO : Ob γ o (mk mo_tb61) 61 L F := hO
  refine lv_iload_n hx hb dL_most_40 rfl (lv_at hl 0 rfl) ?_
  refine lv_bipush (v := 20) hx hb dL_most_41 (by decide) ?_
  refine lv_icmp_ge (tgt := 50) hx hb dL_most_43 (by decide) (fun h9 => absurd h9 (show ¬ (20 : Int32) ≤ 15 from (by decide))) (fun _ => ?_)
  refine lv_iload_n hx hb dL_most_46 rfl (lv_at hl 0 rfl) ?_
  refine lv_goto (tgt := 52) hx hb dL_most_47 (by decide) ?_
  refine lv_icmp_eq (tgt := 57) hx hb dL_most_52 (by decide) (fun _ => ?_) (fun h9 => absurd (show (15 : Int32) = 15 from (by decide)) h9)
  refine lv_iload_n hx hb dL_most_57 rfl (lv_at hl 0 rfl) ?_
  refine lv_bipush (v := 20) hx hb dL_most_58 (by decide) ?_
  refine lv_icmp_ge (tgt := 118) hx hb dL_most_60 (by decide) (fun h9 => absurd h9 (show ¬ (20 : Int32) ≤ 15 from (by decide))) (fun _ => ?_)
  refine lv_aload_n hx hb dL_most_63 rfl (lv_at hl 1 rfl) ?_
  refine lv_iload_n hx hb dL_most_64 rfl (lv_at hl 0 rfl) ?_
  refine lv_sipush (v := 9999) hx hb dL_most_65 (by decide) ?_
  refine lv_bipush (v := 19) hx hb dL_most_68 (by decide) ?_
  refine O_addLine hfl hM hE hX hO hl (f_addLine (r := 1) (by decide +kernel)) (mk_24 _ 0) (by decide) (Nat.le_of_ble_eq_true rfl) ⟨Nat.le_of_ble_eq_true rfl, Nat.le_of_ble_eq_true rfl⟩ dL_most_70 (fun L F H locs hX hO => ?_)
  have hO : Ob γ o (mk mo_tb62) 62 L F := hO
  refine lv_iconst (v := 1) hx hb dL_most_73 (by decide) ?_
  refine lv_icmp_ne (tgt := 116) hx hb dL_most_74 (by decide) (fun h9 => absurd (show (1 : Int32) = 1 from (by decide)) h9) (fun _ => ?_)
  exact W.widen (k := 683) (n := 98886) (Nat.le_of_ble_eq_true rfl) (Nat.le_of_ble_eq_true rfl) (kk L F H locs ls hX hO hl)
set_option maxHeartbeats 8000000 in
set_option maxRecDepth 100000 in
theorem mo_11 (hfl : l.stackTraces = false) (hM : kM p s m args meth c cL_most 2 ret "InvoicebridgeLaw") (hE : kE γ A s) (hX : kX γ A s L F H locs) (hO : Ob γ o (mk mo_tb62) 62 L F) (hl : lv_has ls 2 [(1, .int 15), (0, .ref o)])
    (kk : ∀ (L : List Nat) (F : kF) (H : Heap) (locs : List Loc) (ls : Array Slot), kX γ A s L F H locs → Ob γ o (mk mo_tb67) 67 L F → lv_has ls 2 [(1, .int 16), (0, .ref o)] → W p l e (kRm 11 2357 330422) s m args below meth c H locs 740 107398 Q (F0 m 106 ls [])) : W p l e (kRm 11 2357 330422) s m args below meth c H locs 683 98886 Q (F0 m 77 ls []) := by
  have hx := hM.1
  have hb := hM.2.1
  refine lv_aload_n hx hb dL_most_77 rfl (lv_at hl 1 rfl) ?_
  refine lv_iload_n hx hb dL_most_78 rfl (lv_at hl 0 rfl) ?_
  refine lv_sipush (v := 9999) hx hb dL_most_79 (by decide) ?_
  refine lv_bipush (v := 19) hx hb dL_most_82 (by decide) ?_
  refine O_addLine hfl hM hE hX hO hl (f_addLine (r := 2) (by decide +kernel)) (mk_24 _ 0) (by decide) (Nat.le_of_ble_eq_true rfl) ⟨Nat.le_of_ble_eq_true rfl, Nat.le_of_ble_eq_true rfl⟩ dL_most_84 (fun L F H locs hX hO => ?_)
  have hO : Ob γ o (mk mo_tb63) 63 L F := hO
  refine lv_iconst (v := 2) hx hb dL_most_87 (by decide) ?_
  refine lv_icmp_ne (tgt := 116) hx hb dL_most_88 (by decide) (fun h9 => absurd (show (2 : Int32) = 2 from (by decide)) h9) (fun _ => ?_)
  refine lv_aload_n hx hb dL_most_91 rfl (lv_at hl 1 rfl) ?_
  refine lv_iconst (v := 1) hx hb dL_most_92 (by decide) ?_
  refine lv_iload_n hx hb dL_most_93 rfl (lv_at hl 0 rfl) ?_
  refine lv_iconst (v := 1) hx hb dL_most_94 (by decide) ?_
  refine lv_iconst (v := 0) hx hb dL_most_95 (by decide) ?_
  refine lv_iconst (v := 0) hx hb dL_most_96 (by decide) ?_
  refine lv_iconst (v := 0) hx hb dL_most_97 (by decide) ?_
  refine A_no_1 (q := 3) (v := (-7000003)) hfl hM hE hX hO hl (by simp) (by decide +kernel) (by decide) (by decide) ⟨Nat.le_of_ble_eq_true rfl, Nat.le_of_ble_eq_true rfl⟩ dL_most_98 (fun L F H locs hX hO => ?_)
  refine lv_ldc hx hb hM.2.2.2.1 (hM.2.2.2.2.1 _ k_990) dL_most_101 ?_
  refine lv_icmp_ne (tgt := 116) hx hb dL_most_103 (by decide) (fun h9 => absurd (show ((-7000003) : Int32) = (-7000003) from (by decide)) h9) (fun _ => ?_)
  refine lv_aload_n hx hb dL_most_106 rfl (lv_at hl 1 rfl) ?_
  refine lv_iload_n hx hb dL_most_107 rfl (lv_at hl 0 rfl) ?_
  refine O_accept hfl hM hE hX hO hl (f_accept (r := 35694) (by decide +kernel)) (mk_24 _ 0) (by decide) (Nat.le_of_ble_eq_true rfl) ⟨Nat.le_of_ble_eq_true rfl, Nat.le_of_ble_eq_true rfl⟩ dL_most_108 (fun L F H locs hX hO => ?_)
  have hO : Ob γ o (mk mo_tb64) 64 L F := hO
  refine lv_ldc hx hb hM.2.2.2.1 (hM.2.2.2.2.1 _ k_1046) dL_most_111 ?_
  refine lv_icmp_eq (tgt := 118) hx hb dL_most_113 (by decide) (fun _ => ?_) (fun h9 => absurd (show (35694 : Int32) = 35694 from (by decide)) h9)
  refine lv_iinc (v := 16) (lv' := [(1, .int 16), (0, .ref o)]) hx hb dL_most_118 hl (k := 0) rfl (by decide) (by decide) rfl (fun ls hl => ?_)
  refine lv_goto (tgt := 10) hx hb dL_most_121 (by decide) ?_
  refine lv_iload_n hx hb dL_most_10 rfl (lv_at hl 0 rfl) ?_
  refine lv_bipush (v := 21) hx hb dL_most_11 (by decide) ?_
  refine lv_icmp_ge (tgt := 124) hx hb dL_most_13 (by decide) (fun h9 => absurd h9 (show ¬ (21 : Int32) ≤ 16 from (by decide))) (fun _ => ?_)
  refine lv_aload_n hx hb dL_most_16 rfl (lv_at hl 1 rfl) ?_
  refine lv_iconst (v := 0) hx hb dL_most_17 (by decide) ?_
  refine lv_iload_n hx hb dL_most_18 rfl (lv_at hl 0 rfl) ?_
  refine lv_bipush (v := 6) hx hb dL_most_19 (by decide) ?_
  refine lv_irem hx hb dL_most_21 (by decide) ?_
  refine lv_is (y := 4) (by decide) ?_
  refine lv_iload_n hx hb dL_most_22 rfl (lv_at hl 0 rfl) ?_
  refine lv_iconst (v := 1) hx hb dL_most_23 (by decide) ?_
  refine lv_iadd hx hb dL_most_24 ?_
  refine lv_is (y := 17) (by decide) ?_
  refine lv_bipush (v := 6) hx hb dL_most_25 (by decide) ?_
  refine lv_irem hx hb dL_most_27 (by decide) ?_
  refine lv_is (y := 5) (by decide) ?_
  refine lv_iload_n hx hb dL_most_28 rfl (lv_at hl 0 rfl) ?_
  refine lv_bipush (v := 8) hx hb dL_most_29 (by decide) ?_
  refine lv_irem hx hb dL_most_31 (by decide) ?_
  refine lv_is (y := 0) (by decide) ?_
  refine lv_sipush (v := 9999) hx hb dL_most_32 (by decide) ?_
  refine lv_bipush (v := 19) hx hb dL_most_35 (by decide) ?_
  refine A_ok_0 hfl hM hE hX hO hl (f_send (r := 16) (by decide +kernel)) (mk_24 _ 0) (by decide) (by decide) ⟨Nat.le_of_ble_eq_true rfl, Nat.le_of_ble_eq_true rfl⟩ dL_most_37 (fun L F H locs hX hO => ?_)
  have hO : Ob γ o (mk mo_tb65) 65 L F := hO
  refine lv_iload_n hx hb dL_most_40 rfl (lv_at hl 0 rfl) ?_
  refine lv_bipush (v := 20) hx hb dL_most_41 (by decide) ?_
  refine lv_icmp_ge (tgt := 50) hx hb dL_most_43 (by decide) (fun h9 => absurd h9 (show ¬ (20 : Int32) ≤ 16 from (by decide))) (fun _ => ?_)
  refine lv_iload_n hx hb dL_most_46 rfl (lv_at hl 0 rfl) ?_
  refine lv_goto (tgt := 52) hx hb dL_most_47 (by decide) ?_
  refine lv_icmp_eq (tgt := 57) hx hb dL_most_52 (by decide) (fun _ => ?_) (fun h9 => absurd (show (16 : Int32) = 16 from (by decide)) h9)
  refine lv_iload_n hx hb dL_most_57 rfl (lv_at hl 0 rfl) ?_
  refine lv_bipush (v := 20) hx hb dL_most_58 (by decide) ?_
  refine lv_icmp_ge (tgt := 118) hx hb dL_most_60 (by decide) (fun h9 => absurd h9 (show ¬ (20 : Int32) ≤ 16 from (by decide))) (fun _ => ?_)
  refine lv_aload_n hx hb dL_most_63 rfl (lv_at hl 1 rfl) ?_
  refine lv_iload_n hx hb dL_most_64 rfl (lv_at hl 0 rfl) ?_
  refine lv_sipush (v := 9999) hx hb dL_most_65 (by decide) ?_
  refine lv_bipush (v := 19) hx hb dL_most_68 (by decide) ?_
  refine O_addLine hfl hM hE hX hO hl (f_addLine (r := 1) (by decide +kernel)) (mk_24 _ 0) (by decide) (Nat.le_of_ble_eq_true rfl) ⟨Nat.le_of_ble_eq_true rfl, Nat.le_of_ble_eq_true rfl⟩ dL_most_70 (fun L F H locs hX hO => ?_)
  have hO : Ob γ o (mk mo_tb66) 66 L F := hO
  refine lv_iconst (v := 1) hx hb dL_most_73 (by decide) ?_
  refine lv_icmp_ne (tgt := 116) hx hb dL_most_74 (by decide) (fun h9 => absurd (show (1 : Int32) = 1 from (by decide)) h9) (fun _ => ?_)
  refine lv_aload_n hx hb dL_most_77 rfl (lv_at hl 1 rfl) ?_
  refine lv_iload_n hx hb dL_most_78 rfl (lv_at hl 0 rfl) ?_
  refine lv_sipush (v := 9999) hx hb dL_most_79 (by decide) ?_
  refine lv_bipush (v := 19) hx hb dL_most_82 (by decide) ?_
  refine O_addLine hfl hM hE hX hO hl (f_addLine (r := 2) (by decide +kernel)) (mk_24 _ 0) (by decide) (Nat.le_of_ble_eq_true rfl) ⟨Nat.le_of_ble_eq_true rfl, Nat.le_of_ble_eq_true rfl⟩ dL_most_84 (fun L F H locs hX hO => ?_)
  have hO : Ob γ o (mk mo_tb67) 67 L F := hO
  refine lv_iconst (v := 2) hx hb dL_most_87 (by decide) ?_
  refine lv_icmp_ne (tgt := 116) hx hb dL_most_88 (by decide) (fun h9 => absurd (show (2 : Int32) = 2 from (by decide)) h9) (fun _ => ?_)
  refine lv_aload_n hx hb dL_most_91 rfl (lv_at hl 1 rfl) ?_
  refine lv_iconst (v := 1) hx hb dL_most_92 (by decide) ?_
  refine lv_iload_n hx hb dL_most_93 rfl (lv_at hl 0 rfl) ?_
  refine lv_iconst (v := 1) hx hb dL_most_94 (by decide) ?_
  refine lv_iconst (v := 0) hx hb dL_most_95 (by decide) ?_
  refine lv_iconst (v := 0) hx hb dL_most_96 (by decide) ?_
  refine lv_iconst (v := 0) hx hb dL_most_97 (by decide) ?_
  refine A_no_1 (q := 3) (v := (-7000003)) hfl hM hE hX hO hl (by simp) (by decide +kernel) (by decide) (by decide) ⟨Nat.le_of_ble_eq_true rfl, Nat.le_of_ble_eq_true rfl⟩ dL_most_98 (fun L F H locs hX hO => ?_)
  refine lv_ldc hx hb hM.2.2.2.1 (hM.2.2.2.2.1 _ k_990) dL_most_101 ?_
  refine lv_icmp_ne (tgt := 116) hx hb dL_most_103 (by decide) (fun h9 => absurd (show ((-7000003) : Int32) = (-7000003) from (by decide)) h9) (fun _ => ?_)
  exact W.widen (k := 740) (n := 107398) (Nat.le_of_ble_eq_true rfl) (Nat.le_of_ble_eq_true rfl) (kk L F H locs ls hX hO hl)
set_option maxHeartbeats 8000000 in
set_option maxRecDepth 100000 in
theorem mo_12 (hfl : l.stackTraces = false) (hM : kM p s m args meth c cL_most 2 ret "InvoicebridgeLaw") (hE : kE γ A s) (hX : kX γ A s L F H locs) (hO : Ob γ o (mk mo_tb67) 67 L F) (hl : lv_has ls 2 [(1, .int 16), (0, .ref o)])
    (kk : ∀ (L : List Nat) (F : kF) (H : Heap) (locs : List Loc) (ls : Array Slot), kX γ A s L F H locs → Ob γ o (mk mo_tb73) 73 L F → lv_has ls 2 [(1, .int 18), (0, .ref o)] → W p l e (kRm 11 2357 330422) s m args below meth c H locs 805 116722 Q (F0 m 57 ls [])) : W p l e (kRm 11 2357 330422) s m args below meth c H locs 740 107398 Q (F0 m 106 ls []) := by
  have hx := hM.1
  have hb := hM.2.1
  refine lv_aload_n hx hb dL_most_106 rfl (lv_at hl 1 rfl) ?_
  refine lv_iload_n hx hb dL_most_107 rfl (lv_at hl 0 rfl) ?_
  refine O_accept hfl hM hE hX hO hl (f_accept (r := 35694) (by decide +kernel)) (mk_24 _ 0) (by decide) (Nat.le_of_ble_eq_true rfl) ⟨Nat.le_of_ble_eq_true rfl, Nat.le_of_ble_eq_true rfl⟩ dL_most_108 (fun L F H locs hX hO => ?_)
  have hO : Ob γ o (mk mo_tb68) 68 L F := hO
  refine lv_ldc hx hb hM.2.2.2.1 (hM.2.2.2.2.1 _ k_1046) dL_most_111 ?_
  refine lv_icmp_eq (tgt := 118) hx hb dL_most_113 (by decide) (fun _ => ?_) (fun h9 => absurd (show (35694 : Int32) = 35694 from (by decide)) h9)
  refine lv_iinc (v := 17) (lv' := [(1, .int 17), (0, .ref o)]) hx hb dL_most_118 hl (k := 0) rfl (by decide) (by decide) rfl (fun ls hl => ?_)
  refine lv_goto (tgt := 10) hx hb dL_most_121 (by decide) ?_
  refine lv_iload_n hx hb dL_most_10 rfl (lv_at hl 0 rfl) ?_
  refine lv_bipush (v := 21) hx hb dL_most_11 (by decide) ?_
  refine lv_icmp_ge (tgt := 124) hx hb dL_most_13 (by decide) (fun h9 => absurd h9 (show ¬ (21 : Int32) ≤ 17 from (by decide))) (fun _ => ?_)
  refine lv_aload_n hx hb dL_most_16 rfl (lv_at hl 1 rfl) ?_
  refine lv_iconst (v := 0) hx hb dL_most_17 (by decide) ?_
  refine lv_iload_n hx hb dL_most_18 rfl (lv_at hl 0 rfl) ?_
  refine lv_bipush (v := 6) hx hb dL_most_19 (by decide) ?_
  refine lv_irem hx hb dL_most_21 (by decide) ?_
  refine lv_is (y := 5) (by decide) ?_
  refine lv_iload_n hx hb dL_most_22 rfl (lv_at hl 0 rfl) ?_
  refine lv_iconst (v := 1) hx hb dL_most_23 (by decide) ?_
  refine lv_iadd hx hb dL_most_24 ?_
  refine lv_is (y := 18) (by decide) ?_
  refine lv_bipush (v := 6) hx hb dL_most_25 (by decide) ?_
  refine lv_irem hx hb dL_most_27 (by decide) ?_
  refine lv_is (y := 0) (by decide) ?_
  refine lv_iload_n hx hb dL_most_28 rfl (lv_at hl 0 rfl) ?_
  refine lv_bipush (v := 8) hx hb dL_most_29 (by decide) ?_
  refine lv_irem hx hb dL_most_31 (by decide) ?_
  refine lv_is (y := 1) (by decide) ?_
  refine lv_sipush (v := 9999) hx hb dL_most_32 (by decide) ?_
  refine lv_bipush (v := 19) hx hb dL_most_35 (by decide) ?_
  refine A_ok_0 hfl hM hE hX hO hl (f_send (r := 17) (by decide +kernel)) (mk_24 _ 0) (by decide) (by decide) ⟨Nat.le_of_ble_eq_true rfl, Nat.le_of_ble_eq_true rfl⟩ dL_most_37 (fun L F H locs hX hO => ?_)
  have hO : Ob γ o (mk mo_tb69) 69 L F := hO
  refine lv_iload_n hx hb dL_most_40 rfl (lv_at hl 0 rfl) ?_
  refine lv_bipush (v := 20) hx hb dL_most_41 (by decide) ?_
  refine lv_icmp_ge (tgt := 50) hx hb dL_most_43 (by decide) (fun h9 => absurd h9 (show ¬ (20 : Int32) ≤ 17 from (by decide))) (fun _ => ?_)
  refine lv_iload_n hx hb dL_most_46 rfl (lv_at hl 0 rfl) ?_
  refine lv_goto (tgt := 52) hx hb dL_most_47 (by decide) ?_
  refine lv_icmp_eq (tgt := 57) hx hb dL_most_52 (by decide) (fun _ => ?_) (fun h9 => absurd (show (17 : Int32) = 17 from (by decide)) h9)
  refine lv_iload_n hx hb dL_most_57 rfl (lv_at hl 0 rfl) ?_
  refine lv_bipush (v := 20) hx hb dL_most_58 (by decide) ?_
  refine lv_icmp_ge (tgt := 118) hx hb dL_most_60 (by decide) (fun h9 => absurd h9 (show ¬ (20 : Int32) ≤ 17 from (by decide))) (fun _ => ?_)
  refine lv_aload_n hx hb dL_most_63 rfl (lv_at hl 1 rfl) ?_
  refine lv_iload_n hx hb dL_most_64 rfl (lv_at hl 0 rfl) ?_
  refine lv_sipush (v := 9999) hx hb dL_most_65 (by decide) ?_
  refine lv_bipush (v := 19) hx hb dL_most_68 (by decide) ?_
  refine O_addLine hfl hM hE hX hO hl (f_addLine (r := 1) (by decide +kernel)) (mk_24 _ 0) (by decide) (Nat.le_of_ble_eq_true rfl) ⟨Nat.le_of_ble_eq_true rfl, Nat.le_of_ble_eq_true rfl⟩ dL_most_70 (fun L F H locs hX hO => ?_)
  have hO : Ob γ o (mk mo_tb70) 70 L F := hO
  refine lv_iconst (v := 1) hx hb dL_most_73 (by decide) ?_
  refine lv_icmp_ne (tgt := 116) hx hb dL_most_74 (by decide) (fun h9 => absurd (show (1 : Int32) = 1 from (by decide)) h9) (fun _ => ?_)
  refine lv_aload_n hx hb dL_most_77 rfl (lv_at hl 1 rfl) ?_
  refine lv_iload_n hx hb dL_most_78 rfl (lv_at hl 0 rfl) ?_
  refine lv_sipush (v := 9999) hx hb dL_most_79 (by decide) ?_
  refine lv_bipush (v := 19) hx hb dL_most_82 (by decide) ?_
  refine O_addLine hfl hM hE hX hO hl (f_addLine (r := 2) (by decide +kernel)) (mk_24 _ 0) (by decide) (Nat.le_of_ble_eq_true rfl) ⟨Nat.le_of_ble_eq_true rfl, Nat.le_of_ble_eq_true rfl⟩ dL_most_84 (fun L F H locs hX hO => ?_)
  have hO : Ob γ o (mk mo_tb71) 71 L F := hO
  refine lv_iconst (v := 2) hx hb dL_most_87 (by decide) ?_
  refine lv_icmp_ne (tgt := 116) hx hb dL_most_88 (by decide) (fun h9 => absurd (show (2 : Int32) = 2 from (by decide)) h9) (fun _ => ?_)
  refine lv_aload_n hx hb dL_most_91 rfl (lv_at hl 1 rfl) ?_
  refine lv_iconst (v := 1) hx hb dL_most_92 (by decide) ?_
  refine lv_iload_n hx hb dL_most_93 rfl (lv_at hl 0 rfl) ?_
  refine lv_iconst (v := 1) hx hb dL_most_94 (by decide) ?_
  refine lv_iconst (v := 0) hx hb dL_most_95 (by decide) ?_
  refine lv_iconst (v := 0) hx hb dL_most_96 (by decide) ?_
  refine lv_iconst (v := 0) hx hb dL_most_97 (by decide) ?_
  refine A_no_1 (q := 3) (v := (-7000003)) hfl hM hE hX hO hl (by simp) (by decide +kernel) (by decide) (by decide) ⟨Nat.le_of_ble_eq_true rfl, Nat.le_of_ble_eq_true rfl⟩ dL_most_98 (fun L F H locs hX hO => ?_)
  refine lv_ldc hx hb hM.2.2.2.1 (hM.2.2.2.2.1 _ k_990) dL_most_101 ?_
  refine lv_icmp_ne (tgt := 116) hx hb dL_most_103 (by decide) (fun h9 => absurd (show ((-7000003) : Int32) = (-7000003) from (by decide)) h9) (fun _ => ?_)
  refine lv_aload_n hx hb dL_most_106 rfl (lv_at hl 1 rfl) ?_
  refine lv_iload_n hx hb dL_most_107 rfl (lv_at hl 0 rfl) ?_
  refine O_accept hfl hM hE hX hO hl (f_accept (r := 35694) (by decide +kernel)) (mk_24 _ 0) (by decide) (Nat.le_of_ble_eq_true rfl) ⟨Nat.le_of_ble_eq_true rfl, Nat.le_of_ble_eq_true rfl⟩ dL_most_108 (fun L F H locs hX hO => ?_)
  have hO : Ob γ o (mk mo_tb72) 72 L F := hO
  refine lv_ldc hx hb hM.2.2.2.1 (hM.2.2.2.2.1 _ k_1046) dL_most_111 ?_
  refine lv_icmp_eq (tgt := 118) hx hb dL_most_113 (by decide) (fun _ => ?_) (fun h9 => absurd (show (35694 : Int32) = 35694 from (by decide)) h9)
  refine lv_iinc (v := 18) (lv' := [(1, .int 18), (0, .ref o)]) hx hb dL_most_118 hl (k := 0) rfl (by decide) (by decide) rfl (fun ls hl => ?_)
  refine lv_goto (tgt := 10) hx hb dL_most_121 (by decide) ?_
  refine lv_iload_n hx hb dL_most_10 rfl (lv_at hl 0 rfl) ?_
  refine lv_bipush (v := 21) hx hb dL_most_11 (by decide) ?_
  refine lv_icmp_ge (tgt := 124) hx hb dL_most_13 (by decide) (fun h9 => absurd h9 (show ¬ (21 : Int32) ≤ 18 from (by decide))) (fun _ => ?_)
  refine lv_aload_n hx hb dL_most_16 rfl (lv_at hl 1 rfl) ?_
  refine lv_iconst (v := 0) hx hb dL_most_17 (by decide) ?_
  refine lv_iload_n hx hb dL_most_18 rfl (lv_at hl 0 rfl) ?_
  refine lv_bipush (v := 6) hx hb dL_most_19 (by decide) ?_
  refine lv_irem hx hb dL_most_21 (by decide) ?_
  refine lv_is (y := 0) (by decide) ?_
  refine lv_iload_n hx hb dL_most_22 rfl (lv_at hl 0 rfl) ?_
  refine lv_iconst (v := 1) hx hb dL_most_23 (by decide) ?_
  refine lv_iadd hx hb dL_most_24 ?_
  refine lv_is (y := 19) (by decide) ?_
  refine lv_bipush (v := 6) hx hb dL_most_25 (by decide) ?_
  refine lv_irem hx hb dL_most_27 (by decide) ?_
  refine lv_is (y := 1) (by decide) ?_
  refine lv_iload_n hx hb dL_most_28 rfl (lv_at hl 0 rfl) ?_
  refine lv_bipush (v := 8) hx hb dL_most_29 (by decide) ?_
  refine lv_irem hx hb dL_most_31 (by decide) ?_
  refine lv_is (y := 2) (by decide) ?_
  refine lv_sipush (v := 9999) hx hb dL_most_32 (by decide) ?_
  refine lv_bipush (v := 19) hx hb dL_most_35 (by decide) ?_
  refine A_ok_0 hfl hM hE hX hO hl (f_send (r := 18) (by decide +kernel)) (mk_24 _ 0) (by decide) (by decide) ⟨Nat.le_of_ble_eq_true rfl, Nat.le_of_ble_eq_true rfl⟩ dL_most_37 (fun L F H locs hX hO => ?_)
  have hO : Ob γ o (mk mo_tb73) 73 L F := hO
  refine lv_iload_n hx hb dL_most_40 rfl (lv_at hl 0 rfl) ?_
  refine lv_bipush (v := 20) hx hb dL_most_41 (by decide) ?_
  refine lv_icmp_ge (tgt := 50) hx hb dL_most_43 (by decide) (fun h9 => absurd h9 (show ¬ (20 : Int32) ≤ 18 from (by decide))) (fun _ => ?_)
  refine lv_iload_n hx hb dL_most_46 rfl (lv_at hl 0 rfl) ?_
  refine lv_goto (tgt := 52) hx hb dL_most_47 (by decide) ?_
  refine lv_icmp_eq (tgt := 57) hx hb dL_most_52 (by decide) (fun _ => ?_) (fun h9 => absurd (show (18 : Int32) = 18 from (by decide)) h9)
  exact W.widen (k := 805) (n := 116722) (Nat.le_of_ble_eq_true rfl) (Nat.le_of_ble_eq_true rfl) (kk L F H locs ls hX hO hl)
set_option maxHeartbeats 8000000 in
set_option maxRecDepth 100000 in
theorem mo_13 (hfl : l.stackTraces = false) (hM : kM p s m args meth c cL_most 2 ret "InvoicebridgeLaw") (hE : kE γ A s) (hX : kX γ A s L F H locs) (hO : Ob γ o (mk mo_tb73) 73 L F) (hl : lv_has ls 2 [(1, .int 18), (0, .ref o)])
    (kk : ∀ (L : List Nat) (F : kF) (H : Heap) (locs : List Loc) (ls : Array Slot), kX γ A s L F H locs → Ob γ o (mk mo_tb79) 79 L F → lv_has ls 2 [(1, .int 19), (0, .ref o)] → W p l e (kRm 11 2357 330422) s m args below meth c H locs 862 125234 Q (F0 m 91 ls [])) : W p l e (kRm 11 2357 330422) s m args below meth c H locs 805 116722 Q (F0 m 57 ls []) := by
  have hx := hM.1
  have hb := hM.2.1
  refine lv_iload_n hx hb dL_most_57 rfl (lv_at hl 0 rfl) ?_
  refine lv_bipush (v := 20) hx hb dL_most_58 (by decide) ?_
  refine lv_icmp_ge (tgt := 118) hx hb dL_most_60 (by decide) (fun h9 => absurd h9 (show ¬ (20 : Int32) ≤ 18 from (by decide))) (fun _ => ?_)
  refine lv_aload_n hx hb dL_most_63 rfl (lv_at hl 1 rfl) ?_
  refine lv_iload_n hx hb dL_most_64 rfl (lv_at hl 0 rfl) ?_
  refine lv_sipush (v := 9999) hx hb dL_most_65 (by decide) ?_
  refine lv_bipush (v := 19) hx hb dL_most_68 (by decide) ?_
  refine O_addLine hfl hM hE hX hO hl (f_addLine (r := 1) (by decide +kernel)) (mk_24 _ 0) (by decide) (Nat.le_of_ble_eq_true rfl) ⟨Nat.le_of_ble_eq_true rfl, Nat.le_of_ble_eq_true rfl⟩ dL_most_70 (fun L F H locs hX hO => ?_)
  have hO : Ob γ o (mk mo_tb74) 74 L F := hO
  refine lv_iconst (v := 1) hx hb dL_most_73 (by decide) ?_
  refine lv_icmp_ne (tgt := 116) hx hb dL_most_74 (by decide) (fun h9 => absurd (show (1 : Int32) = 1 from (by decide)) h9) (fun _ => ?_)
  refine lv_aload_n hx hb dL_most_77 rfl (lv_at hl 1 rfl) ?_
  refine lv_iload_n hx hb dL_most_78 rfl (lv_at hl 0 rfl) ?_
  refine lv_sipush (v := 9999) hx hb dL_most_79 (by decide) ?_
  refine lv_bipush (v := 19) hx hb dL_most_82 (by decide) ?_
  refine O_addLine hfl hM hE hX hO hl (f_addLine (r := 2) (by decide +kernel)) (mk_24 _ 0) (by decide) (Nat.le_of_ble_eq_true rfl) ⟨Nat.le_of_ble_eq_true rfl, Nat.le_of_ble_eq_true rfl⟩ dL_most_84 (fun L F H locs hX hO => ?_)
  have hO : Ob γ o (mk mo_tb75) 75 L F := hO
  refine lv_iconst (v := 2) hx hb dL_most_87 (by decide) ?_
  refine lv_icmp_ne (tgt := 116) hx hb dL_most_88 (by decide) (fun h9 => absurd (show (2 : Int32) = 2 from (by decide)) h9) (fun _ => ?_)
  refine lv_aload_n hx hb dL_most_91 rfl (lv_at hl 1 rfl) ?_
  refine lv_iconst (v := 1) hx hb dL_most_92 (by decide) ?_
  refine lv_iload_n hx hb dL_most_93 rfl (lv_at hl 0 rfl) ?_
  refine lv_iconst (v := 1) hx hb dL_most_94 (by decide) ?_
  refine lv_iconst (v := 0) hx hb dL_most_95 (by decide) ?_
  refine lv_iconst (v := 0) hx hb dL_most_96 (by decide) ?_
  refine lv_iconst (v := 0) hx hb dL_most_97 (by decide) ?_
  refine A_no_1 (q := 3) (v := (-7000003)) hfl hM hE hX hO hl (by simp) (by decide +kernel) (by decide) (by decide) ⟨Nat.le_of_ble_eq_true rfl, Nat.le_of_ble_eq_true rfl⟩ dL_most_98 (fun L F H locs hX hO => ?_)
  refine lv_ldc hx hb hM.2.2.2.1 (hM.2.2.2.2.1 _ k_990) dL_most_101 ?_
  refine lv_icmp_ne (tgt := 116) hx hb dL_most_103 (by decide) (fun h9 => absurd (show ((-7000003) : Int32) = (-7000003) from (by decide)) h9) (fun _ => ?_)
  refine lv_aload_n hx hb dL_most_106 rfl (lv_at hl 1 rfl) ?_
  refine lv_iload_n hx hb dL_most_107 rfl (lv_at hl 0 rfl) ?_
  refine O_accept hfl hM hE hX hO hl (f_accept (r := 35694) (by decide +kernel)) (mk_24 _ 0) (by decide) (Nat.le_of_ble_eq_true rfl) ⟨Nat.le_of_ble_eq_true rfl, Nat.le_of_ble_eq_true rfl⟩ dL_most_108 (fun L F H locs hX hO => ?_)
  have hO : Ob γ o (mk mo_tb76) 76 L F := hO
  refine lv_ldc hx hb hM.2.2.2.1 (hM.2.2.2.2.1 _ k_1046) dL_most_111 ?_
  refine lv_icmp_eq (tgt := 118) hx hb dL_most_113 (by decide) (fun _ => ?_) (fun h9 => absurd (show (35694 : Int32) = 35694 from (by decide)) h9)
  refine lv_iinc (v := 19) (lv' := [(1, .int 19), (0, .ref o)]) hx hb dL_most_118 hl (k := 0) rfl (by decide) (by decide) rfl (fun ls hl => ?_)
  refine lv_goto (tgt := 10) hx hb dL_most_121 (by decide) ?_
  refine lv_iload_n hx hb dL_most_10 rfl (lv_at hl 0 rfl) ?_
  refine lv_bipush (v := 21) hx hb dL_most_11 (by decide) ?_
  refine lv_icmp_ge (tgt := 124) hx hb dL_most_13 (by decide) (fun h9 => absurd h9 (show ¬ (21 : Int32) ≤ 19 from (by decide))) (fun _ => ?_)
  refine lv_aload_n hx hb dL_most_16 rfl (lv_at hl 1 rfl) ?_
  refine lv_iconst (v := 0) hx hb dL_most_17 (by decide) ?_
  refine lv_iload_n hx hb dL_most_18 rfl (lv_at hl 0 rfl) ?_
  refine lv_bipush (v := 6) hx hb dL_most_19 (by decide) ?_
  refine lv_irem hx hb dL_most_21 (by decide) ?_
  refine lv_is (y := 1) (by decide) ?_
  refine lv_iload_n hx hb dL_most_22 rfl (lv_at hl 0 rfl) ?_
  refine lv_iconst (v := 1) hx hb dL_most_23 (by decide) ?_
  refine lv_iadd hx hb dL_most_24 ?_
  refine lv_is (y := 20) (by decide) ?_
  refine lv_bipush (v := 6) hx hb dL_most_25 (by decide) ?_
  refine lv_irem hx hb dL_most_27 (by decide) ?_
  refine lv_is (y := 2) (by decide) ?_
  refine lv_iload_n hx hb dL_most_28 rfl (lv_at hl 0 rfl) ?_
  refine lv_bipush (v := 8) hx hb dL_most_29 (by decide) ?_
  refine lv_irem hx hb dL_most_31 (by decide) ?_
  refine lv_is (y := 3) (by decide) ?_
  refine lv_sipush (v := 9999) hx hb dL_most_32 (by decide) ?_
  refine lv_bipush (v := 19) hx hb dL_most_35 (by decide) ?_
  refine A_ok_0 hfl hM hE hX hO hl (f_send (r := 19) (by decide +kernel)) (mk_24 _ 0) (by decide) (by decide) ⟨Nat.le_of_ble_eq_true rfl, Nat.le_of_ble_eq_true rfl⟩ dL_most_37 (fun L F H locs hX hO => ?_)
  have hO : Ob γ o (mk mo_tb77) 77 L F := hO
  refine lv_iload_n hx hb dL_most_40 rfl (lv_at hl 0 rfl) ?_
  refine lv_bipush (v := 20) hx hb dL_most_41 (by decide) ?_
  refine lv_icmp_ge (tgt := 50) hx hb dL_most_43 (by decide) (fun h9 => absurd h9 (show ¬ (20 : Int32) ≤ 19 from (by decide))) (fun _ => ?_)
  refine lv_iload_n hx hb dL_most_46 rfl (lv_at hl 0 rfl) ?_
  refine lv_goto (tgt := 52) hx hb dL_most_47 (by decide) ?_
  refine lv_icmp_eq (tgt := 57) hx hb dL_most_52 (by decide) (fun _ => ?_) (fun h9 => absurd (show (19 : Int32) = 19 from (by decide)) h9)
  refine lv_iload_n hx hb dL_most_57 rfl (lv_at hl 0 rfl) ?_
  refine lv_bipush (v := 20) hx hb dL_most_58 (by decide) ?_
  refine lv_icmp_ge (tgt := 118) hx hb dL_most_60 (by decide) (fun h9 => absurd h9 (show ¬ (20 : Int32) ≤ 19 from (by decide))) (fun _ => ?_)
  refine lv_aload_n hx hb dL_most_63 rfl (lv_at hl 1 rfl) ?_
  refine lv_iload_n hx hb dL_most_64 rfl (lv_at hl 0 rfl) ?_
  refine lv_sipush (v := 9999) hx hb dL_most_65 (by decide) ?_
  refine lv_bipush (v := 19) hx hb dL_most_68 (by decide) ?_
  refine O_addLine hfl hM hE hX hO hl (f_addLine (r := 1) (by decide +kernel)) (mk_24 _ 0) (by decide) (Nat.le_of_ble_eq_true rfl) ⟨Nat.le_of_ble_eq_true rfl, Nat.le_of_ble_eq_true rfl⟩ dL_most_70 (fun L F H locs hX hO => ?_)
  have hO : Ob γ o (mk mo_tb78) 78 L F := hO
  refine lv_iconst (v := 1) hx hb dL_most_73 (by decide) ?_
  refine lv_icmp_ne (tgt := 116) hx hb dL_most_74 (by decide) (fun h9 => absurd (show (1 : Int32) = 1 from (by decide)) h9) (fun _ => ?_)
  refine lv_aload_n hx hb dL_most_77 rfl (lv_at hl 1 rfl) ?_
  refine lv_iload_n hx hb dL_most_78 rfl (lv_at hl 0 rfl) ?_
  refine lv_sipush (v := 9999) hx hb dL_most_79 (by decide) ?_
  refine lv_bipush (v := 19) hx hb dL_most_82 (by decide) ?_
  refine O_addLine hfl hM hE hX hO hl (f_addLine (r := 2) (by decide +kernel)) (mk_24 _ 0) (by decide) (Nat.le_of_ble_eq_true rfl) ⟨Nat.le_of_ble_eq_true rfl, Nat.le_of_ble_eq_true rfl⟩ dL_most_84 (fun L F H locs hX hO => ?_)
  have hO : Ob γ o (mk mo_tb79) 79 L F := hO
  refine lv_iconst (v := 2) hx hb dL_most_87 (by decide) ?_
  refine lv_icmp_ne (tgt := 116) hx hb dL_most_88 (by decide) (fun h9 => absurd (show (2 : Int32) = 2 from (by decide)) h9) (fun _ => ?_)
  exact W.widen (k := 862) (n := 125234) (Nat.le_of_ble_eq_true rfl) (Nat.le_of_ble_eq_true rfl) (kk L F H locs ls hX hO hl)
set_option maxHeartbeats 8000000 in
set_option maxRecDepth 100000 in
theorem mo_14 (hfl : l.stackTraces = false) (hM : kM p s m args meth c cL_most 2 ret "InvoicebridgeLaw") (hE : kE γ A s) (hX : kX γ A s L F H locs) (hO : Ob γ o (mk mo_tb79) 79 L F) (hl : lv_has ls 2 [(1, .int 19), (0, .ref o)])
    (kk : ∀ (L : List Nat) (F : kF) (H : Heap) (locs : List Loc) (ls : Array Slot), kX γ A s L F H locs → Ob γ o (mk mo_tb84) 84 L F → lv_has ls 2 [(1, .int 2), (0, .ref o)] → W p l e (kRm 11 2357 330422) s m args below meth c H locs 912 132664 Q (F0 m 182 ls [])) : W p l e (kRm 11 2357 330422) s m args below meth c H locs 862 125234 Q (F0 m 91 ls []) := by
  have hx := hM.1
  have hb := hM.2.1
  refine lv_aload_n hx hb dL_most_91 rfl (lv_at hl 1 rfl) ?_
  refine lv_iconst (v := 1) hx hb dL_most_92 (by decide) ?_
  refine lv_iload_n hx hb dL_most_93 rfl (lv_at hl 0 rfl) ?_
  refine lv_iconst (v := 1) hx hb dL_most_94 (by decide) ?_
  refine lv_iconst (v := 0) hx hb dL_most_95 (by decide) ?_
  refine lv_iconst (v := 0) hx hb dL_most_96 (by decide) ?_
  refine lv_iconst (v := 0) hx hb dL_most_97 (by decide) ?_
  refine A_no_1 (q := 3) (v := (-7000003)) hfl hM hE hX hO hl (by simp) (by decide +kernel) (by decide) (by decide) ⟨Nat.le_of_ble_eq_true rfl, Nat.le_of_ble_eq_true rfl⟩ dL_most_98 (fun L F H locs hX hO => ?_)
  refine lv_ldc hx hb hM.2.2.2.1 (hM.2.2.2.2.1 _ k_990) dL_most_101 ?_
  refine lv_icmp_ne (tgt := 116) hx hb dL_most_103 (by decide) (fun h9 => absurd (show ((-7000003) : Int32) = (-7000003) from (by decide)) h9) (fun _ => ?_)
  refine lv_aload_n hx hb dL_most_106 rfl (lv_at hl 1 rfl) ?_
  refine lv_iload_n hx hb dL_most_107 rfl (lv_at hl 0 rfl) ?_
  refine O_accept hfl hM hE hX hO hl (f_accept (r := 35694) (by decide +kernel)) (mk_24 _ 0) (by decide) (Nat.le_of_ble_eq_true rfl) ⟨Nat.le_of_ble_eq_true rfl, Nat.le_of_ble_eq_true rfl⟩ dL_most_108 (fun L F H locs hX hO => ?_)
  have hO : Ob γ o (mk mo_tb80) 80 L F := hO
  refine lv_ldc hx hb hM.2.2.2.1 (hM.2.2.2.2.1 _ k_1046) dL_most_111 ?_
  refine lv_icmp_eq (tgt := 118) hx hb dL_most_113 (by decide) (fun _ => ?_) (fun h9 => absurd (show (35694 : Int32) = 35694 from (by decide)) h9)
  refine lv_iinc (v := 20) (lv' := [(1, .int 20), (0, .ref o)]) hx hb dL_most_118 hl (k := 0) rfl (by decide) (by decide) rfl (fun ls hl => ?_)
  refine lv_goto (tgt := 10) hx hb dL_most_121 (by decide) ?_
  refine lv_iload_n hx hb dL_most_10 rfl (lv_at hl 0 rfl) ?_
  refine lv_bipush (v := 21) hx hb dL_most_11 (by decide) ?_
  refine lv_icmp_ge (tgt := 124) hx hb dL_most_13 (by decide) (fun h9 => absurd h9 (show ¬ (21 : Int32) ≤ 20 from (by decide))) (fun _ => ?_)
  refine lv_aload_n hx hb dL_most_16 rfl (lv_at hl 1 rfl) ?_
  refine lv_iconst (v := 0) hx hb dL_most_17 (by decide) ?_
  refine lv_iload_n hx hb dL_most_18 rfl (lv_at hl 0 rfl) ?_
  refine lv_bipush (v := 6) hx hb dL_most_19 (by decide) ?_
  refine lv_irem hx hb dL_most_21 (by decide) ?_
  refine lv_is (y := 2) (by decide) ?_
  refine lv_iload_n hx hb dL_most_22 rfl (lv_at hl 0 rfl) ?_
  refine lv_iconst (v := 1) hx hb dL_most_23 (by decide) ?_
  refine lv_iadd hx hb dL_most_24 ?_
  refine lv_is (y := 21) (by decide) ?_
  refine lv_bipush (v := 6) hx hb dL_most_25 (by decide) ?_
  refine lv_irem hx hb dL_most_27 (by decide) ?_
  refine lv_is (y := 3) (by decide) ?_
  refine lv_iload_n hx hb dL_most_28 rfl (lv_at hl 0 rfl) ?_
  refine lv_bipush (v := 8) hx hb dL_most_29 (by decide) ?_
  refine lv_irem hx hb dL_most_31 (by decide) ?_
  refine lv_is (y := 4) (by decide) ?_
  refine lv_sipush (v := 9999) hx hb dL_most_32 (by decide) ?_
  refine lv_bipush (v := 19) hx hb dL_most_35 (by decide) ?_
  refine A_no_0 (q := 3) (v := (-7000003)) hfl hM hE hX hO hl (by simp) (by decide +kernel) (by decide) (by decide) ⟨Nat.le_of_ble_eq_true rfl, Nat.le_of_ble_eq_true rfl⟩ dL_most_37 (fun L F H locs hX hO => ?_)
  refine lv_iload_n hx hb dL_most_40 rfl (lv_at hl 0 rfl) ?_
  refine lv_bipush (v := 20) hx hb dL_most_41 (by decide) ?_
  refine lv_icmp_ge (tgt := 50) hx hb dL_most_43 (by decide) (fun _ => ?_) (fun h9 => absurd (show (20 : Int32) ≤ 20 from (by decide)) h9)
  refine lv_ldc hx hb hM.2.2.2.1 (hM.2.2.2.2.1 _ k_990) dL_most_50 ?_
  refine lv_icmp_eq (tgt := 57) hx hb dL_most_52 (by decide) (fun _ => ?_) (fun h9 => absurd (show ((-7000003) : Int32) = (-7000003) from (by decide)) h9)
  refine lv_iload_n hx hb dL_most_57 rfl (lv_at hl 0 rfl) ?_
  refine lv_bipush (v := 20) hx hb dL_most_58 (by decide) ?_
  refine lv_icmp_ge (tgt := 118) hx hb dL_most_60 (by decide) (fun _ => ?_) (fun h9 => absurd (show (20 : Int32) ≤ 20 from (by decide)) h9)
  refine lv_iinc (v := 21) (lv' := [(1, .int 21), (0, .ref o)]) hx hb dL_most_118 hl (k := 0) rfl (by decide) (by decide) rfl (fun ls hl => ?_)
  refine lv_goto (tgt := 10) hx hb dL_most_121 (by decide) ?_
  refine lv_iload_n hx hb dL_most_10 rfl (lv_at hl 0 rfl) ?_
  refine lv_bipush (v := 21) hx hb dL_most_11 (by decide) ?_
  refine lv_icmp_ge (tgt := 124) hx hb dL_most_13 (by decide) (fun _ => ?_) (fun h9 => absurd (show (21 : Int32) ≤ 21 from (by decide)) h9)
  refine lv_aload_n hx hb dL_most_124 rfl (lv_at hl 1 rfl) ?_
  refine lv_bipush (v := 19) hx hb dL_most_125 (by decide) ?_
  refine lv_iconst (v := 2) hx hb dL_most_127 (by decide) ?_
  refine O_dispute hfl hM hE hX hO hl (f_dispute (r := 23796) (by decide +kernel)) (mk_24 _ 0) (by decide) (Nat.le_of_ble_eq_true rfl) ⟨Nat.le_of_ble_eq_true rfl, Nat.le_of_ble_eq_true rfl⟩ dL_most_128 (fun L F H locs hX hO => ?_)
  have hO : Ob γ o (mk mo_tb81) 81 L F := hO
  refine lv_sipush (v := 23796) hx hb dL_most_131 (by decide) ?_
  refine lv_icmp_eq (tgt := 139) hx hb dL_most_134 (by decide) (fun _ => ?_) (fun h9 => absurd (show (23796 : Int32) = 23796 from (by decide)) h9)
  refine lv_iconst (v := 0) hx hb dL_most_139 (by decide) ?_
  refine lv_istore_n (lv' := [(1, .int 0), (0, .ref o)]) hx hb dL_most_140 rfl hl (by decide) rfl (fun ls hl => ?_)
  refine lv_iload_n hx hb dL_most_141 rfl (lv_at hl 0 rfl) ?_
  refine lv_bipush (v := 25) hx hb dL_most_142 (by decide) ?_
  refine lv_icmp_ge (tgt := 188) hx hb dL_most_144 (by decide) (fun h9 => absurd h9 (show ¬ (25 : Int32) ≤ 0 from (by decide))) (fun _ => ?_)
  refine lv_aload_n hx hb dL_most_147 rfl (lv_at hl 1 rfl) ?_
  refine lv_iconst (v := 4) hx hb dL_most_148 (by decide) ?_
  refine lv_iload_n hx hb dL_most_149 rfl (lv_at hl 0 rfl) ?_
  refine lv_bipush (v := 20) hx hb dL_most_150 (by decide) ?_
  refine lv_irem hx hb dL_most_152 (by decide) ?_
  refine lv_is (y := 0) (by decide) ?_
  refine lv_iload_n hx hb dL_most_153 rfl (lv_at hl 0 rfl) ?_
  refine lv_bipush (v := 20) hx hb dL_most_154 (by decide) ?_
  refine lv_idiv hx hb dL_most_156 (by decide) ?_
  refine lv_is (y := 0) (by decide) ?_
  refine lv_iconst (v := 1) hx hb dL_most_157 (by decide) ?_
  refine lv_iconst (v := 0) hx hb dL_most_158 (by decide) ?_
  refine lv_iconst (v := 0) hx hb dL_most_159 (by decide) ?_
  refine A_ok_4 hfl hM hE hX hO hl (f_credit (r := 9998) (by decide +kernel)) (mk_24 _ 0) (by decide) (by decide) ⟨Nat.le_of_ble_eq_true rfl, Nat.le_of_ble_eq_true rfl⟩ dL_most_160 (fun L F H locs hX hO => ?_)
  have hO : Ob γ o (mk mo_tb82) 82 L F := hO
  refine lv_iload_n hx hb dL_most_163 rfl (lv_at hl 0 rfl) ?_
  refine lv_bipush (v := 24) hx hb dL_most_164 (by decide) ?_
  refine lv_icmp_ge (tgt := 175) hx hb dL_most_166 (by decide) (fun h9 => absurd h9 (show ¬ (24 : Int32) ≤ 0 from (by decide))) (fun _ => ?_)
  refine lv_sipush (v := 9998) hx hb dL_most_169 (by decide) ?_
  refine lv_goto (tgt := 177) hx hb dL_most_172 (by decide) ?_
  refine lv_icmp_eq (tgt := 182) hx hb dL_most_177 (by decide) (fun _ => ?_) (fun h9 => absurd (show (9998 : Int32) = 9998 from (by decide)) h9)
  refine lv_iinc (v := 1) (lv' := [(1, .int 1), (0, .ref o)]) hx hb dL_most_182 hl (k := 0) rfl (by decide) (by decide) rfl (fun ls hl => ?_)
  refine lv_goto (tgt := 141) hx hb dL_most_185 (by decide) ?_
  refine lv_iload_n hx hb dL_most_141 rfl (lv_at hl 0 rfl) ?_
  refine lv_bipush (v := 25) hx hb dL_most_142 (by decide) ?_
  refine lv_icmp_ge (tgt := 188) hx hb dL_most_144 (by decide) (fun h9 => absurd h9 (show ¬ (25 : Int32) ≤ 1 from (by decide))) (fun _ => ?_)
  refine lv_aload_n hx hb dL_most_147 rfl (lv_at hl 1 rfl) ?_
  refine lv_iconst (v := 4) hx hb dL_most_148 (by decide) ?_
  refine lv_iload_n hx hb dL_most_149 rfl (lv_at hl 0 rfl) ?_
  refine lv_bipush (v := 20) hx hb dL_most_150 (by decide) ?_
  refine lv_irem hx hb dL_most_152 (by decide) ?_
  refine lv_is (y := 1) (by decide) ?_
  refine lv_iload_n hx hb dL_most_153 rfl (lv_at hl 0 rfl) ?_
  refine lv_bipush (v := 20) hx hb dL_most_154 (by decide) ?_
  refine lv_idiv hx hb dL_most_156 (by decide) ?_
  refine lv_is (y := 0) (by decide) ?_
  refine lv_iconst (v := 1) hx hb dL_most_157 (by decide) ?_
  refine lv_iconst (v := 0) hx hb dL_most_158 (by decide) ?_
  refine lv_iconst (v := 0) hx hb dL_most_159 (by decide) ?_
  refine A_ok_4 hfl hM hE hX hO hl (f_credit (r := 9998) (by decide +kernel)) (mk_24 _ 0) (by decide) (by decide) ⟨Nat.le_of_ble_eq_true rfl, Nat.le_of_ble_eq_true rfl⟩ dL_most_160 (fun L F H locs hX hO => ?_)
  have hO : Ob γ o (mk mo_tb83) 83 L F := hO
  refine lv_iload_n hx hb dL_most_163 rfl (lv_at hl 0 rfl) ?_
  refine lv_bipush (v := 24) hx hb dL_most_164 (by decide) ?_
  refine lv_icmp_ge (tgt := 175) hx hb dL_most_166 (by decide) (fun h9 => absurd h9 (show ¬ (24 : Int32) ≤ 1 from (by decide))) (fun _ => ?_)
  refine lv_sipush (v := 9998) hx hb dL_most_169 (by decide) ?_
  refine lv_goto (tgt := 177) hx hb dL_most_172 (by decide) ?_
  refine lv_icmp_eq (tgt := 182) hx hb dL_most_177 (by decide) (fun _ => ?_) (fun h9 => absurd (show (9998 : Int32) = 9998 from (by decide)) h9)
  refine lv_iinc (v := 2) (lv' := [(1, .int 2), (0, .ref o)]) hx hb dL_most_182 hl (k := 0) rfl (by decide) (by decide) rfl (fun ls hl => ?_)
  refine lv_goto (tgt := 141) hx hb dL_most_185 (by decide) ?_
  refine lv_iload_n hx hb dL_most_141 rfl (lv_at hl 0 rfl) ?_
  refine lv_bipush (v := 25) hx hb dL_most_142 (by decide) ?_
  refine lv_icmp_ge (tgt := 188) hx hb dL_most_144 (by decide) (fun h9 => absurd h9 (show ¬ (25 : Int32) ≤ 2 from (by decide))) (fun _ => ?_)
  refine lv_aload_n hx hb dL_most_147 rfl (lv_at hl 1 rfl) ?_
  refine lv_iconst (v := 4) hx hb dL_most_148 (by decide) ?_
  refine lv_iload_n hx hb dL_most_149 rfl (lv_at hl 0 rfl) ?_
  refine lv_bipush (v := 20) hx hb dL_most_150 (by decide) ?_
  refine lv_irem hx hb dL_most_152 (by decide) ?_
  refine lv_is (y := 2) (by decide) ?_
  refine lv_iload_n hx hb dL_most_153 rfl (lv_at hl 0 rfl) ?_
  refine lv_bipush (v := 20) hx hb dL_most_154 (by decide) ?_
  refine lv_idiv hx hb dL_most_156 (by decide) ?_
  refine lv_is (y := 0) (by decide) ?_
  refine lv_iconst (v := 1) hx hb dL_most_157 (by decide) ?_
  refine lv_iconst (v := 0) hx hb dL_most_158 (by decide) ?_
  refine lv_iconst (v := 0) hx hb dL_most_159 (by decide) ?_
  refine A_ok_4 hfl hM hE hX hO hl (f_credit (r := 9998) (by decide +kernel)) (mk_24 _ 0) (by decide) (by decide) ⟨Nat.le_of_ble_eq_true rfl, Nat.le_of_ble_eq_true rfl⟩ dL_most_160 (fun L F H locs hX hO => ?_)
  have hO : Ob γ o (mk mo_tb84) 84 L F := hO
  refine lv_iload_n hx hb dL_most_163 rfl (lv_at hl 0 rfl) ?_
  refine lv_bipush (v := 24) hx hb dL_most_164 (by decide) ?_
  refine lv_icmp_ge (tgt := 175) hx hb dL_most_166 (by decide) (fun h9 => absurd h9 (show ¬ (24 : Int32) ≤ 2 from (by decide))) (fun _ => ?_)
  refine lv_sipush (v := 9998) hx hb dL_most_169 (by decide) ?_
  refine lv_goto (tgt := 177) hx hb dL_most_172 (by decide) ?_
  refine lv_icmp_eq (tgt := 182) hx hb dL_most_177 (by decide) (fun _ => ?_) (fun h9 => absurd (show (9998 : Int32) = 9998 from (by decide)) h9)
  exact W.widen (k := 912) (n := 132664) (Nat.le_of_ble_eq_true rfl) (Nat.le_of_ble_eq_true rfl) (kk L F H locs ls hX hO hl)
set_option maxHeartbeats 8000000 in
set_option maxRecDepth 100000 in
theorem mo_15 (hfl : l.stackTraces = false) (hM : kM p s m args meth c cL_most 2 ret "InvoicebridgeLaw") (hE : kE γ A s) (hX : kX γ A s L F H locs) (hO : Ob γ o (mk mo_tb84) 84 L F) (hl : lv_has ls 2 [(1, .int 2), (0, .ref o)])
    (kk : ∀ (L : List Nat) (F : kF) (H : Heap) (locs : List Loc) (ls : Array Slot), kX γ A s L F H locs → Ob γ o (mk mo_tb91) 91 L F → lv_has ls 2 [(1, .int 9), (0, .ref o)] → W p l e (kRm 11 2357 330422) s m args below meth c H locs 954 140364 Q (F0 m 182 ls [])) : W p l e (kRm 11 2357 330422) s m args below meth c H locs 912 132664 Q (F0 m 182 ls []) := by
  have hx := hM.1
  have hb := hM.2.1
  refine lv_iinc (v := 3) (lv' := [(1, .int 3), (0, .ref o)]) hx hb dL_most_182 hl (k := 0) rfl (by decide) (by decide) rfl (fun ls hl => ?_)
  refine lv_goto (tgt := 141) hx hb dL_most_185 (by decide) ?_
  refine lv_iload_n hx hb dL_most_141 rfl (lv_at hl 0 rfl) ?_
  refine lv_bipush (v := 25) hx hb dL_most_142 (by decide) ?_
  refine lv_icmp_ge (tgt := 188) hx hb dL_most_144 (by decide) (fun h9 => absurd h9 (show ¬ (25 : Int32) ≤ 3 from (by decide))) (fun _ => ?_)
  refine lv_aload_n hx hb dL_most_147 rfl (lv_at hl 1 rfl) ?_
  refine lv_iconst (v := 4) hx hb dL_most_148 (by decide) ?_
  refine lv_iload_n hx hb dL_most_149 rfl (lv_at hl 0 rfl) ?_
  refine lv_bipush (v := 20) hx hb dL_most_150 (by decide) ?_
  refine lv_irem hx hb dL_most_152 (by decide) ?_
  refine lv_is (y := 3) (by decide) ?_
  refine lv_iload_n hx hb dL_most_153 rfl (lv_at hl 0 rfl) ?_
  refine lv_bipush (v := 20) hx hb dL_most_154 (by decide) ?_
  refine lv_idiv hx hb dL_most_156 (by decide) ?_
  refine lv_is (y := 0) (by decide) ?_
  refine lv_iconst (v := 1) hx hb dL_most_157 (by decide) ?_
  refine lv_iconst (v := 0) hx hb dL_most_158 (by decide) ?_
  refine lv_iconst (v := 0) hx hb dL_most_159 (by decide) ?_
  refine A_ok_4 hfl hM hE hX hO hl (f_credit (r := 9998) (by decide +kernel)) (mk_24 _ 0) (by decide) (by decide) ⟨Nat.le_of_ble_eq_true rfl, Nat.le_of_ble_eq_true rfl⟩ dL_most_160 (fun L F H locs hX hO => ?_)
  have hO : Ob γ o (mk mo_tb85) 85 L F := hO
  refine lv_iload_n hx hb dL_most_163 rfl (lv_at hl 0 rfl) ?_
  refine lv_bipush (v := 24) hx hb dL_most_164 (by decide) ?_
  refine lv_icmp_ge (tgt := 175) hx hb dL_most_166 (by decide) (fun h9 => absurd h9 (show ¬ (24 : Int32) ≤ 3 from (by decide))) (fun _ => ?_)
  refine lv_sipush (v := 9998) hx hb dL_most_169 (by decide) ?_
  refine lv_goto (tgt := 177) hx hb dL_most_172 (by decide) ?_
  refine lv_icmp_eq (tgt := 182) hx hb dL_most_177 (by decide) (fun _ => ?_) (fun h9 => absurd (show (9998 : Int32) = 9998 from (by decide)) h9)
  refine lv_iinc (v := 4) (lv' := [(1, .int 4), (0, .ref o)]) hx hb dL_most_182 hl (k := 0) rfl (by decide) (by decide) rfl (fun ls hl => ?_)
  refine lv_goto (tgt := 141) hx hb dL_most_185 (by decide) ?_
  refine lv_iload_n hx hb dL_most_141 rfl (lv_at hl 0 rfl) ?_
  refine lv_bipush (v := 25) hx hb dL_most_142 (by decide) ?_
  refine lv_icmp_ge (tgt := 188) hx hb dL_most_144 (by decide) (fun h9 => absurd h9 (show ¬ (25 : Int32) ≤ 4 from (by decide))) (fun _ => ?_)
  refine lv_aload_n hx hb dL_most_147 rfl (lv_at hl 1 rfl) ?_
  refine lv_iconst (v := 4) hx hb dL_most_148 (by decide) ?_
  refine lv_iload_n hx hb dL_most_149 rfl (lv_at hl 0 rfl) ?_
  refine lv_bipush (v := 20) hx hb dL_most_150 (by decide) ?_
  refine lv_irem hx hb dL_most_152 (by decide) ?_
  refine lv_is (y := 4) (by decide) ?_
  refine lv_iload_n hx hb dL_most_153 rfl (lv_at hl 0 rfl) ?_
  refine lv_bipush (v := 20) hx hb dL_most_154 (by decide) ?_
  refine lv_idiv hx hb dL_most_156 (by decide) ?_
  refine lv_is (y := 0) (by decide) ?_
  refine lv_iconst (v := 1) hx hb dL_most_157 (by decide) ?_
  refine lv_iconst (v := 0) hx hb dL_most_158 (by decide) ?_
  refine lv_iconst (v := 0) hx hb dL_most_159 (by decide) ?_
  refine A_ok_4 hfl hM hE hX hO hl (f_credit (r := 9998) (by decide +kernel)) (mk_24 _ 0) (by decide) (by decide) ⟨Nat.le_of_ble_eq_true rfl, Nat.le_of_ble_eq_true rfl⟩ dL_most_160 (fun L F H locs hX hO => ?_)
  have hO : Ob γ o (mk mo_tb86) 86 L F := hO
  refine lv_iload_n hx hb dL_most_163 rfl (lv_at hl 0 rfl) ?_
  refine lv_bipush (v := 24) hx hb dL_most_164 (by decide) ?_
  refine lv_icmp_ge (tgt := 175) hx hb dL_most_166 (by decide) (fun h9 => absurd h9 (show ¬ (24 : Int32) ≤ 4 from (by decide))) (fun _ => ?_)
  refine lv_sipush (v := 9998) hx hb dL_most_169 (by decide) ?_
  refine lv_goto (tgt := 177) hx hb dL_most_172 (by decide) ?_
  refine lv_icmp_eq (tgt := 182) hx hb dL_most_177 (by decide) (fun _ => ?_) (fun h9 => absurd (show (9998 : Int32) = 9998 from (by decide)) h9)
  refine lv_iinc (v := 5) (lv' := [(1, .int 5), (0, .ref o)]) hx hb dL_most_182 hl (k := 0) rfl (by decide) (by decide) rfl (fun ls hl => ?_)
  refine lv_goto (tgt := 141) hx hb dL_most_185 (by decide) ?_
  refine lv_iload_n hx hb dL_most_141 rfl (lv_at hl 0 rfl) ?_
  refine lv_bipush (v := 25) hx hb dL_most_142 (by decide) ?_
  refine lv_icmp_ge (tgt := 188) hx hb dL_most_144 (by decide) (fun h9 => absurd h9 (show ¬ (25 : Int32) ≤ 5 from (by decide))) (fun _ => ?_)
  refine lv_aload_n hx hb dL_most_147 rfl (lv_at hl 1 rfl) ?_
  refine lv_iconst (v := 4) hx hb dL_most_148 (by decide) ?_
  refine lv_iload_n hx hb dL_most_149 rfl (lv_at hl 0 rfl) ?_
  refine lv_bipush (v := 20) hx hb dL_most_150 (by decide) ?_
  refine lv_irem hx hb dL_most_152 (by decide) ?_
  refine lv_is (y := 5) (by decide) ?_
  refine lv_iload_n hx hb dL_most_153 rfl (lv_at hl 0 rfl) ?_
  refine lv_bipush (v := 20) hx hb dL_most_154 (by decide) ?_
  refine lv_idiv hx hb dL_most_156 (by decide) ?_
  refine lv_is (y := 0) (by decide) ?_
  refine lv_iconst (v := 1) hx hb dL_most_157 (by decide) ?_
  refine lv_iconst (v := 0) hx hb dL_most_158 (by decide) ?_
  refine lv_iconst (v := 0) hx hb dL_most_159 (by decide) ?_
  refine A_ok_4 hfl hM hE hX hO hl (f_credit (r := 9998) (by decide +kernel)) (mk_24 _ 0) (by decide) (by decide) ⟨Nat.le_of_ble_eq_true rfl, Nat.le_of_ble_eq_true rfl⟩ dL_most_160 (fun L F H locs hX hO => ?_)
  have hO : Ob γ o (mk mo_tb87) 87 L F := hO
  refine lv_iload_n hx hb dL_most_163 rfl (lv_at hl 0 rfl) ?_
  refine lv_bipush (v := 24) hx hb dL_most_164 (by decide) ?_
  refine lv_icmp_ge (tgt := 175) hx hb dL_most_166 (by decide) (fun h9 => absurd h9 (show ¬ (24 : Int32) ≤ 5 from (by decide))) (fun _ => ?_)
  refine lv_sipush (v := 9998) hx hb dL_most_169 (by decide) ?_
  refine lv_goto (tgt := 177) hx hb dL_most_172 (by decide) ?_
  refine lv_icmp_eq (tgt := 182) hx hb dL_most_177 (by decide) (fun _ => ?_) (fun h9 => absurd (show (9998 : Int32) = 9998 from (by decide)) h9)
  refine lv_iinc (v := 6) (lv' := [(1, .int 6), (0, .ref o)]) hx hb dL_most_182 hl (k := 0) rfl (by decide) (by decide) rfl (fun ls hl => ?_)
  refine lv_goto (tgt := 141) hx hb dL_most_185 (by decide) ?_
  refine lv_iload_n hx hb dL_most_141 rfl (lv_at hl 0 rfl) ?_
  refine lv_bipush (v := 25) hx hb dL_most_142 (by decide) ?_
  refine lv_icmp_ge (tgt := 188) hx hb dL_most_144 (by decide) (fun h9 => absurd h9 (show ¬ (25 : Int32) ≤ 6 from (by decide))) (fun _ => ?_)
  refine lv_aload_n hx hb dL_most_147 rfl (lv_at hl 1 rfl) ?_
  refine lv_iconst (v := 4) hx hb dL_most_148 (by decide) ?_
  refine lv_iload_n hx hb dL_most_149 rfl (lv_at hl 0 rfl) ?_
  refine lv_bipush (v := 20) hx hb dL_most_150 (by decide) ?_
  refine lv_irem hx hb dL_most_152 (by decide) ?_
  refine lv_is (y := 6) (by decide) ?_
  refine lv_iload_n hx hb dL_most_153 rfl (lv_at hl 0 rfl) ?_
  refine lv_bipush (v := 20) hx hb dL_most_154 (by decide) ?_
  refine lv_idiv hx hb dL_most_156 (by decide) ?_
  refine lv_is (y := 0) (by decide) ?_
  refine lv_iconst (v := 1) hx hb dL_most_157 (by decide) ?_
  refine lv_iconst (v := 0) hx hb dL_most_158 (by decide) ?_
  refine lv_iconst (v := 0) hx hb dL_most_159 (by decide) ?_
  refine A_ok_4 hfl hM hE hX hO hl (f_credit (r := 9998) (by decide +kernel)) (mk_24 _ 0) (by decide) (by decide) ⟨Nat.le_of_ble_eq_true rfl, Nat.le_of_ble_eq_true rfl⟩ dL_most_160 (fun L F H locs hX hO => ?_)
  have hO : Ob γ o (mk mo_tb88) 88 L F := hO
  refine lv_iload_n hx hb dL_most_163 rfl (lv_at hl 0 rfl) ?_
  refine lv_bipush (v := 24) hx hb dL_most_164 (by decide) ?_
  refine lv_icmp_ge (tgt := 175) hx hb dL_most_166 (by decide) (fun h9 => absurd h9 (show ¬ (24 : Int32) ≤ 6 from (by decide))) (fun _ => ?_)
  refine lv_sipush (v := 9998) hx hb dL_most_169 (by decide) ?_
  refine lv_goto (tgt := 177) hx hb dL_most_172 (by decide) ?_
  refine lv_icmp_eq (tgt := 182) hx hb dL_most_177 (by decide) (fun _ => ?_) (fun h9 => absurd (show (9998 : Int32) = 9998 from (by decide)) h9)
  refine lv_iinc (v := 7) (lv' := [(1, .int 7), (0, .ref o)]) hx hb dL_most_182 hl (k := 0) rfl (by decide) (by decide) rfl (fun ls hl => ?_)
  refine lv_goto (tgt := 141) hx hb dL_most_185 (by decide) ?_
  refine lv_iload_n hx hb dL_most_141 rfl (lv_at hl 0 rfl) ?_
  refine lv_bipush (v := 25) hx hb dL_most_142 (by decide) ?_
  refine lv_icmp_ge (tgt := 188) hx hb dL_most_144 (by decide) (fun h9 => absurd h9 (show ¬ (25 : Int32) ≤ 7 from (by decide))) (fun _ => ?_)
  refine lv_aload_n hx hb dL_most_147 rfl (lv_at hl 1 rfl) ?_
  refine lv_iconst (v := 4) hx hb dL_most_148 (by decide) ?_
  refine lv_iload_n hx hb dL_most_149 rfl (lv_at hl 0 rfl) ?_
  refine lv_bipush (v := 20) hx hb dL_most_150 (by decide) ?_
  refine lv_irem hx hb dL_most_152 (by decide) ?_
  refine lv_is (y := 7) (by decide) ?_
  refine lv_iload_n hx hb dL_most_153 rfl (lv_at hl 0 rfl) ?_
  refine lv_bipush (v := 20) hx hb dL_most_154 (by decide) ?_
  refine lv_idiv hx hb dL_most_156 (by decide) ?_
  refine lv_is (y := 0) (by decide) ?_
  refine lv_iconst (v := 1) hx hb dL_most_157 (by decide) ?_
  refine lv_iconst (v := 0) hx hb dL_most_158 (by decide) ?_
  refine lv_iconst (v := 0) hx hb dL_most_159 (by decide) ?_
  refine A_ok_4 hfl hM hE hX hO hl (f_credit (r := 9998) (by decide +kernel)) (mk_24 _ 0) (by decide) (by decide) ⟨Nat.le_of_ble_eq_true rfl, Nat.le_of_ble_eq_true rfl⟩ dL_most_160 (fun L F H locs hX hO => ?_)
  have hO : Ob γ o (mk mo_tb89) 89 L F := hO
  refine lv_iload_n hx hb dL_most_163 rfl (lv_at hl 0 rfl) ?_
  refine lv_bipush (v := 24) hx hb dL_most_164 (by decide) ?_
  refine lv_icmp_ge (tgt := 175) hx hb dL_most_166 (by decide) (fun h9 => absurd h9 (show ¬ (24 : Int32) ≤ 7 from (by decide))) (fun _ => ?_)
  refine lv_sipush (v := 9998) hx hb dL_most_169 (by decide) ?_
  refine lv_goto (tgt := 177) hx hb dL_most_172 (by decide) ?_
  refine lv_icmp_eq (tgt := 182) hx hb dL_most_177 (by decide) (fun _ => ?_) (fun h9 => absurd (show (9998 : Int32) = 9998 from (by decide)) h9)
  refine lv_iinc (v := 8) (lv' := [(1, .int 8), (0, .ref o)]) hx hb dL_most_182 hl (k := 0) rfl (by decide) (by decide) rfl (fun ls hl => ?_)
  refine lv_goto (tgt := 141) hx hb dL_most_185 (by decide) ?_
  refine lv_iload_n hx hb dL_most_141 rfl (lv_at hl 0 rfl) ?_
  refine lv_bipush (v := 25) hx hb dL_most_142 (by decide) ?_
  refine lv_icmp_ge (tgt := 188) hx hb dL_most_144 (by decide) (fun h9 => absurd h9 (show ¬ (25 : Int32) ≤ 8 from (by decide))) (fun _ => ?_)
  refine lv_aload_n hx hb dL_most_147 rfl (lv_at hl 1 rfl) ?_
  refine lv_iconst (v := 4) hx hb dL_most_148 (by decide) ?_
  refine lv_iload_n hx hb dL_most_149 rfl (lv_at hl 0 rfl) ?_
  refine lv_bipush (v := 20) hx hb dL_most_150 (by decide) ?_
  refine lv_irem hx hb dL_most_152 (by decide) ?_
  refine lv_is (y := 8) (by decide) ?_
  refine lv_iload_n hx hb dL_most_153 rfl (lv_at hl 0 rfl) ?_
  refine lv_bipush (v := 20) hx hb dL_most_154 (by decide) ?_
  refine lv_idiv hx hb dL_most_156 (by decide) ?_
  refine lv_is (y := 0) (by decide) ?_
  refine lv_iconst (v := 1) hx hb dL_most_157 (by decide) ?_
  refine lv_iconst (v := 0) hx hb dL_most_158 (by decide) ?_
  refine lv_iconst (v := 0) hx hb dL_most_159 (by decide) ?_
  refine A_ok_4 hfl hM hE hX hO hl (f_credit (r := 9998) (by decide +kernel)) (mk_24 _ 0) (by decide) (by decide) ⟨Nat.le_of_ble_eq_true rfl, Nat.le_of_ble_eq_true rfl⟩ dL_most_160 (fun L F H locs hX hO => ?_)
  have hO : Ob γ o (mk mo_tb90) 90 L F := hO
  refine lv_iload_n hx hb dL_most_163 rfl (lv_at hl 0 rfl) ?_
  refine lv_bipush (v := 24) hx hb dL_most_164 (by decide) ?_
  refine lv_icmp_ge (tgt := 175) hx hb dL_most_166 (by decide) (fun h9 => absurd h9 (show ¬ (24 : Int32) ≤ 8 from (by decide))) (fun _ => ?_)
  refine lv_sipush (v := 9998) hx hb dL_most_169 (by decide) ?_
  refine lv_goto (tgt := 177) hx hb dL_most_172 (by decide) ?_
  refine lv_icmp_eq (tgt := 182) hx hb dL_most_177 (by decide) (fun _ => ?_) (fun h9 => absurd (show (9998 : Int32) = 9998 from (by decide)) h9)
  refine lv_iinc (v := 9) (lv' := [(1, .int 9), (0, .ref o)]) hx hb dL_most_182 hl (k := 0) rfl (by decide) (by decide) rfl (fun ls hl => ?_)
  refine lv_goto (tgt := 141) hx hb dL_most_185 (by decide) ?_
  refine lv_iload_n hx hb dL_most_141 rfl (lv_at hl 0 rfl) ?_
  refine lv_bipush (v := 25) hx hb dL_most_142 (by decide) ?_
  refine lv_icmp_ge (tgt := 188) hx hb dL_most_144 (by decide) (fun h9 => absurd h9 (show ¬ (25 : Int32) ≤ 9 from (by decide))) (fun _ => ?_)
  refine lv_aload_n hx hb dL_most_147 rfl (lv_at hl 1 rfl) ?_
  refine lv_iconst (v := 4) hx hb dL_most_148 (by decide) ?_
  refine lv_iload_n hx hb dL_most_149 rfl (lv_at hl 0 rfl) ?_
  refine lv_bipush (v := 20) hx hb dL_most_150 (by decide) ?_
  refine lv_irem hx hb dL_most_152 (by decide) ?_
  refine lv_is (y := 9) (by decide) ?_
  refine lv_iload_n hx hb dL_most_153 rfl (lv_at hl 0 rfl) ?_
  refine lv_bipush (v := 20) hx hb dL_most_154 (by decide) ?_
  refine lv_idiv hx hb dL_most_156 (by decide) ?_
  refine lv_is (y := 0) (by decide) ?_
  refine lv_iconst (v := 1) hx hb dL_most_157 (by decide) ?_
  refine lv_iconst (v := 0) hx hb dL_most_158 (by decide) ?_
  refine lv_iconst (v := 0) hx hb dL_most_159 (by decide) ?_
  refine A_ok_4 hfl hM hE hX hO hl (f_credit (r := 9998) (by decide +kernel)) (mk_24 _ 0) (by decide) (by decide) ⟨Nat.le_of_ble_eq_true rfl, Nat.le_of_ble_eq_true rfl⟩ dL_most_160 (fun L F H locs hX hO => ?_)
  have hO : Ob γ o (mk mo_tb91) 91 L F := hO
  refine lv_iload_n hx hb dL_most_163 rfl (lv_at hl 0 rfl) ?_
  refine lv_bipush (v := 24) hx hb dL_most_164 (by decide) ?_
  refine lv_icmp_ge (tgt := 175) hx hb dL_most_166 (by decide) (fun h9 => absurd h9 (show ¬ (24 : Int32) ≤ 9 from (by decide))) (fun _ => ?_)
  refine lv_sipush (v := 9998) hx hb dL_most_169 (by decide) ?_
  refine lv_goto (tgt := 177) hx hb dL_most_172 (by decide) ?_
  refine lv_icmp_eq (tgt := 182) hx hb dL_most_177 (by decide) (fun _ => ?_) (fun h9 => absurd (show (9998 : Int32) = 9998 from (by decide)) h9)
  exact W.widen (k := 954) (n := 140364) (Nat.le_of_ble_eq_true rfl) (Nat.le_of_ble_eq_true rfl) (kk L F H locs ls hX hO hl)
end FX
