section FX
variable {p : Program} {l : Launch} {e : Env} {R : Room} {s : State} {m : MethodId} {args : Array Value} {below : List Frame} {meth : Method} {c : Code} {H : Heap} {locs : List Loc} {cells slots : Nat} {Q : State → Prop}
variable {cc : ByteArray} {nL : Nat} {ret : Option FieldType} {γ : kG} {A : Nat → Prop} {L : List Nat} {F : kF} {pc : Nat} {ls : Array Slot} {rest : List Value} {o n : Nat} {M M1 : mM} {lv : List (Nat × Value)} {r : Int32}
set_option maxHeartbeats 8000000 in
set_option maxRecDepth 100000 in
theorem br_8 (hfl : l.stackTraces = false) (hM : kM p s m args meth c cL_bridge 1 ret "InvoicebridgeLaw") (hE : kE γ A s) (hX : kX γ A s L F H locs) (hO : Ob γ o (mk br_tb13) 15 L F) (hl : lv_has ls 1 [(0, .ref o)])
    (kk : ∀ (L : List Nat) (F : kF) (H : Heap) (locs : List Loc) (ls : Array Slot), kX γ A s L F H locs → Ob γ o (mk br_tb15) 17 L F → lv_has ls 1 [(0, .ref o)] → W p l e (kRm 12 9890 1299582) s m args below meth c H locs 2791 367978 Q (F0 m 837 ls [])) : W p l e (kRm 12 9890 1299582) s m args below meth c H locs 1519 197858 Q (F0 m 753 ls []) := by
  have hx := hM.1
  have hb := hM.2.1
  refine lv_aload_n hx hb dL_bridge_753 rfl (lv_at hl 0 rfl) ?_
  refine lv_iconst (v := 0) hx hb dL_bridge_754 (by decide) ?_
  refine lv_iconst (v := 1) hx hb dL_bridge_755 (by decide) ?_
  refine lv_iconst (v := 0) hx hb dL_bridge_756 (by decide) ?_
  refine lv_sipush (v := 1705) hx hb dL_bridge_757 (by decide) ?_
  refine lv_sipush (v := 416) hx hb dL_bridge_760 (by decide) ?_
  refine lv_sipush (v := 1289) hx hb dL_bridge_763 (by decide) ?_
  refine H_about  hfl hM hE hX hO hl (by decide +kernel) (by decide) (Nat.le_of_ble_eq_true rfl) ⟨Nat.le_of_ble_eq_true rfl, Nat.le_of_ble_eq_true rfl⟩ dL_bridge_766 (fun L F H locs hX hO => ?_)
  refine lv_if_eq (tgt := 817) hx hb dL_bridge_769 (by decide) (fun h9 => absurd h9 (show ¬ (1 : Int32) = 0 from (by decide))) (fun _ => ?_)
  refine lv_aload_n hx hb dL_bridge_772 rfl (lv_at hl 0 rfl) ?_
  refine lv_iconst (v := 0) hx hb dL_bridge_773 (by decide) ?_
  refine lv_iconst (v := 0) hx hb dL_bridge_774 (by decide) ?_
  refine lv_sipush (v := 206) hx hb dL_bridge_775 (by decide) ?_
  refine lv_iconst (v := 0) hx hb dL_bridge_778 (by decide) ?_
  refine H_taxes  hfl hM hE hX hO hl (by decide +kernel) (by decide) (Nat.le_of_ble_eq_true rfl) ⟨Nat.le_of_ble_eq_true rfl, Nat.le_of_ble_eq_true rfl⟩ dL_bridge_779 (fun L F H locs hX hO => ?_)
  refine lv_if_eq (tgt := 817) hx hb dL_bridge_782 (by decide) (fun h9 => absurd h9 (show ¬ (1 : Int32) = 0 from (by decide))) (fun _ => ?_)
  refine lv_aload_n hx hb dL_bridge_785 rfl (lv_at hl 0 rfl) ?_
  refine lv_iconst (v := 1) hx hb dL_bridge_786 (by decide) ?_
  refine lv_iconst (v := 0) hx hb dL_bridge_787 (by decide) ?_
  refine lv_iconst (v := 0) hx hb dL_bridge_788 (by decide) ?_
  refine lv_sipush (v := (-206)) hx hb dL_bridge_789 (by decide) ?_
  refine H_taxes  hfl hM hE hX hO hl (by decide +kernel) (by decide) (Nat.le_of_ble_eq_true rfl) ⟨Nat.le_of_ble_eq_true rfl, Nat.le_of_ble_eq_true rfl⟩ dL_bridge_792 (fun L F H locs hX hO => ?_)
  refine lv_if_eq (tgt := 817) hx hb dL_bridge_795 (by decide) (fun h9 => absurd h9 (show ¬ (1 : Int32) = 0 from (by decide))) (fun _ => ?_)
  refine lv_aload_n hx hb dL_bridge_798 rfl (lv_at hl 0 rfl) ?_
  refine lv_iconst (v := 2) hx hb dL_bridge_799 (by decide) ?_
  refine lv_iconst (v := 0) hx hb dL_bridge_800 (by decide) ?_
  refine lv_iconst (v := 0) hx hb dL_bridge_801 (by decide) ?_
  refine lv_iconst (v := 0) hx hb dL_bridge_802 (by decide) ?_
  refine H_taxes  hfl hM hE hX hO hl (by decide +kernel) (by decide) (Nat.le_of_ble_eq_true rfl) ⟨Nat.le_of_ble_eq_true rfl, Nat.le_of_ble_eq_true rfl⟩ dL_bridge_803 (fun L F H locs hX hO => ?_)
  refine lv_if_eq (tgt := 817) hx hb dL_bridge_806 (by decide) (fun h9 => absurd h9 (show ¬ (1 : Int32) = 0 from (by decide))) (fun _ => ?_)
  refine lv_aload_n hx hb dL_bridge_809 rfl (lv_at hl 0 rfl) ?_
  refine lv_iconst (v := 1) hx hb dL_bridge_810 (by decide) ?_
  refine H_refuses  hfl hM hE hX hO hl (by decide +kernel) (by decide +kernel) (by decide) (Nat.le_of_ble_eq_true rfl) ⟨Nat.le_of_ble_eq_true rfl, Nat.le_of_ble_eq_true rfl⟩ dL_bridge_811 (fun L F H locs hX hO => ?_)
  refine lv_if_ne (tgt := 819) hx hb dL_bridge_814 (by decide) (fun _ => ?_) (fun h9 => absurd h9 (show ¬ (1 : Int32) = 0 from (by decide)))
  refine lv_aload_n hx hb dL_bridge_819 rfl (lv_at hl 0 rfl) ?_
  refine lv_bipush (v := 29) hx hb dL_bridge_820 (by decide) ?_
  refine O_pass hfl hM hE hX hO hl (f_pass (r := 0) (by decide +kernel)) (mk_24 _ 0) (by decide) (Nat.le_of_ble_eq_true rfl) ⟨Nat.le_of_ble_eq_true rfl, Nat.le_of_ble_eq_true rfl⟩ dL_bridge_822 (fun L F H locs hX hO => ?_)
  have hO : Ob γ o (mk br_tb14) 16 L F := hO
  refine lv_if_ne (tgt := 1252) hx hb dL_bridge_825 (by decide) (fun h9 => absurd (show (0 : Int32) = 0 from (by decide)) h9) (fun _ => ?_)
  refine lv_aload_n hx hb dL_bridge_828 rfl (lv_at hl 0 rfl) ?_
  refine lv_iconst (v := 1) hx hb dL_bridge_829 (by decide) ?_
  refine O_pass hfl hM hE hX hO hl (f_pass (r := 1) (by decide +kernel)) (mk_24 _ 0) (by decide) (Nat.le_of_ble_eq_true rfl) ⟨Nat.le_of_ble_eq_true rfl, Nat.le_of_ble_eq_true rfl⟩ dL_bridge_830 (fun L F H locs hX hO => ?_)
  have hO : Ob γ o (mk br_tb15) 17 L F := hO
  refine lv_iconst (v := 1) hx hb dL_bridge_833 (by decide) ?_
  refine lv_icmp_ne (tgt := 1252) hx hb dL_bridge_834 (by decide) (fun h9 => absurd (show (1 : Int32) = 1 from (by decide)) h9) (fun _ => ?_)
  exact W.widen (k := 2791) (n := 367978) (Nat.le_of_ble_eq_true rfl) (Nat.le_of_ble_eq_true rfl) (kk L F H locs ls hX hO hl)
set_option maxHeartbeats 8000000 in
set_option maxRecDepth 100000 in
theorem br_9 (hfl : l.stackTraces = false) (hM : kM p s m args meth c cL_bridge 1 ret "InvoicebridgeLaw") (hE : kE γ A s) (hX : kX γ A s L F H locs) (hO : Ob γ o (mk br_tb15) 17 L F) (hl : lv_has ls 1 [(0, .ref o)])
    (kk : ∀ (L : List Nat) (F : kF) (H : Heap) (locs : List Loc) (ls : Array Slot), kX γ A s L F H locs → Ob γ o (mk br_tb17) 19 L F → lv_has ls 1 [(0, .ref o)] → W p l e (kRm 12 9890 1299582) s m args below meth c H locs 2838 371140 Q (F0 m 925 ls [])) : W p l e (kRm 12 9890 1299582) s m args below meth c H locs 2791 367978 Q (F0 m 837 ls []) := by
  have hx := hM.1
  have hb := hM.2.1
  refine lv_aload_n hx hb dL_bridge_837 rfl (lv_at hl 0 rfl) ?_
  refine lv_iconst (v := 1) hx hb dL_bridge_838 (by decide) ?_
  refine lv_iconst (v := 2) hx hb dL_bridge_839 (by decide) ?_
  refine lv_iconst (v := 3) hx hb dL_bridge_840 (by decide) ?_
  refine lv_sipush (v := 2000) hx hb dL_bridge_841 (by decide) ?_
  refine lv_bipush (v := 19) hx hb dL_bridge_844 (by decide) ?_
  refine O_send hfl hM hE hX hO hl (f_send (r := 1) (by decide +kernel)) (mk_24 _ 0) (by decide) (Nat.le_of_ble_eq_true rfl) ⟨Nat.le_of_ble_eq_true rfl, Nat.le_of_ble_eq_true rfl⟩ dL_bridge_846 (fun L F H locs hX hO => ?_)
  have hO : Ob γ o (mk br_tb16) 18 L F := hO
  refine lv_iconst (v := 1) hx hb dL_bridge_849 (by decide) ?_
  refine lv_icmp_ne (tgt := 1252) hx hb dL_bridge_850 (by decide) (fun h9 => absurd (show (1 : Int32) = 1 from (by decide)) h9) (fun _ => ?_)
  refine lv_aload_n hx hb dL_bridge_853 rfl (lv_at hl 0 rfl) ?_
  refine lv_iconst (v := 1) hx hb dL_bridge_854 (by decide) ?_
  refine O_accept hfl hM hE hX hO hl (f_accept (r := 2380) (by decide +kernel)) (mk_24 _ 0) (by decide) (Nat.le_of_ble_eq_true rfl) ⟨Nat.le_of_ble_eq_true rfl, Nat.le_of_ble_eq_true rfl⟩ dL_bridge_855 (fun L F H locs hX hO => ?_)
  have hO : Ob γ o (mk br_tb17) 19 L F := hO
  refine lv_sipush (v := 2380) hx hb dL_bridge_858 (by decide) ?_
  refine lv_icmp_ne (tgt := 1252) hx hb dL_bridge_861 (by decide) (fun h9 => absurd (show (2380 : Int32) = 2380 from (by decide)) h9) (fun _ => ?_)
  refine lv_aload_n hx hb dL_bridge_864 rfl (lv_at hl 0 rfl) ?_
  refine lv_iconst (v := 1) hx hb dL_bridge_865 (by decide) ?_
  refine lv_iconst (v := 1) hx hb dL_bridge_866 (by decide) ?_
  refine lv_sipush (v := 174) hx hb dL_bridge_867 (by decide) ?_
  refine lv_iconst (v := 0) hx hb dL_bridge_870 (by decide) ?_
  refine H_taxes  hfl hM hE hX hO hl (by decide +kernel) (by decide) (Nat.le_of_ble_eq_true rfl) ⟨Nat.le_of_ble_eq_true rfl, Nat.le_of_ble_eq_true rfl⟩ dL_bridge_871 (fun L F H locs hX hO => ?_)
  refine lv_if_eq (tgt := 1252) hx hb dL_bridge_874 (by decide) (fun h9 => absurd h9 (show ¬ (1 : Int32) = 0 from (by decide))) (fun _ => ?_)
  refine lv_aload_n hx hb dL_bridge_877 rfl (lv_at hl 0 rfl) ?_
  refine lv_iconst (v := 1) hx hb dL_bridge_878 (by decide) ?_
  refine lv_iconst (v := 0) hx hb dL_bridge_879 (by decide) ?_
  refine lv_iconst (v := 0) hx hb dL_bridge_880 (by decide) ?_
  refine lv_sipush (v := (-206)) hx hb dL_bridge_881 (by decide) ?_
  refine H_taxes  hfl hM hE hX hO hl (by decide +kernel) (by decide) (Nat.le_of_ble_eq_true rfl) ⟨Nat.le_of_ble_eq_true rfl, Nat.le_of_ble_eq_true rfl⟩ dL_bridge_884 (fun L F H locs hX hO => ?_)
  refine lv_if_eq (tgt := 1252) hx hb dL_bridge_887 (by decide) (fun h9 => absurd h9 (show ¬ (1 : Int32) = 0 from (by decide))) (fun _ => ?_)
  refine lv_aload_n hx hb dL_bridge_890 rfl (lv_at hl 0 rfl) ?_
  refine lv_iconst (v := 2) hx hb dL_bridge_891 (by decide) ?_
  refine lv_iconst (v := 1) hx hb dL_bridge_892 (by decide) ?_
  refine lv_iconst (v := 0) hx hb dL_bridge_893 (by decide) ?_
  refine lv_sipush (v := (-380)) hx hb dL_bridge_894 (by decide) ?_
  refine H_taxes  hfl hM hE hX hO hl (by decide +kernel) (by decide) (Nat.le_of_ble_eq_true rfl) ⟨Nat.le_of_ble_eq_true rfl, Nat.le_of_ble_eq_true rfl⟩ dL_bridge_897 (fun L F H locs hX hO => ?_)
  refine lv_if_eq (tgt := 1252) hx hb dL_bridge_900 (by decide) (fun h9 => absurd h9 (show ¬ (1 : Int32) = 0 from (by decide))) (fun _ => ?_)
  refine lv_aload_n hx hb dL_bridge_903 rfl (lv_at hl 0 rfl) ?_
  refine lv_iconst (v := 0) hx hb dL_bridge_904 (by decide) ?_
  refine lv_iconst (v := 1) hx hb dL_bridge_905 (by decide) ?_
  refine lv_iconst (v := 0) hx hb dL_bridge_906 (by decide) ?_
  refine lv_iconst (v := 0) hx hb dL_bridge_907 (by decide) ?_
  refine H_taxes  hfl hM hE hX hO hl (by decide +kernel) (by decide) (Nat.le_of_ble_eq_true rfl) ⟨Nat.le_of_ble_eq_true rfl, Nat.le_of_ble_eq_true rfl⟩ dL_bridge_908 (fun L F H locs hX hO => ?_)
  refine lv_if_eq (tgt := 1252) hx hb dL_bridge_911 (by decide) (fun h9 => absurd h9 (show ¬ (1 : Int32) = 0 from (by decide))) (fun _ => ?_)
  refine lv_aload_n hx hb dL_bridge_914 rfl (lv_at hl 0 rfl) ?_
  refine lv_iconst (v := 3) hx hb dL_bridge_915 (by decide) ?_
  refine O_chain hfl hM hE hX hO hl (r := 380) (by decide +kernel) (by decide +kernel) (by decide) (Nat.le_of_ble_eq_true rfl) ⟨Nat.le_of_ble_eq_true rfl, Nat.le_of_ble_eq_true rfl⟩ dL_bridge_916 (fun L F H locs hX hO => ?_)
  refine lv_sipush (v := 380) hx hb dL_bridge_919 (by decide) ?_
  refine lv_icmp_ne (tgt := 1252) hx hb dL_bridge_922 (by decide) (fun h9 => absurd (show (380 : Int32) = 380 from (by decide)) h9) (fun _ => ?_)
  exact W.widen (k := 2838) (n := 371140) (Nat.le_of_ble_eq_true rfl) (Nat.le_of_ble_eq_true rfl) (kk L F H locs ls hX hO hl)
set_option maxHeartbeats 8000000 in
set_option maxRecDepth 100000 in
theorem br_10 (hfl : l.stackTraces = false) (hM : kM p s m args meth c cL_bridge 1 ret "InvoicebridgeLaw") (hE : kE γ A s) (hX : kX γ A s L F H locs) (hO : Ob γ o (mk br_tb17) 19 L F) (hl : lv_has ls 1 [(0, .ref o)])
    (kk : ∀ (L : List Nat) (F : kF) (H : Heap) (locs : List Loc) (ls : Array Slot), kX γ A s L F H locs → Ob γ o (mk br_tb19) 21 L F → lv_has ls 1 [(0, .ref o)] → W p l e (kRm 12 9890 1299582) s m args below meth c H locs 2889 375390 Q (F0 m 1009 ls [])) : W p l e (kRm 12 9890 1299582) s m args below meth c H locs 2838 371140 Q (F0 m 925 ls []) := by
  have hx := hM.1
  have hb := hM.2.1
  refine lv_aload_n hx hb dL_bridge_925 rfl (lv_at hl 0 rfl) ?_
  refine lv_iconst (v := 2) hx hb dL_bridge_926 (by decide) ?_
  refine O_chain hfl hM hE hX hO hl (r := 0) (by decide +kernel) (by decide +kernel) (by decide) (Nat.le_of_ble_eq_true rfl) ⟨Nat.le_of_ble_eq_true rfl, Nat.le_of_ble_eq_true rfl⟩ dL_bridge_927 (fun L F H locs hX hO => ?_)
  refine lv_if_ne (tgt := 1252) hx hb dL_bridge_930 (by decide) (fun h9 => absurd (show (0 : Int32) = 0 from (by decide)) h9) (fun _ => ?_)
  refine lv_aload_n hx hb dL_bridge_933 rfl (lv_at hl 0 rfl) ?_
  refine lv_iconst (v := 3) hx hb dL_bridge_934 (by decide) ?_
  refine lv_iconst (v := 4) hx hb dL_bridge_935 (by decide) ?_
  refine lv_iconst (v := 0) hx hb dL_bridge_936 (by decide) ?_
  refine lv_bipush (v := 50) hx hb dL_bridge_937 (by decide) ?_
  refine lv_bipush (v := 7) hx hb dL_bridge_939 (by decide) ?_
  refine O_send hfl hM hE hX hO hl (f_send (r := 2) (by decide +kernel)) (mk_24 _ 0) (by decide) (Nat.le_of_ble_eq_true rfl) ⟨Nat.le_of_ble_eq_true rfl, Nat.le_of_ble_eq_true rfl⟩ dL_bridge_941 (fun L F H locs hX hO => ?_)
  have hO : Ob γ o (mk br_tb18) 20 L F := hO
  refine lv_iconst (v := 2) hx hb dL_bridge_944 (by decide) ?_
  refine lv_icmp_ne (tgt := 1252) hx hb dL_bridge_945 (by decide) (fun h9 => absurd (show (2 : Int32) = 2 from (by decide)) h9) (fun _ => ?_)
  refine lv_aload_n hx hb dL_bridge_948 rfl (lv_at hl 0 rfl) ?_
  refine lv_iconst (v := 3) hx hb dL_bridge_949 (by decide) ?_
  refine lv_iconst (v := 1) hx hb dL_bridge_950 (by decide) ?_
  refine lv_iconst (v := 3) hx hb dL_bridge_951 (by decide) ?_
  refine lv_iconst (v := 0) hx hb dL_bridge_952 (by decide) ?_
  refine H_taxes  hfl hM hE hX hO hl (by decide +kernel) (by decide) (Nat.le_of_ble_eq_true rfl) ⟨Nat.le_of_ble_eq_true rfl, Nat.le_of_ble_eq_true rfl⟩ dL_bridge_953 (fun L F H locs hX hO => ?_)
  refine lv_if_eq (tgt := 1252) hx hb dL_bridge_956 (by decide) (fun h9 => absurd h9 (show ¬ (1 : Int32) = 0 from (by decide))) (fun _ => ?_)
  refine lv_aload_n hx hb dL_bridge_959 rfl (lv_at hl 0 rfl) ?_
  refine lv_iconst (v := 2) hx hb dL_bridge_960 (by decide) ?_
  refine O_refuse hfl hM hE hX hO hl (f_refuse (r := 53) (by decide +kernel)) (mk_24 _ 0) (by decide) (Nat.le_of_ble_eq_true rfl) ⟨Nat.le_of_ble_eq_true rfl, Nat.le_of_ble_eq_true rfl⟩ dL_bridge_961 (fun L F H locs hX hO => ?_)
  have hO : Ob γ o (mk br_tb19) 21 L F := hO
  refine lv_bipush (v := 53) hx hb dL_bridge_964 (by decide) ?_
  refine lv_icmp_ne (tgt := 1252) hx hb dL_bridge_966 (by decide) (fun h9 => absurd (show (53 : Int32) = 53 from (by decide)) h9) (fun _ => ?_)
  refine lv_aload_n hx hb dL_bridge_969 rfl (lv_at hl 0 rfl) ?_
  refine lv_iconst (v := 3) hx hb dL_bridge_970 (by decide) ?_
  refine lv_iconst (v := 1) hx hb dL_bridge_971 (by decide) ?_
  refine lv_iconst (v := 0) hx hb dL_bridge_972 (by decide) ?_
  refine lv_iconst (v := 0) hx hb dL_bridge_973 (by decide) ?_
  refine H_taxes  hfl hM hE hX hO hl (by decide +kernel) (by decide) (Nat.le_of_ble_eq_true rfl) ⟨Nat.le_of_ble_eq_true rfl, Nat.le_of_ble_eq_true rfl⟩ dL_bridge_974 (fun L F H locs hX hO => ?_)
  refine lv_if_eq (tgt := 1252) hx hb dL_bridge_977 (by decide) (fun h9 => absurd h9 (show ¬ (1 : Int32) = 0 from (by decide))) (fun _ => ?_)
  refine lv_aload_n hx hb dL_bridge_980 rfl (lv_at hl 0 rfl) ?_
  refine lv_iconst (v := 2) hx hb dL_bridge_981 (by decide) ?_
  refine lv_iconst (v := 2) hx hb dL_bridge_982 (by decide) ?_
  refine lv_iconst (v := 3) hx hb dL_bridge_983 (by decide) ?_
  refine lv_bipush (v := 53) hx hb dL_bridge_984 (by decide) ?_
  refine lv_iconst (v := 0) hx hb dL_bridge_986 (by decide) ?_
  refine lv_iconst (v := 0) hx hb dL_bridge_987 (by decide) ?_
  refine H_about  hfl hM hE hX hO hl (by decide +kernel) (by decide) (Nat.le_of_ble_eq_true rfl) ⟨Nat.le_of_ble_eq_true rfl, Nat.le_of_ble_eq_true rfl⟩ dL_bridge_988 (fun L F H locs hX hO => ?_)
  refine lv_if_eq (tgt := 1252) hx hb dL_bridge_991 (by decide) (fun h9 => absurd h9 (show ¬ (1 : Int32) = 0 from (by decide))) (fun _ => ?_)
  refine lv_aload_n hx hb dL_bridge_994 rfl (lv_at hl 0 rfl) ?_
  refine lv_iconst (v := 4) hx hb dL_bridge_995 (by decide) ?_
  refine lv_iconst (v := 2) hx hb dL_bridge_996 (by decide) ?_
  refine lv_iconst (v := 0) hx hb dL_bridge_997 (by decide) ?_
  refine lv_iconst (v := 1) hx hb dL_bridge_998 (by decide) ?_
  refine lv_iconst (v := 0) hx hb dL_bridge_999 (by decide) ?_
  refine lv_iconst (v := 0) hx hb dL_bridge_1000 (by decide) ?_
  refine A_no_4 (q := 3) (v := (-7000003)) hfl hM hE hX hO hl (by simp) (by decide +kernel) (by decide) (by decide) ⟨Nat.le_of_ble_eq_true rfl, Nat.le_of_ble_eq_true rfl⟩ dL_bridge_1001 (fun L F H locs hX hO => ?_)
  refine lv_ldc hx hb hM.2.2.2.1 (hM.2.2.2.2.1 _ k_990) dL_bridge_1004 ?_
  refine lv_icmp_ne (tgt := 1252) hx hb dL_bridge_1006 (by decide) (fun h9 => absurd (show ((-7000003) : Int32) = (-7000003) from (by decide)) h9) (fun _ => ?_)
  exact W.widen (k := 2889) (n := 375390) (Nat.le_of_ble_eq_true rfl) (Nat.le_of_ble_eq_true rfl) (kk L F H locs ls hX hO hl)
set_option maxHeartbeats 8000000 in
set_option maxRecDepth 100000 in
theorem br_11 (hfl : l.stackTraces = false) (hM : kM p s m args meth c cL_bridge 1 ret "InvoicebridgeLaw") (hE : kE γ A s) (hX : kX γ A s L F H locs) (hO : Ob γ o (mk br_tb19) 21 L F) (hl : lv_has ls 1 [(0, .ref o)])
    (kk : ∀ (L : List Nat) (F : kF) (H : Heap) (locs : List Loc) (ls : Array Slot), kX γ A s L F H locs → Ob γ o (mk br_tb21) 23 L F → lv_has ls 1 [(0, .ref o)] → W p l e (kRm 12 9890 1299582) s m args below meth c H locs 2946 381798 Q (F0 m 1103 ls [])) : W p l e (kRm 12 9890 1299582) s m args below meth c H locs 2889 375390 Q (F0 m 1009 ls []) := by
  have hx := hM.1
  have hb := hM.2.1
  refine lv_aload_n hx hb dL_bridge_1009 rfl (lv_at hl 0 rfl) ?_
  refine lv_iconst (v := 3) hx hb dL_bridge_1010 (by decide) ?_
  refine lv_iconst (v := 4) hx hb dL_bridge_1011 (by decide) ?_
  refine lv_iconst (v := 0) hx hb dL_bridge_1012 (by decide) ?_
  refine lv_bipush (v := 100) hx hb dL_bridge_1013 (by decide) ?_
  refine lv_bipush (v := 19) hx hb dL_bridge_1015 (by decide) ?_
  refine O_send hfl hM hE hX hO hl (f_send (r := 3) (by decide +kernel)) (mk_24 _ 0) (by decide) (Nat.le_of_ble_eq_true rfl) ⟨Nat.le_of_ble_eq_true rfl, Nat.le_of_ble_eq_true rfl⟩ dL_bridge_1017 (fun L F H locs hX hO => ?_)
  have hO : Ob γ o (mk br_tb20) 22 L F := hO
  refine lv_iconst (v := 3) hx hb dL_bridge_1020 (by decide) ?_
  refine lv_icmp_ne (tgt := 1252) hx hb dL_bridge_1021 (by decide) (fun h9 => absurd (show (3 : Int32) = 3 from (by decide)) h9) (fun _ => ?_)
  refine lv_aload_n hx hb dL_bridge_1024 rfl (lv_at hl 0 rfl) ?_
  refine lv_iconst (v := 3) hx hb dL_bridge_1025 (by decide) ?_
  refine lv_iconst (v := 1) hx hb dL_bridge_1026 (by decide) ?_
  refine lv_bipush (v := 19) hx hb dL_bridge_1027 (by decide) ?_
  refine lv_iconst (v := 0) hx hb dL_bridge_1029 (by decide) ?_
  refine H_taxes  hfl hM hE hX hO hl (by decide +kernel) (by decide) (Nat.le_of_ble_eq_true rfl) ⟨Nat.le_of_ble_eq_true rfl, Nat.le_of_ble_eq_true rfl⟩ dL_bridge_1030 (fun L F H locs hX hO => ?_)
  refine lv_if_eq (tgt := 1252) hx hb dL_bridge_1033 (by decide) (fun h9 => absurd h9 (show ¬ (1 : Int32) = 0 from (by decide))) (fun _ => ?_)
  refine lv_aload_n hx hb dL_bridge_1036 rfl (lv_at hl 0 rfl) ?_
  refine lv_iconst (v := 4) hx hb dL_bridge_1037 (by decide) ?_
  refine lv_iconst (v := 1) hx hb dL_bridge_1038 (by decide) ?_
  refine lv_iconst (v := 0) hx hb dL_bridge_1039 (by decide) ?_
  refine lv_iconst (v := 0) hx hb dL_bridge_1040 (by decide) ?_
  refine H_taxes  hfl hM hE hX hO hl (by decide +kernel) (by decide) (Nat.le_of_ble_eq_true rfl) ⟨Nat.le_of_ble_eq_true rfl, Nat.le_of_ble_eq_true rfl⟩ dL_bridge_1041 (fun L F H locs hX hO => ?_)
  refine lv_if_eq (tgt := 1252) hx hb dL_bridge_1044 (by decide) (fun h9 => absurd h9 (show ¬ (1 : Int32) = 0 from (by decide))) (fun _ => ?_)
  refine lv_aload_n hx hb dL_bridge_1047 rfl (lv_at hl 0 rfl) ?_
  refine lv_iconst (v := 3) hx hb dL_bridge_1048 (by decide) ?_
  refine lv_iconst (v := 0) hx hb dL_bridge_1049 (by decide) ?_
  refine lv_bipush (v := 50) hx hb dL_bridge_1050 (by decide) ?_
  refine O_credit hfl hM hE hX hO hl (f_credit (r := 50) (by decide +kernel)) (mk_24 _ 0) (by decide) (Nat.le_of_ble_eq_true rfl) ⟨Nat.le_of_ble_eq_true rfl, Nat.le_of_ble_eq_true rfl⟩ dL_bridge_1052 (fun L F H locs hX hO => ?_)
  have hO : Ob γ o (mk br_tb21) 23 L F := hO
  refine lv_bipush (v := 50) hx hb dL_bridge_1055 (by decide) ?_
  refine lv_icmp_ne (tgt := 1252) hx hb dL_bridge_1057 (by decide) (fun h9 => absurd (show (50 : Int32) = 50 from (by decide)) h9) (fun _ => ?_)
  refine lv_aload_n hx hb dL_bridge_1060 rfl (lv_at hl 0 rfl) ?_
  refine lv_iconst (v := 1) hx hb dL_bridge_1061 (by decide) ?_
  refine lv_iconst (v := 3) hx hb dL_bridge_1062 (by decide) ?_
  refine lv_iconst (v := 5) hx hb dL_bridge_1063 (by decide) ?_
  refine lv_iconst (v := 0) hx hb dL_bridge_1064 (by decide) ?_
  refine lv_iconst (v := 0) hx hb dL_bridge_1065 (by decide) ?_
  refine lv_iconst (v := 0) hx hb dL_bridge_1066 (by decide) ?_
  refine A_no_1 (q := 3) (v := (-7000003)) hfl hM hE hX hO hl (by simp) (by decide +kernel) (by decide) (by decide) ⟨Nat.le_of_ble_eq_true rfl, Nat.le_of_ble_eq_true rfl⟩ dL_bridge_1067 (fun L F H locs hX hO => ?_)
  refine lv_ldc hx hb hM.2.2.2.1 (hM.2.2.2.2.1 _ k_990) dL_bridge_1070 ?_
  refine lv_icmp_ne (tgt := 1252) hx hb dL_bridge_1072 (by decide) (fun h9 => absurd (show ((-7000003) : Int32) = (-7000003) from (by decide)) h9) (fun _ => ?_)
  refine lv_aload_n hx hb dL_bridge_1075 rfl (lv_at hl 0 rfl) ?_
  refine lv_iconst (v := 4) hx hb dL_bridge_1076 (by decide) ?_
  refine lv_iconst (v := 3) hx hb dL_bridge_1077 (by decide) ?_
  refine lv_iconst (v := 0) hx hb dL_bridge_1078 (by decide) ?_
  refine lv_bipush (v := 51) hx hb dL_bridge_1079 (by decide) ?_
  refine lv_iconst (v := 0) hx hb dL_bridge_1081 (by decide) ?_
  refine lv_iconst (v := 0) hx hb dL_bridge_1082 (by decide) ?_
  refine A_no_4 (q := 2) (v := (-7000002)) hfl hM hE hX hO hl (by simp) (by decide +kernel) (by decide) (by decide) ⟨Nat.le_of_ble_eq_true rfl, Nat.le_of_ble_eq_true rfl⟩ dL_bridge_1083 (fun L F H locs hX hO => ?_)
  refine lv_ldc hx hb hM.2.2.2.1 (hM.2.2.2.2.1 _ k_989) dL_bridge_1086 ?_
  refine lv_icmp_ne (tgt := 1252) hx hb dL_bridge_1088 (by decide) (fun h9 => absurd (show ((-7000002) : Int32) = (-7000002) from (by decide)) h9) (fun _ => ?_)
  refine lv_aload_n hx hb dL_bridge_1091 rfl (lv_at hl 0 rfl) ?_
  refine lv_iconst (v := 3) hx hb dL_bridge_1092 (by decide) ?_
  refine lv_iconst (v := 1) hx hb dL_bridge_1093 (by decide) ?_
  refine lv_bipush (v := 9) hx hb dL_bridge_1094 (by decide) ?_
  refine lv_iconst (v := 0) hx hb dL_bridge_1096 (by decide) ?_
  refine H_taxes  hfl hM hE hX hO hl (by decide +kernel) (by decide) (Nat.le_of_ble_eq_true rfl) ⟨Nat.le_of_ble_eq_true rfl, Nat.le_of_ble_eq_true rfl⟩ dL_bridge_1097 (fun L F H locs hX hO => ?_)
  refine lv_if_eq (tgt := 1252) hx hb dL_bridge_1100 (by decide) (fun h9 => absurd h9 (show ¬ (1 : Int32) = 0 from (by decide))) (fun _ => ?_)
  exact W.widen (k := 2946) (n := 381798) (Nat.le_of_ble_eq_true rfl) (Nat.le_of_ble_eq_true rfl) (kk L F H locs ls hX hO hl)
set_option maxHeartbeats 8000000 in
set_option maxRecDepth 100000 in
theorem br_12 (hfl : l.stackTraces = false) (hM : kM p s m args meth c cL_bridge 1 ret "InvoicebridgeLaw") (hE : kE γ A s) (hX : kX γ A s L F H locs) (hO : Ob γ o (mk br_tb21) 23 L F) (hl : lv_has ls 1 [(0, .ref o)])
    (kk : ∀ (L : List Nat) (F : kF) (H : Heap) (locs : List Loc) (ls : Array Slot), kX γ A s L F H locs → Ob γ o (mk br_tb24) 26 L F → lv_has ls 1 [(0, .ref o)] → W p l e (kRm 12 9890 1299582) s m args below meth c H locs 2980 383066 Q (F0 m 1176 ls [])) : W p l e (kRm 12 9890 1299582) s m args below meth c H locs 2946 381798 Q (F0 m 1103 ls []) := by
  have hx := hM.1
  have hb := hM.2.1
  refine lv_aload_n hx hb dL_bridge_1103 rfl (lv_at hl 0 rfl) ?_
  refine lv_iconst (v := 4) hx hb dL_bridge_1104 (by decide) ?_
  refine lv_iconst (v := 1) hx hb dL_bridge_1105 (by decide) ?_
  refine lv_iconst (v := 0) hx hb dL_bridge_1106 (by decide) ?_
  refine lv_iconst (v := 0) hx hb dL_bridge_1107 (by decide) ?_
  refine H_taxes  hfl hM hE hX hO hl (by decide +kernel) (by decide) (Nat.le_of_ble_eq_true rfl) ⟨Nat.le_of_ble_eq_true rfl, Nat.le_of_ble_eq_true rfl⟩ dL_bridge_1108 (fun L F H locs hX hO => ?_)
  refine lv_if_eq (tgt := 1252) hx hb dL_bridge_1111 (by decide) (fun h9 => absurd h9 (show ¬ (1 : Int32) = 0 from (by decide))) (fun _ => ?_)
  refine lv_aload_n hx hb dL_bridge_1114 rfl (lv_at hl 0 rfl) ?_
  refine lv_iconst (v := 3) hx hb dL_bridge_1115 (by decide) ?_
  refine O_accept hfl hM hE hX hO hl (f_accept (r := 59) (by decide +kernel)) (mk_24 _ 0) (by decide) (Nat.le_of_ble_eq_true rfl) ⟨Nat.le_of_ble_eq_true rfl, Nat.le_of_ble_eq_true rfl⟩ dL_bridge_1116 (fun L F H locs hX hO => ?_)
  have hO : Ob γ o (mk br_tb22) 24 L F := hO
  refine lv_bipush (v := 59) hx hb dL_bridge_1119 (by decide) ?_
  refine lv_icmp_ne (tgt := 1252) hx hb dL_bridge_1121 (by decide) (fun h9 => absurd (show (59 : Int32) = 59 from (by decide)) h9) (fun _ => ?_)
  refine lv_aload_n hx hb dL_bridge_1124 rfl (lv_at hl 0 rfl) ?_
  refine lv_iconst (v := 4) hx hb dL_bridge_1125 (by decide) ?_
  refine lv_iconst (v := 1) hx hb dL_bridge_1126 (by decide) ?_
  refine lv_iconst (v := 0) hx hb dL_bridge_1127 (by decide) ?_
  refine lv_bipush (v := (-9)) hx hb dL_bridge_1128 (by decide) ?_
  refine H_taxes  hfl hM hE hX hO hl (by decide +kernel) (by decide) (Nat.le_of_ble_eq_true rfl) ⟨Nat.le_of_ble_eq_true rfl, Nat.le_of_ble_eq_true rfl⟩ dL_bridge_1130 (fun L F H locs hX hO => ?_)
  refine lv_if_eq (tgt := 1252) hx hb dL_bridge_1133 (by decide) (fun h9 => absurd h9 (show ¬ (1 : Int32) = 0 from (by decide))) (fun _ => ?_)
  refine lv_aload_n hx hb dL_bridge_1136 rfl (lv_at hl 0 rfl) ?_
  refine lv_iconst (v := 3) hx hb dL_bridge_1137 (by decide) ?_
  refine lv_iconst (v := 0) hx hb dL_bridge_1138 (by decide) ?_
  refine O_dispute hfl hM hE hX hO hl (f_dispute (r := 0) (by decide +kernel)) (mk_24 _ 0) (by decide) (Nat.le_of_ble_eq_true rfl) ⟨Nat.le_of_ble_eq_true rfl, Nat.le_of_ble_eq_true rfl⟩ dL_bridge_1139 (fun L F H locs hX hO => ?_)
  have hO : Ob γ o (mk br_tb23) 25 L F := hO
  refine lv_if_ne (tgt := 1252) hx hb dL_bridge_1142 (by decide) (fun h9 => absurd (show (0 : Int32) = 0 from (by decide)) h9) (fun _ => ?_)
  refine lv_aload_n hx hb dL_bridge_1145 rfl (lv_at hl 0 rfl) ?_
  refine lv_iconst (v := 4) hx hb dL_bridge_1146 (by decide) ?_
  refine O_owes hfl hM hE hX hO hl (r := 0) (by decide +kernel) (by decide +kernel) (by decide) (Nat.le_of_ble_eq_true rfl) ⟨Nat.le_of_ble_eq_true rfl, Nat.le_of_ble_eq_true rfl⟩ dL_bridge_1147 (fun L F H locs hX hO => ?_)
  refine lv_if_ne (tgt := 1252) hx hb dL_bridge_1150 (by decide) (fun h9 => absurd (show (0 : Int32) = 0 from (by decide)) h9) (fun _ => ?_)
  refine lv_aload_n hx hb dL_bridge_1153 rfl (lv_at hl 0 rfl) ?_
  refine lv_iconst (v := 3) hx hb dL_bridge_1154 (by decide) ?_
  refine lv_iconst (v := 0) hx hb dL_bridge_1155 (by decide) ?_
  refine lv_iconst (v := 1) hx hb dL_bridge_1156 (by decide) ?_
  refine O_settle hfl hM hE hX hO hl (f_settle (r := 0) (by decide +kernel)) (mk_24 _ 0) (by decide) (Nat.le_of_ble_eq_true rfl) ⟨Nat.le_of_ble_eq_true rfl, Nat.le_of_ble_eq_true rfl⟩ dL_bridge_1157 (fun L F H locs hX hO => ?_)
  have hO : Ob γ o (mk br_tb24) 26 L F := hO
  refine lv_if_ne (tgt := 1252) hx hb dL_bridge_1160 (by decide) (fun h9 => absurd (show (0 : Int32) = 0 from (by decide)) h9) (fun _ => ?_)
  refine lv_aload_n hx hb dL_bridge_1163 rfl (lv_at hl 0 rfl) ?_
  refine lv_iconst (v := 3) hx hb dL_bridge_1164 (by decide) ?_
  refine lv_iconst (v := 1) hx hb dL_bridge_1165 (by decide) ?_
  refine lv_iconst (v := 3) hx hb dL_bridge_1166 (by decide) ?_
  refine lv_iconst (v := 0) hx hb dL_bridge_1167 (by decide) ?_
  refine lv_iconst (v := 0) hx hb dL_bridge_1168 (by decide) ?_
  refine lv_iconst (v := 0) hx hb dL_bridge_1169 (by decide) ?_
  refine H_about  hfl hM hE hX hO hl (by decide +kernel) (by decide) (Nat.le_of_ble_eq_true rfl) ⟨Nat.le_of_ble_eq_true rfl, Nat.le_of_ble_eq_true rfl⟩ dL_bridge_1170 (fun L F H locs hX hO => ?_)
  refine lv_if_eq (tgt := 1252) hx hb dL_bridge_1173 (by decide) (fun h9 => absurd h9 (show ¬ (1 : Int32) = 0 from (by decide))) (fun _ => ?_)
  exact W.widen (k := 2980) (n := 383066) (Nat.le_of_ble_eq_true rfl) (Nat.le_of_ble_eq_true rfl) (kk L F H locs ls hX hO hl)
set_option maxHeartbeats 8000000 in
set_option maxRecDepth 100000 in
theorem br_13 (hfl : l.stackTraces = false) (hM : kM p s m args meth c cL_bridge 1 ret "InvoicebridgeLaw") (hE : kE γ A s) (hX : kX γ A s L F H locs) (hO : Ob γ o (mk br_tb24) 26 L F) (hl : lv_has ls 1 [(0, .ref o)])
    (kk : ∀ (L : List Nat) (F : kF) (H : Heap) (locs : List Loc) (ls : Array Slot), kX γ A s L F H locs → Ob γ o (mk br_tb27) 29 L F → lv_has ls 1 [(0, .ref o)] → W p l e (kRm 12 9890 1299582) s m args below meth c H locs 3030 388362 Q (F0 m 1266 ls [])) : W p l e (kRm 12 9890 1299582) s m args below meth c H locs 2980 383066 Q (F0 m 1176 ls []) := by
  have hx := hM.1
  have hb := hM.2.1
  refine lv_aload_n hx hb dL_bridge_1176 rfl (lv_at hl 0 rfl) ?_
  refine lv_iconst (v := 3) hx hb dL_bridge_1177 (by decide) ?_
  refine lv_iconst (v := 1) hx hb dL_bridge_1178 (by decide) ?_
  refine lv_iconst (v := 0) hx hb dL_bridge_1179 (by decide) ?_
  refine lv_iconst (v := 0) hx hb dL_bridge_1180 (by decide) ?_
  refine H_taxes  hfl hM hE hX hO hl (by decide +kernel) (by decide) (Nat.le_of_ble_eq_true rfl) ⟨Nat.le_of_ble_eq_true rfl, Nat.le_of_ble_eq_true rfl⟩ dL_bridge_1181 (fun L F H locs hX hO => ?_)
  refine lv_if_eq (tgt := 1252) hx hb dL_bridge_1184 (by decide) (fun h9 => absurd h9 (show ¬ (1 : Int32) = 0 from (by decide))) (fun _ => ?_)
  refine lv_aload_n hx hb dL_bridge_1187 rfl (lv_at hl 0 rfl) ?_
  refine lv_iconst (v := 4) hx hb dL_bridge_1188 (by decide) ?_
  refine lv_iconst (v := 1) hx hb dL_bridge_1189 (by decide) ?_
  refine lv_iconst (v := 0) hx hb dL_bridge_1190 (by decide) ?_
  refine lv_iconst (v := 0) hx hb dL_bridge_1191 (by decide) ?_
  refine H_taxes  hfl hM hE hX hO hl (by decide +kernel) (by decide) (Nat.le_of_ble_eq_true rfl) ⟨Nat.le_of_ble_eq_true rfl, Nat.le_of_ble_eq_true rfl⟩ dL_bridge_1192 (fun L F H locs hX hO => ?_)
  refine lv_if_eq (tgt := 1252) hx hb dL_bridge_1195 (by decide) (fun h9 => absurd h9 (show ¬ (1 : Int32) = 0 from (by decide))) (fun _ => ?_)
  refine lv_aload_n hx hb dL_bridge_1198 rfl (lv_at hl 0 rfl) ?_
  refine lv_iconst (v := 5) hx hb dL_bridge_1199 (by decide) ?_
  refine lv_iconst (v := 3) hx hb dL_bridge_1200 (by decide) ?_
  refine lv_iconst (v := 0) hx hb dL_bridge_1201 (by decide) ?_
  refine lv_iconst (v := 0) hx hb dL_bridge_1202 (by decide) ?_
  refine lv_iconst (v := 0) hx hb dL_bridge_1203 (by decide) ?_
  refine lv_iconst (v := 0) hx hb dL_bridge_1204 (by decide) ?_
  refine A_no_5 (q := 2) (v := (-7000003)) hfl hM hE hX hO hl (by simp) (by decide +kernel) (by decide) (by decide) ⟨Nat.le_of_ble_eq_true rfl, Nat.le_of_ble_eq_true rfl⟩ dL_bridge_1205 (fun L F H locs hX hO => ?_)
  refine lv_ldc hx hb hM.2.2.2.1 (hM.2.2.2.2.1 _ k_990) dL_bridge_1208 ?_
  refine lv_icmp_ne (tgt := 1252) hx hb dL_bridge_1210 (by decide) (fun h9 => absurd (show ((-7000003) : Int32) = (-7000003) from (by decide)) h9) (fun _ => ?_)
  refine lv_aload_n hx hb dL_bridge_1213 rfl (lv_at hl 0 rfl) ?_
  refine lv_iconst (v := 5) hx hb dL_bridge_1214 (by decide) ?_
  refine lv_iconst (v := 0) hx hb dL_bridge_1215 (by decide) ?_
  refine lv_iconst (v := 3) hx hb dL_bridge_1216 (by decide) ?_
  refine lv_bipush (v := 10) hx hb dL_bridge_1217 (by decide) ?_
  refine lv_bipush (v := 7) hx hb dL_bridge_1219 (by decide) ?_
  refine O_send hfl hM hE hX hO hl (f_send (r := 4) (by decide +kernel)) (mk_24 _ 0) (by decide) (Nat.le_of_ble_eq_true rfl) ⟨Nat.le_of_ble_eq_true rfl, Nat.le_of_ble_eq_true rfl⟩ dL_bridge_1221 (fun L F H locs hX hO => ?_)
  have hO : Ob γ o (mk br_tb25) 27 L F := hO
  refine lv_iconst (v := 4) hx hb dL_bridge_1224 (by decide) ?_
  refine lv_icmp_ne (tgt := 1252) hx hb dL_bridge_1225 (by decide) (fun h9 => absurd (show (4 : Int32) = 4 from (by decide)) h9) (fun _ => ?_)
  refine lv_aload_n hx hb dL_bridge_1228 rfl (lv_at hl 0 rfl) ?_
  refine lv_iconst (v := 1) hx hb dL_bridge_1229 (by decide) ?_
  refine O_pass hfl hM hE hX hO hl (f_pass (r := 1) (by decide +kernel)) (mk_24 _ 0) (by decide) (Nat.le_of_ble_eq_true rfl) ⟨Nat.le_of_ble_eq_true rfl, Nat.le_of_ble_eq_true rfl⟩ dL_bridge_1230 (fun L F H locs hX hO => ?_)
  have hO : Ob γ o (mk br_tb26) 28 L F := hO
  refine lv_iconst (v := 1) hx hb dL_bridge_1233 (by decide) ?_
  refine lv_icmp_ne (tgt := 1252) hx hb dL_bridge_1234 (by decide) (fun h9 => absurd (show (1 : Int32) = 1 from (by decide)) h9) (fun _ => ?_)
  refine lv_aload_n hx hb dL_bridge_1237 rfl (lv_at hl 0 rfl) ?_
  refine lv_iconst (v := 1) hx hb dL_bridge_1238 (by decide) ?_
  refine lv_iconst (v := 4) hx hb dL_bridge_1239 (by decide) ?_
  refine lv_iconst (v := 5) hx hb dL_bridge_1240 (by decide) ?_
  refine lv_iconst (v := 0) hx hb dL_bridge_1241 (by decide) ?_
  refine lv_iconst (v := 0) hx hb dL_bridge_1242 (by decide) ?_
  refine lv_iconst (v := 0) hx hb dL_bridge_1243 (by decide) ?_
  refine A_no_1 (q := 3) (v := (-7000003)) hfl hM hE hX hO hl (by simp) (by decide +kernel) (by decide) (by decide) ⟨Nat.le_of_ble_eq_true rfl, Nat.le_of_ble_eq_true rfl⟩ dL_bridge_1244 (fun L F H locs hX hO => ?_)
  refine lv_ldc hx hb hM.2.2.2.1 (hM.2.2.2.2.1 _ k_990) dL_bridge_1247 ?_
  refine lv_icmp_eq (tgt := 1254) hx hb dL_bridge_1249 (by decide) (fun _ => ?_) (fun h9 => absurd (show ((-7000003) : Int32) = (-7000003) from (by decide)) h9)
  refine lv_aload_n hx hb dL_bridge_1254 rfl (lv_at hl 0 rfl) ?_
  refine lv_iconst (v := 1) hx hb dL_bridge_1255 (by decide) ?_
  refine lv_iconst (v := 0) hx hb dL_bridge_1256 (by decide) ?_
  refine lv_sipush (v := 416) hx hb dL_bridge_1257 (by decide) ?_
  refine O_payBySum hfl hM hE hX hO hl (by decide +kernel) (f_paySum (r := 0) (by decide +kernel)) (mk_24 _ 0) (by decide) (Nat.le_of_ble_eq_true rfl) ⟨Nat.le_of_ble_eq_true rfl, Nat.le_of_ble_eq_true rfl⟩ dL_bridge_1260 (fun L F H locs hX hO => ?_)
  have hO : Ob γ o (mk br_tb27) 29 L F := hO
  refine lv_if_ne (tgt := 1400) hx hb dL_bridge_1263 (by decide) (fun h9 => absurd (show (0 : Int32) = 0 from (by decide)) h9) (fun _ => ?_)
  exact W.widen (k := 3030) (n := 388362) (Nat.le_of_ble_eq_true rfl) (Nat.le_of_ble_eq_true rfl) (kk L F H locs ls hX hO hl)
set_option maxHeartbeats 8000000 in
set_option maxRecDepth 100000 in
theorem br_14 (hfl : l.stackTraces = false) (hM : kM p s m args meth c cL_bridge 1 ret "InvoicebridgeLaw") (hE : kE γ A s) (hX : kX γ A s L F H locs) (hO : Ob γ o (mk br_tb27) 29 L F) (hl : lv_has ls 1 [(0, .ref o)])
    (kk : ∀ (L : List Nat) (F : kF) (H : Heap) (locs : List Loc) (ls : Array Slot), kX γ A s L F H locs → Ob γ o (mk br_tb29) 31 L F → lv_has ls 1 [(0, .ref o)] → W p l e (kRm 12 9890 1299582) s m args below meth c H locs 3075 389696 Q (F0 m 1359 ls [])) : W p l e (kRm 12 9890 1299582) s m args below meth c H locs 3030 388362 Q (F0 m 1266 ls []) := by
  have hx := hM.1
  have hb := hM.2.1
  refine lv_aload_n hx hb dL_bridge_1266 rfl (lv_at hl 0 rfl) ?_
  refine lv_iconst (v := 0) hx hb dL_bridge_1267 (by decide) ?_
  refine lv_iconst (v := 1) hx hb dL_bridge_1268 (by decide) ?_
  refine lv_iconst (v := 0) hx hb dL_bridge_1269 (by decide) ?_
  refine lv_sipush (v := 1705) hx hb dL_bridge_1270 (by decide) ?_
  refine lv_iconst (v := 0) hx hb dL_bridge_1273 (by decide) ?_
  refine lv_sipush (v := 1705) hx hb dL_bridge_1274 (by decide) ?_
  refine H_about  hfl hM hE hX hO hl (by decide +kernel) (by decide) (Nat.le_of_ble_eq_true rfl) ⟨Nat.le_of_ble_eq_true rfl, Nat.le_of_ble_eq_true rfl⟩ dL_bridge_1277 (fun L F H locs hX hO => ?_)
  refine lv_if_eq (tgt := 1400) hx hb dL_bridge_1280 (by decide) (fun h9 => absurd h9 (show ¬ (1 : Int32) = 0 from (by decide))) (fun _ => ?_)
  refine lv_aload_n hx hb dL_bridge_1283 rfl (lv_at hl 0 rfl) ?_
  refine lv_iconst (v := 0) hx hb dL_bridge_1284 (by decide) ?_
  refine lv_iconst (v := 1) hx hb dL_bridge_1285 (by decide) ?_
  refine lv_sipush (v := 500) hx hb dL_bridge_1286 (by decide) ?_
  refine O_credit hfl hM hE hX hO hl (f_credit (r := 0) (by decide +kernel)) (mk_24 _ 0) (by decide) (Nat.le_of_ble_eq_true rfl) ⟨Nat.le_of_ble_eq_true rfl, Nat.le_of_ble_eq_true rfl⟩ dL_bridge_1289 (fun L F H locs hX hO => ?_)
  have hO : Ob γ o (mk br_tb28) 30 L F := hO
  refine lv_if_ne (tgt := 1400) hx hb dL_bridge_1292 (by decide) (fun h9 => absurd (show (0 : Int32) = 0 from (by decide)) h9) (fun _ => ?_)
  refine lv_aload_n hx hb dL_bridge_1295 rfl (lv_at hl 0 rfl) ?_
  refine lv_iconst (v := 0) hx hb dL_bridge_1296 (by decide) ?_
  refine lv_iconst (v := 1) hx hb dL_bridge_1297 (by decide) ?_
  refine lv_iconst (v := 0) hx hb dL_bridge_1298 (by decide) ?_
  refine lv_sipush (v := 1170) hx hb dL_bridge_1299 (by decide) ?_
  refine lv_iconst (v := 0) hx hb dL_bridge_1302 (by decide) ?_
  refine lv_sipush (v := 1705) hx hb dL_bridge_1303 (by decide) ?_
  refine H_about  hfl hM hE hX hO hl (by decide +kernel) (by decide) (Nat.le_of_ble_eq_true rfl) ⟨Nat.le_of_ble_eq_true rfl, Nat.le_of_ble_eq_true rfl⟩ dL_bridge_1306 (fun L F H locs hX hO => ?_)
  refine lv_if_eq (tgt := 1400) hx hb dL_bridge_1309 (by decide) (fun h9 => absurd h9 (show ¬ (1 : Int32) = 0 from (by decide))) (fun _ => ?_)
  refine lv_aload_n hx hb dL_bridge_1312 rfl (lv_at hl 0 rfl) ?_
  refine lv_bipush (v := 60) hx hb dL_bridge_1313 (by decide) ?_
  refine O_pass hfl hM hE hX hO hl (f_pass (r := 3) (by decide +kernel)) (mk_24 _ 0) (by decide) (Nat.le_of_ble_eq_true rfl) ⟨Nat.le_of_ble_eq_true rfl, Nat.le_of_ble_eq_true rfl⟩ dL_bridge_1315 (fun L F H locs hX hO => ?_)
  have hO : Ob γ o (mk br_tb29) 31 L F := hO
  refine lv_iconst (v := 3) hx hb dL_bridge_1318 (by decide) ?_
  refine lv_icmp_ne (tgt := 1400) hx hb dL_bridge_1319 (by decide) (fun h9 => absurd (show (3 : Int32) = 3 from (by decide)) h9) (fun _ => ?_)
  refine lv_aload_n hx hb dL_bridge_1322 rfl (lv_at hl 0 rfl) ?_
  refine lv_iconst (v := 1) hx hb dL_bridge_1323 (by decide) ?_
  refine lv_iconst (v := 1) hx hb dL_bridge_1324 (by decide) ?_
  refine lv_sipush (v := 209) hx hb dL_bridge_1325 (by decide) ?_
  refine lv_iconst (v := 0) hx hb dL_bridge_1328 (by decide) ?_
  refine H_taxes  hfl hM hE hX hO hl (by decide +kernel) (by decide) (Nat.le_of_ble_eq_true rfl) ⟨Nat.le_of_ble_eq_true rfl, Nat.le_of_ble_eq_true rfl⟩ dL_bridge_1329 (fun L F H locs hX hO => ?_)
  refine lv_if_eq (tgt := 1400) hx hb dL_bridge_1332 (by decide) (fun h9 => absurd h9 (show ¬ (1 : Int32) = 0 from (by decide))) (fun _ => ?_)
  refine lv_aload_n hx hb dL_bridge_1335 rfl (lv_at hl 0 rfl) ?_
  refine lv_iconst (v := 0) hx hb dL_bridge_1336 (by decide) ?_
  refine lv_iconst (v := 1) hx hb dL_bridge_1337 (by decide) ?_
  refine lv_iconst (v := 0) hx hb dL_bridge_1338 (by decide) ?_
  refine lv_bipush (v := (-35)) hx hb dL_bridge_1339 (by decide) ?_
  refine H_taxes  hfl hM hE hX hO hl (by decide +kernel) (by decide) (Nat.le_of_ble_eq_true rfl) ⟨Nat.le_of_ble_eq_true rfl, Nat.le_of_ble_eq_true rfl⟩ dL_bridge_1341 (fun L F H locs hX hO => ?_)
  refine lv_if_eq (tgt := 1400) hx hb dL_bridge_1344 (by decide) (fun h9 => absurd h9 (show ¬ (1 : Int32) = 0 from (by decide))) (fun _ => ?_)
  refine lv_aload_n hx hb dL_bridge_1347 rfl (lv_at hl 0 rfl) ?_
  refine lv_iconst (v := 0) hx hb dL_bridge_1348 (by decide) ?_
  refine lv_iconst (v := 3) hx hb dL_bridge_1349 (by decide) ?_
  refine lv_iconst (v := 0) hx hb dL_bridge_1350 (by decide) ?_
  refine lv_bipush (v := (-35)) hx hb dL_bridge_1351 (by decide) ?_
  refine H_taxes  hfl hM hE hX hO hl (by decide +kernel) (by decide) (Nat.le_of_ble_eq_true rfl) ⟨Nat.le_of_ble_eq_true rfl, Nat.le_of_ble_eq_true rfl⟩ dL_bridge_1353 (fun L F H locs hX hO => ?_)
  refine lv_if_eq (tgt := 1400) hx hb dL_bridge_1356 (by decide) (fun h9 => absurd h9 (show ¬ (1 : Int32) = 0 from (by decide))) (fun _ => ?_)
  exact W.widen (k := 3075) (n := 389696) (Nat.le_of_ble_eq_true rfl) (Nat.le_of_ble_eq_true rfl) (kk L F H locs ls hX hO hl)
set_option maxHeartbeats 8000000 in
set_option maxRecDepth 100000 in
theorem br_15 (hfl : l.stackTraces = false) (hM : kM p s m args meth c cL_bridge 1 ret "InvoicebridgeLaw") (hE : kE γ A s) (hX : kX γ A s L F H locs) (hO : Ob γ o (mk br_tb29) 31 L F) (hl : lv_has ls 1 [(0, .ref o)])
    (kk : ∀ (L : List Nat) (F : kF) (H : Heap) (locs : List Loc) (ls : Array Slot), kX γ A s L F H locs → Ob γ o (mk br_tb29) 31 L F → lv_has ls 1 [(0, .ref o)] → W p l e (kRm 12 9890 1299582) s m args below meth c H locs 9890 1299582 Q (F0 m 1401 ls [.int 1])) : W p l e (kRm 12 9890 1299582) s m args below meth c H locs 3075 389696 Q (F0 m 1359 ls []) := by
  have hx := hM.1
  have hb := hM.2.1
  refine lv_aload_n hx hb dL_bridge_1359 rfl (lv_at hl 0 rfl) ?_
  refine lv_iconst (v := 3) hx hb dL_bridge_1360 (by decide) ?_
  refine O_chain hfl hM hE hX hO hl (r := 380) (by decide +kernel) (by decide +kernel) (by decide) (Nat.le_of_ble_eq_true rfl) ⟨Nat.le_of_ble_eq_true rfl, Nat.le_of_ble_eq_true rfl⟩ dL_bridge_1361 (fun L F H locs hX hO => ?_)
  refine lv_sipush (v := 380) hx hb dL_bridge_1364 (by decide) ?_
  refine lv_icmp_ne (tgt := 1400) hx hb dL_bridge_1367 (by decide) (fun h9 => absurd (show (380 : Int32) = 380 from (by decide)) h9) (fun _ => ?_)
  refine lv_aload_n hx hb dL_bridge_1370 rfl (lv_at hl 0 rfl) ?_
  refine lv_iconst (v := 5) hx hb dL_bridge_1371 (by decide) ?_
  refine H_refuses  hfl hM hE hX hO hl (by decide +kernel) (by decide +kernel) (by decide) (Nat.le_of_ble_eq_true rfl) ⟨Nat.le_of_ble_eq_true rfl, Nat.le_of_ble_eq_true rfl⟩ dL_bridge_1372 (fun L F H locs hX hO => ?_)
  refine lv_if_eq (tgt := 1400) hx hb dL_bridge_1375 (by decide) (fun h9 => absurd h9 (show ¬ (1 : Int32) = 0 from (by decide))) (fun _ => ?_)
  refine o_goX (k_S (n := 0) (As := []) (rest := []) hM hE (kX_nil hX) hl (c_L_texts l hfl γ F) k_1021 k_1022 k_0 k_1023 ⟨by decide, by decide, by decide +kernel⟩ (by decide) rfl rfl (Nat.le_of_ble_eq_true rfl) dL_bridge_1378 ⟨Nat.le_of_ble_eq_true rfl, Nat.le_of_ble_eq_true rfl⟩) hE hX hO (fun r9 F H locs hr9 hX hO => ?_)
  obtain ⟨_, _, rfl⟩ := hr9
  refine lv_if_eq (tgt := 1400) hx hb dL_bridge_1381 (by decide) (fun h9 => absurd h9 (show ¬ (1 : Int32) = 0 from (by decide))) (fun _ => ?_)
  refine o_goX (k_S (n := 0) (As := []) (rest := []) hM hE (kX_nil hX) hl (c_L_sums l hfl γ F) k_1040 k_1041 k_0 k_1042 ⟨by decide, by decide, by decide +kernel⟩ (by decide) rfl rfl (Nat.le_of_ble_eq_true rfl) dL_bridge_1384 ⟨Nat.le_of_ble_eq_true rfl, Nat.le_of_ble_eq_true rfl⟩) hE hX hO (fun r9 F H locs hr9 hX hO => ?_)
  obtain ⟨_, _, rfl⟩ := hr9
  refine lv_if_eq (tgt := 1400) hx hb dL_bridge_1387 (by decide) (fun h9 => absurd h9 (show ¬ (1 : Int32) = 0 from (by decide))) (fun _ => ?_)
  refine o_goX (k_S (n := 0) (As := []) (rest := []) hM hE (kX_nil hX) hl (c_L_most l hfl γ F) k_1043 k_1044 k_0 k_1045 ⟨by decide, by decide, by decide +kernel⟩ (by decide) rfl rfl (Nat.le_of_ble_eq_true rfl) dL_bridge_1390 ⟨Nat.le_of_ble_eq_true rfl, Nat.le_of_ble_eq_true rfl⟩) hE hX hO (fun r9 F H locs hr9 hX hO => ?_)
  obtain ⟨_, _, rfl⟩ := hr9
  refine lv_if_eq (tgt := 1400) hx hb dL_bridge_1393 (by decide) (fun h9 => absurd h9 (show ¬ (1 : Int32) = 0 from (by decide))) (fun _ => ?_)
  refine lv_iconst (v := 1) hx hb dL_bridge_1396 (by decide) ?_
  refine lv_goto (tgt := 1401) hx hb dL_bridge_1397 (by decide) ?_
  exact W.widen (k := 9890) (n := 1299582) (Nat.le_of_ble_eq_true rfl) (Nat.le_of_ble_eq_true rfl) (kk L F H locs ls hX hO hl)
end FX
