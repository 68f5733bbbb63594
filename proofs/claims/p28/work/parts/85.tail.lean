/-! the drawn loop, case by case -/
section LC
variable {p : Program} {l : Launch} {e : Env} {s : State} {m : MethodId} {args : Array Value} {below : List Frame} {meth : Method} {c : Code} {H : Heap} {locs : List Loc} {cells slots : Nat} {Q : State → Prop}
variable {ret : Option FieldType} {γ : kG} {A : Nat → Prop} {L : List Nat} {F : kF} {ls : Array Slot} {o n : Nat} {M : mM}
set_option maxHeartbeats 8000000 in
set_option maxRecDepth 100000 in
theorem lt_body (hfl : l.stackTraces = false) (hM : kM p s m args meth c cL_law 15 ret "InvoicebridgeLaw") (hE : kE γ A s) (hX : kX γ A s L F H locs) (hO : Ob γ o M n L F) (hn : n < 512) {b k : Nat} {c1 S1 O1 : Int32} (hc1 : 0 ≤ c1 ∧ c1 ≤ 5) (hc : cells + 12 ≤ 600086) (hs : slots + 80 ≤ 7301442) (hl : lv_has ls 15 [(10, .int c1), (9, .int O1), (8, .int S1), (3, .int (nI k)), (2, .int (nI (nn M))), (1, .ref o), (0, .ref b)])
    (kq : ∀ (L : List Nat) (F : kF) (H : Heap) (locs : List Loc) (ls : Array Slot), kX γ A s L F H locs → Ob γ o M n L F → lv_has ls 15 [(10, .int c1), (9, .int (O1 + (sumsM M c1 1 - sumsM M c1 0))), (8, .int (S1 + M 1 (kj c1))), (3, .int (nI k)), (2, .int (nI (nn M))), (1, .ref o), (0, .ref b)] → W p l e room_1 s m args below meth c H locs (cells + 12) (slots + 80) Q (F0 m 1004 ls [])) : W p l e room_1 s m args below meth c H locs cells slots Q (F0 m 926 ls []) := by
  have hx := hM.1
  have hb := hM.2.1
  obtain ⟨nd, D, hI⟩ := hO.inv
  refine lv_iload hx hb dL_law_926 (lv_at hl 2 rfl) ?_
  refine lv_aload_n hx hb dL_law_928 rfl (lv_at hl 5 rfl) ?_
  refine lv_iload hx hb dL_law_929 (lv_at hl 0 rfl) ?_
  refine O_cash hfl hM hE hX hO hl (ok_cash hc1).1 (ok_cash hc1).2 (by decide) (Nat.le_of_ble_eq_true rfl) ⟨by show cells + 1 ≤ 600086; omega, by show slots + 6 ≤ 7301442; omega⟩ dL_law_931 (fun L F H locs hX hO => ?_)
  refine lv_iadd hx hb dL_law_934 ?_
  refine lv_istore (lv' := [(8, .int (S1 + (M 1 (kj c1)))), (10, .int c1), (9, .int O1), (3, .int (nI k)), (2, .int (nI (nn M))), (1, .ref o), (0, .ref b)]) hx hb dL_law_935 hl (by decide) rfl (fun ls hl => ?_)
  refine lv_iload hx hb dL_law_937 (lv_at hl 2 rfl) ?_
  refine lv_aload_n hx hb dL_law_939 rfl (lv_at hl 5 rfl) ?_
  refine lv_iload hx hb dL_law_940 (lv_at hl 1 rfl) ?_
  refine O_owedTo hfl hM hE hX hO hl (ok_owedTo hO.z hc1).1 (ok_owedTo hO.z hc1).2 (by decide) (Nat.le_of_ble_eq_true rfl) ⟨by show cells + 1 + 1 ≤ 600086; omega, by show slots + 6 + 6 ≤ 7301442; omega⟩ dL_law_942 (fun L F H locs hX hO => ?_)
  refine lv_aload_n hx hb dL_law_945 rfl (lv_at hl 5 rfl) ?_
  refine lv_iload hx hb dL_law_946 (lv_at hl 1 rfl) ?_
  refine O_owes hfl hM hE hX hO hl (ok_owes2 hO.z hc1).1 (ok_owes2 hO.z hc1).2 (by decide) (Nat.le_of_ble_eq_true rfl) ⟨by show cells + 1 + 1 + 1 ≤ 600086; omega, by show slots + 6 + 6 + 6 ≤ 7301442; omega⟩ dL_law_948 (fun L F H locs hX hO => ?_)
  refine lv_isub hx hb dL_law_951 ?_
  refine lv_iadd hx hb dL_law_952 ?_
  refine lv_istore (lv' := [(9, .int (O1 + ((sumsM M c1 1) - (sumsM M c1 0)))), (8, .int (S1 + (M 1 (kj c1)))), (10, .int c1), (3, .int (nI k)), (2, .int (nI (nn M))), (1, .ref o), (0, .ref b)]) hx hb dL_law_953 hl (by decide) rfl (fun ls hl => ?_)
  refine lv_aload_n hx hb dL_law_955 rfl (lv_at hl 5 rfl) ?_
  refine lv_iload hx hb dL_law_956 (lv_at hl 2 rfl) ?_
  refine O_cash hfl hM hE hX hO hl (ok_cash hc1).1 (ok_cash hc1).2 (by decide) (Nat.le_of_ble_eq_true rfl) ⟨by show cells + 1 + 1 + 1 + 1 ≤ 600086; omega, by show slots + 6 + 6 + 6 + 6 ≤ 7301442; omega⟩ dL_law_958 (fun L F H locs hX hO => ?_)
  refine lv_aload_n hx hb dL_law_961 rfl (lv_at hl 5 rfl) ?_
  refine lv_iload hx hb dL_law_962 (lv_at hl 2 rfl) ?_
  refine O_cashAnew hfl hM hE hX hO hl (by omega) (ok_cashAnew hc1).1 (ok_cashAnew hc1).2 (by decide) (Nat.le_of_ble_eq_true rfl) ⟨by show cells + 1 + 1 + 1 + 1 + 1 ≤ 600086; omega, by show slots + 6 + 6 + 6 + 6 + 6 ≤ 7301442; omega⟩ dL_law_964 (fun L F H locs hX hO => ?_)
  refine lv_icmp_ne (tgt := 1002) hx hb dL_law_967 (by decide) (fun h9 => absurd (show ((M 1 (kj c1)) : Int32) = (M 1 (kj c1)) from rfl) h9) (fun _ => ?_)
  refine lv_aload_n hx hb dL_law_970 rfl (lv_at hl 5 rfl) ?_
  refine lv_iload hx hb dL_law_971 (lv_at hl 2 rfl) ?_
  refine lv_aload_n hx hb dL_law_973 rfl (lv_at hl 5 rfl) ?_
  refine O_day hM hE hX hO hl rfl (by decide) (Nat.le_of_ble_eq_true rfl) ⟨by show cells + 1 + 1 + 1 + 1 + 1 ≤ 600086; omega, by show slots + 6 + 6 + 6 + 6 + 6 ≤ 7301442; omega⟩ dL_law_974 (fun L F H locs hX hO => ?_)
  refine lv_bipush (v := 30) hx hb dL_law_977 (by decide) ?_
  refine lv_idiv hx hb dL_law_979 (by decide) ?_
  rcases ok_tax hI hc1 with ⟨-, h1, h2⟩ | ⟨v, hv, h1, h2, h3, h4⟩
  · refine O_tax hfl hM hE hX hO hl h1 h2 (by decide) (Nat.le_of_ble_eq_true rfl) ⟨by show cells + 1 + 1 + 1 + 1 + 1 + 3 ≤ 600086; omega, by show slots + 6 + 6 + 6 + 6 + 6 + 18 ≤ 7301442; omega⟩ dL_law_980 (fun L F H locs hX hO => ?_)
    refine lv_if_le (tgt := 1004) hx hb dL_law_983 (by decide) (fun _ => ?_) (fun h9 => absurd (show (0 : Int32) ≤ 0 from (by decide)) h9)
    exact W.widen (k := cells + 12) (n := slots + 80) (by omega) (by omega) (kq L F H locs ls hX hO (lv_sub hl [2, 0, 1, 3, 4, 5, 6] rfl))
  · refine O_tax hfl hM hE hX hO hl h1 h2 (by decide) (Nat.le_of_ble_eq_true rfl) ⟨by show cells + 1 + 1 + 1 + 1 + 1 + 3 ≤ 600086; omega, by show slots + 6 + 6 + 6 + 6 + 6 + 18 ≤ 7301442; omega⟩ dL_law_980 (fun L F H locs hX hO => ?_)
    refine lv_if_le (tgt := 1004) hx hb dL_law_983 (by decide) (fun h9 => absurd h9 (show ¬ (v : Int32) ≤ 0 from hv)) (fun _ => ?_)
    refine lv_aload_n hx hb dL_law_986 rfl (lv_at hl 5 rfl) ?_
    refine lv_iload hx hb dL_law_987 (lv_at hl 2 rfl) ?_
    refine lv_aload_n hx hb dL_law_989 rfl (lv_at hl 5 rfl) ?_
    refine O_day hM hE hX hO hl rfl (by decide) (Nat.le_of_ble_eq_true rfl) ⟨by show cells + 1 + 1 + 1 + 1 + 1 + 3 ≤ 600086; omega, by show slots + 6 + 6 + 6 + 6 + 6 + 18 ≤ 7301442; omega⟩ dL_law_990 (fun L F H locs hX hO => ?_)
    refine lv_bipush (v := 30) hx hb dL_law_993 (by decide) ?_
    refine lv_idiv hx hb dL_law_995 (by decide) ?_
    refine O_carried hfl hM hE hX hO hl h3 h4 (by decide) (Nat.le_of_ble_eq_true rfl) ⟨by show cells + 1 + 1 + 1 + 1 + 1 + 3 + 3 ≤ 600086; omega, by show slots + 6 + 6 + 6 + 6 + 6 + 18 + 18 ≤ 7301442; omega⟩ dL_law_996 (fun L F H locs hX hO => ?_)
    refine lv_if_ge (tgt := 1004) hx hb dL_law_999 (by decide) (fun _ => ?_) (fun h9 => absurd (show (0 : Int32) ≤ 0 from (by decide)) h9)
    exact W.widen (k := cells + 12) (n := slots + 80) (by omega) (by omega) (kq L F H locs ls hX hO (lv_sub hl [2, 0, 1, 3, 4, 5, 6] rfl))
set_option maxHeartbeats 8000000 in
set_option maxRecDepth 100000 in
theorem lt_all (hfl : l.stackTraces = false) (hM : kM p s m args meth c cL_law 15 ret "InvoicebridgeLaw") (hE : kE γ A s) (hX : kX γ A s L F H locs) (hO : Ob γ o M n L F) (hT : Xt M) (hn : n < 512) {b k : Nat} (hk : k < 70) (hc : cells + (80 + if k % 16 = 0 then 1242 else 0) ≤ 600086) (hs : slots + (500 + if k % 16 = 0 then 169940 else 0) ≤ 7301442) (hl : lv_has ls 15 [(3, .int (nI k)), (2, .int (nI (nn M))), (1, .ref o), (0, .ref b)])
    (kq : ∀ (L : List Nat) (F : kF) (H : Heap) (locs : List Loc) (ls : Array Slot), kX γ A s L F H locs → Ob γ o M n L F → lv_has ls 15 [(3, .int (nI k)), (2, .int (nI (nn M))), (1, .ref o), (0, .ref b)] → W p l e room_1 s m args below meth c H locs (cells + (80 + if k % 16 = 0 then 1242 else 0)) (slots + (500 + if k % 16 = 0 then 169940 else 0)) Q (F0 m 1048 ls [])) : W p l e room_1 s m args below meth c H locs cells slots Q (F0 m 910 ls []) := by
  have hx := hM.1
  have hb := hM.2.1
  obtain ⟨nd, D, hI⟩ := hO.inv
  have hn20 := hI.1.2
  refine lv_iconst (v := 0) hx hb dL_law_910 (by decide) ?_
  refine lv_istore (lv' := [(8, .int 0), (3, .int (nI k)), (2, .int (nI (nn M))), (1, .ref o), (0, .ref b)]) hx hb dL_law_911 hl (by decide) rfl (fun ls hl => ?_)
  refine lv_iconst (v := 0) hx hb dL_law_913 (by decide) ?_
  refine lv_istore (lv' := [(9, .int 0), (8, .int 0), (3, .int (nI k)), (2, .int (nI (nn M))), (1, .ref o), (0, .ref b)]) hx hb dL_law_914 hl (by decide) rfl (fun ls hl => ?_)
  refine lv_iconst (v := 0) hx hb dL_law_916 (by decide) ?_
  refine lv_istore (lv' := [(10, .int 0), (9, .int 0), (8, .int 0), (3, .int (nI k)), (2, .int (nI (nn M))), (1, .ref o), (0, .ref b)]) hx hb dL_law_917 hl (by decide) rfl (fun ls hl => ?_)
  refine lv_iload hx hb dL_law_919 (lv_at hl 0 rfl) ?_
  refine lv_bipush (v := 6) hx hb dL_law_921 (by decide) ?_
  refine lv_icmp_ge (tgt := 1010) hx hb dL_law_923 (by decide) (fun h9 => absurd h9 (show ¬ (6 : Int32) ≤ 0 from (by decide))) (fun _ => ?_)
  refine lt_body hfl hM hE hX hO (by omega) (c1 := 0) (by decide) (by omega) (by omega) (lv_sub hl [0, 1, 2, 3, 4, 5, 6] rfl) (fun L F H locs ls hX hO hl => ?_)
  refine lv_iinc (v := 1) (lv' := [(10, .int 1), (9, .int (0 + (sumsM M 0 1 - sumsM M 0 0))), (8, .int (0 + M 1 (kj 0))), (3, .int (nI k)), (2, .int (nI (nn M))), (1, .ref o), (0, .ref b)]) hx hb dL_law_1004 hl (k := 0) rfl (by decide) (by decide) rfl (fun ls hl => ?_)
  refine lv_goto (tgt := 919) hx hb dL_law_1007 (by decide) ?_
  refine lv_iload hx hb dL_law_919 (lv_at hl 0 rfl) ?_
  refine lv_bipush (v := 6) hx hb dL_law_921 (by decide) ?_
  refine lv_icmp_ge (tgt := 1010) hx hb dL_law_923 (by decide) (fun h9 => absurd h9 (show ¬ (6 : Int32) ≤ 1 from (by decide))) (fun _ => ?_)
  refine lt_body hfl hM hE hX hO (by omega) (c1 := 1) (by decide) (by omega) (by omega) (lv_sub hl [0, 1, 2, 3, 4, 5, 6] rfl) (fun L F H locs ls hX hO hl => ?_)
  refine lv_iinc (v := 2) (lv' := [(10, .int 2), (9, .int ((0 + (sumsM M 0 1 - sumsM M 0 0)) + (sumsM M 1 1 - sumsM M 1 0))), (8, .int ((0 + M 1 (kj 0)) + M 1 (kj 1))), (3, .int (nI k)), (2, .int (nI (nn M))), (1, .ref o), (0, .ref b)]) hx hb dL_law_1004 hl (k := 0) rfl (by decide) (by decide) rfl (fun ls hl => ?_)
  refine lv_goto (tgt := 919) hx hb dL_law_1007 (by decide) ?_
  refine lv_iload hx hb dL_law_919 (lv_at hl 0 rfl) ?_
  refine lv_bipush (v := 6) hx hb dL_law_921 (by decide) ?_
  refine lv_icmp_ge (tgt := 1010) hx hb dL_law_923 (by decide) (fun h9 => absurd h9 (show ¬ (6 : Int32) ≤ 2 from (by decide))) (fun _ => ?_)
  refine lt_body hfl hM hE hX hO (by omega) (c1 := 2) (by decide) (by omega) (by omega) (lv_sub hl [0, 1, 2, 3, 4, 5, 6] rfl) (fun L F H locs ls hX hO hl => ?_)
  refine lv_iinc (v := 3) (lv' := [(10, .int 3), (9, .int (((0 + (sumsM M 0 1 - sumsM M 0 0)) + (sumsM M 1 1 - sumsM M 1 0)) + (sumsM M 2 1 - sumsM M 2 0))), (8, .int (((0 + M 1 (kj 0)) + M 1 (kj 1)) + M 1 (kj 2))), (3, .int (nI k)), (2, .int (nI (nn M))), (1, .ref o), (0, .ref b)]) hx hb dL_law_1004 hl (k := 0) rfl (by decide) (by decide) rfl (fun ls hl => ?_)
  refine lv_goto (tgt := 919) hx hb dL_law_1007 (by decide) ?_
  refine lv_iload hx hb dL_law_919 (lv_at hl 0 rfl) ?_
  refine lv_bipush (v := 6) hx hb dL_law_921 (by decide) ?_
  refine lv_icmp_ge (tgt := 1010) hx hb dL_law_923 (by decide) (fun h9 => absurd h9 (show ¬ (6 : Int32) ≤ 3 from (by decide))) (fun _ => ?_)
  refine lt_body hfl hM hE hX hO (by omega) (c1 := 3) (by decide) (by omega) (by omega) (lv_sub hl [0, 1, 2, 3, 4, 5, 6] rfl) (fun L F H locs ls hX hO hl => ?_)
  refine lv_iinc (v := 4) (lv' := [(10, .int 4), (9, .int ((((0 + (sumsM M 0 1 - sumsM M 0 0)) + (sumsM M 1 1 - sumsM M 1 0)) + (sumsM M 2 1 - sumsM M 2 0)) + (sumsM M 3 1 - sumsM M 3 0))), (8, .int ((((0 + M 1 (kj 0)) + M 1 (kj 1)) + M 1 (kj 2)) + M 1 (kj 3))), (3, .int (nI k)), (2, .int (nI (nn M))), (1, .ref o), (0, .ref b)]) hx hb dL_law_1004 hl (k := 0) rfl (by decide) (by decide) rfl (fun ls hl => ?_)
  refine lv_goto (tgt := 919) hx hb dL_law_1007 (by decide) ?_
  refine lv_iload hx hb dL_law_919 (lv_at hl 0 rfl) ?_
  refine lv_bipush (v := 6) hx hb dL_law_921 (by decide) ?_
  refine lv_icmp_ge (tgt := 1010) hx hb dL_law_923 (by decide) (fun h9 => absurd h9 (show ¬ (6 : Int32) ≤ 4 from (by decide))) (fun _ => ?_)
  refine lt_body hfl hM hE hX hO (by omega) (c1 := 4) (by decide) (by omega) (by omega) (lv_sub hl [0, 1, 2, 3, 4, 5, 6] rfl) (fun L F H locs ls hX hO hl => ?_)
  refine lv_iinc (v := 5) (lv' := [(10, .int 5), (9, .int (((((0 + (sumsM M 0 1 - sumsM M 0 0)) + (sumsM M 1 1 - sumsM M 1 0)) + (sumsM M 2 1 - sumsM M 2 0)) + (sumsM M 3 1 - sumsM M 3 0)) + (sumsM M 4 1 - sumsM M 4 0))), (8, .int (((((0 + M 1 (kj 0)) + M 1 (kj 1)) + M 1 (kj 2)) + M 1 (kj 3)) + M 1 (kj 4))), (3, .int (nI k)), (2, .int (nI (nn M))), (1, .ref o), (0, .ref b)]) hx hb dL_law_1004 hl (k := 0) rfl (by decide) (by decide) rfl (fun ls hl => ?_)
  refine lv_goto (tgt := 919) hx hb dL_law_1007 (by decide) ?_
  refine lv_iload hx hb dL_law_919 (lv_at hl 0 rfl) ?_
  refine lv_bipush (v := 6) hx hb dL_law_921 (by decide) ?_
  refine lv_icmp_ge (tgt := 1010) hx hb dL_law_923 (by decide) (fun h9 => absurd h9 (show ¬ (6 : Int32) ≤ 5 from (by decide))) (fun _ => ?_)
  refine lt_body hfl hM hE hX hO (by omega) (c1 := 5) (by decide) (by omega) (by omega) (lv_sub hl [0, 1, 2, 3, 4, 5, 6] rfl) (fun L F H locs ls hX hO hl => ?_)
  refine lv_iinc (v := 6) (lv' := [(10, .int 6), (9, .int ((((((0 + (sumsM M 0 1 - sumsM M 0 0)) + (sumsM M 1 1 - sumsM M 1 0)) + (sumsM M 2 1 - sumsM M 2 0)) + (sumsM M 3 1 - sumsM M 3 0)) + (sumsM M 4 1 - sumsM M 4 0)) + (sumsM M 5 1 - sumsM M 5 0))), (8, .int ((((((0 + M 1 (kj 0)) + M 1 (kj 1)) + M 1 (kj 2)) + M 1 (kj 3)) + M 1 (kj 4)) + M 1 (kj 5))), (3, .int (nI k)), (2, .int (nI (nn M))), (1, .ref o), (0, .ref b)]) hx hb dL_law_1004 hl (k := 0) rfl (by decide) (by decide) rfl (fun ls hl => ?_)
  refine lv_goto (tgt := 919) hx hb dL_law_1007 (by decide) ?_
  refine lv_iload hx hb dL_law_919 (lv_at hl 0 rfl) ?_
  refine lv_bipush (v := 6) hx hb dL_law_921 (by decide) ?_
  refine lv_icmp_ge (tgt := 1010) hx hb dL_law_923 (by decide) (fun _ => ?_) (fun h9 => absurd (show (6 : Int32) ≤ 6 from (by decide)) h9)
  refine lv_iload hx hb dL_law_1010 (lv_at hl 2 rfl) ?_
  refine lv_if_ne (tgt := 1046) hx hb dL_law_1012 (by decide) (fun h9 => absurd (show (((((((0 + M 1 (kj 0)) + M 1 (kj 1)) + M 1 (kj 2)) + M 1 (kj 3)) + M 1 (kj 4)) + M 1 (kj 5)) : Int32) = 0 from hT.1) h9) (fun _ => ?_)
  refine lv_iload hx hb dL_law_1015 (lv_at hl 1 rfl) ?_
  refine lv_if_ne (tgt := 1046) hx hb dL_law_1017 (by decide) (fun h9 => absurd (show (((((((0 + (sumsM M 0 1 - sumsM M 0 0)) + (sumsM M 1 1 - sumsM M 1 0)) + (sumsM M 2 1 - sumsM M 2 0)) + (sumsM M 3 1 - sumsM M 3 0)) + (sumsM M 4 1 - sumsM M 4 0)) + (sumsM M 5 1 - sumsM M 5 0)) : Int32) = 0 from sums_0 hI) h9) (fun _ => ?_)
  refine lv_aload_n hx hb dL_law_1020 rfl (lv_at hl 5 rfl) ?_
  refine lv_iload_n hx hb dL_law_1021 rfl (lv_at hl 3 rfl) ?_
  refine lv_bipush (v := 8) hx hb dL_law_1022 (by decide) ?_
  refine lv_irem hx hb dL_law_1024 (by decide) ?_
  refine lv_is (y := (nI (k % 8))) (pk_rem (a := k) (d := 8) (by omega) (by decide) (by decide)) ?_
  obtain ⟨v, hv0, h1, h2⟩ := ok_chain hI hO.z (g := k % 8) (Nat.mod_lt _ (by decide))
  refine O_chain hfl hM hE hX hO hl h1 h2 (by decide) (Nat.le_of_ble_eq_true rfl) ⟨by show cells + 12 + 12 + 12 + 12 + 12 + 12 + 1 ≤ 600086; omega, by show slots + 80 + 80 + 80 + 80 + 80 + 80 + 6 ≤ 7301442; omega⟩ dL_law_1025 (fun L F H locs hX hO => ?_)
  refine lv_if_lt (tgt := 1046) hx hb dL_law_1028 (by decide) (fun h9 => absurd h9 (show ¬ (v : Int32) < 0 from Int32.not_lt.mpr hv0)) (fun _ => ?_)
  refine lv_iload_n hx hb dL_law_1031 rfl (lv_at hl 3 rfl) ?_
  refine lv_bipush (v := 16) hx hb dL_law_1032 (by decide) ?_
  refine lv_irem hx hb dL_law_1034 (by decide) ?_
  refine lv_is (y := (nI (k % 16))) (pk_rem (a := k) (d := 16) (by omega) (by decide) (by decide)) ?_
  by_cases h16 : k % 16 = 0
  · refine lv_if_ne (tgt := 1048) hx hb dL_law_1035 (by decide) (fun h9 => absurd (show ((nI (k % 16)) : Int32) = 0 from by rw [h16]; rfl) h9) (fun _ => ?_)
    refine lv_aload_n hx hb dL_law_1038 rfl (lv_at hl 5 rfl) ?_
    refine lv_iload_n hx hb dL_law_1039 rfl (lv_at hl 4 rfl) ?_
    refine H_refuses hfl hM hE hX hO hl (by omega) hI.1.1 (by decide) (Nat.le_of_ble_eq_true rfl) ⟨by show cells + 12 + 12 + 12 + 12 + 12 + 12 + 1 + 1242 ≤ 600086; (try rw [if_pos h16] at hc hs); omega, by show slots + 80 + 80 + 80 + 80 + 80 + 80 + 6 + 169940 ≤ 7301442; (try rw [if_pos h16] at hc hs); omega⟩ dL_law_1040 (fun L F H locs hX hO => ?_)
    refine lv_if_ne (tgt := 1048) hx hb dL_law_1043 (by decide) (fun _ => ?_) (fun h9 => absurd h9 (show ¬ (1 : Int32) = 0 from (by decide)))
    exact W.widen (k := cells + (80 + if k % 16 = 0 then 1242 else 0)) (n := slots + (500 + if k % 16 = 0 then 169940 else 0)) (by rw [if_pos h16]; omega) (by rw [if_pos h16]; omega) (kq L F H locs ls hX hO (lv_sub hl [3, 4, 5, 6] rfl))
  · refine lv_if_ne (tgt := 1048) hx hb dL_law_1035 (by decide) (fun _ => ?_) (fun h9 => absurd h9 (show ¬ ((nI (k % 16)) : Int32) = 0 from fun h9 => h16 ((nI_eq (a := k % 16) (b := 0) (by omega) (by decide)).mp h9)))
    exact W.widen (k := cells + (80 + if k % 16 = 0 then 1242 else 0)) (n := slots + (500 + if k % 16 = 0 then 169940 else 0)) (by rw [if_neg h16]; omega) (by rw [if_neg h16]; omega) (kq L F H locs ls hX hO (lv_sub hl [3, 4, 5, 6] rfl))
end LC
