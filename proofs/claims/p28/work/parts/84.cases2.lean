/-! the drawn loop, case by case -/
section LC
variable {p : Program} {l : Launch} {e : Env} {s : State} {m : MethodId} {args : Array Value} {below : List Frame} {meth : Method} {c : Code} {H : Heap} {locs : List Loc} {cells slots : Nat} {Q : State → Prop}
variable {ret : Option FieldType} {γ : kG} {A : Nat → Prop} {L : List Nat} {F : kF} {ls : Array Slot} {o n : Nat} {M : mM}
set_option maxHeartbeats 8000000 in
set_option maxRecDepth 100000 in
theorem lc_disp (hfl : l.stackTraces = false) (hM : kM p s m args meth c cL_law 15 ret "InvoicebridgeLaw") (hE : kE γ A s) (hX : kX γ A s L F H locs) (hO : Ob γ o M n L F) (hT : Xt M) (hn : n + 8 < 512) {b k y z : Nat} (hy : y < 2097152) (hz9 : z < 2097152) (ht : 0 < nn M) (hc : cells + 120 ≤ 600086) (hs : slots + 4700 ≤ 7301442) (hl : lv_has ls 15 [(7, .int (nI z)), (6, .int (nI y)), (3, .int (nI k)), (2, .int (nI (nn M))), (1, .ref o), (0, .ref b)])
    (kq : ∀ (M : mM) (L : List Nat) (F : kF) (H : Heap) (locs : List Loc) (ls : Array Slot), kX γ A s L F H locs → Ob γ o M (n + 7) L F → Xt M → lv_has ls 15 [(3, .int (nI k)), (2, .int (nI (nn M))), (1, .ref o), (0, .ref b)] → W p l e room_1 s m args below meth c H locs (cells + 50) (slots + 4150) Q (F0 m 910 ls [])) : W p l e room_1 s m args below meth c H locs cells slots Q (F0 m 468 ls []) := by
  have hx := hM.1
  have hb := hM.2.1
  obtain ⟨nd, D, hI⟩ := hO.inv
  have hn20 := hI.1.2
  obtain ⟨i, hi, ei⟩ : ∃ i, i < nn M ∧ y % nn M = i := ⟨_, Nat.mod_lt _ ht, rfl⟩
  refine lv_iload hx hb dL_law_468 (lv_at hl 1 rfl) ?_
  refine lv_iload_n hx hb dL_law_470 rfl (lv_at hl 3 rfl) ?_
  refine lv_irem hx hb dL_law_471 (nI_ne0 ht (by have := hI.1.2; omega)) ?_
  refine lv_is (y := (nI i)) ((pk_rem (a := y) (d := nn M) (by omega) ht (by have := hI.1.2; omega)).trans (congrArg nI ei)) ?_
  refine lv_istore (lv' := [(8, .int (nI i)), (7, .int (nI z)), (6, .int (nI y)), (3, .int (nI k)), (2, .int (nI (nn M))), (1, .ref o), (0, .ref b)]) hx hb dL_law_472 hl (by decide) rfl (fun ls hl => ?_)
  refine lv_iload hx hb dL_law_474 (lv_at hl 1 rfl) ?_
  refine lv_aload_n hx hb dL_law_476 rfl (lv_at hl 5 rfl) ?_
  refine lv_iload hx hb dL_law_477 (lv_at hl 0 rfl) ?_
  refine lv_bipush (v := 7) hx hb dL_law_479 (by decide) ?_
  refine O_about hfl hM hE hX hO hl (ab_t hI hO.z hi).2.2.2.2.2.2.1 (ab_t hI hO.z hi).2.2.2.2.2.2.2 (by decide) (Nat.le_of_ble_eq_true rfl) ⟨by show cells + 2 ≤ 600086; omega, by show slots + 12 ≤ 7301442; omega⟩ dL_law_481 (fun L F H locs hX hO => ?_)
  have hk3 := hI.k3 i
  have hk1 := hI.2.2.2.2.2.2.2.2.2.2.2.2.2.1 i hi
  refine lv_is (y := (nI (kk M i))) (hk3.1) ?_
  obtain ⟨j, hj, ej⟩ : ∃ j, j < kk M i ∧ z % kk M i = j := ⟨_, Nat.mod_lt _ hk1, rfl⟩
  refine lv_irem hx hb dL_law_484 (nI_ne0 hk1 (by omega)) ?_
  refine lv_is (y := (nI j)) ((pk_rem (a := z) (d := kk M i) (by omega) hk1 (by omega)).trans (congrArg nI ej)) ?_
  refine lv_istore (lv' := [(9, .int (nI j)), (8, .int (nI i)), (7, .int (nI z)), (6, .int (nI y)), (3, .int (nI k)), (2, .int (nI (nn M))), (1, .ref o), (0, .ref b)]) hx hb dL_law_485 hl (by decide) rfl (fun ls hl => ?_)
  refine lv_iload hx hb dL_law_487 (lv_at hl 3 rfl) ?_
  refine lv_iconst (v := 2) hx hb dL_law_489 (by decide) ?_
  refine lv_irem hx hb dL_law_490 (by decide) ?_
  refine lv_is (y := (nI (y % 2))) (pk_rem (a := y) (d := 2) (by omega) (by decide) (by decide)) ?_
  by_cases h2y : (nI (y % 2) : Int32) = 0
  · refine lv_if_ne (tgt := 509) hx hb dL_law_491 (by decide) (fun h9 => absurd (show ((nI (y % 2)) : Int32) = 0 from h2y) h9) (fun _ => ?_)
    refine lv_aload_n hx hb dL_law_494 rfl (lv_at hl 6 rfl) ?_
    refine lv_iconst (v := 5) hx hb dL_law_495 (by decide) ?_
    refine lv_iload hx hb dL_law_496 (lv_at hl 1 rfl) ?_
    refine lv_iload hx hb dL_law_498 (lv_at hl 0 rfl) ?_
    refine lv_iconst (v := 0) hx hb dL_law_500 (by decide) ?_
    refine lv_iconst (v := 0) hx hb dL_law_501 (by decide) ?_
    refine lv_iconst (v := 0) hx hb dL_law_502 (by decide) ?_
    rcases x_dispute hI hT hi hj with ⟨M1, h, h0, hT1, hn1⟩ | h3
    · refine A_ok_5 hfl hM hE hX hO hl h h0 (by decide) (by decide) ⟨by show cells + 2 + 3 ≤ 600086; omega, by show slots + 12 + 18 ≤ 7301442; omega⟩ dL_law_503 (fun L F H locs hX hO => ?_)
      obtain ⟨nd1, D1, hI1⟩ := hO.inv
      have hnn : nn M1 = nn M := by unfold nn; rw [hn1]
      have hi1 : i < nn M1 := by rw [hnn]; exact hi
      refine lv_goto (tgt := 525) hx hb dL_law_506 (by decide) ?_
      refine lv_istore (lv' := [(10, .int (owed M1 i)), (9, .int (nI j)), (8, .int (nI i)), (7, .int (nI z)), (6, .int (nI y)), (3, .int (nI k)), (2, .int (nI (nn M))), (1, .ref o), (0, .ref b)]) hx hb dL_law_525 hl (by decide) rfl (fun ls hl => ?_)
      refine lv_iload hx hb dL_law_527 (lv_at hl 0 rfl) ?_
      by_cases hlt : owed M1 i < 0
      · refine lv_if_lt (tgt := 546) hx hb dL_law_529 (by decide) (fun _ => ?_) (fun h9 => absurd (show ((owed M1 i) : Int32) < 0 from hlt) h9)
        refine lv_goto (tgt := 910) hx hb dL_law_546 (by decide) ?_
        exact W.widen (k := cells + 50) (n := slots + 4150) (by omega) (by omega) (kq M1 L F H locs ls hX (hO.up (by omega)) hT1 (by rw [hnn]; exact lv_sub hl [5, 6, 7, 8] rfl))
      · refine lv_if_lt (tgt := 546) hx hb dL_law_529 (by decide) (fun h9 => absurd h9 (show ¬ ((owed M1 i) : Int32) < 0 from hlt)) (fun _ => ?_)
        refine lv_iload hx hb dL_law_532 (lv_at hl 0 rfl) ?_
        refine lv_aload_n hx hb dL_law_534 rfl (lv_at hl 7 rfl) ?_
        refine lv_iload hx hb dL_law_535 (lv_at hl 2 rfl) ?_
        refine lv_iconst (v := 5) hx hb dL_law_537 (by decide) ?_
        refine O_about hfl hM hE hX hO hl (ab_t hI1 hO.z hi1).2.2.2.2.2.1.1 (ab_t hI1 hO.z hi1).2.2.2.2.2.1.2 (by decide) (Nat.le_of_ble_eq_true rfl) ⟨by show cells + 2 + 3 + 2 ≤ 600086; omega, by show slots + 12 + 18 + 12 ≤ 7301442; omega⟩ dL_law_538 (fun L F H locs hX hO => ?_)
        refine lv_icmp_eq (tgt := 546) hx hb dL_law_541 (by decide) (fun _ => ?_) (fun h9 => absurd (show ((owed M1 i) : Int32) = (owed M1 i) from rfl) h9)
        refine lv_goto (tgt := 910) hx hb dL_law_546 (by decide) ?_
        exact W.widen (k := cells + 50) (n := slots + 4150) (by omega) (by omega) (kq M1 L F H locs ls hX (hO.up (by omega)) hT1 (by rw [hnn]; exact lv_sub hl [5, 6, 7, 8] rfl))
    · refine A_no_5 (q := 2) (v := (-7000003)) hfl hM hE hX hO hl (by simp) h3 (by decide) (by decide) ⟨by show cells + 2 + 3 ≤ 600086; omega, by show slots + 12 + 18 ≤ 7301442; omega⟩ dL_law_503 (fun L F H locs hX hO => ?_)
      refine lv_goto (tgt := 525) hx hb dL_law_506 (by decide) ?_
      refine lv_istore (lv' := [(10, .int (-7000003)), (9, .int (nI j)), (8, .int (nI i)), (7, .int (nI z)), (6, .int (nI y)), (3, .int (nI k)), (2, .int (nI (nn M))), (1, .ref o), (0, .ref b)]) hx hb dL_law_525 hl (by decide) rfl (fun ls hl => ?_)
      refine lv_iload hx hb dL_law_527 (lv_at hl 0 rfl) ?_
      refine lv_if_lt (tgt := 546) hx hb dL_law_529 (by decide) (fun _ => ?_) (fun h9 => absurd (show ((-7000003) : Int32) < 0 from (by decide)) h9)
      refine lv_goto (tgt := 910) hx hb dL_law_546 (by decide) ?_
      exact W.widen (k := cells + 50) (n := slots + 4150) (by omega) (by omega) (kq M L F H locs ls hX (hO.up (by omega)) hT (lv_sub hl [5, 6, 7, 8] rfl))
  · refine lv_if_ne (tgt := 509) hx hb dL_law_491 (by decide) (fun _ => ?_) (fun h9 => absurd h9 (show ¬ ((nI (y % 2)) : Int32) = 0 from h2y))
    refine lv_aload_n hx hb dL_law_509 rfl (lv_at hl 6 rfl) ?_
    refine lv_bipush (v := 6) hx hb dL_law_510 (by decide) ?_
    refine lv_iload hx hb dL_law_512 (lv_at hl 1 rfl) ?_
    refine lv_iload hx hb dL_law_514 (lv_at hl 0 rfl) ?_
    refine lv_iload hx hb dL_law_516 (lv_at hl 2 rfl) ?_
    refine lv_iconst (v := 2) hx hb dL_law_518 (by decide) ?_
    refine lv_irem hx hb dL_law_519 (by decide) ?_
    refine lv_is (y := (nI (z % 2))) (pk_rem (a := z) (d := 2) (by omega) (by decide) (by decide)) ?_
    refine lv_iconst (v := 0) hx hb dL_law_520 (by decide) ?_
    refine lv_iconst (v := 0) hx hb dL_law_521 (by decide) ?_
    rcases x_settle hI hT hi hj (z := bz (nI (z % 2))) with ⟨M1, h, h0, hT1, hn1⟩ | h3
    · refine A_ok_6 hfl hM hE hX hO hl h h0 (by decide) (by decide) ⟨by show cells + 2 + 6 ≤ 600086; omega, by show slots + 12 + 1100 ≤ 7301442; omega⟩ dL_law_522 (fun L F H locs hX hO => ?_)
      obtain ⟨nd1, D1, hI1⟩ := hO.inv
      have hnn : nn M1 = nn M := by unfold nn; rw [hn1]
      have hi1 : i < nn M1 := by rw [hnn]; exact hi
      refine lv_istore (lv' := [(10, .int (owed M1 i)), (9, .int (nI j)), (8, .int (nI i)), (7, .int (nI z)), (6, .int (nI y)), (3, .int (nI k)), (2, .int (nI (nn M))), (1, .ref o), (0, .ref b)]) hx hb dL_law_525 hl (by decide) rfl (fun ls hl => ?_)
      refine lv_iload hx hb dL_law_527 (lv_at hl 0 rfl) ?_
      by_cases hlt : owed M1 i < 0
      · refine lv_if_lt (tgt := 546) hx hb dL_law_529 (by decide) (fun _ => ?_) (fun h9 => absurd (show ((owed M1 i) : Int32) < 0 from hlt) h9)
        refine lv_goto (tgt := 910) hx hb dL_law_546 (by decide) ?_
        exact W.widen (k := cells + 50) (n := slots + 4150) (by omega) (by omega) (kq M1 L F H locs ls hX (hO.up (by omega)) hT1 (by rw [hnn]; exact lv_sub hl [5, 6, 7, 8] rfl))
      · refine lv_if_lt (tgt := 546) hx hb dL_law_529 (by decide) (fun h9 => absurd h9 (show ¬ ((owed M1 i) : Int32) < 0 from hlt)) (fun _ => ?_)
        refine lv_iload hx hb dL_law_532 (lv_at hl 0 rfl) ?_
        refine lv_aload_n hx hb dL_law_534 rfl (lv_at hl 7 rfl) ?_
        refine lv_iload hx hb dL_law_535 (lv_at hl 2 rfl) ?_
        refine lv_iconst (v := 5) hx hb dL_law_537 (by decide) ?_
        refine O_about hfl hM hE hX hO hl (ab_t hI1 hO.z hi1).2.2.2.2.2.1.1 (ab_t hI1 hO.z hi1).2.2.2.2.2.1.2 (by decide) (Nat.le_of_ble_eq_true rfl) ⟨by show cells + 2 + 6 + 2 ≤ 600086; omega, by show slots + 12 + 1100 + 12 ≤ 7301442; omega⟩ dL_law_538 (fun L F H locs hX hO => ?_)
        refine lv_icmp_eq (tgt := 546) hx hb dL_law_541 (by decide) (fun _ => ?_) (fun h9 => absurd (show ((owed M1 i) : Int32) = (owed M1 i) from rfl) h9)
        refine lv_goto (tgt := 910) hx hb dL_law_546 (by decide) ?_
        exact W.widen (k := cells + 50) (n := slots + 4150) (by omega) (by omega) (kq M1 L F H locs ls hX (hO.up (by omega)) hT1 (by rw [hnn]; exact lv_sub hl [5, 6, 7, 8] rfl))
    · refine A_no_6 (q := 2) (v := (-7000003)) hfl hM hE hX hO hl (by simp) h3 (by decide) (by decide) ⟨by show cells + 2 + 6 ≤ 600086; omega, by show slots + 12 + 1100 ≤ 7301442; omega⟩ dL_law_522 (fun L F H locs hX hO => ?_)
      refine lv_istore (lv' := [(10, .int (-7000003)), (9, .int (nI j)), (8, .int (nI i)), (7, .int (nI z)), (6, .int (nI y)), (3, .int (nI k)), (2, .int (nI (nn M))), (1, .ref o), (0, .ref b)]) hx hb dL_law_525 hl (by decide) rfl (fun ls hl => ?_)
      refine lv_iload hx hb dL_law_527 (lv_at hl 0 rfl) ?_
      refine lv_if_lt (tgt := 546) hx hb dL_law_529 (by decide) (fun _ => ?_) (fun h9 => absurd (show ((-7000003) : Int32) < 0 from (by decide)) h9)
      refine lv_goto (tgt := 910) hx hb dL_law_546 (by decide) ?_
      exact W.widen (k := cells + 50) (n := slots + 4150) (by omega) (by omega) (kq M L F H locs ls hX (hO.up (by omega)) hT (lv_sub hl [5, 6, 7, 8] rfl))
set_option maxHeartbeats 8000000 in
set_option maxRecDepth 100000 in
theorem lc_sell2 (hfl : l.stackTraces = false) (hM : kM p s m args meth c cL_law 15 ret "InvoicebridgeLaw") (hE : kE γ A s) (hX : kX γ A s L F H locs) (hO : Ob γ o M n L F) (hT : Xt M) (hn : n + 2 < 512) {b k y z : Nat} (hy : y < 2097152) (hz9 : z < 2097152) {i : Nat} (hi : i < nn M) (hc : cells + 60 ≤ 600086) (hs : slots + 3200 ≤ 7301442) (hl : lv_has ls 15 [(8, .int (nI i)), (7, .int (nI z)), (6, .int (nI y)), (3, .int (nI k)), (2, .int (nI (nn M))), (1, .ref o), (0, .ref b)])
    (kq : ∀ (M : mM) (L : List Nat) (F : kF) (H : Heap) (locs : List Loc) (ls : Array Slot), kX γ A s L F H locs → Ob γ o M (n + 1) L F → Xt M → lv_has ls 15 [(3, .int (nI k)), (2, .int (nI (nn M))), (1, .ref o), (0, .ref b)] → W p l e room_1 s m args below meth c H locs (cells + 30) (slots + 3000) Q (F0 m 910 ls [])) : W p l e room_1 s m args below meth c H locs cells slots Q (F0 m 638 ls []) := by
  have hx := hM.1
  have hb := hM.2.1
  obtain ⟨nd, D, hI⟩ := hO.inv
  have hn20 := hI.1.2
  refine lv_iload hx hb dL_law_638 (lv_at hl 2 rfl) ?_
  refine lv_iconst (v := 5) hx hb dL_law_640 (by decide) ?_
  refine lv_irem hx hb dL_law_641 (by decide) ?_
  refine lv_is (y := (nI (y % 5))) (pk_rem (a := y) (d := 5) (by omega) (by decide) (by decide)) ?_
  by_cases h5y : (nI (y % 5) : Int32) = 0
  · refine lv_if_ne (tgt := 679) hx hb dL_law_642 (by decide) (fun h9 => absurd (show ((nI (y % 5)) : Int32) = 0 from h5y) h9) (fun _ => ?_)
    refine lv_aload_n hx hb dL_law_645 rfl (lv_at hl 5 rfl) ?_
    refine lv_bipush (v := 8) hx hb dL_law_646 (by decide) ?_
    refine lv_iload hx hb dL_law_648 (lv_at hl 0 rfl) ?_
    refine lv_iconst (v := 0) hx hb dL_law_650 (by decide) ?_
    refine lv_iconst (v := 0) hx hb dL_law_651 (by decide) ?_
    refine lv_iconst (v := 0) hx hb dL_law_652 (by decide) ?_
    refine lv_iconst (v := 0) hx hb dL_law_653 (by decide) ?_
    rcases x_giveBack hI hT hO.z hi with ⟨M1, r, h, h0, hT1, hn1, h93⟩ | h3
    · refine A_ok_8 hfl hM hE hX hO hl (by omega) h h0 (by decide) (by decide) ⟨by show cells + 6 ≤ 600086; omega, by show slots + 1100 ≤ 7301442; omega⟩ dL_law_654 (fun L F H locs hX hO => ?_)
      obtain ⟨nd1, D1, hI1⟩ := hO.inv
      have hnn : nn M1 = nn M := by unfold nn; rw [hn1]
      have hi1 : i < nn M1 := by rw [hnn]; exact hi
      by_cases hlt : r < 0
      · refine lv_if_lt (tgt := 679) hx hb dL_law_657 (by decide) (fun _ => ?_) (fun h9 => absurd (show (r : Int32) < 0 from hlt) h9)
        refine lv_goto (tgt := 910) hx hb dL_law_679 (by decide) ?_
        exact W.widen (k := cells + 30) (n := slots + 3000) (by omega) (by omega) (kq M1 L F H locs ls hX (hO.up (by omega)) hT1 (by rw [hnn]; exact lv_sub hl [3, 4, 5, 6] rfl))
      · refine lv_if_lt (tgt := 679) hx hb dL_law_657 (by decide) (fun h9 => absurd h9 (show ¬ (r : Int32) < 0 from hlt)) (fun _ => ?_)
        refine lv_aload_n hx hb dL_law_660 rfl (lv_at hl 5 rfl) ?_
        refine lv_iload hx hb dL_law_661 (lv_at hl 0 rfl) ?_
        refine lv_iconst (v := 3) hx hb dL_law_663 (by decide) ?_
        refine O_about hfl hM hE hX hO hl (ab_t hI1 hO.z hi1).2.2.2.1.1 (ab_t hI1 hO.z hi1).2.2.2.1.2 (by decide) (Nat.le_of_ble_eq_true rfl) ⟨by show cells + 6 + 2 ≤ 600086; omega, by show slots + 1100 + 12 ≤ 7301442; omega⟩ dL_law_664 (fun L F H locs hX hO => ?_)
        refine lv_aload_n hx hb dL_law_667 rfl (lv_at hl 5 rfl) ?_
        refine lv_iload hx hb dL_law_668 (lv_at hl 0 rfl) ?_
        refine lv_iconst (v := 1) hx hb dL_law_670 (by decide) ?_
        refine O_about hfl hM hE hX hO hl (ab_t hI1 hO.z hi1).2.1.1 (ab_t hI1 hO.z hi1).2.1.2 (by decide) (Nat.le_of_ble_eq_true rfl) ⟨by show cells + 6 + 2 + 2 ≤ 600086; omega, by show slots + 1100 + 12 + 12 ≤ 7301442; omega⟩ dL_law_671 (fun L F H locs hX hO => ?_)
        refine lv_icmp_eq (tgt := 679) hx hb dL_law_674 (by decide) (fun _ => ?_) (fun h9 => absurd (show ((M1 9 i) : Int32) = (M1 3 i) from h93) h9)
        refine lv_goto (tgt := 910) hx hb dL_law_679 (by decide) ?_
        exact W.widen (k := cells + 30) (n := slots + 3000) (by omega) (by omega) (kq M1 L F H locs ls hX (hO.up (by omega)) hT1 (by rw [hnn]; exact lv_sub hl [3, 4, 5, 6] rfl))
    · refine A_no_8 (q := 2) (v := (-7000003)) hfl hM hE hX hO hl (by omega) (by simp) h3 (by decide) (by decide) ⟨by show cells + 6 ≤ 600086; omega, by show slots + 1100 ≤ 7301442; omega⟩ dL_law_654 (fun L F H locs hX hO => ?_)
      refine lv_if_lt (tgt := 679) hx hb dL_law_657 (by decide) (fun _ => ?_) (fun h9 => absurd (show ((-7000003) : Int32) < 0 from (by decide)) h9)
      refine lv_goto (tgt := 910) hx hb dL_law_679 (by decide) ?_
      exact W.widen (k := cells + 30) (n := slots + 3000) (by omega) (by omega) (kq M L F H locs ls hX (hO.up (by omega)) hT (lv_sub hl [3, 4, 5, 6] rfl))
  · refine lv_if_ne (tgt := 679) hx hb dL_law_642 (by decide) (fun _ => ?_) (fun h9 => absurd h9 (show ¬ ((nI (y % 5)) : Int32) = 0 from h5y))
    refine lv_goto (tgt := 910) hx hb dL_law_679 (by decide) ?_
    exact W.widen (k := cells + 30) (n := slots + 3000) (by omega) (by omega) (kq M L F H locs ls hX (hO.up (by omega)) hT (lv_sub hl [3, 4, 5, 6] rfl))
set_option maxHeartbeats 8000000 in
set_option maxRecDepth 100000 in
theorem lc_pay2 (hfl : l.stackTraces = false) (hM : kM p s m args meth c cL_law 15 ret "InvoicebridgeLaw") (hE : kE γ A s) (hX : kX γ A s L F H locs) (hO : Ob γ o M n L F) (hT : Xt M) (hn : n + 2 < 512) {b k y z : Nat} (hy : y < 2097152) (hz9 : z < 2097152) {i : Nat} (hi : i < nn M) (hit : itsM M = nI i) (hc : cells + 60 ≤ 600086) (hs : slots + 3200 ≤ 7301442) (hl : lv_has ls 15 [(12, .int (-1)), (11, .int (M 9 i)), (10, .int (M 4 i)), (9, .int (owed M i)), (8, .int (nI i)), (7, .int (nI z)), (6, .int (nI y)), (3, .int (nI k)), (2, .int (nI (nn M))), (1, .ref o), (0, .ref b)])
    (kq : ∀ (M : mM) (L : List Nat) (F : kF) (H : Heap) (locs : List Loc) (ls : Array Slot), kX γ A s L F H locs → Ob γ o M (n + 1) L F → Xt M → lv_has ls 15 [(3, .int (nI k)), (2, .int (nI (nn M))), (1, .ref o), (0, .ref b)] → W p l e room_1 s m args below meth c H locs (cells + 30) (slots + 3000) Q (F0 m 910 ls [])) : W p l e room_1 s m args below meth c H locs cells slots Q (F0 m 799 ls []) := by
  have hx := hM.1
  have hb := hM.2.1
  obtain ⟨nd, D, hI⟩ := hO.inv
  have hn20 := hI.1.2
  refine lv_iconst (v := 1) hx hb dL_law_799 (by decide) ?_
  refine lv_iload hx hb dL_law_800 (lv_at hl 5 rfl) ?_
  refine lv_sipush (v := 700) hx hb dL_law_802 (by decide) ?_
  refine lv_irem hx hb dL_law_805 (by decide) ?_
  refine lv_is (y := (nI (z % 700))) (pk_rem (a := z) (d := 700) (by omega) (by decide) (by decide)) ?_
  refine lv_iadd hx hb dL_law_806 ?_
  refine lv_is (y := (nI (1 + (z % 700)))) (nI_add 1 (z % 700)) ?_
  refine lv_istore (lv' := [(13, .int (nI (1 + (z % 700)))), (12, .int (-1)), (11, .int (M 9 i)), (10, .int (M 4 i)), (9, .int (owed M i)), (8, .int (nI i)), (7, .int (nI z)), (6, .int (nI y)), (3, .int (nI k)), (2, .int (nI (nn M))), (1, .ref o), (0, .ref b)]) hx hb dL_law_807 hl (by decide) rfl (fun ls hl => ?_)
  refine lv_aload_n hx hb dL_law_809 rfl (lv_at hl 10 rfl) ?_
  refine lv_bipush (v := 10) hx hb dL_law_810 (by decide) ?_
  refine lv_iload hx hb dL_law_812 (lv_at hl 3 rfl) ?_
  refine lv_iload hx hb dL_law_814 (lv_at hl 2 rfl) ?_
  refine lv_iload hx hb dL_law_816 (lv_at hl 0 rfl) ?_
  refine lv_iconst (v := 0) hx hb dL_law_818 (by decide) ?_
  refine lv_iconst (v := 0) hx hb dL_law_819 (by decide) ?_
  rcases x_payText hI hT hO.z hi hit (x := 1 + z % 700) (by omega) with ⟨hle, M1, h, h0, hT1, hn1, ho⟩ | ⟨hle, h3⟩
  · refine A_ok_10 hfl hM hE hX hO hl (by omega) h h0 (by decide) (by decide) ⟨by show cells + 7 ≤ 600086; omega, by show slots + 1100 ≤ 7301442; omega⟩ dL_law_820 (fun L F H locs hX hO => ?_)
    obtain ⟨nd1, D1, hI1⟩ := hO.inv
    have hnn : nn M1 = nn M := by unfold nn; rw [hn1]
    have hi1 : i < nn M1 := by rw [hnn]; exact hi
    refine lv_istore (lv' := [(14, .int (nI i)), (13, .int (nI (1 + (z % 700)))), (12, .int (-1)), (11, .int (M 9 i)), (10, .int (M 4 i)), (9, .int (owed M i)), (8, .int (nI i)), (7, .int (nI z)), (6, .int (nI y)), (3, .int (nI k)), (2, .int (nI (nn M))), (1, .ref o), (0, .ref b)]) hx hb dL_law_823 hl (by decide) rfl (fun ls hl => ?_)
    refine lv_iload hx hb dL_law_825 (lv_at hl 2 rfl) ?_
    refine lv_iconst (v := (-1)) hx hb dL_law_827 (by decide) ?_
    refine lv_icmp_ne (tgt := 872) hx hb dL_law_828 (by decide) (fun h9 => absurd (show ((-1) : Int32) = (-1) from (by decide)) h9) (fun _ => ?_)
    refine lv_iload hx hb dL_law_831 (lv_at hl 0 rfl) ?_
    refine lv_iload hx hb dL_law_833 (lv_at hl 1 rfl) ?_
    refine lv_iload hx hb dL_law_835 (lv_at hl 5 rfl) ?_
    refine lv_icmp_gt (tgt := 845) hx hb dL_law_837 (by decide) (fun h9 => absurd h9 (show ¬ ((owed M i) : Int32) < (nI (1 + (z % 700))) from hle)) (fun _ => ?_)
    refine lv_iload hx hb dL_law_840 (lv_at hl 6 rfl) ?_
    refine lv_goto (tgt := 847) hx hb dL_law_842 (by decide) ?_
    refine lv_icmp_ne (tgt := 872) hx hb dL_law_847 (by decide) (fun h9 => absurd (show ((nI i) : Int32) = (nI i) from rfl) h9) (fun _ => ?_)
    refine lv_iload hx hb dL_law_850 (lv_at hl 0 rfl) ?_
    refine lv_iload hx hb dL_law_852 (lv_at hl 6 rfl) ?_
    refine lv_icmp_ne (tgt := 874) hx hb dL_law_854 (by decide) (fun h9 => absurd (show ((nI i) : Int32) = (nI i) from rfl) h9) (fun _ => ?_)
    refine lv_aload_n hx hb dL_law_857 rfl (lv_at hl 11 rfl) ?_
    refine lv_iload hx hb dL_law_858 (lv_at hl 6 rfl) ?_
    refine lv_iconst (v := 5) hx hb dL_law_860 (by decide) ?_
    refine O_about hfl hM hE hX hO hl (ab_t hI1 hO.z hi1).2.2.2.2.2.1.1 (ab_t hI1 hO.z hi1).2.2.2.2.2.1.2 (by decide) (Nat.le_of_ble_eq_true rfl) ⟨by show cells + 7 + 2 ≤ 600086; omega, by show slots + 1100 + 12 ≤ 7301442; omega⟩ dL_law_861 (fun L F H locs hX hO => ?_)
    refine lv_iload hx hb dL_law_864 (lv_at hl 5 rfl) ?_
    refine lv_iload hx hb dL_law_866 (lv_at hl 1 rfl) ?_
    refine lv_isub hx hb dL_law_868 ?_
    refine lv_icmp_eq (tgt := 874) hx hb dL_law_869 (by decide) (fun _ => ?_) (fun h9 => absurd (show ((owed M1 i) : Int32) = ((owed M i) - (nI (1 + (z % 700)))) from ho) h9)
    refine lv_goto (tgt := 910) hx hb dL_law_874 (by decide) ?_
    exact W.widen (k := cells + 30) (n := slots + 3000) (by omega) (by omega) (kq M1 L F H locs ls hX (hO.up (by omega)) hT1 (by rw [hnn]; exact lv_sub hl [9, 10, 11, 12] rfl))
  · refine A_no_10 (q := 3) (v := (-7000003)) hfl hM hE hX hO hl (by omega) (by simp) h3 (by decide) (by decide) ⟨by show cells + 7 ≤ 600086; omega, by show slots + 1100 ≤ 7301442; omega⟩ dL_law_820 (fun L F H locs hX hO => ?_)
    refine lv_istore (lv' := [(14, .int (-7000003)), (13, .int (nI (1 + (z % 700)))), (12, .int (-1)), (11, .int (M 9 i)), (10, .int (M 4 i)), (9, .int (owed M i)), (8, .int (nI i)), (7, .int (nI z)), (6, .int (nI y)), (3, .int (nI k)), (2, .int (nI (nn M))), (1, .ref o), (0, .ref b)]) hx hb dL_law_823 hl (by decide) rfl (fun ls hl => ?_)
    refine lv_iload hx hb dL_law_825 (lv_at hl 2 rfl) ?_
    refine lv_iconst (v := (-1)) hx hb dL_law_827 (by decide) ?_
    refine lv_icmp_ne (tgt := 872) hx hb dL_law_828 (by decide) (fun h9 => absurd (show ((-1) : Int32) = (-1) from (by decide)) h9) (fun _ => ?_)
    refine lv_iload hx hb dL_law_831 (lv_at hl 0 rfl) ?_
    refine lv_iload hx hb dL_law_833 (lv_at hl 1 rfl) ?_
    refine lv_iload hx hb dL_law_835 (lv_at hl 5 rfl) ?_
    refine lv_icmp_gt (tgt := 845) hx hb dL_law_837 (by decide) (fun _ => ?_) (fun h9 => absurd (show ((owed M i) : Int32) < (nI (1 + (z % 700))) from hle) h9)
    refine lv_ldc hx hb hM.2.2.2.1 (hM.2.2.2.2.1 _ k_990) dL_law_845 ?_
    refine lv_icmp_ne (tgt := 872) hx hb dL_law_847 (by decide) (fun h9 => absurd (show ((-7000003) : Int32) = (-7000003) from (by decide)) h9) (fun _ => ?_)
    refine lv_iload hx hb dL_law_850 (lv_at hl 0 rfl) ?_
    refine lv_iload hx hb dL_law_852 (lv_at hl 6 rfl) ?_
    refine lv_icmp_ne (tgt := 874) hx hb dL_law_854 (by decide) (fun _ => ?_) (fun h9 => absurd h9 (show ¬ ((-7000003) : Int32) = (nI i) from fun h9 => absurd (nI_pos' (n := i) (by omega)) (by rw [← h9]; decide)))
    refine lv_goto (tgt := 910) hx hb dL_law_874 (by decide) ?_
    exact W.widen (k := cells + 30) (n := slots + 3000) (by omega) (by omega) (kq M L F H locs ls hX (hO.up (by omega)) hT (lv_sub hl [9, 10, 11, 12] rfl))
set_option maxHeartbeats 8000000 in
set_option maxRecDepth 100000 in
theorem lc_pass (hfl : l.stackTraces = false) (hM : kM p s m args meth c cL_law 15 ret "InvoicebridgeLaw") (hE : kE γ A s) (hX : kX γ A s L F H locs) (hO : Ob γ o M n L F) (hT : Xt M) (hn : n + 8 < 512) {b k y z : Nat} (hy : y < 2097152) (hz9 : z < 2097152) (ht : 0 < nn M) (hc : cells + 120 ≤ 600086) (hs : slots + 4700 ≤ 7301442) (hl : lv_has ls 15 [(7, .int (nI z)), (6, .int (nI y)), (3, .int (nI k)), (2, .int (nI (nn M))), (1, .ref o), (0, .ref b)])
    (kq : ∀ (M : mM) (L : List Nat) (F : kF) (H : Heap) (locs : List Loc) (ls : Array Slot), kX γ A s L F H locs → Ob γ o M (n + 7) L F → Xt M → lv_has ls 15 [(3, .int (nI k)), (2, .int (nI (nn M))), (1, .ref o), (0, .ref b)] → W p l e room_1 s m args below meth c H locs (cells + 50) (slots + 4150) Q (F0 m 910 ls [])) : W p l e room_1 s m args below meth c H locs cells slots Q (F0 m 877 ls []) := by
  have hx := hM.1
  have hb := hM.2.1
  obtain ⟨nd, D, hI⟩ := hO.inv
  have hn20 := hI.1.2
  refine lv_aload_n hx hb dL_law_877 rfl (lv_at hl 4 rfl) ?_
  refine O_day hM hE hX hO hl rfl (by decide) (Nat.le_of_ble_eq_true rfl) ⟨by show cells ≤ 600086; omega, by show slots ≤ 7301442; omega⟩ dL_law_878 (fun L F H locs hX hO => ?_)
  refine lv_sipush (v := 900) hx hb dL_law_881 (by decide) ?_
  by_cases h900 : 900 ≤ M 0 0
  · refine lv_icmp_ge (tgt := 910) hx hb dL_law_884 (by decide) (fun _ => ?_) (fun h9 => absurd (show (900 : Int32) ≤ (M 0 0) from h900) h9)
    exact W.widen (k := cells + 50) (n := slots + 4150) (by omega) (by omega) (kq M L F H locs ls hX (hO.up (by omega)) hT (lv_sub hl [2, 3, 4, 5] rfl))
  · refine lv_icmp_ge (tgt := 910) hx hb dL_law_884 (by decide) (fun h9 => absurd h9 (show ¬ (900 : Int32) ≤ (M 0 0) from h900)) (fun _ => ?_)
    refine lv_aload_n hx hb dL_law_887 rfl (lv_at hl 4 rfl) ?_
    refine lv_iconst (v := 1) hx hb dL_law_888 (by decide) ?_
    refine lv_iload hx hb dL_law_889 (lv_at hl 1 rfl) ?_
    refine lv_bipush (v := 40) hx hb dL_law_891 (by decide) ?_
    refine lv_irem hx hb dL_law_893 (by decide) ?_
    refine lv_is (y := (nI (y % 40))) (pk_rem (a := y) (d := 40) (by omega) (by decide) (by decide)) ?_
    refine lv_iadd hx hb dL_law_894 ?_
    refine lv_is (y := (nI (1 + (y % 40)))) (nI_add 1 (y % 40)) ?_
    obtain ⟨M1, h, h0, hT1, hn1⟩ := x_pass hI hT (x := 1 + y % 40) (Int32.not_le.mp h900) (by omega)
    refine O_pass hfl hM hE hX hO hl h h0 (by decide) (Nat.le_of_ble_eq_true rfl) ⟨by show cells + 1 ≤ 600086; omega, by show slots + 6 ≤ 7301442; omega⟩ dL_law_895 (fun L F H locs hX hO => ?_)
    have hnn : nn M1 = nn M := by unfold nn; rw [hn1]
    refine lv_aload_n hx hb dL_law_898 rfl (lv_at hl 4 rfl) ?_
    refine O_day hM hE hX hO hl rfl (by decide) (Nat.le_of_ble_eq_true rfl) ⟨by show cells + 1 ≤ 600086; omega, by show slots + 6 ≤ 7301442; omega⟩ dL_law_899 (fun L F H locs hX hO => ?_)
    refine lv_bipush (v := 30) hx hb dL_law_902 (by decide) ?_
    refine lv_idiv hx hb dL_law_904 (by decide) ?_
    refine lv_icmp_eq (tgt := 910) hx hb dL_law_905 (by decide) (fun _ => ?_) (fun h9 => absurd (show ((M1 0 0 / 30) : Int32) = ((M1 0 0) / 30) from rfl) h9)
    exact W.widen (k := cells + 50) (n := slots + 4150) (by omega) (by omega) (kq M1 L F H locs ls hX (hO.up (by omega)) hT1 (by rw [hnn]; exact lv_sub hl [2, 3, 4, 5] rfl))
set_option maxHeartbeats 8000000 in
set_option maxRecDepth 100000 in
theorem lc_sell (hfl : l.stackTraces = false) (hM : kM p s m args meth c cL_law 15 ret "InvoicebridgeLaw") (hE : kE γ A s) (hX : kX γ A s L F H locs) (hO : Ob γ o M n L F) (hT : Xt M) (hn : n + 8 < 512) {b k y z : Nat} (hy : y < 2097152) (hz9 : z < 2097152) (ht : 0 < nn M) (hc : cells + 120 ≤ 600086) (hs : slots + 4700 ≤ 7301442) (hl : lv_has ls 15 [(7, .int (nI z)), (6, .int (nI y)), (3, .int (nI k)), (2, .int (nI (nn M))), (1, .ref o), (0, .ref b)])
    (kq : ∀ (M : mM) (L : List Nat) (F : kF) (H : Heap) (locs : List Loc) (ls : Array Slot), kX γ A s L F H locs → Ob γ o M (n + 7) L F → Xt M → lv_has ls 15 [(3, .int (nI k)), (2, .int (nI (nn M))), (1, .ref o), (0, .ref b)] → W p l e room_1 s m args below meth c H locs (cells + 50) (slots + 4150) Q (F0 m 910 ls [])) : W p l e room_1 s m args below meth c H locs cells slots Q (F0 m 556 ls []) := by
  have hx := hM.1
  have hb := hM.2.1
  obtain ⟨nd, D, hI⟩ := hO.inv
  have hn20 := hI.1.2
  obtain ⟨i, hi, ei⟩ : ∃ i, i < nn M ∧ y % nn M = i := ⟨_, Nat.mod_lt _ ht, rfl⟩
  refine lv_iload hx hb dL_law_556 (lv_at hl 1 rfl) ?_
  refine lv_iload_n hx hb dL_law_558 rfl (lv_at hl 3 rfl) ?_
  refine lv_irem hx hb dL_law_559 (nI_ne0 ht (by have := hI.1.2; omega)) ?_
  refine lv_is (y := (nI i)) ((pk_rem (a := y) (d := nn M) (by omega) ht (by have := hI.1.2; omega)).trans (congrArg nI ei)) ?_
  refine lv_istore (lv' := [(8, .int (nI i)), (7, .int (nI z)), (6, .int (nI y)), (3, .int (nI k)), (2, .int (nI (nn M))), (1, .ref o), (0, .ref b)]) hx hb dL_law_560 hl (by decide) rfl (fun ls hl => ?_)
  refine lv_aload_n hx hb dL_law_562 rfl (lv_at hl 5 rfl) ?_
  refine lv_iload hx hb dL_law_563 (lv_at hl 0 rfl) ?_
  refine lv_iconst (v := 5) hx hb dL_law_565 (by decide) ?_
  refine O_about hfl hM hE hX hO hl (ab_t hI hO.z hi).2.2.2.2.2.1.1 (ab_t hI hO.z hi).2.2.2.2.2.1.2 (by decide) (Nat.le_of_ble_eq_true rfl) ⟨by show cells + 2 ≤ 600086; omega, by show slots + 12 ≤ 7301442; omega⟩ dL_law_566 (fun L F H locs hX hO => ?_)
  refine lv_istore (lv' := [(9, .int (owed M i)), (8, .int (nI i)), (7, .int (nI z)), (6, .int (nI y)), (3, .int (nI k)), (2, .int (nI (nn M))), (1, .ref o), (0, .ref b)]) hx hb dL_law_569 hl (by decide) rfl (fun ls hl => ?_)
  refine lv_aload_n hx hb dL_law_571 rfl (lv_at hl 6 rfl) ?_
  refine lv_bipush (v := 7) hx hb dL_law_572 (by decide) ?_
  refine lv_iload hx hb dL_law_574 (lv_at hl 1 rfl) ?_
  refine lv_iload hx hb dL_law_576 (lv_at hl 2 rfl) ?_
  refine lv_bipush (v := 6) hx hb dL_law_578 (by decide) ?_
  refine lv_irem hx hb dL_law_580 (by decide) ?_
  refine lv_is (y := (nI (z % 6))) (pk_rem (a := z) (d := 6) (by omega) (by decide) (by decide)) ?_
  refine lv_iconst (v := 1) hx hb dL_law_581 (by decide) ?_
  refine lv_iload hx hb dL_law_582 (lv_at hl 3 rfl) ?_
  refine lv_bipush (v := 100) hx hb dL_law_584 (by decide) ?_
  refine lv_irem hx hb dL_law_586 (by decide) ?_
  refine lv_is (y := (nI (y % 100))) (pk_rem (a := y) (d := 100) (by omega) (by decide) (by decide)) ?_
  refine lv_iadd hx hb dL_law_587 ?_
  refine lv_is (y := (nI (1 + (y % 100)))) (nI_add 1 (y % 100)) ?_
  refine lv_iload hx hb dL_law_588 (lv_at hl 3 rfl) ?_
  refine lv_iconst (v := 2) hx hb dL_law_590 (by decide) ?_
  refine lv_irem hx hb dL_law_591 (by decide) ?_
  refine lv_is (y := (nI (y % 2))) (pk_rem (a := y) (d := 2) (by omega) (by decide) (by decide)) ?_
  refine lv_iconst (v := 0) hx hb dL_law_592 (by decide) ?_
  have kk2 : ∀ (M : mM) (n9 : Nat) (L : List Nat) (F : kF) (H : Heap) (locs : List Loc) (ls : Array Slot), kX γ A s L F H locs → Ob γ o M n9 L F → Xt M → n9 ≤ n + 1 → i < nn M → lv_has ls 15 [(8, .int (nI i)), (7, .int (nI z)), (6, .int (nI y)), (3, .int (nI k)), (2, .int (nI (nn M))), (1, .ref o), (0, .ref b)] → W p l e room_1 s m args below meth c H locs (cells + 10) (slots + 1150) Q (F0 m 638 ls []) := fun M n9 L F H locs ls hX hO hT hn9 hi hl => lc_sell2 hfl hM hE hX hO hT (by omega) hy hz9 hi (by omega) (by omega) hl (fun M L F H locs ls hX hO hT hl => W.widen (k := cells + 50) (n := slots + 4150) (by omega) (by omega) (kq M L F H locs ls hX (hO.up (by omega)) hT hl))
  rcases x_sell hI hT hO.z hi (b := z % 6) (x := 1 + y % 100) (Nat.mod_lt _ (by decide)) (by omega) (z := bz (nI (y % 2))) with ⟨M1, h, h0, hT1, hn1, h9i⟩ | h3 | h3
  · refine A_ok_7 hfl hM hE hX hO hl (by omega) h h0 (by decide) (by decide) ⟨by show cells + 2 + 6 ≤ 600086; omega, by show slots + 12 + 1100 ≤ 7301442; omega⟩ dL_law_593 (fun L F H locs hX hO => ?_)
    obtain ⟨nd1, D1, hI1⟩ := hO.inv
    have hnn : nn M1 = nn M := by unfold nn; rw [hn1]
    have hi1 : i < nn M1 := by rw [hnn]; exact hi
    refine lv_istore (lv' := [(10, .int (owed M i * nI (1 + y % 100) / 100)), (9, .int (owed M i)), (8, .int (nI i)), (7, .int (nI z)), (6, .int (nI y)), (3, .int (nI k)), (2, .int (nI (nn M))), (1, .ref o), (0, .ref b)]) hx hb dL_law_596 hl (by decide) rfl (fun ls hl => ?_)
    refine lv_iload hx hb dL_law_598 (lv_at hl 0 rfl) ?_
    by_cases hlt : owed M i * nI (1 + y % 100) / 100 < 0
    · refine lv_if_lt (tgt := 638) hx hb dL_law_600 (by decide) (fun _ => ?_) (fun h9 => absurd (show ((owed M i * nI (1 + y % 100) / 100) : Int32) < 0 from hlt) h9)
      refine W.widen (k := cells + 10) (n := slots + 1150) (by omega) (by omega) ?_
      exact kk2 M1 (n + 1) L F H locs ls hX hO hT1 (by omega) hi1 (by rw [hnn]; exact lv_sub hl [2, 3, 4, 5, 6, 7, 8] rfl)
    · refine lv_if_lt (tgt := 638) hx hb dL_law_600 (by decide) (fun h9 => absurd h9 (show ¬ ((owed M i * nI (1 + y % 100) / 100) : Int32) < 0 from hlt)) (fun _ => ?_)
      refine lv_iload hx hb dL_law_603 (lv_at hl 0 rfl) ?_
      refine lv_iload hx hb dL_law_605 (lv_at hl 1 rfl) ?_
      refine lv_iconst (v := 1) hx hb dL_law_607 (by decide) ?_
      refine lv_iload hx hb dL_law_608 (lv_at hl 4 rfl) ?_
      refine lv_bipush (v := 100) hx hb dL_law_610 (by decide) ?_
      refine lv_irem hx hb dL_law_612 (by decide) ?_
      refine lv_is (y := (nI (y % 100))) (pk_rem (a := y) (d := 100) (by omega) (by decide) (by decide)) ?_
      refine lv_iadd hx hb dL_law_613 ?_
      refine lv_is (y := (nI (1 + (y % 100)))) (nI_add 1 (y % 100)) ?_
      refine lv_imul hx hb dL_law_614 ?_
      refine lv_bipush (v := 100) hx hb dL_law_615 (by decide) ?_
      refine lv_idiv hx hb dL_law_617 (by decide) ?_
      refine lv_icmp_ne (tgt := 636) hx hb dL_law_618 (by decide) (fun h9 => absurd (show ((owed M i * nI (1 + y % 100) / 100) : Int32) = (((owed M i) * (nI (1 + (y % 100)))) / 100) from rfl) h9) (fun _ => ?_)
      refine lv_aload_n hx hb dL_law_621 rfl (lv_at hl 7 rfl) ?_
      refine lv_iload hx hb dL_law_622 (lv_at hl 2 rfl) ?_
      refine lv_iconst (v := 3) hx hb dL_law_624 (by decide) ?_
      refine O_about hfl hM hE hX hO hl (ab_t hI1 hO.z hi1).2.2.2.1.1 (ab_t hI1 hO.z hi1).2.2.2.1.2 (by decide) (Nat.le_of_ble_eq_true rfl) ⟨by show cells + 2 + 6 + 2 ≤ 600086; omega, by show slots + 12 + 1100 + 12 ≤ 7301442; omega⟩ dL_law_625 (fun L F H locs hX hO => ?_)
      refine lv_iload hx hb dL_law_628 (lv_at hl 3 rfl) ?_
      refine lv_bipush (v := 6) hx hb dL_law_630 (by decide) ?_
      refine lv_irem hx hb dL_law_632 (by decide) ?_
      refine lv_is (y := (nI (z % 6))) (pk_rem (a := z) (d := 6) (by omega) (by decide) (by decide)) ?_
      refine lv_icmp_eq (tgt := 638) hx hb dL_law_633 (by decide) (fun _ => ?_) (fun h9 => absurd (show ((M1 9 i) : Int32) = (nI (z % 6)) from h9i) h9)
      refine W.widen (k := cells + 10) (n := slots + 1150) (by omega) (by omega) ?_
      exact kk2 M1 (n + 1) L F H locs ls hX hO hT1 (by omega) hi1 (by rw [hnn]; exact lv_sub hl [2, 3, 4, 5, 6, 7, 8] rfl)
  · refine A_no_7 (q := 2) (v := (-7000002)) hfl hM hE hX hO hl (by omega) (by simp) h3 (by decide) (by decide) ⟨by show cells + 2 + 6 ≤ 600086; omega, by show slots + 12 + 1100 ≤ 7301442; omega⟩ dL_law_593 (fun L F H locs hX hO => ?_)
    refine lv_istore (lv' := [(10, .int (-7000002)), (9, .int (owed M i)), (8, .int (nI i)), (7, .int (nI z)), (6, .int (nI y)), (3, .int (nI k)), (2, .int (nI (nn M))), (1, .ref o), (0, .ref b)]) hx hb dL_law_596 hl (by decide) rfl (fun ls hl => ?_)
    refine lv_iload hx hb dL_law_598 (lv_at hl 0 rfl) ?_
    refine lv_if_lt (tgt := 638) hx hb dL_law_600 (by decide) (fun _ => ?_) (fun h9 => absurd (show ((-7000002) : Int32) < 0 from (by decide)) h9)
    refine W.widen (k := cells + 10) (n := slots + 1150) (by omega) (by omega) ?_
    exact kk2 M n L F H locs ls hX hO hT (by omega) hi (lv_sub hl [2, 3, 4, 5, 6, 7, 8] rfl)
  · refine A_no_7 (q := 3) (v := (-7000003)) hfl hM hE hX hO hl (by omega) (by simp) h3 (by decide) (by decide) ⟨by show cells + 2 + 6 ≤ 600086; omega, by show slots + 12 + 1100 ≤ 7301442; omega⟩ dL_law_593 (fun L F H locs hX hO => ?_)
    refine lv_istore (lv' := [(10, .int (-7000003)), (9, .int (owed M i)), (8, .int (nI i)), (7, .int (nI z)), (6, .int (nI y)), (3, .int (nI k)), (2, .int (nI (nn M))), (1, .ref o), (0, .ref b)]) hx hb dL_law_596 hl (by decide) rfl (fun ls hl => ?_)
    refine lv_iload hx hb dL_law_598 (lv_at hl 0 rfl) ?_
    refine lv_if_lt (tgt := 638) hx hb dL_law_600 (by decide) (fun _ => ?_) (fun h9 => absurd (show ((-7000003) : Int32) < 0 from (by decide)) h9)
    refine W.widen (k := cells + 10) (n := slots + 1150) (by omega) (by omega) ?_
    exact kk2 M n L F H locs ls hX hO hT (by omega) hi (lv_sub hl [2, 3, 4, 5, 6, 7, 8] rfl)
set_option maxHeartbeats 8000000 in
set_option maxRecDepth 100000 in
theorem lc_pay (hfl : l.stackTraces = false) (hM : kM p s m args meth c cL_law 15 ret "InvoicebridgeLaw") (hE : kE γ A s) (hX : kX γ A s L F H locs) (hO : Ob γ o M n L F) (hT : Xt M) (hn : n + 8 < 512) {b k y z : Nat} (hy : y < 2097152) (hz9 : z < 2097152) (ht : 0 < nn M) {w : Nat} (hc : cells + 120 ≤ 600086) (hs : slots + 4700 ≤ 7301442) (hl : lv_has ls 15 [(7, .int (nI z)), (6, .int (nI y)), (5, .int (nI w)), (3, .int (nI k)), (2, .int (nI (nn M))), (1, .ref o), (0, .ref b)])
    (kq : ∀ (M : mM) (L : List Nat) (F : kF) (H : Heap) (locs : List Loc) (ls : Array Slot), kX γ A s L F H locs → Ob γ o M (n + 7) L F → Xt M → lv_has ls 15 [(3, .int (nI k)), (2, .int (nI (nn M))), (1, .ref o), (0, .ref b)] → W p l e room_1 s m args below meth c H locs (cells + 50) (slots + 4150) Q (F0 m 910 ls [])) : W p l e room_1 s m args below meth c H locs cells slots Q (F0 m 689 ls []) := by
  have hx := hM.1
  have hb := hM.2.1
  obtain ⟨nd, D, hI⟩ := hO.inv
  have hn20 := hI.1.2
  obtain ⟨i, hi, ei⟩ : ∃ i, i < nn M ∧ y % nn M = i := ⟨_, Nat.mod_lt _ ht, rfl⟩
  refine lv_iload hx hb dL_law_689 (lv_at hl 1 rfl) ?_
  refine lv_iload_n hx hb dL_law_691 rfl (lv_at hl 4 rfl) ?_
  refine lv_irem hx hb dL_law_692 (nI_ne0 ht (by have := hI.1.2; omega)) ?_
  refine lv_is (y := (nI i)) ((pk_rem (a := y) (d := nn M) (by omega) ht (by have := hI.1.2; omega)).trans (congrArg nI ei)) ?_
  refine lv_istore (lv' := [(8, .int (nI i)), (7, .int (nI z)), (6, .int (nI y)), (5, .int (nI w)), (3, .int (nI k)), (2, .int (nI (nn M))), (1, .ref o), (0, .ref b)]) hx hb dL_law_693 hl (by decide) rfl (fun ls hl => ?_)
  refine lv_aload_n hx hb dL_law_695 rfl (lv_at hl 6 rfl) ?_
  refine lv_iload hx hb dL_law_696 (lv_at hl 0 rfl) ?_
  refine lv_iconst (v := 5) hx hb dL_law_698 (by decide) ?_
  refine O_about hfl hM hE hX hO hl (ab_t hI hO.z hi).2.2.2.2.2.1.1 (ab_t hI hO.z hi).2.2.2.2.2.1.2 (by decide) (Nat.le_of_ble_eq_true rfl) ⟨by show cells + 2 ≤ 600086; omega, by show slots + 12 ≤ 7301442; omega⟩ dL_law_699 (fun L F H locs hX hO => ?_)
  refine lv_istore (lv' := [(9, .int (owed M i)), (8, .int (nI i)), (7, .int (nI z)), (6, .int (nI y)), (5, .int (nI w)), (3, .int (nI k)), (2, .int (nI (nn M))), (1, .ref o), (0, .ref b)]) hx hb dL_law_702 hl (by decide) rfl (fun ls hl => ?_)
  refine lv_aload_n hx hb dL_law_704 rfl (lv_at hl 7 rfl) ?_
  refine lv_iload hx hb dL_law_705 (lv_at hl 1 rfl) ?_
  refine lv_iconst (v := 2) hx hb dL_law_707 (by decide) ?_
  refine O_about hfl hM hE hX hO hl (ab_t hI hO.z hi).2.2.1.1 (ab_t hI hO.z hi).2.2.1.2 (by decide) (Nat.le_of_ble_eq_true rfl) ⟨by show cells + 2 + 2 ≤ 600086; omega, by show slots + 12 + 12 ≤ 7301442; omega⟩ dL_law_708 (fun L F H locs hX hO => ?_)
  refine lv_istore (lv' := [(10, .int (M 4 i)), (9, .int (owed M i)), (8, .int (nI i)), (7, .int (nI z)), (6, .int (nI y)), (5, .int (nI w)), (3, .int (nI k)), (2, .int (nI (nn M))), (1, .ref o), (0, .ref b)]) hx hb dL_law_711 hl (by decide) rfl (fun ls hl => ?_)
  refine lv_aload_n hx hb dL_law_713 rfl (lv_at hl 8 rfl) ?_
  refine lv_iload hx hb dL_law_714 (lv_at hl 2 rfl) ?_
  refine lv_iconst (v := 3) hx hb dL_law_716 (by decide) ?_
  refine O_about hfl hM hE hX hO hl (ab_t hI hO.z hi).2.2.2.1.1 (ab_t hI hO.z hi).2.2.2.1.2 (by decide) (Nat.le_of_ble_eq_true rfl) ⟨by show cells + 2 + 2 + 2 ≤ 600086; omega, by show slots + 12 + 12 + 12 ≤ 7301442; omega⟩ dL_law_717 (fun L F H locs hX hO => ?_)
  refine lv_istore (lv' := [(11, .int (M 9 i)), (10, .int (M 4 i)), (9, .int (owed M i)), (8, .int (nI i)), (7, .int (nI z)), (6, .int (nI y)), (5, .int (nI w)), (3, .int (nI k)), (2, .int (nI (nn M))), (1, .ref o), (0, .ref b)]) hx hb dL_law_720 hl (by decide) rfl (fun ls hl => ?_)
  refine lv_iload hx hb dL_law_722 (lv_at hl 6 rfl) ?_
  refine lv_bipush (v := 12) hx hb dL_law_724 (by decide) ?_
  by_cases h12 : (nI w : Int32) = 12
  · refine lv_icmp_ne (tgt := 751) hx hb dL_law_726 (by decide) (fun h9 => absurd (show ((nI w) : Int32) = 12 from h12) h9) (fun _ => ?_)
    refine lv_iload hx hb dL_law_729 (lv_at hl 2 rfl) ?_
    by_cases hle : owed M i ≤ 0
    · refine lv_if_le (tgt := 874) hx hb dL_law_731 (by decide) (fun _ => ?_) (fun h9 => absurd (show ((owed M i) : Int32) ≤ 0 from hle) h9)
      refine lv_goto (tgt := 910) hx hb dL_law_874 (by decide) ?_
      exact W.widen (k := cells + 50) (n := slots + 4150) (by omega) (by omega) (kq M L F H locs ls hX (hO.up (by omega)) hT (lv_sub hl [7, 8, 9, 10] rfl))
    · refine lv_if_le (tgt := 874) hx hb dL_law_731 (by decide) (fun h9 => absurd h9 (show ¬ ((owed M i) : Int32) ≤ 0 from hle)) (fun _ => ?_)
      refine lv_aload_n hx hb dL_law_734 rfl (lv_at hl 9 rfl) ?_
      refine lv_iload hx hb dL_law_735 (lv_at hl 1 rfl) ?_
      refine lv_iload hx hb dL_law_737 (lv_at hl 0 rfl) ?_
      refine lv_iload hx hb dL_law_739 (lv_at hl 2 rfl) ?_
      obtain ⟨M1, q, h, hq, h0, hT1, hn1⟩ := x_paySum hI hT hO.z hi hle
      refine O_payBySum hfl hM hE hX hO hl (by omega) h h0 (by decide) (Nat.le_of_ble_eq_true rfl) ⟨by show cells + 2 + 2 + 2 + 7 ≤ 600086; omega, by show slots + 12 + 12 + 12 + 1100 ≤ 7301442; omega⟩ dL_law_741 (fun L F H locs hX hO => ?_)
      obtain ⟨nd1, D1, hI1⟩ := hO.inv
      have hnn : nn M1 = nn M := by unfold nn; rw [hn1]
      have hi1 : i < nn M1 := by rw [hnn]; exact hi
      refine lv_iload hx hb dL_law_744 (lv_at hl 3 rfl) ?_
      refine lv_icmp_le (tgt := 874) hx hb dL_law_746 (by decide) (fun _ => ?_) (fun h9 => absurd (show ((nI q) : Int32) ≤ (nI i) from nI_le hq (by omega)) h9)
      refine lv_goto (tgt := 910) hx hb dL_law_874 (by decide) ?_
      exact W.widen (k := cells + 50) (n := slots + 4150) (by omega) (by omega) (kq M1 L F H locs ls hX (hO.up (by omega)) hT1 (by rw [hnn]; exact lv_sub hl [7, 8, 9, 10] rfl))
  · refine lv_icmp_ne (tgt := 751) hx hb dL_law_726 (by decide) (fun _ => ?_) (fun h9 => absurd h9 (show ¬ ((nI w) : Int32) = 12 from h12))
    refine lv_iload hx hb dL_law_751 (lv_at hl 3 rfl) ?_
    refine lv_bipush (v := 10) hx hb dL_law_753 (by decide) ?_
    by_cases h10 : i < 10
    · refine lv_icmp_ge (tgt := 779) hx hb dL_law_755 (by decide) (fun h9 => absurd h9 (show ¬ (10 : Int32) ≤ (nI i) from nI_ge h10 (by decide))) (fun _ => ?_)
      refine lv_aload_n hx hb dL_law_758 rfl (lv_at hl 9 rfl) ?_
      refine lv_ldc2 hx hb hM.2.2.2.1 (hM.2.2.2.2.1 _ k_1024) dL_law_759 ?_
      refine lv_bipush (v := 48) hx hb dL_law_762 (by decide) ?_
      refine lv_iload hx hb dL_law_764 (lv_at hl 3 rfl) ?_
      refine lv_iadd hx hb dL_law_766 ?_
      refine lv_is (y := (nI (48 + i))) (nI_add 48 i) ?_
      refine lv_i2l hx hb dL_law_767 rfl ?_
      refine lv_bipush (v := 8) hx hb dL_law_768 (by decide) ?_
      refine lv_lshl hx hb dL_law_770 rfl ?_
      refine lv_lor hx hb dL_law_771 ?_
      refine lv_iconst (v := 2) hx hb dL_law_772 (by decide) ?_
      obtain ⟨hs9, hf9, hit⟩ := x_told1 (M := M) (i := i) hO.z h10
      obtain ⟨hT1, hn1, ho9, h49, h99⟩ := x_types hT (told1 i) 2
      refine H_types (told := told1 i) (n9 := 2) (r := (-1)) hfl hM hE hX hO hl (by decide) rfl hs9 rfl hf9 (by decide) (Nat.le_of_ble_eq_true rfl) ⟨by show cells + 2 + 2 + 2 + 10 ≤ 600086; omega, by show slots + 12 + 12 + 12 + 60 ≤ 7301442; omega⟩ dL_law_773 (fun L F H locs hX hO => ?_)
      obtain ⟨nd1, D1, hI1⟩ := hO.inv
      have hnn : nn (tyS M (told1 i) 2) = nn M := by unfold nn; rw [hn1]
      have hi1 : i < nn (tyS M (told1 i) 2) := by rw [hnn]; exact hi
      refine lv_goto (tgt := 797) hx hb dL_law_776 (by decide) ?_
      refine lv_istore (lv' := [(12, .int (-1)), (11, .int (M 9 i)), (10, .int (M 4 i)), (9, .int (owed M i)), (8, .int (nI i)), (7, .int (nI z)), (6, .int (nI y)), (5, .int (nI w)), (3, .int (nI k)), (2, .int (nI (nn M))), (1, .ref o), (0, .ref b)]) hx hb dL_law_797 hl (by decide) rfl (fun ls hl => ?_)
      refine W.widen (k := cells + 20) (n := slots + 150) (by omega) (by omega) ?_
      refine lc_pay2 (b := b) (k := k) hfl hM hE hX hO hT1 (by omega) hy hz9 hi1 hit (by omega) (by omega) (by rw [hnn, ho9, h49, h99]; exact lv_sub hl [0, 1, 2, 3, 4, 5, 6, 8, 9, 10, 11] rfl) (fun M L F H locs ls hX hO hT hl => ?_)
      exact W.widen (k := cells + 50) (n := slots + 4150) (by omega) (by omega) (kq M L F H locs ls hX (hO.up (by omega)) hT hl)
    · refine lv_icmp_ge (tgt := 779) hx hb dL_law_755 (by decide) (fun _ => ?_) (fun h9 => absurd (show (10 : Int32) ≤ (nI i) from nI_le (a := 10) (by omega) (by omega)) h9)
      refine lv_aload_n hx hb dL_law_779 rfl (lv_at hl 9 rfl) ?_
      refine lv_ldc2 hx hb hM.2.2.2.1 (hM.2.2.2.2.1 _ k_1051) dL_law_780 ?_
      refine lv_bipush (v := 38) hx hb dL_law_783 (by decide) ?_
      refine lv_iload hx hb dL_law_785 (lv_at hl 3 rfl) ?_
      refine lv_iadd hx hb dL_law_787 ?_
      refine lv_is (y := (nI (38 + i))) (nI_add 38 i) ?_
      refine lv_i2l hx hb dL_law_788 rfl ?_
      refine lv_bipush (v := 16) hx hb dL_law_789 (by decide) ?_
      refine lv_lshl hx hb dL_law_791 rfl ?_
      refine lv_lor hx hb dL_law_792 ?_
      refine lv_iconst (v := 3) hx hb dL_law_793 (by decide) ?_
      obtain ⟨hs9, hf9, hit⟩ := x_told2 (M := M) (i := i) hO.z (by omega) (by omega)
      obtain ⟨hT1, hn1, ho9, h49, h99⟩ := x_types hT (told2 i) 3
      refine H_types (told := told2 i) (n9 := 3) (r := (-1)) hfl hM hE hX hO hl (by decide) rfl hs9 rfl hf9 (by decide) (Nat.le_of_ble_eq_true rfl) ⟨by show cells + 2 + 2 + 2 + 10 ≤ 600086; omega, by show slots + 12 + 12 + 12 + 60 ≤ 7301442; omega⟩ dL_law_794 (fun L F H locs hX hO => ?_)
      obtain ⟨nd1, D1, hI1⟩ := hO.inv
      have hnn : nn (tyS M (told2 i) 3) = nn M := by unfold nn; rw [hn1]
      have hi1 : i < nn (tyS M (told2 i) 3) := by rw [hnn]; exact hi
      refine lv_istore (lv' := [(12, .int (-1)), (11, .int (M 9 i)), (10, .int (M 4 i)), (9, .int (owed M i)), (8, .int (nI i)), (7, .int (nI z)), (6, .int (nI y)), (5, .int (nI w)), (3, .int (nI k)), (2, .int (nI (nn M))), (1, .ref o), (0, .ref b)]) hx hb dL_law_797 hl (by decide) rfl (fun ls hl => ?_)
      refine W.widen (k := cells + 20) (n := slots + 150) (by omega) (by omega) ?_
      refine lc_pay2 (b := b) (k := k) hfl hM hE hX hO hT1 (by omega) hy hz9 hi1 hit (by omega) (by omega) (by rw [hnn, ho9, h49, h99]; exact lv_sub hl [0, 1, 2, 3, 4, 5, 6, 8, 9, 10, 11] rfl) (fun M L F H locs ls hX hO hT hl => ?_)
      exact W.widen (k := cells + 50) (n := slots + 4150) (by omega) (by omega) (kq M L F H locs ls hX (hO.up (by omega)) hT hl)
end LC
