theorem chO_n {M : mM} {a x : Int32} {j : Nat} (h : ¬ (M 6 j = 1 ∧ M 5 j = a)) : x = chO M a j x := by
  unfold chO
  by_cases h1 : M 5 j = a
  · rw [if_pos h1, if_neg (fun h2 => h ⟨h2, h1⟩)]
  · rw [if_neg h1]
theorem chO_p {M : mM} {nd : Nat} {D : cD} (hI : Inv M nd D) {a x : Int32} {j : Nat} (hj : j < nn M) (h : M 6 j = 1 ∧ M 5 j = a) : x + (if taxAll M j 0 - l_fold (chI M (M 5 j) j) 0 j < 0 then 0 else taxAll M j 0 - l_fold (chI M (M 5 j) j) 0 j) = chO M a j x := by
  unfold chO
  rw [if_pos h.2, if_pos h.1, ← h.2]
  exact ch_step x (okI_tax hI hj) (okI_chI hI hj)
set_option maxHeartbeats 4000000 in
set_option maxRecDepth 100000 in
theorem c_X4_owedTo (l : Launch) (hfl : l.stackTraces = false) (γ : kG) (L : List Nat) (F : kF) (o : Nat) (ad : cAd) (tg : cTg) (M : mM) (nd : Nat) (D : cD) (hR : RepC γ L F o ad tg M nd D) (hI : Inv M nd D) (a : Int32) : kD l yX4_owedTo cX4_owedTo 5 (some .int) (kRm 4 1 6) γ L F [.ref o, .int a] (kI fun r L1 F1 => L = L1 ∧ F = F1 ∧ owedToM M a = (r, mset M 24 0 0)) (fun E => (E = kIO ∧ Thr M (owedToM M a).2 1)) := by
  refine kD_of (by decide +kernel) (Nat.le_of_ble_eq_true rfl) ?_
  intro p e s m args below meth c sz ls hargs hsz hM htab hE hX hl
  have hx := hM.1
  have hb := hM.2.1
  have hl : lv_has ls 5 [(0, .ref o), (1, .int a)] := hl
  obtain ⟨mli, mci, ei, eli⟩ := Lst.recv hR.2.2.2.2.2.1
  have hn2 := hI.1.2
  have hloop : ∀ (hco : 0 ≤ a ∧ a ≤ 5) (n j : Nat) (x : Int32), nn M < j + n → j ≤ nn M → x = l_fold (sumsM_st M a 1) 0 j → ∀ (H : Heap) (locs : List Loc) (ls : Array Slot), kX γ (kA L sz) s L F H locs → lv_has ls 5 [(2, .int x), (3, .int (nI j)), (0, .ref o), (1, .int a)] → W p l e (kRm 4 1 6) s m args below meth c H locs (0 + (kRm 0 1 6).cells) (0 + (kRm 0 1 6).slots) (vx_MQ below (kQ γ L sz (kI fun r L1 F1 => L = L1 ∧ F = F1 ∧ owedToM M a = (r, mset M 24 0 0))) (kXC γ L F sz (fun E => (E = kIO ∧ Thr M (owedToM M a).2 1))) args s (kRm 4 1 6).cells (kRm 4 1 6).slots (kA L sz)) (F0 m 9 ls []) := by
    intro hco n
    induction n with
    | zero => intro j x h1 h2; exact absurd h1 (by omega)
    | succ n ih =>
      intro j x h1 h2 hxj H locs ls hX hl
      refine lv_iload_n hx hb dX4_owedTo_9 rfl (lv_at hl 1 rfl) ?_
      refine lv_aload_n hx hb dX4_owedTo_10 rfl (lv_at hl 2 rfl) ?_
      refine k_get hM hE hX hR.1.1 hR.1.2.2 rfl 0 (by decide) inX4 k_98 (fun _ h => h) rfl dX4_owedTo_11 ?_
      refine k_goi (k_V (n := 0) (As := []) (rest := [.int (nI j)]) hM hE hX hl (c_size l hR.2.2.2.2.2.1) mli eli rfl k_220 k_221 k_222 k_4 k_223 ⟨rfl, by decide, by decide, by decide +kernel⟩ (by decide) rfl rfl (Nat.le_of_ble_eq_true rfl) dX4_owedTo_14 (by decide)) hE hX (fun r L1 F1 H locs hp hX => ?_)
      obtain ⟨rfl, rfl, rfl⟩ := hp
      refine lv_icmp_ge (tgt := 56) hx hb dX4_owedTo_17 (by decide) (fun c_1 => ?_) (fun c_1 => ?_)
      · have ej : j = nn M := by
          have h9 := lp_out (a := j) (b := nn M) (by omega) (by omega) c_1
          omega
        refine lv_iload_n hx hb dX4_owedTo_56 rfl (lv_at hl 0 rfl) ?_
        exact vx_ret (k_iret hM hsz hX ⟨_, rfl, rfl, rfl, (if_pos hco).trans (show (sumsM (mset M 24 0 0) a 1, mset M 24 0 0) = (x, mset M 24 0 0) from by rw [off_sumsM, hxj, ej]; rfl)⟩ (by decide) (by decide) dX4_owedTo_57)
      · have hj : j < nn M := by
          have h9 := lp_in (a := j) (b := nn M) (by omega) (by omega) c_1
          omega
        refine lv_aload_n hx hb dX4_owedTo_20 rfl (lv_at hl 2 rfl) ?_
        refine k_get hM hE hX hR.1.1 hR.1.2.2 rfl 0 (by decide) inX4 k_98 (fun _ h => h) rfl dX4_owedTo_21 ?_
        refine lv_iload_n hx hb dX4_owedTo_24 rfl (lv_at hl 1 rfl) ?_
        refine k_gor (k_V (n := 1) (As := [.int (nI j)]) (rest := []) hM hE hX hl (c_get l hR.2.2.2.2.2.1 j hj) mli eli rfl k_224 k_225 k_226 k_4 k_227 ⟨rfl, by decide, by decide, by decide +kernel⟩ (by decide) rfl rfl (Nat.le_of_ble_eq_true rfl) dX4_owedTo_25 (by decide)) hE hX (fun r L1 F1 H locs hp hX => ?_)
        obtain ⟨rfl, rfl, rfl⟩ := hp
        refine k_cast hM hE hX (hR.2.1 j hj).1 (hR.2.1 j hj).2.2 rfl k_238 dX4_owedTo_28 ?_
        refine lv_astore (lv' := [(4, .ref (ad 1 j 0)), (2, .int x), (3, .int (nI j)), (0, .ref o), (1, .int a)]) hx hb dX4_owedTo_31 hl (by decide) rfl (fun ls hl => ?_)
        refine lv_aload hx hb dX4_owedTo_33 (lv_at hl 0 rfl) ?_
        refine k_get hM hE hX (hR.2.1 j hj).1 (hR.2.1 j hj).2.2 rfl 9 (by decide) inX2 k_540 (fun _ h => h) rfl dX4_owedTo_35 ?_
        refine lv_iload_n hx hb dX4_owedTo_38 rfl (lv_at hl 4 rfl) ?_
        refine lv_icmp_ne (tgt := 50) hx hb dX4_owedTo_39 (by decide) (fun c_2 => ?_) (fun c_2 => ?_)
        · refine lv_iinc (v := (nI (j + 1))) (lv' := [(3, .int (nI (j + 1))), (4, .ref (ad 1 j 0)), (2, .int x), (0, .ref o), (1, .int a)]) hx hb dX4_owedTo_50 hl (k := 2) rfl (nI_1 _) (by decide) rfl (fun ls hl => ?_)
          refine lv_goto (tgt := 9) hx hb dX4_owedTo_53 (by decide) ?_
          exact ih (j + 1) _ (by omega) (by omega) (show x = l_fold (sumsM_st M a 1) 0 (j + 1) from by rw [l_fold, ← hxj]; exact ((if_neg (by decide)).trans ((if_neg c_2).trans (Int32.add_zero x))).symm) _ _ _ hX (lv_sub hl [2, 0, 3, 4] rfl)
        · refine lv_iload_n hx hb dX4_owedTo_42 rfl (lv_at hl 1 rfl) ?_
          refine lv_aload hx hb dX4_owedTo_43 (lv_at hl 0 rfl) ?_
          refine k_goi (k_V (n := 0) (As := []) (rest := [.int x]) hM hE hX hl (c_X2_owedNow l γ L F o ad tg M nd D hR hI j hj) (hR.2.1 j hj).1 (hR.2.1 j hj).2.2 rfl k_239 k_240 k_241 k_18 k_242 ⟨rfl, by decide, by decide, by decide +kernel⟩ (by decide) rfl rfl (Nat.le_of_ble_eq_true rfl) dX4_owedTo_45 (by decide)) hE hX (fun r L1 F1 H locs hp hX => ?_)
          obtain ⟨rfl, rfl, rfl⟩ := hp
          refine lv_iadd hx hb dX4_owedTo_48 ?_
          refine lv_istore_n (lv' := [(2, .int (x + (owed M j))), (4, .ref (ad 1 j 0)), (3, .int (nI j)), (0, .ref o), (1, .int a)]) hx hb dX4_owedTo_49 rfl hl (by decide) rfl (fun ls hl => ?_)
          refine lv_iinc (v := (nI (j + 1))) (lv' := [(3, .int (nI (j + 1))), (2, .int (x + (owed M j))), (4, .ref (ad 1 j 0)), (0, .ref o), (1, .int a)]) hx hb dX4_owedTo_50 hl (k := 2) rfl (nI_1 _) (by decide) rfl (fun ls hl => ?_)
          refine lv_goto (tgt := 9) hx hb dX4_owedTo_53 (by decide) ?_
          exact ih (j + 1) _ (by omega) (by omega) (show (x + (owed M j)) = l_fold (sumsM_st M a 1) 0 (j + 1) from by rw [l_fold, ← hxj]; exact ((if_neg (by decide)).trans (if_pos c_2)).symm) _ _ _ hX (lv_sub hl [1, 0, 3, 4] rfl)
  refine lv_aload_n hx hb dX4_owedTo_0 rfl (lv_at hl 0 rfl) ?_
  refine lv_iload_n hx hb dX4_owedTo_1 rfl (lv_at hl 1 rfl) ?_
  refine x_gou (x_V (n := 1) (As := [.int a]) (rest := []) hM hE hX hl (c_X4_checkCompany l hfl γ L F o a) hR.1.1 hR.1.2.2 rfl k_125 k_127 kp_1 k_1 k_128 ⟨rfl, by decide, by decide, by decide +kernel⟩ (by decide) rfl rfl (Nat.le_of_ble_eq_true rfl) dX4_owedTo_2 (by decide)) hM hE hX htab ⟨rfl, rfl⟩ (fun E h => ⟨h.1, by rw [show owedToM M a = (0, mset M 24 0 1) from ((if_neg h.2).trans rfl)]; exact Thr1 M 1⟩) (by decide) (by decide) (fun L1 F1 H locs hp hX => ?_)
  obtain ⟨rfl, rfl, hco⟩ := hp
  refine lv_iconst (v := 0) hx hb dX4_owedTo_5 (by decide) ?_
  refine lv_istore_n (lv' := [(2, .int 0), (0, .ref o), (1, .int a)]) hx hb dX4_owedTo_6 rfl hl (by decide) rfl (fun ls hl => ?_)
  refine lv_iconst (v := 0) hx hb dX4_owedTo_7 (by decide) ?_
  refine lv_istore_n (lv' := [(3, .int 0), (2, .int 0), (0, .ref o), (1, .int a)]) hx hb dX4_owedTo_8 rfl hl (by decide) rfl (fun ls hl => ?_)
  exact hloop hco (nn M + 1) 0 _ (by omega) (Nat.zero_le _) rfl _ _ _ hX (lv_sub hl [1, 0, 2, 3] rfl)
set_option maxHeartbeats 4000000 in
set_option maxRecDepth 100000 in
theorem c_X4_owes (l : Launch) (hfl : l.stackTraces = false) (γ : kG) (L : List Nat) (F : kF) (o : Nat) (ad : cAd) (tg : cTg) (M : mM) (nd : Nat) (D : cD) (hR : RepC γ L F o ad tg M nd D) (hI : Inv M nd D) (a : Int32) : kD l yX4_owes cX4_owes 5 (some .int) (kRm 4 1 6) γ L F [.ref o, .int a] (kI fun r L1 F1 => L = L1 ∧ F = F1 ∧ owesM M a = (r, mset M 24 0 0)) (fun E => (E = kIO ∧ Thr M (owesM M a).2 1)) := by
  refine kD_of (by decide +kernel) (Nat.le_of_ble_eq_true rfl) ?_
  intro p e s m args below meth c sz ls hargs hsz hM htab hE hX hl
  have hx := hM.1
  have hb := hM.2.1
  have hl : lv_has ls 5 [(0, .ref o), (1, .int a)] := hl
  obtain ⟨mli, mci, ei, eli⟩ := Lst.recv hR.2.2.2.2.2.1
  have hn2 := hI.1.2
  have hloop : ∀ (hco : 0 ≤ a ∧ a ≤ 5) (n j : Nat) (x : Int32), nn M < j + n → j ≤ nn M → x = l_fold (sumsM_st M a 0) 0 j → ∀ (H : Heap) (locs : List Loc) (ls : Array Slot), kX γ (kA L sz) s L F H locs → lv_has ls 5 [(2, .int x), (3, .int (nI j)), (0, .ref o), (1, .int a)] → W p l e (kRm 4 1 6) s m args below meth c H locs (0 + (kRm 0 1 6).cells) (0 + (kRm 0 1 6).slots) (vx_MQ below (kQ γ L sz (kI fun r L1 F1 => L = L1 ∧ F = F1 ∧ owesM M a = (r, mset M 24 0 0))) (kXC γ L F sz (fun E => (E = kIO ∧ Thr M (owesM M a).2 1))) args s (kRm 4 1 6).cells (kRm 4 1 6).slots (kA L sz)) (F0 m 9 ls []) := by
    intro hco n
    induction n with
    | zero => intro j x h1 h2; exact absurd h1 (by omega)
    | succ n ih =>
      intro j x h1 h2 hxj H locs ls hX hl
      refine lv_iload_n hx hb dX4_owes_9 rfl (lv_at hl 1 rfl) ?_
      refine lv_aload_n hx hb dX4_owes_10 rfl (lv_at hl 2 rfl) ?_
      refine k_get hM hE hX hR.1.1 hR.1.2.2 rfl 0 (by decide) inX4 k_98 (fun _ h => h) rfl dX4_owes_11 ?_
      refine k_goi (k_V (n := 0) (As := []) (rest := [.int (nI j)]) hM hE hX hl (c_size l hR.2.2.2.2.2.1) mli eli rfl k_220 k_221 k_222 k_4 k_223 ⟨rfl, by decide, by decide, by decide +kernel⟩ (by decide) rfl rfl (Nat.le_of_ble_eq_true rfl) dX4_owes_14 (by decide)) hE hX (fun r L1 F1 H locs hp hX => ?_)
      obtain ⟨rfl, rfl, rfl⟩ := hp
      refine lv_icmp_ge (tgt := 56) hx hb dX4_owes_17 (by decide) (fun c_1 => ?_) (fun c_1 => ?_)
      · have ej : j = nn M := by
          have h9 := lp_out (a := j) (b := nn M) (by omega) (by omega) c_1
          omega
        refine lv_iload_n hx hb dX4_owes_56 rfl (lv_at hl 0 rfl) ?_
        exact vx_ret (k_iret hM hsz hX ⟨_, rfl, rfl, rfl, (if_pos hco).trans (show (sumsM (mset M 24 0 0) a 0, mset M 24 0 0) = (x, mset M 24 0 0) from by rw [off_sumsM, hxj, ej]; rfl)⟩ (by decide) (by decide) dX4_owes_57)
      · have hj : j < nn M := by
          have h9 := lp_in (a := j) (b := nn M) (by omega) (by omega) c_1
          omega
        refine lv_aload_n hx hb dX4_owes_20 rfl (lv_at hl 2 rfl) ?_
        refine k_get hM hE hX hR.1.1 hR.1.2.2 rfl 0 (by decide) inX4 k_98 (fun _ h => h) rfl dX4_owes_21 ?_
        refine lv_iload_n hx hb dX4_owes_24 rfl (lv_at hl 1 rfl) ?_
        refine k_gor (k_V (n := 1) (As := [.int (nI j)]) (rest := []) hM hE hX hl (c_get l hR.2.2.2.2.2.1 j hj) mli eli rfl k_224 k_225 k_226 k_4 k_227 ⟨rfl, by decide, by decide, by decide +kernel⟩ (by decide) rfl rfl (Nat.le_of_ble_eq_true rfl) dX4_owes_25 (by decide)) hE hX (fun r L1 F1 H locs hp hX => ?_)
        obtain ⟨rfl, rfl, rfl⟩ := hp
        refine k_cast hM hE hX (hR.2.1 j hj).1 (hR.2.1 j hj).2.2 rfl k_238 dX4_owes_28 ?_
        refine lv_astore (lv' := [(4, .ref (ad 1 j 0)), (2, .int x), (3, .int (nI j)), (0, .ref o), (1, .int a)]) hx hb dX4_owes_31 hl (by decide) rfl (fun ls hl => ?_)
        refine lv_aload hx hb dX4_owes_33 (lv_at hl 0 rfl) ?_
        refine k_get hM hE hX (hR.2.1 j hj).1 (hR.2.1 j hj).2.2 rfl 1 (by decide) inX2 k_523 (fun _ h => h) rfl dX4_owes_35 ?_
        refine lv_iload_n hx hb dX4_owes_38 rfl (lv_at hl 4 rfl) ?_
        refine lv_icmp_ne (tgt := 50) hx hb dX4_owes_39 (by decide) (fun c_2 => ?_) (fun c_2 => ?_)
        · refine lv_iinc (v := (nI (j + 1))) (lv' := [(3, .int (nI (j + 1))), (4, .ref (ad 1 j 0)), (2, .int x), (0, .ref o), (1, .int a)]) hx hb dX4_owes_50 hl (k := 2) rfl (nI_1 _) (by decide) rfl (fun ls hl => ?_)
          refine lv_goto (tgt := 9) hx hb dX4_owes_53 (by decide) ?_
          exact ih (j + 1) _ (by omega) (by omega) (show x = l_fold (sumsM_st M a 0) 0 (j + 1) from by rw [l_fold, ← hxj]; exact ((if_pos rfl).trans ((if_neg c_2).trans (Int32.add_zero x))).symm) _ _ _ hX (lv_sub hl [2, 0, 3, 4] rfl)
        · refine lv_iload_n hx hb dX4_owes_42 rfl (lv_at hl 1 rfl) ?_
          refine lv_aload hx hb dX4_owes_43 (lv_at hl 0 rfl) ?_
          refine k_goi (k_V (n := 0) (As := []) (rest := [.int x]) hM hE hX hl (c_X2_owedNow l γ L F o ad tg M nd D hR hI j hj) (hR.2.1 j hj).1 (hR.2.1 j hj).2.2 rfl k_239 k_240 k_241 k_18 k_242 ⟨rfl, by decide, by decide, by decide +kernel⟩ (by decide) rfl rfl (Nat.le_of_ble_eq_true rfl) dX4_owes_45 (by decide)) hE hX (fun r L1 F1 H locs hp hX => ?_)
          obtain ⟨rfl, rfl, rfl⟩ := hp
          refine lv_iadd hx hb dX4_owes_48 ?_
          refine lv_istore_n (lv' := [(2, .int (x + (owed M j))), (4, .ref (ad 1 j 0)), (3, .int (nI j)), (0, .ref o), (1, .int a)]) hx hb dX4_owes_49 rfl hl (by decide) rfl (fun ls hl => ?_)
          refine lv_iinc (v := (nI (j + 1))) (lv' := [(3, .int (nI (j + 1))), (2, .int (x + (owed M j))), (4, .ref (ad 1 j 0)), (0, .ref o), (1, .int a)]) hx hb dX4_owes_50 hl (k := 2) rfl (nI_1 _) (by decide) rfl (fun ls hl => ?_)
          refine lv_goto (tgt := 9) hx hb dX4_owes_53 (by decide) ?_
          exact ih (j + 1) _ (by omega) (by omega) (show (x + (owed M j)) = l_fold (sumsM_st M a 0) 0 (j + 1) from by rw [l_fold, ← hxj]; exact ((if_pos rfl).trans (if_pos c_2)).symm) _ _ _ hX (lv_sub hl [1, 0, 3, 4] rfl)
  refine lv_aload_n hx hb dX4_owes_0 rfl (lv_at hl 0 rfl) ?_
  refine lv_iload_n hx hb dX4_owes_1 rfl (lv_at hl 1 rfl) ?_
  refine x_gou (x_V (n := 1) (As := [.int a]) (rest := []) hM hE hX hl (c_X4_checkCompany l hfl γ L F o a) hR.1.1 hR.1.2.2 rfl k_125 k_127 kp_1 k_1 k_128 ⟨rfl, by decide, by decide, by decide +kernel⟩ (by decide) rfl rfl (Nat.le_of_ble_eq_true rfl) dX4_owes_2 (by decide)) hM hE hX htab ⟨rfl, rfl⟩ (fun E h => ⟨h.1, by rw [show owesM M a = (0, mset M 24 0 1) from ((if_neg h.2).trans rfl)]; exact Thr1 M 1⟩) (by decide) (by decide) (fun L1 F1 H locs hp hX => ?_)
  obtain ⟨rfl, rfl, hco⟩ := hp
  refine lv_iconst (v := 0) hx hb dX4_owes_5 (by decide) ?_
  refine lv_istore_n (lv' := [(2, .int 0), (0, .ref o), (1, .int a)]) hx hb dX4_owes_6 rfl hl (by decide) rfl (fun ls hl => ?_)
  refine lv_iconst (v := 0) hx hb dX4_owes_7 (by decide) ?_
  refine lv_istore_n (lv' := [(3, .int 0), (2, .int 0), (0, .ref o), (1, .int a)]) hx hb dX4_owes_8 rfl hl (by decide) rfl (fun ls hl => ?_)
  exact hloop hco (nn M + 1) 0 _ (by omega) (Nat.zero_le _) rfl _ _ _ hX (lv_sub hl [1, 0, 2, 3] rfl)
set_option maxHeartbeats 4000000 in
set_option maxRecDepth 100000 in
theorem c_X4_cashAnew (l : Launch) (hfl : l.stackTraces = false) (γ : kG) (L : List Nat) (F : kF) (o : Nat) (ad : cAd) (tg : cTg) (M : mM) (nd : Nat) (D : cD) (hR : RepC γ L F o ad tg M nd D) (hI : Inv M nd D) (a : Int32) (hnd : nd ≤ 512) : kD l yX4_cashAnew cX4_cashAnew 5 (some .int) (kRm 4 1 6) γ L F [.ref o, .int a] (kI fun r L1 F1 => L = L1 ∧ F = F1 ∧ cashAnewM M a = (r, mset M 24 0 0)) (fun E => (E = kIO ∧ Thr M (cashAnewM M a).2 1)) := by
  refine kD_of (by decide +kernel) (Nat.le_of_ble_eq_true rfl) ?_
  intro p e s m args below meth c sz ls hargs hsz hM htab hE hX hl
  have hx := hM.1
  have hb := hM.2.1
  have hl : lv_has ls 5 [(0, .ref o), (1, .int a)] := hl
  obtain ⟨mld, mcd, ed, eld⟩ := Lst.recv hR.2.2.2.2.2.2.2.1
  have hloop : ∀ (hco : 0 ≤ a ∧ a ≤ 5) (n j : Nat) (x : Int32), nd < j + n → j ≤ nd → x = l_fold (dst D a) 0 j → ∀ (H : Heap) (locs : List Loc) (ls : Array Slot), kX γ (kA L sz) s L F H locs → lv_has ls 5 [(2, .int x), (3, .int (nI j)), (0, .ref o), (1, .int a)] → W p l e (kRm 4 1 6) s m args below meth c H locs (0 + (kRm 0 1 6).cells) (0 + (kRm 0 1 6).slots) (vx_MQ below (kQ γ L sz (kI fun r L1 F1 => L = L1 ∧ F = F1 ∧ cashAnewM M a = (r, mset M 24 0 0))) (kXC γ L F sz (fun E => (E = kIO ∧ Thr M (cashAnewM M a).2 1))) args s (kRm 4 1 6).cells (kRm 4 1 6).slots (kA L sz)) (F0 m 9 ls []) := by
    intro hco n
    induction n with
    | zero => intro j x h1 h2; exact absurd h1 (by omega)
    | succ n ih =>
      intro j x h1 h2 hxj H locs ls hX hl
      refine lv_iload_n hx hb dX4_cashAnew_9 rfl (lv_at hl 1 rfl) ?_
      refine lv_aload_n hx hb dX4_cashAnew_10 rfl (lv_at hl 2 rfl) ?_
      refine k_get hM hE hX hR.1.1 hR.1.2.2 rfl 2 (by decide) inX4 k_100 (fun _ h => h) rfl dX4_cashAnew_11 ?_
      refine k_goi (k_V (n := 0) (As := []) (rest := [.int (nI j)]) hM hE hX hl (c_size l hR.2.2.2.2.2.2.2.1) mld eld rfl k_220 k_221 k_222 k_4 k_223 ⟨rfl, by decide, by decide, by decide +kernel⟩ (by decide) rfl rfl (Nat.le_of_ble_eq_true rfl) dX4_cashAnew_14 (by decide)) hE hX (fun r L1 F1 H locs hp hX => ?_)
      obtain ⟨rfl, rfl, rfl⟩ := hp
      refine lv_icmp_ge (tgt := 73) hx hb dX4_cashAnew_17 (by decide) (fun c_1 => ?_) (fun c_1 => ?_)
      · have ej : j = nd := by
          have h9 := lp_out (a := j) (b := nd) (by omega) (by omega) c_1
          omega
        refine lv_iload_n hx hb dX4_cashAnew_73 rfl (lv_at hl 0 rfl) ?_
        exact vx_ret (k_iret hM hsz hX ⟨_, rfl, rfl, rfl, (if_pos hco).trans (by rw [hxj, ej, ← dSum_fold, hI.2.2.2.2.2.2.2.2.2.2.2.2.2.2 (kj a) (okI_5 hco).2, ← (okI_5 hco).1])⟩ (by decide) (by decide) dX4_cashAnew_74)
      · have hj : j < nd := by
          have h9 := lp_in (a := j) (b := nd) (by omega) (by omega) c_1
          omega
        refine lv_aload_n hx hb dX4_cashAnew_20 rfl (lv_at hl 2 rfl) ?_
        refine k_get hM hE hX hR.1.1 hR.1.2.2 rfl 2 (by decide) inX4 k_100 (fun _ h => h) rfl dX4_cashAnew_21 ?_
        refine lv_iload_n hx hb dX4_cashAnew_24 rfl (lv_at hl 1 rfl) ?_
        refine k_gor (k_V (n := 1) (As := [.int (nI j)]) (rest := []) hM hE hX hl (c_get l hR.2.2.2.2.2.2.2.1 j hj) mld eld rfl k_224 k_225 k_226 k_4 k_227 ⟨rfl, by decide, by decide, by decide +kernel⟩ (by decide) rfl rfl (Nat.le_of_ble_eq_true rfl) dX4_cashAnew_25 (by decide)) hE hX (fun r L1 F1 H locs hp hX => ?_)
        obtain ⟨rfl, rfl, rfl⟩ := hp
        refine k_cast hM hE hX (hR.2.2.2.2.1 j hj).1 (hR.2.2.2.2.1 j hj).2.2 rfl k_288 dX4_cashAnew_28 ?_
        refine lv_astore (lv' := [(4, .ref (ad 4 j 0)), (2, .int x), (3, .int (nI j)), (0, .ref o), (1, .int a)]) hx hb dX4_cashAnew_31 hl (by decide) rfl (fun ls hl => ?_)
        refine lv_aload hx hb dX4_cashAnew_33 (lv_at hl 0 rfl) ?_
        refine k_get hM hE hX (hR.2.2.2.2.1 j hj).1 (hR.2.2.2.2.1 j hj).2.2 rfl 1 (by decide) inX1 k_297 (fun _ h => h) rfl dX4_cashAnew_35 ?_
        refine lv_iload_n hx hb dX4_cashAnew_38 rfl (lv_at hl 4 rfl) ?_
        refine lv_icmp_ne (tgt := 50) hx hb dX4_cashAnew_39 (by decide) (fun c_2 => ?_) (fun c_2 => ?_)
        · refine lv_aload hx hb dX4_cashAnew_50 (lv_at hl 0 rfl) ?_
          refine k_get hM hE hX (hR.2.2.2.2.1 j hj).1 (hR.2.2.2.2.1 j hj).2.2 rfl 0 (by decide) inX1 k_295 (fun _ h => h) rfl dX4_cashAnew_52 ?_
          refine lv_iload_n hx hb dX4_cashAnew_55 rfl (lv_at hl 4 rfl) ?_
          refine lv_icmp_ne (tgt := 67) hx hb dX4_cashAnew_56 (by decide) (fun c_3 => ?_) (fun c_3 => ?_)
          · refine lv_iinc (v := (nI (j + 1))) (lv' := [(3, .int (nI (j + 1))), (4, .ref (ad 4 j 0)), (2, .int x), (0, .ref o), (1, .int a)]) hx hb dX4_cashAnew_67 hl (k := 2) rfl (nI_1 _) (by decide) rfl (fun ls hl => ?_)
            refine lv_goto (tgt := 9) hx hb dX4_cashAnew_70 (by decide) ?_
            exact ih (j + 1) _ (by omega) (by omega) (show x = l_fold (dst D a) 0 (j + 1) from by rw [l_fold, ← hxj]; exact (by unfold dst; rw [if_neg c_3, if_neg c_2])) _ _ _ hX (lv_sub hl [2, 0, 3, 4] rfl)
          · refine lv_iload_n hx hb dX4_cashAnew_59 rfl (lv_at hl 1 rfl) ?_
            refine lv_aload hx hb dX4_cashAnew_60 (lv_at hl 0 rfl) ?_
            refine k_get hM hE hX (hR.2.2.2.2.1 j hj).1 (hR.2.2.2.2.1 j hj).2.2 rfl 2 (by decide) inX1 k_299 (fun _ h => h) rfl dX4_cashAnew_62 ?_
            refine lv_isub hx hb dX4_cashAnew_65 ?_
            refine lv_istore_n (lv' := [(2, .int (x - (D j).2.2)), (4, .ref (ad 4 j 0)), (3, .int (nI j)), (0, .ref o), (1, .int a)]) hx hb dX4_cashAnew_66 rfl hl (by decide) rfl (fun ls hl => ?_)
            refine lv_iinc (v := (nI (j + 1))) (lv' := [(3, .int (nI (j + 1))), (2, .int (x - (D j).2.2)), (4, .ref (ad 4 j 0)), (0, .ref o), (1, .int a)]) hx hb dX4_cashAnew_67 hl (k := 2) rfl (nI_1 _) (by decide) rfl (fun ls hl => ?_)
            refine lv_goto (tgt := 9) hx hb dX4_cashAnew_70 (by decide) ?_
            exact ih (j + 1) _ (by omega) (by omega) (show (x - (D j).2.2) = l_fold (dst D a) 0 (j + 1) from by rw [l_fold, ← hxj]; exact (by unfold dst; rw [if_pos c_3, if_neg c_2])) _ _ _ hX (lv_sub hl [1, 0, 3, 4] rfl)
        · refine lv_iload_n hx hb dX4_cashAnew_42 rfl (lv_at hl 1 rfl) ?_
          refine lv_aload hx hb dX4_cashAnew_43 (lv_at hl 0 rfl) ?_
          refine k_get hM hE hX (hR.2.2.2.2.1 j hj).1 (hR.2.2.2.2.1 j hj).2.2 rfl 2 (by decide) inX1 k_299 (fun _ h => h) rfl dX4_cashAnew_45 ?_
          refine lv_iadd hx hb dX4_cashAnew_48 ?_
          refine lv_istore_n (lv' := [(2, .int (x + (D j).2.2)), (4, .ref (ad 4 j 0)), (3, .int (nI j)), (0, .ref o), (1, .int a)]) hx hb dX4_cashAnew_49 rfl hl (by decide) rfl (fun ls hl => ?_)
          refine lv_aload hx hb dX4_cashAnew_50 (lv_at hl 1 rfl) ?_
          refine k_get hM hE hX (hR.2.2.2.2.1 j hj).1 (hR.2.2.2.2.1 j hj).2.2 rfl 0 (by decide) inX1 k_295 (fun _ h => h) rfl dX4_cashAnew_52 ?_
          refine lv_iload_n hx hb dX4_cashAnew_55 rfl (lv_at hl 4 rfl) ?_
          refine lv_icmp_ne (tgt := 67) hx hb dX4_cashAnew_56 (by decide) (fun c_4 => ?_) (fun c_4 => ?_)
          · refine lv_iinc (v := (nI (j + 1))) (lv' := [(3, .int (nI (j + 1))), (2, .int (x + (D j).2.2)), (4, .ref (ad 4 j 0)), (0, .ref o), (1, .int a)]) hx hb dX4_cashAnew_67 hl (k := 2) rfl (nI_1 _) (by decide) rfl (fun ls hl => ?_)
            refine lv_goto (tgt := 9) hx hb dX4_cashAnew_70 (by decide) ?_
            exact ih (j + 1) _ (by omega) (by omega) (show (x + (D j).2.2) = l_fold (dst D a) 0 (j + 1) from by rw [l_fold, ← hxj]; exact (by unfold dst; rw [if_neg c_4, if_pos c_2])) _ _ _ hX (lv_sub hl [1, 0, 3, 4] rfl)
          · refine lv_iload_n hx hb dX4_cashAnew_59 rfl (lv_at hl 0 rfl) ?_
            refine lv_aload hx hb dX4_cashAnew_60 (lv_at hl 1 rfl) ?_
            refine k_get hM hE hX (hR.2.2.2.2.1 j hj).1 (hR.2.2.2.2.1 j hj).2.2 rfl 2 (by decide) inX1 k_299 (fun _ h => h) rfl dX4_cashAnew_62 ?_
            refine lv_isub hx hb dX4_cashAnew_65 ?_
            refine lv_istore_n (lv' := [(2, .int ((x + (D j).2.2) - (D j).2.2)), (4, .ref (ad 4 j 0)), (3, .int (nI j)), (0, .ref o), (1, .int a)]) hx hb dX4_cashAnew_66 rfl hl (by decide) rfl (fun ls hl => ?_)
            refine lv_iinc (v := (nI (j + 1))) (lv' := [(3, .int (nI (j + 1))), (2, .int ((x + (D j).2.2) - (D j).2.2)), (4, .ref (ad 4 j 0)), (0, .ref o), (1, .int a)]) hx hb dX4_cashAnew_67 hl (k := 2) rfl (nI_1 _) (by decide) rfl (fun ls hl => ?_)
            refine lv_goto (tgt := 9) hx hb dX4_cashAnew_70 (by decide) ?_
            exact ih (j + 1) _ (by omega) (by omega) (show ((x + (D j).2.2) - (D j).2.2) = l_fold (dst D a) 0 (j + 1) from by rw [l_fold, ← hxj]; exact (by unfold dst; rw [if_pos c_4, if_pos c_2])) _ _ _ hX (lv_sub hl [1, 0, 3, 4] rfl)
  refine lv_aload_n hx hb dX4_cashAnew_0 rfl (lv_at hl 0 rfl) ?_
  refine lv_iload_n hx hb dX4_cashAnew_1 rfl (lv_at hl 1 rfl) ?_
  refine x_gou (x_V (n := 1) (As := [.int a]) (rest := []) hM hE hX hl (c_X4_checkCompany l hfl γ L F o a) hR.1.1 hR.1.2.2 rfl k_125 k_127 kp_1 k_1 k_128 ⟨rfl, by decide, by decide, by decide +kernel⟩ (by decide) rfl rfl (Nat.le_of_ble_eq_true rfl) dX4_cashAnew_2 (by decide)) hM hE hX htab ⟨rfl, rfl⟩ (fun E h => ⟨h.1, by rw [show cashAnewM M a = (0, mset M 24 0 1) from ((if_neg h.2).trans rfl)]; exact Thr1 M 1⟩) (by decide) (by decide) (fun L1 F1 H locs hp hX => ?_)
  obtain ⟨rfl, rfl, hco⟩ := hp
  refine lv_iconst (v := 0) hx hb dX4_cashAnew_5 (by decide) ?_
  refine lv_istore_n (lv' := [(2, .int 0), (0, .ref o), (1, .int a)]) hx hb dX4_cashAnew_6 rfl hl (by decide) rfl (fun ls hl => ?_)
  refine lv_iconst (v := 0) hx hb dX4_cashAnew_7 (by decide) ?_
  refine lv_istore_n (lv' := [(3, .int 0), (2, .int 0), (0, .ref o), (1, .int a)]) hx hb dX4_cashAnew_8 rfl hl (by decide) rfl (fun ls hl => ?_)
  exact hloop hco (nd + 1) 0 _ (by omega) (Nat.zero_le _) rfl _ _ _ hX (lv_sub hl [1, 0, 2, 3] rfl)
set_option maxHeartbeats 4000000 in
set_option maxRecDepth 100000 in
theorem c_X4_chain (l : Launch) (hfl : l.stackTraces = false) (γ : kG) (L : List Nat) (F : kF) (o : Nat) (ad : cAd) (tg : cTg) (M : mM) (nd : Nat) (D : cD) (hR : RepC γ L F o ad tg M nd D) (hI : Inv M nd D) (a : Int32) : kD l yX4_chain cX4_chain 5 (some .int) (kRm 5 1 6) γ L F [.ref o, .int a] (kI fun r L1 F1 => L = L1 ∧ F = F1 ∧ chainM M a = (r, mset M 24 0 0)) (fun E => (E = kIO ∧ Thr M (chainM M a).2 1)) := by
  refine kD_of (by decide +kernel) (Nat.le_of_ble_eq_true rfl) ?_
  intro p e s m args below meth c sz ls hargs hsz hM htab hE hX hl
  have hx := hM.1
  have hb := hM.2.1
  have hl : lv_has ls 5 [(0, .ref o), (1, .int a)] := hl
  obtain ⟨mli, mci, ei, eli⟩ := Lst.recv hR.2.2.2.2.2.1
  have hn2 := hI.1.2
  have hloop : ∀ (hgo : 0 ≤ a ∧ a ≤ 7) (n j : Nat) (x : Int32), nn M < j + n → j ≤ nn M → x = l_fold (chO M a) 0 j → ∀ (H : Heap) (locs : List Loc) (ls : Array Slot), kX γ (kA L sz) s L F H locs → lv_has ls 5 [(2, .int x), (3, .int (nI j)), (0, .ref o), (1, .int a)] → W p l e (kRm 5 1 6) s m args below meth c H locs (0 + (kRm 0 1 6).cells) (0 + (kRm 0 1 6).slots) (vx_MQ below (kQ γ L sz (kI fun r L1 F1 => L = L1 ∧ F = F1 ∧ chainM M a = (r, mset M 24 0 0))) (kXC γ L F sz (fun E => (E = kIO ∧ Thr M (chainM M a).2 1))) args s (kRm 5 1 6).cells (kRm 5 1 6).slots (kA L sz)) (F0 m 9 ls []) := by
    intro hgo n
    induction n with
    | zero => intro j x h1 h2; exact absurd h1 (by omega)
    | succ n ih =>
      intro j x h1 h2 hxj H locs ls hX hl
      refine lv_iload_n hx hb dX4_chain_9 rfl (lv_at hl 1 rfl) ?_
      refine lv_aload_n hx hb dX4_chain_10 rfl (lv_at hl 2 rfl) ?_
      refine k_get hM hE hX hR.1.1 hR.1.2.2 rfl 0 (by decide) inX4 k_98 (fun _ h => h) rfl dX4_chain_11 ?_
      refine k_goi (k_V (n := 0) (As := []) (rest := [.int (nI j)]) hM hE hX hl (c_size l hR.2.2.2.2.2.1) mli eli rfl k_220 k_221 k_222 k_4 k_223 ⟨rfl, by decide, by decide, by decide +kernel⟩ (by decide) rfl rfl (Nat.le_of_ble_eq_true rfl) dX4_chain_14 (by decide)) hE hX (fun r L1 F1 H locs hp hX => ?_)
      obtain ⟨rfl, rfl, rfl⟩ := hp
      refine lv_icmp_ge (tgt := 68) hx hb dX4_chain_17 (by decide) (fun c_1 => ?_) (fun c_1 => ?_)
      · have ej : j = nn M := by
          have h9 := lp_out (a := j) (b := nn M) (by omega) (by omega) c_1
          omega
        refine lv_iload_n hx hb dX4_chain_68 rfl (lv_at hl 0 rfl) ?_
        exact vx_ret (k_iret hM hsz hX ⟨_, rfl, rfl, rfl, (if_pos hgo).trans (show (l_fold (chO M a) 0 (nn M), mset M 24 0 0) = (x, mset M 24 0 0) from by rw [hxj, ej])⟩ (by decide) (by decide) dX4_chain_69)
      · have hj : j < nn M := by
          have h9 := lp_in (a := j) (b := nn M) (by omega) (by omega) c_1
          omega
        refine lv_aload_n hx hb dX4_chain_20 rfl (lv_at hl 2 rfl) ?_
        refine k_get hM hE hX hR.1.1 hR.1.2.2 rfl 0 (by decide) inX4 k_98 (fun _ h => h) rfl dX4_chain_21 ?_
        refine lv_iload_n hx hb dX4_chain_24 rfl (lv_at hl 1 rfl) ?_
        refine k_gor (k_V (n := 1) (As := [.int (nI j)]) (rest := []) hM hE hX hl (c_get l hR.2.2.2.2.2.1 j hj) mli eli rfl k_224 k_225 k_226 k_4 k_227 ⟨rfl, by decide, by decide, by decide +kernel⟩ (by decide) rfl rfl (Nat.le_of_ble_eq_true rfl) dX4_chain_25 (by decide)) hE hX (fun r L1 F1 H locs hp hX => ?_)
        obtain ⟨rfl, rfl, rfl⟩ := hp
        refine k_cast hM hE hX (hR.2.1 j hj).1 (hR.2.1 j hj).2.2 rfl k_238 dX4_chain_28 ?_
        refine lv_astore (lv' := [(4, .ref (ad 1 j 0)), (2, .int x), (3, .int (nI j)), (0, .ref o), (1, .int a)]) hx hb dX4_chain_31 hl (by decide) rfl (fun ls hl => ?_)
        refine lv_aload hx hb dX4_chain_33 (lv_at hl 0 rfl) ?_
        refine lv_iload_n hx hb dX4_chain_35 rfl (lv_at hl 4 rfl) ?_
        refine k_goi (k_V (n := 1) (As := [.int a]) (rest := []) hM hE hX hl (c_X2_isAcceptedOf l γ L F o ad tg M nd D hR hI j hj a) (hR.2.1 j hj).1 (hR.2.1 j hj).2.2 rfl k_478 k_479 k_480 k_18 k_481 ⟨rfl, by decide, by decide, by decide +kernel⟩ (by decide) rfl rfl (Nat.le_of_ble_eq_true rfl) dX4_chain_36 (by decide)) hE hX (fun r L1 F1 H locs hp hX => ?_)
        obtain ⟨rfl, rfl, ⟨rfl, h_2⟩ | ⟨rfl, h_2⟩⟩ := hp
        · refine lv_if_eq (tgt := 62) hx hb dX4_chain_39 (by decide) (fun c_3 => absurd (show (1 : Int32) = 0 from c_3) (by decide)) (fun _ => ?_)
          refine lv_iload_n hx hb dX4_chain_42 rfl (lv_at hl 1 rfl) ?_
          refine lv_aload hx hb dX4_chain_43 (lv_at hl 0 rfl) ?_
          refine k_goi (k_V (n := 0) (As := []) (rest := [.int x]) hM hE hX hl (c_X2_taxNow l γ L F o ad tg M nd D hR hI j hj) (hR.2.1 j hj).1 (hR.2.1 j hj).2.2 rfl k_395 k_396 k_397 k_18 k_398 ⟨rfl, by decide, by decide, by decide +kernel⟩ (by decide) rfl rfl (Nat.le_of_ble_eq_true rfl) dX4_chain_45 (by decide)) hE hX (fun r L1 F1 H locs hp hX => ?_)
          obtain ⟨rfl, rfl, rfl⟩ := hp
          refine lv_aload_n hx hb dX4_chain_48 rfl (lv_at hl 3 rfl) ?_
          refine lv_iload_n hx hb dX4_chain_49 rfl (lv_at hl 2 rfl) ?_
          refine lv_aload hx hb dX4_chain_50 (lv_at hl 0 rfl) ?_
          refine k_goi (k_V (n := 2) (As := [.int (nI j), .ref (ad 1 j 0)]) (rest := [.int (taxAll M j 0), .int x]) hM hE hX hl (c_X4_greatestTaxAhead l γ L F o ad tg M nd D hR hI j hj) hR.1.1 hR.1.2.2 rfl k_482 k_484 kp_18 k_1 k_485 ⟨rfl, by decide, by decide, by decide +kernel⟩ (by decide) rfl rfl (Nat.le_of_ble_eq_true rfl) dX4_chain_52 (by decide)) hE hX (fun r L1 F1 H locs hp hX => ?_)
          obtain ⟨rfl, rfl, rfl⟩ := hp
          refine lv_isub hx hb dX4_chain_55 ?_
          refine lv_iconst (v := 0) hx hb dX4_chain_56 (by decide) ?_
          refine k_max hM hl k_464 k_258 k_15 k_259 ⟨by decide, Nat.le_of_ble_eq_true rfl⟩ (by decide) dX4_chain_57 ?_
          refine lv_iadd hx hb dX4_chain_60 ?_
          refine lv_istore_n (lv' := [(2, .int (x + (if ((taxAll M j 0) - (l_fold (chI M (M 5 j) j) 0 j)) < 0 then 0 else ((taxAll M j 0) - (l_fold (chI M (M 5 j) j) 0 j))))), (4, .ref (ad 1 j 0)), (3, .int (nI j)), (0, .ref o), (1, .int a)]) hx hb dX4_chain_61 rfl hl (by decide) rfl (fun ls hl => ?_)
          refine lv_iinc (v := (nI (j + 1))) (lv' := [(3, .int (nI (j + 1))), (2, .int (x + (if ((taxAll M j 0) - (l_fold (chI M (M 5 j) j) 0 j)) < 0 then 0 else ((taxAll M j 0) - (l_fold (chI M (M 5 j) j) 0 j))))), (4, .ref (ad 1 j 0)), (0, .ref o), (1, .int a)]) hx hb dX4_chain_62 hl (k := 2) rfl (nI_1 _) (by decide) rfl (fun ls hl => ?_)
          refine lv_goto (tgt := 9) hx hb dX4_chain_65 (by decide) ?_
          exact ih (j + 1) _ (by omega) (by omega) (show (x + (if ((taxAll M j 0) - (l_fold (chI M (M 5 j) j) 0 j)) < 0 then 0 else ((taxAll M j 0) - (l_fold (chI M (M 5 j) j) 0 j)))) = l_fold (chO M a) 0 (j + 1) from by rw [l_fold, ← hxj]; exact (chO_p hI hj h_2)) _ _ _ hX (lv_sub hl [1, 0, 3, 4] rfl)
        · refine lv_if_eq (tgt := 62) hx hb dX4_chain_39 (by decide) (fun _ => ?_) (fun c_4 => absurd (show ¬ (0 : Int32) = 0 from c_4) (by decide))
          refine lv_iinc (v := (nI (j + 1))) (lv' := [(3, .int (nI (j + 1))), (4, .ref (ad 1 j 0)), (2, .int x), (0, .ref o), (1, .int a)]) hx hb dX4_chain_62 hl (k := 2) rfl (nI_1 _) (by decide) rfl (fun ls hl => ?_)
          refine lv_goto (tgt := 9) hx hb dX4_chain_65 (by decide) ?_
          exact ih (j + 1) _ (by omega) (by omega) (show x = l_fold (chO M a) 0 (j + 1) from by rw [l_fold, ← hxj]; exact (chO_n h_2)) _ _ _ hX (lv_sub hl [2, 0, 3, 4] rfl)
  refine lv_aload_n hx hb dX4_chain_0 rfl (lv_at hl 0 rfl) ?_
  refine lv_iload_n hx hb dX4_chain_1 rfl (lv_at hl 1 rfl) ?_
  refine x_gou (x_V (n := 1) (As := [.int a]) (rest := []) hM hE hX hl (c_X4_checkGoods l hfl γ L F o a) hR.1.1 hR.1.2.2 rfl k_473 k_475 kp_17 k_1 k_476 ⟨rfl, by decide, by decide, by decide +kernel⟩ (by decide) rfl rfl (Nat.le_of_ble_eq_true rfl) dX4_chain_2 (by decide)) hM hE hX htab ⟨rfl, rfl⟩ (fun E h => ⟨h.1, by rw [show chainM M a = (0, mset M 24 0 1) from ((if_neg h.2).trans rfl)]; exact Thr1 M 1⟩) (by decide) (by decide) (fun L1 F1 H locs hp hX => ?_)
  obtain ⟨rfl, rfl, hgo⟩ := hp
  refine lv_iconst (v := 0) hx hb dX4_chain_5 (by decide) ?_
  refine lv_istore_n (lv' := [(2, .int 0), (0, .ref o), (1, .int a)]) hx hb dX4_chain_6 rfl hl (by decide) rfl (fun ls hl => ?_)
  refine lv_iconst (v := 0) hx hb dX4_chain_7 (by decide) ?_
  refine lv_istore_n (lv' := [(3, .int 0), (2, .int 0), (0, .ref o), (1, .int a)]) hx hb dX4_chain_8 rfl hl (by decide) rfl (fun ls hl => ?_)
  exact hloop hgo (nn M + 1) 0 _ (by omega) (Nat.zero_le _) rfl _ _ _ hX (lv_sub hl [1, 0, 2, 3] rfl)
