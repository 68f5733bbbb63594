set_option maxHeartbeats 4000000 in
set_option maxRecDepth 100000 in
theorem c_X4_taxOf (l : Launch) (γ : kG) (L : List Nat) (F : kF) (a b : Int32) : kC l yX4_taxOf cX4_taxOf 2 (some .int) (kRm 0 0 0) γ L F [.int a, .int b] (kI fun r L1 F1 => L = L1 ∧ F = F1 ∧ r = tx a b) := by
  refine kC_of (by decide +kernel) (Nat.le_of_ble_eq_true rfl) ?_
  intro p e s m args below meth c sz ls hargs hsz hM hin hE hX hl
  have hx := hM.1
  have hb := hM.2.1
  have hl : lv_has ls 2 [(0, .int a), (1, .int b)] := hl
  refine lv_iload_n hx hb dX4_taxOf_0 rfl (lv_at hl 0 rfl) ?_
  refine lv_iload_n hx hb dX4_taxOf_1 rfl (lv_at hl 1 rfl) ?_
  refine lv_imul hx hb dX4_taxOf_2 ?_
  refine lv_bipush (v := 100) hx hb dX4_taxOf_3 (by decide) ?_
  refine lv_idiv hx hb dX4_taxOf_5 (by decide) ?_
  exact k_iret hM hsz hX ⟨_, rfl, rfl, rfl, rfl⟩ (by decide) (by decide) dX4_taxOf_6
set_option maxHeartbeats 4000000 in
set_option maxRecDepth 100000 in
theorem c_X4_monthOf (l : Launch) (γ : kG) (L : List Nat) (F : kF) (a : Int32) : kC l yX4_monthOf cX4_monthOf 1 (some .int) (kRm 0 0 0) γ L F [.int a] (kI fun r L1 F1 => L = L1 ∧ F = F1 ∧ r = a / 30) := by
  refine kC_of (by decide +kernel) (Nat.le_of_ble_eq_true rfl) ?_
  intro p e s m args below meth c sz ls hargs hsz hM hin hE hX hl
  have hx := hM.1
  have hb := hM.2.1
  have hl : lv_has ls 1 [(0, .int a)] := hl
  refine lv_iload_n hx hb dX4_monthOf_0 rfl (lv_at hl 0 rfl) ?_
  refine lv_bipush (v := 30) hx hb dX4_monthOf_1 (by decide) ?_
  refine lv_idiv hx hb dX4_monthOf_3 (by decide) ?_
  exact k_iret hM hsz hX ⟨_, rfl, rfl, rfl, rfl⟩ (by decide) (by decide) dX4_monthOf_4
set_option maxHeartbeats 4000000 in
set_option maxRecDepth 100000 in
theorem c_X3_taxNow (l : Launch) (γ : kG) (L : List Nat) (F : kF) (o : Nat) (ad : cAd) (tg : cTg) (M : mM) (nd : Nat) (D : cD) (hR : RepC γ L F o ad tg M nd D) (hI : Inv M nd D) (i j : Nat) (hi : i < nn M) (hj : j < kk M i) : kC l yX3_taxNow cX3_taxNow 1 (some .int) (kRm 1 0 0) γ L F [.ref (ad 2 i j)] (kI fun r L1 F1 => L = L1 ∧ F = F1 ∧ r = tx (M 14 (3 * i + j)) (M 16 (3 * i + j))) := by
  refine kC_of (by decide +kernel) (Nat.le_of_ble_eq_true rfl) ?_
  intro p e s m args below meth c sz ls hargs hsz hM hin hE hX hl
  have hx := hM.1
  have hb := hM.2.1
  have hl : lv_has ls 1 [(0, .ref (ad 2 i j))] := hl
  refine lv_aload_n hx hb dX3_taxNow_0 rfl (lv_at hl 0 rfl) ?_
  refine k_get hM hE hX (hR.2.2.1 i hi j hj).1 (hR.2.2.1 i hi j hj).2.2 rfl 2 (by decide) inX3 k_579 (fun _ h => h) rfl dX3_taxNow_1 ?_
  refine lv_aload_n hx hb dX3_taxNow_4 rfl (lv_at hl 0 rfl) ?_
  refine k_get hM hE hX (hR.2.2.1 i hi j hj).1 (hR.2.2.1 i hi j hj).2.2 rfl 1 (by decide) inX3 k_577 (fun _ h => h) rfl dX3_taxNow_5 ?_
  refine k_goi (k_SN (n := 2) (As := [.int (M 14 (3 * i + j)), .int (M 16 (3 * i + j))]) (rest := []) hM hE hX hl (c_X4_taxOf l γ L F (M 14 (3 * i + j)) (M 16 (3 * i + j))) hE.2.1.2.2.2.1 k_255 k_1 k_256 ⟨by decide, by decide, by decide +kernel⟩ (by decide) rfl rfl (Nat.le_of_ble_eq_true rfl) dX3_taxNow_8 (by decide)) hE hX (fun r L1 F1 H locs hp hX => ?_)
  obtain ⟨rfl, rfl, rfl⟩ := hp
  exact k_iret hM hsz hX ⟨_, rfl, rfl, rfl, rfl⟩ (by decide) (by decide) dX3_taxNow_11
set_option maxHeartbeats 4000000 in
set_option maxRecDepth 100000 in
theorem c_X3_taxAsMade (l : Launch) (γ : kG) (L : List Nat) (F : kF) (o : Nat) (ad : cAd) (tg : cTg) (M : mM) (nd : Nat) (D : cD) (hR : RepC γ L F o ad tg M nd D) (hI : Inv M nd D) (i j : Nat) (hi : i < nn M) (hj : j < kk M i) : kC l yX3_taxAsMade cX3_taxAsMade 1 (some .int) (kRm 1 0 0) γ L F [.ref (ad 2 i j)] (kI fun r L1 F1 => L = L1 ∧ F = F1 ∧ r = tx (M 15 (3 * i + j)) (M 16 (3 * i + j))) := by
  refine kC_of (by decide +kernel) (Nat.le_of_ble_eq_true rfl) ?_
  intro p e s m args below meth c sz ls hargs hsz hM hin hE hX hl
  have hx := hM.1
  have hb := hM.2.1
  have hl : lv_has ls 1 [(0, .ref (ad 2 i j))] := hl
  refine lv_aload_n hx hb dX3_taxAsMade_0 rfl (lv_at hl 0 rfl) ?_
  refine k_get hM hE hX (hR.2.2.1 i hi j hj).1 (hR.2.2.1 i hi j hj).2.2 rfl 0 (by decide) inX3 k_575 (fun _ h => h) rfl dX3_taxAsMade_1 ?_
  refine lv_aload_n hx hb dX3_taxAsMade_4 rfl (lv_at hl 0 rfl) ?_
  refine k_get hM hE hX (hR.2.2.1 i hi j hj).1 (hR.2.2.1 i hi j hj).2.2 rfl 1 (by decide) inX3 k_577 (fun _ h => h) rfl dX3_taxAsMade_5 ?_
  refine k_goi (k_SN (n := 2) (As := [.int (M 15 (3 * i + j)), .int (M 16 (3 * i + j))]) (rest := []) hM hE hX hl (c_X4_taxOf l γ L F (M 15 (3 * i + j)) (M 16 (3 * i + j))) hE.2.1.2.2.2.1 k_255 k_1 k_256 ⟨by decide, by decide, by decide +kernel⟩ (by decide) rfl rfl (Nat.le_of_ble_eq_true rfl) dX3_taxAsMade_8 (by decide)) hE hX (fun r L1 F1 H locs hp hX => ?_)
  obtain ⟨rfl, rfl, rfl⟩ := hp
  exact k_iret hM hsz hX ⟨_, rfl, rfl, rfl, rfl⟩ (by decide) (by decide) dX3_taxAsMade_11
set_option maxHeartbeats 4000000 in
set_option maxRecDepth 100000 in
theorem c_X3_costNow (l : Launch) (γ : kG) (L : List Nat) (F : kF) (o : Nat) (ad : cAd) (tg : cTg) (M : mM) (nd : Nat) (D : cD) (hR : RepC γ L F o ad tg M nd D) (hI : Inv M nd D) (i j : Nat) (hi : i < nn M) (hj : j < kk M i) : kC l yX3_costNow cX3_costNow 1 (some .int) (kRm 2 0 0) γ L F [.ref (ad 2 i j)] (kI fun r L1 F1 => L = L1 ∧ F = F1 ∧ r = M 14 (3 * i + j) + tx (M 14 (3 * i + j)) (M 16 (3 * i + j))) := by
  refine kC_of (by decide +kernel) (Nat.le_of_ble_eq_true rfl) ?_
  intro p e s m args below meth c sz ls hargs hsz hM hin hE hX hl
  have hx := hM.1
  have hb := hM.2.1
  have hl : lv_has ls 1 [(0, .ref (ad 2 i j))] := hl
  refine lv_aload_n hx hb dX3_costNow_0 rfl (lv_at hl 0 rfl) ?_
  refine k_get hM hE hX (hR.2.2.1 i hi j hj).1 (hR.2.2.1 i hi j hj).2.2 rfl 2 (by decide) inX3 k_579 (fun _ h => h) rfl dX3_costNow_1 ?_
  refine lv_aload_n hx hb dX3_costNow_4 rfl (lv_at hl 0 rfl) ?_
  refine k_goi (k_V (n := 0) (As := []) (rest := [.int (M 14 (3 * i + j))]) hM hE hX hl (c_X3_taxNow l γ L F o ad tg M nd D hR hI i j hi hj) (hR.2.2.1 i hi j hj).1 (hR.2.2.1 i hi j hj).2.2 rfl k_250 k_251 k_252 k_19 k_253 ⟨rfl, by decide, by decide, by decide +kernel⟩ (by decide) rfl rfl (Nat.le_of_ble_eq_true rfl) dX3_costNow_5 (by decide)) hE hX (fun r L1 F1 H locs hp hX => ?_)
  obtain ⟨rfl, rfl, rfl⟩ := hp
  refine lv_iadd hx hb dX3_costNow_8 ?_
  exact k_iret hM hsz hX ⟨_, rfl, rfl, rfl, rfl⟩ (by decide) (by decide) dX3_costNow_9
set_option maxHeartbeats 4000000 in
set_option maxRecDepth 100000 in
theorem c_X2_costNow (l : Launch) (γ : kG) (L : List Nat) (F : kF) (o : Nat) (ad : cAd) (tg : cTg) (M : mM) (nd : Nat) (D : cD) (hR : RepC γ L F o ad tg M nd D) (hI : Inv M nd D) (i : Nat) (hi : i < nn M) : kC l yX2_costNow cX2_costNow 3 (some .int) (kRm 3 0 0) γ L F [.ref (ad 1 i 0)] (kI fun r L1 F1 => L = L1 ∧ F = F1 ∧ r = costs M i 1) := by
  refine kC_of (by decide +kernel) (Nat.le_of_ble_eq_true rfl) ?_
  intro p e s m args below meth c sz ls hargs hsz hM hin hE hX hl
  have hx := hM.1
  have hb := hM.2.1
  have hl : lv_has ls 3 [(0, .ref (ad 1 i 0))] := hl
  obtain ⟨ml0, mc0, e0, el0⟩ := Lst.recv (hR.2.2.2.2.2.2.2.2.1 i hi)
  have hk := hI.2.1 i hi
  have hk2 := hk.2
  have hloop : ∀ (n j : Nat) (x : Int32), kk M i < j + n → j ≤ kk M i → x = l_fold (costs_st M i 1) 0 j → ∀ (H : Heap) (locs : List Loc) (ls : Array Slot), kX γ (kA L sz) s L F H locs → lv_has ls 3 [(1, .int x), (2, .int (nI j)), (0, .ref (ad 1 i 0))] → W p l e (kRm 3 0 0) s m args below meth c H locs 0 0 (MQ below (kQ γ L sz (kI fun r L1 F1 => L = L1 ∧ F = F1 ∧ r = costs M i 1)) args s (kRm 3 0 0).cells (kRm 3 0 0).slots (kA L sz)) (F0 m 4 ls []) := by
    intro n
    induction n with
    | zero => intro j x h1 h2; exact absurd h1 (by omega)
    | succ n ih =>
      intro j x h1 h2 hxj H locs ls hX hl
      refine lv_iload_n hx hb dX2_costNow_4 rfl (lv_at hl 1 rfl) ?_
      refine lv_aload_n hx hb dX2_costNow_5 rfl (lv_at hl 2 rfl) ?_
      refine k_get hM hE hX (hR.2.1 i hi).1 (hR.2.1 i hi).2.2 rfl 4 (by decide) inX2 k_528 (fun _ h => h) rfl dX2_costNow_6 ?_
      refine k_goi (k_V (n := 0) (As := []) (rest := [.int (nI j)]) hM hE hX hl (c_size l (hR.2.2.2.2.2.2.2.2.1 i hi)) ml0 el0 rfl k_243 k_221 k_222 k_4 k_223 ⟨rfl, by decide, by decide, by decide +kernel⟩ (by decide) rfl rfl (Nat.le_of_ble_eq_true rfl) dX2_costNow_9 (by decide)) hE hX (fun r L1 F1 H locs hp hX => ?_)
      obtain ⟨rfl, rfl, rfl⟩ := hp
      refine lv_icmp_ge (tgt := 38) hx hb dX2_costNow_12 (by decide) (fun c_1 => ?_) (fun c_1 => ?_)
      · have ej : j = kk M i := by
          have h9 := lp_out (a := j) (b := kk M i) (by omega) (by omega) c_1
          omega
        refine lv_iload_n hx hb dX2_costNow_38 rfl (lv_at hl 0 rfl) ?_
        exact k_iret hM hsz hX ⟨_, rfl, rfl, rfl, by rw [hxj, ej]; rfl⟩ (by decide) (by decide) dX2_costNow_39
      · have hj : j < kk M i := by
          have h9 := lp_in (a := j) (b := kk M i) (by omega) (by omega) c_1
          omega
        refine lv_iload_n hx hb dX2_costNow_15 rfl (lv_at hl 0 rfl) ?_
        refine lv_aload_n hx hb dX2_costNow_16 rfl (lv_at hl 2 rfl) ?_
        refine k_get hM hE hX (hR.2.1 i hi).1 (hR.2.1 i hi).2.2 rfl 4 (by decide) inX2 k_528 (fun _ h => h) rfl dX2_costNow_17 ?_
        refine lv_iload_n hx hb dX2_costNow_20 rfl (lv_at hl 1 rfl) ?_
        refine k_gor (k_V (n := 1) (As := [.int (nI j)]) (rest := [.int x]) hM hE hX hl (c_get l (hR.2.2.2.2.2.2.2.2.1 i hi) j hj) ml0 el0 rfl k_244 k_225 k_226 k_4 k_227 ⟨rfl, by decide, by decide, by decide +kernel⟩ (by decide) rfl rfl (Nat.le_of_ble_eq_true rfl) dX2_costNow_21 (by decide)) hE hX (fun r L1 F1 H locs hp hX => ?_)
        obtain ⟨rfl, rfl, rfl⟩ := hp
        refine k_cast hM hE hX (hR.2.2.1 i hi j hj).1 (hR.2.2.1 i hi j hj).2.2 rfl k_245 dX2_costNow_24 ?_
        refine k_goi (k_V (n := 0) (As := []) (rest := [.int x]) hM hE hX hl (c_X3_costNow l γ L F o ad tg M nd D hR hI i j hi hj) (hR.2.2.1 i hi j hj).1 (hR.2.2.1 i hi j hj).2.2 rfl k_246 k_247 k_248 k_19 k_249 ⟨rfl, by decide, by decide, by decide +kernel⟩ (by decide) rfl rfl (Nat.le_of_ble_eq_true rfl) dX2_costNow_27 (by decide)) hE hX (fun r L1 F1 H locs hp hX => ?_)
        obtain ⟨rfl, rfl, rfl⟩ := hp
        refine lv_iadd hx hb dX2_costNow_30 ?_
        refine lv_istore_n (lv' := [(1, .int (x + (M 14 (3 * i + j) + tx (M 14 (3 * i + j)) (M 16 (3 * i + j))))), (2, .int (nI j)), (0, .ref (ad 1 i 0))]) hx hb dX2_costNow_31 rfl hl (by decide) rfl (fun ls hl => ?_)
        refine lv_iinc (v := (nI (j + 1))) (lv' := [(2, .int (nI (j + 1))), (1, .int (x + (M 14 (3 * i + j) + tx (M 14 (3 * i + j)) (M 16 (3 * i + j))))), (0, .ref (ad 1 i 0))]) hx hb dX2_costNow_32 hl (k := 1) rfl (nI_1 _) (by decide) rfl (fun ls hl => ?_)
        refine lv_goto (tgt := 4) hx hb dX2_costNow_35 (by decide) ?_
        exact ih (j + 1) _ (by omega) (by omega) (show (x + (M 14 (3 * i + j) + tx (M 14 (3 * i + j)) (M 16 (3 * i + j)))) = l_fold (costs_st M i 1) 0 (j + 1) from by rw [l_fold, ← hxj]; exact (if_neg (by decide)).symm) _ _ _ hX (lv_sub hl [1, 0, 2] rfl)
  refine lv_iconst (v := 0) hx hb dX2_costNow_0 (by decide) ?_
  refine lv_istore_n (lv' := [(1, .int 0), (0, .ref (ad 1 i 0))]) hx hb dX2_costNow_1 rfl hl (by decide) rfl (fun ls hl => ?_)
  refine lv_iconst (v := 0) hx hb dX2_costNow_2 (by decide) ?_
  refine lv_istore_n (lv' := [(2, .int 0), (1, .int 0), (0, .ref (ad 1 i 0))]) hx hb dX2_costNow_3 rfl hl (by decide) rfl (fun ls hl => ?_)
  exact hloop (kk M i + 1) 0 _ (by omega) (Nat.zero_le _) rfl _ _ _ hX (lv_sub hl [1, 0, 2] rfl)
set_option maxHeartbeats 4000000 in
set_option maxRecDepth 100000 in
theorem c_X2_taxNow (l : Launch) (γ : kG) (L : List Nat) (F : kF) (o : Nat) (ad : cAd) (tg : cTg) (M : mM) (nd : Nat) (D : cD) (hR : RepC γ L F o ad tg M nd D) (hI : Inv M nd D) (i : Nat) (hi : i < nn M) : kC l yX2_taxNow cX2_taxNow 3 (some .int) (kRm 3 0 0) γ L F [.ref (ad 1 i 0)] (kI fun r L1 F1 => L = L1 ∧ F = F1 ∧ r = taxAll M i 0) := by
  refine kC_of (by decide +kernel) (Nat.le_of_ble_eq_true rfl) ?_
  intro p e s m args below meth c sz ls hargs hsz hM hin hE hX hl
  have hx := hM.1
  have hb := hM.2.1
  have hl : lv_has ls 3 [(0, .ref (ad 1 i 0))] := hl
  obtain ⟨ml0, mc0, e0, el0⟩ := Lst.recv (hR.2.2.2.2.2.2.2.2.1 i hi)
  have hk := hI.2.1 i hi
  have hk2 := hk.2
  have hloop : ∀ (n j : Nat) (x : Int32), kk M i < j + n → j ≤ kk M i → x = l_fold (taxAll_st M i 0) 0 j → ∀ (H : Heap) (locs : List Loc) (ls : Array Slot), kX γ (kA L sz) s L F H locs → lv_has ls 3 [(1, .int x), (2, .int (nI j)), (0, .ref (ad 1 i 0))] → W p l e (kRm 3 0 0) s m args below meth c H locs 0 0 (MQ below (kQ γ L sz (kI fun r L1 F1 => L = L1 ∧ F = F1 ∧ r = taxAll M i 0)) args s (kRm 3 0 0).cells (kRm 3 0 0).slots (kA L sz)) (F0 m 4 ls []) := by
    intro n
    induction n with
    | zero => intro j x h1 h2; exact absurd h1 (by omega)
    | succ n ih =>
      intro j x h1 h2 hxj H locs ls hX hl
      refine lv_iload_n hx hb dX2_taxNow_4 rfl (lv_at hl 1 rfl) ?_
      refine lv_aload_n hx hb dX2_taxNow_5 rfl (lv_at hl 2 rfl) ?_
      refine k_get hM hE hX (hR.2.1 i hi).1 (hR.2.1 i hi).2.2 rfl 4 (by decide) inX2 k_528 (fun _ h => h) rfl dX2_taxNow_6 ?_
      refine k_goi (k_V (n := 0) (As := []) (rest := [.int (nI j)]) hM hE hX hl (c_size l (hR.2.2.2.2.2.2.2.2.1 i hi)) ml0 el0 rfl k_243 k_221 k_222 k_4 k_223 ⟨rfl, by decide, by decide, by decide +kernel⟩ (by decide) rfl rfl (Nat.le_of_ble_eq_true rfl) dX2_taxNow_9 (by decide)) hE hX (fun r L1 F1 H locs hp hX => ?_)
      obtain ⟨rfl, rfl, rfl⟩ := hp
      refine lv_icmp_ge (tgt := 38) hx hb dX2_taxNow_12 (by decide) (fun c_1 => ?_) (fun c_1 => ?_)
      · have ej : j = kk M i := by
          have h9 := lp_out (a := j) (b := kk M i) (by omega) (by omega) c_1
          omega
        refine lv_iload_n hx hb dX2_taxNow_38 rfl (lv_at hl 0 rfl) ?_
        exact k_iret hM hsz hX ⟨_, rfl, rfl, rfl, by rw [hxj, ej]; rfl⟩ (by decide) (by decide) dX2_taxNow_39
      · have hj : j < kk M i := by
          have h9 := lp_in (a := j) (b := kk M i) (by omega) (by omega) c_1
          omega
        refine lv_iload_n hx hb dX2_taxNow_15 rfl (lv_at hl 0 rfl) ?_
        refine lv_aload_n hx hb dX2_taxNow_16 rfl (lv_at hl 2 rfl) ?_
        refine k_get hM hE hX (hR.2.1 i hi).1 (hR.2.1 i hi).2.2 rfl 4 (by decide) inX2 k_528 (fun _ h => h) rfl dX2_taxNow_17 ?_
        refine lv_iload_n hx hb dX2_taxNow_20 rfl (lv_at hl 1 rfl) ?_
        refine k_gor (k_V (n := 1) (As := [.int (nI j)]) (rest := [.int x]) hM hE hX hl (c_get l (hR.2.2.2.2.2.2.2.2.1 i hi) j hj) ml0 el0 rfl k_244 k_225 k_226 k_4 k_227 ⟨rfl, by decide, by decide, by decide +kernel⟩ (by decide) rfl rfl (Nat.le_of_ble_eq_true rfl) dX2_taxNow_21 (by decide)) hE hX (fun r L1 F1 H locs hp hX => ?_)
        obtain ⟨rfl, rfl, rfl⟩ := hp
        refine k_cast hM hE hX (hR.2.2.1 i hi j hj).1 (hR.2.2.1 i hi j hj).2.2 rfl k_245 dX2_taxNow_24 ?_
        refine k_goi (k_V (n := 0) (As := []) (rest := [.int x]) hM hE hX hl (c_X3_taxNow l γ L F o ad tg M nd D hR hI i j hi hj) (hR.2.2.1 i hi j hj).1 (hR.2.2.1 i hi j hj).2.2 rfl k_399 k_251 k_252 k_19 k_253 ⟨rfl, by decide, by decide, by decide +kernel⟩ (by decide) rfl rfl (Nat.le_of_ble_eq_true rfl) dX2_taxNow_27 (by decide)) hE hX (fun r L1 F1 H locs hp hX => ?_)
        obtain ⟨rfl, rfl, rfl⟩ := hp
        refine lv_iadd hx hb dX2_taxNow_30 ?_
        refine lv_istore_n (lv' := [(1, .int (x + (tx (M 14 (3 * i + j)) (M 16 (3 * i + j))))), (2, .int (nI j)), (0, .ref (ad 1 i 0))]) hx hb dX2_taxNow_31 rfl hl (by decide) rfl (fun ls hl => ?_)
        refine lv_iinc (v := (nI (j + 1))) (lv' := [(2, .int (nI (j + 1))), (1, .int (x + (tx (M 14 (3 * i + j)) (M 16 (3 * i + j))))), (0, .ref (ad 1 i 0))]) hx hb dX2_taxNow_32 hl (k := 1) rfl (nI_1 _) (by decide) rfl (fun ls hl => ?_)
        refine lv_goto (tgt := 4) hx hb dX2_taxNow_35 (by decide) ?_
        exact ih (j + 1) _ (by omega) (by omega) (show (x + (tx (M 14 (3 * i + j)) (M 16 (3 * i + j)))) = l_fold (taxAll_st M i 0) 0 (j + 1) from by rw [l_fold, ← hxj]; exact (if_pos rfl).symm) _ _ _ hX (lv_sub hl [1, 0, 2] rfl)
  refine lv_iconst (v := 0) hx hb dX2_taxNow_0 (by decide) ?_
  refine lv_istore_n (lv' := [(1, .int 0), (0, .ref (ad 1 i 0))]) hx hb dX2_taxNow_1 rfl hl (by decide) rfl (fun ls hl => ?_)
  refine lv_iconst (v := 0) hx hb dX2_taxNow_2 (by decide) ?_
  refine lv_istore_n (lv' := [(2, .int 0), (1, .int 0), (0, .ref (ad 1 i 0))]) hx hb dX2_taxNow_3 rfl hl (by decide) rfl (fun ls hl => ?_)
  exact hloop (kk M i + 1) 0 _ (by omega) (Nat.zero_le _) rfl _ _ _ hX (lv_sub hl [1, 0, 2] rfl)
set_option maxHeartbeats 4000000 in
set_option maxRecDepth 100000 in
theorem c_X2_taxAsMade (l : Launch) (γ : kG) (L : List Nat) (F : kF) (o : Nat) (ad : cAd) (tg : cTg) (M : mM) (nd : Nat) (D : cD) (hR : RepC γ L F o ad tg M nd D) (hI : Inv M nd D) (i : Nat) (hi : i < nn M) : kC l yX2_taxAsMade cX2_taxAsMade 3 (some .int) (kRm 3 0 0) γ L F [.ref (ad 1 i 0)] (kI fun r L1 F1 => L = L1 ∧ F = F1 ∧ r = taxAll M i 1) := by
  refine kC_of (by decide +kernel) (Nat.le_of_ble_eq_true rfl) ?_
  intro p e s m args below meth c sz ls hargs hsz hM hin hE hX hl
  have hx := hM.1
  have hb := hM.2.1
  have hl : lv_has ls 3 [(0, .ref (ad 1 i 0))] := hl
  obtain ⟨ml0, mc0, e0, el0⟩ := Lst.recv (hR.2.2.2.2.2.2.2.2.1 i hi)
  have hk := hI.2.1 i hi
  have hk2 := hk.2
  have hloop : ∀ (n j : Nat) (x : Int32), kk M i < j + n → j ≤ kk M i → x = l_fold (taxAll_st M i 1) 0 j → ∀ (H : Heap) (locs : List Loc) (ls : Array Slot), kX γ (kA L sz) s L F H locs → lv_has ls 3 [(1, .int x), (2, .int (nI j)), (0, .ref (ad 1 i 0))] → W p l e (kRm 3 0 0) s m args below meth c H locs 0 0 (MQ below (kQ γ L sz (kI fun r L1 F1 => L = L1 ∧ F = F1 ∧ r = taxAll M i 1)) args s (kRm 3 0 0).cells (kRm 3 0 0).slots (kA L sz)) (F0 m 4 ls []) := by
    intro n
    induction n with
    | zero => intro j x h1 h2; exact absurd h1 (by omega)
    | succ n ih =>
      intro j x h1 h2 hxj H locs ls hX hl
      refine lv_iload_n hx hb dX2_taxAsMade_4 rfl (lv_at hl 1 rfl) ?_
      refine lv_aload_n hx hb dX2_taxAsMade_5 rfl (lv_at hl 2 rfl) ?_
      refine k_get hM hE hX (hR.2.1 i hi).1 (hR.2.1 i hi).2.2 rfl 4 (by decide) inX2 k_528 (fun _ h => h) rfl dX2_taxAsMade_6 ?_
      refine k_goi (k_V (n := 0) (As := []) (rest := [.int (nI j)]) hM hE hX hl (c_size l (hR.2.2.2.2.2.2.2.2.1 i hi)) ml0 el0 rfl k_243 k_221 k_222 k_4 k_223 ⟨rfl, by decide, by decide, by decide +kernel⟩ (by decide) rfl rfl (Nat.le_of_ble_eq_true rfl) dX2_taxAsMade_9 (by decide)) hE hX (fun r L1 F1 H locs hp hX => ?_)
      obtain ⟨rfl, rfl, rfl⟩ := hp
      refine lv_icmp_ge (tgt := 38) hx hb dX2_taxAsMade_12 (by decide) (fun c_1 => ?_) (fun c_1 => ?_)
      · have ej : j = kk M i := by
          have h9 := lp_out (a := j) (b := kk M i) (by omega) (by omega) c_1
          omega
        refine lv_iload_n hx hb dX2_taxAsMade_38 rfl (lv_at hl 0 rfl) ?_
        exact k_iret hM hsz hX ⟨_, rfl, rfl, rfl, by rw [hxj, ej]; rfl⟩ (by decide) (by decide) dX2_taxAsMade_39
      · have hj : j < kk M i := by
          have h9 := lp_in (a := j) (b := kk M i) (by omega) (by omega) c_1
          omega
        refine lv_iload_n hx hb dX2_taxAsMade_15 rfl (lv_at hl 0 rfl) ?_
        refine lv_aload_n hx hb dX2_taxAsMade_16 rfl (lv_at hl 2 rfl) ?_
        refine k_get hM hE hX (hR.2.1 i hi).1 (hR.2.1 i hi).2.2 rfl 4 (by decide) inX2 k_528 (fun _ h => h) rfl dX2_taxAsMade_17 ?_
        refine lv_iload_n hx hb dX2_taxAsMade_20 rfl (lv_at hl 1 rfl) ?_
        refine k_gor (k_V (n := 1) (As := [.int (nI j)]) (rest := [.int x]) hM hE hX hl (c_get l (hR.2.2.2.2.2.2.2.2.1 i hi) j hj) ml0 el0 rfl k_244 k_225 k_226 k_4 k_227 ⟨rfl, by decide, by decide, by decide +kernel⟩ (by decide) rfl rfl (Nat.le_of_ble_eq_true rfl) dX2_taxAsMade_21 (by decide)) hE hX (fun r L1 F1 H locs hp hX => ?_)
        obtain ⟨rfl, rfl, rfl⟩ := hp
        refine k_cast hM hE hX (hR.2.2.1 i hi j hj).1 (hR.2.2.1 i hi j hj).2.2 rfl k_245 dX2_taxAsMade_24 ?_
        refine k_goi (k_V (n := 0) (As := []) (rest := [.int x]) hM hE hX hl (c_X3_taxAsMade l γ L F o ad tg M nd D hR hI i j hi hj) (hR.2.2.1 i hi j hj).1 (hR.2.2.1 i hi j hj).2.2 rfl k_455 k_456 k_457 k_19 k_458 ⟨rfl, by decide, by decide, by decide +kernel⟩ (by decide) rfl rfl (Nat.le_of_ble_eq_true rfl) dX2_taxAsMade_27 (by decide)) hE hX (fun r L1 F1 H locs hp hX => ?_)
        obtain ⟨rfl, rfl, rfl⟩ := hp
        refine lv_iadd hx hb dX2_taxAsMade_30 ?_
        refine lv_istore_n (lv' := [(1, .int (x + (tx (M 15 (3 * i + j)) (M 16 (3 * i + j))))), (2, .int (nI j)), (0, .ref (ad 1 i 0))]) hx hb dX2_taxAsMade_31 rfl hl (by decide) rfl (fun ls hl => ?_)
        refine lv_iinc (v := (nI (j + 1))) (lv' := [(2, .int (nI (j + 1))), (1, .int (x + (tx (M 15 (3 * i + j)) (M 16 (3 * i + j))))), (0, .ref (ad 1 i 0))]) hx hb dX2_taxAsMade_32 hl (k := 1) rfl (nI_1 _) (by decide) rfl (fun ls hl => ?_)
        refine lv_goto (tgt := 4) hx hb dX2_taxAsMade_35 (by decide) ?_
        exact ih (j + 1) _ (by omega) (by omega) (show (x + (tx (M 15 (3 * i + j)) (M 16 (3 * i + j)))) = l_fold (taxAll_st M i 1) 0 (j + 1) from by rw [l_fold, ← hxj]; exact (if_neg (by decide)).symm) _ _ _ hX (lv_sub hl [1, 0, 2] rfl)
  refine lv_iconst (v := 0) hx hb dX2_taxAsMade_0 (by decide) ?_
  refine lv_istore_n (lv' := [(1, .int 0), (0, .ref (ad 1 i 0))]) hx hb dX2_taxAsMade_1 rfl hl (by decide) rfl (fun ls hl => ?_)
  refine lv_iconst (v := 0) hx hb dX2_taxAsMade_2 (by decide) ?_
  refine lv_istore_n (lv' := [(2, .int 0), (1, .int 0), (0, .ref (ad 1 i 0))]) hx hb dX2_taxAsMade_3 rfl hl (by decide) rfl (fun ls hl => ?_)
  exact hloop (kk M i + 1) 0 _ (by omega) (Nat.zero_le _) rfl _ _ _ hX (lv_sub hl [1, 0, 2] rfl)
set_option maxHeartbeats 4000000 in
set_option maxRecDepth 100000 in
theorem c_X2_owedNow (l : Launch) (γ : kG) (L : List Nat) (F : kF) (o : Nat) (ad : cAd) (tg : cTg) (M : mM) (nd : Nat) (D : cD) (hR : RepC γ L F o ad tg M nd D) (hI : Inv M nd D) (i : Nat) (hi : i < nn M) : kC l yX2_owedNow cX2_owedNow 4 (some .int) (kRm 3 0 0) γ L F [.ref (ad 1 i 0)] (kI fun r L1 F1 => L = L1 ∧ F = F1 ∧ r = owed M i) := by
  refine kC_of (by decide +kernel) (Nat.le_of_ble_eq_true rfl) ?_
  intro p e s m args below meth c sz ls hargs hsz hM hin hE hX hl
  have hx := hM.1
  have hb := hM.2.1
  have hl : lv_has ls 4 [(0, .ref (ad 1 i 0))] := hl
  obtain ⟨ml0, mc0, e0, el0⟩ := Lst.recv (hR.2.2.2.2.2.2.2.2.1 i hi)
  have hk := hI.2.1 i hi
  have hk2 := hk.2
  have hloop : M 6 i = 1 → ∀ (n j : Nat) (x : Int32), kk M i < j + n → j ≤ kk M i → x = l_fold (costs_st M i 0) 0 j → ∀ (H : Heap) (locs : List Loc) (ls : Array Slot), kX γ (kA L sz) s L F H locs → lv_has ls 4 [(1, .int x), (2, .int (nI j)), (0, .ref (ad 1 i 0))] → W p l e (kRm 3 0 0) s m args below meth c H locs 0 0 (MQ below (kQ γ L sz (kI fun r L1 F1 => L = L1 ∧ F = F1 ∧ r = owed M i)) args s (kRm 3 0 0).cells (kRm 3 0 0).slots (kA L sz)) (F0 m 14 ls []) := by
    intro h6 n
    induction n with
    | zero => intro j x h1 h2; exact absurd h1 (by omega)
    | succ n ih =>
      intro j x h1 h2 hxj H locs ls hX hl
      refine lv_iload_n hx hb dX2_owedNow_14 rfl (lv_at hl 1 rfl) ?_
      refine lv_aload_n hx hb dX2_owedNow_15 rfl (lv_at hl 2 rfl) ?_
      refine k_get hM hE hX (hR.2.1 i hi).1 (hR.2.1 i hi).2.2 rfl 4 (by decide) inX2 k_528 (fun _ h => h) rfl dX2_owedNow_16 ?_
      refine k_goi (k_V (n := 0) (As := []) (rest := [.int (nI j)]) hM hE hX hl (c_size l (hR.2.2.2.2.2.2.2.2.1 i hi)) ml0 el0 rfl k_243 k_221 k_222 k_4 k_223 ⟨rfl, by decide, by decide, by decide +kernel⟩ (by decide) rfl rfl (Nat.le_of_ble_eq_true rfl) dX2_owedNow_19 (by decide)) hE hX (fun r L1 F1 H locs hp hX => ?_)
      obtain ⟨rfl, rfl, rfl⟩ := hp
      refine lv_icmp_ge (tgt := 61) hx hb dX2_owedNow_22 (by decide) (fun c_1 => ?_) (fun c_1 => ?_)
      · have ej : j = kk M i := by
          have h9 := lp_out (a := j) (b := kk M i) (by omega) (by omega) c_1
          omega
        refine lv_iload_n hx hb dX2_owedNow_61 rfl (lv_at hl 0 rfl) ?_
        refine lv_aload_n hx hb dX2_owedNow_62 rfl (lv_at hl 2 rfl) ?_
        refine k_get hM hE hX (hR.2.1 i hi).1 (hR.2.1 i hi).2.2 rfl 8 (by decide) inX2 k_537 (fun _ h => h) rfl dX2_owedNow_63 ?_
        refine lv_isub hx hb dX2_owedNow_66 ?_
        refine lv_iconst (v := 0) hx hb dX2_owedNow_67 (by decide) ?_
        refine k_max hM hl k_257 k_258 k_15 k_259 ⟨by decide, Nat.le_of_ble_eq_true rfl⟩ (by decide) dX2_owedNow_68 ?_
        exact k_iret hM hsz hX ⟨_, rfl, rfl, rfl, by rw [mx0, hxj, ej]; exact (if_pos h6).symm⟩ (by decide) (by decide) dX2_owedNow_71
      · have hj : j < kk M i := by
          have h9 := lp_in (a := j) (b := kk M i) (by omega) (by omega) c_1
          omega
        refine lv_aload_n hx hb dX2_owedNow_25 rfl (lv_at hl 2 rfl) ?_
        refine k_get hM hE hX (hR.2.1 i hi).1 (hR.2.1 i hi).2.2 rfl 4 (by decide) inX2 k_528 (fun _ h => h) rfl dX2_owedNow_26 ?_
        refine lv_iload_n hx hb dX2_owedNow_29 rfl (lv_at hl 1 rfl) ?_
        refine k_gor (k_V (n := 1) (As := [.int (nI j)]) (rest := []) hM hE hX hl (c_get l (hR.2.2.2.2.2.2.2.2.1 i hi) j hj) ml0 el0 rfl k_244 k_225 k_226 k_4 k_227 ⟨rfl, by decide, by decide, by decide +kernel⟩ (by decide) rfl rfl (Nat.le_of_ble_eq_true rfl) dX2_owedNow_30 (by decide)) hE hX (fun r L1 F1 H locs hp hX => ?_)
        obtain ⟨rfl, rfl, rfl⟩ := hp
        refine k_cast hM hE hX (hR.2.2.1 i hi j hj).1 (hR.2.2.1 i hi j hj).2.2 rfl k_245 dX2_owedNow_33 ?_
        refine lv_astore_n (lv' := [(3, .ref (ad 2 i j)), (1, .int x), (2, .int (nI j)), (0, .ref (ad 1 i 0))]) hx hb dX2_owedNow_36 rfl hl (by decide) rfl (fun ls hl => ?_)
        refine lv_iload_n hx hb dX2_owedNow_37 rfl (lv_at hl 1 rfl) ?_
        refine lv_aload_n hx hb dX2_owedNow_38 rfl (lv_at hl 0 rfl) ?_
        refine k_get hM hE hX (hR.2.2.1 i hi j hj).1 (hR.2.2.1 i hi j hj).2.2 rfl 3 (by decide) inX3 k_582 (fun _ h => h) rfl dX2_owedNow_39 ?_
        refine lv_if_eq (tgt := 49) hx hb dX2_owedNow_42 (by decide) (fun c_2 => ?_) (fun c_2 => ?_)
        · refine lv_aload_n hx hb dX2_owedNow_49 rfl (lv_at hl 0 rfl) ?_
          refine k_goi (k_V (n := 0) (As := []) (rest := [.int x]) hM hE hX hl (c_X3_costNow l γ L F o ad tg M nd D hR hI i j hi hj) (hR.2.2.1 i hi j hj).1 (hR.2.2.1 i hi j hj).2.2 rfl k_246 k_247 k_248 k_19 k_249 ⟨rfl, by decide, by decide, by decide +kernel⟩ (by decide) rfl rfl (Nat.le_of_ble_eq_true rfl) dX2_owedNow_50 (by decide)) hE hX (fun r L1 F1 H locs hp hX => ?_)
          obtain ⟨rfl, rfl, rfl⟩ := hp
          refine lv_iadd hx hb dX2_owedNow_53 ?_
          refine lv_istore_n (lv' := [(1, .int (x + (M 14 (3 * i + j) + tx (M 14 (3 * i + j)) (M 16 (3 * i + j))))), (3, .ref (ad 2 i j)), (2, .int (nI j)), (0, .ref (ad 1 i 0))]) hx hb dX2_owedNow_54 rfl hl (by decide) rfl (fun ls hl => ?_)
          refine lv_iinc (v := (nI (j + 1))) (lv' := [(2, .int (nI (j + 1))), (1, .int (x + (M 14 (3 * i + j) + tx (M 14 (3 * i + j)) (M 16 (3 * i + j))))), (3, .ref (ad 2 i j)), (0, .ref (ad 1 i 0))]) hx hb dX2_owedNow_55 hl (k := 2) rfl (nI_1 _) (by decide) rfl (fun ls hl => ?_)
          refine lv_goto (tgt := 14) hx hb dX2_owedNow_58 (by decide) ?_
          exact ih (j + 1) _ (by omega) (by omega) (show (x + (M 14 (3 * i + j) + tx (M 14 (3 * i + j)) (M 16 (3 * i + j)))) = l_fold (costs_st M i 0) 0 (j + 1) from by rw [l_fold, ← hxj]; exact ((if_pos rfl).trans (if_pos c_2)).symm) _ _ _ hX (lv_sub hl [1, 0, 3] rfl)
        · refine lv_iconst (v := 0) hx hb dX2_owedNow_45 (by decide) ?_
          refine lv_goto (tgt := 53) hx hb dX2_owedNow_46 (by decide) ?_
          refine lv_iadd hx hb dX2_owedNow_53 ?_
          refine lv_istore_n (lv' := [(1, .int (x + 0)), (3, .ref (ad 2 i j)), (2, .int (nI j)), (0, .ref (ad 1 i 0))]) hx hb dX2_owedNow_54 rfl hl (by decide) rfl (fun ls hl => ?_)
          refine lv_iinc (v := (nI (j + 1))) (lv' := [(2, .int (nI (j + 1))), (1, .int (x + 0)), (3, .ref (ad 2 i j)), (0, .ref (ad 1 i 0))]) hx hb dX2_owedNow_55 hl (k := 2) rfl (nI_1 _) (by decide) rfl (fun ls hl => ?_)
          refine lv_goto (tgt := 14) hx hb dX2_owedNow_58 (by decide) ?_
          exact ih (j + 1) _ (by omega) (by omega) (show (x + 0) = l_fold (costs_st M i 0) 0 (j + 1) from by rw [l_fold, ← hxj]; exact ((if_pos rfl).trans (if_neg c_2)).symm) _ _ _ hX (lv_sub hl [1, 0, 3] rfl)
  refine lv_aload_n hx hb dX2_owedNow_0 rfl (lv_at hl 0 rfl) ?_
  refine k_get hM hE hX (hR.2.1 i hi).1 (hR.2.1 i hi).2.2 rfl 5 (by decide) inX2 k_530 (fun _ h => h) rfl dX2_owedNow_1 ?_
  refine lv_iconst (v := 1) hx hb dX2_owedNow_4 (by decide) ?_
  refine lv_icmp_eq (tgt := 10) hx hb dX2_owedNow_5 (by decide) (fun c_1 => ?_) (fun c_1 => ?_)
  · refine lv_iconst (v := 0) hx hb dX2_owedNow_10 (by decide) ?_
    refine lv_istore_n (lv' := [(1, .int 0), (0, .ref (ad 1 i 0))]) hx hb dX2_owedNow_11 rfl hl (by decide) rfl (fun ls hl => ?_)
    refine lv_iconst (v := 0) hx hb dX2_owedNow_12 (by decide) ?_
    refine lv_istore_n (lv' := [(2, .int 0), (1, .int 0), (0, .ref (ad 1 i 0))]) hx hb dX2_owedNow_13 rfl hl (by decide) rfl (fun ls hl => ?_)
    exact hloop c_1 (kk M i + 1) 0 _ (by omega) (Nat.zero_le _) rfl _ _ _ hX (lv_sub hl [1, 0, 2] rfl)
  · refine lv_iconst (v := 0) hx hb dX2_owedNow_8 (by decide) ?_
    exact k_iret hM hsz hX ⟨_, rfl, rfl, rfl, (if_neg c_1).symm⟩ (by decide) (by decide) dX2_owedNow_9
set_option maxHeartbeats 4000000 in
set_option maxRecDepth 100000 in
theorem c_X2_isAcceptedOf (l : Launch) (γ : kG) (L : List Nat) (F : kF) (o : Nat) (ad : cAd) (tg : cTg) (M : mM) (nd : Nat) (D : cD) (hR : RepC γ L F o ad tg M nd D) (hI : Inv M nd D) (i : Nat) (hi : i < nn M) (a : Int32) : kC l yX2_isAcceptedOf cX2_isAcceptedOf 2 (some .boolean) (kRm 0 0 0) γ L F [.ref (ad 1 i 0), .int a] (kI fun r L1 F1 => L = L1 ∧ F = F1 ∧ ((r = 1 ∧ M 6 i = 1 ∧ M 5 i = a) ∨ (r = 0 ∧ ¬ (M 6 i = 1 ∧ M 5 i = a)))) := by
  refine kC_of (by decide +kernel) (Nat.le_of_ble_eq_true rfl) ?_
  intro p e s m args below meth c sz ls hargs hsz hM hin hE hX hl
  have hx := hM.1
  have hb := hM.2.1
  have hl : lv_has ls 2 [(0, .ref (ad 1 i 0)), (1, .int a)] := hl
  refine lv_aload_n hx hb dX2_isAcceptedOf_0 rfl (lv_at hl 0 rfl) ?_
  refine k_get hM hE hX (hR.2.1 i hi).1 (hR.2.1 i hi).2.2 rfl 5 (by decide) inX2 k_530 (fun _ h => h) rfl dX2_isAcceptedOf_1 ?_
  refine lv_iconst (v := 1) hx hb dX2_isAcceptedOf_4 (by decide) ?_
  refine lv_icmp_ne (tgt := 20) hx hb dX2_isAcceptedOf_5 (by decide) (fun c_1 => ?_) (fun c_1 => ?_)
  · refine lv_iconst (v := 0) hx hb dX2_isAcceptedOf_20 (by decide) ?_
    exact k_zret hM rfl hsz hX ⟨_, rfl, rfl, rfl, Or.inr ⟨rfl, fun h => c_1 h.1⟩⟩ (by decide) (by decide) dX2_isAcceptedOf_21
  · refine lv_aload_n hx hb dX2_isAcceptedOf_8 rfl (lv_at hl 0 rfl) ?_
    refine k_get hM hE hX (hR.2.1 i hi).1 (hR.2.1 i hi).2.2 rfl 2 (by decide) inX2 k_524 (fun _ h => h) rfl dX2_isAcceptedOf_9 ?_
    refine lv_iload_n hx hb dX2_isAcceptedOf_12 rfl (lv_at hl 1 rfl) ?_
    refine lv_icmp_ne (tgt := 20) hx hb dX2_isAcceptedOf_13 (by decide) (fun c_2 => ?_) (fun c_2 => ?_)
    · refine lv_iconst (v := 0) hx hb dX2_isAcceptedOf_20 (by decide) ?_
      exact k_zret hM rfl hsz hX ⟨_, rfl, rfl, rfl, Or.inr ⟨rfl, fun h => c_2 h.2⟩⟩ (by decide) (by decide) dX2_isAcceptedOf_21
    · refine lv_iconst (v := 1) hx hb dX2_isAcceptedOf_16 (by decide) ?_
      refine lv_goto (tgt := 21) hx hb dX2_isAcceptedOf_17 (by decide) ?_
      exact k_zret hM rfl hsz hX ⟨_, rfl, rfl, rfl, Or.inl ⟨rfl, c_1, c_2⟩⟩ (by decide) (by decide) dX2_isAcceptedOf_21
def ctaxI (M : mM) (i : Nat) (a b : Int32) : Int32 := (if a = (M 3 i) then (if (M 6 i) = 2 then (if a = (M 4 i) then (if (M 6 i) = 1 then (if ((aDay M i) / 30) = b then (-(taxAll M i 1)) else 0) else 0) else 0) else (if ((M 7 i) / 30) = b then (taxAll M i 1) else (if a = (M 4 i) then (if (M 6 i) = 1 then (if ((aDay M i) / 30) = b then (-(taxAll M i 1)) else 0) else 0) else 0))) else (if a = (M 4 i) then (if (M 6 i) = 1 then (if ((aDay M i) / 30) = b then (-(taxAll M i 1)) else 0) else 0) else 0))
set_option maxHeartbeats 4000000 in
set_option maxRecDepth 100000 in
theorem c_X2_taxFor (l : Launch) (γ : kG) (L : List Nat) (F : kF) (o : Nat) (ad : cAd) (tg : cTg) (M : mM) (nd : Nat) (D : cD) (hR : RepC γ L F o ad tg M nd D) (hI : Inv M nd D) (i : Nat) (hi : i < nn M) (a b : Int32) : kC l yX2_taxFor cX2_taxFor 3 (some .int) (kRm 4 0 0) γ L F [.ref (ad 1 i 0), .int a, .int b] (kI fun r L1 F1 => L = L1 ∧ F = F1 ∧ r = ctaxI M i a b) := by
  refine kC_of (by decide +kernel) (Nat.le_of_ble_eq_true rfl) ?_
  intro p e s m args below meth c sz ls hargs hsz hM hin hE hX hl
  have hx := hM.1
  have hb := hM.2.1
  have hl : lv_has ls 3 [(0, .ref (ad 1 i 0)), (1, .int a), (2, .int b)] := hl
  refine lv_iload_n hx hb dX2_taxFor_0 rfl (lv_at hl 1 rfl) ?_
  refine lv_aload_n hx hb dX2_taxFor_1 rfl (lv_at hl 0 rfl) ?_
  refine k_get hM hE hX (hR.2.1 i hi).1 (hR.2.1 i hi).2.2 rfl 0 (by decide) inX2 k_518 (fun _ h => h) rfl dX2_taxFor_2 ?_
  refine lv_icmp_ne (tgt := 32) hx hb dX2_taxFor_5 (by decide) (fun c_1 => ?_) (fun c_1 => ?_)
  · refine lv_iload_n hx hb dX2_taxFor_32 rfl (lv_at hl 1 rfl) ?_
    refine lv_aload_n hx hb dX2_taxFor_33 rfl (lv_at hl 0 rfl) ?_
    refine k_get hM hE hX (hR.2.1 i hi).1 (hR.2.1 i hi).2.2 rfl 1 (by decide) inX2 k_521 (fun _ h => h) rfl dX2_taxFor_34 ?_
    refine lv_icmp_ne (tgt := 65) hx hb dX2_taxFor_37 (by decide) (fun c_2 => ?_) (fun c_2 => ?_)
    · refine lv_iconst (v := 0) hx hb dX2_taxFor_65 (by decide) ?_
      exact k_iret hM hsz hX ⟨_, rfl, rfl, rfl, (show ctaxI M i a b = _ from ((if_neg c_1).trans ((if_neg c_2).trans rfl))).symm⟩ (by decide) (by decide) dX2_taxFor_66
    · refine lv_aload_n hx hb dX2_taxFor_40 rfl (lv_at hl 0 rfl) ?_
      refine k_get hM hE hX (hR.2.1 i hi).1 (hR.2.1 i hi).2.2 rfl 5 (by decide) inX2 k_530 (fun _ h => h) rfl dX2_taxFor_41 ?_
      refine lv_iconst (v := 1) hx hb dX2_taxFor_44 (by decide) ?_
      refine lv_icmp_ne (tgt := 65) hx hb dX2_taxFor_45 (by decide) (fun c_3 => ?_) (fun c_3 => ?_)
      · refine lv_iconst (v := 0) hx hb dX2_taxFor_65 (by decide) ?_
        exact k_iret hM hsz hX ⟨_, rfl, rfl, rfl, (show ctaxI M i a b = _ from ((if_neg c_1).trans ((if_pos c_2).trans ((if_neg c_3).trans rfl)))).symm⟩ (by decide) (by decide) dX2_taxFor_66
      · refine lv_aload_n hx hb dX2_taxFor_48 rfl (lv_at hl 0 rfl) ?_
        refine k_get hM hE hX (hR.2.1 i hi).1 (hR.2.1 i hi).2.2 rfl 6 (by decide) inX2 k_533 (fun _ h => h) rfl dX2_taxFor_49 ?_
        refine k_goi (k_SN (n := 1) (As := [.int (aDay M i)]) (rest := []) hM hE hX hl (c_X4_monthOf l γ L F (aDay M i)) hE.2.1.2.2.2.2.1 k_377 k_1 k_378 ⟨by decide, by decide, by decide +kernel⟩ (by decide) rfl rfl (Nat.le_of_ble_eq_true rfl) dX2_taxFor_52 (by decide)) hE hX (fun r L1 F1 H locs hp hX => ?_)
        obtain ⟨rfl, rfl, rfl⟩ := hp
        refine lv_iload_n hx hb dX2_taxFor_55 rfl (lv_at hl 2 rfl) ?_
        refine lv_icmp_ne (tgt := 65) hx hb dX2_taxFor_56 (by decide) (fun c_4 => ?_) (fun c_4 => ?_)
        · refine lv_iconst (v := 0) hx hb dX2_taxFor_65 (by decide) ?_
          exact k_iret hM hsz hX ⟨_, rfl, rfl, rfl, (show ctaxI M i a b = _ from ((if_neg c_1).trans ((if_pos c_2).trans ((if_pos c_3).trans ((if_neg c_4).trans rfl))))).symm⟩ (by decide) (by decide) dX2_taxFor_66
        · refine lv_aload_n hx hb dX2_taxFor_59 rfl (lv_at hl 0 rfl) ?_
          refine k_goi (k_V (n := 0) (As := []) (rest := []) hM hE hX hl (c_X2_taxAsMade l γ L F o ad tg M nd D hR hI i hi) (hR.2.1 i hi).1 (hR.2.1 i hi).2.2 rfl k_451 k_452 k_453 k_18 k_454 ⟨rfl, by decide, by decide, by decide +kernel⟩ (by decide) rfl rfl (Nat.le_of_ble_eq_true rfl) dX2_taxFor_60 (by decide)) hE hX (fun r L1 F1 H locs hp hX => ?_)
          obtain ⟨rfl, rfl, rfl⟩ := hp
          refine lv_ineg hx hb dX2_taxFor_63 ?_
          exact k_iret hM hsz hX ⟨_, rfl, rfl, rfl, (show ctaxI M i a b = _ from ((if_neg c_1).trans ((if_pos c_2).trans ((if_pos c_3).trans ((if_pos c_4).trans rfl))))).symm⟩ (by decide) (by decide) dX2_taxFor_64
  · refine lv_aload_n hx hb dX2_taxFor_8 rfl (lv_at hl 0 rfl) ?_
    refine k_get hM hE hX (hR.2.1 i hi).1 (hR.2.1 i hi).2.2 rfl 5 (by decide) inX2 k_530 (fun _ h => h) rfl dX2_taxFor_9 ?_
    refine lv_iconst (v := 2) hx hb dX2_taxFor_12 (by decide) ?_
    refine lv_icmp_eq (tgt := 32) hx hb dX2_taxFor_13 (by decide) (fun c_5 => ?_) (fun c_5 => ?_)
    · refine lv_iload_n hx hb dX2_taxFor_32 rfl (lv_at hl 1 rfl) ?_
      refine lv_aload_n hx hb dX2_taxFor_33 rfl (lv_at hl 0 rfl) ?_
      refine k_get hM hE hX (hR.2.1 i hi).1 (hR.2.1 i hi).2.2 rfl 1 (by decide) inX2 k_521 (fun _ h => h) rfl dX2_taxFor_34 ?_
      refine lv_icmp_ne (tgt := 65) hx hb dX2_taxFor_37 (by decide) (fun c_6 => ?_) (fun c_6 => ?_)
      · refine lv_iconst (v := 0) hx hb dX2_taxFor_65 (by decide) ?_
        exact k_iret hM hsz hX ⟨_, rfl, rfl, rfl, (show ctaxI M i a b = _ from ((if_pos c_1).trans ((if_pos c_5).trans ((if_neg c_6).trans rfl)))).symm⟩ (by decide) (by decide) dX2_taxFor_66
      · refine lv_aload_n hx hb dX2_taxFor_40 rfl (lv_at hl 0 rfl) ?_
        refine k_get hM hE hX (hR.2.1 i hi).1 (hR.2.1 i hi).2.2 rfl 5 (by decide) inX2 k_530 (fun _ h => h) rfl dX2_taxFor_41 ?_
        refine lv_iconst (v := 1) hx hb dX2_taxFor_44 (by decide) ?_
        refine lv_icmp_ne (tgt := 65) hx hb dX2_taxFor_45 (by decide) (fun c_7 => ?_) (fun c_7 => ?_)
        · refine lv_iconst (v := 0) hx hb dX2_taxFor_65 (by decide) ?_
          exact k_iret hM hsz hX ⟨_, rfl, rfl, rfl, (show ctaxI M i a b = _ from ((if_pos c_1).trans ((if_pos c_5).trans ((if_pos c_6).trans ((if_neg c_7).trans rfl))))).symm⟩ (by decide) (by decide) dX2_taxFor_66
        · refine lv_aload_n hx hb dX2_taxFor_48 rfl (lv_at hl 0 rfl) ?_
          refine k_get hM hE hX (hR.2.1 i hi).1 (hR.2.1 i hi).2.2 rfl 6 (by decide) inX2 k_533 (fun _ h => h) rfl dX2_taxFor_49 ?_
          refine k_goi (k_SN (n := 1) (As := [.int (aDay M i)]) (rest := []) hM hE hX hl (c_X4_monthOf l γ L F (aDay M i)) hE.2.1.2.2.2.2.1 k_377 k_1 k_378 ⟨by decide, by decide, by decide +kernel⟩ (by decide) rfl rfl (Nat.le_of_ble_eq_true rfl) dX2_taxFor_52 (by decide)) hE hX (fun r L1 F1 H locs hp hX => ?_)
          obtain ⟨rfl, rfl, rfl⟩ := hp
          refine lv_iload_n hx hb dX2_taxFor_55 rfl (lv_at hl 2 rfl) ?_
          refine lv_icmp_ne (tgt := 65) hx hb dX2_taxFor_56 (by decide) (fun c_8 => ?_) (fun c_8 => ?_)
          · refine lv_iconst (v := 0) hx hb dX2_taxFor_65 (by decide) ?_
            exact k_iret hM hsz hX ⟨_, rfl, rfl, rfl, (show ctaxI M i a b = _ from ((if_pos c_1).trans ((if_pos c_5).trans ((if_pos c_6).trans ((if_pos c_7).trans ((if_neg c_8).trans rfl)))))).symm⟩ (by decide) (by decide) dX2_taxFor_66
          · refine lv_aload_n hx hb dX2_taxFor_59 rfl (lv_at hl 0 rfl) ?_
            refine k_goi (k_V (n := 0) (As := []) (rest := []) hM hE hX hl (c_X2_taxAsMade l γ L F o ad tg M nd D hR hI i hi) (hR.2.1 i hi).1 (hR.2.1 i hi).2.2 rfl k_451 k_452 k_453 k_18 k_454 ⟨rfl, by decide, by decide, by decide +kernel⟩ (by decide) rfl rfl (Nat.le_of_ble_eq_true rfl) dX2_taxFor_60 (by decide)) hE hX (fun r L1 F1 H locs hp hX => ?_)
            obtain ⟨rfl, rfl, rfl⟩ := hp
            refine lv_ineg hx hb dX2_taxFor_63 ?_
            exact k_iret hM hsz hX ⟨_, rfl, rfl, rfl, (show ctaxI M i a b = _ from ((if_pos c_1).trans ((if_pos c_5).trans ((if_pos c_6).trans ((if_pos c_7).trans ((if_pos c_8).trans rfl)))))).symm⟩ (by decide) (by decide) dX2_taxFor_64
    · refine lv_aload_n hx hb dX2_taxFor_16 rfl (lv_at hl 0 rfl) ?_
      refine k_get hM hE hX (hR.2.1 i hi).1 (hR.2.1 i hi).2.2 rfl 3 (by decide) inX2 k_526 (fun _ h => h) rfl dX2_taxFor_17 ?_
      refine k_goi (k_SN (n := 1) (As := [.int (M 7 i)]) (rest := []) hM hE hX hl (c_X4_monthOf l γ L F (M 7 i)) hE.2.1.2.2.2.2.1 k_377 k_1 k_378 ⟨by decide, by decide, by decide +kernel⟩ (by decide) rfl rfl (Nat.le_of_ble_eq_true rfl) dX2_taxFor_20 (by decide)) hE hX (fun r L1 F1 H locs hp hX => ?_)
      obtain ⟨rfl, rfl, rfl⟩ := hp
      refine lv_iload_n hx hb dX2_taxFor_23 rfl (lv_at hl 2 rfl) ?_
      refine lv_icmp_ne (tgt := 32) hx hb dX2_taxFor_24 (by decide) (fun c_9 => ?_) (fun c_9 => ?_)
      · refine lv_iload_n hx hb dX2_taxFor_32 rfl (lv_at hl 1 rfl) ?_
        refine lv_aload_n hx hb dX2_taxFor_33 rfl (lv_at hl 0 rfl) ?_
        refine k_get hM hE hX (hR.2.1 i hi).1 (hR.2.1 i hi).2.2 rfl 1 (by decide) inX2 k_521 (fun _ h => h) rfl dX2_taxFor_34 ?_
        refine lv_icmp_ne (tgt := 65) hx hb dX2_taxFor_37 (by decide) (fun c_10 => ?_) (fun c_10 => ?_)
        · refine lv_iconst (v := 0) hx hb dX2_taxFor_65 (by decide) ?_
          exact k_iret hM hsz hX ⟨_, rfl, rfl, rfl, (show ctaxI M i a b = _ from ((if_pos c_1).trans ((if_neg c_5).trans ((if_neg c_9).trans ((if_neg c_10).trans rfl))))).symm⟩ (by decide) (by decide) dX2_taxFor_66
        · refine lv_aload_n hx hb dX2_taxFor_40 rfl (lv_at hl 0 rfl) ?_
          refine k_get hM hE hX (hR.2.1 i hi).1 (hR.2.1 i hi).2.2 rfl 5 (by decide) inX2 k_530 (fun _ h => h) rfl dX2_taxFor_41 ?_
          refine lv_iconst (v := 1) hx hb dX2_taxFor_44 (by decide) ?_
          refine lv_icmp_ne (tgt := 65) hx hb dX2_taxFor_45 (by decide) (fun c_11 => ?_) (fun c_11 => ?_)
          · refine lv_iconst (v := 0) hx hb dX2_taxFor_65 (by decide) ?_
            exact k_iret hM hsz hX ⟨_, rfl, rfl, rfl, (show ctaxI M i a b = _ from ((if_pos c_1).trans ((if_neg c_5).trans ((if_neg c_9).trans ((if_pos c_10).trans ((if_neg c_11).trans rfl)))))).symm⟩ (by decide) (by decide) dX2_taxFor_66
          · refine lv_aload_n hx hb dX2_taxFor_48 rfl (lv_at hl 0 rfl) ?_
            refine k_get hM hE hX (hR.2.1 i hi).1 (hR.2.1 i hi).2.2 rfl 6 (by decide) inX2 k_533 (fun _ h => h) rfl dX2_taxFor_49 ?_
            refine k_goi (k_SN (n := 1) (As := [.int (aDay M i)]) (rest := []) hM hE hX hl (c_X4_monthOf l γ L F (aDay M i)) hE.2.1.2.2.2.2.1 k_377 k_1 k_378 ⟨by decide, by decide, by decide +kernel⟩ (by decide) rfl rfl (Nat.le_of_ble_eq_true rfl) dX2_taxFor_52 (by decide)) hE hX (fun r L1 F1 H locs hp hX => ?_)
            obtain ⟨rfl, rfl, rfl⟩ := hp
            refine lv_iload_n hx hb dX2_taxFor_55 rfl (lv_at hl 2 rfl) ?_
            refine lv_icmp_ne (tgt := 65) hx hb dX2_taxFor_56 (by decide) (fun c_12 => ?_) (fun c_12 => ?_)
            · refine lv_iconst (v := 0) hx hb dX2_taxFor_65 (by decide) ?_
              exact k_iret hM hsz hX ⟨_, rfl, rfl, rfl, (show ctaxI M i a b = _ from ((if_pos c_1).trans ((if_neg c_5).trans ((if_neg c_9).trans ((if_pos c_10).trans ((if_pos c_11).trans ((if_neg c_12).trans rfl))))))).symm⟩ (by decide) (by decide) dX2_taxFor_66
            · refine lv_aload_n hx hb dX2_taxFor_59 rfl (lv_at hl 0 rfl) ?_
              refine k_goi (k_V (n := 0) (As := []) (rest := []) hM hE hX hl (c_X2_taxAsMade l γ L F o ad tg M nd D hR hI i hi) (hR.2.1 i hi).1 (hR.2.1 i hi).2.2 rfl k_451 k_452 k_453 k_18 k_454 ⟨rfl, by decide, by decide, by decide +kernel⟩ (by decide) rfl rfl (Nat.le_of_ble_eq_true rfl) dX2_taxFor_60 (by decide)) hE hX (fun r L1 F1 H locs hp hX => ?_)
              obtain ⟨rfl, rfl, rfl⟩ := hp
              refine lv_ineg hx hb dX2_taxFor_63 ?_
              exact k_iret hM hsz hX ⟨_, rfl, rfl, rfl, (show ctaxI M i a b = _ from ((if_pos c_1).trans ((if_neg c_5).trans ((if_neg c_9).trans ((if_pos c_10).trans ((if_pos c_11).trans ((if_pos c_12).trans rfl))))))).symm⟩ (by decide) (by decide) dX2_taxFor_64
      · refine lv_aload_n hx hb dX2_taxFor_27 rfl (lv_at hl 0 rfl) ?_
        refine k_goi (k_V (n := 0) (As := []) (rest := []) hM hE hX hl (c_X2_taxAsMade l γ L F o ad tg M nd D hR hI i hi) (hR.2.1 i hi).1 (hR.2.1 i hi).2.2 rfl k_451 k_452 k_453 k_18 k_454 ⟨rfl, by decide, by decide, by decide +kernel⟩ (by decide) rfl rfl (Nat.le_of_ble_eq_true rfl) dX2_taxFor_28 (by decide)) hE hX (fun r L1 F1 H locs hp hX => ?_)
        obtain ⟨rfl, rfl, rfl⟩ := hp
        exact k_iret hM hsz hX ⟨_, rfl, rfl, rfl, (show ctaxI M i a b = _ from ((if_pos c_1).trans ((if_neg c_5).trans ((if_pos c_9).trans rfl)))).symm⟩ (by decide) (by decide) dX2_taxFor_31
def ctaxC (M : mM) (k : Nat) (a b : Int32) : Int32 := (if (M 20 k / 30) = b then (if a = (M 3 (kj (M 19 k))) then (if (M 6 (kj (M 19 k))) = 2 then (if a = (M 4 (kj (M 19 k))) then (if (M 6 (kj (M 19 k))) = 1 then (M 21 k) else 0) else 0) else (-(M 21 k))) else (if a = (M 4 (kj (M 19 k))) then (if (M 6 (kj (M 19 k))) = 1 then (M 21 k) else 0) else 0)) else 0)
set_option maxHeartbeats 4000000 in
set_option maxRecDepth 100000 in
theorem c_X0_taxFor (l : Launch) (γ : kG) (L : List Nat) (F : kF) (o : Nat) (ad : cAd) (tg : cTg) (M : mM) (nd : Nat) (D : cD) (hR : RepC γ L F o ad tg M nd D) (hI : Inv M nd D) (k : Nat) (hk : k < cc M) (a b : Int32) : kC l yX0_taxFor cX0_taxFor 3 (some .int) (kRm 0 0 0) γ L F [.ref (ad 3 k 0), .int a, .int b] (kI fun r L1 F1 => L = L1 ∧ F = F1 ∧ r = ctaxC M k a b) := by
  refine kC_of (by decide +kernel) (Nat.le_of_ble_eq_true rfl) ?_
  intro p e s m args below meth c sz ls hargs hsz hM hin hE hX hl
  have hx := hM.1
  have hb := hM.2.1
  have hl : lv_has ls 3 [(0, .ref (ad 3 k 0)), (1, .int a), (2, .int b)] := hl
  refine lv_aload_n hx hb dX0_taxFor_0 rfl (lv_at hl 0 rfl) ?_
  refine k_get hM hE hX (hR.2.2.2.1 k hk).1 (hR.2.2.2.1 k hk).2.2 rfl 1 (by decide) inX0 k_634 (fun _ h => h) rfl dX0_taxFor_1 ?_
  refine lv_iload_n hx hb dX0_taxFor_4 rfl (lv_at hl 2 rfl) ?_
  refine lv_icmp_eq (tgt := 10) hx hb dX0_taxFor_5 (by decide) (fun c_1 => ?_) (fun c_1 => ?_)
  · refine lv_iload_n hx hb dX0_taxFor_10 rfl (lv_at hl 1 rfl) ?_
    refine lv_aload_n hx hb dX0_taxFor_11 rfl (lv_at hl 0 rfl) ?_
    refine k_get hM hE hX (hR.2.2.2.1 k hk).1 (hR.2.2.2.1 k hk).2.2 rfl 0 (by decide) inX0 k_633 (fun _ h => h) rfl dX0_taxFor_12 ?_
    refine k_get hM hE hX (hR.2.1 (kj (M 19 k)) (hI.2.2.2.2.1 k hk).2).1 (hR.2.1 (kj (M 19 k)) (hI.2.2.2.2.1 k hk).2).2.2 rfl 0 (by decide) inX2 k_519 (fun _ h => h) rfl dX0_taxFor_15 ?_
    refine lv_icmp_ne (tgt := 38) hx hb dX0_taxFor_18 (by decide) (fun c_2 => ?_) (fun c_2 => ?_)
    · refine lv_iload_n hx hb dX0_taxFor_38 rfl (lv_at hl 1 rfl) ?_
      refine lv_aload_n hx hb dX0_taxFor_39 rfl (lv_at hl 0 rfl) ?_
      refine k_get hM hE hX (hR.2.2.2.1 k hk).1 (hR.2.2.2.1 k hk).2.2 rfl 0 (by decide) inX0 k_633 (fun _ h => h) rfl dX0_taxFor_40 ?_
      refine k_get hM hE hX (hR.2.1 (kj (M 19 k)) (hI.2.2.2.2.1 k hk).2).1 (hR.2.1 (kj (M 19 k)) (hI.2.2.2.2.1 k hk).2).2.2 rfl 1 (by decide) inX2 k_522 (fun _ h => h) rfl dX0_taxFor_43 ?_
      refine lv_icmp_ne (tgt := 65) hx hb dX0_taxFor_46 (by decide) (fun c_3 => ?_) (fun c_3 => ?_)
      · refine lv_iconst (v := 0) hx hb dX0_taxFor_65 (by decide) ?_
        exact k_iret hM hsz hX ⟨_, rfl, rfl, rfl, (show ctaxC M k a b = _ from ((if_pos c_1).trans ((if_neg c_2).trans ((if_neg c_3).trans rfl)))).symm⟩ (by decide) (by decide) dX0_taxFor_66
      · refine lv_aload_n hx hb dX0_taxFor_49 rfl (lv_at hl 0 rfl) ?_
        refine k_get hM hE hX (hR.2.2.2.1 k hk).1 (hR.2.2.2.1 k hk).2.2 rfl 0 (by decide) inX0 k_633 (fun _ h => h) rfl dX0_taxFor_50 ?_
        refine k_get hM hE hX (hR.2.1 (kj (M 19 k)) (hI.2.2.2.2.1 k hk).2).1 (hR.2.1 (kj (M 19 k)) (hI.2.2.2.2.1 k hk).2).2.2 rfl 5 (by decide) inX2 k_531 (fun _ h => h) rfl dX0_taxFor_53 ?_
        refine lv_iconst (v := 1) hx hb dX0_taxFor_56 (by decide) ?_
        refine lv_icmp_ne (tgt := 65) hx hb dX0_taxFor_57 (by decide) (fun c_4 => ?_) (fun c_4 => ?_)
        · refine lv_iconst (v := 0) hx hb dX0_taxFor_65 (by decide) ?_
          exact k_iret hM hsz hX ⟨_, rfl, rfl, rfl, (show ctaxC M k a b = _ from ((if_pos c_1).trans ((if_neg c_2).trans ((if_pos c_3).trans ((if_neg c_4).trans rfl))))).symm⟩ (by decide) (by decide) dX0_taxFor_66
        · refine lv_aload_n hx hb dX0_taxFor_60 rfl (lv_at hl 0 rfl) ?_
          refine k_get hM hE hX (hR.2.2.2.1 k hk).1 (hR.2.2.2.1 k hk).2.2 rfl 2 (by decide) inX0 k_635 (fun _ h => h) rfl dX0_taxFor_61 ?_
          exact k_iret hM hsz hX ⟨_, rfl, rfl, rfl, (show ctaxC M k a b = _ from ((if_pos c_1).trans ((if_neg c_2).trans ((if_pos c_3).trans ((if_pos c_4).trans rfl))))).symm⟩ (by decide) (by decide) dX0_taxFor_64
    · refine lv_aload_n hx hb dX0_taxFor_21 rfl (lv_at hl 0 rfl) ?_
      refine k_get hM hE hX (hR.2.2.2.1 k hk).1 (hR.2.2.2.1 k hk).2.2 rfl 0 (by decide) inX0 k_633 (fun _ h => h) rfl dX0_taxFor_22 ?_
      refine k_get hM hE hX (hR.2.1 (kj (M 19 k)) (hI.2.2.2.2.1 k hk).2).1 (hR.2.1 (kj (M 19 k)) (hI.2.2.2.2.1 k hk).2).2.2 rfl 5 (by decide) inX2 k_531 (fun _ h => h) rfl dX0_taxFor_25 ?_
      refine lv_iconst (v := 2) hx hb dX0_taxFor_28 (by decide) ?_
      refine lv_icmp_eq (tgt := 38) hx hb dX0_taxFor_29 (by decide) (fun c_5 => ?_) (fun c_5 => ?_)
      · refine lv_iload_n hx hb dX0_taxFor_38 rfl (lv_at hl 1 rfl) ?_
        refine lv_aload_n hx hb dX0_taxFor_39 rfl (lv_at hl 0 rfl) ?_
        refine k_get hM hE hX (hR.2.2.2.1 k hk).1 (hR.2.2.2.1 k hk).2.2 rfl 0 (by decide) inX0 k_633 (fun _ h => h) rfl dX0_taxFor_40 ?_
        refine k_get hM hE hX (hR.2.1 (kj (M 19 k)) (hI.2.2.2.2.1 k hk).2).1 (hR.2.1 (kj (M 19 k)) (hI.2.2.2.2.1 k hk).2).2.2 rfl 1 (by decide) inX2 k_522 (fun _ h => h) rfl dX0_taxFor_43 ?_
        refine lv_icmp_ne (tgt := 65) hx hb dX0_taxFor_46 (by decide) (fun c_6 => ?_) (fun c_6 => ?_)
        · refine lv_iconst (v := 0) hx hb dX0_taxFor_65 (by decide) ?_
          exact k_iret hM hsz hX ⟨_, rfl, rfl, rfl, (show ctaxC M k a b = _ from ((if_pos c_1).trans ((if_pos c_2).trans ((if_pos c_5).trans ((if_neg c_6).trans rfl))))).symm⟩ (by decide) (by decide) dX0_taxFor_66
        · refine lv_aload_n hx hb dX0_taxFor_49 rfl (lv_at hl 0 rfl) ?_
          refine k_get hM hE hX (hR.2.2.2.1 k hk).1 (hR.2.2.2.1 k hk).2.2 rfl 0 (by decide) inX0 k_633 (fun _ h => h) rfl dX0_taxFor_50 ?_
          refine k_get hM hE hX (hR.2.1 (kj (M 19 k)) (hI.2.2.2.2.1 k hk).2).1 (hR.2.1 (kj (M 19 k)) (hI.2.2.2.2.1 k hk).2).2.2 rfl 5 (by decide) inX2 k_531 (fun _ h => h) rfl dX0_taxFor_53 ?_
          refine lv_iconst (v := 1) hx hb dX0_taxFor_56 (by decide) ?_
          refine lv_icmp_ne (tgt := 65) hx hb dX0_taxFor_57 (by decide) (fun c_7 => ?_) (fun c_7 => ?_)
          · refine lv_iconst (v := 0) hx hb dX0_taxFor_65 (by decide) ?_
            exact k_iret hM hsz hX ⟨_, rfl, rfl, rfl, (show ctaxC M k a b = _ from ((if_pos c_1).trans ((if_pos c_2).trans ((if_pos c_5).trans ((if_pos c_6).trans ((if_neg c_7).trans rfl)))))).symm⟩ (by decide) (by decide) dX0_taxFor_66
          · refine lv_aload_n hx hb dX0_taxFor_60 rfl (lv_at hl 0 rfl) ?_
            refine k_get hM hE hX (hR.2.2.2.1 k hk).1 (hR.2.2.2.1 k hk).2.2 rfl 2 (by decide) inX0 k_635 (fun _ h => h) rfl dX0_taxFor_61 ?_
            exact k_iret hM hsz hX ⟨_, rfl, rfl, rfl, (show ctaxC M k a b = _ from ((if_pos c_1).trans ((if_pos c_2).trans ((if_pos c_5).trans ((if_pos c_6).trans ((if_pos c_7).trans rfl)))))).symm⟩ (by decide) (by decide) dX0_taxFor_64
      · refine lv_aload_n hx hb dX0_taxFor_32 rfl (lv_at hl 0 rfl) ?_
        refine k_get hM hE hX (hR.2.2.2.1 k hk).1 (hR.2.2.2.1 k hk).2.2 rfl 2 (by decide) inX0 k_635 (fun _ h => h) rfl dX0_taxFor_33 ?_
        refine lv_ineg hx hb dX0_taxFor_36 ?_
        exact k_iret hM hsz hX ⟨_, rfl, rfl, rfl, (show ctaxC M k a b = _ from ((if_pos c_1).trans ((if_pos c_2).trans ((if_neg c_5).trans rfl)))).symm⟩ (by decide) (by decide) dX0_taxFor_37
  · refine lv_iconst (v := 0) hx hb dX0_taxFor_8 (by decide) ?_
    exact k_iret hM hsz hX ⟨_, rfl, rfl, rfl, (show ctaxC M k a b = _ from ((if_neg c_1).trans rfl)).symm⟩ (by decide) (by decide) dX0_taxFor_9
