set_option maxHeartbeats 4000000 in
set_option maxRecDepth 100000 in
theorem c_X5_isIn (l : Launch) (γ : kG) (L : List Nat) (F : kF) (a b z : Int32) : kC l yX5_isIn cX5_isIn 3 (some .boolean) (kRm 0 0 0) γ L F [.int a, .int b, .int z] (kI fun r L1 F1 => L = L1 ∧ F = F1 ∧ ((r = 1 ∧ b ≤ a ∧ a ≤ z) ∨ (r = 0 ∧ ¬ (b ≤ a ∧ a ≤ z)))) := by
  refine kC_of (by decide +kernel) (Nat.le_of_ble_eq_true rfl) ?_
  intro p e s m args below meth c sz ls hargs hsz hM hin hE hX hl
  have hx := hM.1
  have hb := hM.2.1
  have hl : lv_has ls 3 [(0, .int a), (1, .int b), (2, .int z)] := hl
  refine lv_iload_n hx hb dX5_isIn_0 rfl (lv_at hl 0 rfl) ?_
  refine lv_iload_n hx hb dX5_isIn_1 rfl (lv_at hl 1 rfl) ?_
  refine lv_icmp_lt (tgt := 14) hx hb dX5_isIn_2 (by decide) (fun c_1 => ?_) (fun c_1 => ?_)
  · refine lv_iconst (v := 0) hx hb dX5_isIn_14 (by decide) ?_
    exact k_zret hM rfl hsz hX ⟨_, rfl, rfl, rfl, Or.inr ⟨rfl, fun h => absurd c_1 (Int32.not_lt.mpr h.1)⟩⟩ (by decide) (by decide) dX5_isIn_15
  · refine lv_iload_n hx hb dX5_isIn_5 rfl (lv_at hl 0 rfl) ?_
    refine lv_iload_n hx hb dX5_isIn_6 rfl (lv_at hl 2 rfl) ?_
    refine lv_icmp_gt (tgt := 14) hx hb dX5_isIn_7 (by decide) (fun c_2 => ?_) (fun c_2 => ?_)
    · refine lv_iconst (v := 0) hx hb dX5_isIn_14 (by decide) ?_
      exact k_zret hM rfl hsz hX ⟨_, rfl, rfl, rfl, Or.inr ⟨rfl, fun h => absurd c_2 (Int32.not_lt.mpr h.2)⟩⟩ (by decide) (by decide) dX5_isIn_15
    · refine lv_iconst (v := 1) hx hb dX5_isIn_10 (by decide) ?_
      refine lv_goto (tgt := 15) hx hb dX5_isIn_11 (by decide) ?_
      exact k_zret hM rfl hsz hX ⟨_, rfl, rfl, rfl, Or.inl ⟨rfl, ⟨Int32.not_lt.mp c_1, Int32.not_lt.mp c_2⟩⟩⟩ (by decide) (by decide) dX5_isIn_15
set_option maxHeartbeats 4000000 in
set_option maxRecDepth 100000 in
theorem c_X5_isCompany (l : Launch) (γ : kG) (L : List Nat) (F : kF) (a : Int32) : kC l yX5_isCompany cX5_isCompany 1 (some .boolean) (kRm 1 0 0) γ L F [.int a] (kI fun r L1 F1 => L = L1 ∧ F = F1 ∧ ((r = 1 ∧ 0 ≤ a ∧ a ≤ 5) ∨ (r = 0 ∧ ¬ (0 ≤ a ∧ a ≤ 5)))) := by
  refine kC_of (by decide +kernel) (Nat.le_of_ble_eq_true rfl) ?_
  intro p e s m args below meth c sz ls hargs hsz hM hin hE hX hl
  have hx := hM.1
  have hb := hM.2.1
  have hl : lv_has ls 1 [(0, .int a)] := hl
  refine lv_iload_n hx hb dX5_isCompany_0 rfl (lv_at hl 0 rfl) ?_
  refine lv_iconst (v := 0) hx hb dX5_isCompany_1 (by decide) ?_
  refine lv_iconst (v := 5) hx hb dX5_isCompany_2 (by decide) ?_
  refine k_goi (k_S (n := 3) (As := [.int a, .int 0, .int 5]) (rest := []) hM hE hX hl (c_X5_isIn l γ L F a 0 5) k_1151 k_1152 k_9 k_1153 ⟨by decide, by decide, by decide +kernel⟩ (by decide) rfl rfl (Nat.le_of_ble_eq_true rfl) dX5_isCompany_3 (by decide)) hE hX (fun r L1 F1 H locs hp hX => ?_)
  obtain ⟨rfl, rfl, ⟨rfl, h_1⟩ | ⟨rfl, h_1⟩⟩ := hp
  · exact k_zret hM rfl hsz hX ⟨_, rfl, rfl, rfl, Or.inl ⟨rfl, h_1⟩⟩ (by decide) (by decide) dX5_isCompany_6
  · exact k_zret hM rfl hsz hX ⟨_, rfl, rfl, rfl, Or.inr ⟨rfl, h_1⟩⟩ (by decide) (by decide) dX5_isCompany_6
set_option maxHeartbeats 4000000 in
set_option maxRecDepth 100000 in
theorem c_X5_isInvoice (l : Launch) (γ : kG) (L : List Nat) (F : kF) (o : Nat) (ad : Nat → Nat) (M : mM) (hR : RepM γ L F o ad M) (a : Int32) : kC l yX5_isInvoice cX5_isInvoice 2 (some .boolean) (kRm 1 0 0) γ L F [.ref o, .int a] (kI fun r L1 F1 => L = L1 ∧ F = F1 ∧ ((r = 1 ∧ 0 ≤ a ∧ a ≤ M 2 0 - 1) ∨ (r = 0 ∧ ¬ (0 ≤ a ∧ a ≤ M 2 0 - 1)))) := by
  refine kC_of (by decide +kernel) (Nat.le_of_ble_eq_true rfl) ?_
  intro p e s m args below meth c sz ls hargs hsz hM hin hE hX hl
  have hx := hM.1
  have hb := hM.2.1
  have hl : lv_has ls 2 [(0, .ref o), (1, .int a)] := hl
  refine lv_iload_n hx hb dX5_isInvoice_0 rfl (lv_at hl 1 rfl) ?_
  refine lv_iconst (v := 0) hx hb dX5_isInvoice_1 (by decide) ?_
  refine lv_aload_n hx hb dX5_isInvoice_2 rfl (lv_at hl 0 rfl) ?_
  refine m_get hM hE hX hR 2 (by decide) k_1065 rfl rfl dX5_isInvoice_3 ?_
  refine lv_iconst (v := 1) hx hb dX5_isInvoice_6 (by decide) ?_
  refine lv_isub hx hb dX5_isInvoice_7 ?_
  refine k_goi (k_S (n := 3) (As := [.int a, .int 0, .int ((M 2 0) - 1)]) (rest := []) hM hE hX hl (c_X5_isIn l γ L F a 0 ((M 2 0) - 1)) k_1151 k_1152 k_9 k_1153 ⟨by decide, by decide, by decide +kernel⟩ (by decide) rfl rfl (Nat.le_of_ble_eq_true rfl) dX5_isInvoice_8 (by decide)) hE hX (fun r L1 F1 H locs hp hX => ?_)
  obtain ⟨rfl, rfl, ⟨rfl, h_1⟩ | ⟨rfl, h_1⟩⟩ := hp
  · exact k_zret hM rfl hsz hX ⟨_, rfl, rfl, rfl, Or.inl ⟨rfl, h_1⟩⟩ (by decide) (by decide) dX5_isInvoice_11
  · exact k_zret hM rfl hsz hX ⟨_, rfl, rfl, rfl, Or.inr ⟨rfl, h_1⟩⟩ (by decide) (by decide) dX5_isInvoice_11
set_option maxHeartbeats 4000000 in
set_option maxRecDepth 100000 in
theorem c_X5_isMonth (l : Launch) (γ : kG) (L : List Nat) (F : kF) (o : Nat) (ad : Nat → Nat) (M : mM) (hR : RepM γ L F o ad M) (a : Int32) : kC l yX5_isMonth cX5_isMonth 2 (some .boolean) (kRm 1 0 0) γ L F [.ref o, .int a] (kI fun r L1 F1 => L = L1 ∧ F = F1 ∧ ((r = 1 ∧ 0 ≤ a ∧ a ≤ M 0 0 / 30) ∨ (r = 0 ∧ ¬ (0 ≤ a ∧ a ≤ M 0 0 / 30)))) := by
  refine kC_of (by decide +kernel) (Nat.le_of_ble_eq_true rfl) ?_
  intro p e s m args below meth c sz ls hargs hsz hM hin hE hX hl
  have hx := hM.1
  have hb := hM.2.1
  have hl : lv_has ls 2 [(0, .ref o), (1, .int a)] := hl
  refine lv_iload_n hx hb dX5_isMonth_0 rfl (lv_at hl 1 rfl) ?_
  refine lv_iconst (v := 0) hx hb dX5_isMonth_1 (by decide) ?_
  refine lv_aload_n hx hb dX5_isMonth_2 rfl (lv_at hl 0 rfl) ?_
  refine m_get hM hE hX hR 0 (by decide) k_1063 rfl rfl dX5_isMonth_3 ?_
  refine lv_bipush (v := 30) hx hb dX5_isMonth_6 (by decide) ?_
  refine lv_idiv hx hb dX5_isMonth_8 (by decide) ?_
  refine k_goi (k_S (n := 3) (As := [.int a, .int 0, .int ((M 0 0) / 30)]) (rest := []) hM hE hX hl (c_X5_isIn l γ L F a 0 ((M 0 0) / 30)) k_1151 k_1152 k_9 k_1153 ⟨by decide, by decide, by decide +kernel⟩ (by decide) rfl rfl (Nat.le_of_ble_eq_true rfl) dX5_isMonth_9 (by decide)) hE hX (fun r L1 F1 H locs hp hX => ?_)
  obtain ⟨rfl, rfl, ⟨rfl, h_1⟩ | ⟨rfl, h_1⟩⟩ := hp
  · exact k_zret hM rfl hsz hX ⟨_, rfl, rfl, rfl, Or.inl ⟨rfl, h_1⟩⟩ (by decide) (by decide) dX5_isMonth_12
  · exact k_zret hM rfl hsz hX ⟨_, rfl, rfl, rfl, Or.inr ⟨rfl, h_1⟩⟩ (by decide) (by decide) dX5_isMonth_12
set_option maxHeartbeats 4000000 in
set_option maxRecDepth 100000 in
theorem c_X5_isGood (l : Launch) (γ : kG) (L : List Nat) (F : kF) (a b : Int32) : kC l yX5_isGood cX5_isGood 2 (some .boolean) (kRm 1 0 0) γ L F [.int a, .int b] (kI fun r L1 F1 => L = L1 ∧ F = F1 ∧ ((r = 1 ∧ (1 ≤ a ∧ a ≤ 9999) ∧ (b = 0 ∨ b = 7 ∨ b = 19)) ∨ (r = 0 ∧ ¬ ((1 ≤ a ∧ a ≤ 9999) ∧ (b = 0 ∨ b = 7 ∨ b = 19))))) := by
  refine kC_of (by decide +kernel) (Nat.le_of_ble_eq_true rfl) ?_
  intro p e s m args below meth c sz ls hargs hsz hM hin hE hX hl
  have hx := hM.1
  have hb := hM.2.1
  have hl : lv_has ls 2 [(0, .int a), (1, .int b)] := hl
  refine lv_iload_n hx hb dX5_isGood_0 rfl (lv_at hl 0 rfl) ?_
  refine lv_iconst (v := 1) hx hb dX5_isGood_1 (by decide) ?_
  refine lv_sipush (v := 9999) hx hb dX5_isGood_2 (by decide) ?_
  refine k_goi (k_S (n := 3) (As := [.int a, .int 1, .int 9999]) (rest := []) hM hE hX hl (c_X5_isIn l γ L F a 1 9999) k_1151 k_1152 k_9 k_1153 ⟨by decide, by decide, by decide +kernel⟩ (by decide) rfl rfl (Nat.le_of_ble_eq_true rfl) dX5_isGood_5 (by decide)) hE hX (fun r L1 F1 H locs hp hX => ?_)
  obtain ⟨rfl, rfl, ⟨rfl, h_1⟩ | ⟨rfl, h_1⟩⟩ := hp
  · refine lv_if_eq (tgt := 31) hx hb dX5_isGood_8 (by decide) (fun c_2 => absurd c_2 (by decide)) (fun _ => ?_)
    refine lv_iload_n hx hb dX5_isGood_11 rfl (lv_at hl 1 rfl) ?_
    refine lv_if_eq (tgt := 27) hx hb dX5_isGood_12 (by decide) (fun c_3 => ?_) (fun c_3 => ?_)
    · refine lv_iconst (v := 1) hx hb dX5_isGood_27 (by decide) ?_
      refine lv_goto (tgt := 32) hx hb dX5_isGood_28 (by decide) ?_
      exact k_zret hM rfl hsz hX ⟨_, rfl, rfl, rfl, Or.inl ⟨rfl, ⟨h_1, Or.inl c_3⟩⟩⟩ (by decide) (by decide) dX5_isGood_32
    · refine lv_iload_n hx hb dX5_isGood_15 rfl (lv_at hl 1 rfl) ?_
      refine lv_bipush (v := 7) hx hb dX5_isGood_16 (by decide) ?_
      refine lv_icmp_eq (tgt := 27) hx hb dX5_isGood_18 (by decide) (fun c_4 => ?_) (fun c_4 => ?_)
      · refine lv_iconst (v := 1) hx hb dX5_isGood_27 (by decide) ?_
        refine lv_goto (tgt := 32) hx hb dX5_isGood_28 (by decide) ?_
        exact k_zret hM rfl hsz hX ⟨_, rfl, rfl, rfl, Or.inl ⟨rfl, ⟨h_1, Or.inr (Or.inl c_4)⟩⟩⟩ (by decide) (by decide) dX5_isGood_32
      · refine lv_iload_n hx hb dX5_isGood_21 rfl (lv_at hl 1 rfl) ?_
        refine lv_bipush (v := 19) hx hb dX5_isGood_22 (by decide) ?_
        refine lv_icmp_ne (tgt := 31) hx hb dX5_isGood_24 (by decide) (fun c_5 => ?_) (fun c_5 => ?_)
        · refine lv_iconst (v := 0) hx hb dX5_isGood_31 (by decide) ?_
          exact k_zret hM rfl hsz hX ⟨_, rfl, rfl, rfl, Or.inr ⟨rfl, fun h => h.2.elim c_3 (fun h => h.elim c_4 c_5)⟩⟩ (by decide) (by decide) dX5_isGood_32
        · refine lv_iconst (v := 1) hx hb dX5_isGood_27 (by decide) ?_
          refine lv_goto (tgt := 32) hx hb dX5_isGood_28 (by decide) ?_
          exact k_zret hM rfl hsz hX ⟨_, rfl, rfl, rfl, Or.inl ⟨rfl, ⟨h_1, Or.inr (Or.inr c_5)⟩⟩⟩ (by decide) (by decide) dX5_isGood_32
  · refine lv_if_eq (tgt := 31) hx hb dX5_isGood_8 (by decide) (fun _ => ?_) (fun c_6 => absurd (by decide) c_6)
    refine lv_iconst (v := 0) hx hb dX5_isGood_31 (by decide) ?_
    exact k_zret hM rfl hsz hX ⟨_, rfl, rfl, rfl, Or.inr ⟨rfl, fun h => h_1 h.1⟩⟩ (by decide) (by decide) dX5_isGood_32
set_option maxHeartbeats 4000000 in
set_option maxRecDepth 100000 in
theorem c_X5_taxOf (l : Launch) (γ : kG) (L : List Nat) (F : kF) (a b : Int32) : kC l yX5_taxOf cX5_taxOf 2 (some .int) (kRm 0 0 0) γ L F [.int a, .int b] (kI fun r L1 F1 => L = L1 ∧ F = F1 ∧ r = tx a b) := by
  refine kC_of (by decide +kernel) (Nat.le_of_ble_eq_true rfl) ?_
  intro p e s m args below meth c sz ls hargs hsz hM hin hE hX hl
  have hx := hM.1
  have hb := hM.2.1
  have hl : lv_has ls 2 [(0, .int a), (1, .int b)] := hl
  refine lv_iload_n hx hb dX5_taxOf_0 rfl (lv_at hl 0 rfl) ?_
  refine lv_iload_n hx hb dX5_taxOf_1 rfl (lv_at hl 1 rfl) ?_
  refine lv_imul hx hb dX5_taxOf_2 ?_
  refine lv_bipush (v := 100) hx hb dX5_taxOf_3 (by decide) ?_
  refine lv_idiv hx hb dX5_taxOf_5 (by decide) ?_
  exact k_iret hM hsz hX ⟨_, rfl, rfl, rfl, rfl⟩ (by decide) (by decide) dX5_taxOf_6
set_option maxHeartbeats 4000000 in
set_option maxRecDepth 100000 in
theorem c_X5_isLine (l : Launch) (γ : kG) (L : List Nat) (F : kF) (o : Nat) (ad : Nat → Nat) (M : mM) (hR : RepM γ L F o ad M) (a b : Int32) (hn : okN M) (hk : ∀ i, i < nn M → okL M i) : kC l yX5_isLine cX5_isLine 3 (some .boolean) (kRm 2 0 0) γ L F [.ref o, .int a, .int b] (kI fun r L1 F1 => L = L1 ∧ F = F1 ∧ ((r = 1 ∧ (0 ≤ a ∧ a ≤ M 2 0 - 1) ∧ 0 ≤ b ∧ b ≤ M 13 (kj a) - 1) ∨ (r = 0 ∧ ¬ ((0 ≤ a ∧ a ≤ M 2 0 - 1) ∧ 0 ≤ b ∧ b ≤ M 13 (kj a) - 1)))) := by
  refine kC_of (by decide +kernel) (Nat.le_of_ble_eq_true rfl) ?_
  intro p e s m args below meth c sz ls hargs hsz hM hin hE hX hl
  have hx := hM.1
  have hb := hM.2.1
  have hl : lv_has ls 3 [(0, .ref o), (1, .int a), (2, .int b)] := hl
  refine lv_aload_n hx hb dX5_isLine_0 rfl (lv_at hl 0 rfl) ?_
  refine lv_iload_n hx hb dX5_isLine_1 rfl (lv_at hl 1 rfl) ?_
  refine k_goi (k_V (n := 1) (As := [.int a]) (rest := []) hM hE hX hl (c_X5_isInvoice l γ L F o ad M hR a) hR.1 hR.2.1 rfl k_1165 k_1167 kp_27 k_9 k_1168 ⟨rfl, by decide, by decide, by decide +kernel⟩ (by decide) rfl rfl (Nat.le_of_ble_eq_true rfl) dX5_isLine_2 (by decide)) hE hX (fun r L1 F1 H locs hp hX => ?_)
  obtain ⟨rfl, rfl, ⟨rfl, h_1⟩ | ⟨rfl, h_1⟩⟩ := hp
  · refine lv_if_eq (tgt := 28) hx hb dX5_isLine_5 (by decide) (fun c_2 => absurd c_2 (by decide)) (fun _ => ?_)
    have hj := ixM hn h_1
    have hj2 := hj.2
    have hn2 := hn.2
    refine lv_iload_n hx hb dX5_isLine_8 rfl (lv_at hl 2 rfl) ?_
    refine lv_iconst (v := 0) hx hb dX5_isLine_9 (by decide) ?_
    refine lv_aload_n hx hb dX5_isLine_10 rfl (lv_at hl 0 rfl) ?_
    refine m_get hM hE hX hR 13 (by decide) k_1076 rfl rfl dX5_isLine_11 ?_
    refine lv_iload_n hx hb dX5_isLine_14 rfl (lv_at hl 1 rfl) ?_
    refine m_iald hM hE hX hR 13 (kj a) (by decide) rfl rfl hj.1 (show kj a < 20 by omega) dX5_isLine_15 ?_
    refine lv_iconst (v := 1) hx hb dX5_isLine_16 (by decide) ?_
    refine lv_isub hx hb dX5_isLine_17 ?_
    refine k_goi (k_S (n := 3) (As := [.int b, .int 0, .int ((M 13 (kj a)) - 1)]) (rest := []) hM hE hX hl (c_X5_isIn l γ L F b 0 ((M 13 (kj a)) - 1)) k_1151 k_1152 k_9 k_1153 ⟨by decide, by decide, by decide +kernel⟩ (by decide) rfl rfl (Nat.le_of_ble_eq_true rfl) dX5_isLine_18 (by decide)) hE hX (fun r L1 F1 H locs hp hX => ?_)
    obtain ⟨rfl, rfl, ⟨rfl, h_3⟩ | ⟨rfl, h_3⟩⟩ := hp
    · refine lv_if_eq (tgt := 28) hx hb dX5_isLine_21 (by decide) (fun c_4 => absurd c_4 (by decide)) (fun _ => ?_)
      refine lv_iconst (v := 1) hx hb dX5_isLine_24 (by decide) ?_
      refine lv_goto (tgt := 29) hx hb dX5_isLine_25 (by decide) ?_
      exact k_zret hM rfl hsz hX ⟨_, rfl, rfl, rfl, Or.inl ⟨rfl, h_1, h_3⟩⟩ (by decide) (by decide) dX5_isLine_29
    · refine lv_if_eq (tgt := 28) hx hb dX5_isLine_21 (by decide) (fun _ => ?_) (fun c_5 => absurd (by decide) c_5)
      refine lv_iconst (v := 0) hx hb dX5_isLine_28 (by decide) ?_
      exact k_zret hM rfl hsz hX ⟨_, rfl, rfl, rfl, Or.inr ⟨rfl, fun h => h_3 h.2⟩⟩ (by decide) (by decide) dX5_isLine_29
  · refine lv_if_eq (tgt := 28) hx hb dX5_isLine_5 (by decide) (fun _ => ?_) (fun c_6 => absurd (by decide) c_6)
    refine lv_iconst (v := 0) hx hb dX5_isLine_28 (by decide) ?_
    exact k_zret hM rfl hsz hX ⟨_, rfl, rfl, rfl, Or.inr ⟨rfl, fun h => h_1 h.1⟩⟩ (by decide) (by decide) dX5_isLine_29
def costs_st (M : mM) (i : Nat) (w : Int32) (j : Nat) (x : Int32) : Int32 := (if w = 0 then (if (M 17 (3 * i + j)) = 0 then (x + ((M 14 (3 * i + j)) + (tx (M 14 (3 * i + j)) (M 16 (3 * i + j))))) else (x + 0)) else (x + ((M 14 (3 * i + j)) + (tx (M 14 (3 * i + j)) (M 16 (3 * i + j))))))
def costs (M : mM) (i : Nat) (w : Int32) : Int32 := l_fold (costs_st M i w) 0 (kk M i)
set_option maxHeartbeats 4000000 in
set_option maxRecDepth 100000 in
theorem c_X5_costs (l : Launch) (γ : kG) (L : List Nat) (F : kF) (o : Nat) (ad : Nat → Nat) (M : mM) (hR : RepM γ L F o ad M) (i : Nat) (w : Int32) (hi : i < 20) (hk : okL M i) : kC l yX5_costs cX5_costs 5 (some .int) (kRm 1 0 0) γ L F [.ref o, .int (nI i), .int w] (kI fun r L1 F1 => L = L1 ∧ F = F1 ∧ r = costs M i w) := by
  refine kC_of (by decide +kernel) (Nat.le_of_ble_eq_true rfl) ?_
  intro p e s m args below meth c sz ls hargs hsz hM hin hE hX hl
  have hx := hM.1
  have hb := hM.2.1
  have hl : lv_has ls 5 [(0, .ref o), (1, .int (nI i)), (2, .int w)] := hl
  have hk2 := hk.2
  have hloop : ∀ (n j : Nat) (x : Int32), kk M i < j + n → j ≤ kk M i → x = l_fold (costs_st M i w) 0 j → ∀ (H : Heap) (locs : List Loc) (ls : Array Slot), kX γ (kA L sz) s L F H locs → lv_has ls 5 [(3, .int x), (4, .int (nI (3 * i + j))), (0, .ref o), (1, .int (nI i)), (2, .int w)] → W p l e (kRm 1 0 0) s m args below meth c H locs 0 0 (MQ below (kQ γ L sz (kI fun r L1 F1 => L = L1 ∧ F = F1 ∧ r = costs M i w)) args s (kRm 1 0 0).cells (kRm 1 0 0).slots (kA L sz)) (F0 m 7 ls []) := by
    intro n
    induction n with
    | zero => intro j x h1 h2; exact absurd h1 (by omega)
    | succ n ih =>
      intro j x h1 h2 hxj H locs ls hX hl
      refine lv_iload hx hb dX5_costs_7 (lv_at hl 1 rfl) ?_
      refine lv_iconst (v := 3) hx hb dX5_costs_9 (by decide) ?_
      refine lv_iload_n hx hb dX5_costs_10 rfl (lv_at hl 3 rfl) ?_
      refine lv_imul hx hb dX5_costs_11 ?_
      rw [show (3 : Int32) * (nI i) = (nI (3 * i)) from k3 i]
      refine lv_aload_n hx hb dX5_costs_12 rfl (lv_at hl 2 rfl) ?_
      refine m_get hM hE hX hR 13 (by decide) k_1076 rfl rfl dX5_costs_13 ?_
      refine lv_iload_n hx hb dX5_costs_16 rfl (lv_at hl 3 rfl) ?_
      refine m_iald hM hE hX hR 13 i (by decide) rfl rfl rfl (show i < 20 by omega) dX5_costs_17 ?_
      refine lv_iadd hx hb dX5_costs_18 ?_
      rw [show (nI (3 * i)) + (M 13 i) = (nI (3 * i + kk M i)) from by rw [hk.1, nI_add]]
      refine lv_icmp_ge (tgt := 74) hx hb dX5_costs_19 (by decide) (fun c_1 => ?_) (fun c_1 => ?_)
      · have ej : j = kk M i := by
          have h9 := lp_out (by omega) (by omega) (c_1)
          omega
        refine lv_iload_n hx hb dX5_costs_74 rfl (lv_at hl 0 rfl) ?_
        exact k_iret hM hsz hX ⟨_, rfl, rfl, rfl, by rw [hxj, ej]; rfl⟩ (by decide) (by decide) dX5_costs_75
      · have hj : j < kk M i := by
          have h9 := lp_in (by omega) (by omega) (c_1)
          omega
        refine lv_iload_n hx hb dX5_costs_22 rfl (lv_at hl 0 rfl) ?_
        refine lv_iload_n hx hb dX5_costs_23 rfl (lv_at hl 4 rfl) ?_
        refine lv_if_ne (tgt := 37) hx hb dX5_costs_24 (by decide) (fun c_2 => ?_) (fun c_2 => ?_)
        · refine lv_aload_n hx hb dX5_costs_37 rfl (lv_at hl 2 rfl) ?_
          refine m_get hM hE hX hR 14 (by decide) k_1077 rfl rfl dX5_costs_38 ?_
          refine lv_iload hx hb dX5_costs_41 (lv_at hl 1 rfl) ?_
          refine m_iald hM hE hX hR 14 (3 * i + j) (by decide) rfl rfl rfl (show 3 * i + j < 60 by omega) dX5_costs_43 ?_
          refine lv_aload_n hx hb dX5_costs_44 rfl (lv_at hl 2 rfl) ?_
          refine m_get hM hE hX hR 14 (by decide) k_1077 rfl rfl dX5_costs_45 ?_
          refine lv_iload hx hb dX5_costs_48 (lv_at hl 1 rfl) ?_
          refine m_iald hM hE hX hR 14 (3 * i + j) (by decide) rfl rfl rfl (show 3 * i + j < 60 by omega) dX5_costs_50 ?_
          refine lv_aload_n hx hb dX5_costs_51 rfl (lv_at hl 2 rfl) ?_
          refine m_get hM hE hX hR 16 (by decide) k_1079 rfl rfl dX5_costs_52 ?_
          refine lv_iload hx hb dX5_costs_55 (lv_at hl 1 rfl) ?_
          refine m_iald hM hE hX hR 16 (3 * i + j) (by decide) rfl rfl rfl (show 3 * i + j < 60 by omega) dX5_costs_57 ?_
          refine k_goi (k_S (n := 2) (As := [.int (M 14 (3 * i + j)), .int (M 16 (3 * i + j))]) (rest := [.int (M 14 (3 * i + j)), .int x]) hM hE hX hl (c_X5_taxOf l γ L F (M 14 (3 * i + j)) (M 16 (3 * i + j))) k_1185 k_1186 k_9 k_1187 ⟨by decide, by decide, by decide +kernel⟩ (by decide) rfl rfl (Nat.le_of_ble_eq_true rfl) dX5_costs_58 (by decide)) hE hX (fun r L1 F1 H locs hp hX => ?_)
          obtain ⟨rfl, rfl, rfl⟩ := hp
          refine lv_iadd hx hb dX5_costs_61 ?_
          refine lv_goto (tgt := 66) hx hb dX5_costs_62 (by decide) ?_
          refine lv_iadd hx hb dX5_costs_66 ?_
          refine lv_istore_n (lv' := [(3, .int (x + ((M 14 (3 * i + j)) + (tx (M 14 (3 * i + j)) (M 16 (3 * i + j)))))), (4, .int (nI (3 * i + j))), (0, .ref o), (1, .int (nI i)), (2, .int w)]) hx hb dX5_costs_67 rfl hl (by decide) rfl (fun ls hl => ?_)
          refine lv_iinc (v := (nI (3 * i + (j + 1)))) (lv' := [(4, .int (nI (3 * i + (j + 1)))), (3, .int (x + ((M 14 (3 * i + j)) + (tx (M 14 (3 * i + j)) (M 16 (3 * i + j)))))), (0, .ref o), (1, .int (nI i)), (2, .int w)]) hx hb dX5_costs_68 hl (k := 1) rfl (nI_1 _) (by decide) rfl (fun ls hl => ?_)
          refine lv_goto (tgt := 7) hx hb dX5_costs_71 (by decide) ?_
          exact ih (j + 1) _ (by omega) (by omega) (show (x + ((M 14 (3 * i + j)) + (tx (M 14 (3 * i + j)) (M 16 (3 * i + j))))) = l_fold (costs_st M i w) 0 (j + 1) from by rw [l_fold, ← hxj]; exact (show costs_st M i w j x = _ from ((if_neg c_2).trans rfl)).symm) _ _ _ hX (lv_sub hl [1, 0, 2, 3, 4] rfl)
        · refine lv_aload_n hx hb dX5_costs_27 rfl (lv_at hl 2 rfl) ?_
          refine m_get hM hE hX hR 17 (by decide) k_1080 rfl rfl dX5_costs_28 ?_
          refine lv_iload hx hb dX5_costs_31 (lv_at hl 1 rfl) ?_
          refine m_zald hM hE hX hR 17 (3 * i + j) (by decide) rfl rfl rfl (show 3 * i + j < 60 by omega) dX5_costs_33 ?_
          refine lv_if_ne (tgt := 65) hx hb dX5_costs_34 (by decide) (fun c_3 => ?_) (fun c_3 => ?_)
          · refine lv_iconst (v := 0) hx hb dX5_costs_65 (by decide) ?_
            refine lv_iadd hx hb dX5_costs_66 ?_
            refine lv_istore_n (lv' := [(3, .int (x + 0)), (4, .int (nI (3 * i + j))), (0, .ref o), (1, .int (nI i)), (2, .int w)]) hx hb dX5_costs_67 rfl hl (by decide) rfl (fun ls hl => ?_)
            refine lv_iinc (v := (nI (3 * i + (j + 1)))) (lv' := [(4, .int (nI (3 * i + (j + 1)))), (3, .int (x + 0)), (0, .ref o), (1, .int (nI i)), (2, .int w)]) hx hb dX5_costs_68 hl (k := 1) rfl (nI_1 _) (by decide) rfl (fun ls hl => ?_)
            refine lv_goto (tgt := 7) hx hb dX5_costs_71 (by decide) ?_
            exact ih (j + 1) _ (by omega) (by omega) (show (x + 0) = l_fold (costs_st M i w) 0 (j + 1) from by rw [l_fold, ← hxj]; exact (show costs_st M i w j x = _ from ((if_pos c_2).trans ((if_neg c_3).trans rfl))).symm) _ _ _ hX (lv_sub hl [1, 0, 2, 3, 4] rfl)
          · refine lv_aload_n hx hb dX5_costs_37 rfl (lv_at hl 2 rfl) ?_
            refine m_get hM hE hX hR 14 (by decide) k_1077 rfl rfl dX5_costs_38 ?_
            refine lv_iload hx hb dX5_costs_41 (lv_at hl 1 rfl) ?_
            refine m_iald hM hE hX hR 14 (3 * i + j) (by decide) rfl rfl rfl (show 3 * i + j < 60 by omega) dX5_costs_43 ?_
            refine lv_aload_n hx hb dX5_costs_44 rfl (lv_at hl 2 rfl) ?_
            refine m_get hM hE hX hR 14 (by decide) k_1077 rfl rfl dX5_costs_45 ?_
            refine lv_iload hx hb dX5_costs_48 (lv_at hl 1 rfl) ?_
            refine m_iald hM hE hX hR 14 (3 * i + j) (by decide) rfl rfl rfl (show 3 * i + j < 60 by omega) dX5_costs_50 ?_
            refine lv_aload_n hx hb dX5_costs_51 rfl (lv_at hl 2 rfl) ?_
            refine m_get hM hE hX hR 16 (by decide) k_1079 rfl rfl dX5_costs_52 ?_
            refine lv_iload hx hb dX5_costs_55 (lv_at hl 1 rfl) ?_
            refine m_iald hM hE hX hR 16 (3 * i + j) (by decide) rfl rfl rfl (show 3 * i + j < 60 by omega) dX5_costs_57 ?_
            refine k_goi (k_S (n := 2) (As := [.int (M 14 (3 * i + j)), .int (M 16 (3 * i + j))]) (rest := [.int (M 14 (3 * i + j)), .int x]) hM hE hX hl (c_X5_taxOf l γ L F (M 14 (3 * i + j)) (M 16 (3 * i + j))) k_1185 k_1186 k_9 k_1187 ⟨by decide, by decide, by decide +kernel⟩ (by decide) rfl rfl (Nat.le_of_ble_eq_true rfl) dX5_costs_58 (by decide)) hE hX (fun r L1 F1 H locs hp hX => ?_)
            obtain ⟨rfl, rfl, rfl⟩ := hp
            refine lv_iadd hx hb dX5_costs_61 ?_
            refine lv_goto (tgt := 66) hx hb dX5_costs_62 (by decide) ?_
            refine lv_iadd hx hb dX5_costs_66 ?_
            refine lv_istore_n (lv' := [(3, .int (x + ((M 14 (3 * i + j)) + (tx (M 14 (3 * i + j)) (M 16 (3 * i + j)))))), (4, .int (nI (3 * i + j))), (0, .ref o), (1, .int (nI i)), (2, .int w)]) hx hb dX5_costs_67 rfl hl (by decide) rfl (fun ls hl => ?_)
            refine lv_iinc (v := (nI (3 * i + (j + 1)))) (lv' := [(4, .int (nI (3 * i + (j + 1)))), (3, .int (x + ((M 14 (3 * i + j)) + (tx (M 14 (3 * i + j)) (M 16 (3 * i + j)))))), (0, .ref o), (1, .int (nI i)), (2, .int w)]) hx hb dX5_costs_68 hl (k := 1) rfl (nI_1 _) (by decide) rfl (fun ls hl => ?_)
            refine lv_goto (tgt := 7) hx hb dX5_costs_71 (by decide) ?_
            exact ih (j + 1) _ (by omega) (by omega) (show (x + ((M 14 (3 * i + j)) + (tx (M 14 (3 * i + j)) (M 16 (3 * i + j))))) = l_fold (costs_st M i w) 0 (j + 1) from by rw [l_fold, ← hxj]; exact (show costs_st M i w j x = _ from ((if_pos c_2).trans ((if_pos c_3).trans rfl))).symm) _ _ _ hX (lv_sub hl [1, 0, 2, 3, 4] rfl)
  refine lv_iconst (v := 0) hx hb dX5_costs_0 (by decide) ?_
  refine lv_istore_n (lv' := [(3, .int 0), (0, .ref o), (1, .int (nI i)), (2, .int w)]) hx hb dX5_costs_1 rfl hl (by decide) rfl (fun ls hl => ?_)
  refine lv_iconst (v := 3) hx hb dX5_costs_2 (by decide) ?_
  refine lv_iload_n hx hb dX5_costs_3 rfl (lv_at hl 2 rfl) ?_
  refine lv_imul hx hb dX5_costs_4 ?_
  rw [show (3 : Int32) * (nI i) = (nI (3 * i)) from k3 i]
  refine lv_istore (lv' := [(4, .int (nI (3 * i))), (3, .int 0), (0, .ref o), (1, .int (nI i)), (2, .int w)]) hx hb dX5_costs_5 hl (by decide) rfl (fun ls hl => ?_)
  exact hloop (kk M i + 1) 0 _ (by omega) (Nat.zero_le _) rfl _ _ _ hX (lv_sub hl [1, 0, 2, 3, 4] rfl)
def taxAll_st (M : mM) (i : Nat) (w : Int32) (j : Nat) (x : Int32) : Int32 := (if w = 0 then (x + (tx (M 14 (3 * i + j)) (M 16 (3 * i + j)))) else (x + (tx (M 15 (3 * i + j)) (M 16 (3 * i + j)))))
def taxAll (M : mM) (i : Nat) (w : Int32) : Int32 := l_fold (taxAll_st M i w) 0 (kk M i)
set_option maxHeartbeats 4000000 in
set_option maxRecDepth 100000 in
theorem c_X5_taxOfAll (l : Launch) (γ : kG) (L : List Nat) (F : kF) (o : Nat) (ad : Nat → Nat) (M : mM) (hR : RepM γ L F o ad M) (i : Nat) (w : Int32) (hi : i < 20) (hk : okL M i) : kC l yX5_taxOfAll cX5_taxOfAll 5 (some .int) (kRm 1 0 0) γ L F [.ref o, .int (nI i), .int w] (kI fun r L1 F1 => L = L1 ∧ F = F1 ∧ r = taxAll M i w) := by
  refine kC_of (by decide +kernel) (Nat.le_of_ble_eq_true rfl) ?_
  intro p e s m args below meth c sz ls hargs hsz hM hin hE hX hl
  have hx := hM.1
  have hb := hM.2.1
  have hl : lv_has ls 5 [(0, .ref o), (1, .int (nI i)), (2, .int w)] := hl
  have hk2 := hk.2
  have hloop : ∀ (n j : Nat) (x : Int32), kk M i < j + n → j ≤ kk M i → x = l_fold (taxAll_st M i w) 0 j → ∀ (H : Heap) (locs : List Loc) (ls : Array Slot), kX γ (kA L sz) s L F H locs → lv_has ls 5 [(3, .int x), (4, .int (nI (3 * i + j))), (0, .ref o), (1, .int (nI i)), (2, .int w)] → W p l e (kRm 1 0 0) s m args below meth c H locs 0 0 (MQ below (kQ γ L sz (kI fun r L1 F1 => L = L1 ∧ F = F1 ∧ r = taxAll M i w)) args s (kRm 1 0 0).cells (kRm 1 0 0).slots (kA L sz)) (F0 m 7 ls []) := by
    intro n
    induction n with
    | zero => intro j x h1 h2; exact absurd h1 (by omega)
    | succ n ih =>
      intro j x h1 h2 hxj H locs ls hX hl
      refine lv_iload hx hb dX5_taxOfAll_7 (lv_at hl 1 rfl) ?_
      refine lv_iconst (v := 3) hx hb dX5_taxOfAll_9 (by decide) ?_
      refine lv_iload_n hx hb dX5_taxOfAll_10 rfl (lv_at hl 3 rfl) ?_
      refine lv_imul hx hb dX5_taxOfAll_11 ?_
      rw [show (3 : Int32) * (nI i) = (nI (3 * i)) from k3 i]
      refine lv_aload_n hx hb dX5_taxOfAll_12 rfl (lv_at hl 2 rfl) ?_
      refine m_get hM hE hX hR 13 (by decide) k_1076 rfl rfl dX5_taxOfAll_13 ?_
      refine lv_iload_n hx hb dX5_taxOfAll_16 rfl (lv_at hl 3 rfl) ?_
      refine m_iald hM hE hX hR 13 i (by decide) rfl rfl rfl (show i < 20 by omega) dX5_taxOfAll_17 ?_
      refine lv_iadd hx hb dX5_taxOfAll_18 ?_
      rw [show (nI (3 * i)) + (M 13 i) = (nI (3 * i + kk M i)) from by rw [hk.1, nI_add]]
      refine lv_icmp_ge (tgt := 62) hx hb dX5_taxOfAll_19 (by decide) (fun c_1 => ?_) (fun c_1 => ?_)
      · have ej : j = kk M i := by
          have h9 := lp_out (by omega) (by omega) (c_1)
          omega
        refine lv_iload_n hx hb dX5_taxOfAll_62 rfl (lv_at hl 0 rfl) ?_
        exact k_iret hM hsz hX ⟨_, rfl, rfl, rfl, by rw [hxj, ej]; rfl⟩ (by decide) (by decide) dX5_taxOfAll_63
      · have hj : j < kk M i := by
          have h9 := lp_in (by omega) (by omega) (c_1)
          omega
        refine lv_iload_n hx hb dX5_taxOfAll_22 rfl (lv_at hl 0 rfl) ?_
        refine lv_iload_n hx hb dX5_taxOfAll_23 rfl (lv_at hl 4 rfl) ?_
        refine lv_if_eq (tgt := 37) hx hb dX5_taxOfAll_24 (by decide) (fun c_2 => ?_) (fun c_2 => ?_)
        · refine lv_aload_n hx hb dX5_taxOfAll_37 rfl (lv_at hl 2 rfl) ?_
          refine m_get hM hE hX hR 14 (by decide) k_1077 rfl rfl dX5_taxOfAll_38 ?_
          refine lv_iload hx hb dX5_taxOfAll_41 (lv_at hl 1 rfl) ?_
          refine m_iald hM hE hX hR 14 (3 * i + j) (by decide) rfl rfl rfl (show 3 * i + j < 60 by omega) dX5_taxOfAll_43 ?_
          refine lv_aload_n hx hb dX5_taxOfAll_44 rfl (lv_at hl 2 rfl) ?_
          refine m_get hM hE hX hR 16 (by decide) k_1079 rfl rfl dX5_taxOfAll_45 ?_
          refine lv_iload hx hb dX5_taxOfAll_48 (lv_at hl 1 rfl) ?_
          refine m_iald hM hE hX hR 16 (3 * i + j) (by decide) rfl rfl rfl (show 3 * i + j < 60 by omega) dX5_taxOfAll_50 ?_
          refine k_goi (k_S (n := 2) (As := [.int (M 14 (3 * i + j)), .int (M 16 (3 * i + j))]) (rest := [.int x]) hM hE hX hl (c_X5_taxOf l γ L F (M 14 (3 * i + j)) (M 16 (3 * i + j))) k_1185 k_1186 k_9 k_1187 ⟨by decide, by decide, by decide +kernel⟩ (by decide) rfl rfl (Nat.le_of_ble_eq_true rfl) dX5_taxOfAll_51 (by decide)) hE hX (fun r L1 F1 H locs hp hX => ?_)
          obtain ⟨rfl, rfl, rfl⟩ := hp
          refine lv_iadd hx hb dX5_taxOfAll_54 ?_
          refine lv_istore_n (lv' := [(3, .int (x + (tx (M 14 (3 * i + j)) (M 16 (3 * i + j))))), (4, .int (nI (3 * i + j))), (0, .ref o), (1, .int (nI i)), (2, .int w)]) hx hb dX5_taxOfAll_55 rfl hl (by decide) rfl (fun ls hl => ?_)
          refine lv_iinc (v := (nI (3 * i + (j + 1)))) (lv' := [(4, .int (nI (3 * i + (j + 1)))), (3, .int (x + (tx (M 14 (3 * i + j)) (M 16 (3 * i + j))))), (0, .ref o), (1, .int (nI i)), (2, .int w)]) hx hb dX5_taxOfAll_56 hl (k := 1) rfl (nI_1 _) (by decide) rfl (fun ls hl => ?_)
          refine lv_goto (tgt := 7) hx hb dX5_taxOfAll_59 (by decide) ?_
          exact ih (j + 1) _ (by omega) (by omega) (show (x + (tx (M 14 (3 * i + j)) (M 16 (3 * i + j)))) = l_fold (taxAll_st M i w) 0 (j + 1) from by rw [l_fold, ← hxj]; exact (show taxAll_st M i w j x = _ from ((if_pos c_2).trans rfl)).symm) _ _ _ hX (lv_sub hl [1, 0, 2, 3, 4] rfl)
        · refine lv_aload_n hx hb dX5_taxOfAll_27 rfl (lv_at hl 2 rfl) ?_
          refine m_get hM hE hX hR 15 (by decide) k_1078 rfl rfl dX5_taxOfAll_28 ?_
          refine lv_iload hx hb dX5_taxOfAll_31 (lv_at hl 1 rfl) ?_
          refine m_iald hM hE hX hR 15 (3 * i + j) (by decide) rfl rfl rfl (show 3 * i + j < 60 by omega) dX5_taxOfAll_33 ?_
          refine lv_goto (tgt := 44) hx hb dX5_taxOfAll_34 (by decide) ?_
          refine lv_aload_n hx hb dX5_taxOfAll_44 rfl (lv_at hl 2 rfl) ?_
          refine m_get hM hE hX hR 16 (by decide) k_1079 rfl rfl dX5_taxOfAll_45 ?_
          refine lv_iload hx hb dX5_taxOfAll_48 (lv_at hl 1 rfl) ?_
          refine m_iald hM hE hX hR 16 (3 * i + j) (by decide) rfl rfl rfl (show 3 * i + j < 60 by omega) dX5_taxOfAll_50 ?_
          refine k_goi (k_S (n := 2) (As := [.int (M 15 (3 * i + j)), .int (M 16 (3 * i + j))]) (rest := [.int x]) hM hE hX hl (c_X5_taxOf l γ L F (M 15 (3 * i + j)) (M 16 (3 * i + j))) k_1185 k_1186 k_9 k_1187 ⟨by decide, by decide, by decide +kernel⟩ (by decide) rfl rfl (Nat.le_of_ble_eq_true rfl) dX5_taxOfAll_51 (by decide)) hE hX (fun r L1 F1 H locs hp hX => ?_)
          obtain ⟨rfl, rfl, rfl⟩ := hp
          refine lv_iadd hx hb dX5_taxOfAll_54 ?_
          refine lv_istore_n (lv' := [(3, .int (x + (tx (M 15 (3 * i + j)) (M 16 (3 * i + j))))), (4, .int (nI (3 * i + j))), (0, .ref o), (1, .int (nI i)), (2, .int w)]) hx hb dX5_taxOfAll_55 rfl hl (by decide) rfl (fun ls hl => ?_)
          refine lv_iinc (v := (nI (3 * i + (j + 1)))) (lv' := [(4, .int (nI (3 * i + (j + 1)))), (3, .int (x + (tx (M 15 (3 * i + j)) (M 16 (3 * i + j))))), (0, .ref o), (1, .int (nI i)), (2, .int w)]) hx hb dX5_taxOfAll_56 hl (k := 1) rfl (nI_1 _) (by decide) rfl (fun ls hl => ?_)
          refine lv_goto (tgt := 7) hx hb dX5_taxOfAll_59 (by decide) ?_
          exact ih (j + 1) _ (by omega) (by omega) (show (x + (tx (M 15 (3 * i + j)) (M 16 (3 * i + j)))) = l_fold (taxAll_st M i w) 0 (j + 1) from by rw [l_fold, ← hxj]; exact (show taxAll_st M i w j x = _ from ((if_neg c_2).trans rfl)).symm) _ _ _ hX (lv_sub hl [1, 0, 2, 3, 4] rfl)
  refine lv_iconst (v := 0) hx hb dX5_taxOfAll_0 (by decide) ?_
  refine lv_istore_n (lv' := [(3, .int 0), (0, .ref o), (1, .int (nI i)), (2, .int w)]) hx hb dX5_taxOfAll_1 rfl hl (by decide) rfl (fun ls hl => ?_)
  refine lv_iconst (v := 3) hx hb dX5_taxOfAll_2 (by decide) ?_
  refine lv_iload_n hx hb dX5_taxOfAll_3 rfl (lv_at hl 2 rfl) ?_
  refine lv_imul hx hb dX5_taxOfAll_4 ?_
  rw [show (3 : Int32) * (nI i) = (nI (3 * i)) from k3 i]
  refine lv_istore (lv' := [(4, .int (nI (3 * i))), (3, .int 0), (0, .ref o), (1, .int (nI i)), (2, .int w)]) hx hb dX5_taxOfAll_5 hl (by decide) rfl (fun ls hl => ?_)
  exact hloop (kk M i + 1) 0 _ (by omega) (Nat.zero_le _) rfl _ _ _ hX (lv_sub hl [1, 0, 2, 3, 4] rfl)
def owed (M : mM) (i : Nat) : Int32 := (if (M 6 i) = 1 then (if ((costs M i 0) - (M 12 i)) ≤ 0 then 0 else ((costs M i 0) - (M 12 i))) else 0)
set_option maxHeartbeats 4000000 in
set_option maxRecDepth 100000 in
theorem c_X5_owed (l : Launch) (γ : kG) (L : List Nat) (F : kF) (o : Nat) (ad : Nat → Nat) (M : mM) (hR : RepM γ L F o ad M) (i : Nat) (hi : i < 20) (hk : okL M i) : kC l yX5_owed cX5_owed 3 (some .int) (kRm 2 0 0) γ L F [.ref o, .int (nI i)] (kI fun r L1 F1 => L = L1 ∧ F = F1 ∧ r = owed M i) := by
  refine kC_of (by decide +kernel) (Nat.le_of_ble_eq_true rfl) ?_
  intro p e s m args below meth c sz ls hargs hsz hM hin hE hX hl
  have hx := hM.1
  have hb := hM.2.1
  have hl : lv_has ls 3 [(0, .ref o), (1, .int (nI i))] := hl
  refine lv_aload_n hx hb dX5_owed_0 rfl (lv_at hl 0 rfl) ?_
  refine lv_iload_n hx hb dX5_owed_1 rfl (lv_at hl 1 rfl) ?_
  refine lv_iconst (v := 0) hx hb dX5_owed_2 (by decide) ?_
  refine k_goi (k_V (n := 2) (As := [.int (nI i), .int 0]) (rest := []) hM hE hX hl (c_X5_costs l γ L F o ad M hR i 0 hi hk) hR.1 hR.2.1 rfl k_1181 k_1183 kp_30 k_9 k_1184 ⟨rfl, by decide, by decide, by decide +kernel⟩ (by decide) rfl rfl (Nat.le_of_ble_eq_true rfl) dX5_owed_3 (by decide)) hE hX (fun r L1 F1 H locs hp hX => ?_)
  obtain ⟨rfl, rfl, rfl⟩ := hp
  refine lv_aload_n hx hb dX5_owed_6 rfl (lv_at hl 0 rfl) ?_
  refine m_get hM hE hX hR 12 (by decide) k_1075 rfl rfl dX5_owed_7 ?_
  refine lv_iload_n hx hb dX5_owed_10 rfl (lv_at hl 1 rfl) ?_
  refine m_iald hM hE hX hR 12 i (by decide) rfl rfl rfl (show i < 20 by omega) dX5_owed_11 ?_
  refine lv_isub hx hb dX5_owed_12 ?_
  refine lv_istore_n (lv' := [(2, .int ((costs M i 0) - (M 12 i))), (0, .ref o), (1, .int (nI i))]) hx hb dX5_owed_13 rfl hl (by decide) rfl (fun ls hl => ?_)
  refine lv_aload_n hx hb dX5_owed_14 rfl (lv_at hl 1 rfl) ?_
  refine m_get hM hE hX hR 6 (by decide) k_1069 rfl rfl dX5_owed_15 ?_
  refine lv_iload_n hx hb dX5_owed_18 rfl (lv_at hl 2 rfl) ?_
  refine m_iald hM hE hX hR 6 i (by decide) rfl rfl rfl (show i < 20 by omega) dX5_owed_19 ?_
  refine lv_iconst (v := 1) hx hb dX5_owed_20 (by decide) ?_
  refine lv_icmp_ne (tgt := 32) hx hb dX5_owed_21 (by decide) (fun c_1 => ?_) (fun c_1 => ?_)
  · refine lv_iconst (v := 0) hx hb dX5_owed_32 (by decide) ?_
    exact k_iret hM hsz hX ⟨_, rfl, rfl, rfl, (show owed M i = _ from ((if_neg c_1).trans rfl)).symm⟩ (by decide) (by decide) dX5_owed_33
  · refine lv_iload_n hx hb dX5_owed_24 rfl (lv_at hl 0 rfl) ?_
    refine lv_if_le (tgt := 32) hx hb dX5_owed_25 (by decide) (fun c_2 => ?_) (fun c_2 => ?_)
    · refine lv_iconst (v := 0) hx hb dX5_owed_32 (by decide) ?_
      exact k_iret hM hsz hX ⟨_, rfl, rfl, rfl, (show owed M i = _ from ((if_pos c_1).trans ((if_pos c_2).trans rfl))).symm⟩ (by decide) (by decide) dX5_owed_33
    · refine lv_iload_n hx hb dX5_owed_28 rfl (lv_at hl 0 rfl) ?_
      refine lv_goto (tgt := 33) hx hb dX5_owed_29 (by decide) ?_
      exact k_iret hM hsz hX ⟨_, rfl, rfl, rfl, (show owed M i = _ from ((if_pos c_1).trans ((if_neg c_2).trans rfl))).symm⟩ (by decide) (by decide) dX5_owed_33
