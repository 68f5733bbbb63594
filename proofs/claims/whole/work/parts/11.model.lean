set_option maxHeartbeats 4000000 in
set_option maxRecDepth 100000 in
theorem c_X5_isIn (l : Launch) (γ : kG) (L : List Nat) (F : kF) (a b z : Int32) : kC l yX5_isIn cX5_isIn 3 (some .boolean) (kRm 0 0 0) γ L F [.int a, .int b, .int z] (kI fun r L1 F1 => L = L1 ∧ F = F1 ∧ ((r = 1 ∧ b ≤ a ∧ a ≤ z) ∨ (r = 0 ∧ ¬ (b ≤ a ∧ a ≤ z)))) := by
  refine kC_of (by decide +kernel) (Nat.le_of_ble_eq_true rfl) ?_
  intro p e s m args below meth c sz ls hargs hsz hM hin hE hX hl
  have hx := hM.1
  have hb := hM.2.1
  have hl : lv_has ls 3 [(0, .int a), (1, .int b), (2, .int z)] := hl
  refine lv_iload_n hx hb dX5_isIn_0 rfl (lv_at hl 0 rfl) ?_
  refine lv_iload_n hx hb dX5_isIn_1 rfl (lv_at hl 1 rfl) ?_
  refine lv_icmp_lt (tgt := 14) hx hb dX5_isIn_2 (by decide) (fun c_1 => ?_) (fun c_1 => ?_)
  · refine lv_iconst (v := 0) hx hb dX5_isIn_14 (by decide) ?_
    exact k_zret hM rfl hsz hX ⟨_, rfl, rfl, rfl, Or.inr ⟨rfl, fun h => absurd c_1 (Int32.not_lt.mpr h.1)⟩⟩ (by decide) (by decide) dX5_isIn_15
  · refine lv_iload_n hx hb dX5_isIn_5 rfl (lv_at hl 0 rfl) ?_
    refine lv_iload_n hx hb dX5_isIn_6 rfl (lv_at hl 2 rfl) ?_
    refine lv_icmp_gt (tgt := 14) hx hb dX5_isIn_7 (by decide) (fun c_2 => ?_) (fun c_2 => ?_)
    · refine lv_iconst (v := 0) hx hb dX5_isIn_14 (by decide) ?_
      exact k_zret hM rfl hsz hX ⟨_, rfl, rfl, rfl, Or.inr ⟨rfl, fun h => absurd c_2 (Int32.not_lt.mpr h.2)⟩⟩ (by decide) (by decide) dX5_isIn_15
    · refine lv_iconst (v := 1) hx hb dX5_isIn_10 (by decide) ?_
      refine lv_goto (tgt := 15) hx hb dX5_isIn_11 (by decide) ?_
      exact k_zret hM rfl hsz hX ⟨_, rfl, rfl, rfl, Or.inl ⟨rfl, ⟨Int32.not_lt.mp c_1, Int32.not_lt.mp c_2⟩⟩⟩ (by decide) (by decide) dX5_isIn_15
set_option maxHeartbeats 4000000 in
set_option maxRecDepth 100000 in
theorem c_X5_isCompany (l : Launch) (γ : kG) (L : List Nat) (F : kF) (a : Int32) : kC l yX5_isCompany cX5_isCompany 1 (some .boolean) (kRm 1 0 0) γ L F [.int a] (kI fun r L1 F1 => L = L1 ∧ F = F1 ∧ ((r = 1 ∧ 0 ≤ a ∧ a ≤ 5) ∨ (r = 0 ∧ ¬ (0 ≤ a ∧ a ≤ 5)))) := by
  refine kC_of (by decide +kernel) (Nat.le_of_ble_eq_true rfl) ?_
  intro p e s m args below meth c sz ls hargs hsz hM hin hE hX hl
  have hx := hM.1
  have hb := hM.2.1
  have hl : lv_has ls 1 [(0, .int a)] := hl
  refine lv_iload_n hx hb dX5_isCompany_0 rfl (lv_at hl 0 rfl) ?_
  refine lv_iconst (v := 0) hx hb dX5_isCompany_1 (by decide) ?_
  refine lv_iconst (v := 5) hx hb dX5_isCompany_2 (by decide) ?_
  refine k_goi (k_S (n := 3) (As := [.int a, .int 0, .int 5]) (rest := []) hM hE hX hl (c_X5_isIn l γ L F a 0 5) k_1155 k_1156 k_9 k_1157 ⟨by decide, by decide, by decide +kernel⟩ (by decide) rfl rfl (Nat.le_of_ble_eq_true rfl) dX5_isCompany_3 (by decide)) hE hX (fun r L1 F1 H locs hp hX => ?_)
  obtain ⟨rfl, rfl, ⟨rfl, h_1⟩ | ⟨rfl, h_1⟩⟩ := hp
  · exact k_zret hM rfl hsz hX ⟨_, rfl, rfl, rfl, Or.inl ⟨rfl, h_1⟩⟩ (by decide) (by decide) dX5_isCompany_6
  · exact k_zret hM rfl hsz hX ⟨_, rfl, rfl, rfl, Or.inr ⟨rfl, h_1⟩⟩ (by decide) (by decide) dX5_isCompany_6
set_option maxHeartbeats 4000000 in
set_option maxRecDepth 100000 in
theorem c_X5_isInvoice (l : Launch) (γ : kG) (L : List Nat) (F : kF) (o : Nat) (ad : Nat → Nat) (M : mM) (hR : RepM γ L F o ad M) (a : Int32) : kC l yX5_isInvoice cX5_isInvoice 2 (some .boolean) (kRm 1 0 0) γ L F [.ref o, .int a] (kI fun r L1 F1 => L = L1 ∧ F = F1 ∧ ((r = 1 ∧ 0 ≤ a ∧ a ≤ M 2 0 - 1) ∨ (r = 0 ∧ ¬ (0 ≤ a ∧ a ≤ M 2 0 - 1)))) := by
  refine kC_of (by decide +kernel) (Nat.le_of_ble_eq_true rfl) ?_
  intro p e s m args below meth c sz ls hargs hsz hM hin hE hX hl
  have hx := hM.1
  have hb := hM.2.1
  have hl : lv_has ls 2 [(0, .ref o), (1, .int a)] := hl
  refine lv_iload_n hx hb dX5_isInvoice_0 rfl (lv_at hl 1 rfl) ?_
  refine lv_iconst (v := 0) hx hb dX5_isInvoice_1 (by decide) ?_
  refine lv_aload_n hx hb dX5_isInvoice_2 rfl (lv_at hl 0 rfl) ?_
  refine m_get hM hE hX hR 2 (by decide) k_1069 rfl rfl dX5_isInvoice_3 ?_
  refine lv_iconst (v := 1) hx hb dX5_isInvoice_6 (by decide) ?_
  refine lv_isub hx hb dX5_isInvoice_7 ?_
  refine k_goi (k_S (n := 3) (As := [.int a, .int 0, .int ((M 2 0) - 1)]) (rest := []) hM hE hX hl (c_X5_isIn l γ L F a 0 ((M 2 0) - 1)) k_1155 k_1156 k_9 k_1157 ⟨by decide, by decide, by decide +kernel⟩ (by decide) rfl rfl (Nat.le_of_ble_eq_true rfl) dX5_isInvoice_8 (by decide)) hE hX (fun r L1 F1 H locs hp hX => ?_)
  obtain ⟨rfl, rfl, ⟨rfl, h_1⟩ | ⟨rfl, h_1⟩⟩ := hp
  · exact k_zret hM rfl hsz hX ⟨_, rfl, rfl, rfl, Or.inl ⟨rfl, h_1⟩⟩ (by decide) (by decide) dX5_isInvoice_11
  · exact k_zret hM rfl hsz hX ⟨_, rfl, rfl, rfl, Or.inr ⟨rfl, h_1⟩⟩ (by decide) (by decide) dX5_isInvoice_11
set_option maxHeartbeats 4000000 in
set_option maxRecDepth 100000 in
theorem c_X5_isMonth (l : Launch) (γ : kG) (L : List Nat) (F : kF) (o : Nat) (ad : Nat → Nat) (M : mM) (hR : RepM γ L F o ad M) (a : Int32) : kC l yX5_isMonth cX5_isMonth 2 (some .boolean) (kRm 1 0 0) γ L F [.ref o, .int a] (kI fun r L1 F1 => L = L1 ∧ F = F1 ∧ ((r = 1 ∧ 0 ≤ a ∧ a ≤ M 0 0 / 30) ∨ (r = 0 ∧ ¬ (0 ≤ a ∧ a ≤ M 0 0 / 30)))) := by
  refine kC_of (by decide +kernel) (Nat.le_of_ble_eq_true rfl) ?_
  intro p e s m args below meth c sz ls hargs hsz hM hin hE hX hl
  have hx := hM.1
  have hb := hM.2.1
  have hl : lv_has ls 2 [(0, .ref o), (1, .int a)] := hl
  refine lv_iload_n hx hb dX5_isMonth_0 rfl (lv_at hl 1 rfl) ?_
  refine lv_iconst (v := 0) hx hb dX5_isMonth_1 (by decide) ?_
  refine lv_aload_n hx hb dX5_isMonth_2 rfl (lv_at hl 0 rfl) ?_
  refine m_get hM hE hX hR 0 (by decide) k_1067 rfl rfl dX5_isMonth_3 ?_
  refine lv_bipush (v := 30) hx hb dX5_isMonth_6 (by decide) ?_
  refine lv_idiv hx hb dX5_isMonth_8 (by decide) ?_
  refine k_goi (k_S (n := 3) (As := [.int a, .int 0, .int ((M 0 0) / 30)]) (rest := []) hM hE hX hl (c_X5_isIn l γ L F a 0 ((M 0 0) / 30)) k_1155 k_1156 k_9 k_1157 ⟨by decide, by decide, by decide +kernel⟩ (by decide) rfl rfl (Nat.le_of_ble_eq_true rfl) dX5_isMonth_9 (by decide)) hE hX (fun r L1 F1 H locs hp hX => ?_)
  obtain ⟨rfl, rfl, ⟨rfl, h_1⟩ | ⟨rfl, h_1⟩⟩ := hp
  · exact k_zret hM rfl hsz hX ⟨_, rfl, rfl, rfl, Or.inl ⟨rfl, h_1⟩⟩ (by decide) (by decide) dX5_isMonth_12
  · exact k_zret hM rfl hsz hX ⟨_, rfl, rfl, rfl, Or.inr ⟨rfl, h_1⟩⟩ (by decide) (by decide) dX5_isMonth_12
set_option maxHeartbeats 4000000 in
set_option maxRecDepth 100000 in
theorem c_X5_isGood (l : Launch) (γ : kG) (L : List Nat) (F : kF) (a b : Int32) : kC l yX5_isGood cX5_isGood 2 (some .boolean) (kRm 1 0 0) γ L F [.int a, .int b] (kI fun r L1 F1 => L = L1 ∧ F = F1 ∧ ((r = 1 ∧ (1 ≤ a ∧ a ≤ 9999) ∧ (b = 0 ∨ b = 7 ∨ b = 19)) ∨ (r = 0 ∧ ¬ ((1 ≤ a ∧ a ≤ 9999) ∧ (b = 0 ∨ b = 7 ∨ b = 19))))) := by
  refine kC_of (by decide +kernel) (Nat.le_of_ble_eq_true rfl) ?_
  intro p e s m args below meth c sz ls hargs hsz hM hin hE hX hl
  have hx := hM.1
  have hb := hM.2.1
  have hl : lv_has ls 2 [(0, .int a), (1, .int b)] := hl
  refine lv_iload_n hx hb dX5_isGood_0 rfl (lv_at hl 0 rfl) ?_
  refine lv_iconst (v := 1) hx hb dX5_isGood_1 (by decide) ?_
  refine lv_sipush (v := 9999) hx hb dX5_isGood_2 (by decide) ?_
  refine k_goi (k_S (n := 3) (As := [.int a, .int 1, .int 9999]) (rest := []) hM hE hX hl (c_X5_isIn l γ L F a 1 9999) k_1155 k_1156 k_9 k_1157 ⟨by decide, by decide, by decide +kernel⟩ (by decide) rfl rfl (Nat.le_of_ble_eq_true rfl) dX5_isGood_5 (by decide)) hE hX (fun r L1 F1 H locs hp hX => ?_)
  obtain ⟨rfl, rfl, ⟨rfl, h_1⟩ | ⟨rfl, h_1⟩⟩ := hp
  · refine lv_if_eq (tgt := 31) hx hb dX5_isGood_8 (by decide) (fun c_2 => absurd (show (1 : Int32) = 0 from c_2) (by decide)) (fun _ => ?_)
    refine lv_iload_n hx hb dX5_isGood_11 rfl (lv_at hl 1 rfl) ?_
    refine lv_if_eq (tgt := 27) hx hb dX5_isGood_12 (by decide) (fun c_3 => ?_) (fun c_3 => ?_)
    · refine lv_iconst (v := 1) hx hb dX5_isGood_27 (by decide) ?_
      refine lv_goto (tgt := 32) hx hb dX5_isGood_28 (by decide) ?_
      exact k_zret hM rfl hsz hX ⟨_, rfl, rfl, rfl, Or.inl ⟨rfl, ⟨h_1, Or.inl c_3⟩⟩⟩ (by decide) (by decide) dX5_isGood_32
    · refine lv_iload_n hx hb dX5_isGood_15 rfl (lv_at hl 1 rfl) ?_
      refine lv_bipush (v := 7) hx hb dX5_isGood_16 (by decide) ?_
      refine lv_icmp_eq (tgt := 27) hx hb dX5_isGood_18 (by decide) (fun c_4 => ?_) (fun c_4 => ?_)
      · refine lv_iconst (v := 1) hx hb dX5_isGood_27 (by decide) ?_
        refine lv_goto (tgt := 32) hx hb dX5_isGood_28 (by decide) ?_
        exact k_zret hM rfl hsz hX ⟨_, rfl, rfl, rfl, Or.inl ⟨rfl, ⟨h_1, Or.inr (Or.inl c_4)⟩⟩⟩ (by decide) (by decide) dX5_isGood_32
      · refine lv_iload_n hx hb dX5_isGood_21 rfl (lv_at hl 1 rfl) ?_
        refine lv_bipush (v := 19) hx hb dX5_isGood_22 (by decide) ?_
        refine lv_icmp_ne (tgt := 31) hx hb dX5_isGood_24 (by decide) (fun c_5 => ?_) (fun c_5 => ?_)
        · refine lv_iconst (v := 0) hx hb dX5_isGood_31 (by decide) ?_
          exact k_zret hM rfl hsz hX ⟨_, rfl, rfl, rfl, Or.inr ⟨rfl, fun h => h.2.elim c_3 (fun h => h.elim c_4 c_5)⟩⟩ (by decide) (by decide) dX5_isGood_32
        · refine lv_iconst (v := 1) hx hb dX5_isGood_27 (by decide) ?_
          refine lv_goto (tgt := 32) hx hb dX5_isGood_28 (by decide) ?_
          exact k_zret hM rfl hsz hX ⟨_, rfl, rfl, rfl, Or.inl ⟨rfl, ⟨h_1, Or.inr (Or.inr c_5)⟩⟩⟩ (by decide) (by decide) dX5_isGood_32
  · refine lv_if_eq (tgt := 31) hx hb dX5_isGood_8 (by decide) (fun _ => ?_) (fun c_6 => absurd (show ¬ (0 : Int32) = 0 from c_6) (by decide))
    refine lv_iconst (v := 0) hx hb dX5_isGood_31 (by decide) ?_
    exact k_zret hM rfl hsz hX ⟨_, rfl, rfl, rfl, Or.inr ⟨rfl, fun h => h_1 h.1⟩⟩ (by decide) (by decide) dX5_isGood_32
set_option maxHeartbeats 4000000 in
set_option maxRecDepth 100000 in
theorem c_X5_taxOf (l : Launch) (γ : kG) (L : List Nat) (F : kF) (a b : Int32) : kC l yX5_taxOf cX5_taxOf 2 (some .int) (kRm 0 0 0) γ L F [.int a, .int b] (kI fun r L1 F1 => L = L1 ∧ F = F1 ∧ r = tx a b) := by
  refine kC_of (by decide +kernel) (Nat.le_of_ble_eq_true rfl) ?_
  intro p e s m args below meth c sz ls hargs hsz hM hin hE hX hl
  have hx := hM.1
  have hb := hM.2.1
  have hl : lv_has ls 2 [(0, .int a), (1, .int b)] := hl
  refine lv_iload_n hx hb dX5_taxOf_0 rfl (lv_at hl 0 rfl) ?_
  refine lv_iload_n hx hb dX5_taxOf_1 rfl (lv_at hl 1 rfl) ?_
  refine lv_imul hx hb dX5_taxOf_2 ?_
  refine lv_bipush (v := 100) hx hb dX5_taxOf_3 (by decide) ?_
  refine lv_idiv hx hb dX5_taxOf_5 (by decide) ?_
  exact k_iret hM hsz hX ⟨_, rfl, rfl, rfl, rfl⟩ (by decide) (by decide) dX5_taxOf_6
set_option maxHeartbeats 4000000 in
set_option maxRecDepth 100000 in
theorem c_X5_isLine (l : Launch) (γ : kG) (L : List Nat) (F : kF) (o : Nat) (ad : Nat → Nat) (M : mM) (hR : RepM γ L F o ad M) (a b : Int32) (hn : okN M) (hk : ∀ i, i < nn M → okL M i) : kC l yX5_isLine cX5_isLine 3 (some .boolean) (kRm 2 0 0) γ L F [.ref o, .int a, .int b] (kI fun r L1 F1 => L = L1 ∧ F = F1 ∧ ((r = 1 ∧ (0 ≤ a ∧ a ≤ M 2 0 - 1) ∧ 0 ≤ b ∧ b ≤ M 13 (kj a) - 1) ∨ (r = 0 ∧ ¬ ((0 ≤ a ∧ a ≤ M 2 0 - 1) ∧ 0 ≤ b ∧ b ≤ M 13 (kj a) - 1)))) := by
  refine kC_of (by decide +kernel) (Nat.le_of_ble_eq_true rfl) ?_
  intro p e s m args below meth c sz ls hargs hsz hM hin hE hX hl
  have hx := hM.1
  have hb := hM.2.1
  have hl : lv_has ls 3 [(0, .ref o), (1, .int a), (2, .int b)] := hl
  refine lv_aload_n hx hb dX5_isLine_0 rfl (lv_at hl 0 rfl) ?_
  refine lv_iload_n hx hb dX5_isLine_1 rfl (lv_at hl 1 rfl) ?_
  refine k_goi (k_V (n := 1) (As := [.int a]) (rest := []) hM hE hX hl (c_X5_isInvoice l γ L F o ad M hR a) hR.1 hR.2.1 rfl k_1169 k_1171 kp_28 k_9 k_1172 ⟨rfl, by decide, by decide, by decide +kernel⟩ (by decide) rfl rfl (Nat.le_of_ble_eq_true rfl) dX5_isLine_2 (by decide)) hE hX (fun r L1 F1 H locs hp hX => ?_)
  obtain ⟨rfl, rfl, ⟨rfl, h_1⟩ | ⟨rfl, h_1⟩⟩ := hp
  · have hj : okI a (nn M) := ixM (M := M) hn h_1
    have hj2 : kj a < nn M := hj.2
    refine lv_if_eq (tgt := 28) hx hb dX5_isLine_5 (by decide) (fun c_2 => absurd (show (1 : Int32) = 0 from c_2) (by decide)) (fun _ => ?_)
    have hj := ixM hn h_1
    have hj2 := hj.2
    have hn2 := hn.2
    refine lv_iload_n hx hb dX5_isLine_8 rfl (lv_at hl 2 rfl) ?_
    refine lv_iconst (v := 0) hx hb dX5_isLine_9 (by decide) ?_
    refine lv_aload_n hx hb dX5_isLine_10 rfl (lv_at hl 0 rfl) ?_
    refine m_get hM hE hX hR 13 (by decide) k_1080 rfl rfl dX5_isLine_11 ?_
    refine lv_iload_n hx hb dX5_isLine_14 rfl (lv_at hl 1 rfl) ?_
    refine m_iald hM hE hX hR 13 (kj a) (by decide) rfl rfl hj.1 (show kj a < 20 by omega) dX5_isLine_15 ?_
    refine lv_iconst (v := 1) hx hb dX5_isLine_16 (by decide) ?_
    refine lv_isub hx hb dX5_isLine_17 ?_
    refine k_goi (k_S (n := 3) (As := [.int b, .int 0, .int ((M 13 (kj a)) - 1)]) (rest := []) hM hE hX hl (c_X5_isIn l γ L F b 0 ((M 13 (kj a)) - 1)) k_1155 k_1156 k_9 k_1157 ⟨by decide, by decide, by decide +kernel⟩ (by decide) rfl rfl (Nat.le_of_ble_eq_true rfl) dX5_isLine_18 (by decide)) hE hX (fun r L1 F1 H locs hp hX => ?_)
    obtain ⟨rfl, rfl, ⟨rfl, h_3⟩ | ⟨rfl, h_3⟩⟩ := hp
    · refine lv_if_eq (tgt := 28) hx hb dX5_isLine_21 (by decide) (fun c_4 => absurd (show (1 : Int32) = 0 from c_4) (by decide)) (fun _ => ?_)
      refine lv_iconst (v := 1) hx hb dX5_isLine_24 (by decide) ?_
      refine lv_goto (tgt := 29) hx hb dX5_isLine_25 (by decide) ?_
      exact k_zret hM rfl hsz hX ⟨_, rfl, rfl, rfl, Or.inl ⟨rfl, h_1, h_3⟩⟩ (by decide) (by decide) dX5_isLine_29
    · refine lv_if_eq (tgt := 28) hx hb dX5_isLine_21 (by decide) (fun _ => ?_) (fun c_5 => absurd (show ¬ (0 : Int32) = 0 from c_5) (by decide))
      refine lv_iconst (v := 0) hx hb dX5_isLine_28 (by decide) ?_
      exact k_zret hM rfl hsz hX ⟨_, rfl, rfl, rfl, Or.inr ⟨rfl, fun h => h_3 h.2⟩⟩ (by decide) (by decide) dX5_isLine_29
  · refine lv_if_eq (tgt := 28) hx hb dX5_isLine_5 (by decide) (fun _ => ?_) (fun c_6 => absurd (show ¬ (0 : Int32) = 0 from c_6) (by decide))
    refine lv_iconst (v := 0) hx hb dX5_isLine_28 (by decide) ?_
    exact k_zret hM rfl hsz hX ⟨_, rfl, rfl, rfl, Or.inr ⟨rfl, fun h => h_1 h.1⟩⟩ (by decide) (by decide) dX5_isLine_29
def costs_st (M : mM) (i : Nat) (w : Int32) (j : Nat) (x : Int32) : Int32 := (if w = 0 then (if (M 17 (3 * i + j)) = 0 then (x + ((M 14 (3 * i + j)) + (tx (M 14 (3 * i + j)) (M 16 (3 * i + j))))) else (x + 0)) else (x + ((M 14 (3 * i + j)) + (tx (M 14 (3 * i + j)) (M 16 (3 * i + j))))))
def costs (M : mM) (i : Nat) (w : Int32) : Int32 := l_fold (costs_st M i w) 0 (kk M i)
set_option maxHeartbeats 4000000 in
set_option maxRecDepth 100000 in
theorem c_X5_costs (l : Launch) (γ : kG) (L : List Nat) (F : kF) (o : Nat) (ad : Nat → Nat) (M : mM) (hR : RepM γ L F o ad M) (i : Nat) (a w : Int32) (ha : a = nI i) (hi : i < 20) (hk : okL M i) : kC l yX5_costs cX5_costs 5 (some .int) (kRm 1 0 0) γ L F [.ref o, .int a, .int w] (kI fun r L1 F1 => L = L1 ∧ F = F1 ∧ r = costs M i w) := by
  subst ha
  refine kC_of (by decide +kernel) (Nat.le_of_ble_eq_true rfl) ?_
  intro p e s m args below meth c sz ls hargs hsz hM hin hE hX hl
  have hx := hM.1
  have hb := hM.2.1
  have hl : lv_has ls 5 [(0, .ref o), (1, .int (nI i)), (2, .int w)] := hl
  have hk2 := hk.2
  have hloop : ∀ (n j : Nat) (x : Int32), kk M i < j + n → j ≤ kk M i → x = l_fold (costs_st M i w) 0 j → ∀ (H : Heap) (locs : List Loc) (ls : Array Slot), kX γ (kA L sz) s L F H locs → lv_has ls 5 [(3, .int x), (4, .int (nI (3 * i + j))), (0, .ref o), (1, .int (nI i)), (2, .int w)] → W p l e (kRm 1 0 0) s m args below meth c H locs 0 0 (MQ below (kQ γ L sz (kI fun r L1 F1 => L = L1 ∧ F = F1 ∧ r = costs M i w)) args s (kRm 1 0 0).cells (kRm 1 0 0).slots (kA L sz)) (F0 m 7 ls []) := by
    intro n
    induction n with
    | zero => intro j x h1 h2; exact absurd h1 (by omega)
    | succ n ih =>
      intro j x h1 h2 hxj H locs ls hX hl
      refine lv_iload hx hb dX5_costs_7 (lv_at hl 1 rfl) ?_
      refine lv_iconst (v := 3) hx hb dX5_costs_9 (by decide) ?_
      refine lv_iload_n hx hb dX5_costs_10 rfl (lv_at hl 3 rfl) ?_
      refine lv_imul hx hb dX5_costs_11 ?_
      rw [show (3 : Int32) * (nI i) = (nI (3 * i)) from k3 i]
      refine lv_aload_n hx hb dX5_costs_12 rfl (lv_at hl 2 rfl) ?_
      refine m_get hM hE hX hR 13 (by decide) k_1080 rfl rfl dX5_costs_13 ?_
      refine lv_iload_n hx hb dX5_costs_16 rfl (lv_at hl 3 rfl) ?_
      refine m_iald hM hE hX hR 13 i (by decide) rfl rfl rfl (show i < 20 by omega) dX5_costs_17 ?_
      refine lv_iadd hx hb dX5_costs_18 ?_
      rw [show (nI (3 * i)) + (M 13 i) = (nI (3 * i + kk M i)) from by rw [hk.1, nI_add]]
      refine lv_icmp_ge (tgt := 74) hx hb dX5_costs_19 (by decide) (fun c_1 => ?_) (fun c_1 => ?_)
      · have ej : j = kk M i := by
          have h9 := lp_out (a := (3 * i + j)) (b := (3 * i + kk M i)) (by omega) (by omega) (c_1)
          omega
        refine lv_iload_n hx hb dX5_costs_74 rfl (lv_at hl 0 rfl) ?_
        exact k_iret hM hsz hX ⟨_, rfl, rfl, rfl, by rw [hxj, ej]; rfl⟩ (by decide) (by decide) dX5_costs_75
      · have hj : j < kk M i := by
          have h9 := lp_in (a := (3 * i + j)) (b := (3 * i + kk M i)) (by omega) (by omega) (c_1)
          omega
        refine lv_iload_n hx hb dX5_costs_22 rfl (lv_at hl 0 rfl) ?_
        refine lv_iload_n hx hb dX5_costs_23 rfl (lv_at hl 4 rfl) ?_
        refine lv_if_ne (tgt := 37) hx hb dX5_costs_24 (by decide) (fun c_2 => ?_) (fun c_2 => ?_)
        · refine lv_aload_n hx hb dX5_costs_37 rfl (lv_at hl 2 rfl) ?_
          refine m_get hM hE hX hR 14 (by decide) k_1081 rfl rfl dX5_costs_38 ?_
          refine lv_iload hx hb dX5_costs_41 (lv_at hl 1 rfl) ?_
          refine m_iald hM hE hX hR 14 (3 * i + j) (by decide) rfl rfl rfl (show 3 * i + j < 60 by omega) dX5_costs_43 ?_
          refine lv_aload_n hx hb dX5_costs_44 rfl (lv_at hl 2 rfl) ?_
          refine m_get hM hE hX hR 14 (by decide) k_1081 rfl rfl dX5_costs_45 ?_
          refine lv_iload hx hb dX5_costs_48 (lv_at hl 1 rfl) ?_
          refine m_iald hM hE hX hR 14 (3 * i + j) (by decide) rfl rfl rfl (show 3 * i + j < 60 by omega) dX5_costs_50 ?_
          refine lv_aload_n hx hb dX5_costs_51 rfl (lv_at hl 2 rfl) ?_
          refine m_get hM hE hX hR 16 (by decide) k_1083 rfl rfl dX5_costs_52 ?_
          refine lv_iload hx hb dX5_costs_55 (lv_at hl 1 rfl) ?_
          refine m_iald hM hE hX hR 16 (3 * i + j) (by decide) rfl rfl rfl (show 3 * i + j < 60 by omega) dX5_costs_57 ?_
          refine k_goi (k_S (n := 2) (As := [.int (M 14 (3 * i + j)), .int (M 16 (3 * i + j))]) (rest := [.int (M 14 (3 * i + j)), .int x]) hM hE hX hl (c_X5_taxOf l γ L F (M 14 (3 * i + j)) (M 16 (3 * i + j))) k_1189 k_1190 k_9 k_1191 ⟨by decide, by decide, by decide +kernel⟩ (by decide) rfl rfl (Nat.le_of_ble_eq_true rfl) dX5_costs_58 (by decide)) hE hX (fun r L1 F1 H locs hp hX => ?_)
          obtain ⟨rfl, rfl, rfl⟩ := hp
          refine lv_iadd hx hb dX5_costs_61 ?_
          refine lv_goto (tgt := 66) hx hb dX5_costs_62 (by decide) ?_
          refine lv_iadd hx hb dX5_costs_66 ?_
          refine lv_istore_n (lv' := [(3, .int (x + ((M 14 (3 * i + j)) + (tx (M 14 (3 * i + j)) (M 16 (3 * i + j)))))), (4, .int (nI (3 * i + j))), (0, .ref o), (1, .int (nI i)), (2, .int w)]) hx hb dX5_costs_67 rfl hl (by decide) rfl (fun ls hl => ?_)
          refine lv_iinc (v := (nI (3 * i + (j + 1)))) (lv' := [(4, .int (nI (3 * i + (j + 1)))), (3, .int (x + ((M 14 (3 * i + j)) + (tx (M 14 (3 * i + j)) (M 16 (3 * i + j)))))), (0, .ref o), (1, .int (nI i)), (2, .int w)]) hx hb dX5_costs_68 hl (k := 1) rfl (nI_1 _) (by decide) rfl (fun ls hl => ?_)
          refine lv_goto (tgt := 7) hx hb dX5_costs_71 (by decide) ?_
          exact ih (j + 1) _ (by omega) (by omega) (show (x + ((M 14 (3 * i + j)) + (tx (M 14 (3 * i + j)) (M 16 (3 * i + j))))) = l_fold (costs_st M i w) 0 (j + 1) from by rw [l_fold, ← hxj]; exact (show costs_st M i w j x = _ from ((if_neg c_2).trans rfl)).symm) _ _ _ hX (lv_sub hl [1, 0, 2, 3, 4] rfl)
        · refine lv_aload_n hx hb dX5_costs_27 rfl (lv_at hl 2 rfl) ?_
          refine m_get hM hE hX hR 17 (by decide) k_1084 rfl rfl dX5_costs_28 ?_
          refine lv_iload hx hb dX5_costs_31 (lv_at hl 1 rfl) ?_
          refine m_zald hM hE hX hR 17 (3 * i + j) (by decide) rfl rfl rfl (show 3 * i + j < 60 by omega) dX5_costs_33 ?_
          refine lv_if_ne (tgt := 65) hx hb dX5_costs_34 (by decide) (fun c_3 => ?_) (fun c_3 => ?_)
          · refine lv_iconst (v := 0) hx hb dX5_costs_65 (by decide) ?_
            refine lv_iadd hx hb dX5_costs_66 ?_
            refine lv_istore_n (lv' := [(3, .int (x + 0)), (4, .int (nI (3 * i + j))), (0, .ref o), (1, .int (nI i)), (2, .int w)]) hx hb dX5_costs_67 rfl hl (by decide) rfl (fun ls hl => ?_)
            refine lv_iinc (v := (nI (3 * i + (j + 1)))) (lv' := [(4, .int (nI (3 * i + (j + 1)))), (3, .int (x + 0)), (0, .ref o), (1, .int (nI i)), (2, .int w)]) hx hb dX5_costs_68 hl (k := 1) rfl (nI_1 _) (by decide) rfl (fun ls hl => ?_)
            refine lv_goto (tgt := 7) hx hb dX5_costs_71 (by decide) ?_
            exact ih (j + 1) _ (by omega) (by omega) (show (x + 0) = l_fold (costs_st M i w) 0 (j + 1) from by rw [l_fold, ← hxj]; exact (show costs_st M i w j x = _ from ((if_pos c_2).trans ((if_neg c_3).trans rfl))).symm) _ _ _ hX (lv_sub hl [1, 0, 2, 3, 4] rfl)
          · refine lv_aload_n hx hb dX5_costs_37 rfl (lv_at hl 2 rfl) ?_
            refine m_get hM hE hX hR 14 (by decide) k_1081 rfl rfl dX5_costs_38 ?_
            refine lv_iload hx hb dX5_costs_41 (lv_at hl 1 rfl) ?_
            refine m_iald hM hE hX hR 14 (3 * i + j) (by decide) rfl rfl rfl (show 3 * i + j < 60 by omega) dX5_costs_43 ?_
            refine lv_aload_n hx hb dX5_costs_44 rfl (lv_at hl 2 rfl) ?_
            refine m_get hM hE hX hR 14 (by decide) k_1081 rfl rfl dX5_costs_45 ?_
            refine lv_iload hx hb dX5_costs_48 (lv_at hl 1 rfl) ?_
            refine m_iald hM hE hX hR 14 (3 * i + j) (by decide) rfl rfl rfl (show 3 * i + j < 60 by omega) dX5_costs_50 ?_
            refine lv_aload_n hx hb dX5_costs_51 rfl (lv_at hl 2 rfl) ?_
            refine m_get hM hE hX hR 16 (by decide) k_1083 rfl rfl dX5_costs_52 ?_
            refine lv_iload hx hb dX5_costs_55 (lv_at hl 1 rfl) ?_
            refine m_iald hM hE hX hR 16 (3 * i + j) (by decide) rfl rfl rfl (show 3 * i + j < 60 by omega) dX5_costs_57 ?_
            refine k_goi (k_S (n := 2) (As := [.int (M 14 (3 * i + j)), .int (M 16 (3 * i + j))]) (rest := [.int (M 14 (3 * i + j)), .int x]) hM hE hX hl (c_X5_taxOf l γ L F (M 14 (3 * i + j)) (M 16 (3 * i + j))) k_1189 k_1190 k_9 k_1191 ⟨by decide, by decide, by decide +kernel⟩ (by decide) rfl rfl (Nat.le_of_ble_eq_true rfl) dX5_costs_58 (by decide)) hE hX (fun r L1 F1 H locs hp hX => ?_)
            obtain ⟨rfl, rfl, rfl⟩ := hp
            refine lv_iadd hx hb dX5_costs_61 ?_
            refine lv_goto (tgt := 66) hx hb dX5_costs_62 (by decide) ?_
            refine lv_iadd hx hb dX5_costs_66 ?_
            refine lv_istore_n (lv' := [(3, .int (x + ((M 14 (3 * i + j)) + (tx (M 14 (3 * i + j)) (M 16 (3 * i + j)))))), (4, .int (nI (3 * i + j))), (0, .ref o), (1, .int (nI i)), (2, .int w)]) hx hb dX5_costs_67 rfl hl (by decide) rfl (fun ls hl => ?_)
            refine lv_iinc (v := (nI (3 * i + (j + 1)))) (lv' := [(4, .int (nI (3 * i + (j + 1)))), (3, .int (x + ((M 14 (3 * i + j)) + (tx (M 14 (3 * i + j)) (M 16 (3 * i + j)))))), (0, .ref o), (1, .int (nI i)), (2, .int w)]) hx hb dX5_costs_68 hl (k := 1) rfl (nI_1 _) (by decide) rfl (fun ls hl => ?_)
            refine lv_goto (tgt := 7) hx hb dX5_costs_71 (by decide) ?_
            exact ih (j + 1) _ (by omega) (by omega) (show (x + ((M 14 (3 * i + j)) + (tx (M 14 (3 * i + j)) (M 16 (3 * i + j))))) = l_fold (costs_st M i w) 0 (j + 1) from by rw [l_fold, ← hxj]; exact (show costs_st M i w j x = _ from ((if_pos c_2).trans ((if_pos c_3).trans rfl))).symm) _ _ _ hX (lv_sub hl [1, 0, 2, 3, 4] rfl)
  refine lv_iconst (v := 0) hx hb dX5_costs_0 (by decide) ?_
  refine lv_istore_n (lv' := [(3, .int 0), (0, .ref o), (1, .int (nI i)), (2, .int w)]) hx hb dX5_costs_1 rfl hl (by decide) rfl (fun ls hl => ?_)
  refine lv_iconst (v := 3) hx hb dX5_costs_2 (by decide) ?_
  refine lv_iload_n hx hb dX5_costs_3 rfl (lv_at hl 2 rfl) ?_
  refine lv_imul hx hb dX5_costs_4 ?_
  rw [show (3 : Int32) * (nI i) = (nI (3 * i)) from k3 i]
  refine lv_istore (lv' := [(4, .int (nI (3 * i))), (3, .int 0), (0, .ref o), (1, .int (nI i)), (2, .int w)]) hx hb dX5_costs_5 hl (by decide) rfl (fun ls hl => ?_)
  exact hloop (kk M i + 1) 0 _ (by omega) (Nat.zero_le _) rfl _ _ _ hX (lv_sub hl [1, 0, 2, 3, 4] rfl)
def taxAll_st (M : mM) (i : Nat) (w : Int32) (j : Nat) (x : Int32) : Int32 := (if w = 0 then (x + (tx (M 14 (3 * i + j)) (M 16 (3 * i + j)))) else (x + (tx (M 15 (3 * i + j)) (M 16 (3 * i + j)))))
def taxAll (M : mM) (i : Nat) (w : Int32) : Int32 := l_fold (taxAll_st M i w) 0 (kk M i)
set_option maxHeartbeats 4000000 in
set_option maxRecDepth 100000 in
theorem c_X5_taxOfAll (l : Launch) (γ : kG) (L : List Nat) (F : kF) (o : Nat) (ad : Nat → Nat) (M : mM) (hR : RepM γ L F o ad M) (i : Nat) (a w : Int32) (ha : a = nI i) (hi : i < 20) (hk : okL M i) : kC l yX5_taxOfAll cX5_taxOfAll 5 (some .int) (kRm 1 0 0) γ L F [.ref o, .int a, .int w] (kI fun r L1 F1 => L = L1 ∧ F = F1 ∧ r = taxAll M i w) := by
  subst ha
  refine kC_of (by decide +kernel) (Nat.le_of_ble_eq_true rfl) ?_
  intro p e s m args below meth c sz ls hargs hsz hM hin hE hX hl
  have hx := hM.1
  have hb := hM.2.1
  have hl : lv_has ls 5 [(0, .ref o), (1, .int (nI i)), (2, .int w)] := hl
  have hk2 := hk.2
  have hloop : ∀ (n j : Nat) (x : Int32), kk M i < j + n → j ≤ kk M i → x = l_fold (taxAll_st M i w) 0 j → ∀ (H : Heap) (locs : List Loc) (ls : Array Slot), kX γ (kA L sz) s L F H locs → lv_has ls 5 [(3, .int x), (4, .int (nI (3 * i + j))), (0, .ref o), (1, .int (nI i)), (2, .int w)] → W p l e (kRm 1 0 0) s m args below meth c H locs 0 0 (MQ below (kQ γ L sz (kI fun r L1 F1 => L = L1 ∧ F = F1 ∧ r = taxAll M i w)) args s (kRm 1 0 0).cells (kRm 1 0 0).slots (kA L sz)) (F0 m 7 ls []) := by
    intro n
    induction n with
    | zero => intro j x h1 h2; exact absurd h1 (by omega)
    | succ n ih =>
      intro j x h1 h2 hxj H locs ls hX hl
      refine lv_iload hx hb dX5_taxOfAll_7 (lv_at hl 1 rfl) ?_
      refine lv_iconst (v := 3) hx hb dX5_taxOfAll_9 (by decide) ?_
      refine lv_iload_n hx hb dX5_taxOfAll_10 rfl (lv_at hl 3 rfl) ?_
      refine lv_imul hx hb dX5_taxOfAll_11 ?_
      rw [show (3 : Int32) * (nI i) = (nI (3 * i)) from k3 i]
      refine lv_aload_n hx hb dX5_taxOfAll_12 rfl (lv_at hl 2 rfl) ?_
      refine m_get hM hE hX hR 13 (by decide) k_1080 rfl rfl dX5_taxOfAll_13 ?_
      refine lv_iload_n hx hb dX5_taxOfAll_16 rfl (lv_at hl 3 rfl) ?_
      refine m_iald hM hE hX hR 13 i (by decide) rfl rfl rfl (show i < 20 by omega) dX5_taxOfAll_17 ?_
      refine lv_iadd hx hb dX5_taxOfAll_18 ?_
      rw [show (nI (3 * i)) + (M 13 i) = (nI (3 * i + kk M i)) from by rw [hk.1, nI_add]]
      refine lv_icmp_ge (tgt := 62) hx hb dX5_taxOfAll_19 (by decide) (fun c_1 => ?_) (fun c_1 => ?_)
      · have ej : j = kk M i := by
          have h9 := lp_out (a := (3 * i + j)) (b := (3 * i + kk M i)) (by omega) (by omega) (c_1)
          omega
        refine lv_iload_n hx hb dX5_taxOfAll_62 rfl (lv_at hl 0 rfl) ?_
        exact k_iret hM hsz hX ⟨_, rfl, rfl, rfl, by rw [hxj, ej]; rfl⟩ (by decide) (by decide) dX5_taxOfAll_63
      · have hj : j < kk M i := by
          have h9 := lp_in (a := (3 * i + j)) (b := (3 * i + kk M i)) (by omega) (by omega) (c_1)
          omega
        refine lv_iload_n hx hb dX5_taxOfAll_22 rfl (lv_at hl 0 rfl) ?_
        refine lv_iload_n hx hb dX5_taxOfAll_23 rfl (lv_at hl 4 rfl) ?_
        refine lv_if_eq (tgt := 37) hx hb dX5_taxOfAll_24 (by decide) (fun c_2 => ?_) (fun c_2 => ?_)
        · refine lv_aload_n hx hb dX5_taxOfAll_37 rfl (lv_at hl 2 rfl) ?_
          refine m_get hM hE hX hR 14 (by decide) k_1081 rfl rfl dX5_taxOfAll_38 ?_
          refine lv_iload hx hb dX5_taxOfAll_41 (lv_at hl 1 rfl) ?_
          refine m_iald hM hE hX hR 14 (3 * i + j) (by decide) rfl rfl rfl (show 3 * i + j < 60 by omega) dX5_taxOfAll_43 ?_
          refine lv_aload_n hx hb dX5_taxOfAll_44 rfl (lv_at hl 2 rfl) ?_
          refine m_get hM hE hX hR 16 (by decide) k_1083 rfl rfl dX5_taxOfAll_45 ?_
          refine lv_iload hx hb dX5_taxOfAll_48 (lv_at hl 1 rfl) ?_
          refine m_iald hM hE hX hR 16 (3 * i + j) (by decide) rfl rfl rfl (show 3 * i + j < 60 by omega) dX5_taxOfAll_50 ?_
          refine k_goi (k_S (n := 2) (As := [.int (M 14 (3 * i + j)), .int (M 16 (3 * i + j))]) (rest := [.int x]) hM hE hX hl (c_X5_taxOf l γ L F (M 14 (3 * i + j)) (M 16 (3 * i + j))) k_1189 k_1190 k_9 k_1191 ⟨by decide, by decide, by decide +kernel⟩ (by decide) rfl rfl (Nat.le_of_ble_eq_true rfl) dX5_taxOfAll_51 (by decide)) hE hX (fun r L1 F1 H locs hp hX => ?_)
          obtain ⟨rfl, rfl, rfl⟩ := hp
          refine lv_iadd hx hb dX5_taxOfAll_54 ?_
          refine lv_istore_n (lv' := [(3, .int (x + (tx (M 14 (3 * i + j)) (M 16 (3 * i + j))))), (4, .int (nI (3 * i + j))), (0, .ref o), (1, .int (nI i)), (2, .int w)]) hx hb dX5_taxOfAll_55 rfl hl (by decide) rfl (fun ls hl => ?_)
          refine lv_iinc (v := (nI (3 * i + (j + 1)))) (lv' := [(4, .int (nI (3 * i + (j + 1)))), (3, .int (x + (tx (M 14 (3 * i + j)) (M 16 (3 * i + j))))), (0, .ref o), (1, .int (nI i)), (2, .int w)]) hx hb dX5_taxOfAll_56 hl (k := 1) rfl (nI_1 _) (by decide) rfl (fun ls hl => ?_)
          refine lv_goto (tgt := 7) hx hb dX5_taxOfAll_59 (by decide) ?_
          exact ih (j + 1) _ (by omega) (by omega) (show (x + (tx (M 14 (3 * i + j)) (M 16 (3 * i + j)))) = l_fold (taxAll_st M i w) 0 (j + 1) from by rw [l_fold, ← hxj]; exact (show taxAll_st M i w j x = _ from ((if_pos c_2).trans rfl)).symm) _ _ _ hX (lv_sub hl [1, 0, 2, 3, 4] rfl)
        · refine lv_aload_n hx hb dX5_taxOfAll_27 rfl (lv_at hl 2 rfl) ?_
          refine m_get hM hE hX hR 15 (by decide) k_1082 rfl rfl dX5_taxOfAll_28 ?_
          refine lv_iload hx hb dX5_taxOfAll_31 (lv_at hl 1 rfl) ?_
          refine m_iald hM hE hX hR 15 (3 * i + j) (by decide) rfl rfl rfl (show 3 * i + j < 60 by omega) dX5_taxOfAll_33 ?_
          refine lv_goto (tgt := 44) hx hb dX5_taxOfAll_34 (by decide) ?_
          refine lv_aload_n hx hb dX5_taxOfAll_44 rfl (lv_at hl 2 rfl) ?_
          refine m_get hM hE hX hR 16 (by decide) k_1083 rfl rfl dX5_taxOfAll_45 ?_
          refine lv_iload hx hb dX5_taxOfAll_48 (lv_at hl 1 rfl) ?_
          refine m_iald hM hE hX hR 16 (3 * i + j) (by decide) rfl rfl rfl (show 3 * i + j < 60 by omega) dX5_taxOfAll_50 ?_
          refine k_goi (k_S (n := 2) (As := [.int (M 15 (3 * i + j)), .int (M 16 (3 * i + j))]) (rest := [.int x]) hM hE hX hl (c_X5_taxOf l γ L F (M 15 (3 * i + j)) (M 16 (3 * i + j))) k_1189 k_1190 k_9 k_1191 ⟨by decide, by decide, by decide +kernel⟩ (by decide) rfl rfl (Nat.le_of_ble_eq_true rfl) dX5_taxOfAll_51 (by decide)) hE hX (fun r L1 F1 H locs hp hX => ?_)
          obtain ⟨rfl, rfl, rfl⟩ := hp
          refine lv_iadd hx hb dX5_taxOfAll_54 ?_
          refine lv_istore_n (lv' := [(3, .int (x + (tx (M 15 (3 * i + j)) (M 16 (3 * i + j))))), (4, .int (nI (3 * i + j))), (0, .ref o), (1, .int (nI i)), (2, .int w)]) hx hb dX5_taxOfAll_55 rfl hl (by decide) rfl (fun ls hl => ?_)
          refine lv_iinc (v := (nI (3 * i + (j + 1)))) (lv' := [(4, .int (nI (3 * i + (j + 1)))), (3, .int (x + (tx (M 15 (3 * i + j)) (M 16 (3 * i + j))))), (0, .ref o), (1, .int (nI i)), (2, .int w)]) hx hb dX5_taxOfAll_56 hl (k := 1) rfl (nI_1 _) (by decide) rfl (fun ls hl => ?_)
          refine lv_goto (tgt := 7) hx hb dX5_taxOfAll_59 (by decide) ?_
          exact ih (j + 1) _ (by omega) (by omega) (show (x + (tx (M 15 (3 * i + j)) (M 16 (3 * i + j)))) = l_fold (taxAll_st M i w) 0 (j + 1) from by rw [l_fold, ← hxj]; exact (show taxAll_st M i w j x = _ from ((if_neg c_2).trans rfl)).symm) _ _ _ hX (lv_sub hl [1, 0, 2, 3, 4] rfl)
  refine lv_iconst (v := 0) hx hb dX5_taxOfAll_0 (by decide) ?_
  refine lv_istore_n (lv' := [(3, .int 0), (0, .ref o), (1, .int (nI i)), (2, .int w)]) hx hb dX5_taxOfAll_1 rfl hl (by decide) rfl (fun ls hl => ?_)
  refine lv_iconst (v := 3) hx hb dX5_taxOfAll_2 (by decide) ?_
  refine lv_iload_n hx hb dX5_taxOfAll_3 rfl (lv_at hl 2 rfl) ?_
  refine lv_imul hx hb dX5_taxOfAll_4 ?_
  rw [show (3 : Int32) * (nI i) = (nI (3 * i)) from k3 i]
  refine lv_istore (lv' := [(4, .int (nI (3 * i))), (3, .int 0), (0, .ref o), (1, .int (nI i)), (2, .int w)]) hx hb dX5_taxOfAll_5 hl (by decide) rfl (fun ls hl => ?_)
  exact hloop (kk M i + 1) 0 _ (by omega) (Nat.zero_le _) rfl _ _ _ hX (lv_sub hl [1, 0, 2, 3, 4] rfl)
def owed (M : mM) (i : Nat) : Int32 := (if (M 6 i) = 1 then (if ((costs M i 0) - (M 12 i)) ≤ 0 then 0 else ((costs M i 0) - (M 12 i))) else 0)
set_option maxHeartbeats 4000000 in
set_option maxRecDepth 100000 in
theorem c_X5_owed (l : Launch) (γ : kG) (L : List Nat) (F : kF) (o : Nat) (ad : Nat → Nat) (M : mM) (hR : RepM γ L F o ad M) (i : Nat) (a : Int32) (ha : a = nI i) (hi : i < 20) (hk : okL M i) : kC l yX5_owed cX5_owed 3 (some .int) (kRm 2 0 0) γ L F [.ref o, .int a] (kI fun r L1 F1 => L = L1 ∧ F = F1 ∧ r = owed M i) := by
  subst ha
  refine kC_of (by decide +kernel) (Nat.le_of_ble_eq_true rfl) ?_
  intro p e s m args below meth c sz ls hargs hsz hM hin hE hX hl
  have hx := hM.1
  have hb := hM.2.1
  have hl : lv_has ls 3 [(0, .ref o), (1, .int (nI i))] := hl
  refine lv_aload_n hx hb dX5_owed_0 rfl (lv_at hl 0 rfl) ?_
  refine lv_iload_n hx hb dX5_owed_1 rfl (lv_at hl 1 rfl) ?_
  refine lv_iconst (v := 0) hx hb dX5_owed_2 (by decide) ?_
  refine k_goi (k_V (n := 2) (As := [.int (nI i), .int 0]) (rest := []) hM hE hX hl (c_X5_costs l γ L F o ad M hR i (nI i) 0 rfl hi hk) hR.1 hR.2.1 rfl k_1185 k_1187 kp_31 k_9 k_1188 ⟨rfl, by decide, by decide, by decide +kernel⟩ (by decide) rfl rfl (Nat.le_of_ble_eq_true rfl) dX5_owed_3 (by decide)) hE hX (fun r L1 F1 H locs hp hX => ?_)
  obtain ⟨rfl, rfl, rfl⟩ := hp
  refine lv_aload_n hx hb dX5_owed_6 rfl (lv_at hl 0 rfl) ?_
  refine m_get hM hE hX hR 12 (by decide) k_1079 rfl rfl dX5_owed_7 ?_
  refine lv_iload_n hx hb dX5_owed_10 rfl (lv_at hl 1 rfl) ?_
  refine m_iald hM hE hX hR 12 i (by decide) rfl rfl rfl (show i < 20 by omega) dX5_owed_11 ?_
  refine lv_isub hx hb dX5_owed_12 ?_
  refine lv_istore_n (lv' := [(2, .int ((costs M i 0) - (M 12 i))), (0, .ref o), (1, .int (nI i))]) hx hb dX5_owed_13 rfl hl (by decide) rfl (fun ls hl => ?_)
  refine lv_aload_n hx hb dX5_owed_14 rfl (lv_at hl 1 rfl) ?_
  refine m_get hM hE hX hR 6 (by decide) k_1073 rfl rfl dX5_owed_15 ?_
  refine lv_iload_n hx hb dX5_owed_18 rfl (lv_at hl 2 rfl) ?_
  refine m_iald hM hE hX hR 6 i (by decide) rfl rfl rfl (show i < 20 by omega) dX5_owed_19 ?_
  refine lv_iconst (v := 1) hx hb dX5_owed_20 (by decide) ?_
  refine lv_icmp_ne (tgt := 32) hx hb dX5_owed_21 (by decide) (fun c_1 => ?_) (fun c_1 => ?_)
  · refine lv_iconst (v := 0) hx hb dX5_owed_32 (by decide) ?_
    exact k_iret hM hsz hX ⟨_, rfl, rfl, rfl, (show owed M i = _ from ((if_neg c_1).trans rfl)).symm⟩ (by decide) (by decide) dX5_owed_33
  · refine lv_iload_n hx hb dX5_owed_24 rfl (lv_at hl 0 rfl) ?_
    refine lv_if_le (tgt := 32) hx hb dX5_owed_25 (by decide) (fun c_2 => ?_) (fun c_2 => ?_)
    · refine lv_iconst (v := 0) hx hb dX5_owed_32 (by decide) ?_
      exact k_iret hM hsz hX ⟨_, rfl, rfl, rfl, (show owed M i = _ from ((if_pos c_1).trans ((if_pos c_2).trans rfl))).symm⟩ (by decide) (by decide) dX5_owed_33
    · refine lv_iload_n hx hb dX5_owed_28 rfl (lv_at hl 0 rfl) ?_
      refine lv_goto (tgt := 33) hx hb dX5_owed_29 (by decide) ?_
      exact k_iret hM hsz hX ⟨_, rfl, rfl, rfl, (show owed M i = _ from ((if_pos c_1).trans ((if_neg c_2).trans rfl))).symm⟩ (by decide) (by decide) dX5_owed_33
def hasC_st (M : mM) (a : Int32) (j : Nat) (x : Int32) : Int32 := (if (M 19 j) = a then (x ||| 1) else (x ||| 0))
def hasC (M : mM) (a : Int32) : Int32 := l_fold (hasC_st M a) 0 (cc M)
theorem hasC_01 (M : mM) (a : Int32) : ∀ j, l_fold (hasC_st M a) 0 j = 0 ∨ l_fold (hasC_st M a) 0 j = 1 := by
  intro j
  induction j with
  | zero => exact Or.inl rfl
  | succ k ih =>
    rw [l_fold]
    generalize l_fold (hasC_st M a) 0 k = y at ih
    unfold hasC_st
    split <;> rcases ih with rfl | rfl <;> decide
theorem hasC_z (M : mM) (a : Int32) (j : Nat) : narrow .boolean (.int (l_fold (hasC_st M a) 0 j)) = .int (l_fold (hasC_st M a) 0 j) := by
  rcases hasC_01 M a j with h | h <;> rw [h] <;> rfl
set_option maxHeartbeats 4000000 in
set_option maxRecDepth 100000 in
theorem c_X5_hasCredit (l : Launch) (γ : kG) (L : List Nat) (F : kF) (o : Nat) (ad : Nat → Nat) (M : mM) (hR : RepM γ L F o ad M) (a : Int32) (hc : okC M) : kC l yX5_hasCredit cX5_hasCredit 4 (some .boolean) (kRm 0 0 0) γ L F [.ref o, .int a] (kI fun r L1 F1 => L = L1 ∧ F = F1 ∧ r = hasC M a) := by
  refine kC_of (by decide +kernel) (Nat.le_of_ble_eq_true rfl) ?_
  intro p e s m args below meth c sz ls hargs hsz hM hin hE hX hl
  have hx := hM.1
  have hb := hM.2.1
  have hl : lv_has ls 4 [(0, .ref o), (1, .int a)] := hl
  have hc2 := hc.2
  have hloop : ∀ (n j : Nat) (x : Int32), cc M < j + n → j ≤ cc M → x = l_fold (hasC_st M a) 0 j → ∀ (H : Heap) (locs : List Loc) (ls : Array Slot), kX γ (kA L sz) s L F H locs → lv_has ls 4 [(2, .int x), (3, .int (nI j)), (0, .ref o), (1, .int a)] → W p l e (kRm 0 0 0) s m args below meth c H locs 0 0 (MQ below (kQ γ L sz (kI fun r L1 F1 => L = L1 ∧ F = F1 ∧ r = hasC M a)) args s (kRm 0 0 0).cells (kRm 0 0 0).slots (kA L sz)) (F0 m 4 ls []) := by
    intro n
    induction n with
    | zero => intro j x h1 h2; exact absurd h1 (by omega)
    | succ n ih =>
      intro j x h1 h2 hxj H locs ls hX hl
      refine lv_iload_n hx hb dX5_hasCredit_4 rfl (lv_at hl 1 rfl) ?_
      refine lv_aload_n hx hb dX5_hasCredit_5 rfl (lv_at hl 2 rfl) ?_
      refine m_get hM hE hX hR 18 (by decide) k_1085 rfl rfl dX5_hasCredit_6 ?_
      refine lv_icmp_ge (tgt := 36) hx hb dX5_hasCredit_9 (by decide) (fun c_1 => ?_) (fun c_1 => ?_)
      · have ej : j = cc M := by
          have h9 := lp_out (a := j) (b := (cc M)) (by omega) (by omega) (by rw [← hc.1]; exact c_1)
          omega
        refine lv_iload_n hx hb dX5_hasCredit_36 rfl (lv_at hl 0 rfl) ?_
        exact k_zret hM (by rw [hxj]; exact hasC_z M a j) hsz hX ⟨_, rfl, rfl, rfl, by rw [hxj, ej]; rfl⟩ (by decide) (by decide) dX5_hasCredit_37
      · have hj : j < cc M := by
          have h9 := lp_in (a := j) (b := (cc M)) (by omega) (by omega) (by rw [← hc.1]; exact c_1)
          omega
        refine lv_iload_n hx hb dX5_hasCredit_12 rfl (lv_at hl 0 rfl) ?_
        refine lv_aload_n hx hb dX5_hasCredit_13 rfl (lv_at hl 2 rfl) ?_
        refine m_get hM hE hX hR 19 (by decide) k_1086 rfl rfl dX5_hasCredit_14 ?_
        refine lv_iload_n hx hb dX5_hasCredit_17 rfl (lv_at hl 1 rfl) ?_
        refine m_iald hM hE hX hR 19 j (by decide) rfl rfl rfl (show j < 24 by omega) dX5_hasCredit_18 ?_
        refine lv_iload_n hx hb dX5_hasCredit_19 rfl (lv_at hl 3 rfl) ?_
        refine lv_icmp_ne (tgt := 27) hx hb dX5_hasCredit_20 (by decide) (fun c_2 => ?_) (fun c_2 => ?_)
        · refine lv_iconst (v := 0) hx hb dX5_hasCredit_27 (by decide) ?_
          refine lv_ior hx hb dX5_hasCredit_28 ?_
          refine lv_istore_n (lv' := [(2, .int (x ||| 0)), (3, .int (nI j)), (0, .ref o), (1, .int a)]) hx hb dX5_hasCredit_29 rfl hl (by decide) rfl (fun ls hl => ?_)
          refine lv_iinc (v := (nI (j + 1))) (lv' := [(3, .int (nI (j + 1))), (2, .int (x ||| 0)), (0, .ref o), (1, .int a)]) hx hb dX5_hasCredit_30 hl (k := 1) rfl (nI_1 _) (by decide) rfl (fun ls hl => ?_)
          refine lv_goto (tgt := 4) hx hb dX5_hasCredit_33 (by decide) ?_
          exact ih (j + 1) _ (by omega) (by omega) (show (x ||| 0) = l_fold (hasC_st M a) 0 (j + 1) from by rw [l_fold, ← hxj]; exact (show hasC_st M a j x = _ from ((if_neg c_2).trans rfl)).symm) _ _ _ hX (lv_sub hl [1, 0, 2, 3] rfl)
        · refine lv_iconst (v := 1) hx hb dX5_hasCredit_23 (by decide) ?_
          refine lv_goto (tgt := 28) hx hb dX5_hasCredit_24 (by decide) ?_
          refine lv_ior hx hb dX5_hasCredit_28 ?_
          refine lv_istore_n (lv' := [(2, .int (x ||| 1)), (3, .int (nI j)), (0, .ref o), (1, .int a)]) hx hb dX5_hasCredit_29 rfl hl (by decide) rfl (fun ls hl => ?_)
          refine lv_iinc (v := (nI (j + 1))) (lv' := [(3, .int (nI (j + 1))), (2, .int (x ||| 1)), (0, .ref o), (1, .int a)]) hx hb dX5_hasCredit_30 hl (k := 1) rfl (nI_1 _) (by decide) rfl (fun ls hl => ?_)
          refine lv_goto (tgt := 4) hx hb dX5_hasCredit_33 (by decide) ?_
          exact ih (j + 1) _ (by omega) (by omega) (show (x ||| 1) = l_fold (hasC_st M a) 0 (j + 1) from by rw [l_fold, ← hxj]; exact (show hasC_st M a j x = _ from ((if_pos c_2).trans rfl)).symm) _ _ _ hX (lv_sub hl [1, 0, 2, 3] rfl)
  refine lv_iconst (v := 0) hx hb dX5_hasCredit_0 (by decide) ?_
  refine lv_istore_n (lv' := [(2, .int 0), (0, .ref o), (1, .int a)]) hx hb dX5_hasCredit_1 rfl hl (by decide) rfl (fun ls hl => ?_)
  refine lv_iconst (v := 0) hx hb dX5_hasCredit_2 (by decide) ?_
  refine lv_istore_n (lv' := [(3, .int 0), (2, .int 0), (0, .ref o), (1, .int a)]) hx hb dX5_hasCredit_3 rfl hl (by decide) rfl (fun ls hl => ?_)
  exact hloop (cc M + 1) 0 _ (by omega) (Nat.zero_le _) rfl _ _ _ hX (lv_sub hl [1, 0, 2, 3] rfl)
def addsM (M : mM) (i : Nat) (x z : Int32) : mM := (mset (mset (mset (mset M 14 (3 * i + kk M i) x) 15 (3 * i + kk M i) x) 16 (3 * i + kk M i) z) 13 i ((M 13 i) + 1))
set_option maxHeartbeats 4000000 in
set_option maxRecDepth 100000 in
theorem c_X5_adds (l : Launch) (γ : kG) (L : List Nat) (F : kF) (o : Nat) (ad : Nat → Nat) (M : mM) (hR : RepM γ L F o ad M) (i : Nat) (a x z : Int32) (ha : a = nI i) (hi : i < 20) (hk : okL M i) (h3 : kk M i < 3) : kC l yX5_adds cX5_adds 5 none (kRm 0 0 0) γ L F [.ref o, .int a, .int x, .int z] (kU fun L1 F1 => L = L1 ∧ ∃ M1, RepM γ L1 F1 o ad M1 ∧ M1 = addsM M i x z) := by
  subst ha
  refine kC_of (by decide +kernel) (Nat.le_of_ble_eq_true rfl) ?_
  intro p e s m args below meth c sz ls hargs hsz hM hin hE hX hl
  have hx := hM.1
  have hb := hM.2.1
  have hl : lv_has ls 5 [(0, .ref o), (1, .int (nI i)), (2, .int x), (3, .int z)] := hl
  refine lv_iconst (v := 3) hx hb dX5_adds_0 (by decide) ?_
  refine lv_iload_n hx hb dX5_adds_1 rfl (lv_at hl 1 rfl) ?_
  refine lv_imul hx hb dX5_adds_2 ?_
  rw [show (3 : Int32) * (nI i) = (nI (3 * i)) from k3 i]
  refine lv_aload_n hx hb dX5_adds_3 rfl (lv_at hl 0 rfl) ?_
  refine m_get hM hE hX hR 13 (by decide) k_1080 rfl rfl dX5_adds_4 ?_
  refine lv_iload_n hx hb dX5_adds_7 rfl (lv_at hl 1 rfl) ?_
  refine m_iald hM hE hX hR 13 i (by decide) rfl rfl rfl (show i < 20 by omega) dX5_adds_8 ?_
  refine lv_iadd hx hb dX5_adds_9 ?_
  rw [show (nI (3 * i)) + (M 13 i) = (nI (3 * i + kk M i)) from by rw [hk.1, nI_add]]
  refine lv_istore (lv' := [(4, .int (nI (3 * i + kk M i))), (0, .ref o), (1, .int (nI i)), (2, .int x), (3, .int z)]) hx hb dX5_adds_10 hl (by decide) rfl (fun ls hl => ?_)
  refine lv_aload_n hx hb dX5_adds_12 rfl (lv_at hl 1 rfl) ?_
  refine m_get hM hE hX hR 14 (by decide) k_1081 rfl rfl dX5_adds_13 ?_
  refine lv_iload hx hb dX5_adds_16 (lv_at hl 0 rfl) ?_
  refine lv_iload_n hx hb dX5_adds_18 rfl (lv_at hl 3 rfl) ?_
  refine m_iast hM hE hX hR 14 (3 * i + kk M i) (by decide) rfl rfl rfl (show 3 * i + kk M i < 60 by omega) dX5_adds_19 (fun F H locs hX hR => ?_)
  refine lv_aload_n hx hb dX5_adds_20 rfl (lv_at hl 1 rfl) ?_
  refine m_get hM hE hX hR 15 (by decide) k_1082 rfl rfl dX5_adds_21 ?_
  refine lv_iload hx hb dX5_adds_24 (lv_at hl 0 rfl) ?_
  refine lv_iload_n hx hb dX5_adds_26 rfl (lv_at hl 3 rfl) ?_
  refine m_iast hM hE hX hR 15 (3 * i + kk M i) (by decide) rfl rfl rfl (show 3 * i + kk M i < 60 by omega) dX5_adds_27 (fun F H locs hX hR => ?_)
  refine lv_aload_n hx hb dX5_adds_28 rfl (lv_at hl 1 rfl) ?_
  refine m_get hM hE hX hR 16 (by decide) k_1083 rfl rfl dX5_adds_29 ?_
  refine lv_iload hx hb dX5_adds_32 (lv_at hl 0 rfl) ?_
  refine lv_iload_n hx hb dX5_adds_34 rfl (lv_at hl 4 rfl) ?_
  refine m_iast hM hE hX hR 16 (3 * i + kk M i) (by decide) rfl rfl rfl (show 3 * i + kk M i < 60 by omega) dX5_adds_35 (fun F H locs hX hR => ?_)
  refine lv_aload_n hx hb dX5_adds_36 rfl (lv_at hl 1 rfl) ?_
  refine m_get hM hE hX hR 13 (by decide) k_1080 rfl rfl dX5_adds_37 ?_
  refine lv_iload_n hx hb dX5_adds_40 rfl (lv_at hl 2 rfl) ?_
  refine lv_dup2_11 hx hb dX5_adds_41 rfl rfl ?_
  refine m_iald hM hE hX hR 13 i (by decide) rfl rfl rfl (show i < 20 by omega) dX5_adds_42 ?_
  refine lv_iconst (v := 1) hx hb dX5_adds_43 (by decide) ?_
  refine lv_iadd hx hb dX5_adds_44 ?_
  refine m_iast hM hE hX hR 13 i (by decide) rfl rfl rfl (show i < 20 by omega) dX5_adds_45 (fun F H locs hX hR => ?_)
  exact k_vret hM hsz hX ⟨rfl, rfl, _, hR, (show addsM M i x z = _ from rfl).symm⟩ (by decide) (by decide) dX5_adds_46
def lessM (M : mM) (i q : Nat) (x : Int32) : mM := (mset (mset (mset (mset (mset M 19 (cc M) (nI i)) 20 (cc M) (M 0 0)) 21 (cc M) ((tx (M 14 (3 * i + q)) (M 16 (3 * i + q))) - (tx ((M 14 (3 * i + q)) - x) (M 16 (3 * i + q))))) 14 (3 * i + q) ((M 14 (3 * i + q)) - x)) 18 0 ((M 18 0) + 1))
set_option maxHeartbeats 4000000 in
set_option maxRecDepth 100000 in
theorem c_X5_lessens (l : Launch) (γ : kG) (L : List Nat) (F : kF) (o : Nat) (ad : Nat → Nat) (M : mM) (hR : RepM γ L F o ad M) (i q : Nat) (a b x : Int32) (ha : a = nI i) (hb2 : b = nI q) (hi : i < 20) (hq : q < 3) (hc : okC M) (hc2 : cc M < 24) : kC l yX5_lessens cX5_lessens 5 none (kRm 1 0 0) γ L F [.ref o, .int a, .int b, .int x] (kU fun L1 F1 => L = L1 ∧ ∃ M1, RepM γ L1 F1 o ad M1 ∧ M1 = lessM M i q x) := by
  subst ha
  subst hb2
  refine kC_of (by decide +kernel) (Nat.le_of_ble_eq_true rfl) ?_
  intro p e s m args below meth c sz ls hargs hsz hM hin hE hX hl
  have hx := hM.1
  have hb := hM.2.1
  have hl : lv_has ls 5 [(0, .ref o), (1, .int (nI i)), (2, .int (nI q)), (3, .int x)] := hl
  refine lv_iconst (v := 3) hx hb dX5_lessens_0 (by decide) ?_
  refine lv_iload_n hx hb dX5_lessens_1 rfl (lv_at hl 1 rfl) ?_
  refine lv_imul hx hb dX5_lessens_2 ?_
  rw [show (3 : Int32) * (nI i) = (nI (3 * i)) from k3 i]
  refine lv_iload_n hx hb dX5_lessens_3 rfl (lv_at hl 2 rfl) ?_
  refine lv_iadd hx hb dX5_lessens_4 ?_
  rw [show (nI (3 * i)) + (nI q) = (nI (3 * i + q)) from nI_add _ _]
  refine lv_istore (lv' := [(4, .int (nI (3 * i + q))), (0, .ref o), (1, .int (nI i)), (2, .int (nI q)), (3, .int x)]) hx hb dX5_lessens_5 hl (by decide) rfl (fun ls hl => ?_)
  refine lv_aload_n hx hb dX5_lessens_7 rfl (lv_at hl 1 rfl) ?_
  refine m_get hM hE hX hR 19 (by decide) k_1086 rfl rfl dX5_lessens_8 ?_
  refine lv_aload_n hx hb dX5_lessens_11 rfl (lv_at hl 1 rfl) ?_
  refine m_get hM hE hX hR 18 (by decide) k_1085 rfl rfl dX5_lessens_12 ?_
  refine lv_iload_n hx hb dX5_lessens_15 rfl (lv_at hl 2 rfl) ?_
  refine m_iast hM hE hX hR 19 (cc M) (by decide) rfl rfl hc.1 (show cc M < 24 by omega) dX5_lessens_16 (fun F H locs hX hR => ?_)
  refine lv_aload_n hx hb dX5_lessens_17 rfl (lv_at hl 1 rfl) ?_
  refine m_get hM hE hX hR 20 (by decide) k_1087 rfl rfl dX5_lessens_18 ?_
  refine lv_aload_n hx hb dX5_lessens_21 rfl (lv_at hl 1 rfl) ?_
  refine m_get hM hE hX hR 18 (by decide) k_1085 rfl rfl dX5_lessens_22 ?_
  refine lv_aload_n hx hb dX5_lessens_25 rfl (lv_at hl 1 rfl) ?_
  refine m_get hM hE hX hR 0 (by decide) k_1067 rfl rfl dX5_lessens_26 ?_
  refine m_iast hM hE hX hR 20 (cc M) (by decide) rfl rfl hc.1 (show cc M < 24 by omega) dX5_lessens_29 (fun F H locs hX hR => ?_)
  refine lv_aload_n hx hb dX5_lessens_30 rfl (lv_at hl 1 rfl) ?_
  refine m_get hM hE hX hR 21 (by decide) k_1088 rfl rfl dX5_lessens_31 ?_
  refine lv_aload_n hx hb dX5_lessens_34 rfl (lv_at hl 1 rfl) ?_
  refine m_get hM hE hX hR 18 (by decide) k_1085 rfl rfl dX5_lessens_35 ?_
  refine lv_aload_n hx hb dX5_lessens_38 rfl (lv_at hl 1 rfl) ?_
  refine m_get hM hE hX hR 14 (by decide) k_1081 rfl rfl dX5_lessens_39 ?_
  refine lv_iload hx hb dX5_lessens_42 (lv_at hl 0 rfl) ?_
  refine m_iald hM hE hX hR 14 (3 * i + q) (by decide) rfl rfl rfl (show 3 * i + q < 60 by omega) dX5_lessens_44 ?_
  refine lv_aload_n hx hb dX5_lessens_45 rfl (lv_at hl 1 rfl) ?_
  refine m_get hM hE hX hR 16 (by decide) k_1083 rfl rfl dX5_lessens_46 ?_
  refine lv_iload hx hb dX5_lessens_49 (lv_at hl 0 rfl) ?_
  refine m_iald hM hE hX hR 16 (3 * i + q) (by decide) rfl rfl rfl (show 3 * i + q < 60 by omega) dX5_lessens_51 ?_
  refine k_goi (k_S (n := 2) (As := [.int (M 14 (3 * i + q)), .int (M 16 (3 * i + q))]) (rest := [.int (M 18 0), .ref (ad 21)]) hM hE hX hl (c_X5_taxOf l γ L F (M 14 (3 * i + q)) (M 16 (3 * i + q))) k_1189 k_1190 k_9 k_1191 ⟨by decide, by decide, by decide +kernel⟩ (by decide) rfl rfl (Nat.le_of_ble_eq_true rfl) dX5_lessens_52 (by decide)) hE hX (fun r L1 F1 H locs hp hX => ?_)
  obtain ⟨rfl, rfl, rfl⟩ := hp
  refine lv_aload_n hx hb dX5_lessens_55 rfl (lv_at hl 1 rfl) ?_
  refine m_get hM hE hX hR 14 (by decide) k_1081 rfl rfl dX5_lessens_56 ?_
  refine lv_iload hx hb dX5_lessens_59 (lv_at hl 0 rfl) ?_
  refine m_iald hM hE hX hR 14 (3 * i + q) (by decide) rfl rfl rfl (show 3 * i + q < 60 by omega) dX5_lessens_61 ?_
  refine lv_iload_n hx hb dX5_lessens_62 rfl (lv_at hl 4 rfl) ?_
  refine lv_isub hx hb dX5_lessens_63 ?_
  refine lv_aload_n hx hb dX5_lessens_64 rfl (lv_at hl 1 rfl) ?_
  refine m_get hM hE hX hR 16 (by decide) k_1083 rfl rfl dX5_lessens_65 ?_
  refine lv_iload hx hb dX5_lessens_68 (lv_at hl 0 rfl) ?_
  refine m_iald hM hE hX hR 16 (3 * i + q) (by decide) rfl rfl rfl (show 3 * i + q < 60 by omega) dX5_lessens_70 ?_
  refine k_goi (k_S (n := 2) (As := [.int ((M 14 (3 * i + q)) - x), .int (M 16 (3 * i + q))]) (rest := [.int (tx (M 14 (3 * i + q)) (M 16 (3 * i + q))), .int (M 18 0), .ref (ad 21)]) hM hE hX hl (c_X5_taxOf l γ L F ((M 14 (3 * i + q)) - x) (M 16 (3 * i + q))) k_1189 k_1190 k_9 k_1191 ⟨by decide, by decide, by decide +kernel⟩ (by decide) rfl rfl (Nat.le_of_ble_eq_true rfl) dX5_lessens_71 (by decide)) hE hX (fun r L1 F1 H locs hp hX => ?_)
  obtain ⟨rfl, rfl, rfl⟩ := hp
  refine lv_isub hx hb dX5_lessens_74 ?_
  refine m_iast hM hE hX hR 21 (cc M) (by decide) rfl rfl hc.1 (show cc M < 24 by omega) dX5_lessens_75 (fun F H locs hX hR => ?_)
  refine lv_aload_n hx hb dX5_lessens_76 rfl (lv_at hl 1 rfl) ?_
  refine m_get hM hE hX hR 14 (by decide) k_1081 rfl rfl dX5_lessens_77 ?_
  refine lv_iload hx hb dX5_lessens_80 (lv_at hl 0 rfl) ?_
  refine lv_dup2_11 hx hb dX5_lessens_82 rfl rfl ?_
  refine m_iald hM hE hX hR 14 (3 * i + q) (by decide) rfl rfl rfl (show 3 * i + q < 60 by omega) dX5_lessens_83 ?_
  refine lv_iload_n hx hb dX5_lessens_84 rfl (lv_at hl 4 rfl) ?_
  refine lv_isub hx hb dX5_lessens_85 ?_
  refine m_iast hM hE hX hR 14 (3 * i + q) (by decide) rfl rfl rfl (show 3 * i + q < 60 by omega) dX5_lessens_86 (fun F H locs hX hR => ?_)
  refine lv_aload_n hx hb dX5_lessens_87 rfl (lv_at hl 1 rfl) ?_
  refine lv_dup hx hb dX5_lessens_88 rfl ?_
  refine m_get hM hE hX hR 18 (by decide) k_1085 rfl rfl dX5_lessens_89 ?_
  refine lv_iconst (v := 1) hx hb dX5_lessens_92 (by decide) ?_
  refine lv_iadd hx hb dX5_lessens_93 ?_
  refine m_put hM hE hX hR 18 (by decide) rfl (by decide) k_1085 rfl rfl rfl rfl dX5_lessens_94 (fun F H locs hX hR => ?_)
  exact k_vret hM hsz hX ⟨rfl, rfl, _, hR, (show lessM M i q x = _ from rfl).symm⟩ (by decide) (by decide) dX5_lessens_97
def movesM (M : mM) (f g : Nat) (x : Int32) : mM := (mset (mset M 1 f ((M 1 f) - x)) 1 g (((mset M 1 f ((M 1 f) - x)) 1 g) + x))
set_option maxHeartbeats 4000000 in
set_option maxRecDepth 100000 in
theorem c_X5_moves (l : Launch) (γ : kG) (L : List Nat) (F : kF) (o : Nat) (ad : Nat → Nat) (M : mM) (hR : RepM γ L F o ad M) (f g : Nat) (a b x : Int32) (ha : a = nI f) (hb2 : b = nI g) (hf : f < 6) (hg : g < 6) : kC l yX5_moves cX5_moves 4 none (kRm 0 0 0) γ L F [.ref o, .int a, .int b, .int x] (kU fun L1 F1 => L = L1 ∧ ∃ M1, RepM γ L1 F1 o ad M1 ∧ M1 = movesM M f g x) := by
  subst ha
  subst hb2
  refine kC_of (by decide +kernel) (Nat.le_of_ble_eq_true rfl) ?_
  intro p e s m args below meth c sz ls hargs hsz hM hin hE hX hl
  have hx := hM.1
  have hb := hM.2.1
  have hl : lv_has ls 4 [(0, .ref o), (1, .int (nI f)), (2, .int (nI g)), (3, .int x)] := hl
  refine lv_aload_n hx hb dX5_moves_0 rfl (lv_at hl 0 rfl) ?_
  refine m_get hM hE hX hR 1 (by decide) k_1068 rfl rfl dX5_moves_1 ?_
  refine lv_iload_n hx hb dX5_moves_4 rfl (lv_at hl 1 rfl) ?_
  refine lv_dup2_11 hx hb dX5_moves_5 rfl rfl ?_
  refine m_iald hM hE hX hR 1 f (by decide) rfl rfl rfl (show f < 6 by omega) dX5_moves_6 ?_
  refine lv_iload_n hx hb dX5_moves_7 rfl (lv_at hl 3 rfl) ?_
  refine lv_isub hx hb dX5_moves_8 ?_
  refine m_iast hM hE hX hR 1 f (by decide) rfl rfl rfl (show f < 6 by omega) dX5_moves_9 (fun F H locs hX hR => ?_)
  refine lv_aload_n hx hb dX5_moves_10 rfl (lv_at hl 0 rfl) ?_
  refine m_get hM hE hX hR 1 (by decide) k_1068 rfl rfl dX5_moves_11 ?_
  refine lv_iload_n hx hb dX5_moves_14 rfl (lv_at hl 2 rfl) ?_
  refine lv_dup2_11 hx hb dX5_moves_15 rfl rfl ?_
  refine m_iald hM hE hX hR 1 g (by decide) rfl rfl rfl (show g < 6 by omega) dX5_moves_16 ?_
  refine lv_iload_n hx hb dX5_moves_17 rfl (lv_at hl 3 rfl) ?_
  refine lv_iadd hx hb dX5_moves_18 ?_
  refine m_iast hM hE hX hR 1 g (by decide) rfl rfl rfl (show g < 6 by omega) dX5_moves_19 (fun F H locs hX hR => ?_)
  exact k_vret hM hsz hX ⟨rfl, rfl, _, hR, (show movesM M f g x = _ from rfl).symm⟩ (by decide) (by decide) dX5_moves_20
def frun (M : mM) : Nat → Nat → Int32
  | 0, _ => 0
  | n + 1, j => (if (M 22 0) ≤ (nI j) then (if 2 ≤ (M 22 0) then (-1) else (M 22 0)) else (if (nI j) = 0 then (if (M 23 0) = 82 then (frun M n (j + 1)) else (nI j)) else (if 3 ≤ (nI j) then (nI j) else (if 48 ≤ (M 23 j) ∧ (M 23 j) ≤ 57 then (frun M n (j + 1)) else (nI j)))))
def faultM (M : mM) : Int32 := frun M (dd M + 1) 0
set_option maxHeartbeats 4000000 in
set_option maxRecDepth 100000 in
theorem c_X5_faultOf (l : Launch) (γ : kG) (L : List Nat) (F : kF) (o : Nat) (ad : Nat → Nat) (M : mM) (hR : RepM γ L F o ad M) (hd : okD M) : kC l yX5_faultOf cX5_faultOf 3 (some .int) (kRm 1 0 0) γ L F [.ref o] (kI fun r L1 F1 => L = L1 ∧ F = F1 ∧ r = faultM M) := by
  refine kC_of (by decide +kernel) (Nat.le_of_ble_eq_true rfl) ?_
  intro p e s m args below meth c sz ls hargs hsz hM hin hE hX hl
  have hx := hM.1
  have hb := hM.2.1
  have hl : lv_has ls 3 [(0, .ref o)] := hl
  have hd2 := hd.2
  have hloop : ∀ (n j : Nat), dd M < j + n → j ≤ dd M → frun M n j = faultM M → ∀ (H : Heap) (locs : List Loc) (ls : Array Slot), kX γ (kA L sz) s L F H locs → lv_has ls 3 [(1, .int (nI j)), (0, .ref o)] → W p l e (kRm 1 0 0) s m args below meth c H locs 0 0 (MQ below (kQ γ L sz (kI fun r L1 F1 => L = L1 ∧ F = F1 ∧ r = faultM M)) args s (kRm 1 0 0).cells (kRm 1 0 0).slots (kA L sz)) (F0 m 2 ls []) := by
    intro n
    induction n with
    | zero => intro j h1 h2; exact absurd h1 (by omega)
    | succ n ih =>
      intro j h1 h2 hxj H locs ls hX hl
      refine lv_iload_n hx hb dX5_faultOf_2 rfl (lv_at hl 0 rfl) ?_
      refine lv_aload_n hx hb dX5_faultOf_3 rfl (lv_at hl 1 rfl) ?_
      refine m_get hM hE hX hR 22 (by decide) k_1089 rfl rfl dX5_faultOf_4 ?_
      refine lv_icmp_ge (tgt := 72) hx hb dX5_faultOf_7 (by decide) (fun c_1 => ?_) (fun c_1 => ?_)
      · refine lv_aload_n hx hb dX5_faultOf_72 rfl (lv_at hl 1 rfl) ?_
        refine m_get hM hE hX hR 22 (by decide) k_1089 rfl rfl dX5_faultOf_73 ?_
        refine lv_iconst (v := 2) hx hb dX5_faultOf_76 (by decide) ?_
        refine lv_icmp_ge (tgt := 87) hx hb dX5_faultOf_77 (by decide) (fun c_2 => ?_) (fun c_2 => ?_)
        · refine lv_iconst (v := (-1)) hx hb dX5_faultOf_87 (by decide) ?_
          exact k_iret hM hsz hX ⟨_, rfl, rfl, rfl, (show frun M (n + 1) j = _ from ((if_pos c_1).trans ((if_pos c_2).trans rfl))).symm.trans hxj⟩ (by decide) (by decide) dX5_faultOf_88
        · refine lv_aload_n hx hb dX5_faultOf_80 rfl (lv_at hl 1 rfl) ?_
          refine m_get hM hE hX hR 22 (by decide) k_1089 rfl rfl dX5_faultOf_81 ?_
          refine lv_goto (tgt := 88) hx hb dX5_faultOf_84 (by decide) ?_
          exact k_iret hM hsz hX ⟨_, rfl, rfl, rfl, (show frun M (n + 1) j = _ from ((if_pos c_1).trans ((if_neg c_2).trans rfl))).symm.trans hxj⟩ (by decide) (by decide) dX5_faultOf_88
      · have hj : j < dd M := lp_in (by omega) (by omega) (by rw [← hd.1]; exact c_1)
        refine lv_iload_n hx hb dX5_faultOf_10 rfl (lv_at hl 0 rfl) ?_
        refine lv_if_ne (tgt := 33) hx hb dX5_faultOf_11 (by decide) (fun c_3 => ?_) (fun c_3 => ?_)
        · refine lv_iload_n hx hb dX5_faultOf_33 rfl (lv_at hl 0 rfl) ?_
          refine lv_iconst (v := 3) hx hb dX5_faultOf_34 (by decide) ?_
          refine lv_icmp_ge (tgt := 58) hx hb dX5_faultOf_35 (by decide) (fun c_4 => ?_) (fun c_4 => ?_)
          · refine lv_iconst (v := 0) hx hb dX5_faultOf_58 (by decide) ?_
            refine lv_istore_n (lv' := [(2, .int 0), (1, .int (nI j)), (0, .ref o)]) hx hb dX5_faultOf_59 rfl hl (by decide) rfl (fun ls hl => ?_)
            refine lv_iload_n hx hb dX5_faultOf_60 rfl (lv_at hl 0 rfl) ?_
            refine lv_if_ne (tgt := 66) hx hb dX5_faultOf_61 (by decide) (fun c_5 => absurd (show ¬ (0 : Int32) = 0 from c_5) (by decide)) (fun _ => ?_)
            refine lv_iload_n hx hb dX5_faultOf_64 rfl (lv_at hl 1 rfl) ?_
            exact k_iret hM hsz hX ⟨_, rfl, rfl, rfl, (show frun M (n + 1) j = _ from ((if_neg c_1).trans ((if_neg c_3).trans ((if_pos c_4).trans rfl)))).symm.trans hxj⟩ (by decide) (by decide) dX5_faultOf_65
          · refine lv_aload_n hx hb dX5_faultOf_38 rfl (lv_at hl 1 rfl) ?_
            refine m_get hM hE hX hR 23 (by decide) k_1090 rfl rfl dX5_faultOf_39 ?_
            refine lv_iload_n hx hb dX5_faultOf_42 rfl (lv_at hl 0 rfl) ?_
            refine m_iald hM hE hX hR 23 j (by decide) rfl rfl rfl (show j < 10 by omega) dX5_faultOf_43 ?_
            refine lv_bipush (v := 48) hx hb dX5_faultOf_44 (by decide) ?_
            refine lv_bipush (v := 57) hx hb dX5_faultOf_46 (by decide) ?_
            refine k_goi (k_S (n := 3) (As := [.int (M 23 j), .int 48, .int 57]) (rest := []) hM hE hX hl (c_X5_isIn l γ L F (M 23 j) 48 57) k_1155 k_1156 k_9 k_1157 ⟨by decide, by decide, by decide +kernel⟩ (by decide) rfl rfl (Nat.le_of_ble_eq_true rfl) dX5_faultOf_48 (by decide)) hE hX (fun r L1 F1 H locs hp hX => ?_)
            obtain ⟨rfl, rfl, ⟨rfl, h_6⟩ | ⟨rfl, h_6⟩⟩ := hp
            · refine lv_if_eq (tgt := 58) hx hb dX5_faultOf_51 (by decide) (fun c_7 => absurd (show (1 : Int32) = 0 from c_7) (by decide)) (fun _ => ?_)
              refine lv_iconst (v := 1) hx hb dX5_faultOf_54 (by decide) ?_
              refine lv_goto (tgt := 59) hx hb dX5_faultOf_55 (by decide) ?_
              refine lv_istore_n (lv' := [(2, .int 1), (1, .int (nI j)), (0, .ref o)]) hx hb dX5_faultOf_59 rfl hl (by decide) rfl (fun ls hl => ?_)
              refine lv_iload_n hx hb dX5_faultOf_60 rfl (lv_at hl 0 rfl) ?_
              refine lv_if_ne (tgt := 66) hx hb dX5_faultOf_61 (by decide) (fun _ => ?_) (fun c_8 => absurd (show (1 : Int32) = 0 from c_8) (by decide))
              refine lv_iinc (v := (nI (j + 1))) (lv' := [(1, .int (nI (j + 1))), (2, .int 1), (0, .ref o)]) hx hb dX5_faultOf_66 hl (k := 1) rfl (nI_1 _) (by decide) rfl (fun ls hl => ?_)
              refine lv_goto (tgt := 2) hx hb dX5_faultOf_69 (by decide) ?_
              exact ih (j + 1) (by omega) (by omega) ((show frun M (n + 1) j = frun M n (j + 1) from ((if_neg c_1).trans ((if_neg c_3).trans ((if_neg c_4).trans ((if_pos h_6).trans rfl))))).symm.trans hxj) _ _ _ hX (lv_sub hl [0, 2] rfl)
            · refine lv_if_eq (tgt := 58) hx hb dX5_faultOf_51 (by decide) (fun _ => ?_) (fun c_9 => absurd (show ¬ (0 : Int32) = 0 from c_9) (by decide))
              refine lv_iconst (v := 0) hx hb dX5_faultOf_58 (by decide) ?_
              refine lv_istore_n (lv' := [(2, .int 0), (1, .int (nI j)), (0, .ref o)]) hx hb dX5_faultOf_59 rfl hl (by decide) rfl (fun ls hl => ?_)
              refine lv_iload_n hx hb dX5_faultOf_60 rfl (lv_at hl 0 rfl) ?_
              refine lv_if_ne (tgt := 66) hx hb dX5_faultOf_61 (by decide) (fun c_10 => absurd (show ¬ (0 : Int32) = 0 from c_10) (by decide)) (fun _ => ?_)
              refine lv_iload_n hx hb dX5_faultOf_64 rfl (lv_at hl 1 rfl) ?_
              exact k_iret hM hsz hX ⟨_, rfl, rfl, rfl, (show frun M (n + 1) j = _ from ((if_neg c_1).trans ((if_neg c_3).trans ((if_neg c_4).trans ((if_neg h_6).trans rfl))))).symm.trans hxj⟩ (by decide) (by decide) dX5_faultOf_65
        · refine lv_aload_n hx hb dX5_faultOf_14 rfl (lv_at hl 1 rfl) ?_
          refine m_get hM hE hX hR 23 (by decide) k_1090 rfl rfl dX5_faultOf_15 ?_
          refine lv_iconst (v := 0) hx hb dX5_faultOf_18 (by decide) ?_
          refine m_iald hM hE hX hR 23 0 (by decide) rfl rfl rfl (show 0 < 10 by omega) dX5_faultOf_19 ?_
          refine lv_bipush (v := 82) hx hb dX5_faultOf_20 (by decide) ?_
          refine lv_icmp_ne (tgt := 29) hx hb dX5_faultOf_22 (by decide) (fun c_11 => ?_) (fun c_11 => ?_)
          · refine lv_iconst (v := 0) hx hb dX5_faultOf_29 (by decide) ?_
            refine lv_goto (tgt := 59) hx hb dX5_faultOf_30 (by decide) ?_
            refine lv_istore_n (lv' := [(2, .int 0), (1, .int (nI j)), (0, .ref o)]) hx hb dX5_faultOf_59 rfl hl (by decide) rfl (fun ls hl => ?_)
            refine lv_iload_n hx hb dX5_faultOf_60 rfl (lv_at hl 0 rfl) ?_
            refine lv_if_ne (tgt := 66) hx hb dX5_faultOf_61 (by decide) (fun c_12 => absurd (show ¬ (0 : Int32) = 0 from c_12) (by decide)) (fun _ => ?_)
            refine lv_iload_n hx hb dX5_faultOf_64 rfl (lv_at hl 1 rfl) ?_
            exact k_iret hM hsz hX ⟨_, rfl, rfl, rfl, (show frun M (n + 1) j = _ from ((if_neg c_1).trans ((if_pos c_3).trans ((if_neg c_11).trans rfl)))).symm.trans hxj⟩ (by decide) (by decide) dX5_faultOf_65
          · refine lv_iconst (v := 1) hx hb dX5_faultOf_25 (by decide) ?_
            refine lv_goto (tgt := 59) hx hb dX5_faultOf_26 (by decide) ?_
            refine lv_istore_n (lv' := [(2, .int 1), (1, .int (nI j)), (0, .ref o)]) hx hb dX5_faultOf_59 rfl hl (by decide) rfl (fun ls hl => ?_)
            refine lv_iload_n hx hb dX5_faultOf_60 rfl (lv_at hl 0 rfl) ?_
            refine lv_if_ne (tgt := 66) hx hb dX5_faultOf_61 (by decide) (fun _ => ?_) (fun c_13 => absurd (show (1 : Int32) = 0 from c_13) (by decide))
            refine lv_iinc (v := (nI (j + 1))) (lv' := [(1, .int (nI (j + 1))), (2, .int 1), (0, .ref o)]) hx hb dX5_faultOf_66 hl (k := 1) rfl (nI_1 _) (by decide) rfl (fun ls hl => ?_)
            refine lv_goto (tgt := 2) hx hb dX5_faultOf_69 (by decide) ?_
            exact ih (j + 1) (by omega) (by omega) ((show frun M (n + 1) j = frun M n (j + 1) from ((if_neg c_1).trans ((if_pos c_3).trans ((if_pos c_11).trans rfl)))).symm.trans hxj) _ _ _ hX (lv_sub hl [0, 2] rfl)
  refine lv_iconst (v := 0) hx hb dX5_faultOf_0 (by decide) ?_
  refine lv_istore_n (lv' := [(1, .int 0), (0, .ref o)]) hx hb dX5_faultOf_1 rfl hl (by decide) rfl (fun ls hl => ?_)
  exact hloop (dd M + 1) 0 (by omega) (Nat.zero_le _) rfl _ _ _ hX (lv_sub hl [0, 1] rfl)
def paysC (a b x : Int32) : Int32 := (if 0 ≤ a ∧ a ≤ 5 then (if 0 ≤ b ∧ b ≤ 5 then (if 1 ≤ x ∧ x ≤ 99999 then (if a = b then 2 else 0) else 2) else 1) else 1)
set_option maxHeartbeats 4000000 in
set_option maxRecDepth 100000 in
theorem c_X5_pays (l : Launch) (γ : kG) (L : List Nat) (F : kF)  (a b x : Int32) : kC l yX5_pays cX5_pays 3 (some .int) (kRm 2 0 0) γ L F [.int a, .int b, .int x] (kI fun r L1 F1 => L = L1 ∧ F = F1 ∧ r = paysC a b x) := by
  refine kC_of (by decide +kernel) (Nat.le_of_ble_eq_true rfl) ?_
  intro p e s m args below meth c sz ls hargs hsz hM hin hE hX hl
  have hx := hM.1
  have hb := hM.2.1
  have hl : lv_has ls 3 [(0, .int a), (1, .int b), (2, .int x)] := hl
  refine lv_iload_n hx hb dX5_pays_0 rfl (lv_at hl 0 rfl) ?_
  refine k_goi (k_S (n := 1) (As := [.int a]) (rest := []) hM hE hX hl (c_X5_isCompany l γ L F a) k_1152 k_1153 k_9 k_1154 ⟨by decide, by decide, by decide +kernel⟩ (by decide) rfl rfl (Nat.le_of_ble_eq_true rfl) dX5_pays_1 (by decide)) hE hX (fun r L1 F1 H locs hp hX => ?_)
  obtain ⟨rfl, rfl, ⟨rfl, h_1⟩ | ⟨rfl, h_1⟩⟩ := hp
  · have hco := okI_5 h_1
    have hco2 := hco.2
    refine lv_if_eq (tgt := 14) hx hb dX5_pays_4 (by decide) (fun c_2 => absurd (show (1 : Int32) = 0 from c_2) (by decide)) (fun _ => ?_)
    refine lv_iload_n hx hb dX5_pays_7 rfl (lv_at hl 1 rfl) ?_
    refine k_goi (k_S (n := 1) (As := [.int b]) (rest := []) hM hE hX hl (c_X5_isCompany l γ L F b) k_1152 k_1153 k_9 k_1154 ⟨by decide, by decide, by decide +kernel⟩ (by decide) rfl rfl (Nat.le_of_ble_eq_true rfl) dX5_pays_8 (by decide)) hE hX (fun r L1 F1 H locs hp hX => ?_)
    obtain ⟨rfl, rfl, ⟨rfl, h_3⟩ | ⟨rfl, h_3⟩⟩ := hp
    · have hco := okI_5 h_3
      have hco2 := hco.2
      refine lv_if_ne (tgt := 18) hx hb dX5_pays_11 (by decide) (fun _ => ?_) (fun c_4 => absurd (show (1 : Int32) = 0 from c_4) (by decide))
      refine lv_iload_n hx hb dX5_pays_18 rfl (lv_at hl 2 rfl) ?_
      refine lv_iconst (v := 1) hx hb dX5_pays_19 (by decide) ?_
      refine lv_ldc hx hb hM.2.2.2.1 (hM.2.2.2.2.1 _ k_1251) dX5_pays_20 ?_
      refine k_goi (k_S (n := 3) (As := [.int x, .int 1, .int 99999]) (rest := []) hM hE hX hl (c_X5_isIn l γ L F x 1 99999) k_1155 k_1156 k_9 k_1157 ⟨by decide, by decide, by decide +kernel⟩ (by decide) rfl rfl (Nat.le_of_ble_eq_true rfl) dX5_pays_22 (by decide)) hE hX (fun r L1 F1 H locs hp hX => ?_)
      obtain ⟨rfl, rfl, ⟨rfl, h_5⟩ | ⟨rfl, h_5⟩⟩ := hp
      · refine lv_if_eq (tgt := 33) hx hb dX5_pays_25 (by decide) (fun c_6 => absurd (show (1 : Int32) = 0 from c_6) (by decide)) (fun _ => ?_)
        refine lv_iload_n hx hb dX5_pays_28 rfl (lv_at hl 0 rfl) ?_
        refine lv_iload_n hx hb dX5_pays_29 rfl (lv_at hl 1 rfl) ?_
        refine lv_icmp_ne (tgt := 37) hx hb dX5_pays_30 (by decide) (fun c_7 => ?_) (fun c_7 => ?_)
        · refine lv_iconst (v := 0) hx hb dX5_pays_37 (by decide) ?_
          exact k_iret hM hsz hX ⟨_, rfl, rfl, rfl, (show paysC a b x = _ from ((if_pos h_1).trans ((if_pos h_3).trans ((if_pos h_5).trans ((if_neg c_7).trans rfl))))).symm⟩ (by decide) (by decide) dX5_pays_38
        · refine lv_iconst (v := 2) hx hb dX5_pays_33 (by decide) ?_
          refine lv_goto (tgt := 38) hx hb dX5_pays_34 (by decide) ?_
          exact k_iret hM hsz hX ⟨_, rfl, rfl, rfl, (show paysC a b x = _ from ((if_pos h_1).trans ((if_pos h_3).trans ((if_pos h_5).trans ((if_pos c_7).trans rfl))))).symm⟩ (by decide) (by decide) dX5_pays_38
      · refine lv_if_eq (tgt := 33) hx hb dX5_pays_25 (by decide) (fun _ => ?_) (fun c_8 => absurd (show ¬ (0 : Int32) = 0 from c_8) (by decide))
        refine lv_iconst (v := 2) hx hb dX5_pays_33 (by decide) ?_
        refine lv_goto (tgt := 38) hx hb dX5_pays_34 (by decide) ?_
        exact k_iret hM hsz hX ⟨_, rfl, rfl, rfl, (show paysC a b x = _ from ((if_pos h_1).trans ((if_pos h_3).trans ((if_neg h_5).trans rfl)))).symm⟩ (by decide) (by decide) dX5_pays_38
    · refine lv_if_ne (tgt := 18) hx hb dX5_pays_11 (by decide) (fun c_9 => absurd (show ¬ (0 : Int32) = 0 from c_9) (by decide)) (fun _ => ?_)
      refine lv_iconst (v := 1) hx hb dX5_pays_14 (by decide) ?_
      refine lv_goto (tgt := 38) hx hb dX5_pays_15 (by decide) ?_
      exact k_iret hM hsz hX ⟨_, rfl, rfl, rfl, (show paysC a b x = _ from ((if_pos h_1).trans ((if_neg h_3).trans rfl))).symm⟩ (by decide) (by decide) dX5_pays_38
  · refine lv_if_eq (tgt := 14) hx hb dX5_pays_4 (by decide) (fun _ => ?_) (fun c_10 => absurd (show ¬ (0 : Int32) = 0 from c_10) (by decide))
    refine lv_iconst (v := 1) hx hb dX5_pays_14 (by decide) ?_
    refine lv_goto (tgt := 38) hx hb dX5_pays_15 (by decide) ?_
    exact k_iret hM hsz hX ⟨_, rfl, rfl, rfl, (show paysC a b x = _ from ((if_neg h_1).trans rfl)).symm⟩ (by decide) (by decide) dX5_pays_38
def sumsM_st (M : mM) (a w : Int32) (j : Nat) (x : Int32) : Int32 := (if w = 0 then (if (M 4 j) = a then (x + (owed M j)) else (x + 0)) else (if (M 9 j) = a then (x + (owed M j)) else (x + 0)))
def sumsM (M : mM) (a w : Int32) : Int32 := l_fold (sumsM_st M a w) 0 (nn M)
set_option maxHeartbeats 4000000 in
set_option maxRecDepth 100000 in
theorem c_X5_sums (l : Launch) (γ : kG) (L : List Nat) (F : kF) (o : Nat) (ad : Nat → Nat) (M : mM) (hR : RepM γ L F o ad M) (a w : Int32) (hn : okN M) (hk : ∀ i, i < nn M → okL M i) : kC l yX5_sums cX5_sums 5 (some .int) (kRm 3 0 0) γ L F [.ref o, .int a, .int w] (kI fun r L1 F1 => L = L1 ∧ F = F1 ∧ r = sumsM M a w) := by
  refine kC_of (by decide +kernel) (Nat.le_of_ble_eq_true rfl) ?_
  intro p e s m args below meth c sz ls hargs hsz hM hin hE hX hl
  have hx := hM.1
  have hb := hM.2.1
  have hl : lv_has ls 5 [(0, .ref o), (1, .int a), (2, .int w)] := hl
  have hn2 := hn.2
  have hloop : ∀ (n j : Nat) (x : Int32), nn M < j + n → j ≤ nn M → x = l_fold (sumsM_st M a w) 0 j → ∀ (H : Heap) (locs : List Loc) (ls : Array Slot), kX γ (kA L sz) s L F H locs → lv_has ls 5 [(3, .int x), (4, .int (nI j)), (0, .ref o), (1, .int a), (2, .int w)] → W p l e (kRm 3 0 0) s m args below meth c H locs 0 0 (MQ below (kQ γ L sz (kI fun r L1 F1 => L = L1 ∧ F = F1 ∧ r = sumsM M a w)) args s (kRm 3 0 0).cells (kRm 3 0 0).slots (kA L sz)) (F0 m 5 ls []) := by
    intro n
    induction n with
    | zero => intro j x h1 h2; exact absurd h1 (by omega)
    | succ n ih =>
      intro j x h1 h2 hxj H locs ls hX hl
      refine lv_iload hx hb dX5_sums_5 (lv_at hl 1 rfl) ?_
      refine lv_aload_n hx hb dX5_sums_7 rfl (lv_at hl 2 rfl) ?_
      refine m_get hM hE hX hR 2 (by decide) k_1069 rfl rfl dX5_sums_8 ?_
      refine lv_icmp_ge (tgt := 58) hx hb dX5_sums_11 (by decide) (fun c_1 => ?_) (fun c_1 => ?_)
      · have ej : j = nn M := by
          have h9 := lp_out (a := j) (b := (nn M)) (by omega) (by omega) (by rw [← hn.1]; exact c_1)
          omega
        refine lv_iload_n hx hb dX5_sums_58 rfl (lv_at hl 0 rfl) ?_
        exact k_iret hM hsz hX ⟨_, rfl, rfl, rfl, by rw [hxj, ej]; rfl⟩ (by decide) (by decide) dX5_sums_59
      · have hj : j < nn M := by
          have h9 := lp_in (a := j) (b := (nn M)) (by omega) (by omega) (by rw [← hn.1]; exact c_1)
          omega
        refine lv_iload_n hx hb dX5_sums_14 rfl (lv_at hl 0 rfl) ?_
        refine lv_iload_n hx hb dX5_sums_15 rfl (lv_at hl 4 rfl) ?_
        refine lv_if_eq (tgt := 29) hx hb dX5_sums_16 (by decide) (fun c_2 => ?_) (fun c_2 => ?_)
        · refine lv_aload_n hx hb dX5_sums_29 rfl (lv_at hl 2 rfl) ?_
          refine m_get hM hE hX hR 4 (by decide) k_1071 rfl rfl dX5_sums_30 ?_
          refine lv_iload hx hb dX5_sums_33 (lv_at hl 1 rfl) ?_
          refine m_iald hM hE hX hR 4 j (by decide) rfl rfl rfl (show j < 20 by omega) dX5_sums_35 ?_
          refine lv_iload_n hx hb dX5_sums_36 rfl (lv_at hl 3 rfl) ?_
          refine lv_icmp_ne (tgt := 49) hx hb dX5_sums_37 (by decide) (fun c_3 => ?_) (fun c_3 => ?_)
          · refine lv_iconst (v := 0) hx hb dX5_sums_49 (by decide) ?_
            refine lv_iadd hx hb dX5_sums_50 ?_
            refine lv_istore_n (lv' := [(3, .int (x + 0)), (4, .int (nI j)), (0, .ref o), (1, .int a), (2, .int w)]) hx hb dX5_sums_51 rfl hl (by decide) rfl (fun ls hl => ?_)
            refine lv_iinc (v := (nI (j + 1))) (lv' := [(4, .int (nI (j + 1))), (3, .int (x + 0)), (0, .ref o), (1, .int a), (2, .int w)]) hx hb dX5_sums_52 hl (k := 1) rfl (nI_1 _) (by decide) rfl (fun ls hl => ?_)
            refine lv_goto (tgt := 5) hx hb dX5_sums_55 (by decide) ?_
            exact ih (j + 1) _ (by omega) (by omega) (show (x + 0) = l_fold (sumsM_st M a w) 0 (j + 1) from by rw [l_fold, ← hxj]; exact (show sumsM_st M a w j x = _ from ((if_pos c_2).trans ((if_neg c_3).trans rfl))).symm) _ _ _ hX (lv_sub hl [1, 0, 2, 3, 4] rfl)
          · refine lv_aload_n hx hb dX5_sums_40 rfl (lv_at hl 2 rfl) ?_
            refine lv_iload hx hb dX5_sums_41 (lv_at hl 1 rfl) ?_
            refine k_goi (k_V (n := 1) (As := [.int (nI j)]) (rest := [.int x]) hM hE hX hl (c_X5_owed l γ L F o ad M hR j (nI j) rfl (by omega) (hk j hj)) hR.1 hR.2.1 rfl k_1181 k_1183 kp_30 k_9 k_1184 ⟨rfl, by decide, by decide, by decide +kernel⟩ (by decide) rfl rfl (Nat.le_of_ble_eq_true rfl) dX5_sums_43 (by decide)) hE hX (fun r L1 F1 H locs hp hX => ?_)
            obtain ⟨rfl, rfl, rfl⟩ := hp
            refine lv_goto (tgt := 50) hx hb dX5_sums_46 (by decide) ?_
            refine lv_iadd hx hb dX5_sums_50 ?_
            refine lv_istore_n (lv' := [(3, .int (x + (owed M j))), (4, .int (nI j)), (0, .ref o), (1, .int a), (2, .int w)]) hx hb dX5_sums_51 rfl hl (by decide) rfl (fun ls hl => ?_)
            refine lv_iinc (v := (nI (j + 1))) (lv' := [(4, .int (nI (j + 1))), (3, .int (x + (owed M j))), (0, .ref o), (1, .int a), (2, .int w)]) hx hb dX5_sums_52 hl (k := 1) rfl (nI_1 _) (by decide) rfl (fun ls hl => ?_)
            refine lv_goto (tgt := 5) hx hb dX5_sums_55 (by decide) ?_
            exact ih (j + 1) _ (by omega) (by omega) (show (x + (owed M j)) = l_fold (sumsM_st M a w) 0 (j + 1) from by rw [l_fold, ← hxj]; exact (show sumsM_st M a w j x = _ from ((if_pos c_2).trans ((if_pos c_3).trans rfl))).symm) _ _ _ hX (lv_sub hl [1, 0, 2, 3, 4] rfl)
        · refine lv_aload_n hx hb dX5_sums_19 rfl (lv_at hl 2 rfl) ?_
          refine m_get hM hE hX hR 9 (by decide) k_1076 rfl rfl dX5_sums_20 ?_
          refine lv_iload hx hb dX5_sums_23 (lv_at hl 1 rfl) ?_
          refine m_iald hM hE hX hR 9 j (by decide) rfl rfl rfl (show j < 20 by omega) dX5_sums_25 ?_
          refine lv_goto (tgt := 36) hx hb dX5_sums_26 (by decide) ?_
          refine lv_iload_n hx hb dX5_sums_36 rfl (lv_at hl 3 rfl) ?_
          refine lv_icmp_ne (tgt := 49) hx hb dX5_sums_37 (by decide) (fun c_4 => ?_) (fun c_4 => ?_)
          · refine lv_iconst (v := 0) hx hb dX5_sums_49 (by decide) ?_
            refine lv_iadd hx hb dX5_sums_50 ?_
            refine lv_istore_n (lv' := [(3, .int (x + 0)), (4, .int (nI j)), (0, .ref o), (1, .int a), (2, .int w)]) hx hb dX5_sums_51 rfl hl (by decide) rfl (fun ls hl => ?_)
            refine lv_iinc (v := (nI (j + 1))) (lv' := [(4, .int (nI (j + 1))), (3, .int (x + 0)), (0, .ref o), (1, .int a), (2, .int w)]) hx hb dX5_sums_52 hl (k := 1) rfl (nI_1 _) (by decide) rfl (fun ls hl => ?_)
            refine lv_goto (tgt := 5) hx hb dX5_sums_55 (by decide) ?_
            exact ih (j + 1) _ (by omega) (by omega) (show (x + 0) = l_fold (sumsM_st M a w) 0 (j + 1) from by rw [l_fold, ← hxj]; exact (show sumsM_st M a w j x = _ from ((if_neg c_2).trans ((if_neg c_4).trans rfl))).symm) _ _ _ hX (lv_sub hl [1, 0, 2, 3, 4] rfl)
          · refine lv_aload_n hx hb dX5_sums_40 rfl (lv_at hl 2 rfl) ?_
            refine lv_iload hx hb dX5_sums_41 (lv_at hl 1 rfl) ?_
            refine k_goi (k_V (n := 1) (As := [.int (nI j)]) (rest := [.int x]) hM hE hX hl (c_X5_owed l γ L F o ad M hR j (nI j) rfl (by omega) (hk j hj)) hR.1 hR.2.1 rfl k_1181 k_1183 kp_30 k_9 k_1184 ⟨rfl, by decide, by decide, by decide +kernel⟩ (by decide) rfl rfl (Nat.le_of_ble_eq_true rfl) dX5_sums_43 (by decide)) hE hX (fun r L1 F1 H locs hp hX => ?_)
            obtain ⟨rfl, rfl, rfl⟩ := hp
            refine lv_goto (tgt := 50) hx hb dX5_sums_46 (by decide) ?_
            refine lv_iadd hx hb dX5_sums_50 ?_
            refine lv_istore_n (lv' := [(3, .int (x + (owed M j))), (4, .int (nI j)), (0, .ref o), (1, .int a), (2, .int w)]) hx hb dX5_sums_51 rfl hl (by decide) rfl (fun ls hl => ?_)
            refine lv_iinc (v := (nI (j + 1))) (lv' := [(4, .int (nI (j + 1))), (3, .int (x + (owed M j))), (0, .ref o), (1, .int a), (2, .int w)]) hx hb dX5_sums_52 hl (k := 1) rfl (nI_1 _) (by decide) rfl (fun ls hl => ?_)
            refine lv_goto (tgt := 5) hx hb dX5_sums_55 (by decide) ?_
            exact ih (j + 1) _ (by omega) (by omega) (show (x + (owed M j)) = l_fold (sumsM_st M a w) 0 (j + 1) from by rw [l_fold, ← hxj]; exact (show sumsM_st M a w j x = _ from ((if_neg c_2).trans ((if_pos c_4).trans rfl))).symm) _ _ _ hX (lv_sub hl [1, 0, 2, 3, 4] rfl)
  refine lv_iconst (v := 0) hx hb dX5_sums_0 (by decide) ?_
  refine lv_istore_n (lv' := [(3, .int 0), (0, .ref o), (1, .int a), (2, .int w)]) hx hb dX5_sums_1 rfl hl (by decide) rfl (fun ls hl => ?_)
  refine lv_iconst (v := 0) hx hb dX5_sums_2 (by decide) ?_
  refine lv_istore (lv' := [(4, .int 0), (3, .int 0), (0, .ref o), (1, .int a), (2, .int w)]) hx hb dX5_sums_3 hl (by decide) rfl (fun ls hl => ?_)
  exact hloop (nn M + 1) 0 _ (by omega) (Nat.zero_le _) rfl _ _ _ hX (lv_sub hl [1, 0, 2, 3, 4] rfl)
def tin1 (M : mM) (a b : Int32) (j : Nat) (x : Int32) : Int32 := (if (M 3 j) = a then (if ((M 7 j) / 30) = b then (if (M 6 j) = 2 then (if (M 4 j) = a then (if (M 6 j) = 1 then (if ((M 8 j) / 30) = b then ((x + 0) - (taxAll M j 1)) else ((x + 0) - 0)) else ((x + 0) - 0)) else ((x + 0) - 0)) else (if (M 4 j) = a then (if (M 6 j) = 1 then (if ((M 8 j) / 30) = b then ((x + (taxAll M j 1)) - (taxAll M j 1)) else ((x + (taxAll M j 1)) - 0)) else ((x + (taxAll M j 1)) - 0)) else ((x + (taxAll M j 1)) - 0))) else (if (M 4 j) = a then (if (M 6 j) = 1 then (if ((M 8 j) / 30) = b then ((x + 0) - (taxAll M j 1)) else ((x + 0) - 0)) else ((x + 0) - 0)) else ((x + 0) - 0))) else (if (M 4 j) = a then (if (M 6 j) = 1 then (if ((M 8 j) / 30) = b then ((x + 0) - (taxAll M j 1)) else ((x + 0) - 0)) else ((x + 0) - 0)) else ((x + 0) - 0)))
def tin2 (M : mM) (a b : Int32) (j : Nat) (x : Int32) : Int32 := (if ((M 20 j) / 30) = b then (if (M 3 (kj (M 19 j))) = a then (if (M 6 (kj (M 19 j))) = 2 then (if (M 4 (kj (M 19 j))) = a then (if (M 6 (kj (M 19 j))) = 1 then ((x - 0) + (M 21 j)) else ((x - 0) + 0)) else ((x - 0) + 0)) else (if (M 4 (kj (M 19 j))) = a then (if (M 6 (kj (M 19 j))) = 1 then ((x - (M 21 j)) + (M 21 j)) else ((x - (M 21 j)) + 0)) else ((x - (M 21 j)) + 0))) else (if (M 4 (kj (M 19 j))) = a then (if (M 6 (kj (M 19 j))) = 1 then ((x - 0) + (M 21 j)) else ((x - 0) + 0)) else ((x - 0) + 0))) else ((x - 0) + 0))
def taxIn (M : mM) (a b : Int32) : Int32 := l_fold (tin2 M a b) (l_fold (tin1 M a b) 0 (nn M)) (cc M)
set_option maxHeartbeats 4000000 in
set_option maxRecDepth 100000 in
theorem c_X5_taxIn (l : Launch) (γ : kG) (L : List Nat) (F : kF) (o : Nat) (ad : Nat → Nat) (M : mM) (hR : RepM γ L F o ad M) (a b : Int32) (hn : okN M) (hk : ∀ i, i < nn M → okL M i) (hc : okC M) (hci : ∀ k, k < cc M → okI (M 19 k) 20) : kC l yX5_taxIn cX5_taxIn 7 (some .int) (kRm 2 0 0) γ L F [.ref o, .int a, .int b] (kI fun r L1 F1 => L = L1 ∧ F = F1 ∧ r = taxIn M a b) := by
  refine kC_of (by decide +kernel) (Nat.le_of_ble_eq_true rfl) ?_
  intro p e s m args below meth c sz ls hargs hsz hM hin hE hX hl
  have hx := hM.1
  have hb := hM.2.1
  have hl : lv_has ls 7 [(0, .ref o), (1, .int a), (2, .int b)] := hl
  have hn2 := hn.2
  have hc2 := hc.2
  have hloop2 : ∀ (n j : Nat) (x : Int32), cc M < j + n → j ≤ cc M → x = l_fold (tin2 M a b) (l_fold (tin1 M a b) 0 (nn M)) j → ∀ (H : Heap) (locs : List Loc) (ls : Array Slot), kX γ (kA L sz) s L F H locs → lv_has ls 7 [(3, .int x), (4, .int (nI j)), (0, .ref o), (1, .int a), (2, .int b)] → W p l e (kRm 2 0 0) s m args below meth c H locs 0 0 (MQ below (kQ γ L sz (kI fun r L1 F1 => L = L1 ∧ F = F1 ∧ r = taxIn M a b)) args s (kRm 2 0 0).cells (kRm 2 0 0).slots (kA L sz)) (F0 m 123 ls []) := by
    intro n
    induction n with
    | zero => intro j x h1 h2; exact absurd h1 (by omega)
    | succ n ih =>
      intro j x h1 h2 hxj H locs ls hX hl
      refine lv_iload hx hb dX5_taxIn_123 (lv_at hl 1 rfl) ?_
      refine lv_aload_n hx hb dX5_taxIn_125 rfl (lv_at hl 2 rfl) ?_
      refine m_get hM hE hX hR 18 (by decide) k_1085 rfl rfl dX5_taxIn_126 ?_
      refine lv_icmp_ge (tgt := 250) hx hb dX5_taxIn_129 (by decide) (fun c_1 => ?_) (fun c_1 => ?_)
      · have ej : j = cc M := by
          have h9 := lp_out (a := j) (b := cc M) (by omega) (by omega) (by rw [← hc.1]; exact c_1)
          omega
        refine lv_iload_n hx hb dX5_taxIn_250 rfl (lv_at hl 0 rfl) ?_
        exact k_iret hM hsz hX ⟨_, rfl, rfl, rfl, by rw [hxj, ej]; rfl⟩ (by decide) (by decide) dX5_taxIn_251
      · have hj : j < cc M := by
          have h9 := lp_in (a := j) (b := cc M) (by omega) (by omega) (by rw [← hc.1]; exact c_1)
          omega
        have h19 := (hci j hj).2
        refine lv_aload_n hx hb dX5_taxIn_132 rfl (lv_at hl 2 rfl) ?_
        refine m_get hM hE hX hR 19 (by decide) k_1086 rfl rfl dX5_taxIn_133 ?_
        refine lv_iload hx hb dX5_taxIn_136 (lv_at hl 1 rfl) ?_
        refine m_iald hM hE hX hR 19 j (by decide) rfl rfl rfl (show j < 24 by omega) dX5_taxIn_138 ?_
        refine lv_istore (lv' := [(5, .int (M 19 j)), (3, .int x), (4, .int (nI j)), (0, .ref o), (1, .int a), (2, .int b)]) hx hb dX5_taxIn_139 hl (by decide) rfl (fun ls hl => ?_)
        refine lv_aload_n hx hb dX5_taxIn_141 rfl (lv_at hl 3 rfl) ?_
        refine m_get hM hE hX hR 20 (by decide) k_1087 rfl rfl dX5_taxIn_142 ?_
        refine lv_iload hx hb dX5_taxIn_145 (lv_at hl 2 rfl) ?_
        refine m_iald hM hE hX hR 20 j (by decide) rfl rfl rfl (show j < 24 by omega) dX5_taxIn_147 ?_
        refine lv_bipush (v := 30) hx hb dX5_taxIn_148 (by decide) ?_
        refine lv_idiv hx hb dX5_taxIn_150 (by decide) ?_
        refine lv_iload_n hx hb dX5_taxIn_151 rfl (lv_at hl 5 rfl) ?_
        refine lv_icmp_ne (tgt := 159) hx hb dX5_taxIn_152 (by decide) (fun c_2 => ?_) (fun c_2 => ?_)
        · refine lv_iconst (v := 0) hx hb dX5_taxIn_159 (by decide) ?_
          refine lv_istore (lv' := [(6, .int 0), (5, .int (M 19 j)), (3, .int x), (4, .int (nI j)), (0, .ref o), (1, .int a), (2, .int b)]) hx hb dX5_taxIn_160 hl (by decide) rfl (fun ls hl => ?_)
          refine lv_iload_n hx hb dX5_taxIn_162 rfl (lv_at hl 2 rfl) ?_
          refine lv_iload hx hb dX5_taxIn_163 (lv_at hl 0 rfl) ?_
          refine lv_if_eq (tgt := 200) hx hb dX5_taxIn_165 (by decide) (fun _ => ?_) (fun c_3 => absurd (show ¬ (0 : Int32) = 0 from c_3) (by decide))
          refine lv_iconst (v := 0) hx hb dX5_taxIn_200 (by decide) ?_
          refine lv_isub hx hb dX5_taxIn_201 ?_
          refine lv_istore_n (lv' := [(3, .int (x - 0)), (6, .int 0), (5, .int (M 19 j)), (4, .int (nI j)), (0, .ref o), (1, .int a), (2, .int b)]) hx hb dX5_taxIn_202 rfl hl (by decide) rfl (fun ls hl => ?_)
          refine lv_iload_n hx hb dX5_taxIn_203 rfl (lv_at hl 0 rfl) ?_
          refine lv_iload hx hb dX5_taxIn_204 (lv_at hl 1 rfl) ?_
          refine lv_if_eq (tgt := 241) hx hb dX5_taxIn_206 (by decide) (fun _ => ?_) (fun c_4 => absurd (show ¬ (0 : Int32) = 0 from c_4) (by decide))
          refine lv_iconst (v := 0) hx hb dX5_taxIn_241 (by decide) ?_
          refine lv_iadd hx hb dX5_taxIn_242 ?_
          refine lv_istore_n (lv' := [(3, .int ((x - 0) + 0)), (6, .int 0), (5, .int (M 19 j)), (4, .int (nI j)), (0, .ref o), (1, .int a), (2, .int b)]) hx hb dX5_taxIn_243 rfl hl (by decide) rfl (fun ls hl => ?_)
          refine lv_iinc (v := (nI (j + 1))) (lv' := [(4, .int (nI (j + 1))), (3, .int ((x - 0) + 0)), (6, .int 0), (5, .int (M 19 j)), (0, .ref o), (1, .int a), (2, .int b)]) hx hb dX5_taxIn_244 hl (k := 3) rfl (nI_1 _) (by decide) rfl (fun ls hl => ?_)
          refine lv_goto (tgt := 123) hx hb dX5_taxIn_247 (by decide) ?_
          exact ih (j + 1) _ (by omega) (by omega) (show ((x - 0) + 0) = l_fold (tin2 M a b) (l_fold (tin1 M a b) 0 (nn M)) (j + 1) from by rw [l_fold, ← hxj]; exact (show tin2 M a b j x = _ from ((if_neg c_2).trans rfl)).symm) _ _ _ hX (lv_sub hl [1, 0, 4, 5, 6] rfl)
        · refine lv_iconst (v := 1) hx hb dX5_taxIn_155 (by decide) ?_
          refine lv_goto (tgt := 160) hx hb dX5_taxIn_156 (by decide) ?_
          refine lv_istore (lv' := [(6, .int 1), (5, .int (M 19 j)), (3, .int x), (4, .int (nI j)), (0, .ref o), (1, .int a), (2, .int b)]) hx hb dX5_taxIn_160 hl (by decide) rfl (fun ls hl => ?_)
          refine lv_iload_n hx hb dX5_taxIn_162 rfl (lv_at hl 2 rfl) ?_
          refine lv_iload hx hb dX5_taxIn_163 (lv_at hl 0 rfl) ?_
          refine lv_if_eq (tgt := 200) hx hb dX5_taxIn_165 (by decide) (fun c_5 => absurd (show (1 : Int32) = 0 from c_5) (by decide)) (fun _ => ?_)
          refine lv_aload_n hx hb dX5_taxIn_168 rfl (lv_at hl 4 rfl) ?_
          refine m_get hM hE hX hR 3 (by decide) k_1070 rfl rfl dX5_taxIn_169 ?_
          refine lv_iload hx hb dX5_taxIn_172 (lv_at hl 1 rfl) ?_
          refine m_iald hM hE hX hR 3 (kj (M 19 j)) (by decide) rfl rfl ((hci j hj).1) (show kj (M 19 j) < 20 by omega) dX5_taxIn_174 ?_
          refine lv_iload_n hx hb dX5_taxIn_175 rfl (lv_at hl 5 rfl) ?_
          refine lv_icmp_ne (tgt := 200) hx hb dX5_taxIn_176 (by decide) (fun c_6 => ?_) (fun c_6 => ?_)
          · refine lv_iconst (v := 0) hx hb dX5_taxIn_200 (by decide) ?_
            refine lv_isub hx hb dX5_taxIn_201 ?_
            refine lv_istore_n (lv' := [(3, .int (x - 0)), (6, .int 1), (5, .int (M 19 j)), (4, .int (nI j)), (0, .ref o), (1, .int a), (2, .int b)]) hx hb dX5_taxIn_202 rfl hl (by decide) rfl (fun ls hl => ?_)
            refine lv_iload_n hx hb dX5_taxIn_203 rfl (lv_at hl 0 rfl) ?_
            refine lv_iload hx hb dX5_taxIn_204 (lv_at hl 1 rfl) ?_
            refine lv_if_eq (tgt := 241) hx hb dX5_taxIn_206 (by decide) (fun c_7 => absurd (show (1 : Int32) = 0 from c_7) (by decide)) (fun _ => ?_)
            refine lv_aload_n hx hb dX5_taxIn_209 rfl (lv_at hl 4 rfl) ?_
            refine m_get hM hE hX hR 4 (by decide) k_1071 rfl rfl dX5_taxIn_210 ?_
            refine lv_iload hx hb dX5_taxIn_213 (lv_at hl 2 rfl) ?_
            refine m_iald hM hE hX hR 4 (kj (M 19 j)) (by decide) rfl rfl ((hci j hj).1) (show kj (M 19 j) < 20 by omega) dX5_taxIn_215 ?_
            refine lv_iload_n hx hb dX5_taxIn_216 rfl (lv_at hl 5 rfl) ?_
            refine lv_icmp_ne (tgt := 241) hx hb dX5_taxIn_217 (by decide) (fun c_8 => ?_) (fun c_8 => ?_)
            · refine lv_iconst (v := 0) hx hb dX5_taxIn_241 (by decide) ?_
              refine lv_iadd hx hb dX5_taxIn_242 ?_
              refine lv_istore_n (lv' := [(3, .int ((x - 0) + 0)), (6, .int 1), (5, .int (M 19 j)), (4, .int (nI j)), (0, .ref o), (1, .int a), (2, .int b)]) hx hb dX5_taxIn_243 rfl hl (by decide) rfl (fun ls hl => ?_)
              refine lv_iinc (v := (nI (j + 1))) (lv' := [(4, .int (nI (j + 1))), (3, .int ((x - 0) + 0)), (6, .int 1), (5, .int (M 19 j)), (0, .ref o), (1, .int a), (2, .int b)]) hx hb dX5_taxIn_244 hl (k := 3) rfl (nI_1 _) (by decide) rfl (fun ls hl => ?_)
              refine lv_goto (tgt := 123) hx hb dX5_taxIn_247 (by decide) ?_
              exact ih (j + 1) _ (by omega) (by omega) (show ((x - 0) + 0) = l_fold (tin2 M a b) (l_fold (tin1 M a b) 0 (nn M)) (j + 1) from by rw [l_fold, ← hxj]; exact (show tin2 M a b j x = _ from ((if_pos c_2).trans ((if_neg c_6).trans ((if_neg c_8).trans rfl)))).symm) _ _ _ hX (lv_sub hl [1, 0, 4, 5, 6] rfl)
            · refine lv_aload_n hx hb dX5_taxIn_220 rfl (lv_at hl 4 rfl) ?_
              refine m_get hM hE hX hR 6 (by decide) k_1073 rfl rfl dX5_taxIn_221 ?_
              refine lv_iload hx hb dX5_taxIn_224 (lv_at hl 2 rfl) ?_
              refine m_iald hM hE hX hR 6 (kj (M 19 j)) (by decide) rfl rfl ((hci j hj).1) (show kj (M 19 j) < 20 by omega) dX5_taxIn_226 ?_
              refine lv_iconst (v := 1) hx hb dX5_taxIn_227 (by decide) ?_
              refine lv_icmp_ne (tgt := 241) hx hb dX5_taxIn_228 (by decide) (fun c_9 => ?_) (fun c_9 => ?_)
              · refine lv_iconst (v := 0) hx hb dX5_taxIn_241 (by decide) ?_
                refine lv_iadd hx hb dX5_taxIn_242 ?_
                refine lv_istore_n (lv' := [(3, .int ((x - 0) + 0)), (6, .int 1), (5, .int (M 19 j)), (4, .int (nI j)), (0, .ref o), (1, .int a), (2, .int b)]) hx hb dX5_taxIn_243 rfl hl (by decide) rfl (fun ls hl => ?_)
                refine lv_iinc (v := (nI (j + 1))) (lv' := [(4, .int (nI (j + 1))), (3, .int ((x - 0) + 0)), (6, .int 1), (5, .int (M 19 j)), (0, .ref o), (1, .int a), (2, .int b)]) hx hb dX5_taxIn_244 hl (k := 3) rfl (nI_1 _) (by decide) rfl (fun ls hl => ?_)
                refine lv_goto (tgt := 123) hx hb dX5_taxIn_247 (by decide) ?_
                exact ih (j + 1) _ (by omega) (by omega) (show ((x - 0) + 0) = l_fold (tin2 M a b) (l_fold (tin1 M a b) 0 (nn M)) (j + 1) from by rw [l_fold, ← hxj]; exact (show tin2 M a b j x = _ from ((if_pos c_2).trans ((if_neg c_6).trans ((if_pos c_8).trans ((if_neg c_9).trans rfl))))).symm) _ _ _ hX (lv_sub hl [1, 0, 4, 5, 6] rfl)
              · refine lv_aload_n hx hb dX5_taxIn_231 rfl (lv_at hl 4 rfl) ?_
                refine m_get hM hE hX hR 21 (by decide) k_1088 rfl rfl dX5_taxIn_232 ?_
                refine lv_iload hx hb dX5_taxIn_235 (lv_at hl 3 rfl) ?_
                refine m_iald hM hE hX hR 21 j (by decide) rfl rfl rfl (show j < 24 by omega) dX5_taxIn_237 ?_
                refine lv_goto (tgt := 242) hx hb dX5_taxIn_238 (by decide) ?_
                refine lv_iadd hx hb dX5_taxIn_242 ?_
                refine lv_istore_n (lv' := [(3, .int ((x - 0) + (M 21 j))), (6, .int 1), (5, .int (M 19 j)), (4, .int (nI j)), (0, .ref o), (1, .int a), (2, .int b)]) hx hb dX5_taxIn_243 rfl hl (by decide) rfl (fun ls hl => ?_)
                refine lv_iinc (v := (nI (j + 1))) (lv' := [(4, .int (nI (j + 1))), (3, .int ((x - 0) + (M 21 j))), (6, .int 1), (5, .int (M 19 j)), (0, .ref o), (1, .int a), (2, .int b)]) hx hb dX5_taxIn_244 hl (k := 3) rfl (nI_1 _) (by decide) rfl (fun ls hl => ?_)
                refine lv_goto (tgt := 123) hx hb dX5_taxIn_247 (by decide) ?_
                exact ih (j + 1) _ (by omega) (by omega) (show ((x - 0) + (M 21 j)) = l_fold (tin2 M a b) (l_fold (tin1 M a b) 0 (nn M)) (j + 1) from by rw [l_fold, ← hxj]; exact (show tin2 M a b j x = _ from ((if_pos c_2).trans ((if_neg c_6).trans ((if_pos c_8).trans ((if_pos c_9).trans rfl))))).symm) _ _ _ hX (lv_sub hl [1, 0, 4, 5, 6] rfl)
          · refine lv_aload_n hx hb dX5_taxIn_179 rfl (lv_at hl 4 rfl) ?_
            refine m_get hM hE hX hR 6 (by decide) k_1073 rfl rfl dX5_taxIn_180 ?_
            refine lv_iload hx hb dX5_taxIn_183 (lv_at hl 1 rfl) ?_
            refine m_iald hM hE hX hR 6 (kj (M 19 j)) (by decide) rfl rfl ((hci j hj).1) (show kj (M 19 j) < 20 by omega) dX5_taxIn_185 ?_
            refine lv_iconst (v := 2) hx hb dX5_taxIn_186 (by decide) ?_
            refine lv_icmp_eq (tgt := 200) hx hb dX5_taxIn_187 (by decide) (fun c_10 => ?_) (fun c_10 => ?_)
            · refine lv_iconst (v := 0) hx hb dX5_taxIn_200 (by decide) ?_
              refine lv_isub hx hb dX5_taxIn_201 ?_
              refine lv_istore_n (lv' := [(3, .int (x - 0)), (6, .int 1), (5, .int (M 19 j)), (4, .int (nI j)), (0, .ref o), (1, .int a), (2, .int b)]) hx hb dX5_taxIn_202 rfl hl (by decide) rfl (fun ls hl => ?_)
              refine lv_iload_n hx hb dX5_taxIn_203 rfl (lv_at hl 0 rfl) ?_
              refine lv_iload hx hb dX5_taxIn_204 (lv_at hl 1 rfl) ?_
              refine lv_if_eq (tgt := 241) hx hb dX5_taxIn_206 (by decide) (fun c_11 => absurd (show (1 : Int32) = 0 from c_11) (by decide)) (fun _ => ?_)
              refine lv_aload_n hx hb dX5_taxIn_209 rfl (lv_at hl 4 rfl) ?_
              refine m_get hM hE hX hR 4 (by decide) k_1071 rfl rfl dX5_taxIn_210 ?_
              refine lv_iload hx hb dX5_taxIn_213 (lv_at hl 2 rfl) ?_
              refine m_iald hM hE hX hR 4 (kj (M 19 j)) (by decide) rfl rfl ((hci j hj).1) (show kj (M 19 j) < 20 by omega) dX5_taxIn_215 ?_
              refine lv_iload_n hx hb dX5_taxIn_216 rfl (lv_at hl 5 rfl) ?_
              refine lv_icmp_ne (tgt := 241) hx hb dX5_taxIn_217 (by decide) (fun c_12 => ?_) (fun c_12 => ?_)
              · refine lv_iconst (v := 0) hx hb dX5_taxIn_241 (by decide) ?_
                refine lv_iadd hx hb dX5_taxIn_242 ?_
                refine lv_istore_n (lv' := [(3, .int ((x - 0) + 0)), (6, .int 1), (5, .int (M 19 j)), (4, .int (nI j)), (0, .ref o), (1, .int a), (2, .int b)]) hx hb dX5_taxIn_243 rfl hl (by decide) rfl (fun ls hl => ?_)
                refine lv_iinc (v := (nI (j + 1))) (lv' := [(4, .int (nI (j + 1))), (3, .int ((x - 0) + 0)), (6, .int 1), (5, .int (M 19 j)), (0, .ref o), (1, .int a), (2, .int b)]) hx hb dX5_taxIn_244 hl (k := 3) rfl (nI_1 _) (by decide) rfl (fun ls hl => ?_)
                refine lv_goto (tgt := 123) hx hb dX5_taxIn_247 (by decide) ?_
                exact ih (j + 1) _ (by omega) (by omega) (show ((x - 0) + 0) = l_fold (tin2 M a b) (l_fold (tin1 M a b) 0 (nn M)) (j + 1) from by rw [l_fold, ← hxj]; exact (show tin2 M a b j x = _ from ((if_pos c_2).trans ((if_pos c_6).trans ((if_pos c_10).trans ((if_neg c_12).trans rfl))))).symm) _ _ _ hX (lv_sub hl [1, 0, 4, 5, 6] rfl)
              · refine lv_aload_n hx hb dX5_taxIn_220 rfl (lv_at hl 4 rfl) ?_
                refine m_get hM hE hX hR 6 (by decide) k_1073 rfl rfl dX5_taxIn_221 ?_
                refine lv_iload hx hb dX5_taxIn_224 (lv_at hl 2 rfl) ?_
                refine m_iald hM hE hX hR 6 (kj (M 19 j)) (by decide) rfl rfl ((hci j hj).1) (show kj (M 19 j) < 20 by omega) dX5_taxIn_226 ?_
                refine lv_iconst (v := 1) hx hb dX5_taxIn_227 (by decide) ?_
                refine lv_icmp_ne (tgt := 241) hx hb dX5_taxIn_228 (by decide) (fun c_13 => ?_) (fun c_13 => ?_)
                · refine lv_iconst (v := 0) hx hb dX5_taxIn_241 (by decide) ?_
                  refine lv_iadd hx hb dX5_taxIn_242 ?_
                  refine lv_istore_n (lv' := [(3, .int ((x - 0) + 0)), (6, .int 1), (5, .int (M 19 j)), (4, .int (nI j)), (0, .ref o), (1, .int a), (2, .int b)]) hx hb dX5_taxIn_243 rfl hl (by decide) rfl (fun ls hl => ?_)
                  refine lv_iinc (v := (nI (j + 1))) (lv' := [(4, .int (nI (j + 1))), (3, .int ((x - 0) + 0)), (6, .int 1), (5, .int (M 19 j)), (0, .ref o), (1, .int a), (2, .int b)]) hx hb dX5_taxIn_244 hl (k := 3) rfl (nI_1 _) (by decide) rfl (fun ls hl => ?_)
                  refine lv_goto (tgt := 123) hx hb dX5_taxIn_247 (by decide) ?_
                  exact ih (j + 1) _ (by omega) (by omega) (show ((x - 0) + 0) = l_fold (tin2 M a b) (l_fold (tin1 M a b) 0 (nn M)) (j + 1) from by rw [l_fold, ← hxj]; exact (show tin2 M a b j x = _ from ((if_pos c_2).trans ((if_pos c_6).trans ((if_pos c_10).trans ((if_pos c_12).trans ((if_neg c_13).trans rfl)))))).symm) _ _ _ hX (lv_sub hl [1, 0, 4, 5, 6] rfl)
                · refine lv_aload_n hx hb dX5_taxIn_231 rfl (lv_at hl 4 rfl) ?_
                  refine m_get hM hE hX hR 21 (by decide) k_1088 rfl rfl dX5_taxIn_232 ?_
                  refine lv_iload hx hb dX5_taxIn_235 (lv_at hl 3 rfl) ?_
                  refine m_iald hM hE hX hR 21 j (by decide) rfl rfl rfl (show j < 24 by omega) dX5_taxIn_237 ?_
                  refine lv_goto (tgt := 242) hx hb dX5_taxIn_238 (by decide) ?_
                  refine lv_iadd hx hb dX5_taxIn_242 ?_
                  refine lv_istore_n (lv' := [(3, .int ((x - 0) + (M 21 j))), (6, .int 1), (5, .int (M 19 j)), (4, .int (nI j)), (0, .ref o), (1, .int a), (2, .int b)]) hx hb dX5_taxIn_243 rfl hl (by decide) rfl (fun ls hl => ?_)
                  refine lv_iinc (v := (nI (j + 1))) (lv' := [(4, .int (nI (j + 1))), (3, .int ((x - 0) + (M 21 j))), (6, .int 1), (5, .int (M 19 j)), (0, .ref o), (1, .int a), (2, .int b)]) hx hb dX5_taxIn_244 hl (k := 3) rfl (nI_1 _) (by decide) rfl (fun ls hl => ?_)
                  refine lv_goto (tgt := 123) hx hb dX5_taxIn_247 (by decide) ?_
                  exact ih (j + 1) _ (by omega) (by omega) (show ((x - 0) + (M 21 j)) = l_fold (tin2 M a b) (l_fold (tin1 M a b) 0 (nn M)) (j + 1) from by rw [l_fold, ← hxj]; exact (show tin2 M a b j x = _ from ((if_pos c_2).trans ((if_pos c_6).trans ((if_pos c_10).trans ((if_pos c_12).trans ((if_pos c_13).trans rfl)))))).symm) _ _ _ hX (lv_sub hl [1, 0, 4, 5, 6] rfl)
            · refine lv_aload_n hx hb dX5_taxIn_190 rfl (lv_at hl 4 rfl) ?_
              refine m_get hM hE hX hR 21 (by decide) k_1088 rfl rfl dX5_taxIn_191 ?_
              refine lv_iload hx hb dX5_taxIn_194 (lv_at hl 3 rfl) ?_
              refine m_iald hM hE hX hR 21 j (by decide) rfl rfl rfl (show j < 24 by omega) dX5_taxIn_196 ?_
              refine lv_goto (tgt := 201) hx hb dX5_taxIn_197 (by decide) ?_
              refine lv_isub hx hb dX5_taxIn_201 ?_
              refine lv_istore_n (lv' := [(3, .int (x - (M 21 j))), (6, .int 1), (5, .int (M 19 j)), (4, .int (nI j)), (0, .ref o), (1, .int a), (2, .int b)]) hx hb dX5_taxIn_202 rfl hl (by decide) rfl (fun ls hl => ?_)
              refine lv_iload_n hx hb dX5_taxIn_203 rfl (lv_at hl 0 rfl) ?_
              refine lv_iload hx hb dX5_taxIn_204 (lv_at hl 1 rfl) ?_
              refine lv_if_eq (tgt := 241) hx hb dX5_taxIn_206 (by decide) (fun c_14 => absurd (show (1 : Int32) = 0 from c_14) (by decide)) (fun _ => ?_)
              refine lv_aload_n hx hb dX5_taxIn_209 rfl (lv_at hl 4 rfl) ?_
              refine m_get hM hE hX hR 4 (by decide) k_1071 rfl rfl dX5_taxIn_210 ?_
              refine lv_iload hx hb dX5_taxIn_213 (lv_at hl 2 rfl) ?_
              refine m_iald hM hE hX hR 4 (kj (M 19 j)) (by decide) rfl rfl ((hci j hj).1) (show kj (M 19 j) < 20 by omega) dX5_taxIn_215 ?_
              refine lv_iload_n hx hb dX5_taxIn_216 rfl (lv_at hl 5 rfl) ?_
              refine lv_icmp_ne (tgt := 241) hx hb dX5_taxIn_217 (by decide) (fun c_15 => ?_) (fun c_15 => ?_)
              · refine lv_iconst (v := 0) hx hb dX5_taxIn_241 (by decide) ?_
                refine lv_iadd hx hb dX5_taxIn_242 ?_
                refine lv_istore_n (lv' := [(3, .int ((x - (M 21 j)) + 0)), (6, .int 1), (5, .int (M 19 j)), (4, .int (nI j)), (0, .ref o), (1, .int a), (2, .int b)]) hx hb dX5_taxIn_243 rfl hl (by decide) rfl (fun ls hl => ?_)
                refine lv_iinc (v := (nI (j + 1))) (lv' := [(4, .int (nI (j + 1))), (3, .int ((x - (M 21 j)) + 0)), (6, .int 1), (5, .int (M 19 j)), (0, .ref o), (1, .int a), (2, .int b)]) hx hb dX5_taxIn_244 hl (k := 3) rfl (nI_1 _) (by decide) rfl (fun ls hl => ?_)
                refine lv_goto (tgt := 123) hx hb dX5_taxIn_247 (by decide) ?_
                exact ih (j + 1) _ (by omega) (by omega) (show ((x - (M 21 j)) + 0) = l_fold (tin2 M a b) (l_fold (tin1 M a b) 0 (nn M)) (j + 1) from by rw [l_fold, ← hxj]; exact (show tin2 M a b j x = _ from ((if_pos c_2).trans ((if_pos c_6).trans ((if_neg c_10).trans ((if_neg c_15).trans rfl))))).symm) _ _ _ hX (lv_sub hl [1, 0, 4, 5, 6] rfl)
              · refine lv_aload_n hx hb dX5_taxIn_220 rfl (lv_at hl 4 rfl) ?_
                refine m_get hM hE hX hR 6 (by decide) k_1073 rfl rfl dX5_taxIn_221 ?_
                refine lv_iload hx hb dX5_taxIn_224 (lv_at hl 2 rfl) ?_
                refine m_iald hM hE hX hR 6 (kj (M 19 j)) (by decide) rfl rfl ((hci j hj).1) (show kj (M 19 j) < 20 by omega) dX5_taxIn_226 ?_
                refine lv_iconst (v := 1) hx hb dX5_taxIn_227 (by decide) ?_
                refine lv_icmp_ne (tgt := 241) hx hb dX5_taxIn_228 (by decide) (fun c_16 => ?_) (fun c_16 => ?_)
                · refine lv_iconst (v := 0) hx hb dX5_taxIn_241 (by decide) ?_
                  refine lv_iadd hx hb dX5_taxIn_242 ?_
                  refine lv_istore_n (lv' := [(3, .int ((x - (M 21 j)) + 0)), (6, .int 1), (5, .int (M 19 j)), (4, .int (nI j)), (0, .ref o), (1, .int a), (2, .int b)]) hx hb dX5_taxIn_243 rfl hl (by decide) rfl (fun ls hl => ?_)
                  refine lv_iinc (v := (nI (j + 1))) (lv' := [(4, .int (nI (j + 1))), (3, .int ((x - (M 21 j)) + 0)), (6, .int 1), (5, .int (M 19 j)), (0, .ref o), (1, .int a), (2, .int b)]) hx hb dX5_taxIn_244 hl (k := 3) rfl (nI_1 _) (by decide) rfl (fun ls hl => ?_)
                  refine lv_goto (tgt := 123) hx hb dX5_taxIn_247 (by decide) ?_
                  exact ih (j + 1) _ (by omega) (by omega) (show ((x - (M 21 j)) + 0) = l_fold (tin2 M a b) (l_fold (tin1 M a b) 0 (nn M)) (j + 1) from by rw [l_fold, ← hxj]; exact (show tin2 M a b j x = _ from ((if_pos c_2).trans ((if_pos c_6).trans ((if_neg c_10).trans ((if_pos c_15).trans ((if_neg c_16).trans rfl)))))).symm) _ _ _ hX (lv_sub hl [1, 0, 4, 5, 6] rfl)
                · refine lv_aload_n hx hb dX5_taxIn_231 rfl (lv_at hl 4 rfl) ?_
                  refine m_get hM hE hX hR 21 (by decide) k_1088 rfl rfl dX5_taxIn_232 ?_
                  refine lv_iload hx hb dX5_taxIn_235 (lv_at hl 3 rfl) ?_
                  refine m_iald hM hE hX hR 21 j (by decide) rfl rfl rfl (show j < 24 by omega) dX5_taxIn_237 ?_
                  refine lv_goto (tgt := 242) hx hb dX5_taxIn_238 (by decide) ?_
                  refine lv_iadd hx hb dX5_taxIn_242 ?_
                  refine lv_istore_n (lv' := [(3, .int ((x - (M 21 j)) + (M 21 j))), (6, .int 1), (5, .int (M 19 j)), (4, .int (nI j)), (0, .ref o), (1, .int a), (2, .int b)]) hx hb dX5_taxIn_243 rfl hl (by decide) rfl (fun ls hl => ?_)
                  refine lv_iinc (v := (nI (j + 1))) (lv' := [(4, .int (nI (j + 1))), (3, .int ((x - (M 21 j)) + (M 21 j))), (6, .int 1), (5, .int (M 19 j)), (0, .ref o), (1, .int a), (2, .int b)]) hx hb dX5_taxIn_244 hl (k := 3) rfl (nI_1 _) (by decide) rfl (fun ls hl => ?_)
                  refine lv_goto (tgt := 123) hx hb dX5_taxIn_247 (by decide) ?_
                  exact ih (j + 1) _ (by omega) (by omega) (show ((x - (M 21 j)) + (M 21 j)) = l_fold (tin2 M a b) (l_fold (tin1 M a b) 0 (nn M)) (j + 1) from by rw [l_fold, ← hxj]; exact (show tin2 M a b j x = _ from ((if_pos c_2).trans ((if_pos c_6).trans ((if_neg c_10).trans ((if_pos c_15).trans ((if_pos c_16).trans rfl)))))).symm) _ _ _ hX (lv_sub hl [1, 0, 4, 5, 6] rfl)
  have hloop1 : ∀ (n j : Nat) (x : Int32), nn M < j + n → j ≤ nn M → x = l_fold (tin1 M a b) 0 j → ∀ (H : Heap) (locs : List Loc) (ls : Array Slot), kX γ (kA L sz) s L F H locs → lv_has ls 7 [(3, .int x), (4, .int (nI j)), (0, .ref o), (1, .int a), (2, .int b)] → W p l e (kRm 2 0 0) s m args below meth c H locs 0 0 (MQ below (kQ γ L sz (kI fun r L1 F1 => L = L1 ∧ F = F1 ∧ r = taxIn M a b)) args s (kRm 2 0 0).cells (kRm 2 0 0).slots (kA L sz)) (F0 m 5 ls []) := by
    intro n
    induction n with
    | zero => intro j x h1 h2; exact absurd h1 (by omega)
    | succ n ih =>
      intro j x h1 h2 hxj H locs ls hX hl
      refine lv_iload hx hb dX5_taxIn_5 (lv_at hl 1 rfl) ?_
      refine lv_aload_n hx hb dX5_taxIn_7 rfl (lv_at hl 2 rfl) ?_
      refine m_get hM hE hX hR 2 (by decide) k_1069 rfl rfl dX5_taxIn_8 ?_
      refine lv_icmp_ge (tgt := 120) hx hb dX5_taxIn_11 (by decide) (fun c_1 => ?_) (fun c_1 => ?_)
      · have ej : j = nn M := by
          have h9 := lp_out (a := j) (b := nn M) (by omega) (by omega) (by rw [← hn.1]; exact c_1)
          omega
        refine lv_iconst (v := 0) hx hb dX5_taxIn_120 (by decide) ?_
        refine lv_istore (lv' := [(4, .int 0), (3, .int x), (0, .ref o), (1, .int a), (2, .int b)]) hx hb dX5_taxIn_121 hl (by decide) rfl (fun ls hl => ?_)
        exact hloop2 (cc M + 1) 0 _ (by omega) (Nat.zero_le _) (by rw [hxj, ej]; rfl) _ _ _ hX (lv_sub hl [1, 0, 2, 3, 4] rfl)
      · have hj : j < nn M := by
          have h9 := lp_in (a := j) (b := nn M) (by omega) (by omega) (by rw [← hn.1]; exact c_1)
          omega
        refine lv_iload_n hx hb dX5_taxIn_14 rfl (lv_at hl 0 rfl) ?_
        refine lv_aload_n hx hb dX5_taxIn_15 rfl (lv_at hl 2 rfl) ?_
        refine m_get hM hE hX hR 3 (by decide) k_1070 rfl rfl dX5_taxIn_16 ?_
        refine lv_iload hx hb dX5_taxIn_19 (lv_at hl 1 rfl) ?_
        refine m_iald hM hE hX hR 3 j (by decide) rfl rfl rfl (show j < 20 by omega) dX5_taxIn_21 ?_
        refine lv_iload_n hx hb dX5_taxIn_22 rfl (lv_at hl 3 rfl) ?_
        refine lv_icmp_ne (tgt := 61) hx hb dX5_taxIn_23 (by decide) (fun c_2 => ?_) (fun c_2 => ?_)
        · refine lv_iconst (v := 0) hx hb dX5_taxIn_61 (by decide) ?_
          refine lv_iadd hx hb dX5_taxIn_62 ?_
          refine lv_istore_n (lv' := [(3, .int (x + 0)), (4, .int (nI j)), (0, .ref o), (1, .int a), (2, .int b)]) hx hb dX5_taxIn_63 rfl hl (by decide) rfl (fun ls hl => ?_)
          refine lv_iload_n hx hb dX5_taxIn_64 rfl (lv_at hl 0 rfl) ?_
          refine lv_aload_n hx hb dX5_taxIn_65 rfl (lv_at hl 2 rfl) ?_
          refine m_get hM hE hX hR 4 (by decide) k_1071 rfl rfl dX5_taxIn_66 ?_
          refine lv_iload hx hb dX5_taxIn_69 (lv_at hl 1 rfl) ?_
          refine m_iald hM hE hX hR 4 j (by decide) rfl rfl rfl (show j < 20 by omega) dX5_taxIn_71 ?_
          refine lv_iload_n hx hb dX5_taxIn_72 rfl (lv_at hl 3 rfl) ?_
          refine lv_icmp_ne (tgt := 111) hx hb dX5_taxIn_73 (by decide) (fun c_3 => ?_) (fun c_3 => ?_)
          · refine lv_iconst (v := 0) hx hb dX5_taxIn_111 (by decide) ?_
            refine lv_isub hx hb dX5_taxIn_112 ?_
            refine lv_istore_n (lv' := [(3, .int ((x + 0) - 0)), (4, .int (nI j)), (0, .ref o), (1, .int a), (2, .int b)]) hx hb dX5_taxIn_113 rfl hl (by decide) rfl (fun ls hl => ?_)
            refine lv_iinc (v := (nI (j + 1))) (lv' := [(4, .int (nI (j + 1))), (3, .int ((x + 0) - 0)), (0, .ref o), (1, .int a), (2, .int b)]) hx hb dX5_taxIn_114 hl (k := 1) rfl (nI_1 _) (by decide) rfl (fun ls hl => ?_)
            refine lv_goto (tgt := 5) hx hb dX5_taxIn_117 (by decide) ?_
            exact ih (j + 1) _ (by omega) (by omega) (show ((x + 0) - 0) = l_fold (tin1 M a b) 0 (j + 1) from by rw [l_fold, ← hxj]; exact (show tin1 M a b j x = _ from ((if_neg c_2).trans ((if_neg c_3).trans rfl))).symm) _ _ _ hX (lv_sub hl [1, 0, 2, 3, 4] rfl)
          · refine lv_aload_n hx hb dX5_taxIn_76 rfl (lv_at hl 2 rfl) ?_
            refine m_get hM hE hX hR 6 (by decide) k_1073 rfl rfl dX5_taxIn_77 ?_
            refine lv_iload hx hb dX5_taxIn_80 (lv_at hl 1 rfl) ?_
            refine m_iald hM hE hX hR 6 j (by decide) rfl rfl rfl (show j < 20 by omega) dX5_taxIn_82 ?_
            refine lv_iconst (v := 1) hx hb dX5_taxIn_83 (by decide) ?_
            refine lv_icmp_ne (tgt := 111) hx hb dX5_taxIn_84 (by decide) (fun c_4 => ?_) (fun c_4 => ?_)
            · refine lv_iconst (v := 0) hx hb dX5_taxIn_111 (by decide) ?_
              refine lv_isub hx hb dX5_taxIn_112 ?_
              refine lv_istore_n (lv' := [(3, .int ((x + 0) - 0)), (4, .int (nI j)), (0, .ref o), (1, .int a), (2, .int b)]) hx hb dX5_taxIn_113 rfl hl (by decide) rfl (fun ls hl => ?_)
              refine lv_iinc (v := (nI (j + 1))) (lv' := [(4, .int (nI (j + 1))), (3, .int ((x + 0) - 0)), (0, .ref o), (1, .int a), (2, .int b)]) hx hb dX5_taxIn_114 hl (k := 1) rfl (nI_1 _) (by decide) rfl (fun ls hl => ?_)
              refine lv_goto (tgt := 5) hx hb dX5_taxIn_117 (by decide) ?_
              exact ih (j + 1) _ (by omega) (by omega) (show ((x + 0) - 0) = l_fold (tin1 M a b) 0 (j + 1) from by rw [l_fold, ← hxj]; exact (show tin1 M a b j x = _ from ((if_neg c_2).trans ((if_pos c_3).trans ((if_neg c_4).trans rfl)))).symm) _ _ _ hX (lv_sub hl [1, 0, 2, 3, 4] rfl)
            · refine lv_aload_n hx hb dX5_taxIn_87 rfl (lv_at hl 2 rfl) ?_
              refine m_get hM hE hX hR 8 (by decide) k_1075 rfl rfl dX5_taxIn_88 ?_
              refine lv_iload hx hb dX5_taxIn_91 (lv_at hl 1 rfl) ?_
              refine m_iald hM hE hX hR 8 j (by decide) rfl rfl rfl (show j < 20 by omega) dX5_taxIn_93 ?_
              refine lv_bipush (v := 30) hx hb dX5_taxIn_94 (by decide) ?_
              refine lv_idiv hx hb dX5_taxIn_96 (by decide) ?_
              refine lv_iload_n hx hb dX5_taxIn_97 rfl (lv_at hl 4 rfl) ?_
              refine lv_icmp_ne (tgt := 111) hx hb dX5_taxIn_98 (by decide) (fun c_5 => ?_) (fun c_5 => ?_)
              · refine lv_iconst (v := 0) hx hb dX5_taxIn_111 (by decide) ?_
                refine lv_isub hx hb dX5_taxIn_112 ?_
                refine lv_istore_n (lv' := [(3, .int ((x + 0) - 0)), (4, .int (nI j)), (0, .ref o), (1, .int a), (2, .int b)]) hx hb dX5_taxIn_113 rfl hl (by decide) rfl (fun ls hl => ?_)
                refine lv_iinc (v := (nI (j + 1))) (lv' := [(4, .int (nI (j + 1))), (3, .int ((x + 0) - 0)), (0, .ref o), (1, .int a), (2, .int b)]) hx hb dX5_taxIn_114 hl (k := 1) rfl (nI_1 _) (by decide) rfl (fun ls hl => ?_)
                refine lv_goto (tgt := 5) hx hb dX5_taxIn_117 (by decide) ?_
                exact ih (j + 1) _ (by omega) (by omega) (show ((x + 0) - 0) = l_fold (tin1 M a b) 0 (j + 1) from by rw [l_fold, ← hxj]; exact (show tin1 M a b j x = _ from ((if_neg c_2).trans ((if_pos c_3).trans ((if_pos c_4).trans ((if_neg c_5).trans rfl))))).symm) _ _ _ hX (lv_sub hl [1, 0, 2, 3, 4] rfl)
              · refine lv_aload_n hx hb dX5_taxIn_101 rfl (lv_at hl 2 rfl) ?_
                refine lv_iload hx hb dX5_taxIn_102 (lv_at hl 1 rfl) ?_
                refine lv_iconst (v := 1) hx hb dX5_taxIn_104 (by decide) ?_
                refine k_goi (k_V (n := 2) (As := [.int (nI j), .int 1]) (rest := [.int (x + 0)]) hM hE hX hl (c_X5_taxOfAll l γ L F o ad M hR j (nI j) 1 rfl (by omega) (hk j hj)) hR.1 hR.2.1 rfl k_1264 k_1266 kp_36 k_9 k_1267 ⟨rfl, by decide, by decide, by decide +kernel⟩ (by decide) rfl rfl (Nat.le_of_ble_eq_true rfl) dX5_taxIn_105 (by decide)) hE hX (fun r L1 F1 H locs hp hX => ?_)
                obtain ⟨rfl, rfl, rfl⟩ := hp
                refine lv_goto (tgt := 112) hx hb dX5_taxIn_108 (by decide) ?_
                refine lv_isub hx hb dX5_taxIn_112 ?_
                refine lv_istore_n (lv' := [(3, .int ((x + 0) - (taxAll M j 1))), (4, .int (nI j)), (0, .ref o), (1, .int a), (2, .int b)]) hx hb dX5_taxIn_113 rfl hl (by decide) rfl (fun ls hl => ?_)
                refine lv_iinc (v := (nI (j + 1))) (lv' := [(4, .int (nI (j + 1))), (3, .int ((x + 0) - (taxAll M j 1))), (0, .ref o), (1, .int a), (2, .int b)]) hx hb dX5_taxIn_114 hl (k := 1) rfl (nI_1 _) (by decide) rfl (fun ls hl => ?_)
                refine lv_goto (tgt := 5) hx hb dX5_taxIn_117 (by decide) ?_
                exact ih (j + 1) _ (by omega) (by omega) (show ((x + 0) - (taxAll M j 1)) = l_fold (tin1 M a b) 0 (j + 1) from by rw [l_fold, ← hxj]; exact (show tin1 M a b j x = _ from ((if_neg c_2).trans ((if_pos c_3).trans ((if_pos c_4).trans ((if_pos c_5).trans rfl))))).symm) _ _ _ hX (lv_sub hl [1, 0, 2, 3, 4] rfl)
        · refine lv_aload_n hx hb dX5_taxIn_26 rfl (lv_at hl 2 rfl) ?_
          refine m_get hM hE hX hR 7 (by decide) k_1074 rfl rfl dX5_taxIn_27 ?_
          refine lv_iload hx hb dX5_taxIn_30 (lv_at hl 1 rfl) ?_
          refine m_iald hM hE hX hR 7 j (by decide) rfl rfl rfl (show j < 20 by omega) dX5_taxIn_32 ?_
          refine lv_bipush (v := 30) hx hb dX5_taxIn_33 (by decide) ?_
          refine lv_idiv hx hb dX5_taxIn_35 (by decide) ?_
          refine lv_iload_n hx hb dX5_taxIn_36 rfl (lv_at hl 4 rfl) ?_
          refine lv_icmp_ne (tgt := 61) hx hb dX5_taxIn_37 (by decide) (fun c_6 => ?_) (fun c_6 => ?_)
          · refine lv_iconst (v := 0) hx hb dX5_taxIn_61 (by decide) ?_
            refine lv_iadd hx hb dX5_taxIn_62 ?_
            refine lv_istore_n (lv' := [(3, .int (x + 0)), (4, .int (nI j)), (0, .ref o), (1, .int a), (2, .int b)]) hx hb dX5_taxIn_63 rfl hl (by decide) rfl (fun ls hl => ?_)
            refine lv_iload_n hx hb dX5_taxIn_64 rfl (lv_at hl 0 rfl) ?_
            refine lv_aload_n hx hb dX5_taxIn_65 rfl (lv_at hl 2 rfl) ?_
            refine m_get hM hE hX hR 4 (by decide) k_1071 rfl rfl dX5_taxIn_66 ?_
            refine lv_iload hx hb dX5_taxIn_69 (lv_at hl 1 rfl) ?_
            refine m_iald hM hE hX hR 4 j (by decide) rfl rfl rfl (show j < 20 by omega) dX5_taxIn_71 ?_
            refine lv_iload_n hx hb dX5_taxIn_72 rfl (lv_at hl 3 rfl) ?_
            refine lv_icmp_ne (tgt := 111) hx hb dX5_taxIn_73 (by decide) (fun c_7 => ?_) (fun c_7 => ?_)
            · refine lv_iconst (v := 0) hx hb dX5_taxIn_111 (by decide) ?_
              refine lv_isub hx hb dX5_taxIn_112 ?_
              refine lv_istore_n (lv' := [(3, .int ((x + 0) - 0)), (4, .int (nI j)), (0, .ref o), (1, .int a), (2, .int b)]) hx hb dX5_taxIn_113 rfl hl (by decide) rfl (fun ls hl => ?_)
              refine lv_iinc (v := (nI (j + 1))) (lv' := [(4, .int (nI (j + 1))), (3, .int ((x + 0) - 0)), (0, .ref o), (1, .int a), (2, .int b)]) hx hb dX5_taxIn_114 hl (k := 1) rfl (nI_1 _) (by decide) rfl (fun ls hl => ?_)
              refine lv_goto (tgt := 5) hx hb dX5_taxIn_117 (by decide) ?_
              exact ih (j + 1) _ (by omega) (by omega) (show ((x + 0) - 0) = l_fold (tin1 M a b) 0 (j + 1) from by rw [l_fold, ← hxj]; exact (show tin1 M a b j x = _ from ((if_pos c_2).trans ((if_neg c_6).trans ((if_neg c_7).trans rfl)))).symm) _ _ _ hX (lv_sub hl [1, 0, 2, 3, 4] rfl)
            · refine lv_aload_n hx hb dX5_taxIn_76 rfl (lv_at hl 2 rfl) ?_
              refine m_get hM hE hX hR 6 (by decide) k_1073 rfl rfl dX5_taxIn_77 ?_
              refine lv_iload hx hb dX5_taxIn_80 (lv_at hl 1 rfl) ?_
              refine m_iald hM hE hX hR 6 j (by decide) rfl rfl rfl (show j < 20 by omega) dX5_taxIn_82 ?_
              refine lv_iconst (v := 1) hx hb dX5_taxIn_83 (by decide) ?_
              refine lv_icmp_ne (tgt := 111) hx hb dX5_taxIn_84 (by decide) (fun c_8 => ?_) (fun c_8 => ?_)
              · refine lv_iconst (v := 0) hx hb dX5_taxIn_111 (by decide) ?_
                refine lv_isub hx hb dX5_taxIn_112 ?_
                refine lv_istore_n (lv' := [(3, .int ((x + 0) - 0)), (4, .int (nI j)), (0, .ref o), (1, .int a), (2, .int b)]) hx hb dX5_taxIn_113 rfl hl (by decide) rfl (fun ls hl => ?_)
                refine lv_iinc (v := (nI (j + 1))) (lv' := [(4, .int (nI (j + 1))), (3, .int ((x + 0) - 0)), (0, .ref o), (1, .int a), (2, .int b)]) hx hb dX5_taxIn_114 hl (k := 1) rfl (nI_1 _) (by decide) rfl (fun ls hl => ?_)
                refine lv_goto (tgt := 5) hx hb dX5_taxIn_117 (by decide) ?_
                exact ih (j + 1) _ (by omega) (by omega) (show ((x + 0) - 0) = l_fold (tin1 M a b) 0 (j + 1) from by rw [l_fold, ← hxj]; exact (show tin1 M a b j x = _ from ((if_pos c_2).trans ((if_neg c_6).trans ((if_pos c_7).trans ((if_neg c_8).trans rfl))))).symm) _ _ _ hX (lv_sub hl [1, 0, 2, 3, 4] rfl)
              · refine lv_aload_n hx hb dX5_taxIn_87 rfl (lv_at hl 2 rfl) ?_
                refine m_get hM hE hX hR 8 (by decide) k_1075 rfl rfl dX5_taxIn_88 ?_
                refine lv_iload hx hb dX5_taxIn_91 (lv_at hl 1 rfl) ?_
                refine m_iald hM hE hX hR 8 j (by decide) rfl rfl rfl (show j < 20 by omega) dX5_taxIn_93 ?_
                refine lv_bipush (v := 30) hx hb dX5_taxIn_94 (by decide) ?_
                refine lv_idiv hx hb dX5_taxIn_96 (by decide) ?_
                refine lv_iload_n hx hb dX5_taxIn_97 rfl (lv_at hl 4 rfl) ?_
                refine lv_icmp_ne (tgt := 111) hx hb dX5_taxIn_98 (by decide) (fun c_9 => ?_) (fun c_9 => ?_)
                · refine lv_iconst (v := 0) hx hb dX5_taxIn_111 (by decide) ?_
                  refine lv_isub hx hb dX5_taxIn_112 ?_
                  refine lv_istore_n (lv' := [(3, .int ((x + 0) - 0)), (4, .int (nI j)), (0, .ref o), (1, .int a), (2, .int b)]) hx hb dX5_taxIn_113 rfl hl (by decide) rfl (fun ls hl => ?_)
                  refine lv_iinc (v := (nI (j + 1))) (lv' := [(4, .int (nI (j + 1))), (3, .int ((x + 0) - 0)), (0, .ref o), (1, .int a), (2, .int b)]) hx hb dX5_taxIn_114 hl (k := 1) rfl (nI_1 _) (by decide) rfl (fun ls hl => ?_)
                  refine lv_goto (tgt := 5) hx hb dX5_taxIn_117 (by decide) ?_
                  exact ih (j + 1) _ (by omega) (by omega) (show ((x + 0) - 0) = l_fold (tin1 M a b) 0 (j + 1) from by rw [l_fold, ← hxj]; exact (show tin1 M a b j x = _ from ((if_pos c_2).trans ((if_neg c_6).trans ((if_pos c_7).trans ((if_pos c_8).trans ((if_neg c_9).trans rfl)))))).symm) _ _ _ hX (lv_sub hl [1, 0, 2, 3, 4] rfl)
                · refine lv_aload_n hx hb dX5_taxIn_101 rfl (lv_at hl 2 rfl) ?_
                  refine lv_iload hx hb dX5_taxIn_102 (lv_at hl 1 rfl) ?_
                  refine lv_iconst (v := 1) hx hb dX5_taxIn_104 (by decide) ?_
                  refine k_goi (k_V (n := 2) (As := [.int (nI j), .int 1]) (rest := [.int (x + 0)]) hM hE hX hl (c_X5_taxOfAll l γ L F o ad M hR j (nI j) 1 rfl (by omega) (hk j hj)) hR.1 hR.2.1 rfl k_1264 k_1266 kp_36 k_9 k_1267 ⟨rfl, by decide, by decide, by decide +kernel⟩ (by decide) rfl rfl (Nat.le_of_ble_eq_true rfl) dX5_taxIn_105 (by decide)) hE hX (fun r L1 F1 H locs hp hX => ?_)
                  obtain ⟨rfl, rfl, rfl⟩ := hp
                  refine lv_goto (tgt := 112) hx hb dX5_taxIn_108 (by decide) ?_
                  refine lv_isub hx hb dX5_taxIn_112 ?_
                  refine lv_istore_n (lv' := [(3, .int ((x + 0) - (taxAll M j 1))), (4, .int (nI j)), (0, .ref o), (1, .int a), (2, .int b)]) hx hb dX5_taxIn_113 rfl hl (by decide) rfl (fun ls hl => ?_)
                  refine lv_iinc (v := (nI (j + 1))) (lv' := [(4, .int (nI (j + 1))), (3, .int ((x + 0) - (taxAll M j 1))), (0, .ref o), (1, .int a), (2, .int b)]) hx hb dX5_taxIn_114 hl (k := 1) rfl (nI_1 _) (by decide) rfl (fun ls hl => ?_)
                  refine lv_goto (tgt := 5) hx hb dX5_taxIn_117 (by decide) ?_
                  exact ih (j + 1) _ (by omega) (by omega) (show ((x + 0) - (taxAll M j 1)) = l_fold (tin1 M a b) 0 (j + 1) from by rw [l_fold, ← hxj]; exact (show tin1 M a b j x = _ from ((if_pos c_2).trans ((if_neg c_6).trans ((if_pos c_7).trans ((if_pos c_8).trans ((if_pos c_9).trans rfl)))))).symm) _ _ _ hX (lv_sub hl [1, 0, 2, 3, 4] rfl)
          · refine lv_aload_n hx hb dX5_taxIn_40 rfl (lv_at hl 2 rfl) ?_
            refine m_get hM hE hX hR 6 (by decide) k_1073 rfl rfl dX5_taxIn_41 ?_
            refine lv_iload hx hb dX5_taxIn_44 (lv_at hl 1 rfl) ?_
            refine m_iald hM hE hX hR 6 j (by decide) rfl rfl rfl (show j < 20 by omega) dX5_taxIn_46 ?_
            refine lv_iconst (v := 2) hx hb dX5_taxIn_47 (by decide) ?_
            refine lv_icmp_eq (tgt := 61) hx hb dX5_taxIn_48 (by decide) (fun c_10 => ?_) (fun c_10 => ?_)
            · refine lv_iconst (v := 0) hx hb dX5_taxIn_61 (by decide) ?_
              refine lv_iadd hx hb dX5_taxIn_62 ?_
              refine lv_istore_n (lv' := [(3, .int (x + 0)), (4, .int (nI j)), (0, .ref o), (1, .int a), (2, .int b)]) hx hb dX5_taxIn_63 rfl hl (by decide) rfl (fun ls hl => ?_)
              refine lv_iload_n hx hb dX5_taxIn_64 rfl (lv_at hl 0 rfl) ?_
              refine lv_aload_n hx hb dX5_taxIn_65 rfl (lv_at hl 2 rfl) ?_
              refine m_get hM hE hX hR 4 (by decide) k_1071 rfl rfl dX5_taxIn_66 ?_
              refine lv_iload hx hb dX5_taxIn_69 (lv_at hl 1 rfl) ?_
              refine m_iald hM hE hX hR 4 j (by decide) rfl rfl rfl (show j < 20 by omega) dX5_taxIn_71 ?_
              refine lv_iload_n hx hb dX5_taxIn_72 rfl (lv_at hl 3 rfl) ?_
              refine lv_icmp_ne (tgt := 111) hx hb dX5_taxIn_73 (by decide) (fun c_11 => ?_) (fun c_11 => ?_)
              · refine lv_iconst (v := 0) hx hb dX5_taxIn_111 (by decide) ?_
                refine lv_isub hx hb dX5_taxIn_112 ?_
                refine lv_istore_n (lv' := [(3, .int ((x + 0) - 0)), (4, .int (nI j)), (0, .ref o), (1, .int a), (2, .int b)]) hx hb dX5_taxIn_113 rfl hl (by decide) rfl (fun ls hl => ?_)
                refine lv_iinc (v := (nI (j + 1))) (lv' := [(4, .int (nI (j + 1))), (3, .int ((x + 0) - 0)), (0, .ref o), (1, .int a), (2, .int b)]) hx hb dX5_taxIn_114 hl (k := 1) rfl (nI_1 _) (by decide) rfl (fun ls hl => ?_)
                refine lv_goto (tgt := 5) hx hb dX5_taxIn_117 (by decide) ?_
                exact ih (j + 1) _ (by omega) (by omega) (show ((x + 0) - 0) = l_fold (tin1 M a b) 0 (j + 1) from by rw [l_fold, ← hxj]; exact (show tin1 M a b j x = _ from ((if_pos c_2).trans ((if_pos c_6).trans ((if_pos c_10).trans ((if_neg c_11).trans rfl))))).symm) _ _ _ hX (lv_sub hl [1, 0, 2, 3, 4] rfl)
              · refine lv_aload_n hx hb dX5_taxIn_76 rfl (lv_at hl 2 rfl) ?_
                refine m_get hM hE hX hR 6 (by decide) k_1073 rfl rfl dX5_taxIn_77 ?_
                refine lv_iload hx hb dX5_taxIn_80 (lv_at hl 1 rfl) ?_
                refine m_iald hM hE hX hR 6 j (by decide) rfl rfl rfl (show j < 20 by omega) dX5_taxIn_82 ?_
                refine lv_iconst (v := 1) hx hb dX5_taxIn_83 (by decide) ?_
                refine lv_icmp_ne (tgt := 111) hx hb dX5_taxIn_84 (by decide) (fun c_12 => ?_) (fun c_12 => ?_)
                · refine lv_iconst (v := 0) hx hb dX5_taxIn_111 (by decide) ?_
                  refine lv_isub hx hb dX5_taxIn_112 ?_
                  refine lv_istore_n (lv' := [(3, .int ((x + 0) - 0)), (4, .int (nI j)), (0, .ref o), (1, .int a), (2, .int b)]) hx hb dX5_taxIn_113 rfl hl (by decide) rfl (fun ls hl => ?_)
                  refine lv_iinc (v := (nI (j + 1))) (lv' := [(4, .int (nI (j + 1))), (3, .int ((x + 0) - 0)), (0, .ref o), (1, .int a), (2, .int b)]) hx hb dX5_taxIn_114 hl (k := 1) rfl (nI_1 _) (by decide) rfl (fun ls hl => ?_)
                  refine lv_goto (tgt := 5) hx hb dX5_taxIn_117 (by decide) ?_
                  exact ih (j + 1) _ (by omega) (by omega) (show ((x + 0) - 0) = l_fold (tin1 M a b) 0 (j + 1) from by rw [l_fold, ← hxj]; exact (show tin1 M a b j x = _ from ((if_pos c_2).trans ((if_pos c_6).trans ((if_pos c_10).trans ((if_pos c_11).trans ((if_neg c_12).trans rfl)))))).symm) _ _ _ hX (lv_sub hl [1, 0, 2, 3, 4] rfl)
                · refine lv_aload_n hx hb dX5_taxIn_87 rfl (lv_at hl 2 rfl) ?_
                  refine m_get hM hE hX hR 8 (by decide) k_1075 rfl rfl dX5_taxIn_88 ?_
                  refine lv_iload hx hb dX5_taxIn_91 (lv_at hl 1 rfl) ?_
                  refine m_iald hM hE hX hR 8 j (by decide) rfl rfl rfl (show j < 20 by omega) dX5_taxIn_93 ?_
                  refine lv_bipush (v := 30) hx hb dX5_taxIn_94 (by decide) ?_
                  refine lv_idiv hx hb dX5_taxIn_96 (by decide) ?_
                  refine lv_iload_n hx hb dX5_taxIn_97 rfl (lv_at hl 4 rfl) ?_
                  refine lv_icmp_ne (tgt := 111) hx hb dX5_taxIn_98 (by decide) (fun c_13 => ?_) (fun c_13 => ?_)
                  · refine lv_iconst (v := 0) hx hb dX5_taxIn_111 (by decide) ?_
                    refine lv_isub hx hb dX5_taxIn_112 ?_
                    refine lv_istore_n (lv' := [(3, .int ((x + 0) - 0)), (4, .int (nI j)), (0, .ref o), (1, .int a), (2, .int b)]) hx hb dX5_taxIn_113 rfl hl (by decide) rfl (fun ls hl => ?_)
                    refine lv_iinc (v := (nI (j + 1))) (lv' := [(4, .int (nI (j + 1))), (3, .int ((x + 0) - 0)), (0, .ref o), (1, .int a), (2, .int b)]) hx hb dX5_taxIn_114 hl (k := 1) rfl (nI_1 _) (by decide) rfl (fun ls hl => ?_)
                    refine lv_goto (tgt := 5) hx hb dX5_taxIn_117 (by decide) ?_
                    exact ih (j + 1) _ (by omega) (by omega) (show ((x + 0) - 0) = l_fold (tin1 M a b) 0 (j + 1) from by rw [l_fold, ← hxj]; exact (show tin1 M a b j x = _ from ((if_pos c_2).trans ((if_pos c_6).trans ((if_pos c_10).trans ((if_pos c_11).trans ((if_pos c_12).trans ((if_neg c_13).trans rfl))))))).symm) _ _ _ hX (lv_sub hl [1, 0, 2, 3, 4] rfl)
                  · refine lv_aload_n hx hb dX5_taxIn_101 rfl (lv_at hl 2 rfl) ?_
                    refine lv_iload hx hb dX5_taxIn_102 (lv_at hl 1 rfl) ?_
                    refine lv_iconst (v := 1) hx hb dX5_taxIn_104 (by decide) ?_
                    refine k_goi (k_V (n := 2) (As := [.int (nI j), .int 1]) (rest := [.int (x + 0)]) hM hE hX hl (c_X5_taxOfAll l γ L F o ad M hR j (nI j) 1 rfl (by omega) (hk j hj)) hR.1 hR.2.1 rfl k_1264 k_1266 kp_36 k_9 k_1267 ⟨rfl, by decide, by decide, by decide +kernel⟩ (by decide) rfl rfl (Nat.le_of_ble_eq_true rfl) dX5_taxIn_105 (by decide)) hE hX (fun r L1 F1 H locs hp hX => ?_)
                    obtain ⟨rfl, rfl, rfl⟩ := hp
                    refine lv_goto (tgt := 112) hx hb dX5_taxIn_108 (by decide) ?_
                    refine lv_isub hx hb dX5_taxIn_112 ?_
                    refine lv_istore_n (lv' := [(3, .int ((x + 0) - (taxAll M j 1))), (4, .int (nI j)), (0, .ref o), (1, .int a), (2, .int b)]) hx hb dX5_taxIn_113 rfl hl (by decide) rfl (fun ls hl => ?_)
                    refine lv_iinc (v := (nI (j + 1))) (lv' := [(4, .int (nI (j + 1))), (3, .int ((x + 0) - (taxAll M j 1))), (0, .ref o), (1, .int a), (2, .int b)]) hx hb dX5_taxIn_114 hl (k := 1) rfl (nI_1 _) (by decide) rfl (fun ls hl => ?_)
                    refine lv_goto (tgt := 5) hx hb dX5_taxIn_117 (by decide) ?_
                    exact ih (j + 1) _ (by omega) (by omega) (show ((x + 0) - (taxAll M j 1)) = l_fold (tin1 M a b) 0 (j + 1) from by rw [l_fold, ← hxj]; exact (show tin1 M a b j x = _ from ((if_pos c_2).trans ((if_pos c_6).trans ((if_pos c_10).trans ((if_pos c_11).trans ((if_pos c_12).trans ((if_pos c_13).trans rfl))))))).symm) _ _ _ hX (lv_sub hl [1, 0, 2, 3, 4] rfl)
            · refine lv_aload_n hx hb dX5_taxIn_51 rfl (lv_at hl 2 rfl) ?_
              refine lv_iload hx hb dX5_taxIn_52 (lv_at hl 1 rfl) ?_
              refine lv_iconst (v := 1) hx hb dX5_taxIn_54 (by decide) ?_
              refine k_goi (k_V (n := 2) (As := [.int (nI j), .int 1]) (rest := [.int x]) hM hE hX hl (c_X5_taxOfAll l γ L F o ad M hR j (nI j) 1 rfl (by omega) (hk j hj)) hR.1 hR.2.1 rfl k_1264 k_1266 kp_36 k_9 k_1267 ⟨rfl, by decide, by decide, by decide +kernel⟩ (by decide) rfl rfl (Nat.le_of_ble_eq_true rfl) dX5_taxIn_55 (by decide)) hE hX (fun r L1 F1 H locs hp hX => ?_)
              obtain ⟨rfl, rfl, rfl⟩ := hp
              refine lv_goto (tgt := 62) hx hb dX5_taxIn_58 (by decide) ?_
              refine lv_iadd hx hb dX5_taxIn_62 ?_
              refine lv_istore_n (lv' := [(3, .int (x + (taxAll M j 1))), (4, .int (nI j)), (0, .ref o), (1, .int a), (2, .int b)]) hx hb dX5_taxIn_63 rfl hl (by decide) rfl (fun ls hl => ?_)
              refine lv_iload_n hx hb dX5_taxIn_64 rfl (lv_at hl 0 rfl) ?_
              refine lv_aload_n hx hb dX5_taxIn_65 rfl (lv_at hl 2 rfl) ?_
              refine m_get hM hE hX hR 4 (by decide) k_1071 rfl rfl dX5_taxIn_66 ?_
              refine lv_iload hx hb dX5_taxIn_69 (lv_at hl 1 rfl) ?_
              refine m_iald hM hE hX hR 4 j (by decide) rfl rfl rfl (show j < 20 by omega) dX5_taxIn_71 ?_
              refine lv_iload_n hx hb dX5_taxIn_72 rfl (lv_at hl 3 rfl) ?_
              refine lv_icmp_ne (tgt := 111) hx hb dX5_taxIn_73 (by decide) (fun c_14 => ?_) (fun c_14 => ?_)
              · refine lv_iconst (v := 0) hx hb dX5_taxIn_111 (by decide) ?_
                refine lv_isub hx hb dX5_taxIn_112 ?_
                refine lv_istore_n (lv' := [(3, .int ((x + (taxAll M j 1)) - 0)), (4, .int (nI j)), (0, .ref o), (1, .int a), (2, .int b)]) hx hb dX5_taxIn_113 rfl hl (by decide) rfl (fun ls hl => ?_)
                refine lv_iinc (v := (nI (j + 1))) (lv' := [(4, .int (nI (j + 1))), (3, .int ((x + (taxAll M j 1)) - 0)), (0, .ref o), (1, .int a), (2, .int b)]) hx hb dX5_taxIn_114 hl (k := 1) rfl (nI_1 _) (by decide) rfl (fun ls hl => ?_)
                refine lv_goto (tgt := 5) hx hb dX5_taxIn_117 (by decide) ?_
                exact ih (j + 1) _ (by omega) (by omega) (show ((x + (taxAll M j 1)) - 0) = l_fold (tin1 M a b) 0 (j + 1) from by rw [l_fold, ← hxj]; exact (show tin1 M a b j x = _ from ((if_pos c_2).trans ((if_pos c_6).trans ((if_neg c_10).trans ((if_neg c_14).trans rfl))))).symm) _ _ _ hX (lv_sub hl [1, 0, 2, 3, 4] rfl)
              · refine lv_aload_n hx hb dX5_taxIn_76 rfl (lv_at hl 2 rfl) ?_
                refine m_get hM hE hX hR 6 (by decide) k_1073 rfl rfl dX5_taxIn_77 ?_
                refine lv_iload hx hb dX5_taxIn_80 (lv_at hl 1 rfl) ?_
                refine m_iald hM hE hX hR 6 j (by decide) rfl rfl rfl (show j < 20 by omega) dX5_taxIn_82 ?_
                refine lv_iconst (v := 1) hx hb dX5_taxIn_83 (by decide) ?_
                refine lv_icmp_ne (tgt := 111) hx hb dX5_taxIn_84 (by decide) (fun c_15 => ?_) (fun c_15 => ?_)
                · refine lv_iconst (v := 0) hx hb dX5_taxIn_111 (by decide) ?_
                  refine lv_isub hx hb dX5_taxIn_112 ?_
                  refine lv_istore_n (lv' := [(3, .int ((x + (taxAll M j 1)) - 0)), (4, .int (nI j)), (0, .ref o), (1, .int a), (2, .int b)]) hx hb dX5_taxIn_113 rfl hl (by decide) rfl (fun ls hl => ?_)
                  refine lv_iinc (v := (nI (j + 1))) (lv' := [(4, .int (nI (j + 1))), (3, .int ((x + (taxAll M j 1)) - 0)), (0, .ref o), (1, .int a), (2, .int b)]) hx hb dX5_taxIn_114 hl (k := 1) rfl (nI_1 _) (by decide) rfl (fun ls hl => ?_)
                  refine lv_goto (tgt := 5) hx hb dX5_taxIn_117 (by decide) ?_
                  exact ih (j + 1) _ (by omega) (by omega) (show ((x + (taxAll M j 1)) - 0) = l_fold (tin1 M a b) 0 (j + 1) from by rw [l_fold, ← hxj]; exact (show tin1 M a b j x = _ from ((if_pos c_2).trans ((if_pos c_6).trans ((if_neg c_10).trans ((if_pos c_14).trans ((if_neg c_15).trans rfl)))))).symm) _ _ _ hX (lv_sub hl [1, 0, 2, 3, 4] rfl)
                · refine lv_aload_n hx hb dX5_taxIn_87 rfl (lv_at hl 2 rfl) ?_
                  refine m_get hM hE hX hR 8 (by decide) k_1075 rfl rfl dX5_taxIn_88 ?_
                  refine lv_iload hx hb dX5_taxIn_91 (lv_at hl 1 rfl) ?_
                  refine m_iald hM hE hX hR 8 j (by decide) rfl rfl rfl (show j < 20 by omega) dX5_taxIn_93 ?_
                  refine lv_bipush (v := 30) hx hb dX5_taxIn_94 (by decide) ?_
                  refine lv_idiv hx hb dX5_taxIn_96 (by decide) ?_
                  refine lv_iload_n hx hb dX5_taxIn_97 rfl (lv_at hl 4 rfl) ?_
                  refine lv_icmp_ne (tgt := 111) hx hb dX5_taxIn_98 (by decide) (fun c_16 => ?_) (fun c_16 => ?_)
                  · refine lv_iconst (v := 0) hx hb dX5_taxIn_111 (by decide) ?_
                    refine lv_isub hx hb dX5_taxIn_112 ?_
                    refine lv_istore_n (lv' := [(3, .int ((x + (taxAll M j 1)) - 0)), (4, .int (nI j)), (0, .ref o), (1, .int a), (2, .int b)]) hx hb dX5_taxIn_113 rfl hl (by decide) rfl (fun ls hl => ?_)
                    refine lv_iinc (v := (nI (j + 1))) (lv' := [(4, .int (nI (j + 1))), (3, .int ((x + (taxAll M j 1)) - 0)), (0, .ref o), (1, .int a), (2, .int b)]) hx hb dX5_taxIn_114 hl (k := 1) rfl (nI_1 _) (by decide) rfl (fun ls hl => ?_)
                    refine lv_goto (tgt := 5) hx hb dX5_taxIn_117 (by decide) ?_
                    exact ih (j + 1) _ (by omega) (by omega) (show ((x + (taxAll M j 1)) - 0) = l_fold (tin1 M a b) 0 (j + 1) from by rw [l_fold, ← hxj]; exact (show tin1 M a b j x = _ from ((if_pos c_2).trans ((if_pos c_6).trans ((if_neg c_10).trans ((if_pos c_14).trans ((if_pos c_15).trans ((if_neg c_16).trans rfl))))))).symm) _ _ _ hX (lv_sub hl [1, 0, 2, 3, 4] rfl)
                  · refine lv_aload_n hx hb dX5_taxIn_101 rfl (lv_at hl 2 rfl) ?_
                    refine lv_iload hx hb dX5_taxIn_102 (lv_at hl 1 rfl) ?_
                    refine lv_iconst (v := 1) hx hb dX5_taxIn_104 (by decide) ?_
                    refine k_goi (k_V (n := 2) (As := [.int (nI j), .int 1]) (rest := [.int (x + (taxAll M j 1))]) hM hE hX hl (c_X5_taxOfAll l γ L F o ad M hR j (nI j) 1 rfl (by omega) (hk j hj)) hR.1 hR.2.1 rfl k_1264 k_1266 kp_36 k_9 k_1267 ⟨rfl, by decide, by decide, by decide +kernel⟩ (by decide) rfl rfl (Nat.le_of_ble_eq_true rfl) dX5_taxIn_105 (by decide)) hE hX (fun r L1 F1 H locs hp hX => ?_)
                    obtain ⟨rfl, rfl, rfl⟩ := hp
                    refine lv_goto (tgt := 112) hx hb dX5_taxIn_108 (by decide) ?_
                    refine lv_isub hx hb dX5_taxIn_112 ?_
                    refine lv_istore_n (lv' := [(3, .int ((x + (taxAll M j 1)) - (taxAll M j 1))), (4, .int (nI j)), (0, .ref o), (1, .int a), (2, .int b)]) hx hb dX5_taxIn_113 rfl hl (by decide) rfl (fun ls hl => ?_)
                    refine lv_iinc (v := (nI (j + 1))) (lv' := [(4, .int (nI (j + 1))), (3, .int ((x + (taxAll M j 1)) - (taxAll M j 1))), (0, .ref o), (1, .int a), (2, .int b)]) hx hb dX5_taxIn_114 hl (k := 1) rfl (nI_1 _) (by decide) rfl (fun ls hl => ?_)
                    refine lv_goto (tgt := 5) hx hb dX5_taxIn_117 (by decide) ?_
                    exact ih (j + 1) _ (by omega) (by omega) (show ((x + (taxAll M j 1)) - (taxAll M j 1)) = l_fold (tin1 M a b) 0 (j + 1) from by rw [l_fold, ← hxj]; exact (show tin1 M a b j x = _ from ((if_pos c_2).trans ((if_pos c_6).trans ((if_neg c_10).trans ((if_pos c_14).trans ((if_pos c_15).trans ((if_pos c_16).trans rfl))))))).symm) _ _ _ hX (lv_sub hl [1, 0, 2, 3, 4] rfl)
  refine lv_iconst (v := 0) hx hb dX5_taxIn_0 (by decide) ?_
  refine lv_istore_n (lv' := [(3, .int 0), (0, .ref o), (1, .int a), (2, .int b)]) hx hb dX5_taxIn_1 rfl hl (by decide) rfl (fun ls hl => ?_)
  refine lv_iconst (v := 0) hx hb dX5_taxIn_2 (by decide) ?_
  refine lv_istore (lv' := [(4, .int 0), (3, .int 0), (0, .ref o), (1, .int a), (2, .int b)]) hx hb dX5_taxIn_3 hl (by decide) rfl (fun ls hl => ?_)
  exact hloop1 (nn M + 1) 0 _ (by omega) (Nat.zero_le _) rfl _ _ _ hX (lv_sub hl [1, 0, 2, 3, 4] rfl)
def taxTo_st (M : mM) (a : Int32) (t : Nat) (j : Nat) (x : Int32) : Int32 := (if 0 ≤ x then (0 + (taxIn M a (nI j))) else (x + (taxIn M a (nI j))))
def taxTo (M : mM) (a : Int32) (t : Nat) : Int32 := l_fold (taxTo_st M a t) 0 (t + 1)
set_option maxHeartbeats 4000000 in
set_option maxRecDepth 100000 in
theorem c_X5_taxUpTo (l : Launch) (γ : kG) (L : List Nat) (F : kF) (o : Nat) (ad : Nat → Nat) (M : mM) (hR : RepM γ L F o ad M) (a b : Int32) (t : Nat) (hb2 : b = nI t) (ht : t < 1000000) (hn : okN M) (hk : ∀ i, i < nn M → okL M i) (hc : okC M) (hci : ∀ k, k < cc M → okI (M 19 k) 20) : kC l yX5_taxUpTo cX5_taxUpTo 5 (some .int) (kRm 3 0 0) γ L F [.ref o, .int a, .int b] (kI fun r L1 F1 => L = L1 ∧ F = F1 ∧ r = taxTo M a t) := by
  subst hb2
  refine kC_of (by decide +kernel) (Nat.le_of_ble_eq_true rfl) ?_
  intro p e s m args below meth c sz ls hargs hsz hM hin hE hX hl
  have hx := hM.1
  have hb := hM.2.1
  have hl : lv_has ls 5 [(0, .ref o), (1, .int a), (2, .int (nI t))] := hl
  have hloop : ∀ (n j : Nat) (x : Int32), t + 1 < j + n → j ≤ t + 1 → x = l_fold (taxTo_st M a t) 0 j → ∀ (H : Heap) (locs : List Loc) (ls : Array Slot), kX γ (kA L sz) s L F H locs → lv_has ls 5 [(3, .int x), (4, .int (nI j)), (0, .ref o), (1, .int a), (2, .int (nI t))] → W p l e (kRm 3 0 0) s m args below meth c H locs 0 0 (MQ below (kQ γ L sz (kI fun r L1 F1 => L = L1 ∧ F = F1 ∧ r = taxTo M a t)) args s (kRm 3 0 0).cells (kRm 3 0 0).slots (kA L sz)) (F0 m 5 ls []) := by
    intro n
    induction n with
    | zero => intro j x h1 h2; exact absurd h1 (by omega)
    | succ n ih =>
      intro j x h1 h2 hxj H locs ls hX hl
      refine lv_iload hx hb dX5_taxUpTo_5 (lv_at hl 1 rfl) ?_
      refine lv_iload_n hx hb dX5_taxUpTo_7 rfl (lv_at hl 4 rfl) ?_
      refine lv_icmp_gt (tgt := 35) hx hb dX5_taxUpTo_8 (by decide) (fun c_1 => ?_) (fun c_1 => ?_)
      · have ej : j = t + 1 := by
          have h9 := (nI_ltI (a := t) (b := j) (by omega) (by omega)).mp c_1
          omega
        refine lv_iload_n hx hb dX5_taxUpTo_35 rfl (lv_at hl 0 rfl) ?_
        exact k_iret hM hsz hX ⟨_, rfl, rfl, rfl, by rw [hxj, ej]; rfl⟩ (by decide) (by decide) dX5_taxUpTo_36
      · have hj : j < t + 1 := by
          rcases Nat.lt_or_ge t j with q | q
          · exact absurd (nI_lt q (by omega)) c_1
          · omega
        refine lv_iload_n hx hb dX5_taxUpTo_11 rfl (lv_at hl 0 rfl) ?_
        refine lv_if_ge (tgt := 19) hx hb dX5_taxUpTo_12 (by decide) (fun c_2 => ?_) (fun c_2 => ?_)
        · refine lv_iconst (v := 0) hx hb dX5_taxUpTo_19 (by decide) ?_
          refine lv_aload_n hx hb dX5_taxUpTo_20 rfl (lv_at hl 2 rfl) ?_
          refine lv_iload_n hx hb dX5_taxUpTo_21 rfl (lv_at hl 3 rfl) ?_
          refine lv_iload hx hb dX5_taxUpTo_22 (lv_at hl 1 rfl) ?_
          refine k_goi (k_V (n := 2) (As := [.int a, .int (nI j)]) (rest := [.int 0]) hM hE hX hl (c_X5_taxIn l γ L F o ad M hR a (nI j) hn hk hc hci) hR.1 hR.2.1 rfl k_1304 k_1306 kp_40 k_9 k_1307 ⟨rfl, by decide, by decide, by decide +kernel⟩ (by decide) rfl rfl (Nat.le_of_ble_eq_true rfl) dX5_taxUpTo_24 (by decide)) hE hX (fun r L1 F1 H locs hp hX => ?_)
          obtain ⟨rfl, rfl, rfl⟩ := hp
          refine lv_iadd hx hb dX5_taxUpTo_27 ?_
          refine lv_istore_n (lv' := [(3, .int (0 + (taxIn M a (nI j)))), (4, .int (nI j)), (0, .ref o), (1, .int a), (2, .int (nI t))]) hx hb dX5_taxUpTo_28 rfl hl (by decide) rfl (fun ls hl => ?_)
          refine lv_iinc (v := (nI (j + 1))) (lv' := [(4, .int (nI (j + 1))), (3, .int (0 + (taxIn M a (nI j)))), (0, .ref o), (1, .int a), (2, .int (nI t))]) hx hb dX5_taxUpTo_29 hl (k := 1) rfl (nI_1 _) (by decide) rfl (fun ls hl => ?_)
          refine lv_goto (tgt := 5) hx hb dX5_taxUpTo_32 (by decide) ?_
          exact ih (j + 1) _ (by omega) (by omega) (show (0 + (taxIn M a (nI j))) = l_fold (taxTo_st M a t) 0 (j + 1) from by rw [l_fold, ← hxj]; exact (show taxTo_st M a t j x = _ from ((if_pos c_2).trans rfl)).symm) _ _ _ hX (lv_sub hl [1, 0, 2, 3, 4] rfl)
        · refine lv_iload_n hx hb dX5_taxUpTo_15 rfl (lv_at hl 0 rfl) ?_
          refine lv_goto (tgt := 20) hx hb dX5_taxUpTo_16 (by decide) ?_
          refine lv_aload_n hx hb dX5_taxUpTo_20 rfl (lv_at hl 2 rfl) ?_
          refine lv_iload_n hx hb dX5_taxUpTo_21 rfl (lv_at hl 3 rfl) ?_
          refine lv_iload hx hb dX5_taxUpTo_22 (lv_at hl 1 rfl) ?_
          refine k_goi (k_V (n := 2) (As := [.int a, .int (nI j)]) (rest := [.int x]) hM hE hX hl (c_X5_taxIn l γ L F o ad M hR a (nI j) hn hk hc hci) hR.1 hR.2.1 rfl k_1304 k_1306 kp_40 k_9 k_1307 ⟨rfl, by decide, by decide, by decide +kernel⟩ (by decide) rfl rfl (Nat.le_of_ble_eq_true rfl) dX5_taxUpTo_24 (by decide)) hE hX (fun r L1 F1 H locs hp hX => ?_)
          obtain ⟨rfl, rfl, rfl⟩ := hp
          refine lv_iadd hx hb dX5_taxUpTo_27 ?_
          refine lv_istore_n (lv' := [(3, .int (x + (taxIn M a (nI j)))), (4, .int (nI j)), (0, .ref o), (1, .int a), (2, .int (nI t))]) hx hb dX5_taxUpTo_28 rfl hl (by decide) rfl (fun ls hl => ?_)
          refine lv_iinc (v := (nI (j + 1))) (lv' := [(4, .int (nI (j + 1))), (3, .int (x + (taxIn M a (nI j)))), (0, .ref o), (1, .int a), (2, .int (nI t))]) hx hb dX5_taxUpTo_29 hl (k := 1) rfl (nI_1 _) (by decide) rfl (fun ls hl => ?_)
          refine lv_goto (tgt := 5) hx hb dX5_taxUpTo_32 (by decide) ?_
          exact ih (j + 1) _ (by omega) (by omega) (show (x + (taxIn M a (nI j))) = l_fold (taxTo_st M a t) 0 (j + 1) from by rw [l_fold, ← hxj]; exact (show taxTo_st M a t j x = _ from ((if_neg c_2).trans rfl)).symm) _ _ _ hX (lv_sub hl [1, 0, 2, 3, 4] rfl)
  refine lv_iconst (v := 0) hx hb dX5_taxUpTo_0 (by decide) ?_
  refine lv_istore_n (lv' := [(3, .int 0), (0, .ref o), (1, .int a), (2, .int (nI t))]) hx hb dX5_taxUpTo_1 rfl hl (by decide) rfl (fun ls hl => ?_)
  refine lv_iconst (v := 0) hx hb dX5_taxUpTo_2 (by decide) ?_
  refine lv_istore (lv' := [(4, .int 0), (3, .int 0), (0, .ref o), (1, .int a), (2, .int (nI t))]) hx hb dX5_taxUpTo_3 hl (by decide) rfl (fun ls hl => ?_)
  exact hloop (t + 1 + 1) 0 _ (by omega) (Nat.zero_le _) rfl _ _ _ hX (lv_sub hl [1, 0, 2, 3, 4] rfl)
def chI (M1 : mM) (a : Int32) (j i : Nat) (y : Int32) : Int32 := (if (M1 5 i) = a then (if (M1 6 i) = 1 then (if (M1 4 i) = (M1 3 j) then (if (taxAll M1 i 0) ≤ y then y else (taxAll M1 i 0)) else y) else y) else y)
def chO (M1 : mM) (a : Int32) (j : Nat) (x : Int32) : Int32 := (if (M1 5 j) = a then (if (M1 6 j) = 1 then (if (taxAll M1 j 0) ≤ (l_fold (chI M1 a j) 0 j) then (x + 0) else (x + ((taxAll M1 j 0) - (l_fold (chI M1 a j) 0 j)))) else x) else x)
def chainM (M : mM) (a : Int32) : Int32 × mM := if 0 ≤ a ∧ a ≤ 7 then (l_fold (chO (mset M 24 0 0) a) 0 (nn (mset M 24 0 0)), mset M 24 0 0) else (0, mset M 24 0 1)
set_option maxHeartbeats 4000000 in
set_option maxRecDepth 100000 in
theorem c_X5_chain (l : Launch) (γ : kG) (L : List Nat) (F : kF) (o : Nat) (ad : Nat → Nat) (M : mM) (hR : RepM γ L F o ad M) (a : Int32) (hn : okN M) (hk : ∀ i, i < nn M → okL M i) : kC l yX5_chain cX5_chain 7 (some .int) (kRm 2 0 0) γ L F [.ref o, .int a] (kI fun r L1 F1 => L = L1 ∧ ∃ M1, RepM γ L1 F1 o ad M1 ∧ (r, M1) = chainM M a) := by
  refine kC_of (by decide +kernel) (Nat.le_of_ble_eq_true rfl) ?_
  intro p e s m args below meth c sz ls hargs hsz hM hin hE hX hl
  have hx := hM.1
  have hb := hM.2.1
  have hl : lv_has ls 7 [(0, .ref o), (1, .int a)] := hl
  refine lv_aload_n hx hb dX5_chain_0 rfl (lv_at hl 0 rfl) ?_
  refine lv_iload_n hx hb dX5_chain_1 rfl (lv_at hl 1 rfl) ?_
  refine lv_iconst (v := 0) hx hb dX5_chain_2 (by decide) ?_
  refine lv_bipush (v := 7) hx hb dX5_chain_3 (by decide) ?_
  refine k_goi (k_S (n := 3) (As := [.int a, .int 0, .int 7]) (rest := [.ref o]) hM hE hX hl (c_X5_isIn l γ L F a 0 7) k_1155 k_1156 k_9 k_1157 ⟨by decide, by decide, by decide +kernel⟩ (by decide) rfl rfl (Nat.le_of_ble_eq_true rfl) dX5_chain_5 (by decide)) hE hX (fun r L1 F1 H locs hp hX => ?_)
  obtain ⟨rfl, rfl, ⟨rfl, h_1⟩ | ⟨rfl, h_1⟩⟩ := hp
  · refine lv_if_eq (tgt := 15) hx hb dX5_chain_8 (by decide) (fun c_2 => absurd (show (1 : Int32) = 0 from c_2) (by decide)) (fun _ => ?_)
    refine lv_iconst (v := 0) hx hb dX5_chain_11 (by decide) ?_
    refine lv_goto (tgt := 16) hx hb dX5_chain_12 (by decide) ?_
    refine m_put hM hE hX hR 24 (by decide) rfl (by decide) k_1091 rfl rfl rfl rfl dX5_chain_16 (fun F H locs hX hR => ?_)
    refine lv_iconst (v := 0) hx hb dX5_chain_19 (by decide) ?_
    refine lv_istore_n (lv' := [(2, .int 0), (0, .ref o), (1, .int a)]) hx hb dX5_chain_20 rfl hl (by decide) rfl (fun ls hl => ?_)
    refine lv_iconst (v := 0) hx hb dX5_chain_21 (by decide) ?_
    refine lv_istore_n (lv' := [(3, .int 0), (2, .int 0), (0, .ref o), (1, .int a)]) hx hb dX5_chain_22 rfl hl (by decide) rfl (fun ls hl => ?_)
    have hn : okN (mset M 24 0 0) := hn
    have hk : ∀ i, i < nn (mset M 24 0 0) → okL (mset M 24 0 0) i := hk
    have ech : chainM M a = (l_fold (chO (mset M 24 0 0) a) 0 (nn (mset M 24 0 0)), mset M 24 0 0) := if_pos h_1
    have h24 : (mset M 24 0 0) 24 0 = 0 := rfl
    generalize mset M 24 0 0 = M1 at hR hn hk ech h24
    have hn2 := hn.2
    have hloop : ∀ (n j : Nat) (x : Int32), nn M1 < j + n → j ≤ nn M1 → x = l_fold (chO M1 a) 0 j → ∀ (H : Heap) (locs : List Loc) (ls : Array Slot), kX γ (kA L sz) s L F H locs → lv_has ls 7 [(2, .int x), (3, .int (nI j)), (0, .ref o), (1, .int a)] → W p l e (kRm 2 0 0) s m args below meth c H locs 0 0 (MQ below (kQ γ L sz (kI fun r L1 F1 => L = L1 ∧ ∃ M1, RepM γ L1 F1 o ad M1 ∧ (r, M1) = chainM M a)) args s (kRm 2 0 0).cells (kRm 2 0 0).slots (kA L sz)) (F0 m 23 ls []) := by
      intro n
      induction n with
      | zero => intro j x h1 h2; exact absurd h1 (by omega)
      | succ n ih =>
        intro j x h1 h2 hxj H locs ls hX hl
        refine lv_iload_n hx hb dX5_chain_23 rfl (lv_at hl 1 rfl) ?_
        refine lv_aload_n hx hb dX5_chain_24 rfl (lv_at hl 2 rfl) ?_
        refine m_get hM hE hX hR 2 (by decide) k_1069 rfl rfl dX5_chain_25 ?_
        refine lv_icmp_ge (tgt := 185) hx hb dX5_chain_28 (by decide) (fun c_1 => ?_) (fun c_1 => ?_)
        · have ej : j = nn M1 := by
            have h9 := lp_out (a := j) (b := nn M1) (by omega) (by omega) (by rw [← hn.1]; exact c_1)
            omega
          refine lv_iload_n hx hb dX5_chain_185 rfl (lv_at hl 0 rfl) ?_
          exact k_iret hM hsz hX ⟨_, rfl, rfl, _, hR, by rw [hxj, ej, ech]⟩ (by decide) (by decide) dX5_chain_186
        · have hj : j < nn M1 := by
            have h9 := lp_in (a := j) (b := nn M1) (by omega) (by omega) (by rw [← hn.1]; exact c_1)
            omega
          refine lv_aload_n hx hb dX5_chain_31 rfl (lv_at hl 2 rfl) ?_
          refine m_get hM hE hX hR 24 (by decide) k_1091 rfl rfl dX5_chain_32 ?_
          refine lv_if_ne (tgt := 185) hx hb dX5_chain_35 (by decide) (fun c_2 => absurd c_2 (not_not_intro h24)) (fun _ => ?_)
          refine lv_aload_n hx hb dX5_chain_38 rfl (lv_at hl 2 rfl) ?_
          refine m_get hM hE hX hR 5 (by decide) k_1072 rfl rfl dX5_chain_39 ?_
          refine lv_iload_n hx hb dX5_chain_42 rfl (lv_at hl 1 rfl) ?_
          refine m_iald hM hE hX hR 5 j (by decide) rfl rfl rfl (show j < 20 by omega) dX5_chain_43 ?_
          refine lv_iload_n hx hb dX5_chain_44 rfl (lv_at hl 3 rfl) ?_
          refine lv_icmp_ne (tgt := 179) hx hb dX5_chain_45 (by decide) (fun c_3 => ?_) (fun c_3 => ?_)
          · refine lv_iinc (v := (nI (j + 1))) (lv' := [(3, .int (nI (j + 1))), (2, .int x), (0, .ref o), (1, .int a)]) hx hb dX5_chain_179 hl (k := 1) rfl (nI_1 _) (by decide) rfl (fun ls hl => ?_)
            refine lv_goto (tgt := 23) hx hb dX5_chain_182 (by decide) ?_
            exact ih (j + 1) _ (by omega) (by omega) (show x = l_fold (chO M1 a) 0 (j + 1) from by rw [l_fold, ← hxj]; exact (show chO M1 a j x = _ from ((if_neg c_3).trans rfl)).symm) _ _ _ hX (lv_sub hl [1, 0, 2, 3] rfl)
          · refine lv_aload_n hx hb dX5_chain_48 rfl (lv_at hl 2 rfl) ?_
            refine m_get hM hE hX hR 6 (by decide) k_1073 rfl rfl dX5_chain_49 ?_
            refine lv_iload_n hx hb dX5_chain_52 rfl (lv_at hl 1 rfl) ?_
            refine m_iald hM hE hX hR 6 j (by decide) rfl rfl rfl (show j < 20 by omega) dX5_chain_53 ?_
            refine lv_iconst (v := 1) hx hb dX5_chain_54 (by decide) ?_
            refine lv_icmp_ne (tgt := 179) hx hb dX5_chain_55 (by decide) (fun c_4 => ?_) (fun c_4 => ?_)
            · refine lv_iinc (v := (nI (j + 1))) (lv' := [(3, .int (nI (j + 1))), (2, .int x), (0, .ref o), (1, .int a)]) hx hb dX5_chain_179 hl (k := 1) rfl (nI_1 _) (by decide) rfl (fun ls hl => ?_)
              refine lv_goto (tgt := 23) hx hb dX5_chain_182 (by decide) ?_
              exact ih (j + 1) _ (by omega) (by omega) (show x = l_fold (chO M1 a) 0 (j + 1) from by rw [l_fold, ← hxj]; exact (show chO M1 a j x = _ from ((if_pos c_3).trans ((if_neg c_4).trans rfl))).symm) _ _ _ hX (lv_sub hl [1, 0, 2, 3] rfl)
            · refine lv_iconst (v := 0) hx hb dX5_chain_58 (by decide) ?_
              refine lv_istore (lv' := [(4, .int 0), (2, .int x), (3, .int (nI j)), (0, .ref o), (1, .int a)]) hx hb dX5_chain_59 hl (by decide) rfl (fun ls hl => ?_)
              refine lv_iconst (v := 0) hx hb dX5_chain_61 (by decide) ?_
              refine lv_istore (lv' := [(5, .int 0), (4, .int 0), (2, .int x), (3, .int (nI j)), (0, .ref o), (1, .int a)]) hx hb dX5_chain_62 hl (by decide) rfl (fun ls hl => ?_)
              have hin : ∀ (n2 i : Nat) (y : Int32), j < i + n2 → i ≤ j → y = l_fold (chI M1 a j) 0 i → ∀ (H : Heap) (locs : List Loc) (ls : Array Slot), kX γ (kA L sz) s L F H locs → lv_has ls 7 [(4, .int y), (5, .int (nI i)), (0, .ref o), (1, .int a), (2, .int x), (3, .int (nI j))] → W p l e (kRm 2 0 0) s m args below meth c H locs 0 0 (MQ below (kQ γ L sz (kI fun r L1 F1 => L = L1 ∧ ∃ M1, RepM γ L1 F1 o ad M1 ∧ (r, M1) = chainM M a)) args s (kRm 2 0 0).cells (kRm 2 0 0).slots (kA L sz)) (F0 m 64 ls []) := by
                intro n2
                induction n2 with
                | zero => intro i y h3 h4; exact absurd h3 (by omega)
                | succ n2 ihi =>
                  intro i y h3 h4 hyi H locs ls hX hl
                  refine lv_iload hx hb dX5_chain_64 (lv_at hl 1 rfl) ?_
                  refine lv_iload_n hx hb dX5_chain_66 rfl (lv_at hl 5 rfl) ?_
                  refine lv_icmp_ge (tgt := 152) hx hb dX5_chain_67 (by decide) (fun c_55 => ?_) (fun c_55 => ?_)
                  · have eij : i = j := by
                      have h9 := lp_out (a := i) (b := j) (by omega) (by omega) c_55
                      omega
                    rw [eij] at hyi
                    subst hyi
                    refine lv_iload_n hx hb dX5_chain_152 rfl (lv_at hl 4 rfl) ?_
                    refine lv_aload_n hx hb dX5_chain_153 rfl (lv_at hl 2 rfl) ?_
                    refine lv_iload_n hx hb dX5_chain_154 rfl (lv_at hl 5 rfl) ?_
                    refine lv_iconst (v := 0) hx hb dX5_chain_155 (by decide) ?_
                    refine k_goi (k_V (n := 2) (As := [.int (nI j), .int 0]) (rest := [.int x]) hM hE hX hl (c_X5_taxOfAll l γ L F o ad M1 hR j (nI j) 0 rfl (by omega) (hk j hj)) hR.1 hR.2.1 rfl k_1264 k_1266 kp_36 k_9 k_1267 ⟨rfl, by decide, by decide, by decide +kernel⟩ (by decide) rfl rfl (Nat.le_of_ble_eq_true rfl) dX5_chain_156 (by decide)) hE hX (fun r L1 F1 H locs hp hX => ?_)
                    obtain ⟨rfl, rfl, rfl⟩ := hp
                    refine lv_iload hx hb dX5_chain_159 (lv_at hl 0 rfl) ?_
                    refine lv_icmp_le (tgt := 176) hx hb dX5_chain_161 (by decide) (fun c_56 => ?_) (fun c_56 => ?_)
                    · refine lv_iconst (v := 0) hx hb dX5_chain_176 (by decide) ?_
                      refine lv_iadd hx hb dX5_chain_177 ?_
                      refine lv_istore_n (lv' := [(2, .int (x + 0)), (4, .int (l_fold (chI M1 a j) 0 j)), (5, .int (nI i)), (0, .ref o), (1, .int a), (3, .int (nI j))]) hx hb dX5_chain_178 rfl hl (by decide) rfl (fun ls hl => ?_)
                      refine lv_iinc (v := (nI (j + 1))) (lv' := [(3, .int (nI (j + 1))), (2, .int (x + 0)), (4, .int (l_fold (chI M1 a j) 0 j)), (5, .int (nI i)), (0, .ref o), (1, .int a)]) hx hb dX5_chain_179 hl (k := 5) rfl (nI_1 _) (by decide) rfl (fun ls hl => ?_)
                      refine lv_goto (tgt := 23) hx hb dX5_chain_182 (by decide) ?_
                      exact ih (j + 1) _ (by omega) (by omega) (show (x + 0) = l_fold (chO M1 a) 0 (j + 1) from by rw [l_fold, ← hxj]; exact (show chO M1 a j x = _ from ((if_pos c_3).trans ((if_pos c_4).trans ((if_pos c_56).trans rfl)))).symm) _ _ _ hX (lv_sub hl [1, 0, 4, 5] rfl)
                    · refine lv_aload_n hx hb dX5_chain_164 rfl (lv_at hl 2 rfl) ?_
                      refine lv_iload_n hx hb dX5_chain_165 rfl (lv_at hl 5 rfl) ?_
                      refine lv_iconst (v := 0) hx hb dX5_chain_166 (by decide) ?_
                      refine k_goi (k_V (n := 2) (As := [.int (nI j), .int 0]) (rest := [.int x]) hM hE hX hl (c_X5_taxOfAll l γ L F o ad M1 hR j (nI j) 0 rfl (by omega) (hk j hj)) hR.1 hR.2.1 rfl k_1264 k_1266 kp_36 k_9 k_1267 ⟨rfl, by decide, by decide, by decide +kernel⟩ (by decide) rfl rfl (Nat.le_of_ble_eq_true rfl) dX5_chain_167 (by decide)) hE hX (fun r L1 F1 H locs hp hX => ?_)
                      obtain ⟨rfl, rfl, rfl⟩ := hp
                      refine lv_iload hx hb dX5_chain_170 (lv_at hl 0 rfl) ?_
                      refine lv_isub hx hb dX5_chain_172 ?_
                      refine lv_goto (tgt := 177) hx hb dX5_chain_173 (by decide) ?_
                      refine lv_iadd hx hb dX5_chain_177 ?_
                      refine lv_istore_n (lv' := [(2, .int (x + ((taxAll M1 j 0) - (l_fold (chI M1 a j) 0 j)))), (4, .int (l_fold (chI M1 a j) 0 j)), (5, .int (nI i)), (0, .ref o), (1, .int a), (3, .int (nI j))]) hx hb dX5_chain_178 rfl hl (by decide) rfl (fun ls hl => ?_)
                      refine lv_iinc (v := (nI (j + 1))) (lv' := [(3, .int (nI (j + 1))), (2, .int (x + ((taxAll M1 j 0) - (l_fold (chI M1 a j) 0 j)))), (4, .int (l_fold (chI M1 a j) 0 j)), (5, .int (nI i)), (0, .ref o), (1, .int a)]) hx hb dX5_chain_179 hl (k := 5) rfl (nI_1 _) (by decide) rfl (fun ls hl => ?_)
                      refine lv_goto (tgt := 23) hx hb dX5_chain_182 (by decide) ?_
                      exact ih (j + 1) _ (by omega) (by omega) (show (x + ((taxAll M1 j 0) - (l_fold (chI M1 a j) 0 j))) = l_fold (chO M1 a) 0 (j + 1) from by rw [l_fold, ← hxj]; exact (show chO M1 a j x = _ from ((if_pos c_3).trans ((if_pos c_4).trans ((if_neg c_56).trans rfl)))).symm) _ _ _ hX (lv_sub hl [1, 0, 4, 5] rfl)
                  · have hij : i < j := lp_in (a := i) (b := j) (by omega) (by omega) c_55
                    refine lv_aload_n hx hb dX5_chain_70 rfl (lv_at hl 2 rfl) ?_
                    refine m_get hM hE hX hR 5 (by decide) k_1072 rfl rfl dX5_chain_71 ?_
                    refine lv_iload hx hb dX5_chain_74 (lv_at hl 1 rfl) ?_
                    refine m_iald hM hE hX hR 5 i (by decide) rfl rfl rfl (show i < 20 by omega) dX5_chain_76 ?_
                    refine lv_iload_n hx hb dX5_chain_77 rfl (lv_at hl 3 rfl) ?_
                    refine lv_icmp_ne (tgt := 112) hx hb dX5_chain_78 (by decide) (fun c_57 => ?_) (fun c_57 => ?_)
                    · refine lv_iconst (v := 0) hx hb dX5_chain_112 (by decide) ?_
                      refine lv_istore (lv' := [(6, .int 0), (4, .int y), (5, .int (nI i)), (0, .ref o), (1, .int a), (2, .int x), (3, .int (nI j))]) hx hb dX5_chain_113 hl (by decide) rfl (fun ls hl => ?_)
                      refine lv_iload hx hb dX5_chain_115 (lv_at hl 0 rfl) ?_
                      refine lv_if_eq (tgt := 142) hx hb dX5_chain_117 (by decide) (fun _ => ?_) (fun c_58 => absurd (show ¬ (0 : Int32) = 0 from c_58) (by decide))
                      refine lv_iload hx hb dX5_chain_142 (lv_at hl 1 rfl) ?_
                      refine lv_istore (lv' := [(4, .int y), (6, .int 0), (5, .int (nI i)), (0, .ref o), (1, .int a), (2, .int x), (3, .int (nI j))]) hx hb dX5_chain_144 hl (by decide) rfl (fun ls hl => ?_)
                      refine lv_iinc (v := (nI (i + 1))) (lv' := [(5, .int (nI (i + 1))), (4, .int y), (6, .int 0), (0, .ref o), (1, .int a), (2, .int x), (3, .int (nI j))]) hx hb dX5_chain_146 hl (k := 2) rfl (nI_1 _) (by decide) rfl (fun ls hl => ?_)
                      refine lv_goto (tgt := 64) hx hb dX5_chain_149 (by decide) ?_
                      exact ihi (i + 1) _ (by omega) (by omega) (show y = l_fold (chI M1 a j) 0 (i + 1) from by rw [l_fold, ← hyi]; exact (show chI M1 a j i y = _ from ((if_neg c_57).trans rfl)).symm) _ _ _ hX (lv_sub hl [1, 0, 3, 4, 5, 6] rfl)
                    · refine lv_aload_n hx hb dX5_chain_81 rfl (lv_at hl 2 rfl) ?_
                      refine m_get hM hE hX hR 6 (by decide) k_1073 rfl rfl dX5_chain_82 ?_
                      refine lv_iload hx hb dX5_chain_85 (lv_at hl 1 rfl) ?_
                      refine m_iald hM hE hX hR 6 i (by decide) rfl rfl rfl (show i < 20 by omega) dX5_chain_87 ?_
                      refine lv_iconst (v := 1) hx hb dX5_chain_88 (by decide) ?_
                      refine lv_icmp_ne (tgt := 112) hx hb dX5_chain_89 (by decide) (fun c_59 => ?_) (fun c_59 => ?_)
                      · refine lv_iconst (v := 0) hx hb dX5_chain_112 (by decide) ?_
                        refine lv_istore (lv' := [(6, .int 0), (4, .int y), (5, .int (nI i)), (0, .ref o), (1, .int a), (2, .int x), (3, .int (nI j))]) hx hb dX5_chain_113 hl (by decide) rfl (fun ls hl => ?_)
                        refine lv_iload hx hb dX5_chain_115 (lv_at hl 0 rfl) ?_
                        refine lv_if_eq (tgt := 142) hx hb dX5_chain_117 (by decide) (fun _ => ?_) (fun c_60 => absurd (show ¬ (0 : Int32) = 0 from c_60) (by decide))
                        refine lv_iload hx hb dX5_chain_142 (lv_at hl 1 rfl) ?_
                        refine lv_istore (lv' := [(4, .int y), (6, .int 0), (5, .int (nI i)), (0, .ref o), (1, .int a), (2, .int x), (3, .int (nI j))]) hx hb dX5_chain_144 hl (by decide) rfl (fun ls hl => ?_)
                        refine lv_iinc (v := (nI (i + 1))) (lv' := [(5, .int (nI (i + 1))), (4, .int y), (6, .int 0), (0, .ref o), (1, .int a), (2, .int x), (3, .int (nI j))]) hx hb dX5_chain_146 hl (k := 2) rfl (nI_1 _) (by decide) rfl (fun ls hl => ?_)
                        refine lv_goto (tgt := 64) hx hb dX5_chain_149 (by decide) ?_
                        exact ihi (i + 1) _ (by omega) (by omega) (show y = l_fold (chI M1 a j) 0 (i + 1) from by rw [l_fold, ← hyi]; exact (show chI M1 a j i y = _ from ((if_pos c_57).trans ((if_neg c_59).trans rfl))).symm) _ _ _ hX (lv_sub hl [1, 0, 3, 4, 5, 6] rfl)
                      · refine lv_aload_n hx hb dX5_chain_92 rfl (lv_at hl 2 rfl) ?_
                        refine m_get hM hE hX hR 4 (by decide) k_1071 rfl rfl dX5_chain_93 ?_
                        refine lv_iload hx hb dX5_chain_96 (lv_at hl 1 rfl) ?_
                        refine m_iald hM hE hX hR 4 i (by decide) rfl rfl rfl (show i < 20 by omega) dX5_chain_98 ?_
                        refine lv_aload_n hx hb dX5_chain_99 rfl (lv_at hl 2 rfl) ?_
                        refine m_get hM hE hX hR 3 (by decide) k_1070 rfl rfl dX5_chain_100 ?_
                        refine lv_iload_n hx hb dX5_chain_103 rfl (lv_at hl 5 rfl) ?_
                        refine m_iald hM hE hX hR 3 j (by decide) rfl rfl rfl (show j < 20 by omega) dX5_chain_104 ?_
                        refine lv_icmp_ne (tgt := 112) hx hb dX5_chain_105 (by decide) (fun c_61 => ?_) (fun c_61 => ?_)
                        · refine lv_iconst (v := 0) hx hb dX5_chain_112 (by decide) ?_
                          refine lv_istore (lv' := [(6, .int 0), (4, .int y), (5, .int (nI i)), (0, .ref o), (1, .int a), (2, .int x), (3, .int (nI j))]) hx hb dX5_chain_113 hl (by decide) rfl (fun ls hl => ?_)
                          refine lv_iload hx hb dX5_chain_115 (lv_at hl 0 rfl) ?_
                          refine lv_if_eq (tgt := 142) hx hb dX5_chain_117 (by decide) (fun _ => ?_) (fun c_62 => absurd (show ¬ (0 : Int32) = 0 from c_62) (by decide))
                          refine lv_iload hx hb dX5_chain_142 (lv_at hl 1 rfl) ?_
                          refine lv_istore (lv' := [(4, .int y), (6, .int 0), (5, .int (nI i)), (0, .ref o), (1, .int a), (2, .int x), (3, .int (nI j))]) hx hb dX5_chain_144 hl (by decide) rfl (fun ls hl => ?_)
                          refine lv_iinc (v := (nI (i + 1))) (lv' := [(5, .int (nI (i + 1))), (4, .int y), (6, .int 0), (0, .ref o), (1, .int a), (2, .int x), (3, .int (nI j))]) hx hb dX5_chain_146 hl (k := 2) rfl (nI_1 _) (by decide) rfl (fun ls hl => ?_)
                          refine lv_goto (tgt := 64) hx hb dX5_chain_149 (by decide) ?_
                          exact ihi (i + 1) _ (by omega) (by omega) (show y = l_fold (chI M1 a j) 0 (i + 1) from by rw [l_fold, ← hyi]; exact (show chI M1 a j i y = _ from ((if_pos c_57).trans ((if_pos c_59).trans ((if_neg c_61).trans rfl)))).symm) _ _ _ hX (lv_sub hl [1, 0, 3, 4, 5, 6] rfl)
                        · refine lv_iconst (v := 1) hx hb dX5_chain_108 (by decide) ?_
                          refine lv_goto (tgt := 113) hx hb dX5_chain_109 (by decide) ?_
                          refine lv_istore (lv' := [(6, .int 1), (4, .int y), (5, .int (nI i)), (0, .ref o), (1, .int a), (2, .int x), (3, .int (nI j))]) hx hb dX5_chain_113 hl (by decide) rfl (fun ls hl => ?_)
                          refine lv_iload hx hb dX5_chain_115 (lv_at hl 0 rfl) ?_
                          refine lv_if_eq (tgt := 142) hx hb dX5_chain_117 (by decide) (fun c_63 => absurd (show (1 : Int32) = 0 from c_63) (by decide)) (fun _ => ?_)
                          refine lv_aload_n hx hb dX5_chain_120 rfl (lv_at hl 3 rfl) ?_
                          refine lv_iload hx hb dX5_chain_121 (lv_at hl 2 rfl) ?_
                          refine lv_iconst (v := 0) hx hb dX5_chain_123 (by decide) ?_
                          refine k_goi (k_V (n := 2) (As := [.int (nI i), .int 0]) (rest := []) hM hE hX hl (c_X5_taxOfAll l γ L F o ad M1 hR i (nI i) 0 rfl (by omega) (hk i (by omega))) hR.1 hR.2.1 rfl k_1264 k_1266 kp_36 k_9 k_1267 ⟨rfl, by decide, by decide, by decide +kernel⟩ (by decide) rfl rfl (Nat.le_of_ble_eq_true rfl) dX5_chain_124 (by decide)) hE hX (fun r L1 F1 H locs hp hX => ?_)
                          obtain ⟨rfl, rfl, rfl⟩ := hp
                          refine lv_iload hx hb dX5_chain_127 (lv_at hl 1 rfl) ?_
                          refine lv_icmp_le (tgt := 142) hx hb dX5_chain_129 (by decide) (fun c_64 => ?_) (fun c_64 => ?_)
                          · refine lv_iload hx hb dX5_chain_142 (lv_at hl 1 rfl) ?_
                            refine lv_istore (lv' := [(4, .int y), (6, .int 1), (5, .int (nI i)), (0, .ref o), (1, .int a), (2, .int x), (3, .int (nI j))]) hx hb dX5_chain_144 hl (by decide) rfl (fun ls hl => ?_)
                            refine lv_iinc (v := (nI (i + 1))) (lv' := [(5, .int (nI (i + 1))), (4, .int y), (6, .int 1), (0, .ref o), (1, .int a), (2, .int x), (3, .int (nI j))]) hx hb dX5_chain_146 hl (k := 2) rfl (nI_1 _) (by decide) rfl (fun ls hl => ?_)
                            refine lv_goto (tgt := 64) hx hb dX5_chain_149 (by decide) ?_
                            exact ihi (i + 1) _ (by omega) (by omega) (show y = l_fold (chI M1 a j) 0 (i + 1) from by rw [l_fold, ← hyi]; exact (show chI M1 a j i y = _ from ((if_pos c_57).trans ((if_pos c_59).trans ((if_pos c_61).trans ((if_pos c_64).trans rfl))))).symm) _ _ _ hX (lv_sub hl [1, 0, 3, 4, 5, 6] rfl)
                          · refine lv_aload_n hx hb dX5_chain_132 rfl (lv_at hl 3 rfl) ?_
                            refine lv_iload hx hb dX5_chain_133 (lv_at hl 2 rfl) ?_
                            refine lv_iconst (v := 0) hx hb dX5_chain_135 (by decide) ?_
                            refine k_goi (k_V (n := 2) (As := [.int (nI i), .int 0]) (rest := []) hM hE hX hl (c_X5_taxOfAll l γ L F o ad M1 hR i (nI i) 0 rfl (by omega) (hk i (by omega))) hR.1 hR.2.1 rfl k_1264 k_1266 kp_36 k_9 k_1267 ⟨rfl, by decide, by decide, by decide +kernel⟩ (by decide) rfl rfl (Nat.le_of_ble_eq_true rfl) dX5_chain_136 (by decide)) hE hX (fun r L1 F1 H locs hp hX => ?_)
                            obtain ⟨rfl, rfl, rfl⟩ := hp
                            refine lv_goto (tgt := 144) hx hb dX5_chain_139 (by decide) ?_
                            refine lv_istore (lv' := [(4, .int (taxAll M1 i 0)), (6, .int 1), (5, .int (nI i)), (0, .ref o), (1, .int a), (2, .int x), (3, .int (nI j))]) hx hb dX5_chain_144 hl (by decide) rfl (fun ls hl => ?_)
                            refine lv_iinc (v := (nI (i + 1))) (lv' := [(5, .int (nI (i + 1))), (4, .int (taxAll M1 i 0)), (6, .int 1), (0, .ref o), (1, .int a), (2, .int x), (3, .int (nI j))]) hx hb dX5_chain_146 hl (k := 2) rfl (nI_1 _) (by decide) rfl (fun ls hl => ?_)
                            refine lv_goto (tgt := 64) hx hb dX5_chain_149 (by decide) ?_
                            exact ihi (i + 1) _ (by omega) (by omega) (show (taxAll M1 i 0) = l_fold (chI M1 a j) 0 (i + 1) from by rw [l_fold, ← hyi]; exact (show chI M1 a j i y = _ from ((if_pos c_57).trans ((if_pos c_59).trans ((if_pos c_61).trans ((if_neg c_64).trans rfl))))).symm) _ _ _ hX (lv_sub hl [1, 0, 3, 4, 5, 6] rfl)
              exact hin (j + 1) 0 _ (by omega) (Nat.zero_le _) rfl _ _ _ hX (lv_sub hl [1, 0, 4, 5, 2, 3] rfl)
    exact hloop (nn M1 + 1) 0 _ (by omega) (Nat.zero_le _) rfl _ _ _ hX (lv_sub hl [1, 0, 2, 3] rfl)
  · refine lv_if_eq (tgt := 15) hx hb dX5_chain_8 (by decide) (fun _ => ?_) (fun c_3 => absurd (show ¬ (0 : Int32) = 0 from c_3) (by decide))
    refine lv_iconst (v := 1) hx hb dX5_chain_15 (by decide) ?_
    refine m_put hM hE hX hR 24 (by decide) rfl (by decide) k_1091 rfl rfl rfl rfl dX5_chain_16 (fun F H locs hX hR => ?_)
    refine lv_iconst (v := 0) hx hb dX5_chain_19 (by decide) ?_
    refine lv_istore_n (lv' := [(2, .int 0), (0, .ref o), (1, .int a)]) hx hb dX5_chain_20 rfl hl (by decide) rfl (fun ls hl => ?_)
    refine lv_iconst (v := 0) hx hb dX5_chain_21 (by decide) ?_
    refine lv_istore_n (lv' := [(3, .int 0), (2, .int 0), (0, .ref o), (1, .int a)]) hx hb dX5_chain_22 rfl hl (by decide) rfl (fun ls hl => ?_)
    refine lv_iload_n hx hb dX5_chain_23 rfl (lv_at hl 0 rfl) ?_
    refine lv_aload_n hx hb dX5_chain_24 rfl (lv_at hl 2 rfl) ?_
    refine m_get hM hE hX hR 2 (by decide) k_1069 rfl rfl dX5_chain_25 ?_
    refine lv_icmp_ge (tgt := 185) hx hb dX5_chain_28 (by decide) (fun c_104 => ?_) (fun c_104 => ?_)
    · refine lv_iload_n hx hb dX5_chain_185 rfl (lv_at hl 1 rfl) ?_
      exact k_iret hM hsz hX ⟨_, rfl, rfl, _, hR, (show chainM M a = _ from if_neg h_1).symm⟩ (by decide) (by decide) dX5_chain_186
    · refine lv_aload_n hx hb dX5_chain_31 rfl (lv_at hl 2 rfl) ?_
      refine m_get hM hE hX hR 24 (by decide) k_1091 rfl rfl dX5_chain_32 ?_
      refine lv_if_ne (tgt := 185) hx hb dX5_chain_35 (by decide) (fun _ => ?_) (fun c_105 => absurd (show (1 : Int32) = 0 from c_105) (by decide))
      refine lv_iload_n hx hb dX5_chain_185 rfl (lv_at hl 1 rfl) ?_
      exact k_iret hM hsz hX ⟨_, rfl, rfl, _, hR, (show chainM M a = _ from if_neg h_1).symm⟩ (by decide) (by decide) dX5_chain_186
