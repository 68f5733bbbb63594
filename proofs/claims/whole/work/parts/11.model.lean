set_option maxHeartbeats 4000000 in
set_option maxRecDepth 100000 in
theorem c_X5_isIn (l : Launch) (γ : kG) (L : List Nat) (F : kF) (a b z : Int32) : kC l yX5_isIn cX5_isIn 3 (some .boolean) (kRm 0 0 0) γ L F [.int a, .int b, .int z] (kI fun r L1 F1 => L = L1 ∧ F = F1 ∧ ((r = 1 ∧ b ≤ a ∧ a ≤ z) ∨ (r = 0 ∧ ¬ (b ≤ a ∧ a ≤ z)))) := by
  refine kC_of (by decide +kernel) (Nat.le_of_ble_eq_true rfl) ?_
  intro p e s m args below meth c sz ls hargs hsz hM hin hE hX hl
  have hx := hM.1
  have hb := hM.2.1
  have hl : lv_has ls 3 [(0, .int a), (1, .int b), (2, .int z)] := hl
  refine lv_iload_n hx hb dX5_isIn_0 rfl (lv_at hl 0 rfl) ?_
  refine lv_iload_n hx hb dX5_isIn_1 rfl (lv_at hl 1 rfl) ?_
  refine lv_icmp_lt (tgt := 14) hx hb dX5_isIn_2 (by decide) (fun c_1 => ?_) (fun c_1 => ?_)
  · refine lv_iconst (v := 0) hx hb dX5_isIn_14 (by decide) ?_
    exact k_zret hM rfl hsz hX ⟨_, rfl, rfl, rfl, Or.inr ⟨rfl, fun h => absurd c_1 (Int32.not_lt.mpr h.1)⟩⟩ (by decide) (by decide) dX5_isIn_15
  · refine lv_iload_n hx hb dX5_isIn_5 rfl (lv_at hl 0 rfl) ?_
    refine lv_iload_n hx hb dX5_isIn_6 rfl (lv_at hl 2 rfl) ?_
    refine lv_icmp_gt (tgt := 14) hx hb dX5_isIn_7 (by decide) (fun c_2 => ?_) (fun c_2 => ?_)
    · refine lv_iconst (v := 0) hx hb dX5_isIn_14 (by decide) ?_
      exact k_zret hM rfl hsz hX ⟨_, rfl, rfl, rfl, Or.inr ⟨rfl, fun h => absurd c_2 (Int32.not_lt.mpr h.2)⟩⟩ (by decide) (by decide) dX5_isIn_15
    · refine lv_iconst (v := 1) hx hb dX5_isIn_10 (by decide) ?_
      refine lv_goto (tgt := 15) hx hb dX5_isIn_11 (by decide) ?_
      exact k_zret hM rfl hsz hX ⟨_, rfl, rfl, rfl, Or.inl ⟨rfl, ⟨Int32.not_lt.mp c_1, Int32.not_lt.mp c_2⟩⟩⟩ (by decide) (by decide) dX5_isIn_15
set_option maxHeartbeats 4000000 in
set_option maxRecDepth 100000 in
theorem c_X5_isCompany (l : Launch) (γ : kG) (L : List Nat) (F : kF) (a : Int32) : kC l yX5_isCompany cX5_isCompany 1 (some .boolean) (kRm 1 0 0) γ L F [.int a] (kI fun r L1 F1 => L = L1 ∧ F = F1 ∧ ((r = 1 ∧ 0 ≤ a ∧ a ≤ 5) ∨ (r = 0 ∧ ¬ (0 ≤ a ∧ a ≤ 5)))) := by
  refine kC_of (by decide +kernel) (Nat.le_of_ble_eq_true rfl) ?_
  intro p e s m args below meth c sz ls hargs hsz hM hin hE hX hl
  have hx := hM.1
  have hb := hM.2.1
  have hl : lv_has ls 1 [(0, .int a)] := hl
  refine lv_iload_n hx hb dX5_isCompany_0 rfl (lv_at hl 0 rfl) ?_
  refine lv_iconst (v := 0) hx hb dX5_isCompany_1 (by decide) ?_
  refine lv_iconst (v := 5) hx hb dX5_isCompany_2 (by decide) ?_
  refine k_goi (k_S (n := 3) (As := [.int a, .int 0, .int 5]) (rest := []) hM hE hX hl (c_X5_isIn l γ L F a 0 5) k_1151 k_1152 k_9 k_1153 ⟨by decide, by decide, by decide +kernel⟩ (by decide) rfl rfl (by decide) dX5_isCompany_3 (by decide)) hE hX (fun r L1 F1 H locs hp hX => ?_)
  obtain ⟨rfl, rfl, ⟨rfl, h_1⟩ | ⟨rfl, h_1⟩⟩ := hp
  · exact k_zret hM rfl hsz hX ⟨_, rfl, rfl, rfl, Or.inl ⟨rfl, h_1⟩⟩ (by decide) (by decide) dX5_isCompany_6
  · exact k_zret hM rfl hsz hX ⟨_, rfl, rfl, rfl, Or.inr ⟨rfl, h_1⟩⟩ (by decide) (by decide) dX5_isCompany_6
set_option maxHeartbeats 4000000 in
set_option maxRecDepth 100000 in
theorem c_X5_isInvoice (l : Launch) (γ : kG) (L : List Nat) (F : kF) (o : Nat) (ad : Nat → Nat) (M : mM) (hR : RepM γ L F o ad M) (a : Int32) : kC l yX5_isInvoice cX5_isInvoice 2 (some .boolean) (kRm 1 0 0) γ L F [.ref o, .int a] (kI fun r L1 F1 => L = L1 ∧ F = F1 ∧ ((r = 1 ∧ 0 ≤ a ∧ a ≤ M 2 0 - 1) ∨ (r = 0 ∧ ¬ (0 ≤ a ∧ a ≤ M 2 0 - 1)))) := by
  refine kC_of (by decide +kernel) (Nat.le_of_ble_eq_true rfl) ?_
  intro p e s m args below meth c sz ls hargs hsz hM hin hE hX hl
  have hx := hM.1
  have hb := hM.2.1
  have hl : lv_has ls 2 [(0, .ref o), (1, .int a)] := hl
  refine lv_iload_n hx hb dX5_isInvoice_0 rfl (lv_at hl 1 rfl) ?_
  refine lv_iconst (v := 0) hx hb dX5_isInvoice_1 (by decide) ?_
  refine lv_aload_n hx hb dX5_isInvoice_2 rfl (lv_at hl 0 rfl) ?_
  refine m_get hM hE hX hR 2 (by decide) k_1065 rfl rfl dX5_isInvoice_3 ?_
  refine lv_iconst (v := 1) hx hb dX5_isInvoice_6 (by decide) ?_
  refine lv_isub hx hb dX5_isInvoice_7 ?_
  refine k_goi (k_S (n := 3) (As := [.int a, .int 0, .int ((M 2 0) - 1)]) (rest := []) hM hE hX hl (c_X5_isIn l γ L F a 0 ((M 2 0) - 1)) k_1151 k_1152 k_9 k_1153 ⟨by decide, by decide, by decide +kernel⟩ (by decide) rfl rfl (by decide) dX5_isInvoice_8 (by decide)) hE hX (fun r L1 F1 H locs hp hX => ?_)
  obtain ⟨rfl, rfl, ⟨rfl, h_1⟩ | ⟨rfl, h_1⟩⟩ := hp
  · exact k_zret hM rfl hsz hX ⟨_, rfl, rfl, rfl, Or.inl ⟨rfl, h_1⟩⟩ (by decide) (by decide) dX5_isInvoice_11
  · exact k_zret hM rfl hsz hX ⟨_, rfl, rfl, rfl, Or.inr ⟨rfl, h_1⟩⟩ (by decide) (by decide) dX5_isInvoice_11
set_option maxHeartbeats 4000000 in
set_option maxRecDepth 100000 in
theorem c_X5_isMonth (l : Launch) (γ : kG) (L : List Nat) (F : kF) (o : Nat) (ad : Nat → Nat) (M : mM) (hR : RepM γ L F o ad M) (a : Int32) : kC l yX5_isMonth cX5_isMonth 2 (some .boolean) (kRm 1 0 0) γ L F [.ref o, .int a] (kI fun r L1 F1 => L = L1 ∧ F = F1 ∧ ((r = 1 ∧ 0 ≤ a ∧ a ≤ M 0 0 / 30) ∨ (r = 0 ∧ ¬ (0 ≤ a ∧ a ≤ M 0 0 / 30)))) := by
  refine kC_of (by decide +kernel) (Nat.le_of_ble_eq_true rfl) ?_
  intro p e s m args below meth c sz ls hargs hsz hM hin hE hX hl
  have hx := hM.1
  have hb := hM.2.1
  have hl : lv_has ls 2 [(0, .ref o), (1, .int a)] := hl
  refine lv_iload_n hx hb dX5_isMonth_0 rfl (lv_at hl 1 rfl) ?_
  refine lv_iconst (v := 0) hx hb dX5_isMonth_1 (by decide) ?_
  refine lv_aload_n hx hb dX5_isMonth_2 rfl (lv_at hl 0 rfl) ?_
  refine m_get hM hE hX hR 0 (by decide) k_1063 rfl rfl dX5_isMonth_3 ?_
  refine lv_bipush (v := 30) hx hb dX5_isMonth_6 (by decide) ?_
  refine lv_idiv hx hb dX5_isMonth_8 (by decide) ?_
  refine k_goi (k_S (n := 3) (As := [.int a, .int 0, .int ((M 0 0) / 30)]) (rest := []) hM hE hX hl (c_X5_isIn l γ L F a 0 ((M 0 0) / 30)) k_1151 k_1152 k_9 k_1153 ⟨by decide, by decide, by decide +kernel⟩ (by decide) rfl rfl (by decide) dX5_isMonth_9 (by decide)) hE hX (fun r L1 F1 H locs hp hX => ?_)
  obtain ⟨rfl, rfl, ⟨rfl, h_1⟩ | ⟨rfl, h_1⟩⟩ := hp
  · exact k_zret hM rfl hsz hX ⟨_, rfl, rfl, rfl, Or.inl ⟨rfl, h_1⟩⟩ (by decide) (by decide) dX5_isMonth_12
  · exact k_zret hM rfl hsz hX ⟨_, rfl, rfl, rfl, Or.inr ⟨rfl, h_1⟩⟩ (by decide) (by decide) dX5_isMonth_12
set_option maxHeartbeats 4000000 in
set_option maxRecDepth 100000 in
theorem c_X5_isGood (l : Launch) (γ : kG) (L : List Nat) (F : kF) (a b : Int32) : kC l yX5_isGood cX5_isGood 2 (some .boolean) (kRm 1 0 0) γ L F [.int a, .int b] (kI fun r L1 F1 => L = L1 ∧ F = F1 ∧ ((r = 1 ∧ (1 ≤ a ∧ a ≤ 9999) ∧ (b = 0 ∨ b = 7 ∨ b = 19)) ∨ (r = 0 ∧ ¬ ((1 ≤ a ∧ a ≤ 9999) ∧ (b = 0 ∨ b = 7 ∨ b = 19))))) := by
  refine kC_of (by decide +kernel) (Nat.le_of_ble_eq_true rfl) ?_
  intro p e s m args below meth c sz ls hargs hsz hM hin hE hX hl
  have hx := hM.1
  have hb := hM.2.1
  have hl : lv_has ls 2 [(0, .int a), (1, .int b)] := hl
  refine lv_iload_n hx hb dX5_isGood_0 rfl (lv_at hl 0 rfl) ?_
  refine lv_iconst (v := 1) hx hb dX5_isGood_1 (by decide) ?_
  refine lv_sipush (v := 9999) hx hb dX5_isGood_2 (by decide) ?_
  refine k_goi (k_S (n := 3) (As := [.int a, .int 1, .int 9999]) (rest := []) hM hE hX hl (c_X5_isIn l γ L F a 1 9999) k_1151 k_1152 k_9 k_1153 ⟨by decide, by decide, by decide +kernel⟩ (by decide) rfl rfl (by decide) dX5_isGood_5 (by decide)) hE hX (fun r L1 F1 H locs hp hX => ?_)
  obtain ⟨rfl, rfl, ⟨rfl, h_1⟩ | ⟨rfl, h_1⟩⟩ := hp
  · refine lv_if_eq (tgt := 31) hx hb dX5_isGood_8 (by decide) (fun c_2 => absurd c_2 (by decide)) (fun _ => ?_)
    refine lv_iload_n hx hb dX5_isGood_11 rfl (lv_at hl 1 rfl) ?_
    refine lv_if_eq (tgt := 27) hx hb dX5_isGood_12 (by decide) (fun c_3 => ?_) (fun c_3 => ?_)
    · refine lv_iconst (v := 1) hx hb dX5_isGood_27 (by decide) ?_
      refine lv_goto (tgt := 32) hx hb dX5_isGood_28 (by decide) ?_
      exact k_zret hM rfl hsz hX ⟨_, rfl, rfl, rfl, Or.inl ⟨rfl, ⟨h_1, Or.inl c_3⟩⟩⟩ (by decide) (by decide) dX5_isGood_32
    · refine lv_iload_n hx hb dX5_isGood_15 rfl (lv_at hl 1 rfl) ?_
      refine lv_bipush (v := 7) hx hb dX5_isGood_16 (by decide) ?_
      refine lv_icmp_eq (tgt := 27) hx hb dX5_isGood_18 (by decide) (fun c_4 => ?_) (fun c_4 => ?_)
      · refine lv_iconst (v := 1) hx hb dX5_isGood_27 (by decide) ?_
        refine lv_goto (tgt := 32) hx hb dX5_isGood_28 (by decide) ?_
        exact k_zret hM rfl hsz hX ⟨_, rfl, rfl, rfl, Or.inl ⟨rfl, ⟨h_1, Or.inr (Or.inl c_4)⟩⟩⟩ (by decide) (by decide) dX5_isGood_32
      · refine lv_iload_n hx hb dX5_isGood_21 rfl (lv_at hl 1 rfl) ?_
        refine lv_bipush (v := 19) hx hb dX5_isGood_22 (by decide) ?_
        refine lv_icmp_ne (tgt := 31) hx hb dX5_isGood_24 (by decide) (fun c_5 => ?_) (fun c_5 => ?_)
        · refine lv_iconst (v := 0) hx hb dX5_isGood_31 (by decide) ?_
          exact k_zret hM rfl hsz hX ⟨_, rfl, rfl, rfl, Or.inr ⟨rfl, fun h => h.2.elim c_3 (fun h => h.elim c_4 c_5)⟩⟩ (by decide) (by decide) dX5_isGood_32
        · refine lv_iconst (v := 1) hx hb dX5_isGood_27 (by decide) ?_
          refine lv_goto (tgt := 32) hx hb dX5_isGood_28 (by decide) ?_
          exact k_zret hM rfl hsz hX ⟨_, rfl, rfl, rfl, Or.inl ⟨rfl, ⟨h_1, Or.inr (Or.inr c_5)⟩⟩⟩ (by decide) (by decide) dX5_isGood_32
  · refine lv_if_eq (tgt := 31) hx hb dX5_isGood_8 (by decide) (fun _ => ?_) (fun c_6 => absurd (by decide) c_6)
    refine lv_iconst (v := 0) hx hb dX5_isGood_31 (by decide) ?_
    exact k_zret hM rfl hsz hX ⟨_, rfl, rfl, rfl, Or.inr ⟨rfl, fun h => h_1 h.1⟩⟩ (by decide) (by decide) dX5_isGood_32
set_option maxHeartbeats 4000000 in
set_option maxRecDepth 100000 in
theorem c_X5_taxOf (l : Launch) (γ : kG) (L : List Nat) (F : kF) (a b : Int32) : kC l yX5_taxOf cX5_taxOf 2 (some .int) (kRm 0 0 0) γ L F [.int a, .int b] (kI fun r L1 F1 => L = L1 ∧ F = F1 ∧ r = tx a b) := by
  refine kC_of (by decide +kernel) (Nat.le_of_ble_eq_true rfl) ?_
  intro p e s m args below meth c sz ls hargs hsz hM hin hE hX hl
  have hx := hM.1
  have hb := hM.2.1
  have hl : lv_has ls 2 [(0, .int a), (1, .int b)] := hl
  refine lv_iload_n hx hb dX5_taxOf_0 rfl (lv_at hl 0 rfl) ?_
  refine lv_iload_n hx hb dX5_taxOf_1 rfl (lv_at hl 1 rfl) ?_
  refine lv_imul hx hb dX5_taxOf_2 ?_
  refine lv_bipush (v := 100) hx hb dX5_taxOf_3 (by decide) ?_
  refine lv_idiv hx hb dX5_taxOf_5 (by decide) ?_
  exact k_iret hM hsz hX ⟨_, rfl, rfl, rfl, rfl⟩ (by decide) (by decide) dX5_taxOf_6
