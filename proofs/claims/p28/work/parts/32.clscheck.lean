theorem c_getx {γ : kG} {L : List Nat} {F : kF} {tg : cTg} (l : Launch) {a k n : Nat} {g : Nat → Nat} (h : Lst γ L F tg a k n g) (j : Nat) (hj : j < n) (x : Int32) (hx : x = nI j) : kC l yJx4a65c_get_915e3 cJx4a65c_get_915e3 2 (some (.object "java/lang/Object")) (kRm 2 0 0) γ L F [.ref a, .int x] (kR fun r L1 F1 => L = L1 ∧ F = F1 ∧ r = g j) := by
  subst hx
  exact c_get l h j hj
theorem lt_6 {a : Int32} : a < 6 ↔ a ≤ 5 := by
  rw [Int32.lt_iff_toInt_lt, Int32.le_iff_toInt_le, show (6 : Int32).toInt = 6 by decide, show (5 : Int32).toInt = 5 by decide]
  omega
theorem lt_8 {a : Int32} : a < 8 ↔ a ≤ 7 := by
  rw [Int32.lt_iff_toInt_lt, Int32.le_iff_toInt_le, show (8 : Int32).toInt = 8 by decide, show (7 : Int32).toInt = 7 by decide]
  omega
theorem lt_n {a : Int32} {n : Nat} (hn : n < 2 ^ 30) : a < nI n ↔ a ≤ nI n - 1 := by
  rw [Int32.lt_iff_toInt_lt, Int32.le_iff_toInt_le, show (nI n - 1).toInt = (n : Int) - 1 from pk_sub_toInt (b := 1) hn (by decide), nI_toInt (by omega)]
  omega
theorem ltN {M : mM} (hn : okN M) {a : Int32} : a < nI (nn M) ↔ a ≤ M 2 0 - 1 := by
  rw [hn.1]
  exact (lt_n (by have := hn.2; omega)).trans (by rw [← hn.1])
theorem ltK {M : mM} {i : Nat} (hk : okL M i) {a : Int32} : a < nI (kk M i) ↔ a ≤ M 13 i - 1 := by
  rw [hk.1]
  exact (lt_n (by have := hk.2; omega)).trans (by rw [← hk.1])
theorem tinI {M : mM} {a b : Int32} {j : Nat} (x : Int32) (hne : M 3 j ≠ M 4 j) : tin1 M a b j x = x + ctaxI M j a b := by
  unfold tin1 ctaxI aDay
  simp only [show (a = M 3 j) = (M 3 j = a) from propext eq_comm, show (a = M 4 j) = (M 4 j = a) from propext eq_comm]
  by_cases h1 : M 3 j = a
  · have h4 : ¬ M 4 j = a := fun h => hne (h1.trans h.symm)
    simp only [if_pos h1, if_neg h4]
    by_cases h7 : M 7 j / 30 = b <;> by_cases h6 : M 6 j = 2 <;> simp only [h7, h6, if_true, if_false, Int32.add_zero, Int32.sub_zero]
  · simp only [if_neg h1]
    by_cases h4 : M 4 j = a
    · by_cases h61 : M 6 j = 1
      · by_cases h8 : M 8 j / 30 = b <;> simp only [h4, h61, h8, if_true, if_false, Int32.add_zero, Int32.sub_zero, Int32.sub_eq_add_neg, Int32.neg_zero]
      · simp only [h4, h61, if_true, if_false, Int32.add_zero, Int32.sub_zero]
    · simp only [h4, if_false, Int32.add_zero, Int32.sub_zero]
theorem tinC {M : mM} {a b : Int32} {k : Nat} (x : Int32) (hne : M 3 (kj (M 19 k)) ≠ M 4 (kj (M 19 k))) : tin2 M a b k x = x + ctaxC M k a b := by
  unfold tin2 ctaxC
  simp only [show (a = M 3 (kj (M 19 k))) = (M 3 (kj (M 19 k)) = a) from propext eq_comm, show (a = M 4 (kj (M 19 k))) = (M 4 (kj (M 19 k)) = a) from propext eq_comm]
  by_cases h20 : M 20 k / 30 = b
  · simp only [if_pos h20]
    by_cases h1 : M 3 (kj (M 19 k)) = a
    · have h4 : ¬ M 4 (kj (M 19 k)) = a := fun h => hne (h1.trans h.symm)
      simp only [if_pos h1, if_neg h4]
      by_cases h6 : M 6 (kj (M 19 k)) = 2 <;> simp only [h6, if_true, if_false, Int32.add_zero, Int32.sub_zero, Int32.sub_eq_add_neg, Int32.neg_zero]
    · simp only [if_neg h1]
      by_cases h4 : M 4 (kj (M 19 k)) = a
      · by_cases h61 : M 6 (kj (M 19 k)) = 1 <;> simp only [h4, h61, if_true, if_false, Int32.add_zero, Int32.sub_zero]
      · simp only [h4, if_false, Int32.add_zero, Int32.sub_zero]
  · simp only [if_neg h20, Int32.add_zero, Int32.sub_zero]
theorem cmin0 (x y : Int32) : (if 0 ≤ x then (0 + y) else (x + y)) = (if 0 < x then 0 else x) + y := by
  by_cases h : 0 < x
  · rw [if_pos h, if_pos (Int32.le_of_lt h)]
  · rw [if_neg h]
    split
    · rename_i h2
      rw [Int32.le_antisymm (Int32.not_lt.mp h) h2]
    · rfl
set_option maxHeartbeats 4000000 in
set_option maxRecDepth 100000 in
theorem c_X4_checkCompany (l : Launch) (hfl : l.stackTraces = false) (γ : kG) (L : List Nat) (F : kF) (o : Nat) (a : Int32) : kD l yX4_checkCompany cX4_checkCompany 2 none (kRm 0 1 6) γ L F [.ref o, .int a] (kU fun L1 F1 => L = L1 ∧ F = F1 ∧ 0 ≤ a ∧ a ≤ 5) (fun E => E = kIO ∧ ¬ (0 ≤ a ∧ a ≤ 5)) := by
  refine kD_of (by decide +kernel) (Nat.le_of_ble_eq_true rfl) ?_
  intro p e s m args below meth c sz ls hargs hsz hM htab hE hX hl
  have hx := hM.1
  have hb := hM.2.1
  have hl : lv_has ls 2 [(0, .ref o), (1, .int a)] := hl
  refine lv_iload_n hx hb dX4_checkCompany_0 rfl (lv_at hl 1 rfl) ?_
  refine lv_if_lt (tgt := 10) hx hb dX4_checkCompany_1 (by decide) (fun c_1 => ?_) (fun c_1 => ?_)
  · exact x_throw0 (text := "there is no such company") hM hE hX hl htab hfl kat_IO hE.2.1.2.2.2.2.2.2.2.2.2.2.1.1 (by decide +kernel) k_129 k_12 ⟨rfl, rfl⟩ (by decide) ⟨rfl, fun h => absurd c_1 (Int32.not_lt.mpr h.1)⟩ dX4_checkCompany_10 dX4_checkCompany_13 (Or.inl ⟨dX4_checkCompany_14, dX4_checkCompany_16, dX4_checkCompany_19⟩) (by decide) (by decide) (by decide)
  · refine lv_iload_n hx hb dX4_checkCompany_4 rfl (lv_at hl 1 rfl) ?_
    refine lv_bipush (v := 6) hx hb dX4_checkCompany_5 (by decide) ?_
    refine lv_icmp_lt (tgt := 20) hx hb dX4_checkCompany_7 (by decide) (fun c_2 => ?_) (fun c_2 => ?_)
    · exact vx_ret (k_vret hM hsz hX ⟨rfl, rfl, rfl, ⟨Int32.not_lt.mp c_1, lt_6.mp c_2⟩⟩ (by decide) (by decide) dX4_checkCompany_20)
    · exact x_throw0 (text := "there is no such company") hM hE hX hl htab hfl kat_IO hE.2.1.2.2.2.2.2.2.2.2.2.2.1.1 (by decide +kernel) k_129 k_12 ⟨rfl, rfl⟩ (by decide) ⟨rfl, fun h => c_2 (lt_6.mpr h.2)⟩ dX4_checkCompany_10 dX4_checkCompany_13 (Or.inl ⟨dX4_checkCompany_14, dX4_checkCompany_16, dX4_checkCompany_19⟩) (by decide) (by decide) (by decide)
set_option maxHeartbeats 4000000 in
set_option maxRecDepth 100000 in
theorem c_X4_checkGoods (l : Launch) (hfl : l.stackTraces = false) (γ : kG) (L : List Nat) (F : kF) (o : Nat) (a : Int32) : kD l yX4_checkGoods cX4_checkGoods 2 none (kRm 0 1 6) γ L F [.ref o, .int a] (kU fun L1 F1 => L = L1 ∧ F = F1 ∧ 0 ≤ a ∧ a ≤ 7) (fun E => E = kIO ∧ ¬ (0 ≤ a ∧ a ≤ 7)) := by
  refine kD_of (by decide +kernel) (Nat.le_of_ble_eq_true rfl) ?_
  intro p e s m args below meth c sz ls hargs hsz hM htab hE hX hl
  have hx := hM.1
  have hb := hM.2.1
  have hl : lv_has ls 2 [(0, .ref o), (1, .int a)] := hl
  refine lv_iload_n hx hb dX4_checkGoods_0 rfl (lv_at hl 1 rfl) ?_
  refine lv_if_lt (tgt := 10) hx hb dX4_checkGoods_1 (by decide) (fun c_1 => ?_) (fun c_1 => ?_)
  · exact x_throw0 (text := "there are no such goods") hM hE hX hl htab hfl kat_IO hE.2.1.2.2.2.2.2.2.2.2.2.2.1.1 (by decide +kernel) k_129 k_12 ⟨rfl, rfl⟩ (by decide) ⟨rfl, fun h => absurd c_1 (Int32.not_lt.mpr h.1)⟩ dX4_checkGoods_10 dX4_checkGoods_13 (Or.inr ⟨dX4_checkGoods_14, dX4_checkGoods_17, dX4_checkGoods_20⟩) (by decide) (by decide) (by decide)
  · refine lv_iload_n hx hb dX4_checkGoods_4 rfl (lv_at hl 1 rfl) ?_
    refine lv_bipush (v := 8) hx hb dX4_checkGoods_5 (by decide) ?_
    refine lv_icmp_lt (tgt := 21) hx hb dX4_checkGoods_7 (by decide) (fun c_2 => ?_) (fun c_2 => ?_)
    · exact vx_ret (k_vret hM hsz hX ⟨rfl, rfl, rfl, ⟨Int32.not_lt.mp c_1, lt_8.mp c_2⟩⟩ (by decide) (by decide) dX4_checkGoods_21)
    · exact x_throw0 (text := "there are no such goods") hM hE hX hl htab hfl kat_IO hE.2.1.2.2.2.2.2.2.2.2.2.2.1.1 (by decide +kernel) k_129 k_12 ⟨rfl, rfl⟩ (by decide) ⟨rfl, fun h => c_2 (lt_8.mpr h.2)⟩ dX4_checkGoods_10 dX4_checkGoods_13 (Or.inr ⟨dX4_checkGoods_14, dX4_checkGoods_17, dX4_checkGoods_20⟩) (by decide) (by decide) (by decide)
set_option maxHeartbeats 4000000 in
set_option maxRecDepth 100000 in
theorem c_X4_checkAmount (l : Launch) (hfl : l.stackTraces = false) (γ : kG) (L : List Nat) (F : kF) (o : Nat) (a : Int32) : kD l yX4_checkAmount cX4_checkAmount 2 none (kRm 0 1 6) γ L F [.ref o, .int a] (kU fun L1 F1 => L = L1 ∧ F = F1 ∧ 1 ≤ a ∧ a ≤ 9999) (fun E => E = kIA ∧ ¬ (1 ≤ a ∧ a ≤ 9999)) := by
  refine kD_of (by decide +kernel) (Nat.le_of_ble_eq_true rfl) ?_
  intro p e s m args below meth c sz ls hargs hsz hM htab hE hX hl
  have hx := hM.1
  have hb := hM.2.1
  have hl : lv_has ls 2 [(0, .ref o), (1, .int a)] := hl
  refine lv_iload_n hx hb dX4_checkAmount_0 rfl (lv_at hl 1 rfl) ?_
  refine lv_iconst (v := 1) hx hb dX4_checkAmount_1 (by decide) ?_
  refine lv_icmp_lt (tgt := 12) hx hb dX4_checkAmount_2 (by decide) (fun c_1 => ?_) (fun c_1 => ?_)
  · exact x_throw0 (text := "the amount is out of range") hM hE hX hl htab hfl kat_IA hE.2.1.2.2.2.2.2.2.2.2.2.2.1.2.1 (by decide +kernel) k_199 k_16 ⟨rfl, rfl⟩ (by decide) ⟨rfl, fun h => absurd c_1 (Int32.not_lt.mpr h.1)⟩ dX4_checkAmount_12 dX4_checkAmount_15 (Or.inr ⟨dX4_checkAmount_16, dX4_checkAmount_19, dX4_checkAmount_22⟩) (by decide) (by decide) (by decide)
  · refine lv_iload_n hx hb dX4_checkAmount_5 rfl (lv_at hl 1 rfl) ?_
    refine lv_sipush (v := 9999) hx hb dX4_checkAmount_6 (by decide) ?_
    refine lv_icmp_le (tgt := 23) hx hb dX4_checkAmount_9 (by decide) (fun c_2 => ?_) (fun c_2 => ?_)
    · exact vx_ret (k_vret hM hsz hX ⟨rfl, rfl, rfl, ⟨Int32.not_lt.mp c_1, c_2⟩⟩ (by decide) (by decide) dX4_checkAmount_23)
    · exact x_throw0 (text := "the amount is out of range") hM hE hX hl htab hfl kat_IA hE.2.1.2.2.2.2.2.2.2.2.2.2.1.2.1 (by decide +kernel) k_199 k_16 ⟨rfl, rfl⟩ (by decide) ⟨rfl, fun h => c_2 h.2⟩ dX4_checkAmount_12 dX4_checkAmount_15 (Or.inr ⟨dX4_checkAmount_16, dX4_checkAmount_19, dX4_checkAmount_22⟩) (by decide) (by decide) (by decide)
set_option maxHeartbeats 4000000 in
set_option maxRecDepth 100000 in
theorem c_X4_checkRate (l : Launch) (hfl : l.stackTraces = false) (γ : kG) (L : List Nat) (F : kF) (o : Nat) (a : Int32) : kD l yX4_checkRate cX4_checkRate 2 none (kRm 0 1 6) γ L F [.ref o, .int a] (kU fun L1 F1 => L = L1 ∧ F = F1 ∧ (a = 0 ∨ a = 7 ∨ a = 19)) (fun E => E = kIA ∧ ¬ ((a = 0 ∨ a = 7 ∨ a = 19))) := by
  refine kD_of (by decide +kernel) (Nat.le_of_ble_eq_true rfl) ?_
  intro p e s m args below meth c sz ls hargs hsz hM htab hE hX hl
  have hx := hM.1
  have hb := hM.2.1
  have hl : lv_has ls 2 [(0, .ref o), (1, .int a)] := hl
  refine lv_iload_n hx hb dX4_checkRate_0 rfl (lv_at hl 1 rfl) ?_
  refine lv_if_eq (tgt := 27) hx hb dX4_checkRate_1 (by decide) (fun c_1 => ?_) (fun c_1 => ?_)
  · exact vx_ret (k_vret hM hsz hX ⟨rfl, rfl, rfl, Or.inl c_1⟩ (by decide) (by decide) dX4_checkRate_27)
  · refine lv_iload_n hx hb dX4_checkRate_4 rfl (lv_at hl 1 rfl) ?_
    refine lv_bipush (v := 7) hx hb dX4_checkRate_5 (by decide) ?_
    refine lv_icmp_eq (tgt := 27) hx hb dX4_checkRate_7 (by decide) (fun c_2 => ?_) (fun c_2 => ?_)
    · exact vx_ret (k_vret hM hsz hX ⟨rfl, rfl, rfl, Or.inr (Or.inl c_2)⟩ (by decide) (by decide) dX4_checkRate_27)
    · refine lv_iload_n hx hb dX4_checkRate_10 rfl (lv_at hl 1 rfl) ?_
      refine lv_bipush (v := 19) hx hb dX4_checkRate_11 (by decide) ?_
      refine lv_icmp_eq (tgt := 27) hx hb dX4_checkRate_13 (by decide) (fun c_3 => ?_) (fun c_3 => ?_)
      · exact vx_ret (k_vret hM hsz hX ⟨rfl, rfl, rfl, Or.inr (Or.inr c_3)⟩ (by decide) (by decide) dX4_checkRate_27)
      · exact x_throw0 (text := "the rate is out of range") hM hE hX hl htab hfl kat_IA hE.2.1.2.2.2.2.2.2.2.2.2.2.1.2.1 (by decide +kernel) k_199 k_16 ⟨rfl, rfl⟩ (by decide) ⟨rfl, fun h => h.elim c_1 (fun h => h.elim c_2 c_3)⟩ dX4_checkRate_16 dX4_checkRate_19 (Or.inr ⟨dX4_checkRate_20, dX4_checkRate_23, dX4_checkRate_26⟩) (by decide) (by decide) (by decide)
set_option maxHeartbeats 4000000 in
set_option maxRecDepth 100000 in
theorem c_X4_checkTwoCompanies (l : Launch) (hfl : l.stackTraces = false) (γ : kG) (L : List Nat) (F : kF) (o : Nat) (a b : Int32) : kD l yX4_checkTwoCompanies cX4_checkTwoCompanies 3 none (kRm 0 1 6) γ L F [.ref o, .int a, .int b] (kU fun L1 F1 => L = L1 ∧ F = F1 ∧ ¬ a = b) (fun E => E = kIA ∧ a = b) := by
  refine kD_of (by decide +kernel) (Nat.le_of_ble_eq_true rfl) ?_
  intro p e s m args below meth c sz ls hargs hsz hM htab hE hX hl
  have hx := hM.1
  have hb := hM.2.1
  have hl : lv_has ls 3 [(0, .ref o), (1, .int a), (2, .int b)] := hl
  refine lv_iload_n hx hb dX4_checkTwoCompanies_0 rfl (lv_at hl 1 rfl) ?_
  refine lv_iload_n hx hb dX4_checkTwoCompanies_1 rfl (lv_at hl 2 rfl) ?_
  refine lv_icmp_ne (tgt := 16) hx hb dX4_checkTwoCompanies_2 (by decide) (fun c_1 => ?_) (fun c_1 => ?_)
  · exact vx_ret (k_vret hM hsz hX ⟨rfl, rfl, rfl, c_1⟩ (by decide) (by decide) dX4_checkTwoCompanies_16)
  · exact x_throw0 (text := "both companies are the same") hM hE hX hl htab hfl kat_IA hE.2.1.2.2.2.2.2.2.2.2.2.2.1.2.1 (by decide +kernel) k_199 k_16 ⟨rfl, rfl⟩ (by decide) ⟨rfl, c_1⟩ dX4_checkTwoCompanies_5 dX4_checkTwoCompanies_8 (Or.inr ⟨dX4_checkTwoCompanies_9, dX4_checkTwoCompanies_12, dX4_checkTwoCompanies_15⟩) (by decide) (by decide) (by decide)
set_option maxHeartbeats 4000000 in
set_option maxRecDepth 100000 in
theorem c_X4_checkMonth (l : Launch) (hfl : l.stackTraces = false) (γ : kG) (L : List Nat) (F : kF) (o : Nat) (ad : cAd) (tg : cTg) (M : mM) (nd : Nat) (D : cD) (hR : RepC γ L F o ad tg M nd D) (hI : Inv M nd D) (a : Int32) : kD l yX4_checkMonth cX4_checkMonth 2 none (kRm 1 1 6) γ L F [.ref o, .int a] (kU fun L1 F1 => L = L1 ∧ F = F1 ∧ 0 ≤ a ∧ a ≤ M 0 0 / 30) (fun E => E = kIO ∧ ¬ (0 ≤ a ∧ a ≤ M 0 0 / 30)) := by
  refine kD_of (by decide +kernel) (Nat.le_of_ble_eq_true rfl) ?_
  intro p e s m args below meth c sz ls hargs hsz hM htab hE hX hl
  have hx := hM.1
  have hb := hM.2.1
  have hl : lv_has ls 2 [(0, .ref o), (1, .int a)] := hl
  refine lv_iload_n hx hb dX4_checkMonth_0 rfl (lv_at hl 1 rfl) ?_
  refine lv_if_lt (tgt := 15) hx hb dX4_checkMonth_1 (by decide) (fun c_1 => ?_) (fun c_1 => ?_)
  · exact x_throw0 (text := "there is no such month") hM hE hX hl htab hfl kat_IO hE.2.1.2.2.2.2.2.2.2.2.2.2.1.1 (by decide +kernel) k_129 k_12 ⟨rfl, rfl⟩ (by decide) ⟨rfl, fun h => absurd c_1 (Int32.not_lt.mpr h.1)⟩ dX4_checkMonth_15 dX4_checkMonth_18 (Or.inr ⟨dX4_checkMonth_19, dX4_checkMonth_22, dX4_checkMonth_25⟩) (by decide) (by decide) (by decide)
  · refine lv_iload_n hx hb dX4_checkMonth_4 rfl (lv_at hl 1 rfl) ?_
    refine lv_aload_n hx hb dX4_checkMonth_5 rfl (lv_at hl 0 rfl) ?_
    refine k_get hM hE hX hR.1.1 hR.1.2.2 rfl 5 (by decide) inX4 k_103 (fun _ h => h) rfl dX4_checkMonth_6 ?_
    refine k_goi (k_S (n := 1) (As := [.int (M 0 0)]) (rest := [.int a]) hM hE hX hl (c_X4_monthOf l γ L F (M 0 0)) k_376 k_377 k_1 k_378 ⟨by decide, by decide, by decide +kernel⟩ (by decide) rfl rfl (Nat.le_of_ble_eq_true rfl) dX4_checkMonth_9 (by decide)) hE hX (fun r L1 F1 H locs hp hX => ?_)
    obtain ⟨rfl, rfl, rfl⟩ := hp
    refine lv_icmp_le (tgt := 26) hx hb dX4_checkMonth_12 (by decide) (fun c_2 => ?_) (fun c_2 => ?_)
    · exact vx_ret (k_vret hM hsz hX ⟨rfl, rfl, rfl, ⟨Int32.not_lt.mp c_1, c_2⟩⟩ (by decide) (by decide) dX4_checkMonth_26)
    · exact x_throw0 (text := "there is no such month") hM hE hX hl htab hfl kat_IO hE.2.1.2.2.2.2.2.2.2.2.2.2.1.1 (by decide +kernel) k_129 k_12 ⟨rfl, rfl⟩ (by decide) ⟨rfl, fun h => c_2 h.2⟩ dX4_checkMonth_15 dX4_checkMonth_18 (Or.inr ⟨dX4_checkMonth_19, dX4_checkMonth_22, dX4_checkMonth_25⟩) (by decide) (by decide) (by decide)
set_option maxHeartbeats 4000000 in
set_option maxRecDepth 100000 in
theorem c_X4_checkSent (l : Launch) (hfl : l.stackTraces = false) (γ : kG) (L : List Nat) (F : kF) (o : Nat) (ad : cAd) (tg : cTg) (M : mM) (nd : Nat) (D : cD) (hR : RepC γ L F o ad tg M nd D) (hI : Inv M nd D) (i : Nat) (hi : i < nn M) : kD l yX4_checkSent cX4_checkSent 2 none (kRm 0 1 6) γ L F [.ref o, .ref (ad 1 i 0)] (kU fun L1 F1 => L = L1 ∧ F = F1 ∧ M 6 i = 0) (fun E => E = kIS ∧ ¬ (M 6 i = 0)) := by
  refine kD_of (by decide +kernel) (Nat.le_of_ble_eq_true rfl) ?_
  intro p e s m args below meth c sz ls hargs hsz hM htab hE hX hl
  have hx := hM.1
  have hb := hM.2.1
  have hl : lv_has ls 2 [(0, .ref o), (1, .ref (ad 1 i 0))] := hl
  refine lv_aload_n hx hb dX4_checkSent_0 rfl (lv_at hl 1 rfl) ?_
  refine k_get hM hE hX (hR.2.1 i hi).1 (hR.2.1 i hi).2.2 rfl 5 (by decide) inX2 k_532 (fun _ h => h) rfl dX4_checkSent_1 ?_
  refine lv_if_eq (tgt := 18) hx hb dX4_checkSent_4 (by decide) (fun c_1 => ?_) (fun c_1 => ?_)
  · exact vx_ret (k_vret hM hsz hX ⟨rfl, rfl, rfl, c_1⟩ (by decide) (by decide) dX4_checkSent_18)
  · exact x_throw0 (text := "the invoice is accepted or refused") hM hE hX hl htab hfl kat_IS hE.2.1.2.2.2.2.2.2.2.2.2.2.1.2.2 (by decide +kernel) k_264 k_17 ⟨rfl, rfl⟩ (by decide) ⟨rfl, c_1⟩ dX4_checkSent_7 dX4_checkSent_10 (Or.inr ⟨dX4_checkSent_11, dX4_checkSent_14, dX4_checkSent_17⟩) (by decide) (by decide) (by decide)
set_option maxHeartbeats 4000000 in
set_option maxRecDepth 100000 in
theorem c_X4_checkOwed (l : Launch) (hfl : l.stackTraces = false) (γ : kG) (L : List Nat) (F : kF) (o : Nat) (ad : cAd) (tg : cTg) (M : mM) (nd : Nat) (D : cD) (hR : RepC γ L F o ad tg M nd D) (hI : Inv M nd D) (i : Nat) (hi : i < nn M) : kD l yX4_checkOwed cX4_checkOwed 2 none (kRm 4 1 6) γ L F [.ref o, .ref (ad 1 i 0)] (kU fun L1 F1 => L = L1 ∧ F = F1 ∧ ¬ owed M i = 0) (fun E => E = kIS ∧ owed M i = 0) := by
  refine kD_of (by decide +kernel) (Nat.le_of_ble_eq_true rfl) ?_
  intro p e s m args below meth c sz ls hargs hsz hM htab hE hX hl
  have hx := hM.1
  have hb := hM.2.1
  have hl : lv_has ls 2 [(0, .ref o), (1, .ref (ad 1 i 0))] := hl
  refine lv_aload_n hx hb dX4_checkOwed_0 rfl (lv_at hl 1 rfl) ?_
  refine k_goi (k_V (n := 0) (As := []) (rest := []) hM hE hX hl (c_X2_owedNow l γ L F o ad tg M nd D hR hI i hi) (hR.2.1 i hi).1 (hR.2.1 i hi).2.2 rfl k_239 k_240 k_241 k_18 k_242 ⟨rfl, by decide, by decide, by decide +kernel⟩ (by decide) rfl rfl (Nat.le_of_ble_eq_true rfl) dX4_checkOwed_1 (by decide)) hE hX (fun r L1 F1 H locs hp hX => ?_)
  obtain ⟨rfl, rfl, rfl⟩ := hp
  refine lv_if_ne (tgt := 18) hx hb dX4_checkOwed_4 (by decide) (fun c_1 => ?_) (fun c_1 => ?_)
  · exact vx_ret (k_vret hM hsz hX ⟨rfl, rfl, rfl, c_1⟩ (by decide) (by decide) dX4_checkOwed_18)
  · exact x_throw0 (text := "nothing is owed of the invoice") hM hE hX hl htab hfl kat_IS hE.2.1.2.2.2.2.2.2.2.2.2.2.1.2.2 (by decide +kernel) k_264 k_17 ⟨rfl, rfl⟩ (by decide) ⟨rfl, c_1⟩ dX4_checkOwed_7 dX4_checkOwed_10 (Or.inr ⟨dX4_checkOwed_11, dX4_checkOwed_14, dX4_checkOwed_17⟩) (by decide) (by decide) (by decide)
set_option maxHeartbeats 4000000 in
set_option maxRecDepth 100000 in
theorem c_X4_checkPayment (l : Launch) (hfl : l.stackTraces = false) (γ : kG) (L : List Nat) (F : kF) (o : Nat) (fs : List Value) (ho : o ∈ L) (hFo : F o = .inr (9, fs)) (a b x : Int32) : kD l yX4_checkPayment cX4_checkPayment 4 none (kRm 1 4 24) γ L F [.ref o, .int a, .int b, .int x] (kU fun L1 F1 => L = L1 ∧ F = F1 ∧ (0 ≤ a ∧ a ≤ 5) ∧ (0 ≤ b ∧ b ≤ 5) ∧ (1 ≤ x ∧ x ≤ 99999) ∧ ¬ a = b) (fun E => (E = kIO ∧ paysC a b x = 1) ∨ (E = kIA ∧ paysC a b x = 2)) := by
  refine kD_of (by decide +kernel) (Nat.le_of_ble_eq_true rfl) ?_
  intro p e s m args below meth c sz ls hargs hsz hM htab hE hX hl
  have hx := hM.1
  have hb := hM.2.1
  have hl : lv_has ls 4 [(0, .ref o), (1, .int a), (2, .int b), (3, .int x)] := hl
  refine lv_aload_n hx hb dX4_checkPayment_0 rfl (lv_at hl 0 rfl) ?_
  refine lv_iload_n hx hb dX4_checkPayment_1 rfl (lv_at hl 1 rfl) ?_
  refine x_gou (x_V (n := 1) (As := [.int a]) (rest := []) hM hE hX hl (c_X4_checkCompany l hfl γ L F o a) ho hFo rfl k_125 k_127 kp_1 k_1 k_128 ⟨rfl, by decide, by decide, by decide +kernel⟩ (by decide) rfl rfl (Nat.le_of_ble_eq_true rfl) dX4_checkPayment_2 (by decide)) hM hE hX htab ⟨rfl, rfl⟩ (fun E h => Or.inl ⟨h.1, if_neg h.2⟩) (by decide) (by decide) (fun L1 F1 H locs hp hX => ?_)
  obtain ⟨rfl, rfl, q_1⟩ := hp
  refine lv_aload_n hx hb dX4_checkPayment_5 rfl (lv_at hl 0 rfl) ?_
  refine lv_iload_n hx hb dX4_checkPayment_6 rfl (lv_at hl 2 rfl) ?_
  refine x_gou (x_V (n := 1) (As := [.int b]) (rest := []) hM hE hX hl (c_X4_checkCompany l hfl γ L F o b) ho hFo rfl k_125 k_127 kp_1 k_1 k_128 ⟨rfl, by decide, by decide, by decide +kernel⟩ (by decide) rfl rfl (Nat.le_of_ble_eq_true rfl) dX4_checkPayment_7 (by decide)) hM hE hX htab ⟨rfl, rfl⟩ (fun E h => Or.inl ⟨h.1, (if_pos q_1).trans (if_neg h.2)⟩) (by decide) (by decide) (fun L1 F1 H locs hp hX => ?_)
  obtain ⟨rfl, rfl, q_2⟩ := hp
  refine lv_iload_n hx hb dX4_checkPayment_10 rfl (lv_at hl 3 rfl) ?_
  refine lv_iconst (v := 1) hx hb dX4_checkPayment_11 (by decide) ?_
  refine lv_icmp_lt (tgt := 22) hx hb dX4_checkPayment_12 (by decide) (fun c_3 => ?_) (fun c_3 => ?_)
  · exact x_throw0 (text := "the cents are out of range") hM hE hX hl htab hfl kat_IA hE.2.1.2.2.2.2.2.2.2.2.2.2.1.2.1 (by decide +kernel) k_199 k_16 ⟨rfl, rfl⟩ (by decide) (Or.inr ⟨rfl, (if_pos q_1).trans ((if_pos q_2).trans (if_neg (fun h => absurd c_3 (Int32.not_lt.mpr h.1))))⟩) dX4_checkPayment_22 dX4_checkPayment_25 (Or.inr ⟨dX4_checkPayment_26, dX4_checkPayment_29, dX4_checkPayment_32⟩) (by decide) (by decide) (by decide)
  · refine lv_iload_n hx hb dX4_checkPayment_15 rfl (lv_at hl 3 rfl) ?_
    refine lv_ldcw hx hb hM.2.2.2.1 (hM.2.2.2.2.1 _ k_198) dX4_checkPayment_16 ?_
    refine lv_icmp_le (tgt := 33) hx hb dX4_checkPayment_19 (by decide) (fun c_4 => ?_) (fun c_4 => ?_)
    · refine lv_aload_n hx hb dX4_checkPayment_33 rfl (lv_at hl 0 rfl) ?_
      refine lv_iload_n hx hb dX4_checkPayment_34 rfl (lv_at hl 1 rfl) ?_
      refine lv_iload_n hx hb dX4_checkPayment_35 rfl (lv_at hl 2 rfl) ?_
      refine x_gou (x_V (n := 2) (As := [.int a, .int b]) (rest := []) hM hE hX hl (c_X4_checkTwoCompanies l hfl γ L F o a b) ho hFo rfl k_215 k_217 kp_3 k_1 k_218 ⟨rfl, by decide, by decide, by decide +kernel⟩ (by decide) rfl rfl (Nat.le_of_ble_eq_true rfl) dX4_checkPayment_36 (by decide)) hM hE hX htab ⟨rfl, rfl⟩ (fun E h => Or.inr ⟨h.1, (if_pos q_1).trans ((if_pos q_2).trans ((if_pos ⟨Int32.not_lt.mp c_3, c_4⟩).trans (if_pos h.2)))⟩) (by decide) (by decide) (fun L1 F1 H locs hp hX => ?_)
      obtain ⟨rfl, rfl, q_5⟩ := hp
      exact vx_ret (k_vret hM hsz hX ⟨rfl, rfl, rfl, q_1, q_2, ⟨Int32.not_lt.mp c_3, c_4⟩, q_5⟩ (by decide) (by decide) dX4_checkPayment_39)
    · exact x_throw0 (text := "the cents are out of range") hM hE hX hl htab hfl kat_IA hE.2.1.2.2.2.2.2.2.2.2.2.2.1.2.1 (by decide +kernel) k_199 k_16 ⟨rfl, rfl⟩ (by decide) (Or.inr ⟨rfl, (if_pos q_1).trans ((if_pos q_2).trans (if_neg (fun h => c_4 h.2)))⟩) dX4_checkPayment_22 dX4_checkPayment_25 (Or.inr ⟨dX4_checkPayment_26, dX4_checkPayment_29, dX4_checkPayment_32⟩) (by decide) (by decide) (by decide)
set_option maxHeartbeats 4000000 in
set_option maxRecDepth 100000 in
theorem c_X4_checkRoomForCredit (l : Launch) (hfl : l.stackTraces = false) (γ : kG) (L : List Nat) (F : kF) (o : Nat) (ad : cAd) (tg : cTg) (M : mM) (nd : Nat) (D : cD) (hR : RepC γ L F o ad tg M nd D) (hI : Inv M nd D) : kD l yX4_checkRoomForCredit cX4_checkRoomForCredit 1 none (kRm 1 1 6) γ L F [.ref o] (kU fun L1 F1 => L = L1 ∧ F = F1 ∧ cc M < 24) (fun E => E = kIS ∧ M 18 0 = 24) := by
  refine kD_of (by decide +kernel) (Nat.le_of_ble_eq_true rfl) ?_
  intro p e s m args below meth c sz ls hargs hsz hM htab hE hX hl
  have hx := hM.1
  have hb := hM.2.1
  have hl : lv_has ls 1 [(0, .ref o)] := hl
  obtain ⟨mlc, mcc, ec, elc⟩ := Lst.recv hR.2.2.2.2.2.2.1
  have hc2 := hI.2.2.1.2
  refine lv_aload_n hx hb dX4_checkRoomForCredit_0 rfl (lv_at hl 0 rfl) ?_
  refine k_get hM hE hX hR.1.1 hR.1.2.2 rfl 1 (by decide) inX4 k_99 (fun _ h => h) rfl dX4_checkRoomForCredit_1 ?_
  refine k_goi (k_V (n := 0) (As := []) (rest := []) hM hE hX hl (c_size l hR.2.2.2.2.2.2.1) mlc elc rfl k_220 k_221 k_222 k_4 k_223 ⟨rfl, by decide, by decide, by decide +kernel⟩ (by decide) rfl rfl (Nat.le_of_ble_eq_true rfl) dX4_checkRoomForCredit_4 (by decide)) hE hX (fun r L1 F1 H locs hp hX => ?_)
  obtain ⟨rfl, rfl, rfl⟩ := hp
  refine lv_bipush (v := 24) hx hb dX4_checkRoomForCredit_7 (by decide) ?_
  refine lv_icmp_lt (tgt := 23) hx hb dX4_checkRoomForCredit_9 (by decide) (fun c_1 => ?_) (fun c_1 => ?_)
  · exact vx_ret (k_vret hM hsz hX ⟨rfl, rfl, rfl, (nI_ltI (a := cc M) (b := 24) (by omega) (by decide)).mp c_1⟩ (by decide) (by decide) dX4_checkRoomForCredit_23)
  · exact x_throw0 (text := "there are 24 credits") hM hE hX hl htab hfl kat_IS hE.2.1.2.2.2.2.2.2.2.2.2.2.1.2.2 (by decide +kernel) k_264 k_17 ⟨rfl, rfl⟩ (by decide) ⟨rfl, by rw [hI.2.2.1.1, show cc M = 24 from Nat.le_antisymm hc2 (Nat.not_lt.mp fun h => c_1 (nI_lt (a := cc M) (b := 24) h (by decide)))]; rfl⟩ dX4_checkRoomForCredit_12 dX4_checkRoomForCredit_15 (Or.inr ⟨dX4_checkRoomForCredit_16, dX4_checkRoomForCredit_19, dX4_checkRoomForCredit_22⟩) (by decide) (by decide) (by decide)
set_option maxHeartbeats 4000000 in
set_option maxRecDepth 100000 in
theorem c_X4_checkRoomForDocument (l : Launch) (γ : kG) (L : List Nat) (F : kF) (o : Nat) (ad : cAd) (tg : cTg) (M : mM) (nd : Nat) (D : cD) (hR : RepC γ L F o ad tg M nd D) (hI : Inv M nd D) (hnd : nd < 512) : kC l yX4_checkRoomForDocument cX4_checkRoomForDocument 1 none (kRm 1 0 0) γ L F [.ref o] (kU fun L1 F1 => L = L1 ∧ F = F1) := by
  refine kC_of (by decide +kernel) (Nat.le_of_ble_eq_true rfl) ?_
  intro p e s m args below meth c sz ls hargs hsz hM hin hE hX hl
  have hx := hM.1
  have hb := hM.2.1
  have hl : lv_has ls 1 [(0, .ref o)] := hl
  obtain ⟨mld, mcd, ed, eld⟩ := Lst.recv hR.2.2.2.2.2.2.2.1
  refine lv_aload_n hx hb dX4_checkRoomForDocument_0 rfl (lv_at hl 0 rfl) ?_
  refine k_get hM hE hX hR.1.1 hR.1.2.2 rfl 2 (by decide) inX4 k_100 (fun _ h => h) rfl dX4_checkRoomForDocument_1 ?_
  refine k_goi (k_V (n := 0) (As := []) (rest := []) hM hE hX hl (c_size l hR.2.2.2.2.2.2.2.1) mld eld rfl k_220 k_221 k_222 k_4 k_223 ⟨rfl, by decide, by decide, by decide +kernel⟩ (by decide) rfl rfl (Nat.le_of_ble_eq_true rfl) dX4_checkRoomForDocument_4 (by decide)) hE hX (fun r L1 F1 H locs hp hX => ?_)
  obtain ⟨rfl, rfl, rfl⟩ := hp
  refine lv_sipush (v := 512) hx hb dX4_checkRoomForDocument_7 (by decide) ?_
  refine lv_icmp_lt (tgt := 24) hx hb dX4_checkRoomForDocument_10 (by decide) (fun _ => ?_) (fun c_1 => absurd c_1 (not_not_intro (nI_lt (a := nd) (b := 512) hnd (by decide))))
  exact k_vret hM hsz hX ⟨rfl, rfl, rfl⟩ (by decide) (by decide) dX4_checkRoomForDocument_24
set_option maxHeartbeats 4000000 in
set_option maxRecDepth 100000 in
theorem c_X4_isInvoice (l : Launch) (γ : kG) (L : List Nat) (F : kF) (o : Nat) (ad : cAd) (tg : cTg) (M : mM) (nd : Nat) (D : cD) (hR : RepC γ L F o ad tg M nd D) (hI : Inv M nd D) (a : Int32) : kC l yX4_isInvoice cX4_isInvoice 2 (some .boolean) (kRm 1 0 0) γ L F [.ref o, .int a] (kI fun r L1 F1 => L = L1 ∧ F = F1 ∧ ((r = 1 ∧ 0 ≤ a ∧ a ≤ M 2 0 - 1) ∨ (r = 0 ∧ ¬ (0 ≤ a ∧ a ≤ M 2 0 - 1)))) := by
  refine kC_of (by decide +kernel) (Nat.le_of_ble_eq_true rfl) ?_
  intro p e s m args below meth c sz ls hargs hsz hM hin hE hX hl
  have hx := hM.1
  have hb := hM.2.1
  have hl : lv_has ls 2 [(0, .ref o), (1, .int a)] := hl
  obtain ⟨mli, mci, ei, eli⟩ := Lst.recv hR.2.2.2.2.2.1
  refine lv_iload_n hx hb dX4_isInvoice_0 rfl (lv_at hl 1 rfl) ?_
  refine lv_if_lt (tgt := 19) hx hb dX4_isInvoice_1 (by decide) (fun c_1 => ?_) (fun c_1 => ?_)
  · refine lv_iconst (v := 0) hx hb dX4_isInvoice_19 (by decide) ?_
    exact k_zret hM rfl hsz hX ⟨_, rfl, rfl, rfl, Or.inr ⟨rfl, fun h => absurd c_1 (Int32.not_lt.mpr h.1)⟩⟩ (by decide) (by decide) dX4_isInvoice_20
  · refine lv_iload_n hx hb dX4_isInvoice_4 rfl (lv_at hl 1 rfl) ?_
    refine lv_aload_n hx hb dX4_isInvoice_5 rfl (lv_at hl 0 rfl) ?_
    refine k_get hM hE hX hR.1.1 hR.1.2.2 rfl 0 (by decide) inX4 k_98 (fun _ h => h) rfl dX4_isInvoice_6 ?_
    refine k_goi (k_V (n := 0) (As := []) (rest := [.int a]) hM hE hX hl (c_size l hR.2.2.2.2.2.1) mli eli rfl k_220 k_221 k_222 k_4 k_223 ⟨rfl, by decide, by decide, by decide +kernel⟩ (by decide) rfl rfl (Nat.le_of_ble_eq_true rfl) dX4_isInvoice_9 (by decide)) hE hX (fun r L1 F1 H locs hp hX => ?_)
    obtain ⟨rfl, rfl, rfl⟩ := hp
    refine lv_icmp_ge (tgt := 19) hx hb dX4_isInvoice_12 (by decide) (fun c_2 => ?_) (fun c_2 => ?_)
    · refine lv_iconst (v := 0) hx hb dX4_isInvoice_19 (by decide) ?_
      exact k_zret hM rfl hsz hX ⟨_, rfl, rfl, rfl, Or.inr ⟨rfl, fun h => absurd ((ltN hI.1).mpr h.2) (Int32.not_lt.mpr c_2)⟩⟩ (by decide) (by decide) dX4_isInvoice_20
    · refine lv_iconst (v := 1) hx hb dX4_isInvoice_15 (by decide) ?_
      refine lv_goto (tgt := 20) hx hb dX4_isInvoice_16 (by decide) ?_
      exact k_zret hM rfl hsz hX ⟨_, rfl, rfl, rfl, Or.inl ⟨rfl, Int32.not_lt.mp c_1, (ltN hI.1).mp (Int32.not_le.mp c_2)⟩⟩ (by decide) (by decide) dX4_isInvoice_20
set_option maxHeartbeats 4000000 in
set_option maxRecDepth 100000 in
theorem c_X4_invoiceAt (l : Launch) (hfl : l.stackTraces = false) (γ : kG) (L : List Nat) (F : kF) (o : Nat) (ad : cAd) (tg : cTg) (M : mM) (nd : Nat) (D : cD) (hR : RepC γ L F o ad tg M nd D) (hI : Inv M nd D) (a : Int32) : kD l yX4_invoiceAt cX4_invoiceAt 2 (some (.object "Invoicebridge$Invoice")) (kRm 3 1 6) γ L F [.ref o, .int a] (kR fun r L1 F1 => L = L1 ∧ F = F1 ∧ r = ad 1 (kj a) 0 ∧ 0 ≤ a ∧ a ≤ M 2 0 - 1) (fun E => E = kIO ∧ ¬ (0 ≤ a ∧ a ≤ M 2 0 - 1)) := by
  refine kD_of (by decide +kernel) (Nat.le_of_ble_eq_true rfl) ?_
  intro p e s m args below meth c sz ls hargs hsz hM htab hE hX hl
  have hx := hM.1
  have hb := hM.2.1
  have hl : lv_has ls 2 [(0, .ref o), (1, .int a)] := hl
  obtain ⟨mli, mci, ei, eli⟩ := Lst.recv hR.2.2.2.2.2.1
  refine lv_aload_n hx hb dX4_invoiceAt_0 rfl (lv_at hl 0 rfl) ?_
  refine lv_iload_n hx hb dX4_invoiceAt_1 rfl (lv_at hl 1 rfl) ?_
  refine k_goi (k_V (n := 1) (As := [.int a]) (rest := []) hM hE hX hl (c_X4_isInvoice l γ L F o ad tg M nd D hR hI a) hR.1.1 hR.1.2.2 rfl k_387 k_389 kp_12 k_1 k_390 ⟨rfl, by decide, by decide, by decide +kernel⟩ (by decide) rfl rfl (Nat.le_of_ble_eq_true rfl) dX4_invoiceAt_2 (by decide)) hE hX (fun r L1 F1 H locs hp hX => ?_)
  obtain ⟨rfl, rfl, ⟨rfl, h_1⟩ | ⟨rfl, h_1⟩⟩ := hp
  · refine lv_if_ne (tgt := 18) hx hb dX4_invoiceAt_5 (by decide) (fun _ => ?_) (fun c_2 => absurd (show (1 : Int32) = 0 from c_2) (by decide))
    have hcd : 0 ≤ a ∧ a ≤ M 2 0 - 1 := h_1
    have hix := ixM hI.1 hcd
    have hja := hix.2
    refine lv_aload_n hx hb dX4_invoiceAt_18 rfl (lv_at hl 0 rfl) ?_
    refine k_get hM hE hX hR.1.1 hR.1.2.2 rfl 0 (by decide) inX4 k_98 (fun _ h => h) rfl dX4_invoiceAt_19 ?_
    refine lv_iload_n hx hb dX4_invoiceAt_22 rfl (lv_at hl 1 rfl) ?_
    refine k_gor (k_V (n := 1) (As := [.int a]) (rest := []) hM hE hX hl (c_getx l hR.2.2.2.2.2.1 (kj a) hja a hix.1) mli eli rfl k_224 k_225 k_226 k_4 k_227 ⟨rfl, by decide, by decide, by decide +kernel⟩ (by decide) rfl rfl (Nat.le_of_ble_eq_true rfl) dX4_invoiceAt_23 (by decide)) hE hX (fun r L1 F1 H locs hp hX => ?_)
    obtain ⟨rfl, rfl, rfl⟩ := hp
    refine k_cast hM hE hX (hR.2.1 (kj a) hja).1 (hR.2.1 (kj a) hja).2.2 rfl k_238 dX4_invoiceAt_26 ?_
    exact vx_ret (k_aret hM (Or.inl ⟨_, rfl⟩) hsz hX ⟨_, rfl, rfl, rfl, rfl, hcd⟩ (by decide) (by decide) dX4_invoiceAt_29)
  · refine lv_if_ne (tgt := 18) hx hb dX4_invoiceAt_5 (by decide) (fun c_3 => absurd (show ¬ (0 : Int32) = 0 from c_3) (by decide)) (fun _ => ?_)
    exact x_throw0 (text := "there is no such invoice") hM hE hX hl htab hfl kat_IO hE.2.1.2.2.2.2.2.2.2.2.2.2.1.1 (by decide +kernel) k_129 k_12 ⟨rfl, rfl⟩ (by decide) ⟨rfl, h_1⟩ dX4_invoiceAt_8 dX4_invoiceAt_11 (Or.inl ⟨dX4_invoiceAt_12, dX4_invoiceAt_14, dX4_invoiceAt_17⟩) (by decide) (by decide) (by decide)
set_option maxHeartbeats 4000000 in
set_option maxRecDepth 100000 in
theorem c_X4_lineAt (l : Launch) (hfl : l.stackTraces = false) (γ : kG) (L : List Nat) (F : kF) (o : Nat) (ad : cAd) (tg : cTg) (M : mM) (nd : Nat) (D : cD) (hR : RepC γ L F o ad tg M nd D) (hI : Inv M nd D) (i : Nat) (hi : i < nn M) (b : Int32) : kD l yX4_lineAt cX4_lineAt 3 (some (.object "Invoicebridge$Line")) (kRm 3 1 6) γ L F [.ref o, .ref (ad 1 i 0), .int b] (kR fun r L1 F1 => L = L1 ∧ F = F1 ∧ r = ad 2 i (kj b) ∧ 0 ≤ b ∧ b ≤ M 13 i - 1) (fun E => E = kIO ∧ ¬ (0 ≤ b ∧ b ≤ M 13 i - 1)) := by
  refine kD_of (by decide +kernel) (Nat.le_of_ble_eq_true rfl) ?_
  intro p e s m args below meth c sz ls hargs hsz hM htab hE hX hl
  have hx := hM.1
  have hb := hM.2.1
  have hl : lv_has ls 3 [(0, .ref o), (1, .ref (ad 1 i 0)), (2, .int b)] := hl
  obtain ⟨ml0, mc0, e0, el0⟩ := Lst.recv (hR.2.2.2.2.2.2.2.2.1 i hi)
  refine lv_iload_n hx hb dX4_lineAt_0 rfl (lv_at hl 2 rfl) ?_
  refine lv_if_lt (tgt := 15) hx hb dX4_lineAt_1 (by decide) (fun c_1 => ?_) (fun c_1 => ?_)
  · exact x_throw0 (text := "the invoice has no such line") hM hE hX hl htab hfl kat_IO hE.2.1.2.2.2.2.2.2.2.2.2.2.1.1 (by decide +kernel) k_129 k_12 ⟨rfl, rfl⟩ (by decide) ⟨rfl, fun h => absurd c_1 (Int32.not_lt.mpr h.1)⟩ dX4_lineAt_15 dX4_lineAt_18 (Or.inr ⟨dX4_lineAt_19, dX4_lineAt_22, dX4_lineAt_25⟩) (by decide) (by decide) (by decide)
  · refine lv_iload_n hx hb dX4_lineAt_4 rfl (lv_at hl 2 rfl) ?_
    refine lv_aload_n hx hb dX4_lineAt_5 rfl (lv_at hl 1 rfl) ?_
    refine k_get hM hE hX (hR.2.1 i hi).1 (hR.2.1 i hi).2.2 rfl 4 (by decide) inX2 k_529 (fun _ h => h) rfl dX4_lineAt_6 ?_
    refine k_goi (k_V (n := 0) (As := []) (rest := [.int b]) hM hE hX hl (c_size l (hR.2.2.2.2.2.2.2.2.1 i hi)) ml0 el0 rfl k_220 k_221 k_222 k_4 k_223 ⟨rfl, by decide, by decide, by decide +kernel⟩ (by decide) rfl rfl (Nat.le_of_ble_eq_true rfl) dX4_lineAt_9 (by decide)) hE hX (fun r L1 F1 H locs hp hX => ?_)
    obtain ⟨rfl, rfl, rfl⟩ := hp
    refine lv_icmp_lt (tgt := 26) hx hb dX4_lineAt_12 (by decide) (fun c_2 => ?_) (fun c_2 => ?_)
    · have hcd : 0 ≤ b ∧ b ≤ M 13 i - 1 := ⟨Int32.not_lt.mp c_1, (ltK (hI.2.1 i hi)).mp c_2⟩
      have hix := ixL (hI.2.1 i hi) hcd
      have hjb := hix.2
      refine lv_aload_n hx hb dX4_lineAt_26 rfl (lv_at hl 1 rfl) ?_
      refine k_get hM hE hX (hR.2.1 i hi).1 (hR.2.1 i hi).2.2 rfl 4 (by decide) inX2 k_529 (fun _ h => h) rfl dX4_lineAt_27 ?_
      refine lv_iload_n hx hb dX4_lineAt_30 rfl (lv_at hl 2 rfl) ?_
      refine k_gor (k_V (n := 1) (As := [.int b]) (rest := []) hM hE hX hl (c_getx l (hR.2.2.2.2.2.2.2.2.1 i hi) (kj b) hjb b hix.1) ml0 el0 rfl k_224 k_225 k_226 k_4 k_227 ⟨rfl, by decide, by decide, by decide +kernel⟩ (by decide) rfl rfl (Nat.le_of_ble_eq_true rfl) dX4_lineAt_31 (by decide)) hE hX (fun r L1 F1 H locs hp hX => ?_)
      obtain ⟨rfl, rfl, rfl⟩ := hp
      refine k_cast hM hE hX (hR.2.2.1 i hi (kj b) hjb).1 (hR.2.2.1 i hi (kj b) hjb).2.2 rfl k_410 dX4_lineAt_34 ?_
      exact vx_ret (k_aret hM (Or.inl ⟨_, rfl⟩) hsz hX ⟨_, rfl, rfl, rfl, rfl, hcd⟩ (by decide) (by decide) dX4_lineAt_37)
    · exact x_throw0 (text := "the invoice has no such line") hM hE hX hl htab hfl kat_IO hE.2.1.2.2.2.2.2.2.2.2.2.2.1.1 (by decide +kernel) k_129 k_12 ⟨rfl, rfl⟩ (by decide) ⟨rfl, fun h => c_2 ((ltK (hI.2.1 i hi)).mpr h.2)⟩ dX4_lineAt_15 dX4_lineAt_18 (Or.inr ⟨dX4_lineAt_19, dX4_lineAt_22, dX4_lineAt_25⟩) (by decide) (by decide) (by decide)
