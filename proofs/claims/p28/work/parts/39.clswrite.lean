set_option maxHeartbeats 4000000 in
set_option maxRecDepth 100000 in
theorem c_X4_accept (l : Launch) (hfl : l.stackTraces = false) (γ : kG) (L : List Nat) (F : kF) (o : Nat) (ad : cAd) (tg : cTg) (M : mM) (nd : Nat) (D : cD) (hR : RepC γ L F o ad tg M nd D) (hI : Inv M nd D) (a : Int32) : kD l yX4_accept cX4_accept 3 (some .int) (kRm 4 2 12) γ L F [.ref o, .int a] (kI fun r L1 F1 => After γ L o nd (acceptM M a) r L1 F1) (fun E => (E = kIO ∧ Thr M (acceptM M a).2 1) ∨ (E = kIS ∧ Thr M (acceptM M a).2 2)) := by
  refine kD_of (by decide +kernel) (Nat.le_of_ble_eq_true rfl) ?_
  intro p e s m args below meth c sz ls hargs hsz hM htab hE hX hl
  have hx := hM.1
  have hb := hM.2.1
  have hl : lv_has ls 3 [(0, .ref o), (1, .int a)] := hl
  have fo : F o = .inr (9, [.ref (ad 5 0 0), .ref (ad 5 1 0), .ref (ad 5 2 0), .ref (ad 7 0 0), .ref (ad 8 0 0), .int (M 0 0)]) := hR.1.2.2
  refine lv_aload_n hx hb dX4_accept_0 rfl (lv_at hl 0 rfl) ?_
  refine lv_iload_n hx hb dX4_accept_1 rfl (lv_at hl 1 rfl) ?_
  refine x_gor (x_V (n := 1) (As := [.int a]) (rest := []) hM hE hX hl (c_X4_invoiceAt l hfl γ L F o ad tg M nd D hR hI a) hR.1.1 fo rfl k_383 k_385 kp_11 k_1 k_386 ⟨rfl, by decide, by decide, by decide +kernel⟩ (by decide) rfl rfl (Nat.le_of_ble_eq_true rfl) dX4_accept_2 (by decide)) hM hE hX htab ⟨rfl, rfl⟩ (fun E h => Or.inl ⟨h.1, by rw [show acceptM M a = (0, (mset M 24 0 1)) from ((if_neg h.2).trans rfl)]; exact Thr1 M 1⟩) (by decide) (by decide) (fun q L1 F1 H locs hp hX => ?_)
  obtain ⟨rfl, rfl, rfl, hcd⟩ := hp
  have hja := (ixM hI.1 hcd).2
  have fi : F (ad 1 (kj a) 0) = .inr (7, [.int (M 3 (kj a)), .int (M 4 (kj a)), .int (M 5 (kj a)), .int (M 7 (kj a)), .ref (ad 5 (3 + (kj a)) 0), .int (M 6 (kj a)), .int (aDay M (kj a)), .int (hasC M (nI (kj a))), .int (M 12 (kj a)), .int (M 9 (kj a)), .int (M 10 (kj a)), .int (M 11 (kj a))]) := (hR.2.1 (kj a) hja).2.2
  refine lv_astore_n (lv' := [(2, .ref (ad 1 (kj a) 0)), (0, .ref o), (1, .int a)]) hx hb dX4_accept_5 rfl hl (by decide) rfl (fun ls hl => ?_)
  refine lv_aload_n hx hb dX4_accept_6 rfl (lv_at hl 1 rfl) ?_
  refine lv_aload_n hx hb dX4_accept_7 rfl (lv_at hl 0 rfl) ?_
  refine x_gou (x_V (n := 1) (As := [.ref (ad 1 (kj a) 0)]) (rest := []) hM hE hX hl (c_X4_checkSent l hfl γ L F o ad tg M nd D hR hI (kj a) hja) hR.1.1 fo rfl k_597 k_599 kp_21 k_1 k_600 ⟨rfl, by decide, by decide, by decide +kernel⟩ (by decide) rfl rfl (Nat.le_of_ble_eq_true rfl) dX4_accept_8 (by decide)) hM hE hX htab ⟨rfl, rfl⟩ (fun E h => Or.inr ⟨h.1, by rw [show acceptM M a = (0, (mset M 24 0 2)) from ((if_pos hcd).trans ((if_neg h.2).trans rfl))]; exact Thr1 M 2⟩) (by decide) (by decide) (fun L1 F1 H locs hp hX => ?_)
  obtain ⟨rfl, rfl, h6⟩ := hp
  refine lv_aload_n hx hb dX4_accept_11 rfl (lv_at hl 0 rfl) ?_
  refine lv_iconst (v := 1) hx hb dX4_accept_12 (by decide) ?_
  refine k_put hM hE hX (hR.2.1 (kj a) hja).1 fi rfl 5 (by decide) inX2 tyX2 tyX2_ok nmX2 k_532 (fun _ h => h) (Or.inl rfl) rfl rfl (Nat.le_of_ble_eq_true rfl) dX4_accept_13 (fun H locs hX => ?_)
  obtain ⟨F1, hX, eF1⟩ : ∃ F9 : kF, kX γ _ s _ F9 H locs ∧ F9 = va_up F (ad 1 (kj a) 0) (.inr (7, [.int (M 3 (kj a)), .int (M 4 (kj a)), .int (M 5 (kj a)), .int (M 7 (kj a)), .ref (ad 5 (3 + (kj a)) 0), .int 1, .int (aDay M (kj a)), .int (hasC M (nI (kj a))), .int (M 12 (kj a)), .int (M 9 (kj a)), .int (M 10 (kj a)), .int (M 11 (kj a))])) := ⟨_, hX, rfl⟩
  have f1_o : F1 o = .inr (9, [.ref (ad 5 0 0), .ref (ad 5 1 0), .ref (ad 5 2 0), .ref (ad 7 0 0), .ref (ad 8 0 0), .int (M 0 0)]) := by rw [eF1, va_up_ne _ _ (fun h9 => by have h8 := fo; rw [h9, fi] at h8; cases h8)]; exact fo
  have f1__ad_1__kj_a__0_ : F1 (ad 1 (kj a) 0) = .inr (7, [.int (M 3 (kj a)), .int (M 4 (kj a)), .int (M 5 (kj a)), .int (M 7 (kj a)), .ref (ad 5 (3 + (kj a)) 0), .int 1, .int (aDay M (kj a)), .int (hasC M (nI (kj a))), .int (M 12 (kj a)), .int (M 9 (kj a)), .int (M 10 (kj a)), .int (M 11 (kj a))]) := by rw [eF1]; exact va_up_self _ _ _
  refine lv_aload_n hx hb dX4_accept_16 rfl (lv_at hl 0 rfl) ?_
  refine lv_aload_n hx hb dX4_accept_17 rfl (lv_at hl 1 rfl) ?_
  refine k_get hM hE hX hR.1.1 f1_o rfl 5 (by decide) inX4 k_103 (fun _ h => h) rfl dX4_accept_18 ?_
  refine k_put hM hE hX (hR.2.1 (kj a) hja).1 f1__ad_1__kj_a__0_ rfl 6 (by decide) inX2 tyX2 tyX2_ok nmX2 k_534 (fun _ h => h) (Or.inl rfl) rfl rfl (Nat.le_of_ble_eq_true rfl) dX4_accept_21 (fun H locs hX => ?_)
  obtain ⟨F2, hX, eF2⟩ : ∃ F9 : kF, kX γ _ s _ F9 H locs ∧ F9 = va_up F1 (ad 1 (kj a) 0) (.inr (7, [.int (M 3 (kj a)), .int (M 4 (kj a)), .int (M 5 (kj a)), .int (M 7 (kj a)), .ref (ad 5 (3 + (kj a)) 0), .int 1, .int (M 0 0), .int (hasC M (nI (kj a))), .int (M 12 (kj a)), .int (M 9 (kj a)), .int (M 10 (kj a)), .int (M 11 (kj a))])) := ⟨_, hX, rfl⟩
  have f2_o : F2 o = .inr (9, [.ref (ad 5 0 0), .ref (ad 5 1 0), .ref (ad 5 2 0), .ref (ad 7 0 0), .ref (ad 8 0 0), .int (M 0 0)]) := by rw [eF2, va_up_ne _ _ (fun h9 => by have h8 := f1_o; rw [h9, f1__ad_1__kj_a__0_] at h8; cases h8)]; exact f1_o
  have f2__ad_1__kj_a__0_ : F2 (ad 1 (kj a) 0) = .inr (7, [.int (M 3 (kj a)), .int (M 4 (kj a)), .int (M 5 (kj a)), .int (M 7 (kj a)), .ref (ad 5 (3 + (kj a)) 0), .int 1, .int (M 0 0), .int (hasC M (nI (kj a))), .int (M 12 (kj a)), .int (M 9 (kj a)), .int (M 10 (kj a)), .int (M 11 (kj a))]) := by rw [eF2]; exact va_up_self _ _ _
  refine lv_aload_n hx hb dX4_accept_24 rfl (lv_at hl 0 rfl) ?_
  have hR2 : RepC γ L F2 o ad tg (mset (mset (mset M 24 0 0) 6 (kj a) 1) 8 (kj a) (M 0 0)) nd D := by
    rw [eF2, eF1, bx_uu]
    exact hR.winv hja (by unfold iC aDay; rw [show (mset (mset (mset M 24 0 0) 6 (kj a) 1) 8 (kj a) (M 0 0)) 6 (kj a) = 1 from if_pos rfl, show (mset (mset (mset M 24 0 0) 6 (kj a) 1) 8 (kj a) (M 0 0)) 8 (kj a) = M 0 0 from if_pos rfl]; rfl) rfl (fun _ => rfl) rfl rfl (fun i' hne => by unfold iC aDay; rw [show (mset (mset (mset M 24 0 0) 6 (kj a) 1) 8 (kj a) (M 0 0)) 6 i' = M 6 i' from if_neg hne, show (mset (mset (mset M 24 0 0) 6 (kj a) 1) 8 (kj a) (M 0 0)) 8 i' = M 8 i' from if_neg hne]; rfl) (fun _ _ => rfl) (fun _ => rfl) rfl rfl rfl
  have hI2 : Inv (mset (mset (mset M 24 0 0) 6 (kj a) 1) 8 (kj a) (M 0 0)) nd D := hI
  refine k_goi (k_V (n := 0) (As := []) (rest := []) hM hE hX hl (c_X2_owedNow l γ L F2 o ad tg (mset (mset (mset M 24 0 0) 6 (kj a) 1) 8 (kj a) (M 0 0)) nd D hR2 hI2 (kj a) hja) (hR.2.1 (kj a) hja).1 f2__ad_1__kj_a__0_ rfl k_239 k_240 k_241 k_18 k_242 ⟨rfl, by decide, by decide, by decide +kernel⟩ (by decide) rfl rfl (Nat.le_of_ble_eq_true rfl) dX4_accept_25 (by decide)) hE hX (fun r L1 F1 H locs hp hX => ?_)
  obtain ⟨rfl, rfl, rfl⟩ := hp
  exact vx_ret (k_iret hM hsz hX ⟨_, rfl, (mset (mset (mset M 24 0 0) 6 (kj a) 1) 8 (kj a) (M 0 0)), ad, tg, nd, D, ((if_pos hcd).trans ((if_pos h6).trans rfl)), rfl, fun _ h => h, hR2, hI2, by omega⟩ (by decide) (by decide) dX4_accept_28)
set_option maxHeartbeats 4000000 in
set_option maxRecDepth 100000 in
theorem c_X4_refuse (l : Launch) (hfl : l.stackTraces = false) (γ : kG) (L : List Nat) (F : kF) (o : Nat) (ad : cAd) (tg : cTg) (M : mM) (nd : Nat) (D : cD) (hR : RepC γ L F o ad tg M nd D) (hI : Inv M nd D) (a : Int32) : kD l yX4_refuse cX4_refuse 3 (some .int) (kRm 4 2 12) γ L F [.ref o, .int a] (kI fun r L1 F1 => After γ L o nd (refuseM M a) r L1 F1) (fun E => (E = kIO ∧ Thr M (refuseM M a).2 1) ∨ (E = kIS ∧ Thr M (refuseM M a).2 2)) := by
  refine kD_of (by decide +kernel) (Nat.le_of_ble_eq_true rfl) ?_
  intro p e s m args below meth c sz ls hargs hsz hM htab hE hX hl
  have hx := hM.1
  have hb := hM.2.1
  have hl : lv_has ls 3 [(0, .ref o), (1, .int a)] := hl
  have fo : F o = .inr (9, [.ref (ad 5 0 0), .ref (ad 5 1 0), .ref (ad 5 2 0), .ref (ad 7 0 0), .ref (ad 8 0 0), .int (M 0 0)]) := hR.1.2.2
  refine lv_aload_n hx hb dX4_refuse_0 rfl (lv_at hl 0 rfl) ?_
  refine lv_iload_n hx hb dX4_refuse_1 rfl (lv_at hl 1 rfl) ?_
  refine x_gor (x_V (n := 1) (As := [.int a]) (rest := []) hM hE hX hl (c_X4_invoiceAt l hfl γ L F o ad tg M nd D hR hI a) hR.1.1 fo rfl k_383 k_385 kp_11 k_1 k_386 ⟨rfl, by decide, by decide, by decide +kernel⟩ (by decide) rfl rfl (Nat.le_of_ble_eq_true rfl) dX4_refuse_2 (by decide)) hM hE hX htab ⟨rfl, rfl⟩ (fun E h => Or.inl ⟨h.1, by rw [show refuseM M a = (0, (mset M 24 0 1)) from ((if_neg h.2).trans rfl)]; exact Thr1 M 1⟩) (by decide) (by decide) (fun q L1 F1 H locs hp hX => ?_)
  obtain ⟨rfl, rfl, rfl, hcd⟩ := hp
  have hja := (ixM hI.1 hcd).2
  have fi : F (ad 1 (kj a) 0) = .inr (7, [.int (M 3 (kj a)), .int (M 4 (kj a)), .int (M 5 (kj a)), .int (M 7 (kj a)), .ref (ad 5 (3 + (kj a)) 0), .int (M 6 (kj a)), .int (aDay M (kj a)), .int (hasC M (nI (kj a))), .int (M 12 (kj a)), .int (M 9 (kj a)), .int (M 10 (kj a)), .int (M 11 (kj a))]) := (hR.2.1 (kj a) hja).2.2
  refine lv_astore_n (lv' := [(2, .ref (ad 1 (kj a) 0)), (0, .ref o), (1, .int a)]) hx hb dX4_refuse_5 rfl hl (by decide) rfl (fun ls hl => ?_)
  refine lv_aload_n hx hb dX4_refuse_6 rfl (lv_at hl 1 rfl) ?_
  refine lv_aload_n hx hb dX4_refuse_7 rfl (lv_at hl 0 rfl) ?_
  refine x_gou (x_V (n := 1) (As := [.ref (ad 1 (kj a) 0)]) (rest := []) hM hE hX hl (c_X4_checkSent l hfl γ L F o ad tg M nd D hR hI (kj a) hja) hR.1.1 fo rfl k_597 k_599 kp_21 k_1 k_600 ⟨rfl, by decide, by decide, by decide +kernel⟩ (by decide) rfl rfl (Nat.le_of_ble_eq_true rfl) dX4_refuse_8 (by decide)) hM hE hX htab ⟨rfl, rfl⟩ (fun E h => Or.inr ⟨h.1, by rw [show refuseM M a = (0, (mset M 24 0 2)) from ((if_pos hcd).trans ((if_neg h.2).trans rfl))]; exact Thr1 M 2⟩) (by decide) (by decide) (fun L1 F1 H locs hp hX => ?_)
  obtain ⟨rfl, rfl, h6⟩ := hp
  refine lv_aload_n hx hb dX4_refuse_11 rfl (lv_at hl 0 rfl) ?_
  refine lv_iconst (v := 2) hx hb dX4_refuse_12 (by decide) ?_
  refine k_put hM hE hX (hR.2.1 (kj a) hja).1 fi rfl 5 (by decide) inX2 tyX2 tyX2_ok nmX2 k_532 (fun _ h => h) (Or.inl rfl) rfl rfl (Nat.le_of_ble_eq_true rfl) dX4_refuse_13 (fun H locs hX => ?_)
  obtain ⟨F1, hX, eF1⟩ : ∃ F9 : kF, kX γ _ s _ F9 H locs ∧ F9 = va_up F (ad 1 (kj a) 0) (.inr (7, [.int (M 3 (kj a)), .int (M 4 (kj a)), .int (M 5 (kj a)), .int (M 7 (kj a)), .ref (ad 5 (3 + (kj a)) 0), .int 2, .int (aDay M (kj a)), .int (hasC M (nI (kj a))), .int (M 12 (kj a)), .int (M 9 (kj a)), .int (M 10 (kj a)), .int (M 11 (kj a))])) := ⟨_, hX, rfl⟩
  have f1_o : F1 o = .inr (9, [.ref (ad 5 0 0), .ref (ad 5 1 0), .ref (ad 5 2 0), .ref (ad 7 0 0), .ref (ad 8 0 0), .int (M 0 0)]) := by rw [eF1, va_up_ne _ _ (fun h9 => by have h8 := fo; rw [h9, fi] at h8; cases h8)]; exact fo
  have f1__ad_1__kj_a__0_ : F1 (ad 1 (kj a) 0) = .inr (7, [.int (M 3 (kj a)), .int (M 4 (kj a)), .int (M 5 (kj a)), .int (M 7 (kj a)), .ref (ad 5 (3 + (kj a)) 0), .int 2, .int (aDay M (kj a)), .int (hasC M (nI (kj a))), .int (M 12 (kj a)), .int (M 9 (kj a)), .int (M 10 (kj a)), .int (M 11 (kj a))]) := by rw [eF1]; exact va_up_self _ _ _
  refine lv_aload_n hx hb dX4_refuse_16 rfl (lv_at hl 0 rfl) ?_
  have hR2 : RepC γ L F1 o ad tg (mset (mset M 24 0 0) 6 (kj a) 2) nd D := by
    rw [eF1]
    exact hR.winv hja (by unfold iC aDay; rw [show (mset (mset M 24 0 0) 6 (kj a) 2) 6 (kj a) = 2 from if_pos rfl, h6]; rfl) rfl (fun _ => rfl) rfl rfl (fun i' hne => by unfold iC aDay; rw [show (mset (mset M 24 0 0) 6 (kj a) 2) 6 i' = M 6 i' from if_neg hne]; rfl) (fun _ _ => rfl) (fun _ => rfl) rfl rfl rfl
  have hI2 : Inv (mset (mset M 24 0 0) 6 (kj a) 2) nd D := hI
  refine k_goi (k_V (n := 0) (As := []) (rest := []) hM hE hX hl (c_X2_costNow l γ L F1 o ad tg (mset (mset M 24 0 0) 6 (kj a) 2) nd D hR2 hI2 (kj a) hja) (hR.2.1 (kj a) hja).1 f1__ad_1__kj_a__0_ rfl k_391 k_392 k_393 k_18 k_394 ⟨rfl, by decide, by decide, by decide +kernel⟩ (by decide) rfl rfl (Nat.le_of_ble_eq_true rfl) dX4_refuse_17 (by decide)) hE hX (fun r L1 F1 H locs hp hX => ?_)
  obtain ⟨rfl, rfl, rfl⟩ := hp
  exact vx_ret (k_iret hM hsz hX ⟨_, rfl, (mset (mset M 24 0 0) 6 (kj a) 2), ad, tg, nd, D, ((if_pos hcd).trans ((if_pos h6).trans rfl)), rfl, fun _ h => h, hR2, hI2, by omega⟩ (by decide) (by decide) dX4_refuse_20)
set_option maxHeartbeats 4000000 in
set_option maxRecDepth 100000 in
theorem c_X4_dispute (l : Launch) (hfl : l.stackTraces = false) (γ : kG) (L : List Nat) (F : kF) (o : Nat) (ad : cAd) (tg : cTg) (M : mM) (nd : Nat) (D : cD) (hR : RepC γ L F o ad tg M nd D) (hI : Inv M nd D) (a b : Int32) : kD l yX4_dispute cX4_dispute 5 (some .int) (kRm 4 3 18) γ L F [.ref o, .int a, .int b] (kI fun r L1 F1 => After γ L o nd (disputeM M a b) r L1 F1) (fun E => (E = kIO ∧ Thr M (disputeM M a b).2 1) ∨ (E = kIS ∧ Thr M (disputeM M a b).2 2)) := by
  refine kD_of (by decide +kernel) (Nat.le_of_ble_eq_true rfl) ?_
  intro p e s m args below meth c sz ls hargs hsz hM htab hE hX hl
  have hx := hM.1
  have hb := hM.2.1
  have hl : lv_has ls 5 [(0, .ref o), (1, .int a), (2, .int b)] := hl
  have fo : F o = .inr (9, [.ref (ad 5 0 0), .ref (ad 5 1 0), .ref (ad 5 2 0), .ref (ad 7 0 0), .ref (ad 8 0 0), .int (M 0 0)]) := hR.1.2.2
  refine lv_aload_n hx hb dX4_dispute_0 rfl (lv_at hl 0 rfl) ?_
  refine lv_iload_n hx hb dX4_dispute_1 rfl (lv_at hl 1 rfl) ?_
  refine x_gor (x_V (n := 1) (As := [.int a]) (rest := []) hM hE hX hl (c_X4_invoiceAt l hfl γ L F o ad tg M nd D hR hI a) hR.1.1 fo rfl k_383 k_385 kp_11 k_1 k_386 ⟨rfl, by decide, by decide, by decide +kernel⟩ (by decide) rfl rfl (Nat.le_of_ble_eq_true rfl) dX4_dispute_2 (by decide)) hM hE hX htab ⟨rfl, rfl⟩ (fun E h => Or.inl ⟨h.1, by rw [show disputeM M a b = (0, (mset M 24 0 1)) from ((if_neg (fun h9 => h.2 h9.1)).trans rfl)]; exact Thr1 M 1⟩) (by decide) (by decide) (fun q L1 F1 H locs hp hX => ?_)
  obtain ⟨rfl, rfl, rfl, hcd⟩ := hp
  have hja := (ixM hI.1 hcd).2
  have fi : F (ad 1 (kj a) 0) = .inr (7, [.int (M 3 (kj a)), .int (M 4 (kj a)), .int (M 5 (kj a)), .int (M 7 (kj a)), .ref (ad 5 (3 + (kj a)) 0), .int (M 6 (kj a)), .int (aDay M (kj a)), .int (hasC M (nI (kj a))), .int (M 12 (kj a)), .int (M 9 (kj a)), .int (M 10 (kj a)), .int (M 11 (kj a))]) := (hR.2.1 (kj a) hja).2.2
  refine lv_astore_n (lv' := [(3, .ref (ad 1 (kj a) 0)), (0, .ref o), (1, .int a), (2, .int b)]) hx hb dX4_dispute_5 rfl hl (by decide) rfl (fun ls hl => ?_)
  refine lv_aload_n hx hb dX4_dispute_6 rfl (lv_at hl 1 rfl) ?_
  refine lv_aload_n hx hb dX4_dispute_7 rfl (lv_at hl 0 rfl) ?_
  refine lv_iload_n hx hb dX4_dispute_8 rfl (lv_at hl 3 rfl) ?_
  refine x_gor (x_V (n := 2) (As := [.ref (ad 1 (kj a) 0), .int b]) (rest := []) hM hE hX hl (c_X4_lineAt l hfl γ L F o ad tg M nd D hR hI (kj a) hja b) hR.1.1 fo rfl k_405 k_407 kp_13 k_1 k_408 ⟨rfl, by decide, by decide, by decide +kernel⟩ (by decide) rfl rfl (Nat.le_of_ble_eq_true rfl) dX4_dispute_9 (by decide)) hM hE hX htab ⟨rfl, rfl⟩ (fun E h => Or.inl ⟨h.1, by rw [show disputeM M a b = (0, (mset M 24 0 1)) from ((if_neg (fun h9 => h.2 h9.2)).trans rfl)]; exact Thr1 M 1⟩) (by decide) (by decide) (fun q L1 F1 H locs hp hX => ?_)
  obtain ⟨rfl, rfl, rfl, hcl⟩ := hp
  have hjb := (ixL (hI.2.1 _ hja) hcl).2
  have fl : F (ad 2 (kj a) (kj b)) = .inr (8, [.int (M 15 (3 * (kj a) + (kj b))), .int (M 16 (3 * (kj a) + (kj b))), .int (M 14 (3 * (kj a) + (kj b))), .int (M 17 (3 * (kj a) + (kj b)))]) := (hR.2.2.1 (kj a) hja (kj b) hjb).2.2
  refine lv_astore (lv' := [(4, .ref (ad 2 (kj a) (kj b))), (3, .ref (ad 1 (kj a) 0)), (0, .ref o), (1, .int a), (2, .int b)]) hx hb dX4_dispute_12 hl (by decide) rfl (fun ls hl => ?_)
  refine lv_aload_n hx hb dX4_dispute_14 rfl (lv_at hl 1 rfl) ?_
  refine k_get hM hE hX (hR.2.1 (kj a) hja).1 fi rfl 5 (by decide) inX2 k_532 (fun _ h => h) rfl dX4_dispute_15 ?_
  refine lv_iconst (v := 1) hx hb dX4_dispute_18 (by decide) ?_
  refine lv_icmp_eq (tgt := 32) hx hb dX4_dispute_19 (by decide) (fun c_1 => ?_) (fun c_1 => ?_)
  · refine lv_aload hx hb dX4_dispute_32 (lv_at hl 0 rfl) ?_
    refine k_get hM hE hX (hR.2.2.1 (kj a) hja (kj b) hjb).1 fl rfl 3 (by decide) inX3 k_583 (fun _ h => h) rfl dX4_dispute_34 ?_
    refine lv_if_eq (tgt := 50) hx hb dX4_dispute_37 (by decide) (fun c_2 => ?_) (fun c_2 => ?_)
    · refine lv_aload hx hb dX4_dispute_50 (lv_at hl 0 rfl) ?_
      refine k_get hM hE hX (hR.2.2.1 (kj a) hja (kj b) hjb).1 fl rfl 2 (by decide) inX3 k_580 (fun _ h => h) rfl dX4_dispute_52 ?_
      refine lv_if_ne (tgt := 68) hx hb dX4_dispute_55 (by decide) (fun c_3 => ?_) (fun c_3 => ?_)
      · refine lv_aload hx hb dX4_dispute_68 (lv_at hl 0 rfl) ?_
        refine lv_iconst (v := 1) hx hb dX4_dispute_70 (by decide) ?_
        refine k_put hM hE hX (hR.2.2.1 (kj a) hja (kj b) hjb).1 fl rfl 3 (by decide) inX3 tyX3 tyX3_ok nmX3 k_583 (fun _ h => h) (Or.inl rfl) rfl rfl (Nat.le_of_ble_eq_true rfl) dX4_dispute_71 (fun H locs hX => ?_)
        obtain ⟨F1, hX, eF1⟩ : ∃ F9 : kF, kX γ _ s _ F9 H locs ∧ F9 = va_up F (ad 2 (kj a) (kj b)) (.inr (8, [.int (M 15 (3 * (kj a) + (kj b))), .int (M 16 (3 * (kj a) + (kj b))), .int (M 14 (3 * (kj a) + (kj b))), .int 1])) := ⟨_, hX, rfl⟩
        have f1_o : F1 o = .inr (9, [.ref (ad 5 0 0), .ref (ad 5 1 0), .ref (ad 5 2 0), .ref (ad 7 0 0), .ref (ad 8 0 0), .int (M 0 0)]) := by rw [eF1, va_up_ne _ _ (fun h9 => by have h8 := fo; rw [h9, fl] at h8; cases h8)]; exact fo
        have f1__ad_1__kj_a__0_ : F1 (ad 1 (kj a) 0) = .inr (7, [.int (M 3 (kj a)), .int (M 4 (kj a)), .int (M 5 (kj a)), .int (M 7 (kj a)), .ref (ad 5 (3 + (kj a)) 0), .int (M 6 (kj a)), .int (aDay M (kj a)), .int (hasC M (nI (kj a))), .int (M 12 (kj a)), .int (M 9 (kj a)), .int (M 10 (kj a)), .int (M 11 (kj a))]) := by rw [eF1, va_up_ne _ _ (fun h9 => by have h8 := fi; rw [h9, fl] at h8; cases h8)]; exact fi
        have f1__ad_2__kj_a___kj_b__ : F1 (ad 2 (kj a) (kj b)) = .inr (8, [.int (M 15 (3 * (kj a) + (kj b))), .int (M 16 (3 * (kj a) + (kj b))), .int (M 14 (3 * (kj a) + (kj b))), .int 1]) := by rw [eF1]; exact va_up_self _ _ _
        refine lv_aload_n hx hb dX4_dispute_74 rfl (lv_at hl 1 rfl) ?_
        have hR2 : RepC γ L F1 o ad tg (mset (mset M 24 0 0) 17 (3 * kj a + kj b) 1) nd D := by
          rw [eF1]
          exact hR.wline hja hjb (by unfold lC; rw [show (mset (mset M 24 0 0) 17 (3 * kj a + kj b) 1) 17 (3 * kj a + kj b) = 1 from if_pos rfl]; rfl) rfl (fun _ => rfl) rfl rfl (fun _ => rfl) (fun i' j' hi' hj' hne => by unfold lC; rw [show (mset (mset M 24 0 0) 17 (3 * kj a + kj b) 1) 17 (3 * i' + j') = M 17 (3 * i' + j') from if_neg (fun e9 => hne (by have := (hI.2.1 i' hi').2; have := (hI.2.1 _ hja).2; constructor <;> omega))]; rfl) (fun _ => rfl) rfl rfl rfl
        have hI2 : Inv (mset (mset M 24 0 0) 17 (3 * kj a + kj b) 1) nd D := hI.s17 hja hjb (Or.inr rfl)
        refine k_goi (k_V (n := 0) (As := []) (rest := []) hM hE hX hl (c_X2_owedNow l γ L F1 o ad tg (mset (mset M 24 0 0) 17 (3 * kj a + kj b) 1) nd D hR2 hI2 (kj a) hja) (hR.2.1 (kj a) hja).1 f1__ad_1__kj_a__0_ rfl k_239 k_240 k_241 k_18 k_242 ⟨rfl, by decide, by decide, by decide +kernel⟩ (by decide) rfl rfl (Nat.le_of_ble_eq_true rfl) dX4_dispute_75 (by decide)) hE hX (fun r L1 F1 H locs hp hX => ?_)
        obtain ⟨rfl, rfl, rfl⟩ := hp
        exact vx_ret (k_iret hM hsz hX ⟨_, rfl, (mset (mset M 24 0 0) 17 (3 * kj a + kj b) 1), ad, tg, nd, D, ((if_pos ⟨hcd, hcl⟩).trans ((if_pos c_1).trans ((if_pos c_2).trans ((if_neg c_3).trans rfl)))), rfl, fun _ h => h, hR2, hI2, by omega⟩ (by decide) (by decide) dX4_dispute_78)
      · exact x_throw0 (text := "the amount of the line is 0") hM hE hX hl htab hfl kat_IS hE.2.1.2.2.2.2.2.2.2.2.2.2.1.2.2 (by decide +kernel) k_264 k_17 ⟨rfl, rfl⟩ (by decide) (Or.inr ⟨rfl, by rw [show disputeM M a b = (0, (mset M 24 0 2)) from ((if_pos ⟨hcd, hcl⟩).trans ((if_pos c_1).trans ((if_pos c_2).trans ((if_pos c_3).trans rfl))))]; exact Thr1 M 2⟩) dX4_dispute_58 dX4_dispute_61 (Or.inl ⟨dX4_dispute_62, dX4_dispute_64, dX4_dispute_67⟩) (by decide) (by decide) (by decide)
    · exact x_throw0 (text := "the line is disputed") hM hE hX hl htab hfl kat_IS hE.2.1.2.2.2.2.2.2.2.2.2.2.1.2.2 (by decide +kernel) k_264 k_17 ⟨rfl, rfl⟩ (by decide) (Or.inr ⟨rfl, by rw [show disputeM M a b = (0, (mset M 24 0 2)) from ((if_pos ⟨hcd, hcl⟩).trans ((if_pos c_1).trans ((if_neg c_2).trans rfl)))]; exact Thr1 M 2⟩) dX4_dispute_40 dX4_dispute_43 (Or.inl ⟨dX4_dispute_44, dX4_dispute_46, dX4_dispute_49⟩) (by decide) (by decide) (by decide)
  · exact x_throw0 (text := "the invoice is not accepted") hM hE hX hl htab hfl kat_IS hE.2.1.2.2.2.2.2.2.2.2.2.2.1.2.2 (by decide +kernel) k_264 k_17 ⟨rfl, rfl⟩ (by decide) (Or.inr ⟨rfl, by rw [show disputeM M a b = (0, (mset M 24 0 2)) from ((if_pos ⟨hcd, hcl⟩).trans ((if_neg c_1).trans rfl))]; exact Thr1 M 2⟩) dX4_dispute_22 dX4_dispute_25 (Or.inl ⟨dX4_dispute_26, dX4_dispute_28, dX4_dispute_31⟩) (by decide) (by decide) (by decide)
theorem day_ok {x a : Int32} (hx : okI x 1000) (ha : 1 ≤ a ∧ a ≤ 60) (h : x + a ≤ 999) : okI (x + a) 1000 := by
  have h1 := okI_lit (n := 60) (by decide) (Int32.le_trans (show (0 : Int32) ≤ 1 by decide) ha.1) ha.2
  have h2 := okI_add (m := 999) (n := 60) hx h1 (by decide)
  refine ⟨h2.1, ?_⟩
  have h3 := h2.1
  rw [h3] at h
  have := (nI_leI (a := kj (x + a)) (b := 999) (by have := h2.2; omega) (by decide)).mp h
  omega
set_option maxHeartbeats 4000000 in
set_option maxRecDepth 100000 in
theorem c_X4_pass (l : Launch) (hfl : l.stackTraces = false) (γ : kG) (L : List Nat) (F : kF) (o : Nat) (ad : cAd) (tg : cTg) (M : mM) (nd : Nat) (D : cD) (hR : RepC γ L F o ad tg M nd D) (hI : Inv M nd D) (a : Int32) : kD l yX4_pass cX4_pass 2 (some .int) (kRm 1 1 6) γ L F [.ref o, .int a] (kI fun r L1 F1 => After γ L o nd (passM M a) r L1 F1) (fun E => (E = kIA ∧ Thr M (passM M a).2 1) ∨ (E = kIS ∧ Thr M (passM M a).2 2)) := by
  refine kD_of (by decide +kernel) (Nat.le_of_ble_eq_true rfl) ?_
  intro p e s m args below meth c sz ls hargs hsz hM htab hE hX hl
  have hx := hM.1
  have hb := hM.2.1
  have hl : lv_has ls 2 [(0, .ref o), (1, .int a)] := hl
  have fo : F o = .inr (9, [.ref (ad 5 0 0), .ref (ad 5 1 0), .ref (ad 5 2 0), .ref (ad 7 0 0), .ref (ad 8 0 0), .int (M 0 0)]) := hR.1.2.2
  refine lv_iload_n hx hb dX4_pass_0 rfl (lv_at hl 1 rfl) ?_
  refine lv_iconst (v := 1) hx hb dX4_pass_1 (by decide) ?_
  refine lv_icmp_lt (tgt := 11) hx hb dX4_pass_2 (by decide) (fun c_1 => ?_) (fun c_1 => ?_)
  · exact x_throw0 (text := "the days are out of range") hM hE hX hl htab hfl kat_IA hE.2.1.2.2.2.2.2.2.2.2.2.2.1.2.1 (by decide +kernel) k_199 k_16 ⟨rfl, rfl⟩ (by decide) (Or.inl ⟨rfl, by rw [show passM M a = (0, (mset M 24 0 1)) from ((if_neg (fun h => absurd c_1 (Int32.not_lt.mpr h.1))).trans rfl)]; exact Thr1 M 1⟩) dX4_pass_11 dX4_pass_14 (Or.inl ⟨dX4_pass_15, dX4_pass_17, dX4_pass_20⟩) (by decide) (by decide) (by decide)
  · refine lv_iload_n hx hb dX4_pass_5 rfl (lv_at hl 1 rfl) ?_
    refine lv_bipush (v := 60) hx hb dX4_pass_6 (by decide) ?_
    refine lv_icmp_le (tgt := 21) hx hb dX4_pass_8 (by decide) (fun c_2 => ?_) (fun c_2 => ?_)
    · refine lv_aload_n hx hb dX4_pass_21 rfl (lv_at hl 0 rfl) ?_
      refine k_get hM hE hX hR.1.1 fo rfl 5 (by decide) inX4 k_103 (fun _ h => h) rfl dX4_pass_22 ?_
      refine lv_iload_n hx hb dX4_pass_25 rfl (lv_at hl 1 rfl) ?_
      refine lv_iadd hx hb dX4_pass_26 ?_
      refine lv_sipush (v := 999) hx hb dX4_pass_27 (by decide) ?_
      refine lv_icmp_le (tgt := 43) hx hb dX4_pass_30 (by decide) (fun c_3 => ?_) (fun c_3 => ?_)
      · refine lv_aload_n hx hb dX4_pass_43 rfl (lv_at hl 0 rfl) ?_
        refine lv_dup hx hb dX4_pass_44 rfl ?_
        refine k_get hM hE hX hR.1.1 fo rfl 5 (by decide) inX4 k_103 (fun _ h => h) rfl dX4_pass_45 ?_
        refine lv_iload_n hx hb dX4_pass_48 rfl (lv_at hl 1 rfl) ?_
        refine lv_iadd hx hb dX4_pass_49 ?_
        refine k_put hM hE hX hR.1.1 fo rfl 5 (by decide) inX4 tyX4 tyX4_ok nmX4 k_103 (fun _ h => h) (Or.inl rfl) rfl rfl (Nat.le_of_ble_eq_true rfl) dX4_pass_50 (fun H locs hX => ?_)
        obtain ⟨F1, hX, eF1⟩ : ∃ F9 : kF, kX γ _ s _ F9 H locs ∧ F9 = va_up F o (.inr (9, [.ref (ad 5 0 0), .ref (ad 5 1 0), .ref (ad 5 2 0), .ref (ad 7 0 0), .ref (ad 8 0 0), .int ((M 0 0) + a)])) := ⟨_, hX, rfl⟩
        have f1_o : F1 o = .inr (9, [.ref (ad 5 0 0), .ref (ad 5 1 0), .ref (ad 5 2 0), .ref (ad 7 0 0), .ref (ad 8 0 0), .int ((M 0 0) + a)]) := by rw [eF1]; exact va_up_self _ _ _
        refine lv_aload_n hx hb dX4_pass_53 rfl (lv_at hl 0 rfl) ?_
        refine k_get hM hE hX hR.1.1 f1_o rfl 5 (by decide) inX4 k_103 (fun _ h => h) rfl dX4_pass_54 ?_
        refine k_goi (k_S (n := 1) (As := [.int ((M 0 0) + a)]) (rest := []) hM hE hX hl (c_X4_monthOf l γ L F1 ((M 0 0) + a)) k_376 k_377 k_1 k_378 ⟨by decide, by decide, by decide +kernel⟩ (by decide) rfl rfl (Nat.le_of_ble_eq_true rfl) dX4_pass_57 (by decide)) hE hX (fun r L1 F1 H locs hp hX => ?_)
        obtain ⟨rfl, rfl, rfl⟩ := hp
        have hR2 : RepC γ L F1 o ad tg (mset (mset M 24 0 0) 0 0 ((M 0 0) + a)) nd D := by
          rw [eF1]
          exact hR.wtoday (by unfold oC; rw [mset_s]) rfl (fun _ => rfl) rfl (fun _ => rfl) (fun _ _ => rfl) (fun _ => rfl) rfl rfl rfl
        have hI2 : Inv (mset (mset M 24 0 0) 0 0 ((M 0 0) + a)) nd D := hI.day (day_ok hI.2.2.2.2.2.2.1 ⟨Int32.not_lt.mp c_1, c_2⟩ c_3)
        exact vx_ret (k_iret hM hsz hX ⟨_, rfl, (mset (mset M 24 0 0) 0 0 ((M 0 0) + a)), ad, tg, nd, D, ((if_pos ⟨Int32.not_lt.mp c_1, c_2⟩).trans ((if_pos c_3).trans rfl)), rfl, fun _ h => h, hR2, hI2, by omega⟩ (by decide) (by decide) dX4_pass_60)
      · exact x_throw0 (text := "it would be above the day 999") hM hE hX hl htab hfl kat_IS hE.2.1.2.2.2.2.2.2.2.2.2.2.1.2.2 (by decide +kernel) k_264 k_17 ⟨rfl, rfl⟩ (by decide) (Or.inr ⟨rfl, by rw [show passM M a = (0, (mset M 24 0 2)) from ((if_pos ⟨Int32.not_lt.mp c_1, c_2⟩).trans ((if_neg c_3).trans rfl))]; exact Thr1 M 2⟩) dX4_pass_33 dX4_pass_36 (Or.inl ⟨dX4_pass_37, dX4_pass_39, dX4_pass_42⟩) (by decide) (by decide) (by decide)
    · exact x_throw0 (text := "the days are out of range") hM hE hX hl htab hfl kat_IA hE.2.1.2.2.2.2.2.2.2.2.2.2.1.2.1 (by decide +kernel) k_199 k_16 ⟨rfl, rfl⟩ (by decide) (Or.inl ⟨rfl, by rw [show passM M a = (0, (mset M 24 0 1)) from ((if_neg (fun h => c_2 h.2)).trans rfl)]; exact Thr1 M 1⟩) dX4_pass_11 dX4_pass_14 (Or.inl ⟨dX4_pass_15, dX4_pass_17, dX4_pass_20⟩) (by decide) (by decide) (by decide)
set_option maxHeartbeats 4000000 in
set_option maxRecDepth 100000 in
theorem c_X4_type (l : Launch) (hfl : l.stackTraces = false) (γ : kG) (L : List Nat) (F : kF) (o : Nat) (ad : cAd) (tg : cTg) (M : mM) (nd : Nat) (D : cD) (hR : RepC γ L F o ad tg M nd D) (hI : Inv M nd D) (a : Int32) : kD l yX4_type cX4_type 2 (some .int) (kRm 3 1 6) γ L F [.ref o, .int a] (kI fun r L1 F1 => After γ L o nd (typeM M a) r L1 F1) (fun E => (E = kIA ∧ Thr M (typeM M a).2 1) ∨ (E = kIS ∧ Thr M (typeM M a).2 2)) := by
  refine kD_of (by decide +kernel) (Nat.le_of_ble_eq_true rfl) ?_
  intro p e s m args below meth c sz ls hargs hsz hM htab hE hX hl
  have hx := hM.1
  have hb := hM.2.1
  have hl : lv_has ls 2 [(0, .ref o), (1, .int a)] := hl
  obtain ⟨ml, msb, fsb⟩ := sb_recv hR
  have hd2 := hI.2.2.2.1.2
  have fsb2 : F (ad 8 0 0) = .inr (1, [.ref (ad 9 0 0), .int 0, .int ml, .int (nI (dd M))]) := by rw [fsb, hI.2.2.2.1.1]
  refine lv_iload_n hx hb dX4_type_0 rfl (lv_at hl 1 rfl) ?_
  refine lv_bipush (v := 32) hx hb dX4_type_1 (by decide) ?_
  refine lv_icmp_lt (tgt := 12) hx hb dX4_type_3 (by decide) (fun c_1 => ?_) (fun c_1 => ?_)
  · exact x_throw0 (text := "the sign is out of range") hM hE hX hl htab hfl kat_IA hE.2.1.2.2.2.2.2.2.2.2.2.2.1.2.1 (by decide +kernel) k_199 k_16 ⟨rfl, rfl⟩ (by decide) (Or.inl ⟨rfl, by rw [show typeM M a = (0, (mset M 24 0 1)) from ((if_neg (fun h => absurd c_1 (Int32.not_lt.mpr h.1))).trans rfl)]; exact Thr1 M 1⟩) dX4_type_12 dX4_type_15 (Or.inl ⟨dX4_type_16, dX4_type_18, dX4_type_21⟩) (by decide) (by decide) (by decide)
  · refine lv_iload_n hx hb dX4_type_6 rfl (lv_at hl 1 rfl) ?_
    refine lv_bipush (v := 126) hx hb dX4_type_7 (by decide) ?_
    refine lv_icmp_le (tgt := 22) hx hb dX4_type_9 (by decide) (fun c_2 => ?_) (fun c_2 => ?_)
    · refine lv_aload_n hx hb dX4_type_22 rfl (lv_at hl 0 rfl) ?_
      refine k_get hM hE hX hR.1.1 hR.1.2.2 rfl 4 (by decide) inX4 k_102 (fun _ h => h) rfl dX4_type_23 ?_
      refine k_goi (k_V (n := 0) (As := []) (rest := []) hM hE hX hl (c_dLen l hR hI) msb fsb rfl k_678 k_679 k_680 k_6 k_681 ⟨rfl, by decide, by decide, by decide +kernel⟩ (by decide) rfl rfl (Nat.le_of_ble_eq_true rfl) dX4_type_26 (by decide)) hE hX (fun r L1 F1 H locs hp hX => ?_)
      obtain ⟨rfl, rfl, rfl⟩ := hp
      refine lv_bipush (v := 10) hx hb dX4_type_29 (by decide) ?_
      refine lv_icmp_lt (tgt := 44) hx hb dX4_type_31 (by decide) (fun c_3 => ?_) (fun c_3 => ?_)
      · have hdd : dd M < 10 := (nI_ltI (a := dd M) (b := 10) (by omega) (by decide)).mp c_3
        have hta : okI a 127 := okI_lit (n := 126) (by decide) (Int32.le_trans (show (0 : Int32) ≤ 32 by decide) (Int32.not_lt.mp c_1)) c_2
        have hta2 := hta.2
        refine lv_aload_n hx hb dX4_type_44 rfl (lv_at hl 0 rfl) ?_
        refine k_get hM hE hX hR.1.1 hR.1.2.2 rfl 4 (by decide) inX4 k_102 (fun _ h => h) rfl dX4_type_45 ?_
        refine lv_iload_n hx hb dX4_type_48 rfl (lv_at hl 1 rfl) ?_
        refine lv_i2c (v := (nI (kj a))) hx hb dX4_type_49 (by have h9 := sb_i2c (t := kj a) (by omega); rw [← hta.1] at h9; rw [h9]; exact hta.1) ?_
        refine k_gor (k_V (n := 1) (As := [.int (nI (kj a))]) (rest := []) hM hE hX hl (c_J4_append_cf468 l γ L F (ad 8 0 0) (ad 9 0 0) (dd M) ml msb fsb2 hR.2.2.2.2.2.2.2.2.2.2.2.1 (M 23) hR.2.2.2.2.2.2.2.2.2.2.2.2.2 (by omega) (kj a) (by omega)) msb fsb rfl k_686 k_687 k_688 k_6 k_689 ⟨rfl, by decide, by decide, by decide +kernel⟩ (by decide) rfl rfl (Nat.le_of_ble_eq_true rfl) dX4_type_50 (by decide)) hE hX (fun r L1 F1 H locs hp hX => ?_)
        obtain ⟨rfl, hLL, eF⟩ := hp
        obtain rfl : L = L1 := hLL.symm
        have hR2 : RepC γ L F1 o ad tg (mset (mset (mset M 24 0 0) 23 (dd M) a) 22 0 ((M 22 0) + 1)) nd D := by
          rw [eF]
          exact (hR.wsb (M' := mset M 22 0 ((M 22 0) + 1)) (by rw [mset_s, hI.2.2.2.1.1, nI_1]) rfl (fun _ => rfl) rfl rfl (fun _ => rfl) (fun _ _ => rfl) (fun _ => rfl) rfl rfl).wby (by rw [← hta.1]; rfl) rfl (fun _ => rfl) rfl rfl (fun _ => rfl) (fun _ _ => rfl) (fun _ => rfl) rfl rfl
        have hI2 : Inv (mset (mset (mset M 24 0 0) 23 (dd M) a) 22 0 ((M 22 0) + 1)) nd D := hI.typ hta hdd
        obtain ⟨ml2, msb2, fsb3⟩ := sb_recv hR2
        refine lv_pop hx hb dX4_type_53 rfl ?_
        refine lv_aload_n hx hb dX4_type_54 rfl (lv_at hl 0 rfl) ?_
        refine k_get hM hE hX hR2.1.1 hR2.1.2.2 rfl 4 (by decide) inX4 k_102 (fun _ h => h) rfl dX4_type_55 ?_
        refine k_goi (k_V (n := 0) (As := []) (rest := []) hM hE hX hl (c_dLen l hR2 hI2) msb2 fsb3 rfl k_678 k_679 k_680 k_6 k_681 ⟨rfl, by decide, by decide, by decide +kernel⟩ (by decide) rfl rfl (Nat.le_of_ble_eq_true rfl) dX4_type_58 (by decide)) hE hX (fun r L1 F1 H locs hp hX => ?_)
        obtain ⟨rfl, rfl, rfl⟩ := hp
        exact vx_ret (k_iret hM hsz hX ⟨_, rfl, (mset (mset (mset M 24 0 0) 23 (dd M) a) 22 0 ((M 22 0) + 1)), ad, tg, nd, D, (by rw [show nI (dd (mset (mset (mset M 24 0 0) 23 (dd M) a) 22 0 ((M 22 0) + 1))) = (M 22 0) + 1 from hI2.2.2.2.1.1.symm.trans (mset_s _ 22 0 _)]; exact ((if_pos ⟨Int32.not_lt.mp c_1, c_2⟩).trans ((if_neg (fun h9 => by rw [hI.2.2.2.1.1] at h9; exact absurd ((nI_eq (a := dd M) (b := 10) (by omega) (by decide)).mp h9) (by omega))).trans rfl))), rfl, fun _ h => h, hR2, hI2, by omega⟩ (by decide) (by decide) dX4_type_61)
      · exact x_throw0 (text := "the draft has 10 signs") hM hE hX hl htab hfl kat_IS hE.2.1.2.2.2.2.2.2.2.2.2.2.1.2.2 (by decide +kernel) k_264 k_17 ⟨rfl, rfl⟩ (by decide) (Or.inr ⟨rfl, by rw [show typeM M a = (0, (mset M 24 0 2)) from ((if_pos ⟨Int32.not_lt.mp c_1, c_2⟩).trans ((if_pos (by rw [hI.2.2.2.1.1, Nat.le_antisymm hd2 (Nat.not_lt.mp fun h => c_3 (nI_lt (a := dd M) (b := 10) h (by decide)))]; rfl)).trans rfl))]; exact Thr1 M 2⟩) dX4_type_34 dX4_type_37 (Or.inl ⟨dX4_type_38, dX4_type_40, dX4_type_43⟩) (by decide) (by decide) (by decide)
    · exact x_throw0 (text := "the sign is out of range") hM hE hX hl htab hfl kat_IA hE.2.1.2.2.2.2.2.2.2.2.2.2.1.2.1 (by decide +kernel) k_199 k_16 ⟨rfl, rfl⟩ (by decide) (Or.inl ⟨rfl, by rw [show typeM M a = (0, (mset M 24 0 1)) from ((if_neg (fun h => c_2 h.2)).trans rfl)]; exact Thr1 M 1⟩) dX4_type_12 dX4_type_15 (Or.inl ⟨dX4_type_16, dX4_type_18, dX4_type_21⟩) (by decide) (by decide) (by decide)
set_option maxHeartbeats 4000000 in
set_option maxRecDepth 100000 in
theorem c_X4_clear (l : Launch) (γ : kG) (L : List Nat) (F : kF) (o : Nat) (ad : cAd) (tg : cTg) (M : mM) (nd : Nat) (D : cD) (hR : RepC γ L F o ad tg M nd D) (hI : Inv M nd D) : kC l yX4_clear cX4_clear 2 (some .int) (kRm 3 0 0) γ L F [.ref o] (kI fun r L1 F1 => After γ L o nd (clearM M) r L1 F1) := by
  refine kC_of (by decide +kernel) (Nat.le_of_ble_eq_true rfl) ?_
  intro p e s m args below meth c sz ls hargs hsz hM hin hE hX hl
  have hx := hM.1
  have hb := hM.2.1
  have hl : lv_has ls 2 [(0, .ref o)] := hl
  obtain ⟨ml, msb, fsb⟩ := sb_recv hR
  have hd2 := hI.2.2.2.1.2
  have fsb2 : F (ad 8 0 0) = .inr (1, [.ref (ad 9 0 0), .int 0, .int ml, .int (nI (dd M))]) := by rw [fsb, hI.2.2.2.1.1]
  refine lv_aload_n hx hb dX4_clear_0 rfl (lv_at hl 0 rfl) ?_
  refine k_get hM hE hX hR.1.1 hR.1.2.2 rfl 4 (by decide) inX4 k_102 (fun _ h => h) rfl dX4_clear_1 ?_
  refine k_goi (k_V (n := 0) (As := []) (rest := []) hM hE hX hl (c_dLen l hR hI) msb fsb rfl k_678 k_679 k_680 k_6 k_681 ⟨rfl, by decide, by decide, by decide +kernel⟩ (by decide) rfl rfl (Nat.le_of_ble_eq_true rfl) dX4_clear_4 (by decide)) hE hX (fun r L1 F1 H locs hp hX => ?_)
  obtain ⟨rfl, rfl, rfl⟩ := hp
  refine lv_istore_n (lv' := [(1, .int (nI (dd M))), (0, .ref o)]) hx hb dX4_clear_7 rfl hl (by decide) rfl (fun ls hl => ?_)
  refine lv_aload_n hx hb dX4_clear_8 rfl (lv_at hl 1 rfl) ?_
  refine k_get hM hE hX hR.1.1 hR.1.2.2 rfl 4 (by decide) inX4 k_102 (fun _ h => h) rfl dX4_clear_9 ?_
  refine lv_iconst (v := 0) hx hb dX4_clear_12 (by decide) ?_
  refine k_gou (k_V (n := 1) (As := [.int 0]) (rest := []) hM hE hX hl (c_J4_setLength_d00df l γ L F (ad 8 0 0) (ad 9 0 0) (dd M) ml msb fsb2 hR.2.2.2.2.2.2.2.2.2.2.2.1 (M 23) hR.2.2.2.2.2.2.2.2.2.2.2.2.2 (by omega)) msb fsb rfl k_795 k_796 k_797 k_6 k_798 ⟨rfl, by decide, by decide, by decide +kernel⟩ (by decide) rfl rfl (Nat.le_of_ble_eq_true rfl) dX4_clear_13 (by decide)) hE hX (fun L1 F1 H locs hp hX => ?_)
  obtain ⟨ml1, hLL, eF⟩ := hp
  obtain rfl : L = L1 := hLL.symm
  have hR2 : RepC γ L F1 o ad tg (mset (mset M 24 0 0) 22 0 0) nd D := by
    rw [eF]
    exact hR.wsb rfl rfl (fun _ => rfl) rfl rfl (fun _ => rfl) (fun _ _ => rfl) (fun _ => rfl) rfl rfl
  have hI2 : Inv (mset (mset M 24 0 0) 22 0 0) nd D := hI.clr
  refine lv_iload_n hx hb dX4_clear_16 rfl (lv_at hl 0 rfl) ?_
  exact k_iret hM hsz hX ⟨_, rfl, (mset (mset M 24 0 0) 22 0 0), ad, tg, nd, D, (by show ((M 22 0), _) = _; rw [hI.2.2.2.1.1]), rfl, fun _ h => h, hR2, hI2, by omega⟩ (by decide) (by decide) dX4_clear_17
