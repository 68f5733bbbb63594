theorem off_frun (M : mM) (z : Int32) : ∀ n j, frun (mset M 24 0 z) n j = frun M n j
  | 0, _ => rfl
  | n + 1, j => by
    have ih := off_frun M z n (j + 1)
    unfold frun
    rw [ih]
    rfl
theorem off_faultM (M : mM) (z : Int32) : faultM (mset M 24 0 z) = faultM M := off_frun M z (dd M + 1) 0
set_option maxHeartbeats 4000000 in
set_option maxRecDepth 100000 in
theorem c_X4_day (l : Launch) (γ : kG) (L : List Nat) (F : kF) (o : Nat) (ad : cAd) (tg : cTg) (M : mM) (nd : Nat) (D : cD) (hR : RepC γ L F o ad tg M nd D) (hI : Inv M nd D) : kC l yX4_day cX4_day 1 (some .int) (kRm 0 0 0) γ L F [.ref o] (kI fun r L1 F1 => L = L1 ∧ F = F1 ∧ dayM M = (r, mset M 24 0 0)) := by
  refine kC_of (by decide +kernel) (Nat.le_of_ble_eq_true rfl) ?_
  intro p e s m args below meth c sz ls hargs hsz hM hin hE hX hl
  have hx := hM.1
  have hb := hM.2.1
  have hl : lv_has ls 1 [(0, .ref o)] := hl
  refine lv_aload_n hx hb dX4_day_0 rfl (lv_at hl 0 rfl) ?_
  refine k_get hM hE hX hR.1.1 hR.1.2.2 rfl 5 (by decide) inX4 k_103 (fun _ h => h) rfl dX4_day_1 ?_
  exact k_iret hM hsz hX ⟨_, rfl, rfl, rfl, rfl⟩ (by decide) (by decide) dX4_day_4
set_option maxHeartbeats 4000000 in
set_option maxRecDepth 100000 in
theorem c_X4_fault (l : Launch) (γ : kG) (L : List Nat) (F : kF) (o : Nat) (ad : cAd) (tg : cTg) (M : mM) (nd : Nat) (D : cD) (hR : RepC γ L F o ad tg M nd D) (hI : Inv M nd D) : kC l yX4_fault cX4_fault 1 (some .int) (kRm 5 0 0) γ L F [.ref o] (kI fun r L1 F1 => L = L1 ∧ F = F1 ∧ faultC M = (r, mset M 24 0 0)) := by
  refine kC_of (by decide +kernel) (Nat.le_of_ble_eq_true rfl) ?_
  intro p e s m args below meth c sz ls hargs hsz hM hin hE hX hl
  have hx := hM.1
  have hb := hM.2.1
  have hl : lv_has ls 1 [(0, .ref o)] := hl
  refine lv_aload_n hx hb dX4_fault_0 rfl (lv_at hl 0 rfl) ?_
  refine k_goi (k_V (n := 0) (As := []) (rest := []) hM hE hX hl (c_X4_faultOfDraft l γ L F o ad tg M nd D hR hI) hR.1.1 hR.1.2.2 rfl k_768 k_770 kp_25 k_1 k_771 ⟨rfl, by decide, by decide, by decide +kernel⟩ (by decide) rfl rfl (Nat.le_of_ble_eq_true rfl) dX4_fault_1 (by decide)) hE hX (fun r L1 F1 H locs hp hX => ?_)
  obtain ⟨rfl, rfl, rfl⟩ := hp
  exact k_iret hM hsz hX ⟨_, rfl, rfl, rfl, by show (faultM (mset M 24 0 0), mset M 24 0 0) = _; rw [off_faultM, fault_eq hI.2.2.2.1]⟩ (by decide) (by decide) dX4_fault_4
set_option maxHeartbeats 4000000 in
set_option maxRecDepth 100000 in
theorem c_X4_cash (l : Launch) (hfl : l.stackTraces = false) (γ : kG) (L : List Nat) (F : kF) (o : Nat) (ad : cAd) (tg : cTg) (M : mM) (nd : Nat) (D : cD) (hR : RepC γ L F o ad tg M nd D) (hI : Inv M nd D) (a : Int32) : kD l yX4_cash cX4_cash 2 (some .int) (kRm 0 1 6) γ L F [.ref o, .int a] (kI fun r L1 F1 => L = L1 ∧ F = F1 ∧ cashM M a = (r, mset M 24 0 0)) (fun E => (E = kIO ∧ Thr M (cashM M a).2 1)) := by
  refine kD_of (by decide +kernel) (Nat.le_of_ble_eq_true rfl) ?_
  intro p e s m args below meth c sz ls hargs hsz hM htab hE hX hl
  have hx := hM.1
  have hb := hM.2.1
  have hl : lv_has ls 2 [(0, .ref o), (1, .int a)] := hl
  refine lv_iload_n hx hb dX4_cash_0 rfl (lv_at hl 1 rfl) ?_
  refine lv_if_lt (tgt := 13) hx hb dX4_cash_1 (by decide) (fun c_1 => ?_) (fun c_1 => ?_)
  · exact x_throw0 (text := "there is no such company") hM hE hX hl htab hfl kat_IO hE.2.1.2.2.2.2.2.2.2.2.2.2.1.1 (by decide +kernel) k_129 k_12 ⟨rfl, rfl⟩ (by decide) (⟨rfl, by rw [show cashM M a = (0, mset M 24 0 1) from ((if_neg (fun h => absurd c_1 (Int32.not_lt.mpr h.1))).trans rfl)]; exact Thr1 M 1⟩) dX4_cash_13 dX4_cash_16 (Or.inl ⟨dX4_cash_17, dX4_cash_19, dX4_cash_22⟩) (by decide) (by decide) (by decide)
  · refine lv_iload_n hx hb dX4_cash_4 rfl (lv_at hl 1 rfl) ?_
    refine lv_aload_n hx hb dX4_cash_5 rfl (lv_at hl 0 rfl) ?_
    refine k_get hM hE hX hR.1.1 hR.1.2.2 rfl 3 (by decide) inX4 k_101 (fun _ h => h) rfl dX4_cash_6 ?_
    refine k_alen (t0 := 1) hM hE hX hR.2.2.2.2.2.2.2.2.2.1.1 hR.2.2.2.2.2.2.2.2.2.1.2.2 rfl rfl dX4_cash_9 ?_
    refine lv_icmp_lt (tgt := 23) hx hb dX4_cash_10 (by decide) (fun c_2 => ?_) (fun c_2 => ?_)
    · have hco : (0 ≤ a ∧ a ≤ 5) := ⟨Int32.not_lt.mp c_1, lt_6.mp c_2⟩
      refine lv_aload_n hx hb dX4_cash_23 rfl (lv_at hl 0 rfl) ?_
      refine k_get hM hE hX hR.1.1 hR.1.2.2 rfl 3 (by decide) inX4 k_101 (fun _ h => h) rfl dX4_cash_24 ?_
      refine lv_iload_n hx hb dX4_cash_27 rfl (lv_at hl 1 rfl) ?_
      refine k_iald hM hE hX hR.2.2.2.2.2.2.2.2.2.1.1 hR.2.2.2.2.2.2.2.2.2.1.2.2 (by rw [(okI_5 hco).1]; exact vp_in_nI (okI_5 hco).2 (by decide)) dX4_cash_28 ?_
      exact vx_ret (k_iret hM hsz hX ⟨_, rfl, rfl, rfl, ((if_pos hco).trans rfl)⟩ (by decide) (by decide) dX4_cash_29)
    · exact x_throw0 (text := "there is no such company") hM hE hX hl htab hfl kat_IO hE.2.1.2.2.2.2.2.2.2.2.2.2.1.1 (by decide +kernel) k_129 k_12 ⟨rfl, rfl⟩ (by decide) (⟨rfl, by rw [show cashM M a = (0, mset M 24 0 1) from ((if_neg (fun h => c_2 (lt_6.mpr h.2))).trans rfl)]; exact Thr1 M 1⟩) dX4_cash_13 dX4_cash_16 (Or.inl ⟨dX4_cash_17, dX4_cash_19, dX4_cash_22⟩) (by decide) (by decide) (by decide)
set_option maxHeartbeats 4000000 in
set_option maxRecDepth 100000 in
theorem c_X4_about (l : Launch) (hfl : l.stackTraces = false) (γ : kG) (L : List Nat) (F : kF) (o : Nat) (ad : cAd) (tg : cTg) (M : mM) (nd : Nat) (D : cD) (hR : RepC γ L F o ad tg M nd D) (hI : Inv M nd D) (a b : Int32) : kD l yX4_about cX4_about 4 (some .int) (kRm 4 2 12) γ L F [.ref o, .int a, .int b] (kI fun r L1 F1 => L = L1 ∧ F = F1 ∧ aboutM M a b = (r, mset M 24 0 0)) (fun E => (E = kIO ∧ Thr M (aboutM M a b).2 1) ∨ (E = kIA ∧ Thr M (aboutM M a b).2 2)) := by
  refine kD_of (by decide +kernel) (Nat.le_of_ble_eq_true rfl) ?_
  intro p e s m args below meth c sz ls hargs hsz hM htab hE hX hl
  have hx := hM.1
  have hb := hM.2.1
  have hl : lv_has ls 4 [(0, .ref o), (1, .int a), (2, .int b)] := hl
  refine lv_aload_n hx hb dX4_about_0 rfl (lv_at hl 0 rfl) ?_
  refine lv_iload_n hx hb dX4_about_1 rfl (lv_at hl 1 rfl) ?_
  refine x_gor (x_V (n := 1) (As := [.int a]) (rest := []) hM hE hX hl (c_X4_invoiceAt l hfl γ L F o ad tg M nd D hR hI a) hR.1.1 hR.1.2.2 rfl k_383 k_385 kp_11 k_1 k_386 ⟨rfl, by decide, by decide, by decide +kernel⟩ (by decide) rfl rfl (Nat.le_of_ble_eq_true rfl) dX4_about_2 (by decide)) hM hE hX htab ⟨rfl, rfl⟩ (fun E h => Or.inl ⟨h.1, by rw [show aboutM M a b = (0, mset M 24 0 1) from ((if_neg h.2).trans rfl)]; exact Thr1 M 1⟩) (by decide) (by decide) (fun q L1 F1 H locs hp hX => ?_)
  obtain ⟨rfl, rfl, rfl, hcd⟩ := hp
  have hja := (ixM hI.1 hcd).2
  refine lv_astore_n (lv' := [(3, .ref (ad 1 (kj a) 0)), (0, .ref o), (1, .int a), (2, .int b)]) hx hb dX4_about_5 rfl hl (by decide) rfl (fun ls hl => ?_)
  refine lv_iload_n hx hb dX4_about_6 rfl (lv_at hl 3 rfl) ?_
  by_cases hsw : 0 ≤ b ∧ b ≤ 9
  · rcases sw9 hsw with rfl | rfl | rfl | rfl | rfl | rfl | rfl | rfl | rfl | rfl
    · refine lv_tableIn (off := 53) (tgt := 60) hx hb dX4_about_7 (by decide) (by decide) (by rfl) (by decide) ?_
      refine lv_aload_n hx hb dX4_about_60 rfl (lv_at hl 0 rfl) ?_
      refine k_get hM hE hX (hR.2.1 (kj a) hja).1 (hR.2.1 (kj a) hja).2.2 rfl 5 (by decide) inX2 k_532 (fun _ h => h) rfl dX4_about_61 ?_
      exact vx_ret (k_iret hM hsz hX ⟨_, rfl, rfl, rfl, ((if_pos hcd).trans ((if_pos ⟨by decide, by decide⟩).trans ((if_pos rfl).trans rfl)))⟩ (by decide) (by decide) dX4_about_64)
    · refine lv_tableIn (off := 58) (tgt := 65) hx hb dX4_about_7 (by decide) (by decide) (by rfl) (by decide) ?_
      refine lv_aload_n hx hb dX4_about_65 rfl (lv_at hl 0 rfl) ?_
      refine k_get hM hE hX (hR.2.1 (kj a) hja).1 (hR.2.1 (kj a) hja).2.2 rfl 0 (by decide) inX2 k_520 (fun _ h => h) rfl dX4_about_66 ?_
      exact vx_ret (k_iret hM hsz hX ⟨_, rfl, rfl, rfl, ((if_pos hcd).trans ((if_pos ⟨by decide, by decide⟩).trans ((if_neg (by decide)).trans ((if_pos rfl).trans rfl))))⟩ (by decide) (by decide) dX4_about_69)
    · refine lv_tableIn (off := 63) (tgt := 70) hx hb dX4_about_7 (by decide) (by decide) (by rfl) (by decide) ?_
      refine lv_aload_n hx hb dX4_about_70 rfl (lv_at hl 0 rfl) ?_
      refine k_get hM hE hX (hR.2.1 (kj a) hja).1 (hR.2.1 (kj a) hja).2.2 rfl 1 (by decide) inX2 k_523 (fun _ h => h) rfl dX4_about_71 ?_
      exact vx_ret (k_iret hM hsz hX ⟨_, rfl, rfl, rfl, ((if_pos hcd).trans ((if_pos ⟨by decide, by decide⟩).trans ((if_neg (by decide)).trans ((if_neg (by decide)).trans ((if_pos rfl).trans rfl)))))⟩ (by decide) (by decide) dX4_about_74)
    · refine lv_tableIn (off := 68) (tgt := 75) hx hb dX4_about_7 (by decide) (by decide) (by rfl) (by decide) ?_
      refine lv_aload_n hx hb dX4_about_75 rfl (lv_at hl 0 rfl) ?_
      refine k_get hM hE hX (hR.2.1 (kj a) hja).1 (hR.2.1 (kj a) hja).2.2 rfl 9 (by decide) inX2 k_540 (fun _ h => h) rfl dX4_about_76 ?_
      exact vx_ret (k_iret hM hsz hX ⟨_, rfl, rfl, rfl, ((if_pos hcd).trans ((if_pos ⟨by decide, by decide⟩).trans ((if_neg (by decide)).trans ((if_neg (by decide)).trans ((if_neg (by decide)).trans ((if_pos rfl).trans rfl))))))⟩ (by decide) (by decide) dX4_about_79)
    · refine lv_tableIn (off := 73) (tgt := 80) hx hb dX4_about_7 (by decide) (by decide) (by rfl) (by decide) ?_
      refine lv_aload_n hx hb dX4_about_80 rfl (lv_at hl 0 rfl) ?_
      refine k_goi (k_V (n := 0) (As := []) (rest := []) hM hE hX hl (c_X2_costNow l γ L F o ad tg M nd D hR hI (kj a) hja) (hR.2.1 (kj a) hja).1 (hR.2.1 (kj a) hja).2.2 rfl k_391 k_392 k_393 k_18 k_394 ⟨rfl, by decide, by decide, by decide +kernel⟩ (by decide) rfl rfl (Nat.le_of_ble_eq_true rfl) dX4_about_81 (by decide)) hE hX (fun r L1 F1 H locs hp hX => ?_)
      obtain ⟨rfl, rfl, rfl⟩ := hp
      exact vx_ret (k_iret hM hsz hX ⟨_, rfl, rfl, rfl, ((if_pos hcd).trans ((if_pos ⟨by decide, by decide⟩).trans ((if_neg (by decide)).trans ((if_neg (by decide)).trans ((if_neg (by decide)).trans ((if_neg (by decide)).trans ((if_pos rfl).trans rfl)))))))⟩ (by decide) (by decide) dX4_about_84)
    · refine lv_tableIn (off := 78) (tgt := 85) hx hb dX4_about_7 (by decide) (by decide) (by rfl) (by decide) ?_
      refine lv_aload_n hx hb dX4_about_85 rfl (lv_at hl 0 rfl) ?_
      refine k_goi (k_V (n := 0) (As := []) (rest := []) hM hE hX hl (c_X2_owedNow l γ L F o ad tg M nd D hR hI (kj a) hja) (hR.2.1 (kj a) hja).1 (hR.2.1 (kj a) hja).2.2 rfl k_239 k_240 k_241 k_18 k_242 ⟨rfl, by decide, by decide, by decide +kernel⟩ (by decide) rfl rfl (Nat.le_of_ble_eq_true rfl) dX4_about_86 (by decide)) hE hX (fun r L1 F1 H locs hp hX => ?_)
      obtain ⟨rfl, rfl, rfl⟩ := hp
      exact vx_ret (k_iret hM hsz hX ⟨_, rfl, rfl, rfl, ((if_pos hcd).trans ((if_pos ⟨by decide, by decide⟩).trans ((if_neg (by decide)).trans ((if_neg (by decide)).trans ((if_neg (by decide)).trans ((if_neg (by decide)).trans ((if_neg (by decide)).trans ((if_pos rfl).trans rfl))))))))⟩ (by decide) (by decide) dX4_about_89)
    · refine lv_tableIn (off := 83) (tgt := 90) hx hb dX4_about_7 (by decide) (by decide) (by rfl) (by decide) ?_
      refine lv_aload_n hx hb dX4_about_90 rfl (lv_at hl 0 rfl) ?_
      refine k_get hM hE hX (hR.2.1 (kj a) hja).1 (hR.2.1 (kj a) hja).2.2 rfl 8 (by decide) inX2 k_538 (fun _ h => h) rfl dX4_about_91 ?_
      exact vx_ret (k_iret hM hsz hX ⟨_, rfl, rfl, rfl, ((if_pos hcd).trans ((if_pos ⟨by decide, by decide⟩).trans ((if_neg (by decide)).trans ((if_neg (by decide)).trans ((if_neg (by decide)).trans ((if_neg (by decide)).trans ((if_neg (by decide)).trans ((if_neg (by decide)).trans ((if_pos rfl).trans rfl)))))))))⟩ (by decide) (by decide) dX4_about_94)
    · refine lv_tableIn (off := 88) (tgt := 95) hx hb dX4_about_7 (by decide) (by decide) (by rfl) (by decide) ?_
      refine lv_aload_n hx hb dX4_about_95 rfl (lv_at hl 0 rfl) ?_
      refine k_get hM hE hX (hR.2.1 (kj a) hja).1 (hR.2.1 (kj a) hja).2.2 rfl 4 (by decide) inX2 k_529 (fun _ h => h) rfl dX4_about_96 ?_
      obtain ⟨mll, mcl, el, ell⟩ := Lst.recv (hR.2.2.2.2.2.2.2.2.1 (kj a) hja)
      refine k_goi (k_V (n := 0) (As := []) (rest := []) hM hE hX hl (c_size l (hR.2.2.2.2.2.2.2.2.1 (kj a) hja)) mll ell rfl k_220 k_221 k_222 k_4 k_223 ⟨rfl, by decide, by decide, by decide +kernel⟩ (by decide) rfl rfl (Nat.le_of_ble_eq_true rfl) dX4_about_99 (by decide)) hE hX (fun r L1 F1 H locs hp hX => ?_)
      obtain ⟨rfl, rfl, rfl⟩ := hp
      rw [← (hI.2.1 _ hja).1]
      exact vx_ret (k_iret hM hsz hX ⟨_, rfl, rfl, rfl, ((if_pos hcd).trans ((if_pos ⟨by decide, by decide⟩).trans ((if_neg (by decide)).trans ((if_neg (by decide)).trans ((if_neg (by decide)).trans ((if_neg (by decide)).trans ((if_neg (by decide)).trans ((if_neg (by decide)).trans ((if_neg (by decide)).trans ((if_pos rfl).trans rfl))))))))))⟩ (by decide) (by decide) dX4_about_102)
    · refine lv_tableIn (off := 96) (tgt := 103) hx hb dX4_about_7 (by decide) (by decide) (by rfl) (by decide) ?_
      refine lv_aload_n hx hb dX4_about_103 rfl (lv_at hl 0 rfl) ?_
      refine k_get hM hE hX (hR.2.1 (kj a) hja).1 (hR.2.1 (kj a) hja).2.2 rfl 3 (by decide) inX2 k_527 (fun _ h => h) rfl dX4_about_104 ?_
      exact vx_ret (k_iret hM hsz hX ⟨_, rfl, rfl, rfl, ((if_pos hcd).trans ((if_pos ⟨by decide, by decide⟩).trans ((if_neg (by decide)).trans ((if_neg (by decide)).trans ((if_neg (by decide)).trans ((if_neg (by decide)).trans ((if_neg (by decide)).trans ((if_neg (by decide)).trans ((if_neg (by decide)).trans ((if_neg (by decide)).trans ((if_pos rfl).trans rfl)))))))))))⟩ (by decide) (by decide) dX4_about_107)
    · refine lv_tableIn (off := 101) (tgt := 108) hx hb dX4_about_7 (by decide) (by decide) (by rfl) (by decide) ?_
      refine lv_aload_n hx hb dX4_about_108 rfl (lv_at hl 0 rfl) ?_
      refine k_goi (k_V (n := 0) (As := []) (rest := []) hM hE hX hl (c_X2_taxNow l γ L F o ad tg M nd D hR hI (kj a) hja) (hR.2.1 (kj a) hja).1 (hR.2.1 (kj a) hja).2.2 rfl k_395 k_396 k_397 k_18 k_398 ⟨rfl, by decide, by decide, by decide +kernel⟩ (by decide) rfl rfl (Nat.le_of_ble_eq_true rfl) dX4_about_109 (by decide)) hE hX (fun r L1 F1 H locs hp hX => ?_)
      obtain ⟨rfl, rfl, rfl⟩ := hp
      exact vx_ret (k_iret hM hsz hX ⟨_, rfl, rfl, rfl, ((if_pos hcd).trans ((if_pos ⟨by decide, by decide⟩).trans ((if_neg (by decide)).trans ((if_neg (by decide)).trans ((if_neg (by decide)).trans ((if_neg (by decide)).trans ((if_neg (by decide)).trans ((if_neg (by decide)).trans ((if_neg (by decide)).trans ((if_neg (by decide)).trans ((if_neg (by decide)).trans rfl)))))))))))⟩ (by decide) (by decide) dX4_about_112)
  · refine lv_tableOut (tgt := 113) hx hb dX4_about_7 (swo9 hsw) (by decide) ?_
    exact x_throw0 (text := "what is out of range") hM hE hX hl htab hfl kat_IA hE.2.1.2.2.2.2.2.2.2.2.2.2.1.2.1 (by decide +kernel) k_199 k_16 ⟨rfl, rfl⟩ (by decide) (Or.inr ⟨rfl, by rw [show aboutM M a b = (0, mset M 24 0 2) from ((if_pos hcd).trans ((if_neg hsw).trans rfl))]; exact Thr1 M 2⟩) dX4_about_113 dX4_about_116 (Or.inl ⟨dX4_about_117, dX4_about_119, dX4_about_122⟩) (by decide) (by decide) (by decide)
theorem sw4 {b : Int32} (h : 0 ≤ b ∧ b ≤ 4) : b = 0 ∨ b = 1 ∨ b = 2 ∨ b = 3 ∨ b = 4 := by
  have h3 := okI_lit (n := 4) (by decide) h.1 h.2
  obtain ⟨e, hlt⟩ := h3
  generalize kj b = k at e hlt
  match k, hlt with
  | 0, _ => exact Or.inl e
  | 1, _ => exact Or.inr (Or.inl e)
  | 2, _ => exact Or.inr (Or.inr (Or.inl e))
  | 3, _ => exact Or.inr (Or.inr (Or.inr (Or.inl e)))
  | 4, _ => exact Or.inr (Or.inr (Or.inr (Or.inr e)))
  | k + 5, h => exact absurd h (by omega)
set_option maxHeartbeats 4000000 in
set_option maxRecDepth 100000 in
theorem c_X4_lineOf (l : Launch) (hfl : l.stackTraces = false) (γ : kG) (L : List Nat) (F : kF) (o : Nat) (ad : cAd) (tg : cTg) (M : mM) (nd : Nat) (D : cD) (hR : RepC γ L F o ad tg M nd D) (hI : Inv M nd D) (a b x : Int32) : kD l yX4_lineOf cX4_lineOf 5 (some .int) (kRm 4 3 18) γ L F [.ref o, .int a, .int b, .int x] (kI fun r L1 F1 => L = L1 ∧ F = F1 ∧ lineOfM M a b x = (r, mset M 24 0 0)) (fun E => (E = kIO ∧ Thr M (lineOfM M a b x).2 1) ∨ (E = kIA ∧ Thr M (lineOfM M a b x).2 2)) := by
  refine kD_of (by decide +kernel) (Nat.le_of_ble_eq_true rfl) ?_
  intro p e s m args below meth c sz ls hargs hsz hM htab hE hX hl
  have hx := hM.1
  have hb := hM.2.1
  have hl : lv_has ls 5 [(0, .ref o), (1, .int a), (2, .int b), (3, .int x)] := hl
  refine lv_aload_n hx hb dX4_lineOf_0 rfl (lv_at hl 0 rfl) ?_
  refine lv_aload_n hx hb dX4_lineOf_1 rfl (lv_at hl 0 rfl) ?_
  refine lv_iload_n hx hb dX4_lineOf_2 rfl (lv_at hl 1 rfl) ?_
  refine x_gor (x_V (n := 1) (As := [.int a]) (rest := [.ref o]) hM hE hX hl (c_X4_invoiceAt l hfl γ L F o ad tg M nd D hR hI a) hR.1.1 hR.1.2.2 rfl k_383 k_385 kp_11 k_1 k_386 ⟨rfl, by decide, by decide, by decide +kernel⟩ (by decide) rfl rfl (Nat.le_of_ble_eq_true rfl) dX4_lineOf_3 (by decide)) hM hE hX htab ⟨rfl, rfl⟩ (fun E h => Or.inl ⟨h.1, by rw [show lineOfM M a b x = (0, mset M 24 0 1) from ((if_neg (fun h9 => h.2 h9.1)).trans rfl)]; exact Thr1 M 1⟩) (by decide) (by decide) (fun q L1 F1 H locs hp hX => ?_)
  obtain ⟨rfl, rfl, rfl, hcd⟩ := hp
  have hja := (ixM hI.1 hcd).2
  refine lv_iload_n hx hb dX4_lineOf_6 rfl (lv_at hl 2 rfl) ?_
  refine x_gor (x_V (n := 2) (As := [.ref (ad 1 (kj a) 0), .int b]) (rest := []) hM hE hX hl (c_X4_lineAt l hfl γ L F o ad tg M nd D hR hI (kj a) hja b) hR.1.1 hR.1.2.2 rfl k_405 k_407 kp_13 k_1 k_408 ⟨rfl, by decide, by decide, by decide +kernel⟩ (by decide) rfl rfl (Nat.le_of_ble_eq_true rfl) dX4_lineOf_7 (by decide)) hM hE hX htab ⟨rfl, rfl⟩ (fun E h => Or.inl ⟨h.1, by rw [show lineOfM M a b x = (0, mset M 24 0 1) from ((if_neg (fun h9 => h.2 h9.2)).trans rfl)]; exact Thr1 M 1⟩) (by decide) (by decide) (fun q L1 F1 H locs hp hX => ?_)
  obtain ⟨rfl, rfl, rfl, hcl⟩ := hp
  have hjb := (ixL (hI.2.1 _ hja) hcl).2
  refine lv_astore (lv' := [(4, .ref (ad 2 (kj a) (kj b))), (0, .ref o), (1, .int a), (2, .int b), (3, .int x)]) hx hb dX4_lineOf_10 hl (by decide) rfl (fun ls hl => ?_)
  refine lv_iload_n hx hb dX4_lineOf_12 rfl (lv_at hl 4 rfl) ?_
  by_cases hsw : 0 ≤ x ∧ x ≤ 4
  · rcases sw4 hsw with rfl | rfl | rfl | rfl | rfl
    · refine lv_tableIn (off := 35) (tgt := 48) hx hb dX4_lineOf_13 (by decide) (by decide) (by rfl) (by decide) ?_
      refine lv_aload hx hb dX4_lineOf_48 (lv_at hl 0 rfl) ?_
      refine k_get hM hE hX (hR.2.2.1 (kj a) hja (kj b) hjb).1 (hR.2.2.1 (kj a) hja (kj b) hjb).2.2 rfl 2 (by decide) inX3 k_580 (fun _ h => h) rfl dX4_lineOf_50 ?_
      exact vx_ret (k_iret hM hsz hX ⟨_, rfl, rfl, rfl, ((if_pos ⟨hcd, hcl⟩).trans ((if_pos ⟨by decide, by decide⟩).trans ((if_pos rfl).trans rfl)))⟩ (by decide) (by decide) dX4_lineOf_53)
    · refine lv_tableIn (off := 41) (tgt := 54) hx hb dX4_lineOf_13 (by decide) (by decide) (by rfl) (by decide) ?_
      refine lv_aload hx hb dX4_lineOf_54 (lv_at hl 0 rfl) ?_
      refine k_get hM hE hX (hR.2.2.1 (kj a) hja (kj b) hjb).1 (hR.2.2.1 (kj a) hja (kj b) hjb).2.2 rfl 1 (by decide) inX3 k_578 (fun _ h => h) rfl dX4_lineOf_56 ?_
      exact vx_ret (k_iret hM hsz hX ⟨_, rfl, rfl, rfl, ((if_pos ⟨hcd, hcl⟩).trans ((if_pos ⟨by decide, by decide⟩).trans ((if_neg (by decide)).trans ((if_pos rfl).trans rfl))))⟩ (by decide) (by decide) dX4_lineOf_59)
    · refine lv_tableIn (off := 47) (tgt := 60) hx hb dX4_lineOf_13 (by decide) (by decide) (by rfl) (by decide) ?_
      refine lv_aload hx hb dX4_lineOf_60 (lv_at hl 0 rfl) ?_
      refine k_goi (k_V (n := 0) (As := []) (rest := []) hM hE hX hl (c_X3_taxNow l γ L F o ad tg M nd D hR hI (kj a) (kj b) hja hjb) (hR.2.2.1 (kj a) hja (kj b) hjb).1 (hR.2.2.1 (kj a) hja (kj b) hjb).2.2 rfl k_411 k_251 k_252 k_19 k_253 ⟨rfl, by decide, by decide, by decide +kernel⟩ (by decide) rfl rfl (Nat.le_of_ble_eq_true rfl) dX4_lineOf_62 (by decide)) hE hX (fun r L1 F1 H locs hp hX => ?_)
      obtain ⟨rfl, rfl, rfl⟩ := hp
      exact vx_ret (k_iret hM hsz hX ⟨_, rfl, rfl, rfl, ((if_pos ⟨hcd, hcl⟩).trans ((if_pos ⟨by decide, by decide⟩).trans ((if_neg (by decide)).trans ((if_neg (by decide)).trans ((if_pos rfl).trans rfl)))))⟩ (by decide) (by decide) dX4_lineOf_65)
    · refine lv_tableIn (off := 53) (tgt := 66) hx hb dX4_lineOf_13 (by decide) (by decide) (by rfl) (by decide) ?_
      refine lv_aload hx hb dX4_lineOf_66 (lv_at hl 0 rfl) ?_
      refine k_get hM hE hX (hR.2.2.1 (kj a) hja (kj b) hjb).1 (hR.2.2.1 (kj a) hja (kj b) hjb).2.2 rfl 3 (by decide) inX3 k_583 (fun _ h => h) rfl dX4_lineOf_68 ?_
      refine lv_if_eq (tgt := 78) hx hb dX4_lineOf_71 (by decide) (fun c_1 => ?_) (fun c_1 => ?_)
      · refine lv_iconst (v := 0) hx hb dX4_lineOf_78 (by decide) ?_
        exact vx_ret (k_iret hM hsz hX ⟨_, rfl, rfl, rfl, ((if_pos ⟨hcd, hcl⟩).trans ((if_pos ⟨by decide, by decide⟩).trans ((if_neg (by decide)).trans ((if_neg (by decide)).trans ((if_neg (by decide)).trans ((if_pos rfl).trans ((if_pos c_1).trans rfl)))))))⟩ (by decide) (by decide) dX4_lineOf_79)
      · refine lv_iconst (v := 1) hx hb dX4_lineOf_74 (by decide) ?_
        refine lv_goto (tgt := 79) hx hb dX4_lineOf_75 (by decide) ?_
        exact vx_ret (k_iret hM hsz hX ⟨_, rfl, rfl, rfl, ((if_pos ⟨hcd, hcl⟩).trans ((if_pos ⟨by decide, by decide⟩).trans ((if_neg (by decide)).trans ((if_neg (by decide)).trans ((if_neg (by decide)).trans ((if_pos rfl).trans ((if_neg c_1).trans rfl)))))))⟩ (by decide) (by decide) dX4_lineOf_79)
    · refine lv_tableIn (off := 67) (tgt := 80) hx hb dX4_lineOf_13 (by decide) (by decide) (by rfl) (by decide) ?_
      refine lv_aload hx hb dX4_lineOf_80 (lv_at hl 0 rfl) ?_
      refine k_get hM hE hX (hR.2.2.1 (kj a) hja (kj b) hjb).1 (hR.2.2.1 (kj a) hja (kj b) hjb).2.2 rfl 0 (by decide) inX3 k_576 (fun _ h => h) rfl dX4_lineOf_82 ?_
      exact vx_ret (k_iret hM hsz hX ⟨_, rfl, rfl, rfl, ((if_pos ⟨hcd, hcl⟩).trans ((if_pos ⟨by decide, by decide⟩).trans ((if_neg (by decide)).trans ((if_neg (by decide)).trans ((if_neg (by decide)).trans ((if_neg (by decide)).trans rfl))))))⟩ (by decide) (by decide) dX4_lineOf_85)
  · refine lv_tableOut (tgt := 86) hx hb dX4_lineOf_13 (swo4 hsw) (by decide) ?_
    exact x_throw0 (text := "what is out of range") hM hE hX hl htab hfl kat_IA hE.2.1.2.2.2.2.2.2.2.2.2.2.1.2.1 (by decide +kernel) k_199 k_16 ⟨rfl, rfl⟩ (by decide) (Or.inr ⟨rfl, by rw [show lineOfM M a b x = (0, mset M 24 0 2) from ((if_pos ⟨hcd, hcl⟩).trans ((if_neg hsw).trans rfl))]; exact Thr1 M 2⟩) dX4_lineOf_86 dX4_lineOf_89 (Or.inl ⟨dX4_lineOf_90, dX4_lineOf_92, dX4_lineOf_95⟩) (by decide) (by decide) (by decide)
set_option maxHeartbeats 4000000 in
set_option maxRecDepth 100000 in
theorem c_X4_tax (l : Launch) (hfl : l.stackTraces = false) (γ : kG) (L : List Nat) (F : kF) (o : Nat) (ad : cAd) (tg : cTg) (M : mM) (nd : Nat) (D : cD) (hR : RepC γ L F o ad tg M nd D) (hI : Inv M nd D) (a b : Int32) : kD l yX4_tax cX4_tax 3 (some .int) (kRm 7 3 18) γ L F [.ref o, .int a, .int b] (kI fun r L1 F1 => L = L1 ∧ F = F1 ∧ taxM M a b = (r, mset M 24 0 0)) (fun E => (E = kIO ∧ Thr M (taxM M a b).2 1)) := by
  refine kD_of (by decide +kernel) (Nat.le_of_ble_eq_true rfl) ?_
  intro p e s m args below meth c sz ls hargs hsz hM htab hE hX hl
  have hx := hM.1
  have hb := hM.2.1
  have hl : lv_has ls 3 [(0, .ref o), (1, .int a), (2, .int b)] := hl
  refine lv_aload_n hx hb dX4_tax_0 rfl (lv_at hl 0 rfl) ?_
  refine lv_iload_n hx hb dX4_tax_1 rfl (lv_at hl 1 rfl) ?_
  refine x_gou (x_V (n := 1) (As := [.int a]) (rest := []) hM hE hX hl (c_X4_checkCompany l hfl γ L F o a) hR.1.1 hR.1.2.2 rfl k_125 k_127 kp_1 k_1 k_128 ⟨rfl, by decide, by decide, by decide +kernel⟩ (by decide) rfl rfl (Nat.le_of_ble_eq_true rfl) dX4_tax_2 (by decide)) hM hE hX htab ⟨rfl, rfl⟩ (fun E h => ⟨h.1, by rw [show taxM M a b = (0, mset M 24 0 1) from ((if_neg h.2).trans rfl)]; exact Thr1 M 1⟩) (by decide) (by decide) (fun L1 F1 H locs hp hX => ?_)
  obtain ⟨rfl, rfl, hco⟩ := hp
  refine lv_aload_n hx hb dX4_tax_5 rfl (lv_at hl 0 rfl) ?_
  refine lv_iload_n hx hb dX4_tax_6 rfl (lv_at hl 2 rfl) ?_
  refine x_gou (x_V (n := 1) (As := [.int b]) (rest := []) hM hE hX hl (c_X4_checkMonth l hfl γ L F o ad tg M nd D hR hI b) hR.1.1 hR.1.2.2 rfl k_432 k_434 kp_14 k_1 k_435 ⟨rfl, by decide, by decide, by decide +kernel⟩ (by decide) rfl rfl (Nat.le_of_ble_eq_true rfl) dX4_tax_7 (by decide)) hM hE hX htab ⟨rfl, rfl⟩ (fun E h => ⟨h.1, by rw [show taxM M a b = (0, mset M 24 0 1) from ((if_pos hco).trans ((if_neg h.2).trans rfl))]; exact Thr1 M 1⟩) (by decide) (by decide) (fun L1 F1 H locs hp hX => ?_)
  obtain ⟨rfl, rfl, hmo0⟩ := hp
  have hmo := moOk hI.2.2.2.2.2.2.1 hmo0
  refine lv_aload_n hx hb dX4_tax_10 rfl (lv_at hl 0 rfl) ?_
  refine lv_iload_n hx hb dX4_tax_11 rfl (lv_at hl 1 rfl) ?_
  refine lv_iload_n hx hb dX4_tax_12 rfl (lv_at hl 2 rfl) ?_
  refine k_goi (k_V (n := 2) (As := [.int a, .int b]) (rest := []) hM hE hX hl (c_X4_taxWithCarried l γ L F o ad tg M nd D hR hI a b (kj b) hmo.1 (by have := hmo.2; omega)) hR.1.1 hR.1.2.2 rfl k_437 k_439 kp_15 k_1 k_440 ⟨rfl, by decide, by decide, by decide +kernel⟩ (by decide) rfl rfl (Nat.le_of_ble_eq_true rfl) dX4_tax_13 (by decide)) hE hX (fun r L1 F1 H locs hp hX => ?_)
  obtain ⟨rfl, rfl, rfl⟩ := hp
  refine lv_iconst (v := 0) hx hb dX4_tax_16 (by decide) ?_
  refine k_max hM hl k_464 k_258 k_15 k_259 ⟨by decide, Nat.le_of_ble_eq_true rfl⟩ (by decide) dX4_tax_17 ?_
  exact vx_ret (k_iret hM hsz hX ⟨_, rfl, rfl, rfl, by rw [mx0]; exact ((if_pos hco).trans ((if_pos hmo0).trans (by show (if _ then _ else _) = _; rw [off_taxTo]; split <;> rfl)))⟩ (by decide) (by decide) dX4_tax_20)
set_option maxHeartbeats 4000000 in
set_option maxRecDepth 100000 in
theorem c_X4_carried (l : Launch) (hfl : l.stackTraces = false) (γ : kG) (L : List Nat) (F : kF) (o : Nat) (ad : cAd) (tg : cTg) (M : mM) (nd : Nat) (D : cD) (hR : RepC γ L F o ad tg M nd D) (hI : Inv M nd D) (a b : Int32) : kD l yX4_carried cX4_carried 3 (some .int) (kRm 7 3 18) γ L F [.ref o, .int a, .int b] (kI fun r L1 F1 => L = L1 ∧ F = F1 ∧ carriedM M a b = (r, mset M 24 0 0)) (fun E => (E = kIO ∧ Thr M (carriedM M a b).2 1)) := by
  refine kD_of (by decide +kernel) (Nat.le_of_ble_eq_true rfl) ?_
  intro p e s m args below meth c sz ls hargs hsz hM htab hE hX hl
  have hx := hM.1
  have hb := hM.2.1
  have hl : lv_has ls 3 [(0, .ref o), (1, .int a), (2, .int b)] := hl
  refine lv_aload_n hx hb dX4_carried_0 rfl (lv_at hl 0 rfl) ?_
  refine lv_iload_n hx hb dX4_carried_1 rfl (lv_at hl 1 rfl) ?_
  refine x_gou (x_V (n := 1) (As := [.int a]) (rest := []) hM hE hX hl (c_X4_checkCompany l hfl γ L F o a) hR.1.1 hR.1.2.2 rfl k_125 k_127 kp_1 k_1 k_128 ⟨rfl, by decide, by decide, by decide +kernel⟩ (by decide) rfl rfl (Nat.le_of_ble_eq_true rfl) dX4_carried_2 (by decide)) hM hE hX htab ⟨rfl, rfl⟩ (fun E h => ⟨h.1, by rw [show carriedM M a b = (0, mset M 24 0 1) from ((if_neg h.2).trans rfl)]; exact Thr1 M 1⟩) (by decide) (by decide) (fun L1 F1 H locs hp hX => ?_)
  obtain ⟨rfl, rfl, hco⟩ := hp
  refine lv_aload_n hx hb dX4_carried_5 rfl (lv_at hl 0 rfl) ?_
  refine lv_iload_n hx hb dX4_carried_6 rfl (lv_at hl 2 rfl) ?_
  refine x_gou (x_V (n := 1) (As := [.int b]) (rest := []) hM hE hX hl (c_X4_checkMonth l hfl γ L F o ad tg M nd D hR hI b) hR.1.1 hR.1.2.2 rfl k_432 k_434 kp_14 k_1 k_435 ⟨rfl, by decide, by decide, by decide +kernel⟩ (by decide) rfl rfl (Nat.le_of_ble_eq_true rfl) dX4_carried_7 (by decide)) hM hE hX htab ⟨rfl, rfl⟩ (fun E h => ⟨h.1, by rw [show carriedM M a b = (0, mset M 24 0 1) from ((if_pos hco).trans ((if_neg h.2).trans rfl))]; exact Thr1 M 1⟩) (by decide) (by decide) (fun L1 F1 H locs hp hX => ?_)
  obtain ⟨rfl, rfl, hmo0⟩ := hp
  have hmo := moOk hI.2.2.2.2.2.2.1 hmo0
  refine lv_aload_n hx hb dX4_carried_10 rfl (lv_at hl 0 rfl) ?_
  refine lv_iload_n hx hb dX4_carried_11 rfl (lv_at hl 1 rfl) ?_
  refine lv_iload_n hx hb dX4_carried_12 rfl (lv_at hl 2 rfl) ?_
  refine k_goi (k_V (n := 2) (As := [.int a, .int b]) (rest := []) hM hE hX hl (c_X4_taxWithCarried l γ L F o ad tg M nd D hR hI a b (kj b) hmo.1 (by have := hmo.2; omega)) hR.1.1 hR.1.2.2 rfl k_437 k_439 kp_15 k_1 k_440 ⟨rfl, by decide, by decide, by decide +kernel⟩ (by decide) rfl rfl (Nat.le_of_ble_eq_true rfl) dX4_carried_13 (by decide)) hE hX (fun r L1 F1 H locs hp hX => ?_)
  obtain ⟨rfl, rfl, rfl⟩ := hp
  refine lv_iconst (v := 0) hx hb dX4_carried_16 (by decide) ?_
  refine k_min hM hl k_441 k_358 k_15 k_359 ⟨by decide, Nat.le_of_ble_eq_true rfl⟩ (by decide) dX4_carried_17 ?_
  exact vx_ret (k_iret hM hsz hX ⟨_, rfl, rfl, rfl, by rw [mn0]; exact ((if_pos hco).trans ((if_pos hmo0).trans (by show (if _ then _ else _) = _; rw [off_taxTo]; split <;> rfl)))⟩ (by decide) (by decide) dX4_carried_20)
