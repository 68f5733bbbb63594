section CR
variable {γ : kG} {L : List Nat} {F : kF} {o : Nat} {ad : cAd} {tg : cTg} {M : mM} {nd : Nat} {D : cD}
theorem RepC.s24l {i j : Nat} {x : Int32} (h : RepC γ L F o ad tg (lessM M i j x) nd D) : RepC γ L F o ad tg (lessM (mset M 24 0 0) i j x) nd D :=
  h.same rfl (fun _ => rfl) rfl rfl (fun _ => rfl) (fun _ _ => rfl) (fun _ => rfl) rfl rfl rfl
theorem RepC.s17l {i j : Nat} {x : Int32} (h : RepC γ L F o ad tg (mset (lessM M i j x) 17 (3 * i + j) 0) nd D) : RepC γ L F o ad tg (lessM (mset (mset M 24 0 0) 17 (3 * i + j) 0) i j x) nd D :=
  h.same rfl (fun _ => rfl) rfl rfl (fun _ => rfl) (fun _ _ => rfl) (fun _ => rfl) rfl rfl rfl
theorem RepC.s17 (h : RepC γ L F o ad tg M nd D) {i j : Nat} (hi : i < nn M) (hj : j < kk M i) (h3 : ∀ i', i' < nn M → kk M i' ≤ 3) (x : Int32) : RepC γ L (va_up F (ad 2 i j) (.inr (8, [.int (M 15 (3 * i + j)), .int (M 16 (3 * i + j)), .int (M 14 (3 * i + j)), .int x]))) o ad tg (mset M 17 (3 * i + j) x) nd D :=
  h.wline hi hj (by unfold lC; rw [mset_s]; rfl) rfl (fun _ => rfl) rfl rfl (fun _ => rfl) (fun i' j' hi' hj' hne => by unfold lC; rw [show mset M 17 (3 * i + j) x 17 (3 * i' + j') = M 17 (3 * i' + j') from if_neg (fun e9 => hne (by have := h3 i' hi'; have := h3 i hi; constructor <;> omega))]; rfl) (fun _ => rfl) rfl rfl rfl
theorem okI_sub {y x : Int32} {n : Nat} (hy : okI y n) (hn : n < 1000000) (h0 : 0 ≤ x) (h1 : x ≤ y) : okI (y - x) n := by
  have hx := okI_lit (n := kj y) (by have := hy.2; omega) h0 (by rw [← hy.1]; exact h1)
  have e : y - x = nI (kj y - kj x) := by
    conv => lhs; rw [hy.1, hx.1]
    exact pk_sub (by have := hx.2; omega)
  have e3 : kj (y - x) = kj y - kj x := by rw [e]; exact nI_clamp (by have := hy.2; omega)
  exact ⟨by rw [e3]; exact e, by rw [e3]; have := hy.2; omega⟩
end CR
set_option maxHeartbeats 4000000 in
set_option maxRecDepth 100000 in
theorem c_X4_credit (l : Launch) (hfl : l.stackTraces = false) (γ : kG) (L : List Nat) (F : kF) (o : Nat) (ad : cAd) (tg : cTg) (M : mM) (nd : Nat) (D : cD) (hR : RepC γ L F o ad tg M nd D) (hI : Inv M nd D) (a b x : Int32) : kD l yX4_credit cX4_credit 6 (some .int) (kRm 7 6 1100) γ L F [.ref o, .int a, .int b, .int x] (kI fun r L1 F1 => After γ L o nd (creditM M a b x) r L1 F1) (fun E => (E = kIO ∧ Thr M (creditM M a b x).2 1) ∨ (E = kIA ∧ Thr M (creditM M a b x).2 2) ∨ (E = kIS ∧ Thr M (creditM M a b x).2 3)) := by
  refine kD_of (by decide +kernel) (Nat.le_of_ble_eq_true rfl) ?_
  intro p e s m args below meth c sz ls hargs hsz hM htab hE hX hl
  have hx := hM.1
  have hb := hM.2.1
  have hl : lv_has ls 6 [(0, .ref o), (1, .int a), (2, .int b), (3, .int x)] := hl
  have fo : F o = .inr (9, [.ref (ad 5 0 0), .ref (ad 5 1 0), .ref (ad 5 2 0), .ref (ad 7 0 0), .ref (ad 8 0 0), .int (M 0 0)]) := hR.1.2.2
  refine lv_aload_n hx hb dX4_credit_0 rfl (lv_at hl 0 rfl) ?_
  refine lv_iload_n hx hb dX4_credit_1 rfl (lv_at hl 1 rfl) ?_
  refine x_gor (x_V (n := 1) (As := [.int a]) (rest := []) hM hE hX hl (c_X4_invoiceAt l hfl γ L F o ad tg M nd D hR hI a) hR.1.1 fo rfl k_383 k_385 kp_11 k_1 k_386 ⟨rfl, by decide, by decide, by decide +kernel⟩ (by decide) rfl rfl (Nat.le_of_ble_eq_true rfl) dX4_credit_2 (by decide)) hM hE hX htab ⟨rfl, rfl⟩ (fun E h => Or.inl ⟨h.1, by rw [show creditM M a b x = (0, (mset M 24 0 1)) from ((if_neg (fun h9 => h.2 h9.1)).trans rfl)]; exact Thr1 M 1⟩) (by decide) (by decide) (fun q L1 F1 H locs hp hX => ?_)
  obtain ⟨rfl, rfl, rfl, hcd⟩ := hp
  have hja := (ixM hI.1 hcd).2
  have fi : F (ad 1 (kj a) 0) = .inr (7, [.int (M 3 (kj a)), .int (M 4 (kj a)), .int (M 5 (kj a)), .int (M 7 (kj a)), .ref (ad 5 (3 + (kj a)) 0), .int (M 6 (kj a)), .int (aDay M (kj a)), .int (hasC M (nI (kj a))), .int (M 12 (kj a)), .int (M 9 (kj a)), .int (M 10 (kj a)), .int (M 11 (kj a))]) := (hR.2.1 (kj a) hja).2.2
  refine lv_astore (lv' := [(4, .ref (ad 1 (kj a) 0)), (0, .ref o), (1, .int a), (2, .int b), (3, .int x)]) hx hb dX4_credit_5 hl (by decide) rfl (fun ls hl => ?_)
  refine lv_aload_n hx hb dX4_credit_7 rfl (lv_at hl 1 rfl) ?_
  refine lv_aload hx hb dX4_credit_8 (lv_at hl 0 rfl) ?_
  refine lv_iload_n hx hb dX4_credit_10 rfl (lv_at hl 3 rfl) ?_
  refine x_gor (x_V (n := 2) (As := [.ref (ad 1 (kj a) 0), .int b]) (rest := []) hM hE hX hl (c_X4_lineAt l hfl γ L F o ad tg M nd D hR hI (kj a) hja b) hR.1.1 fo rfl k_405 k_407 kp_13 k_1 k_408 ⟨rfl, by decide, by decide, by decide +kernel⟩ (by decide) rfl rfl (Nat.le_of_ble_eq_true rfl) dX4_credit_11 (by decide)) hM hE hX htab ⟨rfl, rfl⟩ (fun E h => Or.inl ⟨h.1, by rw [show creditM M a b x = (0, (mset M 24 0 1)) from ((if_neg (fun h9 => h.2 h9.2)).trans rfl)]; exact Thr1 M 1⟩) (by decide) (by decide) (fun q L1 F1 H locs hp hX => ?_)
  obtain ⟨rfl, rfl, rfl, hcl⟩ := hp
  have hjb := (ixL (hI.2.1 _ hja) hcl).2
  have fl : F (ad 2 (kj a) (kj b)) = .inr (8, [.int (M 15 (3 * (kj a) + (kj b))), .int (M 16 (3 * (kj a) + (kj b))), .int (M 14 (3 * (kj a) + (kj b))), .int (M 17 (3 * (kj a) + (kj b)))]) := (hR.2.2.1 (kj a) hja (kj b) hjb).2.2
  refine lv_astore (lv' := [(5, .ref (ad 2 (kj a) (kj b))), (4, .ref (ad 1 (kj a) 0)), (0, .ref o), (1, .int a), (2, .int b), (3, .int x)]) hx hb dX4_credit_14 hl (by decide) rfl (fun ls hl => ?_)
  refine lv_aload_n hx hb dX4_credit_16 rfl (lv_at hl 2 rfl) ?_
  refine lv_iload_n hx hb dX4_credit_17 rfl (lv_at hl 5 rfl) ?_
  refine x_gou (x_V (n := 1) (As := [.int x]) (rest := []) hM hE hX hl (c_X4_checkAmount l hfl γ L F o x) hR.1.1 fo rfl k_500 k_502 kp_19 k_1 k_503 ⟨rfl, by decide, by decide, by decide +kernel⟩ (by decide) rfl rfl (Nat.le_of_ble_eq_true rfl) dX4_credit_18 (by decide)) hM hE hX htab ⟨rfl, rfl⟩ (fun E h => Or.inr (Or.inl ⟨h.1, by rw [show creditM M a b x = (0, (mset M 24 0 2)) from ((if_pos ⟨hcd, hcl⟩).trans ((if_neg h.2).trans rfl))]; exact Thr1 M 2⟩)) (by decide) (by decide) (fun L1 F1 H locs hp hX => ?_)
  obtain ⟨rfl, rfl, ham⟩ := hp
  refine lv_iload_n hx hb dX4_credit_21 rfl (lv_at hl 5 rfl) ?_
  refine lv_aload hx hb dX4_credit_22 (lv_at hl 0 rfl) ?_
  refine k_get hM hE hX (hR.2.2.1 (kj a) hja (kj b) hjb).1 fl rfl 2 (by decide) inX3 k_580 (fun _ h => h) rfl dX4_credit_24 ?_
  refine lv_icmp_le (tgt := 40) hx hb dX4_credit_27 (by decide) (fun c_1 => ?_) (fun c_1 => ?_)
  · refine lv_aload hx hb dX4_credit_40 (lv_at hl 1 rfl) ?_
    refine k_get hM hE hX (hR.2.1 (kj a) hja).1 fi rfl 5 (by decide) inX2 k_532 (fun _ h => h) rfl dX4_credit_42 ?_
    refine lv_iconst (v := 2) hx hb dX4_credit_45 (by decide) ?_
    refine lv_icmp_ne (tgt := 59) hx hb dX4_credit_46 (by decide) (fun c_2 => ?_) (fun c_2 => ?_)
    · refine lv_aload_n hx hb dX4_credit_59 rfl (lv_at hl 2 rfl) ?_
      refine x_gou (x_V (n := 0) (As := []) (rest := []) hM hE hX hl (c_X4_checkRoomForCredit l hfl γ L F o ad tg M nd D hR hI) hR.1.1 fo rfl k_619 k_621 kp_22 k_1 k_622 ⟨rfl, by decide, by decide, by decide +kernel⟩ (by decide) rfl rfl (Nat.le_of_ble_eq_true rfl) dX4_credit_60 (by decide)) hM hE hX htab ⟨rfl, rfl⟩ (fun E h => Or.inr (Or.inr ⟨h.1, by rw [show creditM M a b x = (0, (mset M 24 0 3)) from ((if_pos ⟨hcd, hcl⟩).trans ((if_pos ham).trans ((if_pos c_1).trans ((if_neg c_2).trans ((if_pos h.2).trans rfl)))))]; exact Thr1 M 3⟩)) (by decide) (by decide) (fun L1 F1 H locs hp hX => ?_)
      obtain ⟨rfl, rfl, hc24⟩ := hp
      refine lv_aload_n hx hb dX4_credit_63 rfl (lv_at hl 2 rfl) ?_
      refine lv_aload hx hb dX4_credit_64 (lv_at hl 1 rfl) ?_
      refine lv_aload hx hb dX4_credit_66 (lv_at hl 0 rfl) ?_
      refine lv_iload_n hx hb dX4_credit_68 rfl (lv_at hl 5 rfl) ?_
      refine k_gou (k_V (n := 3) (As := [.ref (ad 1 (kj a) 0), .ref (ad 2 (kj a) (kj b)), .int x]) (rest := []) hM hE hX hl (c_X4_makeCredit l γ L F o ad tg M nd D hR hI (kj a) (kj b) hja hjb x hc24) hR.1.1 fo rfl k_624 k_626 kp_23 k_1 k_627 ⟨rfl, by decide, by decide, by decide +kernel⟩ (by decide) rfl rfl (Nat.le_of_ble_eq_true rfl) dX4_credit_69 (by decide)) hE hX (fun L2 F2 H locs hp hX => ?_)
      obtain ⟨hsub, q, tg1, hR3⟩ := hp
      have hR4 := hR3.s24l
      have hI4 : Inv (lessM (mset M 24 0 0) (kj a) (kj b) x) nd D := (hI.s24 0).less hja hjb hc24 (okI_sub (hI.2.2.2.2.2.2.2.1 _ hja _ hjb).1 (by decide) (Int32.le_trans (show (0 : Int32) ≤ 1 by decide) ham.1) c_1)
      have hz4 : (lessM (mset M 24 0 0) (kj a) (kj b) x) 24 0 = 0 := rfl
      have m9 : ad 2 (kj a) (kj b) ∈ L2 := (hR3.2.2.1 (kj a) hja (kj b) hjb).1
      have f9 : F2 (ad 2 (kj a) (kj b)) = .inr (8, [.int ((lessM M (kj a) (kj b) x) 15 (3 * kj a + kj b)), .int ((lessM M (kj a) (kj b) x) 16 (3 * kj a + kj b)), .int ((lessM M (kj a) (kj b) x) 14 (3 * kj a + kj b)), .int ((lessM M (kj a) (kj b) x) 17 (3 * kj a + kj b))]) := (hR3.2.2.1 (kj a) hja (kj b) hjb).2.2
      refine lv_aload hx hb dX4_credit_72 (lv_at hl 0 rfl) ?_
      refine k_get hM hE hX m9 f9 rfl 2 (by decide) inX3 k_580 (fun _ h => h) rfl dX4_credit_74 ?_
      exact vx_ret (k_iret hM hsz hX ⟨_, rfl, (lessM (mset M 24 0 0) (kj a) (kj b) x), adD ad 3 (cc M) q, tg1, nd, D, ((if_pos ⟨hcd, hcl⟩).trans ((if_pos ham).trans ((if_pos c_1).trans ((if_neg c_2).trans ((if_neg (fun h9 => by rw [hI.2.2.1.1] at h9; exact absurd ((nI_eq (a := cc M) (b := 24) (by omega) (by decide)).mp h9) (by omega))).trans rfl))))), hz4, hsub, hR4, hI4, by omega⟩ (by decide) (by decide) dX4_credit_77)
    · exact x_throw0 (text := "the invoice is refused") hM hE hX hl htab hfl kat_IS hE.2.1.2.2.2.2.2.2.2.2.2.2.1.2.2 (by decide +kernel) k_264 k_17 ⟨rfl, rfl⟩ (by decide) (Or.inr (Or.inr ⟨rfl, by rw [show creditM M a b x = (0, (mset M 24 0 3)) from ((if_pos ⟨hcd, hcl⟩).trans ((if_pos ham).trans ((if_pos c_1).trans ((if_pos c_2).trans rfl))))]; exact Thr1 M 3⟩)) dX4_credit_49 dX4_credit_52 (Or.inl ⟨dX4_credit_53, dX4_credit_55, dX4_credit_58⟩) (by decide) (by decide) (by decide)
  · exact x_throw0 (text := "the amount is above that of the line") hM hE hX hl htab hfl kat_IA hE.2.1.2.2.2.2.2.2.2.2.2.2.1.2.1 (by decide +kernel) k_199 k_16 ⟨rfl, rfl⟩ (by decide) (Or.inr (Or.inl ⟨rfl, by rw [show creditM M a b x = (0, (mset M 24 0 2)) from ((if_pos ⟨hcd, hcl⟩).trans ((if_pos ham).trans ((if_neg c_1).trans rfl)))]; exact Thr1 M 2⟩)) dX4_credit_30 dX4_credit_33 (Or.inl ⟨dX4_credit_34, dX4_credit_36, dX4_credit_39⟩) (by decide) (by decide) (by decide)
set_option maxHeartbeats 4000000 in
set_option maxRecDepth 100000 in
theorem c_X4_settle (l : Launch) (hfl : l.stackTraces = false) (γ : kG) (L : List Nat) (F : kF) (o : Nat) (ad : cAd) (tg : cTg) (M : mM) (nd : Nat) (D : cD) (hR : RepC γ L F o ad tg M nd D) (hI : Inv M nd D) (a b z : Int32) : kD l yX4_settle cX4_settle 6 (some .int) (kRm 7 6 1100) γ L F [.ref o, .int a, .int b, .int z] (kI fun r L1 F1 => After γ L o nd (settleM M a b z) r L1 F1) (fun E => (E = kIO ∧ Thr M (settleM M a b z).2 1) ∨ (E = kIS ∧ Thr M (settleM M a b z).2 2)) := by
  refine kD_of (by decide +kernel) (Nat.le_of_ble_eq_true rfl) ?_
  intro p e s m args below meth c sz ls hargs hsz hM htab hE hX hl
  have hx := hM.1
  have hb := hM.2.1
  have hl : lv_has ls 6 [(0, .ref o), (1, .int a), (2, .int b), (3, .int z)] := hl
  have fo : F o = .inr (9, [.ref (ad 5 0 0), .ref (ad 5 1 0), .ref (ad 5 2 0), .ref (ad 7 0 0), .ref (ad 8 0 0), .int (M 0 0)]) := hR.1.2.2
  refine lv_aload_n hx hb dX4_settle_0 rfl (lv_at hl 0 rfl) ?_
  refine lv_iload_n hx hb dX4_settle_1 rfl (lv_at hl 1 rfl) ?_
  refine x_gor (x_V (n := 1) (As := [.int a]) (rest := []) hM hE hX hl (c_X4_invoiceAt l hfl γ L F o ad tg M nd D hR hI a) hR.1.1 fo rfl k_383 k_385 kp_11 k_1 k_386 ⟨rfl, by decide, by decide, by decide +kernel⟩ (by decide) rfl rfl (Nat.le_of_ble_eq_true rfl) dX4_settle_2 (by decide)) hM hE hX htab ⟨rfl, rfl⟩ (fun E h => Or.inl ⟨h.1, by rw [show settleM M a b z = (0, (mset M 24 0 1)) from ((if_neg (fun h9 => h.2 h9.1)).trans rfl)]; exact Thr1 M 1⟩) (by decide) (by decide) (fun q L1 F1 H locs hp hX => ?_)
  obtain ⟨rfl, rfl, rfl, hcd⟩ := hp
  have hja := (ixM hI.1 hcd).2
  have fi : F (ad 1 (kj a) 0) = .inr (7, [.int (M 3 (kj a)), .int (M 4 (kj a)), .int (M 5 (kj a)), .int (M 7 (kj a)), .ref (ad 5 (3 + (kj a)) 0), .int (M 6 (kj a)), .int (aDay M (kj a)), .int (hasC M (nI (kj a))), .int (M 12 (kj a)), .int (M 9 (kj a)), .int (M 10 (kj a)), .int (M 11 (kj a))]) := (hR.2.1 (kj a) hja).2.2
  refine lv_astore (lv' := [(4, .ref (ad 1 (kj a) 0)), (0, .ref o), (1, .int a), (2, .int b), (3, .int z)]) hx hb dX4_settle_5 hl (by decide) rfl (fun ls hl => ?_)
  refine lv_aload_n hx hb dX4_settle_7 rfl (lv_at hl 1 rfl) ?_
  refine lv_aload hx hb dX4_settle_8 (lv_at hl 0 rfl) ?_
  refine lv_iload_n hx hb dX4_settle_10 rfl (lv_at hl 3 rfl) ?_
  refine x_gor (x_V (n := 2) (As := [.ref (ad 1 (kj a) 0), .int b]) (rest := []) hM hE hX hl (c_X4_lineAt l hfl γ L F o ad tg M nd D hR hI (kj a) hja b) hR.1.1 fo rfl k_405 k_407 kp_13 k_1 k_408 ⟨rfl, by decide, by decide, by decide +kernel⟩ (by decide) rfl rfl (Nat.le_of_ble_eq_true rfl) dX4_settle_11 (by decide)) hM hE hX htab ⟨rfl, rfl⟩ (fun E h => Or.inl ⟨h.1, by rw [show settleM M a b z = (0, (mset M 24 0 1)) from ((if_neg (fun h9 => h.2 h9.2)).trans rfl)]; exact Thr1 M 1⟩) (by decide) (by decide) (fun q L1 F1 H locs hp hX => ?_)
  obtain ⟨rfl, rfl, rfl, hcl⟩ := hp
  have hjb := (ixL (hI.2.1 _ hja) hcl).2
  have fl : F (ad 2 (kj a) (kj b)) = .inr (8, [.int (M 15 (3 * (kj a) + (kj b))), .int (M 16 (3 * (kj a) + (kj b))), .int (M 14 (3 * (kj a) + (kj b))), .int (M 17 (3 * (kj a) + (kj b)))]) := (hR.2.2.1 (kj a) hja (kj b) hjb).2.2
  refine lv_astore (lv' := [(5, .ref (ad 2 (kj a) (kj b))), (4, .ref (ad 1 (kj a) 0)), (0, .ref o), (1, .int a), (2, .int b), (3, .int z)]) hx hb dX4_settle_14 hl (by decide) rfl (fun ls hl => ?_)
  refine lv_aload hx hb dX4_settle_16 (lv_at hl 0 rfl) ?_
  refine k_get hM hE hX (hR.2.2.1 (kj a) hja (kj b) hjb).1 fl rfl 3 (by decide) inX3 k_583 (fun _ h => h) rfl dX4_settle_18 ?_
  refine lv_if_ne (tgt := 34) hx hb dX4_settle_21 (by decide) (fun c_1 => ?_) (fun c_1 => ?_)
  · refine lv_iload_n hx hb dX4_settle_34 rfl (lv_at hl 5 rfl) ?_
    refine lv_if_eq (tgt := 55) hx hb dX4_settle_35 (by decide) (fun c_2 => ?_) (fun c_2 => ?_)
    · refine lv_aload hx hb dX4_settle_55 (lv_at hl 0 rfl) ?_
      refine lv_iconst (v := 0) hx hb dX4_settle_57 (by decide) ?_
      refine k_put hM hE hX (hR.2.2.1 (kj a) hja (kj b) hjb).1 fl rfl 3 (by decide) inX3 tyX3 tyX3_ok nmX3 k_583 (fun _ h => h) (Or.inl rfl) rfl rfl (Nat.le_of_ble_eq_true rfl) dX4_settle_58 (fun H locs hX => ?_)
      obtain ⟨F1, hX, eF1⟩ : ∃ F9 : kF, kX γ _ s _ F9 H locs ∧ F9 = va_up F (ad 2 (kj a) (kj b)) (.inr (8, [.int (M 15 (3 * (kj a) + (kj b))), .int (M 16 (3 * (kj a) + (kj b))), .int (M 14 (3 * (kj a) + (kj b))), .int 0])) := ⟨_, hX, rfl⟩
      have f1_o : F1 o = .inr (9, [.ref (ad 5 0 0), .ref (ad 5 1 0), .ref (ad 5 2 0), .ref (ad 7 0 0), .ref (ad 8 0 0), .int (M 0 0)]) := by rw [eF1, va_up_ne _ _ (fun h9 => by have h8 := fo; rw [h9, fl] at h8; cases h8)]; exact fo
      have f1__ad_1__kj_a__0_ : F1 (ad 1 (kj a) 0) = .inr (7, [.int (M 3 (kj a)), .int (M 4 (kj a)), .int (M 5 (kj a)), .int (M 7 (kj a)), .ref (ad 5 (3 + (kj a)) 0), .int (M 6 (kj a)), .int (aDay M (kj a)), .int (hasC M (nI (kj a))), .int (M 12 (kj a)), .int (M 9 (kj a)), .int (M 10 (kj a)), .int (M 11 (kj a))]) := by rw [eF1, va_up_ne _ _ (fun h9 => by have h8 := fi; rw [h9, fl] at h8; cases h8)]; exact fi
      have f1__ad_2__kj_a___kj_b__ : F1 (ad 2 (kj a) (kj b)) = .inr (8, [.int (M 15 (3 * (kj a) + (kj b))), .int (M 16 (3 * (kj a) + (kj b))), .int (M 14 (3 * (kj a) + (kj b))), .int 0]) := by rw [eF1]; exact va_up_self _ _ _
      refine lv_aload hx hb dX4_settle_61 (lv_at hl 1 rfl) ?_
      have hR2 : RepC γ L F1 o ad tg (mset (mset M 24 0 0) 17 (3 * kj a + kj b) 0) nd D := by
        rw [eF1]
        exact hR.wline hja hjb (by unfold lC; rw [show (mset (mset M 24 0 0) 17 (3 * kj a + kj b) 0) 17 (3 * kj a + kj b) = 0 from if_pos rfl]; rfl) rfl (fun _ => rfl) rfl rfl (fun _ => rfl) (fun i' j' hi' hj' hne => by unfold lC; rw [show (mset (mset M 24 0 0) 17 (3 * kj a + kj b) 0) 17 (3 * i' + j') = M 17 (3 * i' + j') from if_neg (fun e9 => hne (by have := (hI.2.1 i' hi').2; have := (hI.2.1 _ hja).2; constructor <;> omega))]; rfl) (fun _ => rfl) rfl rfl rfl
      have hI2 : Inv (mset (mset M 24 0 0) 17 (3 * kj a + kj b) 0) nd D := hI.s17 hja hjb (Or.inl rfl)
      refine k_goi (k_V (n := 0) (As := []) (rest := []) hM hE hX hl (c_X2_owedNow l γ L F1 o ad tg (mset (mset M 24 0 0) 17 (3 * kj a + kj b) 0) nd D hR2 hI2 (kj a) hja) (hR.2.1 (kj a) hja).1 f1__ad_1__kj_a__0_ rfl k_239 k_240 k_241 k_18 k_242 ⟨rfl, by decide, by decide, by decide +kernel⟩ (by decide) rfl rfl (Nat.le_of_ble_eq_true rfl) dX4_settle_63 (by decide)) hE hX (fun r L1 F1 H locs hp hX => ?_)
      obtain ⟨rfl, rfl, rfl⟩ := hp
      exact vx_ret (k_iret hM hsz hX ⟨_, rfl, (mset (mset M 24 0 0) 17 (3 * kj a + kj b) 0), ad, tg, nd, D, ((if_pos ⟨hcd, hcl⟩).trans ((if_neg c_1).trans ((if_pos c_2).trans rfl))), rfl, fun _ h => h, hR2, hI2, by omega⟩ (by decide) (by decide) dX4_settle_66)
    · refine lv_aload_n hx hb dX4_settle_38 rfl (lv_at hl 2 rfl) ?_
      refine x_gou (x_V (n := 0) (As := []) (rest := []) hM hE hX hl (c_X4_checkRoomForCredit l hfl γ L F o ad tg M nd D hR hI) hR.1.1 fo rfl k_619 k_621 kp_22 k_1 k_622 ⟨rfl, by decide, by decide, by decide +kernel⟩ (by decide) rfl rfl (Nat.le_of_ble_eq_true rfl) dX4_settle_39 (by decide)) hM hE hX htab ⟨rfl, rfl⟩ (fun E h => Or.inr ⟨h.1, by rw [show settleM M a b z = (0, (mset M 24 0 2)) from ((if_pos ⟨hcd, hcl⟩).trans ((if_neg c_1).trans ((if_neg c_2).trans ((if_pos h.2).trans rfl))))]; exact Thr1 M 2⟩) (by decide) (by decide) (fun L1 F1 H locs hp hX => ?_)
      obtain ⟨rfl, rfl, hc24⟩ := hp
      refine lv_aload_n hx hb dX4_settle_42 rfl (lv_at hl 2 rfl) ?_
      refine lv_aload hx hb dX4_settle_43 (lv_at hl 1 rfl) ?_
      refine lv_aload hx hb dX4_settle_45 (lv_at hl 0 rfl) ?_
      refine lv_aload hx hb dX4_settle_47 (lv_at hl 0 rfl) ?_
      refine k_get hM hE hX (hR.2.2.1 (kj a) hja (kj b) hjb).1 fl rfl 2 (by decide) inX3 k_580 (fun _ h => h) rfl dX4_settle_49 ?_
      refine k_gou (k_V (n := 3) (As := [.ref (ad 1 (kj a) 0), .ref (ad 2 (kj a) (kj b)), .int (M 14 (3 * (kj a) + (kj b)))]) (rest := []) hM hE hX hl (c_X4_makeCredit l γ L F o ad tg M nd D hR hI (kj a) (kj b) hja hjb (M 14 (3 * kj a + kj b)) hc24) hR.1.1 fo rfl k_624 k_626 kp_23 k_1 k_627 ⟨rfl, by decide, by decide, by decide +kernel⟩ (by decide) rfl rfl (Nat.le_of_ble_eq_true rfl) dX4_settle_52 (by decide)) hE hX (fun L2 F2 H locs hp hX => ?_)
      obtain ⟨hsub, q, tg1, hR3⟩ := hp
      have hnl : kj a < nn (lessM M (kj a) (kj b) (M 14 (3 * kj a + kj b))) := hja
      have hjl : kj b < kk (lessM M (kj a) (kj b) (M 14 (3 * kj a + kj b))) (kj a) := hjb
      have h3l : ∀ i', i' < nn (lessM M (kj a) (kj b) (M 14 (3 * kj a + kj b))) → kk (lessM M (kj a) (kj b) (M 14 (3 * kj a + kj b))) i' ≤ 3 := fun i' h => (hI.2.1 i' h).2
      have hs17 := fun F9 e9 => (RepC.s17l (by rw [show F9 = _ from e9]; exact hR3.s17 hnl hjl h3l 0) : RepC γ L2 F9 o (adD ad 3 (cc M) q) tg1 (lessM (mset (mset M 24 0 0) 17 (3 * kj a + kj b) 0) (kj a) (kj b) (M 14 (3 * kj a + kj b))) nd D)
      have m9 : ad 2 (kj a) (kj b) ∈ L2 := (hR3.2.2.1 (kj a) hja (kj b) hjb).1
      have f9 : F2 (ad 2 (kj a) (kj b)) = .inr (8, [.int ((lessM M (kj a) (kj b) (M 14 (3 * kj a + kj b))) 15 (3 * kj a + kj b)), .int ((lessM M (kj a) (kj b) (M 14 (3 * kj a + kj b))) 16 (3 * kj a + kj b)), .int ((lessM M (kj a) (kj b) (M 14 (3 * kj a + kj b))) 14 (3 * kj a + kj b)), .int ((lessM M (kj a) (kj b) (M 14 (3 * kj a + kj b))) 17 (3 * kj a + kj b))]) := (hR3.2.2.1 (kj a) hja (kj b) hjb).2.2
      refine lv_aload hx hb dX4_settle_55 (lv_at hl 0 rfl) ?_
      refine lv_iconst (v := 0) hx hb dX4_settle_57 (by decide) ?_
      refine k_put hM hE hX m9 f9 rfl 3 (by decide) inX3 tyX3 tyX3_ok nmX3 k_583 (fun _ h => h) (Or.inl rfl) rfl rfl (Nat.le_of_ble_eq_true rfl) dX4_settle_58 (fun H locs hX => ?_)
      obtain ⟨F1, hX, eF1⟩ : ∃ F9 : kF, kX γ _ s _ F9 H locs ∧ F9 = va_up F2 (ad 2 (kj a) (kj b)) (.inr (8, [.int ((lessM M (kj a) (kj b) (M 14 (3 * kj a + kj b))) 15 (3 * kj a + kj b)), .int ((lessM M (kj a) (kj b) (M 14 (3 * kj a + kj b))) 16 (3 * kj a + kj b)), .int ((lessM M (kj a) (kj b) (M 14 (3 * kj a + kj b))) 14 (3 * kj a + kj b)), .int 0])) := ⟨_, hX, rfl⟩
      have f1__ad_2__kj_a___kj_b__ : F1 (ad 2 (kj a) (kj b)) = .inr (8, [.int ((lessM M (kj a) (kj b) (M 14 (3 * kj a + kj b))) 15 (3 * kj a + kj b)), .int ((lessM M (kj a) (kj b) (M 14 (3 * kj a + kj b))) 16 (3 * kj a + kj b)), .int ((lessM M (kj a) (kj b) (M 14 (3 * kj a + kj b))) 14 (3 * kj a + kj b)), .int 0]) := by rw [eF1]; exact va_up_self _ _ _
      refine lv_aload hx hb dX4_settle_61 (lv_at hl 1 rfl) ?_
      have hR2 := hs17 F1 eF1
      have hI2 : Inv (lessM (mset (mset M 24 0 0) 17 (3 * kj a + kj b) 0) (kj a) (kj b) (M 14 (3 * kj a + kj b))) nd D := (hI.s17 hja hjb (Or.inl rfl)).less hja hjb hc24 (by show okI (M 14 (3 * kj a + kj b) - M 14 (3 * kj a + kj b)) 10000; rw [Int32.sub_self]; exact ⟨rfl, by decide⟩)
      have mi9 : ad 1 (kj a) 0 ∈ L2 := (hR2.2.1 (kj a) hja).1
      have hz4 : (lessM (mset (mset M 24 0 0) 17 (3 * kj a + kj b) 0) (kj a) (kj b) (M 14 (3 * kj a + kj b))) 24 0 = 0 := rfl
      refine k_goi (k_V (n := 0) (As := []) (rest := []) hM hE hX hl (c_X2_owedNow l γ L2 F1 o (adD ad 3 (cc M) q) tg1 (lessM (mset (mset M 24 0 0) 17 (3 * kj a + kj b) 0) (kj a) (kj b) (M 14 (3 * kj a + kj b))) nd D hR2 hI2 (kj a) hja) mi9 (hR2.2.1 (kj a) hja).2.2 rfl k_239 k_240 k_241 k_18 k_242 ⟨rfl, by decide, by decide, by decide +kernel⟩ (by decide) rfl rfl (Nat.le_of_ble_eq_true rfl) dX4_settle_63 (by decide)) hE hX (fun r L1 F1 H locs hp hX => ?_)
      obtain ⟨rfl, rfl, rfl⟩ := hp
      exact vx_ret (k_iret hM hsz hX ⟨_, rfl, (lessM (mset (mset M 24 0 0) 17 (3 * kj a + kj b) 0) (kj a) (kj b) (M 14 (3 * kj a + kj b))), adD ad 3 (cc M) q, tg1, nd, D, ((if_pos ⟨hcd, hcl⟩).trans ((if_neg c_1).trans ((if_neg c_2).trans ((if_neg (fun h9 => by rw [hI.2.2.1.1] at h9; exact absurd ((nI_eq (a := cc M) (b := 24) (by omega) (by decide)).mp h9) (by omega))).trans rfl)))), hz4, hsub, hR2, hI2, by omega⟩ (by decide) (by decide) dX4_settle_66)
  · exact x_throw0 (text := "the line is not disputed") hM hE hX hl htab hfl kat_IS hE.2.1.2.2.2.2.2.2.2.2.2.2.1.2.2 (by decide +kernel) k_264 k_17 ⟨rfl, rfl⟩ (by decide) (Or.inr ⟨rfl, by rw [show settleM M a b z = (0, (mset M 24 0 2)) from ((if_pos ⟨hcd, hcl⟩).trans ((if_pos c_1).trans rfl))]; exact Thr1 M 2⟩) dX4_settle_24 dX4_settle_27 (Or.inl ⟨dX4_settle_28, dX4_settle_30, dX4_settle_33⟩) (by decide) (by decide) (by decide)
