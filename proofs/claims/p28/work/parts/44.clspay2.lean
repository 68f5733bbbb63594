/-- a draft without a fault: an R and one digit or two -/
theorem draft_ok {M : mM} (hd : okD M) (h : cfault M = -1) : (dd M = 2 ∧ 48 ≤ M 23 1 ∧ M 23 1 ≤ 57) ∨ (dd M = 3 ∧ (48 ≤ M 23 1 ∧ M 23 1 ≤ 57) ∧ 48 ≤ M 23 2 ∧ M 23 2 ≤ 57) := by
  obtain ⟨e, l⟩ := hd
  unfold cfault at h
  generalize hn : dd M = n at e l h
  by_cases c1 : nI n < 1
  · rw [if_pos c1] at h; exact absurd h (by decide)
  rw [if_neg c1] at h
  have c2 : M 23 0 = 82 := Classical.byContradiction fun c => by rw [if_neg c] at h; exact absurd h (by decide)
  rw [if_pos c2] at h
  by_cases c3 : nI n < 2
  · rw [if_pos c3] at h; exact absurd h (by decide)
  rw [if_neg c3] at h
  have l2 : 1 < n := dlt 1 l (by decide) c3
  have c4 : 48 ≤ M 23 1 ∧ M 23 1 ≤ 57 := Classical.byContradiction fun c => by rw [if_neg c] at h; exact absurd h (by decide)
  rw [if_pos c4] at h
  by_cases c5 : 3 ≤ nI n
  · rw [if_pos c5] at h
    have l3 : 2 < n := dge 2 l (by decide) c5
    have c6 : 48 ≤ M 23 2 ∧ M 23 2 ≤ 57 := Classical.byContradiction fun c => by rw [if_neg c] at h; exact absurd h (by decide)
    rw [if_pos c6] at h
    have c7 : nI n = 3 := Classical.byContradiction fun c => by rw [if_neg c] at h; exact absurd h (by decide)
    exact Or.inr ⟨(nI_eq (a := n) (b := 3) (by omega) (by decide)).mp c7, c4, c6⟩
  · refine Or.inl ⟨?_, c4⟩
    have := Nat.not_lt.mp (fun q => c5 (nI_le (a := 3) (b := n) q (by omega)))
    omega
theorem dig {z : Int32} (h : 48 ≤ z ∧ z ≤ 57) : okI (z - 48) 10 := by
  have h1 := okI_lit (n := 57) (by decide) (Int32.le_trans (show (0 : Int32) ≤ 48 by decide) h.1) h.2
  have h2 : 48 ≤ kj z := (nI_leI (a := 48) (b := kj z) (by decide) (by have := h1.2; omega)).mp (by rw [← h1.1]; exact h.1)
  have e : z - 48 = nI (kj z - 48) := by
    conv => lhs; rw [h1.1]
    exact pk_sub (b := 48) h2
  have e3 : kj (z - 48) = kj z - 48 := by rw [e]; exact nI_clamp (by have := h1.2; omega)
  exact ⟨by rw [e3]; exact e, by rw [e3]; have := h1.2; omega⟩
theorem its2 {M : mM} (hd : okD M) (h : cfault M = -1) (h2 : dd M = 2) : itsM M = M 23 1 - 48 := by
  unfold itsM
  rw [← fault_eq hd, if_pos h, hd.1, h2]; rfl
theorem its3 {M : mM} (hd : okD M) (h : cfault M = -1) (h2 : dd M = 3) : itsM M = 10 * (M 23 1 - 48) + M 23 2 - 48 := by
  unfold itsM
  rw [← fault_eq hd, if_pos h, hd.1, h2]; rfl
theorem num3 (y z : Int32) : (0 * 10 + y) * 10 + (z - 48) = 10 * y + z - 48 := by
  rw [show (0 * 10 + y : Int32) = y from by rw [show (0 * 10 : Int32) = 0 from rfl, Int32.zero_add], Int32.mul_comm, Int32.sub_eq_add_neg, Int32.sub_eq_add_neg, Int32.add_assoc]
theorem num2 (y : Int32) : 0 * 10 + y = y := by rw [show (0 * 10 : Int32) = 0 from rfl, Int32.zero_add]
theorem its_ok {M : mM} (hd : okD M) (h : cfault M = -1) : okI (itsM M) 1000 := by
  rcases draft_ok hd h with ⟨h2, h3⟩ | ⟨h2, h3, h4⟩
  · rw [its2 hd h h2]; exact okI_mono (dig h3) (by decide)
  · rw [its3 hd h h2, ← num3, num2]
    have a1 := dig h3
    have a2 := dig h4
    have e : (M 23 1 - 48) * 10 = nI (kj (M 23 1 - 48) * 10) := by
      conv => lhs; rw [a1.1]
      exact pk_mul _ 10
    have e3 : kj ((M 23 1 - 48) * 10) = kj (M 23 1 - 48) * 10 := by rw [e]; exact nI_clamp (by have := a1.2; omega)
    have a3 : okI ((M 23 1 - 48) * 10) (90 + 1) := ⟨by rw [e3]; exact e, by rw [e3]; have := a1.2; omega⟩
    exact okI_mono (okI_add (m := 90) (n := 9) a3 a2 (by decide)) (by decide)
theorem c_num {γ : kG} {L : List Nat} {F : kF} (l : Launch) (o : Nat) (ad : cAd) (tg : cTg) (M : mM) (nd : Nat) (D : cD) (hR : RepC γ L F o ad tg M nd D) (hI : Inv M nd D) (h : cfault M = -1) : kC l yX4_numberOfDraft cX4_numberOfDraft 3 (some .int) (kRm 4 0 0) γ L F [.ref o] (kI fun r L1 F1 => L = L1 ∧ F = F1 ∧ r = itsM M) := by
  rcases draft_ok hI.2.2.2.1 h with ⟨h2, -⟩ | ⟨h2, -⟩
  · have key := c2_X4_numberOfDraft l γ L F o ad tg M nd D hR hI h2
    rw [its2 hI.2.2.2.1 h h2, show M 23 1 - 48 = 0 * 10 + (M 23 1 - 48) from (num2 _).symm]
    exact key
  · have key := c3_X4_numberOfDraft l γ L F o ad tg M nd D hR hI h2
    rw [its3 hI.2.2.2.1 h h2, ← num3]
    exact key
theorem pt_head {M : mM} {a b x : Int32} (h : (0 ≤ a ∧ a ≤ 5) ∧ (0 ≤ b ∧ b ≤ 5) ∧ (1 ≤ x ∧ x ≤ 99999) ∧ ¬ a = b) : payTextM M a b x = ptail M a b x (itsM (mset M 24 0 0)) := by
  unfold payTextM; rw [pays0 h, if_pos (by decide)]
theorem off_itsM (M : mM) (z : Int32) : itsM (mset M 24 0 z) = itsM M := by
  unfold itsM; rw [off_faultM]; rfl
theorem pt_bad {M : mM} {a b x : Int32} (h : (0 ≤ a ∧ a ≤ 5) ∧ (0 ≤ b ∧ b ≤ 5) ∧ (1 ≤ x ∧ x ≤ 99999) ∧ ¬ a = b) (hd : okD M) (h2 : ¬ cfault M = -1) : payTextM M a b x = (0, mset (mset M 24 0 0) 24 0 3) := by
  rw [pt_head h, off_itsM]
  unfold itsM; rw [← fault_eq hd, if_neg h2]
  unfold ptail; rw [pays0 h]; exact if_neg (fun h9 => absurd h9.1 (by decide))
theorem pt_no {M : mM} {a b x : Int32} (h : (0 ≤ a ∧ a ≤ 5) ∧ (0 ≤ b ∧ b ≤ 5) ∧ (1 ≤ x ∧ x ≤ 99999) ∧ ¬ a = b) (h2 : ¬ ((0 ≤ itsM M ∧ itsM M ≤ M 2 0 - 1) ∧ M 4 (kj (itsM M)) = a ∧ M 9 (kj (itsM M)) = b ∧ ¬ owed M (kj (itsM M)) < x)) : payTextM M a b x = (0, mset (mset M 24 0 0) 24 0 3) := by
  rw [pt_head h, off_itsM]
  unfold ptail; rw [pays0 h, off_owed]
  by_cases c1 : 0 ≤ itsM M ∧ itsM M ≤ M 2 0 - 1
  · rw [if_pos c1]
    by_cases c2 : M 4 (kj (itsM M)) = a
    · rw [if_pos c2]
      by_cases c3 : M 9 (kj (itsM M)) = b
      · rw [if_pos c3]
        by_cases c4 : owed M (kj (itsM M)) < x
        · rw [if_pos c4]
        · exact absurd ⟨c1, c2, c3, c4⟩ h2
      · rw [if_neg c3]
    · rw [if_neg c2]
  · rw [if_neg c1]
theorem pt_yes {M : mM} {a b x : Int32} (h : (0 ≤ a ∧ a ≤ 5) ∧ (0 ≤ b ∧ b ≤ 5) ∧ (1 ≤ x ∧ x ≤ 99999) ∧ ¬ a = b) (c1 : 0 ≤ itsM M ∧ itsM M ≤ M 2 0 - 1) (c2 : M 4 (kj (itsM M)) = a) (c3 : M 9 (kj (itsM M)) = b) (c4 : x ≤ owed M (kj (itsM M))) : payTextM M a b x = (itsM M, mset (movesM (mset (mset (mset M 24 0 0) 24 0 0) 12 (kj (itsM M)) ((M 12 (kj (itsM M))) + x)) (kj a) (kj b) x) 22 0 0) := by
  rw [pt_head h, off_itsM]
  unfold ptail; rw [pays0 h, off_owed, if_pos c1, if_pos c2, if_pos c3, if_neg (Int32.not_lt.mpr c4)]
theorem RepC.s22 {γ : kG} {L : List Nat} {F : kF} {o : Nat} {ad : cAd} {tg : cTg} {M : mM} {nd : Nat} {D : cD} (h : RepC γ L F o ad tg M nd D) (ml : Int32) : RepC γ L (va_up F (ad 8 0 0) (.inr (1, [.ref (ad 9 0 0), .int 0, .int ml, .int 0]))) o ad tg (mset M 22 0 0) nd D :=
  h.wsb rfl rfl (fun _ => rfl) rfl rfl (fun _ => rfl) (fun _ _ => rfl) (fun _ => rfl) rfl rfl
theorem Inv.clr2 {M : mM} {nd : Nat} {D : cD} (hI : Inv M nd D) : Inv (mset M 22 0 0) nd D := hI.clr
set_option maxHeartbeats 4000000 in
set_option maxRecDepth 100000 in
theorem c_X4_payByText (l : Launch) (hfl : l.stackTraces = false) (γ : kG) (L : List Nat) (F : kF) (o : Nat) (ad : cAd) (tg : cTg) (M : mM) (nd : Nat) (D : cD) (hR : RepC γ L F o ad tg M nd D) (hI : Inv M nd D) (hnd : nd < 512) (a b x : Int32) : kD l yX4_payByText cX4_payByText 6 (some .int) (kRm 8 7 1100) γ L F [.ref o, .int a, .int b, .int x] (kI fun r L1 F1 => After γ L o nd (payTextM M a b x) r L1 F1) (fun E => (E = kIO ∧ Thr M (payTextM M a b x).2 1) ∨ (E = kIA ∧ Thr M (payTextM M a b x).2 2) ∨ (E = kIS ∧ Thr M (payTextM M a b x).2 3)) := by
  refine kD_of (by decide +kernel) (Nat.le_of_ble_eq_true rfl) ?_
  intro p e s m args below meth c sz ls hargs hsz hM htab hE hX hl
  have hx := hM.1
  have hb := hM.2.1
  have hl : lv_has ls 6 [(0, .ref o), (1, .int a), (2, .int b), (3, .int x)] := hl
  obtain ⟨mli, mci, ei, eli⟩ := Lst.recv hR.2.2.2.2.2.1
  have hn2 := hI.1.2
  refine lv_aload_n hx hb dX4_payByText_0 rfl (lv_at hl 0 rfl) ?_
  refine lv_iload_n hx hb dX4_payByText_1 rfl (lv_at hl 1 rfl) ?_
  refine lv_iload_n hx hb dX4_payByText_2 rfl (lv_at hl 2 rfl) ?_
  refine lv_iload_n hx hb dX4_payByText_3 rfl (lv_at hl 3 rfl) ?_
  refine x_gou (x_V (n := 3) (As := [.int a, .int b, .int x]) (rest := []) hM hE hX hl (c_X4_checkPayment l hfl γ L F o _ hR.1.1 hR.1.2.2 a b x) hR.1.1 hR.1.2.2 rfl k_121 k_123 kp_0 k_1 k_124 ⟨rfl, by decide, by decide, by decide +kernel⟩ (by decide) rfl rfl (Nat.le_of_ble_eq_true rfl) dX4_payByText_4 (by decide)) hM hE hX htab ⟨rfl, rfl⟩ (fun E h => h.elim (fun h => Or.inl ⟨h.1, by rw [payText_thr h.2 (by decide)]; exact Thr1 M 1⟩) (fun h => Or.inr (Or.inl ⟨h.1, by rw [payText_thr h.2 (by decide)]; exact Thr1 M 2⟩))) (by decide) (by decide) (fun L1 F1 H locs hp hX => ?_)
  obtain ⟨rfl, rfl, hpa⟩ := hp
  refine lv_aload_n hx hb dX4_payByText_7 rfl (lv_at hl 0 rfl) ?_
  refine k_goi (k_V (n := 0) (As := []) (rest := []) hM hE hX hl (c_X4_faultOfDraft l γ L F o ad tg M nd D hR hI) hR.1.1 hR.1.2.2 rfl k_768 k_770 kp_25 k_1 k_771 ⟨rfl, by decide, by decide, by decide +kernel⟩ (by decide) rfl rfl (Nat.le_of_ble_eq_true rfl) dX4_payByText_8 (by decide)) hE hX (fun r L1 F1 H locs hp hX => ?_)
  obtain ⟨rfl, rfl, rfl⟩ := hp
  refine lv_iconst (v := (-1)) hx hb dX4_payByText_11 (by decide) ?_
  refine lv_icmp_eq (tgt := 25) hx hb dX4_payByText_12 (by decide) (fun c_1 => ?_) (fun c_1 => ?_)
  · refine lv_aload_n hx hb dX4_payByText_25 rfl (lv_at hl 0 rfl) ?_
    refine k_goi (k_V (n := 0) (As := []) (rest := []) hM hE hX hl (c_num l o ad tg M nd D hR hI c_1) hR.1.1 hR.1.2.2 rfl k_788 k_790 kp_26 k_1 k_791 ⟨rfl, by decide, by decide, by decide +kernel⟩ (by decide) rfl rfl (Nat.le_of_ble_eq_true rfl) dX4_payByText_26 (by decide)) hE hX (fun r L1 F1 H locs hp hX => ?_)
    obtain ⟨rfl, rfl, rfl⟩ := hp
    refine lv_istore (lv' := [(4, .int (itsM M)), (0, .ref o), (1, .int a), (2, .int b), (3, .int x)]) hx hb dX4_payByText_29 hl (by decide) rfl (fun ls hl => ?_)
    refine lv_aload_n hx hb dX4_payByText_31 rfl (lv_at hl 1 rfl) ?_
    refine lv_iload hx hb dX4_payByText_32 (lv_at hl 0 rfl) ?_
    refine k_goi (k_V (n := 1) (As := [.int (itsM M)]) (rest := []) hM hE hX hl (c_X4_isInvoice l γ L F o ad tg M nd D hR hI (itsM M)) hR.1.1 hR.1.2.2 rfl k_387 k_389 kp_12 k_1 k_390 ⟨rfl, by decide, by decide, by decide +kernel⟩ (by decide) rfl rfl (Nat.le_of_ble_eq_true rfl) dX4_payByText_34 (by decide)) hE hX (fun r L1 F1 H locs hp hX => ?_)
    obtain ⟨rfl, rfl, ⟨rfl, h_2⟩ | ⟨rfl, h_2⟩⟩ := hp
    · refine lv_if_ne (tgt := 50) hx hb dX4_payByText_37 (by decide) (fun _ => ?_) (fun c_3 => absurd (show (1 : Int32) = 0 from c_3) (by decide))
      have hit := its_ok hI.2.2.2.1 c_1
      have hcd : 0 ≤ itsM M ∧ itsM M ≤ M 2 0 - 1 := h_2
      have hix := ixM hI.1 hcd
      have hja := hix.2
      refine lv_aload_n hx hb dX4_payByText_50 rfl (lv_at hl 1 rfl) ?_
      refine k_get hM hE hX hR.1.1 hR.1.2.2 rfl 0 (by decide) inX4 k_98 (fun _ h => h) rfl dX4_payByText_51 ?_
      refine lv_iload hx hb dX4_payByText_54 (lv_at hl 0 rfl) ?_
      refine k_gor (k_V (n := 1) (As := [.int (itsM M)]) (rest := []) hM hE hX hl (c_getx l hR.2.2.2.2.2.1 (kj (itsM M)) hja (itsM M) hix.1) mli eli rfl k_224 k_225 k_226 k_4 k_227 ⟨rfl, by decide, by decide, by decide +kernel⟩ (by decide) rfl rfl (Nat.le_of_ble_eq_true rfl) dX4_payByText_56 (by decide)) hE hX (fun r L1 F1 H locs hp hX => ?_)
      obtain ⟨rfl, rfl, rfl⟩ := hp
      refine k_cast hM hE hX (hR.2.1 (kj (itsM M)) hja).1 (hR.2.1 (kj (itsM M)) hja).2.2 rfl k_238 dX4_payByText_59 ?_
      refine lv_astore (lv' := [(5, .ref (ad 1 (kj (itsM M)) 0)), (4, .int (itsM M)), (0, .ref o), (1, .int a), (2, .int b), (3, .int x)]) hx hb dX4_payByText_62 hl (by decide) rfl (fun ls hl => ?_)
      refine lv_aload hx hb dX4_payByText_64 (lv_at hl 0 rfl) ?_
      refine k_get hM hE hX (hR.2.1 (kj (itsM M)) hja).1 (hR.2.1 (kj (itsM M)) hja).2.2 rfl 1 (by decide) inX2 k_523 (fun _ h => h) rfl dX4_payByText_66 ?_
      refine lv_iload_n hx hb dX4_payByText_69 rfl (lv_at hl 3 rfl) ?_
      refine lv_icmp_eq (tgt := 83) hx hb dX4_payByText_70 (by decide) (fun c_4 => ?_) (fun c_4 => ?_)
      · refine lv_aload hx hb dX4_payByText_83 (lv_at hl 0 rfl) ?_
        refine k_get hM hE hX (hR.2.1 (kj (itsM M)) hja).1 (hR.2.1 (kj (itsM M)) hja).2.2 rfl 9 (by decide) inX2 k_540 (fun _ h => h) rfl dX4_payByText_85 ?_
        refine lv_iload_n hx hb dX4_payByText_88 rfl (lv_at hl 4 rfl) ?_
        refine lv_icmp_eq (tgt := 102) hx hb dX4_payByText_89 (by decide) (fun c_5 => ?_) (fun c_5 => ?_)
        · refine lv_iload_n hx hb dX4_payByText_102 rfl (lv_at hl 5 rfl) ?_
          refine lv_aload hx hb dX4_payByText_103 (lv_at hl 0 rfl) ?_
          refine k_goi (k_V (n := 0) (As := []) (rest := [.int x]) hM hE hX hl (c_X2_owedNow l γ L F o ad tg M nd D hR hI (kj (itsM M)) hja) (hR.2.1 (kj (itsM M)) hja).1 (hR.2.1 (kj (itsM M)) hja).2.2 rfl k_239 k_240 k_241 k_18 k_242 ⟨rfl, by decide, by decide, by decide +kernel⟩ (by decide) rfl rfl (Nat.le_of_ble_eq_true rfl) dX4_payByText_105 (by decide)) hE hX (fun r L1 F1 H locs hp hX => ?_)
          obtain ⟨rfl, rfl, rfl⟩ := hp
          refine lv_icmp_le (tgt := 121) hx hb dX4_payByText_108 (by decide) (fun c_6 => ?_) (fun c_6 => ?_)
          · refine lv_aload_n hx hb dX4_payByText_121 rfl (lv_at hl 2 rfl) ?_
            refine k_gou (k_V (n := 0) (As := []) (rest := []) hM hE hX hl (c_X4_checkRoomForDocument l γ L F o ad tg M nd D hR hI hnd) hR.1.1 hR.1.2.2 rfl k_260 k_262 kp_4 k_1 k_263 ⟨rfl, by decide, by decide, by decide +kernel⟩ (by decide) rfl rfl (Nat.le_of_ble_eq_true rfl) dX4_payByText_122 (by decide)) hE hX (fun L1 F1 H locs hp hX => ?_)
            obtain ⟨rfl, rfl⟩ := hp
            refine lv_aload_n hx hb dX4_payByText_125 rfl (lv_at hl 2 rfl) ?_
            refine lv_aload hx hb dX4_payByText_126 (lv_at hl 0 rfl) ?_
            refine lv_iload_n hx hb dX4_payByText_128 rfl (lv_at hl 5 rfl) ?_
            refine k_gou (k_V (n := 2) (As := [.ref (ad 1 (kj (itsM M)) 0), .int x]) (rest := []) hM hE hX hl (c_X4_takePayment l γ L F o ad tg M nd D hR (kj (itsM M)) hja hnd x (hI.2.2.2.2.2.1 _ hja).2.1 (hI.2.2.2.2.2.1 _ hja).2.2.1) hR.1.1 hR.1.2.2 rfl k_280 k_282 kp_5 k_1 k_283 ⟨rfl, by decide, by decide, by decide +kernel⟩ (by decide) rfl rfl (Nat.le_of_ble_eq_true rfl) dX4_payByText_129 (by decide)) hE hX (fun L2 F2 H locs hp hX => ?_)
            obtain ⟨hsub, q, tg1, hR3⟩ := hp
            rw [c_4, c_5] at hR3
            have hR4 : RepC γ L2 F2 o (adD ad 4 nd q) tg1 (movesM (mset (mset (mset M 24 0 0) 24 0 0) 12 (kj (itsM M)) ((M 12 (kj (itsM M))) + x)) (kj a) (kj b) x) (nd + 1) (dput D nd (a, b, x)) := hR3.s24m
            have hI4 : Inv (movesM (mset (mset (mset M 24 0 0) 24 0 0) 12 (kj (itsM M)) ((M 12 (kj (itsM M))) + x)) (kj a) (kj b) x) (nd + 1) (dput D nd (a, b, x)) := hI.paid hja (okI_5 hpa.1) (okI_5 hpa.2.1) hpa.2.2.2 _ rfl
            have hM24 : mset (movesM (mset (mset (mset M 24 0 0) 24 0 0) 12 (kj (itsM M)) ((M 12 (kj (itsM M))) + x)) (kj a) (kj b) x) 22 0 0 24 0 = 0 := rfl
            have hpt := pt_yes hpa hcd c_4 c_5 c_6
            generalize (movesM (mset (mset (mset M 24 0 0) 24 0 0) 12 (kj (itsM M)) ((M 12 (kj (itsM M))) + x)) (kj a) (kj b) x) = MV at hR4 hI4 hM24 hpt
            obtain ⟨ml, msb, fsb⟩ := sb_recv hR4
            have hb9 := hR4.2.2.2.2.2.2.2.2.2.2.2
            have hd4 := hI4.2.2.2.1
            have fsb2 : F2 (adD ad 4 nd q 8 0 0) = .inr (1, [.ref (adD ad 4 nd q 9 0 0), .int 0, .int ml, .int (nI (dd MV))]) := by rw [← hd4.1]; exact fsb
            refine lv_aload_n hx hb dX4_payByText_132 rfl (lv_at hl 2 rfl) ?_
            refine k_get hM hE hX hR4.1.1 hR4.1.2.2 rfl 4 (by decide) inX4 k_102 (fun _ h => h) rfl dX4_payByText_133 ?_
            refine lv_iconst (v := 0) hx hb dX4_payByText_136 (by decide) ?_
            refine k_gou (k_V (n := 1) (As := [.int 0]) (rest := []) hM hE hX hl (c_J4_setLength_d00df l γ L2 F2 (adD ad 4 nd q 8 0 0) (adD ad 4 nd q 9 0 0) (dd MV) ml msb fsb2 hb9.1 (MV 23) hb9.2.2 (by have := hd4.2; omega)) msb fsb2 rfl k_795 k_796 k_797 k_6 k_798 ⟨rfl, by decide, by decide, by decide +kernel⟩ (by decide) rfl rfl (Nat.le_of_ble_eq_true rfl) dX4_payByText_137 (by decide)) hE hX (fun L3 F3 H locs hp hX => ?_)
            obtain ⟨ml1, hLL, eF⟩ := hp
            obtain rfl : L2 = L3 := hLL.symm
            have hR5 : RepC γ L2 F3 o (adD ad 4 nd q) tg1 (mset MV 22 0 0) (nd + 1) (dput D nd (a, b, x)) := by
              rw [eF]
              exact hR4.s22 ml1
            refine lv_iload hx hb dX4_payByText_140 (lv_at hl 1 rfl) ?_
            exact vx_ret (k_iret hM hsz hX ⟨_, rfl, _, adD ad 4 nd q, tg1, nd + 1, _, hpt, hM24, hsub, hR5, hI4.clr2, Nat.le_refl _⟩ (by decide) (by decide) dX4_payByText_142)
          · exact x_throw0 (text := "less is owed of the invoice") hM hE hX hl htab hfl kat_IS hE.2.1.2.2.2.2.2.2.2.2.2.2.1.2.2 (by decide +kernel) k_264 k_17 ⟨rfl, rfl⟩ (by decide) (Or.inr (Or.inr ⟨rfl, by rw [pt_no hpa (fun h => c_6 (Int32.not_lt.mp h.2.2.2))]; exact Thr2 M 0 3⟩)) dX4_payByText_111 dX4_payByText_114 (Or.inl ⟨dX4_payByText_115, dX4_payByText_117, dX4_payByText_120⟩) (by decide) (by decide) (by decide)
        · exact x_throw0 (text := "the paid company does not hold the invoice") hM hE hX hl htab hfl kat_IS hE.2.1.2.2.2.2.2.2.2.2.2.2.1.2.2 (by decide +kernel) k_264 k_17 ⟨rfl, rfl⟩ (by decide) (Or.inr (Or.inr ⟨rfl, by rw [pt_no hpa (fun h => c_5 h.2.2.1)]; exact Thr2 M 0 3⟩)) dX4_payByText_92 dX4_payByText_95 (Or.inl ⟨dX4_payByText_96, dX4_payByText_98, dX4_payByText_101⟩) (by decide) (by decide) (by decide)
      · exact x_throw0 (text := "the payer is not the buyer of the invoice") hM hE hX hl htab hfl kat_IS hE.2.1.2.2.2.2.2.2.2.2.2.2.1.2.2 (by decide +kernel) k_264 k_17 ⟨rfl, rfl⟩ (by decide) (Or.inr (Or.inr ⟨rfl, by rw [pt_no hpa (fun h => c_4 h.2.1)]; exact Thr2 M 0 3⟩)) dX4_payByText_73 dX4_payByText_76 (Or.inl ⟨dX4_payByText_77, dX4_payByText_79, dX4_payByText_82⟩) (by decide) (by decide) (by decide)
    · refine lv_if_ne (tgt := 50) hx hb dX4_payByText_37 (by decide) (fun c_7 => absurd (show ¬ (0 : Int32) = 0 from c_7) (by decide)) (fun _ => ?_)
      exact x_throw0 (text := "there is no such invoice") hM hE hX hl htab hfl kat_IS hE.2.1.2.2.2.2.2.2.2.2.2.2.1.2.2 (by decide +kernel) k_264 k_17 ⟨rfl, rfl⟩ (by decide) (Or.inr (Or.inr ⟨rfl, by rw [pt_no hpa (fun h => h_2 h.1)]; exact Thr2 M 0 3⟩)) dX4_payByText_40 dX4_payByText_43 (Or.inl ⟨dX4_payByText_44, dX4_payByText_46, dX4_payByText_49⟩) (by decide) (by decide) (by decide)
  · exact x_throw0 (text := "the draft has a fault") hM hE hX hl htab hfl kat_IS hE.2.1.2.2.2.2.2.2.2.2.2.2.1.2.2 (by decide +kernel) k_264 k_17 ⟨rfl, rfl⟩ (by decide) (Or.inr (Or.inr ⟨rfl, by rw [pt_bad hpa hI.2.2.2.1 c_1]; exact Thr2 M 0 3⟩)) dX4_payByText_15 dX4_payByText_18 (Or.inl ⟨dX4_payByText_19, dX4_payByText_21, dX4_payByText_24⟩) (by decide) (by decide) (by decide)
