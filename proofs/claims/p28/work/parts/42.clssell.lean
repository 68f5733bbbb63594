section SI
variable {M : mM} {nd : Nat} {D : cD}
theorem RepC.same {γ : kG} {L : List Nat} {F : kF} {o : Nat} {ad : cAd} {tg : cTg} {M' : mM} (h : RepC γ L F o ad tg M nd D) (hn : nn M' = nn M) (hk : ∀ i, kk M' i = kk M i) (hc : cc M' = cc M) (h0 : oC ad M' = oC ad M) (ho : ∀ i, iC ad M' i = iC ad M i) (hl : ∀ i j, lC M' i j = lC M i j) (hr : ∀ k, rC ad M' k = rC ad M k) (h1 : M' 1 = M 1) (h22 : M' 22 0 = M 22 0) (h23 : M' 23 = M 23) : RepC γ L F o ad tg M' nd D := by
  unfold RepC
  simp only [hn, hk, hc, h0, ho, hl, hr, h1, h22, h23]
  exact h
theorem RepC.s24 {γ : kG} {L : List Nat} {F : kF} {o : Nat} {ad : cAd} {tg : cTg} (h : RepC γ L F o ad tg M nd D) (z : Int32) : RepC γ L F o ad tg (mset M 24 0 z) nd D :=
  h.same rfl (fun _ => rfl) rfl rfl (fun _ => rfl) (fun _ _ => rfl) (fun _ => rfl) rfl rfl rfl
theorem RepC.s9 {γ : kG} {L : List Nat} {F : kF} {o : Nat} {ad : cAd} {tg : cTg} (h : RepC γ L F o ad tg M nd D) {i : Nat} (hi : i < nn M) (v : Int32) : RepC γ L (va_up F (ad 1 i 0) (.inr (7, [.int (M 3 i), .int (M 4 i), .int (M 5 i), .int (M 7 i), .ref (ad 5 (3 + i) 0), .int (M 6 i), .int (aDay M i), .int (hasC M (nI i)), .int (M 12 i), .int v, .int (M 10 i), .int (M 11 i)]))) o ad tg (mset M 9 i v) nd D :=
  h.winv hi (by unfold iC; rw [mset_s]; rfl) rfl (fun _ => rfl) rfl rfl (fun i' hne => by unfold iC; rw [show mset M 9 i v 9 i' = M 9 i' from if_neg hne]; rfl) (fun _ _ => rfl) (fun _ => rfl) rfl rfl rfl
theorem Inv.s24 (hI : Inv M nd D) (z : Int32) : Inv (mset M 24 0 z) nd D := hI
theorem Inv.s9 (hI : Inv M nd D) {i : Nat} {v : Int32} (hv : okI v 6) : Inv (mset M 9 i v) nd D := by
  obtain ⟨h1, h2, h3, h4, h5, h6, h7, h8, h9, h10, h11, h12, h13, h14, h15⟩ := hI
  refine ⟨h1, h2, h3, h4, h5, fun k hk => ⟨(h6 k hk).1, (h6 k hk).2.1, ?_, (h6 k hk).2.2.2⟩, h7, h8, h9, h10, h11, h12, h13, h14, h15⟩
  by_cases e : k = i
  · subst e; rw [mset_s]; exact hv
  · rw [mset_n _ _ (fun h => e h.2)]; exact (h6 k hk).2.2.1
theorem Inv.s10 (hI : Inv M nd D) {i : Nat} (hi : i < nn M) (v : Int32) : Inv (mset M 10 i v) nd D := by
  obtain ⟨h1, h2, h3, h4, h5, h6, h7, h8, h9, h10, h11, h12, h13, h14, h15⟩ := hI
  exact ⟨h1, h2, h3, h4, h5, h6, h7, h8, h9, fun k hk => ⟨by rw [mset_n _ _ (fun h => by have : nn M ≤ k := hk; omega)]; exact (h10 k hk).1, (h10 k hk).2⟩, h11, h12, h13, h14, h15⟩
theorem Inv.s12 (hI : Inv M nd D) {i : Nat} (hi : i < nn M) (v : Int32) : Inv (mset M 12 i v) nd D := by
  obtain ⟨h1, h2, h3, h4, h5, h6, h7, h8, h9, h10, h11, h12, h13, h14, h15⟩ := hI
  exact ⟨h1, h2, h3, h4, h5, h6, h7, h8, h9, fun k hk => ⟨(h10 k hk).1, (h10 k hk).2.1, by rw [mset_n _ _ (fun h => by have : nn M ≤ k := hk; omega)]; exact (h10 k hk).2.2.1, (h10 k hk).2.2.2⟩, h11, h12, h13, h14, h15⟩
theorem Inv.s11 (hI : Inv M nd D) {i : Nat} (hi : i < nn M) {v : Int32} (hv : v = 0 ∨ v = 1) : Inv (mset M 11 i v) nd D := by
  obtain ⟨h1, h2, h3, h4, h5, h6, h7, h8, h9, h10, h11, h12, h13, h14, h15⟩ := hI
  refine ⟨h1, h2, h3, h4, h5, h6, h7, h8, h9, fun k hk => ⟨(h10 k hk).1, by rw [mset_n _ _ (fun h => by have : nn M ≤ k := hk; omega)]; exact (h10 k hk).2.1, (h10 k hk).2.2⟩, h11, fun k => ?_, h13, h14, h15⟩
  by_cases e : k = i
  · subst e; rw [mset_s]; exact hv
  · rw [mset_n _ _ (fun h => e h.2)]; exact h12 k
theorem vpz2 {z : Int32} (h : z = 0 ∨ z = 1) : narrow .boolean (.int z) = .int z := by rcases h with rfl | rfl <;> rfl
theorem vpf2 {z : Int32} (h : z = 0 ∨ z = 1) : fits .boolean (.int z) = true := by rcases h with rfl | rfl <;> rfl
end SI
set_option maxHeartbeats 4000000 in
set_option maxRecDepth 100000 in
theorem c_X4_sell (l : Launch) (hfl : l.stackTraces = false) (γ : kG) (L : List Nat) (F : kF) (o : Nat) (ad : cAd) (tg : cTg) (M : mM) (nd : Nat) (D : cD) (hR : RepC γ L F o ad tg M nd D) (hI : Inv M nd D) (hnd : nd < 512) (a b x z : Int32) (hz01 : z = 0 ∨ z = 1) : kD l yX4_sell cX4_sell 6 (some .int) (kRm 7 6 1100) γ L F [.ref o, .int a, .int b, .int x, .int z] (kI fun r L1 F1 => After γ L o nd (sellM M a b x z) r L1 F1) (fun E => (E = kIO ∧ Thr M (sellM M a b x z).2 1) ∨ (E = kIA ∧ Thr M (sellM M a b x z).2 2) ∨ (E = kIS ∧ Thr M (sellM M a b x z).2 3)) := by
  refine kD_of (by decide +kernel) (Nat.le_of_ble_eq_true rfl) ?_
  intro p e s m args below meth c sz ls hargs hsz hM htab hE hX hl
  have hx := hM.1
  have hb := hM.2.1
  have hl : lv_has ls 6 [(0, .ref o), (1, .int a), (2, .int b), (3, .int x), (4, .int z)] := hl
  have fo : F o = .inr (9, [.ref (ad 5 0 0), .ref (ad 5 1 0), .ref (ad 5 2 0), .ref (ad 7 0 0), .ref (ad 8 0 0), .int (M 0 0)]) := hR.1.2.2
  refine lv_aload_n hx hb dX4_sell_0 rfl (lv_at hl 0 rfl) ?_
  refine lv_iload_n hx hb dX4_sell_1 rfl (lv_at hl 1 rfl) ?_
  refine x_gor (x_V (n := 1) (As := [.int a]) (rest := []) hM hE hX hl (c_X4_invoiceAt l hfl γ L F o ad tg M nd D hR hI a) hR.1.1 fo rfl k_383 k_385 kp_11 k_1 k_386 ⟨rfl, by decide, by decide, by decide +kernel⟩ (by decide) rfl rfl (Nat.le_of_ble_eq_true rfl) dX4_sell_2 (by decide)) hM hE hX htab ⟨rfl, rfl⟩ (fun E h => Or.inl ⟨h.1, by rw [show sellM M a b x z = (0, (mset M 24 0 1)) from ((if_neg h.2).trans rfl)]; exact Thr1 M 1⟩) (by decide) (by decide) (fun q L1 F1 H locs hp hX => ?_)
  obtain ⟨rfl, rfl, rfl, hcd⟩ := hp
  have hja := (ixM hI.1 hcd).2
  have fi : F (ad 1 (kj a) 0) = .inr (7, [.int (M 3 (kj a)), .int (M 4 (kj a)), .int (M 5 (kj a)), .int (M 7 (kj a)), .ref (ad 5 (3 + (kj a)) 0), .int (M 6 (kj a)), .int (aDay M (kj a)), .int (hasC M (nI (kj a))), .int (M 12 (kj a)), .int (M 9 (kj a)), .int (M 10 (kj a)), .int (M 11 (kj a))]) := (hR.2.1 (kj a) hja).2.2
  refine lv_astore (lv' := [(5, .ref (ad 1 (kj a) 0)), (0, .ref o), (1, .int a), (2, .int b), (3, .int x), (4, .int z)]) hx hb dX4_sell_5 hl (by decide) rfl (fun ls hl => ?_)
  refine lv_aload_n hx hb dX4_sell_7 rfl (lv_at hl 1 rfl) ?_
  refine lv_iload_n hx hb dX4_sell_8 rfl (lv_at hl 3 rfl) ?_
  refine x_gou (x_V (n := 1) (As := [.int b]) (rest := []) hM hE hX hl (c_X4_checkCompany l hfl γ L F o b) hR.1.1 fo rfl k_125 k_127 kp_1 k_1 k_128 ⟨rfl, by decide, by decide, by decide +kernel⟩ (by decide) rfl rfl (Nat.le_of_ble_eq_true rfl) dX4_sell_9 (by decide)) hM hE hX htab ⟨rfl, rfl⟩ (fun E h => Or.inl ⟨h.1, by rw [show sellM M a b x z = (0, (mset M 24 0 1)) from ((if_pos hcd).trans ((if_neg h.2).trans rfl))]; exact Thr1 M 1⟩) (by decide) (by decide) (fun L1 F1 H locs hp hX => ?_)
  obtain ⟨rfl, rfl, hco⟩ := hp
  refine lv_iload_n hx hb dX4_sell_12 rfl (lv_at hl 4 rfl) ?_
  refine lv_iconst (v := 1) hx hb dX4_sell_13 (by decide) ?_
  refine lv_icmp_lt (tgt := 23) hx hb dX4_sell_14 (by decide) (fun c_1 => ?_) (fun c_1 => ?_)
  · exact x_throw0 (text := "the part is out of range") hM hE hX hl htab hfl kat_IA hE.2.1.2.2.2.2.2.2.2.2.2.2.1.2.1 (by decide +kernel) k_199 k_16 ⟨rfl, rfl⟩ (by decide) (Or.inr (Or.inl ⟨rfl, by rw [show sellM M a b x z = (0, (mset M 24 0 2)) from ((if_pos hcd).trans ((if_pos hco).trans ((if_neg (fun h => absurd c_1 (Int32.not_lt.mpr h.1))).trans rfl)))]; exact Thr1 M 2⟩)) dX4_sell_23 dX4_sell_26 (Or.inl ⟨dX4_sell_27, dX4_sell_29, dX4_sell_32⟩) (by decide) (by decide) (by decide)
  · refine lv_iload_n hx hb dX4_sell_17 rfl (lv_at hl 4 rfl) ?_
    refine lv_bipush (v := 100) hx hb dX4_sell_18 (by decide) ?_
    refine lv_icmp_le (tgt := 33) hx hb dX4_sell_20 (by decide) (fun c_2 => ?_) (fun c_2 => ?_)
    · refine lv_iload_n hx hb dX4_sell_33 rfl (lv_at hl 3 rfl) ?_
      refine lv_aload hx hb dX4_sell_34 (lv_at hl 0 rfl) ?_
      refine k_get hM hE hX (hR.2.1 (kj a) hja).1 fi rfl 0 (by decide) inX2 k_520 (fun _ h => h) rfl dX4_sell_36 ?_
      refine lv_icmp_eq (tgt := 51) hx hb dX4_sell_39 (by decide) (fun c_3 => ?_) (fun c_3 => ?_)
      · exact x_throw0 (text := "the company is the seller or the buyer") hM hE hX hl htab hfl kat_IA hE.2.1.2.2.2.2.2.2.2.2.2.2.1.2.1 (by decide +kernel) k_199 k_16 ⟨rfl, rfl⟩ (by decide) (Or.inr (Or.inl ⟨rfl, by rw [show sellM M a b x z = (0, (mset M 24 0 2)) from ((if_pos hcd).trans ((if_pos hco).trans ((if_pos ⟨Int32.not_lt.mp c_1, c_2⟩).trans ((if_pos c_3).trans rfl))))]; exact Thr1 M 2⟩)) dX4_sell_51 dX4_sell_54 (Or.inl ⟨dX4_sell_55, dX4_sell_57, dX4_sell_60⟩) (by decide) (by decide) (by decide)
      · refine lv_iload_n hx hb dX4_sell_42 rfl (lv_at hl 3 rfl) ?_
        refine lv_aload hx hb dX4_sell_43 (lv_at hl 0 rfl) ?_
        refine k_get hM hE hX (hR.2.1 (kj a) hja).1 fi rfl 1 (by decide) inX2 k_523 (fun _ h => h) rfl dX4_sell_45 ?_
        refine lv_icmp_ne (tgt := 61) hx hb dX4_sell_48 (by decide) (fun c_4 => ?_) (fun c_4 => ?_)
        · refine lv_aload_n hx hb dX4_sell_61 rfl (lv_at hl 1 rfl) ?_
          refine lv_aload hx hb dX4_sell_62 (lv_at hl 0 rfl) ?_
          refine x_gou (x_V (n := 1) (As := [.ref (ad 1 (kj a) 0)]) (rest := []) hM hE hX hl (c_X4_checkOwed l hfl γ L F o ad tg M nd D hR hI (kj a) hja) hR.1.1 fo rfl k_661 k_663 kp_24 k_1 k_664 ⟨rfl, by decide, by decide, by decide +kernel⟩ (by decide) rfl rfl (Nat.le_of_ble_eq_true rfl) dX4_sell_64 (by decide)) hM hE hX htab ⟨rfl, rfl⟩ (fun E h => Or.inr (Or.inr ⟨h.1, by rw [show sellM M a b x z = (0, (mset M 24 0 3)) from ((if_pos hcd).trans ((if_pos hco).trans ((if_pos ⟨Int32.not_lt.mp c_1, c_2⟩).trans ((if_neg c_3).trans ((if_neg c_4).trans ((if_pos h.2).trans rfl))))))]; exact Thr1 M 3⟩)) (by decide) (by decide) (fun L1 F1 H locs hp hX => ?_)
          obtain ⟨rfl, rfl, how0⟩ := hp
          refine lv_aload hx hb dX4_sell_67 (lv_at hl 0 rfl) ?_
          refine k_get hM hE hX (hR.2.1 (kj a) hja).1 fi rfl 9 (by decide) inX2 k_540 (fun _ h => h) rfl dX4_sell_69 ?_
          refine lv_aload hx hb dX4_sell_72 (lv_at hl 0 rfl) ?_
          refine k_get hM hE hX (hR.2.1 (kj a) hja).1 fi rfl 0 (by decide) inX2 k_520 (fun _ h => h) rfl dX4_sell_74 ?_
          refine lv_icmp_eq (tgt := 90) hx hb dX4_sell_77 (by decide) (fun c_5 => ?_) (fun c_5 => ?_)
          · refine lv_aload_n hx hb dX4_sell_90 rfl (lv_at hl 1 rfl) ?_
            refine k_gou (k_V (n := 0) (As := []) (rest := []) hM hE hX hl (c_X4_checkRoomForDocument l γ L F o ad tg M nd D hR hI hnd) hR.1.1 fo rfl k_260 k_262 kp_4 k_1 k_263 ⟨rfl, by decide, by decide, by decide +kernel⟩ (by decide) rfl rfl (Nat.le_of_ble_eq_true rfl) dX4_sell_91 (by decide)) hE hX (fun L1 F1 H locs hp hX => ?_)
            obtain ⟨rfl, rfl⟩ := hp
            refine lv_aload hx hb dX4_sell_94 (lv_at hl 0 rfl) ?_
            refine lv_aload hx hb dX4_sell_96 (lv_at hl 0 rfl) ?_
            refine k_goi (k_V (n := 0) (As := []) (rest := [.ref (ad 1 (kj a) 0)]) hM hE hX hl (c_X2_owedNow l γ L F o ad tg M nd D hR hI (kj a) hja) (hR.2.1 (kj a) hja).1 fi rfl k_239 k_240 k_241 k_18 k_242 ⟨rfl, by decide, by decide, by decide +kernel⟩ (by decide) rfl rfl (Nat.le_of_ble_eq_true rfl) dX4_sell_98 (by decide)) hE hX (fun r L1 F1 H locs hp hX => ?_)
            obtain ⟨rfl, rfl, rfl⟩ := hp
            refine lv_iload_n hx hb dX4_sell_101 rfl (lv_at hl 4 rfl) ?_
            refine lv_imul hx hb dX4_sell_102 ?_
            refine lv_bipush (v := 100) hx hb dX4_sell_103 (by decide) ?_
            refine lv_idiv hx hb dX4_sell_105 (by decide) ?_
            refine k_put hM hE hX (hR.2.1 (kj a) hja).1 fi rfl 10 (by decide) inX2 tyX2 tyX2_ok nmX2 k_542 (fun _ h => h) (Or.inl rfl) rfl rfl (Nat.le_of_ble_eq_true rfl) dX4_sell_106 (fun H locs hX => ?_)
            obtain ⟨F1, hX, eF1⟩ : ∃ F9 : kF, kX γ _ s _ F9 H locs ∧ F9 = va_up F (ad 1 (kj a) 0) (.inr (7, [.int (M 3 (kj a)), .int (M 4 (kj a)), .int (M 5 (kj a)), .int (M 7 (kj a)), .ref (ad 5 (3 + (kj a)) 0), .int (M 6 (kj a)), .int (aDay M (kj a)), .int (hasC M (nI (kj a))), .int (M 12 (kj a)), .int (M 9 (kj a)), .int (((owed M (kj a)) * x) / 100), .int (M 11 (kj a))])) := ⟨_, hX, rfl⟩
            have f1_o : F1 o = .inr (9, [.ref (ad 5 0 0), .ref (ad 5 1 0), .ref (ad 5 2 0), .ref (ad 7 0 0), .ref (ad 8 0 0), .int (M 0 0)]) := by rw [eF1, va_up_ne _ _ (fun h9 => by have h8 := fo; rw [h9, fi] at h8; cases h8)]; exact fo
            have f1__ad_1__kj_a__0_ : F1 (ad 1 (kj a) 0) = .inr (7, [.int (M 3 (kj a)), .int (M 4 (kj a)), .int (M 5 (kj a)), .int (M 7 (kj a)), .ref (ad 5 (3 + (kj a)) 0), .int (M 6 (kj a)), .int (aDay M (kj a)), .int (hasC M (nI (kj a))), .int (M 12 (kj a)), .int (M 9 (kj a)), .int (((owed M (kj a)) * x) / 100), .int (M 11 (kj a))]) := by rw [eF1]; exact va_up_self _ _ _
            refine lv_aload hx hb dX4_sell_109 (lv_at hl 0 rfl) ?_
            refine lv_iload hx hb dX4_sell_111 (lv_at hl 5 rfl) ?_
            refine k_put hM hE hX (hR.2.1 (kj a) hja).1 f1__ad_1__kj_a__0_ rfl 11 (by decide) inX2 tyX2 tyX2_ok nmX2 k_544 (fun _ h => h) (Or.inl rfl) (vpz2 hz01) (vpf2 hz01) (Nat.le_of_ble_eq_true rfl) dX4_sell_113 (fun H locs hX => ?_)
            obtain ⟨F2, hX, eF2⟩ : ∃ F9 : kF, kX γ _ s _ F9 H locs ∧ F9 = va_up F1 (ad 1 (kj a) 0) (.inr (7, [.int (M 3 (kj a)), .int (M 4 (kj a)), .int (M 5 (kj a)), .int (M 7 (kj a)), .ref (ad 5 (3 + (kj a)) 0), .int (M 6 (kj a)), .int (aDay M (kj a)), .int (hasC M (nI (kj a))), .int (M 12 (kj a)), .int (M 9 (kj a)), .int (((owed M (kj a)) * x) / 100), .int z])) := ⟨_, hX, rfl⟩
            have f2_o : F2 o = .inr (9, [.ref (ad 5 0 0), .ref (ad 5 1 0), .ref (ad 5 2 0), .ref (ad 7 0 0), .ref (ad 8 0 0), .int (M 0 0)]) := by rw [eF2, va_up_ne _ _ (fun h9 => by have h8 := f1_o; rw [h9, f1__ad_1__kj_a__0_] at h8; cases h8)]; exact f1_o
            have f2__ad_1__kj_a__0_ : F2 (ad 1 (kj a) 0) = .inr (7, [.int (M 3 (kj a)), .int (M 4 (kj a)), .int (M 5 (kj a)), .int (M 7 (kj a)), .ref (ad 5 (3 + (kj a)) 0), .int (M 6 (kj a)), .int (aDay M (kj a)), .int (hasC M (nI (kj a))), .int (M 12 (kj a)), .int (M 9 (kj a)), .int (((owed M (kj a)) * x) / 100), .int z]) := by rw [eF2]; exact va_up_self _ _ _
            refine lv_aload hx hb dX4_sell_116 (lv_at hl 0 rfl) ?_
            refine lv_iload_n hx hb dX4_sell_118 rfl (lv_at hl 3 rfl) ?_
            refine k_put hM hE hX (hR.2.1 (kj a) hja).1 f2__ad_1__kj_a__0_ rfl 9 (by decide) inX2 tyX2 tyX2_ok nmX2 k_540 (fun _ h => h) (Or.inl rfl) rfl rfl (Nat.le_of_ble_eq_true rfl) dX4_sell_119 (fun H locs hX => ?_)
            obtain ⟨F3, hX, eF3⟩ : ∃ F9 : kF, kX γ _ s _ F9 H locs ∧ F9 = va_up F2 (ad 1 (kj a) 0) (.inr (7, [.int (M 3 (kj a)), .int (M 4 (kj a)), .int (M 5 (kj a)), .int (M 7 (kj a)), .ref (ad 5 (3 + (kj a)) 0), .int (M 6 (kj a)), .int (aDay M (kj a)), .int (hasC M (nI (kj a))), .int (M 12 (kj a)), .int b, .int (((owed M (kj a)) * x) / 100), .int z])) := ⟨_, hX, rfl⟩
            have f3_o : F3 o = .inr (9, [.ref (ad 5 0 0), .ref (ad 5 1 0), .ref (ad 5 2 0), .ref (ad 7 0 0), .ref (ad 8 0 0), .int (M 0 0)]) := by rw [eF3, va_up_ne _ _ (fun h9 => by have h8 := f2_o; rw [h9, f2__ad_1__kj_a__0_] at h8; cases h8)]; exact f2_o
            have f3__ad_1__kj_a__0_ : F3 (ad 1 (kj a) 0) = .inr (7, [.int (M 3 (kj a)), .int (M 4 (kj a)), .int (M 5 (kj a)), .int (M 7 (kj a)), .ref (ad 5 (3 + (kj a)) 0), .int (M 6 (kj a)), .int (aDay M (kj a)), .int (hasC M (nI (kj a))), .int (M 12 (kj a)), .int b, .int (((owed M (kj a)) * x) / 100), .int z]) := by rw [eF3]; exact va_up_self _ _ _
            refine lv_aload_n hx hb dX4_sell_122 rfl (lv_at hl 1 rfl) ?_
            refine lv_iload_n hx hb dX4_sell_123 rfl (lv_at hl 3 rfl) ?_
            refine lv_aload hx hb dX4_sell_124 (lv_at hl 0 rfl) ?_
            refine k_get hM hE hX (hR.2.1 (kj a) hja).1 f3__ad_1__kj_a__0_ rfl 0 (by decide) inX2 k_520 (fun _ h => h) rfl dX4_sell_126 ?_
            refine lv_aload hx hb dX4_sell_129 (lv_at hl 0 rfl) ?_
            refine k_get hM hE hX (hR.2.1 (kj a) hja).1 f3__ad_1__kj_a__0_ rfl 10 (by decide) inX2 k_542 (fun _ h => h) rfl dX4_sell_131 ?_
            have hs6 := hI.2.2.2.2.2.1 _ hja
            have hR2 : RepC γ L F3 o ad tg (mset (mset (mset (mset M 24 0 0) 10 (kj a) (((owed M (kj a)) * x) / 100)) 11 (kj a) z) 9 (kj a) b) nd D := by
              rw [eF3, eF2, eF1, bx_uu, bx_uu]
              exact hR.winv hja (by unfold iC; rw [show (mset (mset (mset (mset M 24 0 0) 10 (kj a) (((owed M (kj a)) * x) / 100)) 11 (kj a) z) 9 (kj a) b) 10 (kj a) = (((owed M (kj a)) * x) / 100) from if_pos rfl, show (mset (mset (mset (mset M 24 0 0) 10 (kj a) (((owed M (kj a)) * x) / 100)) 11 (kj a) z) 9 (kj a) b) 11 (kj a) = z from if_pos rfl, show (mset (mset (mset (mset M 24 0 0) 10 (kj a) (((owed M (kj a)) * x) / 100)) 11 (kj a) z) 9 (kj a) b) 9 (kj a) = b from if_pos rfl]; rfl) rfl (fun _ => rfl) rfl rfl (fun i' hne => by unfold iC; rw [show (mset (mset (mset (mset M 24 0 0) 10 (kj a) (((owed M (kj a)) * x) / 100)) 11 (kj a) z) 9 (kj a) b) 10 i' = M 10 i' from if_neg hne, show (mset (mset (mset (mset M 24 0 0) 10 (kj a) (((owed M (kj a)) * x) / 100)) 11 (kj a) z) 9 (kj a) b) 11 i' = M 11 i' from if_neg hne, show (mset (mset (mset (mset M 24 0 0) 10 (kj a) (((owed M (kj a)) * x) / 100)) 11 (kj a) z) 9 (kj a) b) 9 i' = M 9 i' from if_neg hne]; rfl) (fun _ _ => rfl) (fun _ => rfl) rfl rfl rfl
            have hI2 : Inv (mset (mset (mset (mset M 24 0 0) 10 (kj a) (((owed M (kj a)) * x) / 100)) 11 (kj a) z) 9 (kj a) b) nd D := (((hI.s24 0).s10 hja (((owed M (kj a)) * x) / 100)).s11 hja hz01).s9 (okI_5 hco)
            refine k_gou (k_V (n := 3) (As := [.int b, .int (M 3 (kj a)), .int (((owed M (kj a)) * x) / 100)]) (rest := []) hM hE hX hl (c_X4_moveCash l γ L F3 o ad tg (mset (mset (mset (mset M 24 0 0) 10 (kj a) (((owed M (kj a)) * x) / 100)) 11 (kj a) z) 9 (kj a) b) nd D hR2 hnd b (M 3 (kj a)) (((owed M (kj a)) * x) / 100) (okI_5 hco) hs6.1) hR.1.1 f3_o rfl k_284 k_286 kp_6 k_1 k_287 ⟨rfl, by decide, by decide, by decide +kernel⟩ (by decide) rfl rfl (Nat.le_of_ble_eq_true rfl) dX4_sell_134 (by decide)) hE hX (fun L2 F4 H locs hp hX => ?_)
            obtain ⟨hsub, q, tg1, hR3⟩ := hp
            have m9 : ad 1 (kj a) 0 ∈ L2 := (hR3.2.1 (kj a) hja).1
            have f9 : F4 (ad 1 (kj a) 0) = .inr (7, [.int ((movesM (mset (mset (mset (mset M 24 0 0) 10 (kj a) (((owed M (kj a)) * x) / 100)) 11 (kj a) z) 9 (kj a) b) (kj b) (kj (M 3 (kj a))) (((owed M (kj a)) * x) / 100)) 3 (kj a)), .int ((movesM (mset (mset (mset (mset M 24 0 0) 10 (kj a) (((owed M (kj a)) * x) / 100)) 11 (kj a) z) 9 (kj a) b) (kj b) (kj (M 3 (kj a))) (((owed M (kj a)) * x) / 100)) 4 (kj a)), .int ((movesM (mset (mset (mset (mset M 24 0 0) 10 (kj a) (((owed M (kj a)) * x) / 100)) 11 (kj a) z) 9 (kj a) b) (kj b) (kj (M 3 (kj a))) (((owed M (kj a)) * x) / 100)) 5 (kj a)), .int ((movesM (mset (mset (mset (mset M 24 0 0) 10 (kj a) (((owed M (kj a)) * x) / 100)) 11 (kj a) z) 9 (kj a) b) (kj b) (kj (M 3 (kj a))) (((owed M (kj a)) * x) / 100)) 7 (kj a)), .ref (adD ad 4 nd q 5 (3 + kj a) 0), .int ((movesM (mset (mset (mset (mset M 24 0 0) 10 (kj a) (((owed M (kj a)) * x) / 100)) 11 (kj a) z) 9 (kj a) b) (kj b) (kj (M 3 (kj a))) (((owed M (kj a)) * x) / 100)) 6 (kj a)), .int (aDay (movesM (mset (mset (mset (mset M 24 0 0) 10 (kj a) (((owed M (kj a)) * x) / 100)) 11 (kj a) z) 9 (kj a) b) (kj b) (kj (M 3 (kj a))) (((owed M (kj a)) * x) / 100)) (kj a)), .int (hasC (movesM (mset (mset (mset (mset M 24 0 0) 10 (kj a) (((owed M (kj a)) * x) / 100)) 11 (kj a) z) 9 (kj a) b) (kj b) (kj (M 3 (kj a))) (((owed M (kj a)) * x) / 100)) (nI (kj a))), .int ((movesM (mset (mset (mset (mset M 24 0 0) 10 (kj a) (((owed M (kj a)) * x) / 100)) 11 (kj a) z) 9 (kj a) b) (kj b) (kj (M 3 (kj a))) (((owed M (kj a)) * x) / 100)) 12 (kj a)), .int ((movesM (mset (mset (mset (mset M 24 0 0) 10 (kj a) (((owed M (kj a)) * x) / 100)) 11 (kj a) z) 9 (kj a) b) (kj b) (kj (M 3 (kj a))) (((owed M (kj a)) * x) / 100)) 9 (kj a)), .int ((movesM (mset (mset (mset (mset M 24 0 0) 10 (kj a) (((owed M (kj a)) * x) / 100)) 11 (kj a) z) 9 (kj a) b) (kj b) (kj (M 3 (kj a))) (((owed M (kj a)) * x) / 100)) 10 (kj a)), .int ((movesM (mset (mset (mset (mset M 24 0 0) 10 (kj a) (((owed M (kj a)) * x) / 100)) 11 (kj a) z) 9 (kj a) b) (kj b) (kj (M 3 (kj a))) (((owed M (kj a)) * x) / 100)) 11 (kj a))]) := (hR3.2.1 (kj a) hja).2.2
            refine lv_aload hx hb dX4_sell_137 (lv_at hl 0 rfl) ?_
            refine k_get hM hE hX m9 f9 rfl 10 (by decide) inX2 k_542 (fun _ h => h) rfl dX4_sell_139 ?_
            have hI3 : Inv (movesM (mset (mset (mset (mset M 24 0 0) 10 (kj a) (((owed M (kj a)) * x) / 100)) 11 (kj a) z) 9 (kj a) b) (kj b) (kj (M 3 (kj a))) (((owed M (kj a)) * x) / 100)) (nd + 1) (dput D nd (b, M 3 (kj a), (((owed M (kj a)) * x) / 100))) := hI2.move (okI_5 hco).2 hs6.1.2 (fun e9 => c_3 (by rw [(okI_5 hco).1, hs6.1.1, e9])) (fun d hd => dput_n D _ hd) (by rw [dput_s, ← (okI_5 hco).1, ← hs6.1.1])
            exact vx_ret (k_iret hM hsz hX ⟨_, rfl, (movesM (mset (mset (mset (mset M 24 0 0) 10 (kj a) (((owed M (kj a)) * x) / 100)) 11 (kj a) z) 9 (kj a) b) (kj b) (kj (M 3 (kj a))) (((owed M (kj a)) * x) / 100)), adD ad 4 nd q, tg1, nd + 1, _, (by rw [show (movesM (mset (mset (mset (mset M 24 0 0) 10 (kj a) (((owed M (kj a)) * x) / 100)) 11 (kj a) z) 9 (kj a) b) (kj b) (kj (M 3 (kj a))) (((owed M (kj a)) * x) / 100)) 10 (kj a) = (((owed M (kj a)) * x) / 100) from if_pos rfl]; exact ((if_pos hcd).trans ((if_pos hco).trans ((if_pos ⟨Int32.not_lt.mp c_1, c_2⟩).trans ((if_neg c_3).trans ((if_neg c_4).trans ((if_neg how0).trans ((if_pos c_5).trans rfl)))))))), rfl, hsub, hR3, hI3, Nat.le_refl _⟩ (by decide) (by decide) dX4_sell_142)
          · exact x_throw0 (text := "the seller does not hold the invoice") hM hE hX hl htab hfl kat_IS hE.2.1.2.2.2.2.2.2.2.2.2.2.1.2.2 (by decide +kernel) k_264 k_17 ⟨rfl, rfl⟩ (by decide) (Or.inr (Or.inr ⟨rfl, by rw [show sellM M a b x z = (0, (mset M 24 0 3)) from ((if_pos hcd).trans ((if_pos hco).trans ((if_pos ⟨Int32.not_lt.mp c_1, c_2⟩).trans ((if_neg c_3).trans ((if_neg c_4).trans ((if_neg how0).trans ((if_neg c_5).trans rfl)))))))]; exact Thr1 M 3⟩)) dX4_sell_80 dX4_sell_83 (Or.inl ⟨dX4_sell_84, dX4_sell_86, dX4_sell_89⟩) (by decide) (by decide) (by decide)
        · exact x_throw0 (text := "the company is the seller or the buyer") hM hE hX hl htab hfl kat_IA hE.2.1.2.2.2.2.2.2.2.2.2.2.1.2.1 (by decide +kernel) k_199 k_16 ⟨rfl, rfl⟩ (by decide) (Or.inr (Or.inl ⟨rfl, by rw [show sellM M a b x z = (0, (mset M 24 0 2)) from ((if_pos hcd).trans ((if_pos hco).trans ((if_pos ⟨Int32.not_lt.mp c_1, c_2⟩).trans ((if_neg c_3).trans ((if_pos c_4).trans rfl)))))]; exact Thr1 M 2⟩)) dX4_sell_51 dX4_sell_54 (Or.inl ⟨dX4_sell_55, dX4_sell_57, dX4_sell_60⟩) (by decide) (by decide) (by decide)
    · exact x_throw0 (text := "the part is out of range") hM hE hX hl htab hfl kat_IA hE.2.1.2.2.2.2.2.2.2.2.2.2.1.2.1 (by decide +kernel) k_199 k_16 ⟨rfl, rfl⟩ (by decide) (Or.inr (Or.inl ⟨rfl, by rw [show sellM M a b x z = (0, (mset M 24 0 2)) from ((if_pos hcd).trans ((if_pos hco).trans ((if_neg (fun h => c_2 h.2)).trans rfl)))]; exact Thr1 M 2⟩)) dX4_sell_23 dX4_sell_26 (Or.inl ⟨dX4_sell_27, dX4_sell_29, dX4_sell_32⟩) (by decide) (by decide) (by decide)
set_option maxHeartbeats 4000000 in
set_option maxRecDepth 100000 in
theorem c_X4_giveBack (l : Launch) (hfl : l.stackTraces = false) (γ : kG) (L : List Nat) (F : kF) (o : Nat) (ad : cAd) (tg : cTg) (M : mM) (nd : Nat) (D : cD) (hR : RepC γ L F o ad tg M nd D) (hI : Inv M nd D) (hnd : nd < 512) (a : Int32) : kD l yX4_giveBack cX4_giveBack 3 (some .int) (kRm 7 6 1100) γ L F [.ref o, .int a] (kI fun r L1 F1 => After γ L o nd (giveBackM M a) r L1 F1) (fun E => (E = kIO ∧ Thr M (giveBackM M a).2 1) ∨ (E = kIS ∧ Thr M (giveBackM M a).2 2)) := by
  refine kD_of (by decide +kernel) (Nat.le_of_ble_eq_true rfl) ?_
  intro p e s m args below meth c sz ls hargs hsz hM htab hE hX hl
  have hx := hM.1
  have hb := hM.2.1
  have hl : lv_has ls 3 [(0, .ref o), (1, .int a)] := hl
  have fo : F o = .inr (9, [.ref (ad 5 0 0), .ref (ad 5 1 0), .ref (ad 5 2 0), .ref (ad 7 0 0), .ref (ad 8 0 0), .int (M 0 0)]) := hR.1.2.2
  refine lv_aload_n hx hb dX4_giveBack_0 rfl (lv_at hl 0 rfl) ?_
  refine lv_iload_n hx hb dX4_giveBack_1 rfl (lv_at hl 1 rfl) ?_
  refine x_gor (x_V (n := 1) (As := [.int a]) (rest := []) hM hE hX hl (c_X4_invoiceAt l hfl γ L F o ad tg M nd D hR hI a) hR.1.1 fo rfl k_383 k_385 kp_11 k_1 k_386 ⟨rfl, by decide, by decide, by decide +kernel⟩ (by decide) rfl rfl (Nat.le_of_ble_eq_true rfl) dX4_giveBack_2 (by decide)) hM hE hX htab ⟨rfl, rfl⟩ (fun E h => Or.inl ⟨h.1, by rw [show giveBackM M a = (0, (mset M 24 0 1)) from ((if_neg h.2).trans rfl)]; exact Thr1 M 1⟩) (by decide) (by decide) (fun q L1 F1 H locs hp hX => ?_)
  obtain ⟨rfl, rfl, rfl, hcd⟩ := hp
  have hja := (ixM hI.1 hcd).2
  have fi : F (ad 1 (kj a) 0) = .inr (7, [.int (M 3 (kj a)), .int (M 4 (kj a)), .int (M 5 (kj a)), .int (M 7 (kj a)), .ref (ad 5 (3 + (kj a)) 0), .int (M 6 (kj a)), .int (aDay M (kj a)), .int (hasC M (nI (kj a))), .int (M 12 (kj a)), .int (M 9 (kj a)), .int (M 10 (kj a)), .int (M 11 (kj a))]) := (hR.2.1 (kj a) hja).2.2
  refine lv_astore_n (lv' := [(2, .ref (ad 1 (kj a) 0)), (0, .ref o), (1, .int a)]) hx hb dX4_giveBack_5 rfl hl (by decide) rfl (fun ls hl => ?_)
  refine lv_aload_n hx hb dX4_giveBack_6 rfl (lv_at hl 0 rfl) ?_
  refine k_get hM hE hX (hR.2.1 (kj a) hja).1 fi rfl 9 (by decide) inX2 k_540 (fun _ h => h) rfl dX4_giveBack_7 ?_
  refine lv_aload_n hx hb dX4_giveBack_10 rfl (lv_at hl 0 rfl) ?_
  refine k_get hM hE hX (hR.2.1 (kj a) hja).1 fi rfl 0 (by decide) inX2 k_520 (fun _ h => h) rfl dX4_giveBack_11 ?_
  refine lv_icmp_ne (tgt := 27) hx hb dX4_giveBack_14 (by decide) (fun c_1 => ?_) (fun c_1 => ?_)
  · refine lv_aload_n hx hb dX4_giveBack_27 rfl (lv_at hl 0 rfl) ?_
    refine k_get hM hE hX (hR.2.1 (kj a) hja).1 fi rfl 11 (by decide) inX2 k_544 (fun _ h => h) rfl dX4_giveBack_28 ?_
    refine lv_if_ne (tgt := 44) hx hb dX4_giveBack_31 (by decide) (fun c_2 => ?_) (fun c_2 => ?_)
    · refine lv_aload_n hx hb dX4_giveBack_44 rfl (lv_at hl 1 rfl) ?_
      refine lv_aload_n hx hb dX4_giveBack_45 rfl (lv_at hl 0 rfl) ?_
      refine x_gou (x_V (n := 1) (As := [.ref (ad 1 (kj a) 0)]) (rest := []) hM hE hX hl (c_X4_checkOwed l hfl γ L F o ad tg M nd D hR hI (kj a) hja) hR.1.1 fo rfl k_661 k_663 kp_24 k_1 k_664 ⟨rfl, by decide, by decide, by decide +kernel⟩ (by decide) rfl rfl (Nat.le_of_ble_eq_true rfl) dX4_giveBack_46 (by decide)) hM hE hX htab ⟨rfl, rfl⟩ (fun E h => Or.inr ⟨h.1, by rw [show giveBackM M a = (0, (mset M 24 0 2)) from ((if_pos hcd).trans ((if_neg c_1).trans ((if_neg c_2).trans ((if_pos h.2).trans rfl))))]; exact Thr1 M 2⟩) (by decide) (by decide) (fun L1 F1 H locs hp hX => ?_)
      obtain ⟨rfl, rfl, how0⟩ := hp
      refine lv_aload_n hx hb dX4_giveBack_49 rfl (lv_at hl 1 rfl) ?_
      refine k_gou (k_V (n := 0) (As := []) (rest := []) hM hE hX hl (c_X4_checkRoomForDocument l γ L F o ad tg M nd D hR hI hnd) hR.1.1 fo rfl k_260 k_262 kp_4 k_1 k_263 ⟨rfl, by decide, by decide, by decide +kernel⟩ (by decide) rfl rfl (Nat.le_of_ble_eq_true rfl) dX4_giveBack_50 (by decide)) hE hX (fun L1 F1 H locs hp hX => ?_)
      obtain ⟨rfl, rfl⟩ := hp
      refine lv_aload_n hx hb dX4_giveBack_53 rfl (lv_at hl 1 rfl) ?_
      refine lv_aload_n hx hb dX4_giveBack_54 rfl (lv_at hl 0 rfl) ?_
      refine k_get hM hE hX (hR.2.1 (kj a) hja).1 fi rfl 0 (by decide) inX2 k_520 (fun _ h => h) rfl dX4_giveBack_55 ?_
      refine lv_aload_n hx hb dX4_giveBack_58 rfl (lv_at hl 0 rfl) ?_
      refine k_get hM hE hX (hR.2.1 (kj a) hja).1 fi rfl 9 (by decide) inX2 k_540 (fun _ h => h) rfl dX4_giveBack_59 ?_
      refine lv_aload_n hx hb dX4_giveBack_62 rfl (lv_at hl 0 rfl) ?_
      refine k_get hM hE hX (hR.2.1 (kj a) hja).1 fi rfl 10 (by decide) inX2 k_542 (fun _ h => h) rfl dX4_giveBack_63 ?_
      have hs6 := hI.2.2.2.2.2.1 _ hja
      refine k_gou (k_V (n := 3) (As := [.int (M 3 (kj a)), .int (M 9 (kj a)), .int (M 10 (kj a))]) (rest := []) hM hE hX hl (c_X4_moveCash l γ L F o ad tg (mset M 24 0 0) nd D (hR.s24 0) hnd (M 3 (kj a)) (M 9 (kj a)) (M 10 (kj a)) hs6.1 hs6.2.2.1) hR.1.1 fo rfl k_284 k_286 kp_6 k_1 k_287 ⟨rfl, by decide, by decide, by decide +kernel⟩ (by decide) rfl rfl (Nat.le_of_ble_eq_true rfl) dX4_giveBack_66 (by decide)) hE hX (fun L2 F2 H locs hp hX => ?_)
      obtain ⟨hsub, q, tg1, hR3⟩ := hp
      have m9 : ad 1 (kj a) 0 ∈ L2 := (hR3.2.1 (kj a) hja).1
      have f9 : F2 (ad 1 (kj a) 0) = .inr (7, [.int ((movesM (mset M 24 0 0) (kj (M 3 (kj a))) (kj (M 9 (kj a))) (M 10 (kj a))) 3 (kj a)), .int ((movesM (mset M 24 0 0) (kj (M 3 (kj a))) (kj (M 9 (kj a))) (M 10 (kj a))) 4 (kj a)), .int ((movesM (mset M 24 0 0) (kj (M 3 (kj a))) (kj (M 9 (kj a))) (M 10 (kj a))) 5 (kj a)), .int ((movesM (mset M 24 0 0) (kj (M 3 (kj a))) (kj (M 9 (kj a))) (M 10 (kj a))) 7 (kj a)), .ref (adD ad 4 nd q 5 (3 + kj a) 0), .int ((movesM (mset M 24 0 0) (kj (M 3 (kj a))) (kj (M 9 (kj a))) (M 10 (kj a))) 6 (kj a)), .int (aDay (movesM (mset M 24 0 0) (kj (M 3 (kj a))) (kj (M 9 (kj a))) (M 10 (kj a))) (kj a)), .int (hasC (movesM (mset M 24 0 0) (kj (M 3 (kj a))) (kj (M 9 (kj a))) (M 10 (kj a))) (nI (kj a))), .int ((movesM (mset M 24 0 0) (kj (M 3 (kj a))) (kj (M 9 (kj a))) (M 10 (kj a))) 12 (kj a)), .int ((movesM (mset M 24 0 0) (kj (M 3 (kj a))) (kj (M 9 (kj a))) (M 10 (kj a))) 9 (kj a)), .int ((movesM (mset M 24 0 0) (kj (M 3 (kj a))) (kj (M 9 (kj a))) (M 10 (kj a))) 10 (kj a)), .int ((movesM (mset M 24 0 0) (kj (M 3 (kj a))) (kj (M 9 (kj a))) (M 10 (kj a))) 11 (kj a))]) := (hR3.2.1 (kj a) hja).2.2
      refine lv_aload_n hx hb dX4_giveBack_69 rfl (lv_at hl 0 rfl) ?_
      refine lv_aload_n hx hb dX4_giveBack_70 rfl (lv_at hl 0 rfl) ?_
      refine k_get hM hE hX m9 f9 rfl 0 (by decide) inX2 k_520 (fun _ h => h) rfl dX4_giveBack_71 ?_
      refine k_put hM hE hX m9 f9 rfl 9 (by decide) inX2 tyX2 tyX2_ok nmX2 k_540 (fun _ h => h) (Or.inl rfl) rfl rfl (Nat.le_of_ble_eq_true rfl) dX4_giveBack_74 (fun H locs hX => ?_)
      obtain ⟨F1, hX, eF1⟩ : ∃ F9 : kF, kX γ _ s _ F9 H locs ∧ F9 = va_up F2 (ad 1 (kj a) 0) (.inr (7, [.int ((movesM (mset M 24 0 0) (kj (M 3 (kj a))) (kj (M 9 (kj a))) (M 10 (kj a))) 3 (kj a)), .int ((movesM (mset M 24 0 0) (kj (M 3 (kj a))) (kj (M 9 (kj a))) (M 10 (kj a))) 4 (kj a)), .int ((movesM (mset M 24 0 0) (kj (M 3 (kj a))) (kj (M 9 (kj a))) (M 10 (kj a))) 5 (kj a)), .int ((movesM (mset M 24 0 0) (kj (M 3 (kj a))) (kj (M 9 (kj a))) (M 10 (kj a))) 7 (kj a)), .ref (adD ad 4 nd q 5 (3 + kj a) 0), .int ((movesM (mset M 24 0 0) (kj (M 3 (kj a))) (kj (M 9 (kj a))) (M 10 (kj a))) 6 (kj a)), .int (aDay (movesM (mset M 24 0 0) (kj (M 3 (kj a))) (kj (M 9 (kj a))) (M 10 (kj a))) (kj a)), .int (hasC (movesM (mset M 24 0 0) (kj (M 3 (kj a))) (kj (M 9 (kj a))) (M 10 (kj a))) (nI (kj a))), .int ((movesM (mset M 24 0 0) (kj (M 3 (kj a))) (kj (M 9 (kj a))) (M 10 (kj a))) 12 (kj a)), .int ((movesM (mset M 24 0 0) (kj (M 3 (kj a))) (kj (M 9 (kj a))) (M 10 (kj a))) 3 (kj a)), .int ((movesM (mset M 24 0 0) (kj (M 3 (kj a))) (kj (M 9 (kj a))) (M 10 (kj a))) 10 (kj a)), .int ((movesM (mset M 24 0 0) (kj (M 3 (kj a))) (kj (M 9 (kj a))) (M 10 (kj a))) 11 (kj a))])) := ⟨_, hX, rfl⟩
      have f1__ad_1__kj_a__0_ : F1 (ad 1 (kj a) 0) = .inr (7, [.int ((movesM (mset M 24 0 0) (kj (M 3 (kj a))) (kj (M 9 (kj a))) (M 10 (kj a))) 3 (kj a)), .int ((movesM (mset M 24 0 0) (kj (M 3 (kj a))) (kj (M 9 (kj a))) (M 10 (kj a))) 4 (kj a)), .int ((movesM (mset M 24 0 0) (kj (M 3 (kj a))) (kj (M 9 (kj a))) (M 10 (kj a))) 5 (kj a)), .int ((movesM (mset M 24 0 0) (kj (M 3 (kj a))) (kj (M 9 (kj a))) (M 10 (kj a))) 7 (kj a)), .ref (adD ad 4 nd q 5 (3 + kj a) 0), .int ((movesM (mset M 24 0 0) (kj (M 3 (kj a))) (kj (M 9 (kj a))) (M 10 (kj a))) 6 (kj a)), .int (aDay (movesM (mset M 24 0 0) (kj (M 3 (kj a))) (kj (M 9 (kj a))) (M 10 (kj a))) (kj a)), .int (hasC (movesM (mset M 24 0 0) (kj (M 3 (kj a))) (kj (M 9 (kj a))) (M 10 (kj a))) (nI (kj a))), .int ((movesM (mset M 24 0 0) (kj (M 3 (kj a))) (kj (M 9 (kj a))) (M 10 (kj a))) 12 (kj a)), .int ((movesM (mset M 24 0 0) (kj (M 3 (kj a))) (kj (M 9 (kj a))) (M 10 (kj a))) 3 (kj a)), .int ((movesM (mset M 24 0 0) (kj (M 3 (kj a))) (kj (M 9 (kj a))) (M 10 (kj a))) 10 (kj a)), .int ((movesM (mset M 24 0 0) (kj (M 3 (kj a))) (kj (M 9 (kj a))) (M 10 (kj a))) 11 (kj a))]) := by rw [eF1]; exact va_up_self _ _ _
      refine lv_aload_n hx hb dX4_giveBack_77 rfl (lv_at hl 0 rfl) ?_
      refine k_get hM hE hX m9 f1__ad_1__kj_a__0_ rfl 10 (by decide) inX2 k_542 (fun _ h => h) rfl dX4_giveBack_78 ?_
      have e3 : (movesM (mset M 24 0 0) (kj (M 3 (kj a))) (kj (M 9 (kj a))) (M 10 (kj a))) 3 (kj a) = M 3 (kj a) := rfl
      have e10 : (movesM (mset M 24 0 0) (kj (M 3 (kj a))) (kj (M 9 (kj a))) (M 10 (kj a))) 10 (kj a) = M 10 (kj a) := rfl
      have hR4 : RepC γ L2 F1 o (adD ad 4 nd q) tg1 (mset (movesM (mset M 24 0 0) (kj (M 3 (kj a))) (kj (M 9 (kj a))) (M 10 (kj a))) 9 (kj a) ((movesM (mset M 24 0 0) (kj (M 3 (kj a))) (kj (M 9 (kj a))) (M 10 (kj a))) 3 (kj a))) (nd + 1) (dput D nd (M 3 (kj a), M 9 (kj a), M 10 (kj a))) := by rw [eF1]; exact hR3.s9 (show kj a < nn (movesM (mset M 24 0 0) (kj (M 3 (kj a))) (kj (M 9 (kj a))) (M 10 (kj a))) from hja) ((movesM (mset M 24 0 0) (kj (M 3 (kj a))) (kj (M 9 (kj a))) (M 10 (kj a))) 3 (kj a))
      rw [e3] at hR4
      have hI3 : Inv (mset (movesM (mset M 24 0 0) (kj (M 3 (kj a))) (kj (M 9 (kj a))) (M 10 (kj a))) 9 (kj a) (M 3 (kj a))) (nd + 1) (dput D nd (M 3 (kj a), M 9 (kj a), M 10 (kj a))) := ((hI.s24 0).move hs6.1.2 hs6.2.2.1.2 (fun e9 => c_1 (by rw [hs6.1.1, hs6.2.2.1.1, e9])) (fun d hd => dput_n D _ hd) (by rw [dput_s, ← hs6.1.1, ← hs6.2.2.1.1])).s9 hs6.1
      exact vx_ret (k_iret hM hsz hX ⟨_, rfl, (mset (movesM (mset M 24 0 0) (kj (M 3 (kj a))) (kj (M 9 (kj a))) (M 10 (kj a))) 9 (kj a) (M 3 (kj a))), adD ad 4 nd q, tg1, nd + 1, _, (by rw [e10]; exact ((if_pos hcd).trans ((if_neg c_1).trans ((if_neg c_2).trans ((if_neg how0).trans rfl))))), rfl, hsub, hR4, hI3, Nat.le_refl _⟩ (by decide) (by decide) dX4_giveBack_81)
    · exact x_throw0 (text := "the invoice was sold without recourse") hM hE hX hl htab hfl kat_IS hE.2.1.2.2.2.2.2.2.2.2.2.2.1.2.2 (by decide +kernel) k_264 k_17 ⟨rfl, rfl⟩ (by decide) (Or.inr ⟨rfl, by rw [show giveBackM M a = (0, (mset M 24 0 2)) from ((if_pos hcd).trans ((if_neg c_1).trans ((if_pos c_2).trans rfl)))]; exact Thr1 M 2⟩) dX4_giveBack_34 dX4_giveBack_37 (Or.inl ⟨dX4_giveBack_38, dX4_giveBack_40, dX4_giveBack_43⟩) (by decide) (by decide) (by decide)
  · exact x_throw0 (text := "the seller holds the invoice") hM hE hX hl htab hfl kat_IS hE.2.1.2.2.2.2.2.2.2.2.2.2.1.2.2 (by decide +kernel) k_264 k_17 ⟨rfl, rfl⟩ (by decide) (Or.inr ⟨rfl, by rw [show giveBackM M a = (0, (mset M 24 0 2)) from ((if_pos hcd).trans ((if_pos c_1).trans rfl))]; exact Thr1 M 2⟩) dX4_giveBack_17 dX4_giveBack_20 (Or.inl ⟨dX4_giveBack_21, dX4_giveBack_23, dX4_giveBack_26⟩) (by decide) (by decide) (by decide)
