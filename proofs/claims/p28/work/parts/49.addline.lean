theorem RepC.s24a {γ : kG} {L : List Nat} {F : kF} {o : Nat} {ad : cAd} {tg : cTg} {M : mM} {nd : Nat} {D : cD} (h : RepC γ L F o ad tg M nd D) : RepC γ L F o ad tg (mset (mset M 24 0 0) 24 0 0) nd D := (h.s24 0).s24 0
theorem ln_hw {M : mM} {i k : Nat} {x z : Int32} (h17 : M 17 (3 * i + k) = 0) (hk : kk M i = k) : lC (addsM M i x z) i k = .inr (8, [.int x, .int z, .int x, .int 0]) := by
  subst hk
  unfold lC
  rw [show addsM M i x z 15 (3 * i + kk M i) = x from if_pos rfl, show addsM M i x z 16 (3 * i + kk M i) = z from if_pos rfl, show addsM M i x z 14 (3 * i + kk M i) = x from if_pos rfl, show addsM M i x z 17 (3 * i + kk M i) = 0 from h17]
theorem RepC.lnA {γ : kG} {L L1 : List Nat} {F F1 : kF} {o : Nat} {ad : cAd} {tg tg1 : cTg} {M : mM} {nd : Nat} {D : cD} (h : RepC γ L F o ad tg M nd D) (hI : Inv M nd D) {i q : Nat} (hi : i < nn M) (h3 : kk M i < 3) {x z : Int32} (hm : But L F tg L1 F1 tg1 (3 + i)) (hq : has L1 F1 tg1 q (2, i, kk M i) (.inr (8, [.int x, .int z, .int x, .int 0])))
    (hl : Lst γ L1 F1 tg1 (ad 5 (3 + i) 0) (3 + i) (kk M i + 1) (fun j => adL ad i (kk M i) q 2 i j)) : RepC γ L1 F1 o (adL ad i (kk M i) q) tg1 (addsM M i x z) nd D :=
  h.ln hi hm hq (ln_hw (hI.2.2.2.2.2.2.2.2.2.2.1 i (kk M i) (Nat.le_refl _) h3) rfl) hl rfl (kk_adds (hI.2.1 i hi) x z) (fun i' hne => kk_adds_n hne x z) rfl rfl (fun _ => rfl)
    (fun i' j hi' hj => by
      have hne : ¬ 3 * i' + j = 3 * i + kk M i := fun e => by
        have := (hI.2.1 i' hi').2
        have e1 : i' = i := by omega
        subst e1; omega
      unfold lC
      rw [show addsM M i x z 15 (3 * i' + j) = M 15 (3 * i' + j) from if_neg hne, show addsM M i x z 16 (3 * i' + j) = M 16 (3 * i' + j) from if_neg hne, show addsM M i x z 14 (3 * i' + j) = M 14 (3 * i' + j) from if_neg hne]; rfl)
    (fun _ => rfl) rfl rfl rfl
set_option maxHeartbeats 4000000 in
set_option maxRecDepth 100000 in
theorem c_X4_addLine (l : Launch) (hfl : l.stackTraces = false) (γ : kG) (L : List Nat) (F : kF) (o : Nat) (ad : cAd) (tg : cTg) (M : mM) (nd : Nat) (D : cD) (hR : RepC γ L F o ad tg M nd D) (hI : Inv M nd D) (a x y : Int32) : kD l yX4_addLine cX4_addLine 5 (some .int) (kRm 7 7 1100) γ L F [.ref o, .int a, .int x, .int y] (kI fun r L1 F1 => After γ L o nd (addLineM M a x y) r L1 F1) (fun E => (E = kIO ∧ Thr M (addLineM M a x y).2 1) ∨ (E = kIA ∧ Thr M (addLineM M a x y).2 2) ∨ (E = kIS ∧ Thr M (addLineM M a x y).2 3)) := by
  refine kD_of (by decide +kernel) (Nat.le_of_ble_eq_true rfl) ?_
  intro p e s m args below meth c sz ls hargs hsz hM htab hE hX hl
  have hx := hM.1
  have hb := hM.2.1
  have hl : lv_has ls 5 [(0, .ref o), (1, .int a), (2, .int x), (3, .int y)] := hl
  have fo : F o = .inr (9, [.ref (ad 5 0 0), .ref (ad 5 1 0), .ref (ad 5 2 0), .ref (ad 7 0 0), .ref (ad 8 0 0), .int (M 0 0)]) := hR.1.2.2
  refine lv_aload_n hx hb dX4_addLine_0 rfl (lv_at hl 0 rfl) ?_
  refine lv_iload_n hx hb dX4_addLine_1 rfl (lv_at hl 1 rfl) ?_
  refine x_gor (x_V (n := 1) (As := [.int a]) (rest := []) hM hE hX hl (c_X4_invoiceAt l hfl γ L F o ad tg M nd D hR hI a) hR.1.1 fo rfl k_383 k_385 kp_11 k_1 k_386 ⟨rfl, by decide, by decide, by decide +kernel⟩ (by decide) rfl rfl (Nat.le_of_ble_eq_true rfl) dX4_addLine_2 (by decide)) hM hE hX htab ⟨rfl, rfl⟩ (fun E h => Or.inl ⟨h.1, by rw [show addLineM M a x y = (0, (mset M 24 0 1)) from ((if_neg h.2).trans rfl)]; exact Thr1 M 1⟩) (by decide) (by decide) (fun q L1 F1 H locs hp hX => ?_)
  obtain ⟨rfl, rfl, rfl, hcd⟩ := hp
  have hja := (ixM hI.1 hcd).2
  have fi : F (ad 1 (kj a) 0) = .inr (7, [.int (M 3 (kj a)), .int (M 4 (kj a)), .int (M 5 (kj a)), .int (M 7 (kj a)), .ref (ad 5 (3 + (kj a)) 0), .int (M 6 (kj a)), .int (aDay M (kj a)), .int (hasC M (nI (kj a))), .int (M 12 (kj a)), .int (M 9 (kj a)), .int (M 10 (kj a)), .int (M 11 (kj a))]) := (hR.2.1 (kj a) hja).2.2
  refine lv_astore (lv' := [(4, .ref (ad 1 (kj a) 0)), (0, .ref o), (1, .int a), (2, .int x), (3, .int y)]) hx hb dX4_addLine_5 hl (by decide) rfl (fun ls hl => ?_)
  refine lv_aload_n hx hb dX4_addLine_7 rfl (lv_at hl 1 rfl) ?_
  refine lv_iload_n hx hb dX4_addLine_8 rfl (lv_at hl 3 rfl) ?_
  refine x_gou (x_V (n := 1) (As := [.int x]) (rest := []) hM hE hX hl (c_X4_checkAmount l hfl γ L F o x) hR.1.1 fo rfl k_500 k_502 kp_19 k_1 k_503 ⟨rfl, by decide, by decide, by decide +kernel⟩ (by decide) rfl rfl (Nat.le_of_ble_eq_true rfl) dX4_addLine_9 (by decide)) hM hE hX htab ⟨rfl, rfl⟩ (fun E h => Or.inr (Or.inl ⟨h.1, by rw [show addLineM M a x y = (0, (mset M 24 0 2)) from ((if_pos hcd).trans ((if_neg (fun h9 => h.2 h9.1)).trans rfl))]; exact Thr1 M 2⟩)) (by decide) (by decide) (fun L1 F1 H locs hp hX => ?_)
  obtain ⟨rfl, rfl, ham⟩ := hp
  refine lv_aload_n hx hb dX4_addLine_12 rfl (lv_at hl 1 rfl) ?_
  refine lv_iload_n hx hb dX4_addLine_13 rfl (lv_at hl 4 rfl) ?_
  refine x_gou (x_V (n := 1) (As := [.int y]) (rest := []) hM hE hX hl (c_X4_checkRate l hfl γ L F o y) hR.1.1 fo rfl k_505 k_507 kp_20 k_1 k_508 ⟨rfl, by decide, by decide, by decide +kernel⟩ (by decide) rfl rfl (Nat.le_of_ble_eq_true rfl) dX4_addLine_14 (by decide)) hM hE hX htab ⟨rfl, rfl⟩ (fun E h => Or.inr (Or.inl ⟨h.1, by rw [show addLineM M a x y = (0, (mset M 24 0 2)) from ((if_pos hcd).trans ((if_neg (fun h9 => h.2 h9.2)).trans rfl))]; exact Thr1 M 2⟩)) (by decide) (by decide) (fun L1 F1 H locs hp hX => ?_)
  obtain ⟨rfl, rfl, hrt⟩ := hp
  refine lv_aload_n hx hb dX4_addLine_17 rfl (lv_at hl 1 rfl) ?_
  refine lv_aload hx hb dX4_addLine_18 (lv_at hl 0 rfl) ?_
  refine x_gou (x_V (n := 1) (As := [.ref (ad 1 (kj a) 0)]) (rest := []) hM hE hX hl (c_X4_checkSent l hfl γ L F o ad tg M nd D hR hI (kj a) hja) hR.1.1 fo rfl k_597 k_599 kp_21 k_1 k_600 ⟨rfl, by decide, by decide, by decide +kernel⟩ (by decide) rfl rfl (Nat.le_of_ble_eq_true rfl) dX4_addLine_20 (by decide)) hM hE hX htab ⟨rfl, rfl⟩ (fun E h => Or.inr (Or.inr ⟨h.1, by rw [show addLineM M a x y = (0, (mset (mset M 24 0 0) 24 0 3)) from ((if_pos hcd).trans ((if_pos ⟨ham, hrt⟩).trans ((if_neg h.2).trans rfl)))]; exact Thr2 M 0 3⟩)) (by decide) (by decide) (fun L1 F1 H locs hp hX => ?_)
  obtain ⟨rfl, rfl, h6⟩ := hp
  refine lv_aload hx hb dX4_addLine_23 (lv_at hl 0 rfl) ?_
  refine k_get hM hE hX (hR.2.1 (kj a) hja).1 fi rfl 3 (by decide) inX2 k_527 (fun _ h => h) rfl dX4_addLine_25 ?_
  refine lv_aload_n hx hb dX4_addLine_28 rfl (lv_at hl 1 rfl) ?_
  refine k_get hM hE hX hR.1.1 fo rfl 5 (by decide) inX4 k_103 (fun _ h => h) rfl dX4_addLine_29 ?_
  refine lv_icmp_eq (tgt := 45) hx hb dX4_addLine_32 (by decide) (fun c_1 => ?_) (fun c_1 => ?_)
  · refine lv_aload hx hb dX4_addLine_45 (lv_at hl 0 rfl) ?_
    refine k_get hM hE hX (hR.2.1 (kj a) hja).1 fi rfl 4 (by decide) inX2 k_529 (fun _ h => h) rfl dX4_addLine_47 ?_
    obtain ⟨mll, mcl, el, ell⟩ := Lst.recv (hR.2.2.2.2.2.2.2.2.1 (kj a) hja)
    refine k_goi (k_V (n := 0) (As := []) (rest := []) hM hE hX hl (c_size l (hR.2.2.2.2.2.2.2.2.1 (kj a) hja)) mll ell rfl k_220 k_221 k_222 k_4 k_223 ⟨rfl, by decide, by decide, by decide +kernel⟩ (by decide) rfl rfl (Nat.le_of_ble_eq_true rfl) dX4_addLine_50 (by decide)) hE hX (fun r L1 F1 H locs hp hX => ?_)
    obtain ⟨rfl, rfl, rfl⟩ := hp
    refine lv_iconst (v := 3) hx hb dX4_addLine_53 (by decide) ?_
    refine lv_icmp_lt (tgt := 67) hx hb dX4_addLine_54 (by decide) (fun c_2 => ?_) (fun c_2 => ?_)
    · have hk3n : ¬ M 13 (kj a) = 3 := fun h9 => by
        rw [(hI.2.1 _ hja).1] at h9
        exact absurd ((nI_eq (a := kk M (kj a)) (b := 3) (by have := (hI.2.1 _ hja).2; omega) (by decide)).mp h9) (by have := (nI_ltI (a := kk M (kj a)) (b := 3) (by have := (hI.2.1 _ hja).2; omega) (by decide)).mp c_2; omega)
      refine lv_aload hx hb dX4_addLine_67 (lv_at hl 0 rfl) ?_
      refine k_get hM hE hX (hR.2.1 (kj a) hja).1 fi rfl 7 (by decide) inX2 k_536 (fun _ h => h) rfl dX4_addLine_69 ?_
      refine lv_if_eq (tgt := 85) hx hb dX4_addLine_72 (by decide) (fun c_3 => ?_) (fun c_3 => ?_)
      · refine lv_aload hx hb dX4_addLine_85 (lv_at hl 0 rfl) ?_
        refine k_get hM hE hX (hR.2.1 (kj a) hja).1 fi rfl 4 (by decide) inX2 k_529 (fun _ h => h) rfl dX4_addLine_87 ?_
        refine k_new (ci := 8) (fs := [.int 0, .int 0, .int 0, .int 0]) hM hE hX rfl inX3 tyX3 tyX3_ok k_410 k_570 k_19 dfX3 (by decide) (by decide) dX4_addLine_90 (fun q H hq hX => ?_)
        obtain ⟨L1, F1, hX, eL1, eF1⟩ : ∃ (L9 : List Nat) (F9 : kF), kX γ _ s L9 F9 H _ ∧ L9 = L ++ [q] ∧ F9 = va_up F q (.inr (8, [.int 0, .int 0, .int 0, .int 0])) := ⟨_, _, hX, rfl, rfl⟩
        have f1_o : F1 o = .inr (9, [.ref (ad 5 0 0), .ref (ad 5 1 0), .ref (ad 5 2 0), .ref (ad 7 0 0), .ref (ad 8 0 0), .int (M 0 0)]) := by rw [eF1, va_up_ne _ _ (show o ≠ q from fun h9 => hq (h9 ▸ hR.1.1))]; exact fo
        have m1_o : o ∈ L1 := by rw [eL1]; exact List.mem_append_left _ hR.1.1
        have f1__ad_1__kj_a__0_ : F1 (ad 1 (kj a) 0) = .inr (7, [.int (M 3 (kj a)), .int (M 4 (kj a)), .int (M 5 (kj a)), .int (M 7 (kj a)), .ref (ad 5 (3 + (kj a)) 0), .int (M 6 (kj a)), .int (aDay M (kj a)), .int (hasC M (nI (kj a))), .int (M 12 (kj a)), .int (M 9 (kj a)), .int (M 10 (kj a)), .int (M 11 (kj a))]) := by rw [eF1, va_up_ne _ _ (show (ad 1 (kj a) 0) ≠ q from fun h9 => hq (h9 ▸ (hR.2.1 (kj a) hja).1))]; exact fi
        have m1__ad_1__kj_a__0_ : (ad 1 (kj a) 0) ∈ L1 := by rw [eL1]; exact List.mem_append_left _ (hR.2.1 (kj a) hja).1
        have f1__ad_5__3____kj_a___0_ : F1 (ad 5 (3 + (kj a)) 0) = .inr (4, [.int mcl, .ref el, .int (nI (kk M (kj a)))]) := by rw [eF1, va_up_ne _ _ (show (ad 5 (3 + (kj a)) 0) ≠ q from fun h9 => hq (h9 ▸ mll))]; exact ell
        have m1__ad_5__3____kj_a___0_ : (ad 5 (3 + (kj a)) 0) ∈ L1 := by rw [eL1]; exact List.mem_append_left _ mll
        have f1_q : F1 q = .inr (8, [.int 0, .int 0, .int 0, .int 0]) := by rw [eF1]; exact va_up_self _ _ _
        have m1_q : q ∈ L1 := by rw [eL1]; simp
        refine lv_dup hx hb dX4_addLine_93 rfl ?_
        refine lv_iload_n hx hb dX4_addLine_94 rfl (lv_at hl 3 rfl) ?_
        refine lv_iload_n hx hb dX4_addLine_95 rfl (lv_at hl 4 rfl) ?_
        refine k_gou (k_I (n := 2) (As := [.int x, .int y]) (rest := [.ref q, .ref (ad 5 (3 + (kj a)) 0)]) hM hE hX hl (c_X3_init l γ L1 F1 q x y m1_q f1_q) k_571 k_572 k_19 k_573 rfl ⟨by decide, by decide, by decide +kernel⟩ (by decide) rfl rfl (Nat.le_of_ble_eq_true rfl) dX4_addLine_96 (by decide)) hE hX (fun L2 Fi H locs hp hX => ?_)
        obtain ⟨rfl, eFi⟩ := hp
        have hm : More L F tg L1 Fi (tup tg q (2, kj a, kk M (kj a))) := by rw [eL1, eFi, eF1, bx_uu]; exact More.new hq
        have hR1 := hR.more hm
        have hk3 : kk M (kj a) < 3 := (nI_ltI (a := kk M (kj a)) (b := 3) (by have := (hI.2.1 _ hja).2; omega) (by decide)).mp c_2
        have hqd : has L1 Fi (tup tg q (2, kj a, kk M (kj a))) q (2, kj a, kk M (kj a)) (.inr (8, [.int x, .int y, .int x, .int 0])) := ⟨m1_q, tup_s _ _ _, by rw [eFi, va_up_self]⟩
        obtain ⟨mcd, ed, fd, q1, q2, q3, q4, q5, q6⟩ := Lst.toArr (hR1.2.2.2.2.2.2.2.2.1 (kj a) hja) (fun j hj => (hR1.2.2.1 (kj a) hja j hj).toEl (by decide) (by decide))
        refine k_goi (k_V (n := 1) (As := [.ref q]) (rest := []) hM hE hX hl (c_Jx4a65c_add_9ea2d l γ L1 Fi (ad 5 (3 + (kj a)) 0) ed (kk M (kj a)) q mcd q1 q3 (hqd.toEl (by decide) (by decide)) fd q4 (by omega)) q1 q3 rfl k_307 k_308 k_309 k_4 k_310 ⟨rfl, by decide, by decide, by decide +kernel⟩ (by decide) rfl rfl (Nat.le_of_ble_eq_true rfl) dX4_addLine_99 (by decide)) hE hX (fun r L2 F2 H locs hp hX => ?_)
        obtain ⟨rfl, hadd⟩ := hp
        have hsub : ∀ b ∈ L, b ∈ L2 := fun b hb => by obtain ⟨_, _, _, g1, -⟩ := hadd; exact g1 b (hm b hb).1
        obtain ⟨tg2, hl2, hb2⟩ := added (g' := fun j => adL ad (kj a) (kk M (kj a)) q 2 (kj a) j) hadd q1 q2 q5 q6 (fun j hj => if_neg (fun h => by omega)) (if_pos ⟨rfl, rfl, rfl⟩)
        have hR5 : RepC γ L2 F2 o (adL ad (kj a) (kk M (kj a)) q) tg2 (addsM (mset (mset M 24 0 0) 24 0 0) (kj a) x y) nd D := (hR1.s24a).lnA (M := (mset (mset M 24 0 0) 24 0 0)) hI hja hk3 hb2 (hqd.but hb2 (tg_ne (by omega)) (tg_ne (by omega))) hl2
        have hI5 : Inv (addsM (mset (mset M 24 0 0) 24 0 0) (kj a) x y) nd D := Inv.adds (M := (mset (mset M 24 0 0) 24 0 0)) hI hja hk3 (okI_mono (okI_lit (n := 9999) (by decide) (Int32.le_trans (show (0 : Int32) ≤ 1 by decide) ham.1) ham.2) (by decide)) (rate_ok hrt)
        have e13 : (addsM (mset (mset M 24 0 0) 24 0 0) (kj a) x y) 13 (kj a) = nI (kk M (kj a) + 1) := by
          have e9 := hI5.2.1 (kj a) hja
          rw [e9.1]; exact congrArg nI (kk_adds (M := (mset (mset M 24 0 0) 24 0 0)) (hI.2.1 (kj a) hja) x y)
        have hz24 : (addsM (mset (mset M 24 0 0) 24 0 0) (kj a) x y) 24 0 = 0 := rfl
        have m9 : ad 1 (kj a) 0 ∈ L2 := (hR5.2.1 (kj a) hja).1
        obtain ⟨ml9, mc9, e9, el9⟩ := Lst.recv hl2
        refine lv_pop hx hb dX4_addLine_102 rfl ?_
        refine lv_aload hx hb dX4_addLine_103 (lv_at hl 0 rfl) ?_
        refine k_get hM hE hX m9 (hR5.2.1 (kj a) hja).2.2 rfl 4 (by decide) inX2 k_529 (fun _ h => h) rfl dX4_addLine_105 ?_
        refine k_goi (k_V (n := 0) (As := []) (rest := []) hM hE hX hl (c_size l hl2) ml9 el9 rfl k_220 k_221 k_222 k_4 k_223 ⟨rfl, by decide, by decide, by decide +kernel⟩ (by decide) rfl rfl (Nat.le_of_ble_eq_true rfl) dX4_addLine_108 (by decide)) hE hX (fun r L1 F1 H locs hp hX => ?_)
        obtain ⟨rfl, rfl, rfl⟩ := hp
        refine lv_iconst (v := 1) hx hb dX4_addLine_111 (by decide) ?_
        refine lv_isub hx hb dX4_addLine_112 ?_
        exact vx_ret (k_iret hM hsz hX ⟨_, rfl, (addsM (mset (mset M 24 0 0) 24 0 0) (kj a) x y), adL ad (kj a) (kk M (kj a)) q, tg2, nd, D, (by rw [← e13]; exact ((if_pos hcd).trans ((if_pos ⟨ham, hrt⟩).trans ((if_pos h6).trans ((if_pos c_1).trans ((if_neg hk3n).trans ((if_pos (by rw [off_hasC, (ixM hI.1 hcd).1]; exact c_3)).trans rfl))))))), hz24, hsub, hR5, hI5, by omega⟩ (by decide) (by decide) dX4_addLine_113)
      · exact x_throw0 (text := "the invoice has a credit") hM hE hX hl htab hfl kat_IS hE.2.1.2.2.2.2.2.2.2.2.2.2.1.2.2 (by decide +kernel) k_264 k_17 ⟨rfl, rfl⟩ (by decide) (Or.inr (Or.inr ⟨rfl, by rw [show addLineM M a x y = (0, (mset (mset M 24 0 0) 24 0 3)) from ((if_pos hcd).trans ((if_pos ⟨ham, hrt⟩).trans ((if_pos h6).trans ((if_pos c_1).trans ((if_neg hk3n).trans ((if_neg (fun h9 => c_3 (by rw [off_hasC, (ixM hI.1 hcd).1] at h9; exact h9))).trans rfl))))))]; exact Thr2 M 0 3⟩)) dX4_addLine_75 dX4_addLine_78 (Or.inl ⟨dX4_addLine_79, dX4_addLine_81, dX4_addLine_84⟩) (by decide) (by decide) (by decide)
    · exact x_throw0 (text := "the invoice has 3 lines") hM hE hX hl htab hfl kat_IS hE.2.1.2.2.2.2.2.2.2.2.2.2.1.2.2 (by decide +kernel) k_264 k_17 ⟨rfl, rfl⟩ (by decide) (Or.inr (Or.inr ⟨rfl, by rw [show addLineM M a x y = (0, (mset (mset M 24 0 0) 24 0 3)) from ((if_pos hcd).trans ((if_pos ⟨ham, hrt⟩).trans ((if_pos h6).trans ((if_pos c_1).trans ((if_pos (by rw [(hI.2.1 _ hja).1, Nat.le_antisymm (hI.2.1 _ hja).2 (Nat.not_lt.mp fun h => c_2 (nI_lt (a := kk M (kj a)) (b := 3) h (by decide)))]; rfl)).trans rfl)))))]; exact Thr2 M 0 3⟩)) dX4_addLine_57 dX4_addLine_60 (Or.inl ⟨dX4_addLine_61, dX4_addLine_63, dX4_addLine_66⟩) (by decide) (by decide) (by decide)
  · exact x_throw0 (text := "the invoice was sent on an earlier day") hM hE hX hl htab hfl kat_IS hE.2.1.2.2.2.2.2.2.2.2.2.2.1.2.2 (by decide +kernel) k_264 k_17 ⟨rfl, rfl⟩ (by decide) (Or.inr (Or.inr ⟨rfl, by rw [show addLineM M a x y = (0, (mset (mset M 24 0 0) 24 0 3)) from ((if_pos hcd).trans ((if_pos ⟨ham, hrt⟩).trans ((if_pos h6).trans ((if_neg c_1).trans rfl))))]; exact Thr2 M 0 3⟩)) dX4_addLine_35 dX4_addLine_38 (Or.inl ⟨dX4_addLine_39, dX4_addLine_41, dX4_addLine_44⟩) (by decide) (by decide) (by decide)
