set_option maxHeartbeats 4000000 in
set_option maxRecDepth 100000 in
theorem c_X4_send (l : Launch) (hfl : l.stackTraces = false) (γ : kG) (L : List Nat) (F : kF) (o : Nat) (ad : cAd) (tg : cTg) (M : mM) (nd : Nat) (D : cD) (hR : RepC γ L F o ad tg M nd D) (hI : Inv M nd D) (a b z x y : Int32) : kD l yX4_send cX4_send 7 (some .int) (kRm 7 20 3000) γ L F [.ref o, .int a, .int b, .int z, .int x, .int y] (kI fun r L1 F1 => After γ L o nd (sendM M a b z x y) r L1 F1) (fun E => (E = kIO ∧ Thr M (sendM M a b z x y).2 1) ∨ (E = kIA ∧ Thr M (sendM M a b z x y).2 2) ∨ (E = kIS ∧ Thr M (sendM M a b z x y).2 3)) := by
  refine kD_of (by decide +kernel) (Nat.le_of_ble_eq_true rfl) ?_
  intro p e s m args below meth c sz ls hargs hsz hM htab hE hX hl
  have hx := hM.1
  have hb := hM.2.1
  have hl : lv_has ls 7 [(0, .ref o), (1, .int a), (2, .int b), (3, .int z), (4, .int x), (5, .int y)] := hl
  have fo : F o = .inr (9, [.ref (ad 5 0 0), .ref (ad 5 1 0), .ref (ad 5 2 0), .ref (ad 7 0 0), .ref (ad 8 0 0), .int (M 0 0)]) := hR.1.2.2
  obtain ⟨mli, mci, ei, eli⟩ := Lst.recv hR.2.2.2.2.2.1
  have hn2 := hI.1.2
  refine lv_aload_n hx hb dX4_send_0 rfl (lv_at hl 0 rfl) ?_
  refine lv_iload_n hx hb dX4_send_1 rfl (lv_at hl 1 rfl) ?_
  refine x_gou (x_V (n := 1) (As := [.int a]) (rest := []) hM hE hX hl (c_X4_checkCompany l hfl γ L F o a) hR.1.1 fo rfl k_125 k_127 kp_1 k_1 k_128 ⟨rfl, by decide, by decide, by decide +kernel⟩ (by decide) rfl rfl (Nat.le_of_ble_eq_true rfl) dX4_send_2 (by decide)) hM hE hX htab ⟨rfl, rfl⟩ (fun E h => Or.inl ⟨h.1, by rw [show sendM M a b z x y = (0, (mset M 24 0 1)) from ((if_neg h.2).trans rfl)]; exact Thr1 M 1⟩) (by decide) (by decide) (fun L1 F1 H locs hp hX => ?_)
  obtain ⟨rfl, rfl, hca⟩ := hp
  refine lv_aload_n hx hb dX4_send_5 rfl (lv_at hl 0 rfl) ?_
  refine lv_iload_n hx hb dX4_send_6 rfl (lv_at hl 2 rfl) ?_
  refine x_gou (x_V (n := 1) (As := [.int b]) (rest := []) hM hE hX hl (c_X4_checkCompany l hfl γ L F o b) hR.1.1 fo rfl k_125 k_127 kp_1 k_1 k_128 ⟨rfl, by decide, by decide, by decide +kernel⟩ (by decide) rfl rfl (Nat.le_of_ble_eq_true rfl) dX4_send_7 (by decide)) hM hE hX htab ⟨rfl, rfl⟩ (fun E h => Or.inl ⟨h.1, by rw [show sendM M a b z x y = (0, (mset M 24 0 1)) from ((if_pos hca).trans ((if_neg h.2).trans rfl))]; exact Thr1 M 1⟩) (by decide) (by decide) (fun L1 F1 H locs hp hX => ?_)
  obtain ⟨rfl, rfl, hcb⟩ := hp
  refine lv_aload_n hx hb dX4_send_10 rfl (lv_at hl 0 rfl) ?_
  refine lv_iload_n hx hb dX4_send_11 rfl (lv_at hl 3 rfl) ?_
  refine x_gou (x_V (n := 1) (As := [.int z]) (rest := []) hM hE hX hl (c_X4_checkGoods l hfl γ L F o z) hR.1.1 fo rfl k_473 k_475 kp_17 k_1 k_476 ⟨rfl, by decide, by decide, by decide +kernel⟩ (by decide) rfl rfl (Nat.le_of_ble_eq_true rfl) dX4_send_12 (by decide)) hM hE hX htab ⟨rfl, rfl⟩ (fun E h => Or.inl ⟨h.1, by rw [show sendM M a b z x y = (0, (mset M 24 0 1)) from ((if_pos hca).trans ((if_pos hcb).trans ((if_neg h.2).trans rfl)))]; exact Thr1 M 1⟩) (by decide) (by decide) (fun L1 F1 H locs hp hX => ?_)
  obtain ⟨rfl, rfl, hgo⟩ := hp
  refine lv_aload_n hx hb dX4_send_15 rfl (lv_at hl 0 rfl) ?_
  refine lv_iload hx hb dX4_send_16 (lv_at hl 4 rfl) ?_
  refine x_gou (x_V (n := 1) (As := [.int x]) (rest := []) hM hE hX hl (c_X4_checkAmount l hfl γ L F o x) hR.1.1 fo rfl k_500 k_502 kp_19 k_1 k_503 ⟨rfl, by decide, by decide, by decide +kernel⟩ (by decide) rfl rfl (Nat.le_of_ble_eq_true rfl) dX4_send_18 (by decide)) hM hE hX htab ⟨rfl, rfl⟩ (fun E h => Or.inr (Or.inl ⟨h.1, by rw [show sendM M a b z x y = (0, (mset M 24 0 2)) from ((if_pos hca).trans ((if_pos hcb).trans ((if_pos hgo).trans ((if_neg (fun h9 => h.2 h9.1)).trans rfl))))]; exact Thr1 M 2⟩)) (by decide) (by decide) (fun L1 F1 H locs hp hX => ?_)
  obtain ⟨rfl, rfl, ham⟩ := hp
  refine lv_aload_n hx hb dX4_send_21 rfl (lv_at hl 0 rfl) ?_
  refine lv_iload hx hb dX4_send_22 (lv_at hl 5 rfl) ?_
  refine x_gou (x_V (n := 1) (As := [.int y]) (rest := []) hM hE hX hl (c_X4_checkRate l hfl γ L F o y) hR.1.1 fo rfl k_505 k_507 kp_20 k_1 k_508 ⟨rfl, by decide, by decide, by decide +kernel⟩ (by decide) rfl rfl (Nat.le_of_ble_eq_true rfl) dX4_send_24 (by decide)) hM hE hX htab ⟨rfl, rfl⟩ (fun E h => Or.inr (Or.inl ⟨h.1, by rw [show sendM M a b z x y = (0, (mset M 24 0 2)) from ((if_pos hca).trans ((if_pos hcb).trans ((if_pos hgo).trans ((if_neg (fun h9 => h.2 h9.2)).trans rfl))))]; exact Thr1 M 2⟩)) (by decide) (by decide) (fun L1 F1 H locs hp hX => ?_)
  obtain ⟨rfl, rfl, hrt⟩ := hp
  refine lv_aload_n hx hb dX4_send_27 rfl (lv_at hl 0 rfl) ?_
  refine lv_iload_n hx hb dX4_send_28 rfl (lv_at hl 1 rfl) ?_
  refine lv_iload_n hx hb dX4_send_29 rfl (lv_at hl 2 rfl) ?_
  refine x_gou (x_V (n := 2) (As := [.int a, .int b]) (rest := []) hM hE hX hl (c_X4_checkTwoCompanies l hfl γ L F o a b) hR.1.1 fo rfl k_215 k_217 kp_3 k_1 k_218 ⟨rfl, by decide, by decide, by decide +kernel⟩ (by decide) rfl rfl (Nat.le_of_ble_eq_true rfl) dX4_send_30 (by decide)) hM hE hX htab ⟨rfl, rfl⟩ (fun E h => Or.inr (Or.inl ⟨h.1, by rw [show sendM M a b z x y = (0, (mset M 24 0 2)) from ((if_pos hca).trans ((if_pos hcb).trans ((if_pos hgo).trans ((if_pos ⟨ham, hrt⟩).trans ((if_pos h.2).trans rfl)))))]; exact Thr1 M 2⟩)) (by decide) (by decide) (fun L1 F1 H locs hp hX => ?_)
  obtain ⟨rfl, rfl, hne⟩ := hp
  refine lv_aload_n hx hb dX4_send_33 rfl (lv_at hl 0 rfl) ?_
  refine k_get hM hE hX hR.1.1 fo rfl 0 (by decide) inX4 k_98 (fun _ h => h) rfl dX4_send_34 ?_
  refine k_goi (k_V (n := 0) (As := []) (rest := []) hM hE hX hl (c_size l hR.2.2.2.2.2.1) mli eli rfl k_220 k_221 k_222 k_4 k_223 ⟨rfl, by decide, by decide, by decide +kernel⟩ (by decide) rfl rfl (Nat.le_of_ble_eq_true rfl) dX4_send_37 (by decide)) hE hX (fun r L1 F1 H locs hp hX => ?_)
  obtain ⟨rfl, rfl, rfl⟩ := hp
  refine lv_bipush (v := 20) hx hb dX4_send_40 (by decide) ?_
  refine lv_icmp_lt (tgt := 55) hx hb dX4_send_42 (by decide) (fun c_1 => ?_) (fun c_1 => ?_)
  · have hn20 : nn M < 20 := (nI_ltI (a := nn M) (b := 20) (by omega) (by decide)).mp c_1
    refine k_new (ci := 7) (fs := [.int 0, .int 0, .int 0, .int 0, .null, .int 0, .int 0, .int 0, .int 0, .int 0, .int 0, .int 0]) hM hE hX rfl inX2 tyX2 tyX2_ok k_238 k_511 k_18 dfX2 (by decide) (by decide) dX4_send_55 (fun q H hq hX => ?_)
    obtain ⟨L1, F1, hX, eL1, eF1⟩ : ∃ (L9 : List Nat) (F9 : kF), kX γ _ s L9 F9 H _ ∧ L9 = L ++ [q] ∧ F9 = va_up F q (.inr (7, [.int 0, .int 0, .int 0, .int 0, .null, .int 0, .int 0, .int 0, .int 0, .int 0, .int 0, .int 0])) := ⟨_, _, hX, rfl, rfl⟩
    have f1_o : F1 o = .inr (9, [.ref (ad 5 0 0), .ref (ad 5 1 0), .ref (ad 5 2 0), .ref (ad 7 0 0), .ref (ad 8 0 0), .int (M 0 0)]) := by rw [eF1, va_up_ne _ _ (show o ≠ q from fun h9 => hq (h9 ▸ hR.1.1))]; exact fo
    have m1_o : o ∈ L1 := by rw [eL1]; exact List.mem_append_left _ hR.1.1
    have f1__ad_5_0_0_ : F1 (ad 5 0 0) = .inr (4, [.int mci, .ref ei, .int (nI (nn M))]) := by rw [eF1, va_up_ne _ _ (show (ad 5 0 0) ≠ q from fun h9 => hq (h9 ▸ mli))]; exact eli
    have m1__ad_5_0_0_ : (ad 5 0 0) ∈ L1 := by rw [eL1]; exact List.mem_append_left _ mli
    have f1_q : F1 q = .inr (7, [.int 0, .int 0, .int 0, .int 0, .null, .int 0, .int 0, .int 0, .int 0, .int 0, .int 0, .int 0]) := by rw [eF1]; exact va_up_self _ _ _
    have m1_q : q ∈ L1 := by rw [eL1]; simp
    refine lv_dup hx hb dX4_send_58 rfl ?_
    refine lv_iload_n hx hb dX4_send_59 rfl (lv_at hl 1 rfl) ?_
    refine lv_iload_n hx hb dX4_send_60 rfl (lv_at hl 2 rfl) ?_
    refine lv_iload_n hx hb dX4_send_61 rfl (lv_at hl 3 rfl) ?_
    refine lv_aload_n hx hb dX4_send_62 rfl (lv_at hl 0 rfl) ?_
    refine k_get hM hE hX m1_o f1_o rfl 5 (by decide) inX4 k_103 (fun _ h => h) rfl dX4_send_63 ?_
    refine k_gou (k_I (n := 4) (As := [.int a, .int b, .int z, .int (M 0 0)]) (rest := [.ref q]) hM hE hX hl (c_X2_init l γ L1 F1 q a b z (M 0 0) m1_q f1_q) k_512 k_513 k_18 k_514 rfl ⟨by decide, by decide, by decide +kernel⟩ (by decide) rfl rfl (Nat.le_of_ble_eq_true rfl) dX4_send_66 (by decide)) hE hX (fun L2 Fi H locs hp hX => ?_)
    obtain ⟨r, hr, eLi, eFi⟩ := hp
    have hqr : q ≠ r := fun e => hr (e ▸ m1_q)
    have hm1 : More L F tg L2 Fi (tup (tup tg q (1, nn M, 0)) r (5, 3 + nn M, 0)) := fun b9 hb9 => by
      have n1 : b9 ≠ q := fun e => hq (e ▸ hb9)
      have n2 : b9 ≠ r := fun e => hr (by rw [eL1, ← e]; exact List.mem_append_left _ hb9)
      exact ⟨by rw [eLi, eL1]; exact List.mem_append_left _ (List.mem_append_left _ hb9), by rw [eFi, va_up_ne _ _ n1, va_up_ne _ _ n2, eF1, va_up_ne _ _ n1], by rw [tup_n _ _ n2, tup_n _ _ n1]⟩
    have hR1 := hR.more hm1
    have hqi : has L2 Fi (tup (tup tg q (1, nn M, 0)) r (5, 3 + nn M, 0)) q (1, nn M, 0) (.inr (7, [.int a, .int b, .int z, .int (M 0 0), .ref r, .int 0, .int (-1), .int 0, .int 0, .int a, .int 0, .int 0])) := ⟨by rw [eLi]; exact List.mem_append_left _ m1_q, by rw [tup_n _ _ hqr, tup_s], by rw [eFi]; exact va_up_self _ _ _⟩
    have hri : has L2 Fi (tup (tup tg q (1, nn M, 0)) r (5, 3 + nn M, 0)) r (5, 3 + nn M, 0) (.inr (4, [.int 0, .ref γ.2.2, .int 0])) := ⟨by rw [eLi]; simp, tup_s _ _ _, by rw [eFi, va_up_ne _ _ (Ne.symm hqr)]; exact va_up_self _ _ _⟩
    have fo2 : Fi o = .inr (9, [.ref (ad 5 0 0), .ref (ad 5 1 0), .ref (ad 5 2 0), .ref (ad 7 0 0), .ref (ad 8 0 0), .int (M 0 0)]) := hR1.1.2.2
    refine lv_astore (lv' := [(6, .ref q), (0, .ref o), (1, .int a), (2, .int b), (3, .int z), (4, .int x), (5, .int y)]) hx hb dX4_send_69 hl (by decide) rfl (fun ls hl => ?_)
    refine lv_aload hx hb dX4_send_71 (lv_at hl 0 rfl) ?_
    refine k_get hM hE hX hqi.1 hqi.2.2 rfl 4 (by decide) inX2 k_529 (fun _ h => h) rfl dX4_send_73 ?_
    refine k_new (ci := 8) (fs := [.int 0, .int 0, .int 0, .int 0]) hM hE hX rfl inX3 tyX3 tyX3_ok k_410 k_570 k_19 dfX3 (by decide) (by decide) dX4_send_76 (fun v9 H hv9 hX => ?_)
    obtain ⟨L3, F3, hX, eL3, eF3⟩ : ∃ (L9 : List Nat) (F9 : kF), kX γ _ s L9 F9 H _ ∧ L9 = L2 ++ [v9] ∧ F9 = va_up Fi v9 (.inr (8, [.int 0, .int 0, .int 0, .int 0])) := ⟨_, _, hX, rfl, rfl⟩
    have f3_o : F3 o = .inr (9, [.ref (ad 5 0 0), .ref (ad 5 1 0), .ref (ad 5 2 0), .ref (ad 7 0 0), .ref (ad 8 0 0), .int (M 0 0)]) := by rw [eF3, va_up_ne _ _ (show o ≠ v9 from fun h9 => hv9 (h9 ▸ hR1.1.1))]; exact fo2
    have m3_o : o ∈ L3 := by rw [eL3]; exact List.mem_append_left _ hR1.1.1
    have f3_q : F3 q = .inr (7, [.int a, .int b, .int z, .int (M 0 0), .ref r, .int 0, .int (-1), .int 0, .int 0, .int a, .int 0, .int 0]) := by rw [eF3, va_up_ne _ _ (show q ≠ v9 from fun h9 => hv9 (h9 ▸ hqi.1))]; exact hqi.2.2
    have m3_q : q ∈ L3 := by rw [eL3]; exact List.mem_append_left _ hqi.1
    have f3_r : F3 r = .inr (4, [.int 0, .ref γ.2.2, .int 0]) := by rw [eF3, va_up_ne _ _ (show r ≠ v9 from fun h9 => hv9 (h9 ▸ hri.1))]; exact hri.2.2
    have m3_r : r ∈ L3 := by rw [eL3]; exact List.mem_append_left _ hri.1
    have f3_v9 : F3 v9 = .inr (8, [.int 0, .int 0, .int 0, .int 0]) := by rw [eF3]; exact va_up_self _ _ _
    have m3_v9 : v9 ∈ L3 := by rw [eL3]; simp
    refine lv_dup hx hb dX4_send_79 rfl ?_
    refine lv_iload hx hb dX4_send_80 (lv_at hl 5 rfl) ?_
    refine lv_iload hx hb dX4_send_82 (lv_at hl 6 rfl) ?_
    refine k_gou (k_I (n := 2) (As := [.int x, .int y]) (rest := [.ref v9, .ref r]) hM hE hX hl (c_X3_init l γ L3 F3 v9 x y m3_v9 f3_v9) k_571 k_572 k_19 k_573 rfl ⟨by decide, by decide, by decide +kernel⟩ (by decide) rfl rfl (Nat.le_of_ble_eq_true rfl) dX4_send_84 (by decide)) hE hX (fun L4 Fs H locs hp hX => ?_)
    obtain ⟨rfl, eFs⟩ := hp
    have hm2 : More L2 Fi (tup (tup tg q (1, nn M, 0)) r (5, 3 + nn M, 0)) L3 Fs (tup (tup (tup tg q (1, nn M, 0)) r (5, 3 + nn M, 0)) v9 (2, nn M, 0)) := by rw [eL3, eFs, eF3, bx_uu]; exact More.new hv9
    have hss : has L3 Fs (tup (tup (tup tg q (1, nn M, 0)) r (5, 3 + nn M, 0)) v9 (2, nn M, 0)) v9 (2, nn M, 0) (.inr (8, [.int x, .int y, .int x, .int 0])) := ⟨m3_v9, tup_s _ _ _, by rw [eFs, va_up_self]⟩
    have hqi2 := hqi.more hm2
    have hri2 := hri.more hm2
    have hR2 := hR1.more hm2
    refine k_goi (k_V (n := 1) (As := [.ref v9]) (rest := []) hM hE hX hl (c_Jx4a65c_add_9ea2d l γ L3 Fs r γ.2.2 0 v9 0 hri2.1 (show Fs r = .inr (4, [.int 0, .ref γ.2.2, .int (nI 0)]) from hri2.2.2) (hss.toEl (by decide) (by decide)) (fun _ => none) (Or.inl ⟨rfl, rfl, rfl⟩) (by decide)) hri2.1 hri2.2.2 rfl k_307 k_308 k_309 k_4 k_310 ⟨rfl, by decide, by decide, by decide +kernel⟩ (by decide) rfl rfl (Nat.le_of_ble_eq_true rfl) dX4_send_87 (by decide)) hE hX (fun r9 L4 F4 H locs hp hX => ?_)
    obtain ⟨rfl, hadd⟩ := hp
    obtain ⟨tg4, hl4, hb4⟩ := added (k := 3 + nn M) (g := fun _ => v9) (g' := fun j => adS ad (nn M) q r v9 2 (nn M) j) hadd hri2.1 hri2.2.1 (fun j hj => absurd hj (Nat.not_lt_zero j)) (Or.inl rfl) (fun j hj => absurd hj (Nat.not_lt_zero j)) (by show adS ad (nn M) q r v9 2 (nn M) 0 = v9; unfold adS; rw [if_neg (by omega), if_neg (by omega), if_pos ⟨rfl, rfl⟩])
    have hsub4 : ∀ b ∈ L, b ∈ L4 := fun b hb => by obtain ⟨_, _, _, g1, -⟩ := hadd; exact g1 b (hm2 b (hm1 b hb).1).1
    have hR3 := hR2.butf hb4 (Nat.le_refl _)
    have hqi3 := hqi2.but hb4 (tg_ne (by omega)) (tg_ne (by omega))
    have hss3 := hss.but hb4 (tg_ne (by omega)) (tg_ne (by omega))
    obtain ⟨mcd, ed, fd, q1, q2, q3, q4, q5, q6⟩ := Lst.toArr hR3.2.2.2.2.2.1 (fun j hj => (hR3.2.1 j hj).toEl (by decide) (by decide))
    refine lv_pop hx hb dX4_send_90 rfl ?_
    refine lv_aload_n hx hb dX4_send_91 rfl (lv_at hl 1 rfl) ?_
    refine k_get hM hE hX hR3.1.1 hR3.1.2.2 rfl 0 (by decide) inX4 k_98 (fun _ h => h) rfl dX4_send_92 ?_
    refine lv_aload hx hb dX4_send_95 (lv_at hl 0 rfl) ?_
    refine k_goi (k_V (n := 1) (As := [.ref q]) (rest := []) hM hE hX hl (c_Jx4a65c_add_9ea2d l γ L4 F4 (ad 5 0 0) ed (nn M) q mcd q1 q3 (hqi3.toEl (by decide) (by decide)) fd q4 (by omega)) q1 q3 rfl k_307 k_308 k_309 k_4 k_310 ⟨rfl, by decide, by decide, by decide +kernel⟩ (by decide) rfl rfl (Nat.le_of_ble_eq_true rfl) dX4_send_97 (by decide)) hE hX (fun r9 L5 F5 H locs hp hX => ?_)
    obtain ⟨rfl, hadd2⟩ := hp
    obtain ⟨tg5, hl5, hb5⟩ := added (g' := fun j => adS ad (nn M) q r v9 1 j 0) hadd2 q1 q2 q5 q6 (fun j hj => adS_1 hj) (if_pos ⟨rfl, rfl⟩)
    have hsub : ∀ b ∈ L, b ∈ L5 := fun b hb => by obtain ⟨_, _, _, g1, -⟩ := hadd2; exact g1 b (hsub4 b hb)
    have hR5 := hR3.sndT hI hn20 hqi3 hss3 hl4 hb5 hl5
    have hI5 : Inv (sT M (nn M) a b z x y) nd D := hI.snd hn20 (okI_5 hca) (okI_5 hcb) hne (okI_mono (okI_lit (n := 9999) (by decide) (Int32.le_trans (show (0 : Int32) ≤ 1 by decide) ham.1) ham.2) (by decide)) (rate_ok hrt)
    have ho5 := hR3.1.but hb5 (tg_ne (by omega)) (tg_ne (by omega))
    obtain ⟨ml9, mc9, e9, el9⟩ := Lst.recv hl5
    refine lv_pop hx hb dX4_send_100 rfl ?_
    refine lv_aload_n hx hb dX4_send_101 rfl (lv_at hl 1 rfl) ?_
    refine k_get hM hE hX ho5.1 ho5.2.2 rfl 0 (by decide) inX4 k_98 (fun _ h => h) rfl dX4_send_102 ?_
    refine k_goi (k_V (n := 0) (As := []) (rest := []) hM hE hX hl (c_size l hl5) ml9 el9 rfl k_220 k_221 k_222 k_4 k_223 ⟨rfl, by decide, by decide, by decide +kernel⟩ (by decide) rfl rfl (Nat.le_of_ble_eq_true rfl) dX4_send_105 (by decide)) hE hX (fun r L1 F1 H locs hp hX => ?_)
    obtain ⟨rfl, rfl, rfl⟩ := hp
    refine lv_iconst (v := 1) hx hb dX4_send_108 (by decide) ?_
    refine lv_isub hx hb dX4_send_109 ?_
    have hse : sendM M a b z x y = ((M 2 0) + 1 - 1, (sT M (nn M) a b z x y)) := by rw [← sT_eq hI]; exact ((if_pos hca).trans ((if_pos hcb).trans ((if_pos hgo).trans ((if_pos ⟨ham, hrt⟩).trans ((if_neg hne).trans ((if_neg (fun h9 => by rw [hI.1.1] at h9; exact absurd ((nI_eq (a := nn M) (b := 20) (by omega) (by decide)).mp h9) (by omega))).trans rfl))))))
    exact vx_ret (k_iret hM hsz hX ⟨_, rfl, (sT M (nn M) a b z x y), (adS ad (nn M) q r v9), tg5, nd, D, (by rw [hse, hI.1.1, nI_1]), rfl, hsub, hR5, hI5, by omega⟩ (by decide) (by decide) dX4_send_110)
  · exact x_throw0 (text := "there are 20 invoices") hM hE hX hl htab hfl kat_IS hE.2.1.2.2.2.2.2.2.2.2.2.2.1.2.2 (by decide +kernel) k_264 k_17 ⟨rfl, rfl⟩ (by decide) (Or.inr (Or.inr ⟨rfl, by rw [show sendM M a b z x y = (0, (mset M 24 0 3)) from ((if_pos hca).trans ((if_pos hcb).trans ((if_pos hgo).trans ((if_pos ⟨ham, hrt⟩).trans ((if_neg hne).trans ((if_pos (by rw [hI.1.1, Nat.le_antisymm hI.1.2 (Nat.not_lt.mp fun h => c_1 (nI_lt (a := nn M) (b := 20) h (by decide)))]; rfl)).trans rfl))))))]; exact Thr1 M 3⟩)) dX4_send_45 dX4_send_48 (Or.inl ⟨dX4_send_49, dX4_send_51, dX4_send_54⟩) (by decide) (by decide) (by decide)
