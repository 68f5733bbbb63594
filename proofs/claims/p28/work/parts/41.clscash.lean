theorem dfX1 : ∀ j, j < 3 → defaultValue (tyX1 j) = vp_V [.int 0, .int 0, .int 0] j := by
  intro j hj
  match j, hj with
  | 0, _ => rfl
  | 1, _ => rfl
  | 2, _ => rfl
  | k + 3, h => exact absurd h (by omega)
theorem dfX0 : ∀ j, j < 3 → defaultValue (tyX0 j) = vp_V [.null, .int 0, .int 0] j := by
  intro j hj
  match j, hj with
  | 0, _ => rfl
  | 1, _ => rfl
  | 2, _ => rfl
  | k + 3, h => exact absurd h (by omega)
theorem dfX3 : ∀ j, j < 4 → defaultValue (tyX3 j) = vp_V [.int 0, .int 0, .int 0, .int 0] j := by
  intro j hj
  match j, hj with
  | 0, _ => rfl
  | 1, _ => rfl
  | 2, _ => rfl
  | 3, _ => rfl
  | k + 4, h => exact absurd h (by omega)
theorem dfX2 : ∀ j, j < 12 → defaultValue (tyX2 j) = vp_V [.int 0, .int 0, .int 0, .int 0, .null, .int 0, .int 0, .int 0, .int 0, .int 0, .int 0, .int 0] j := by
  intro j hj
  match j, hj with
  | 0, _ => rfl
  | 1, _ => rfl
  | 2, _ => rfl
  | 3, _ => rfl
  | 4, _ => rfl
  | 5, _ => rfl
  | 6, _ => rfl
  | 7, _ => rfl
  | 8, _ => rfl
  | 9, _ => rfl
  | 10, _ => rfl
  | 11, _ => rfl
  | k + 12, h => exact absurd h (by omega)
theorem dfJx4a65c : ∀ j, j < 3 → defaultValue (tyJx4a65c j) = vp_V [.int 0, .null, .int 0] j := by
  intro j hj
  match j, hj with
  | 0, _ => rfl
  | 1, _ => rfl
  | 2, _ => rfl
  | k + 3, h => exact absurd h (by omega)
theorem dfJ4 : ∀ j, j < 4 → defaultValue (tyJ4 j) = vp_V [.null, .int 0, .int 0, .int 0] j := by
  intro j hj
  match j, hj with
  | 0, _ => rfl
  | 1, _ => rfl
  | 2, _ => rfl
  | 3, _ => rfl
  | k + 4, h => exact absurd h (by omega)
def dput (D : cD) (n : Nat) (v : Int32 × Int32 × Int32) : cD := fun d => if d = n then v else D d
theorem dput_s (D : cD) (n : Nat) (v : Int32 × Int32 × Int32) : dput D n v n = v := if_pos rfl
theorem dput_n (D : cD) {n d : Nat} (v : Int32 × Int32 × Int32) (h : d < n) : dput D n v d = D d := if_neg (by omega)
set_option maxHeartbeats 4000000 in
set_option maxRecDepth 100000 in
theorem c_X1_init (l : Launch) (γ : kG) (L : List Nat) (F : kF) (q : Nat) (a b x : Int32) (hq : q ∈ L) (hFq : F q = .inr (6, [.int 0, .int 0, .int 0])) : kC l yX1_init cX1_init 4 none (kRm 0 0 0) γ L F [.ref q, .int a, .int b, .int x] (kU fun L1 F1 => L = L1 ∧ F1 = va_up F q (.inr (6, [.int a, .int b, .int x]))) := by
  refine kC_of (by decide +kernel) (Nat.le_of_ble_eq_true rfl) ?_
  intro p e s m args below meth c sz ls hargs hsz hM hin hE hX hl
  have hx := hM.1
  have hb := hM.2.1
  have hl : lv_has ls 4 [(0, .ref q), (1, .int a), (2, .int b), (3, .int x)] := hl
  refine lv_aload_n hx hb dX1_init_0 rfl (lv_at hl 0 rfl) ?_
  refine k_obj hM hl k_293 dX1_init_1 ⟨by decide, Nat.le_of_ble_eq_true rfl⟩ ?_
  refine lv_aload_n hx hb dX1_init_4 rfl (lv_at hl 0 rfl) ?_
  refine lv_iload_n hx hb dX1_init_5 rfl (lv_at hl 1 rfl) ?_
  refine k_put hM hE hX hq hFq rfl 0 (by decide) inX1 tyX1 tyX1_ok nmX1 k_294 (fun _ h => h) (Or.inr ⟨hin rfl, rfl⟩) rfl rfl (Nat.le_of_ble_eq_true rfl) dX1_init_6 (fun H locs hX => ?_)
  obtain ⟨F1, hX, eF1⟩ : ∃ F9 : kF, kX γ _ s _ F9 H locs ∧ F9 = va_up F q (.inr (6, [.int a, .int 0, .int 0])) := ⟨_, hX, rfl⟩
  have f1_q : F1 q = .inr (6, [.int a, .int 0, .int 0]) := by rw [eF1]; exact va_up_self _ _ _
  refine lv_aload_n hx hb dX1_init_9 rfl (lv_at hl 0 rfl) ?_
  refine lv_iload_n hx hb dX1_init_10 rfl (lv_at hl 2 rfl) ?_
  refine k_put hM hE hX hq f1_q rfl 1 (by decide) inX1 tyX1 tyX1_ok nmX1 k_296 (fun _ h => h) (Or.inr ⟨hin rfl, rfl⟩) rfl rfl (Nat.le_of_ble_eq_true rfl) dX1_init_11 (fun H locs hX => ?_)
  obtain ⟨F2, hX, eF2⟩ : ∃ F9 : kF, kX γ _ s _ F9 H locs ∧ F9 = va_up F1 q (.inr (6, [.int a, .int b, .int 0])) := ⟨_, hX, rfl⟩
  have f2_q : F2 q = .inr (6, [.int a, .int b, .int 0]) := by rw [eF2]; exact va_up_self _ _ _
  refine lv_aload_n hx hb dX1_init_14 rfl (lv_at hl 0 rfl) ?_
  refine lv_iload_n hx hb dX1_init_15 rfl (lv_at hl 3 rfl) ?_
  refine k_put hM hE hX hq f2_q rfl 2 (by decide) inX1 tyX1 tyX1_ok nmX1 k_298 (fun _ h => h) (Or.inr ⟨hin rfl, rfl⟩) rfl rfl (Nat.le_of_ble_eq_true rfl) dX1_init_16 (fun H locs hX => ?_)
  obtain ⟨F3, hX, eF3⟩ : ∃ F9 : kF, kX γ _ s _ F9 H locs ∧ F9 = va_up F2 q (.inr (6, [.int a, .int b, .int x])) := ⟨_, hX, rfl⟩
  have f3_q : F3 q = .inr (6, [.int a, .int b, .int x]) := by rw [eF3]; exact va_up_self _ _ _
  exact k_vret hM hsz hX ⟨rfl, rfl, by rw [eF3, eF2, eF1, bx_uu, bx_uu]⟩ (by decide) (by decide) dX1_init_19
set_option maxHeartbeats 4000000 in
set_option maxRecDepth 100000 in
theorem c_X4_addCash (l : Launch) (γ : kG) (L : List Nat) (F : kF) (o : Nat) (ad : cAd) (tg : cTg) (M : mM) (nd : Nat) (D : cD) (hR : RepC γ L F o ad tg M nd D) (a x : Int32) (hc6 : okI a 6) : kC l yX4_addCash cX4_addCash 3 none (kRm 0 0 0) γ L F [.ref o, .int a, .int x] (kU fun L1 F1 => L = L1 ∧ RepC γ L1 F1 o ad tg (mset M 1 (kj a) (M 1 (kj a) + x)) nd D) := by
  refine kC_of (by decide +kernel) (Nat.le_of_ble_eq_true rfl) ?_
  intro p e s m args below meth c sz ls hargs hsz hM hin hE hX hl
  have hx := hM.1
  have hb := hM.2.1
  have hl : lv_has ls 3 [(0, .ref o), (1, .int a), (2, .int x)] := hl
  have fo : F o = .inr (9, [.ref (ad 5 0 0), .ref (ad 5 1 0), .ref (ad 5 2 0), .ref (ad 7 0 0), .ref (ad 8 0 0), .int (M 0 0)]) := hR.1.2.2
  have fc : F (ad 7 0 0) = .inl (γ.2.1 1, 6, .inl (M 1)) := hR.2.2.2.2.2.2.2.2.2.1.2.2
  have hc0 : ¬ a < 0 := by rw [hc6.1]; exact nI_pos (by have := hc6.2; omega)
  have hc1 : ¬ nI 6 ≤ a := by rw [hc6.1]; exact nI_ge (a := kj a) (b := 6) hc6.2 (by decide)
  refine lv_iload_n hx hb dX4_addCash_0 rfl (lv_at hl 1 rfl) ?_
  refine lv_if_lt (tgt := 23) hx hb dX4_addCash_1 (by decide) (fun c_1 => absurd c_1 hc0) (fun _ => ?_)
  refine lv_iload_n hx hb dX4_addCash_4 rfl (lv_at hl 1 rfl) ?_
  refine lv_aload_n hx hb dX4_addCash_5 rfl (lv_at hl 0 rfl) ?_
  refine k_get hM hE hX hR.1.1 fo rfl 3 (by decide) inX4 k_101 (fun _ h => h) rfl dX4_addCash_6 ?_
  refine k_alen (t0 := 1) hM hE hX hR.2.2.2.2.2.2.2.2.2.1.1 fc rfl rfl dX4_addCash_9 ?_
  refine lv_icmp_ge (tgt := 23) hx hb dX4_addCash_10 (by decide) (fun c_2 => absurd c_2 hc1) (fun _ => ?_)
  refine lv_aload_n hx hb dX4_addCash_13 rfl (lv_at hl 0 rfl) ?_
  refine k_get hM hE hX hR.1.1 fo rfl 3 (by decide) inX4 k_101 (fun _ h => h) rfl dX4_addCash_14 ?_
  refine lv_iload_n hx hb dX4_addCash_17 rfl (lv_at hl 1 rfl) ?_
  refine lv_dup2_11 hx hb dX4_addCash_18 rfl rfl ?_
  refine k_iald hM hE hX hR.2.2.2.2.2.2.2.2.2.1.1 fc (by rw [hc6.1]; exact vp_in_nI hc6.2 (by decide)) dX4_addCash_19 ?_
  refine lv_iload_n hx hb dX4_addCash_20 rfl (lv_at hl 2 rfl) ?_
  refine lv_iadd hx hb dX4_addCash_21 ?_
  refine k_iast hM hE hX hR.2.2.2.2.2.2.2.2.2.1.1 fc (by rw [hc6.1]; exact vp_in_nI hc6.2 (by decide)) dX4_addCash_22 (fun H locs hX => ?_)
  obtain ⟨F1, hX, eF1⟩ : ∃ F9 : kF, kX γ _ s _ F9 H locs ∧ F9 = va_up F (ad 7 0 0) (.inl (γ.2.1 1, 6, .inl (upd (M 1) (kj a) ((M 1 (kj a)) + x)))) := ⟨_, hX, rfl⟩
  have f1_o : F1 o = .inr (9, [.ref (ad 5 0 0), .ref (ad 5 1 0), .ref (ad 5 2 0), .ref (ad 7 0 0), .ref (ad 8 0 0), .int (M 0 0)]) := by rw [eF1, va_up_ne _ _ (fun h9 => by have h8 := fo; rw [h9, fc] at h8; cases h8)]; exact fo
  have f1__ad_7_0_0_ : F1 (ad 7 0 0) = .inl (γ.2.1 1, 6, .inl (upd (M 1) (kj a) ((M 1 (kj a)) + x))) := by rw [eF1]; exact va_up_self _ _ _
  exact k_vret hM hsz hX ⟨rfl, rfl, by rw [eF1]; exact hR.wcash rfl rfl (fun _ => rfl) rfl rfl (fun _ => rfl) (fun _ _ => rfl) (fun _ => rfl) rfl rfl⟩ (by decide) (by decide) dX4_addCash_23
set_option maxHeartbeats 4000000 in
set_option maxRecDepth 100000 in
theorem c_X4_moveCash (l : Launch) (γ : kG) (L : List Nat) (F : kF) (o : Nat) (ad : cAd) (tg : cTg) (M : mM) (nd : Nat) (D : cD) (hR : RepC γ L F o ad tg M nd D) (hnd : nd < 512) (a b x : Int32) (ha6 : okI a 6) (hb6 : okI b 6) : kC l yX4_moveCash cX4_moveCash 4 none (kRm 6 2 1003) γ L F [.ref o, .int a, .int b, .int x] (kU fun L1 F1 => (∀ b ∈ L, b ∈ L1) ∧ ∃ (q : Nat) (tg1 : cTg), RepC γ L1 F1 o (adD ad 4 nd q) tg1 (movesM M (kj a) (kj b) x) (nd + 1) (dput D nd (a, b, x))) := by
  refine kC_of (by decide +kernel) (Nat.le_of_ble_eq_true rfl) ?_
  intro p e s m args below meth c sz ls hargs hsz hM hin hE hX hl
  have hx := hM.1
  have hb := hM.2.1
  have hl : lv_has ls 4 [(0, .ref o), (1, .int a), (2, .int b), (3, .int x)] := hl
  have fo : F o = .inr (9, [.ref (ad 5 0 0), .ref (ad 5 1 0), .ref (ad 5 2 0), .ref (ad 7 0 0), .ref (ad 8 0 0), .int (M 0 0)]) := hR.1.2.2
  refine lv_aload_n hx hb dX4_moveCash_0 rfl (lv_at hl 0 rfl) ?_
  refine k_get hM hE hX hR.1.1 fo rfl 2 (by decide) inX4 k_100 (fun _ h => h) rfl dX4_moveCash_1 ?_
  refine k_new (ci := 6) (fs := [.int 0, .int 0, .int 0]) hM hE hX rfl inX1 tyX1 tyX1_ok k_288 k_289 k_24 dfX1 (by decide) (by decide) dX4_moveCash_4 (fun q H hq hX => ?_)
  obtain ⟨L1, F1, hX, eL1, eF1⟩ : ∃ (L9 : List Nat) (F9 : kF), kX γ _ s L9 F9 H _ ∧ L9 = L ++ [q] ∧ F9 = va_up F q (.inr (6, [.int 0, .int 0, .int 0])) := ⟨_, _, hX, rfl, rfl⟩
  have f1_o : F1 o = .inr (9, [.ref (ad 5 0 0), .ref (ad 5 1 0), .ref (ad 5 2 0), .ref (ad 7 0 0), .ref (ad 8 0 0), .int (M 0 0)]) := by rw [eF1, va_up_ne _ _ (show o ≠ q from fun h9 => hq (h9 ▸ hR.1.1))]; exact fo
  have m1_o : o ∈ L1 := by rw [eL1]; exact List.mem_append_left _ hR.1.1
  have f1_q : F1 q = .inr (6, [.int 0, .int 0, .int 0]) := by rw [eF1]; exact va_up_self _ _ _
  have m1_q : q ∈ L1 := by rw [eL1]; simp
  refine lv_dup hx hb dX4_moveCash_7 rfl ?_
  refine lv_iload_n hx hb dX4_moveCash_8 rfl (lv_at hl 1 rfl) ?_
  refine lv_iload_n hx hb dX4_moveCash_9 rfl (lv_at hl 2 rfl) ?_
  refine lv_iload_n hx hb dX4_moveCash_10 rfl (lv_at hl 3 rfl) ?_
  refine k_gou (k_I (n := 3) (As := [.int a, .int b, .int x]) (rest := [.ref q, .ref (ad 5 2 0)]) hM hE hX hl (c_X1_init l γ L1 F1 q a b x m1_q f1_q) k_290 k_291 k_24 k_292 rfl ⟨by decide, by decide, by decide +kernel⟩ (by decide) rfl rfl (Nat.le_of_ble_eq_true rfl) dX4_moveCash_11 (by decide)) hE hX (fun L2 Fi H locs hp hX => ?_)
  obtain ⟨rfl, eFi⟩ := hp
  have hm : More L F tg L1 Fi (tup tg q (4, nd, 0)) := by rw [eL1, eFi, eF1, bx_uu]; exact More.new hq
  have hR1 := hR.more hm
  have hqd : has L1 Fi (tup tg q (4, nd, 0)) q (4, nd, 0) (dC (dput D nd (a, b, x)) nd) := ⟨m1_q, tup_s _ _ _, by rw [eFi, va_up_self]; unfold dC; rw [dput_s]⟩
  obtain ⟨mcd, ed, fd, q1, q2, q3, q4, q5, q6⟩ := Lst.toArr hR1.2.2.2.2.2.2.2.1 (fun j hj => (hR1.2.2.2.2.1 j hj).toEl (by decide) (by decide))
  refine k_goi (k_V (n := 1) (As := [.ref q]) (rest := []) hM hE hX hl (c_Jx4a65c_add_9ea2d l γ L1 Fi (ad 5 2 0) ed nd q mcd q1 q3 (hqd.toEl (by decide) (by decide)) fd q4 (by omega)) q1 q3 rfl k_307 k_308 k_309 k_4 k_310 ⟨rfl, by decide, by decide, by decide +kernel⟩ (by decide) rfl rfl (Nat.le_of_ble_eq_true rfl) dX4_moveCash_14 (by decide)) hE hX (fun r L2 F2 H locs hp hX => ?_)
  obtain ⟨rfl, hadd⟩ := hp
  obtain ⟨tg2, hl2, hb2⟩ := added (g' := fun j => adD ad 4 nd q 4 j 0) hadd q1 q2 q5 q6 (fun j hj => if_neg (fun h => by omega)) (if_pos ⟨rfl, rfl⟩)
  have hR3 := hR1.doc hqd (fun d hd => dput_n D _ hd) hl2 hb2
  have hsub : ∀ b ∈ L, b ∈ L2 := fun b hb => by obtain ⟨_, _, _, g1, -⟩ := hadd; exact g1 b (hm b hb).1
  refine lv_pop hx hb dX4_moveCash_17 rfl ?_
  refine lv_aload_n hx hb dX4_moveCash_18 rfl (lv_at hl 0 rfl) ?_
  refine lv_iload_n hx hb dX4_moveCash_19 rfl (lv_at hl 1 rfl) ?_
  refine lv_iload_n hx hb dX4_moveCash_20 rfl (lv_at hl 3 rfl) ?_
  refine lv_ineg hx hb dX4_moveCash_21 ?_
  refine k_gou (k_V (n := 2) (As := [.int a, .int (-x)]) (rest := []) hM hE hX hl (c_X4_addCash l γ L2 F2 o (adD ad 4 nd q) tg2 _ (nd + 1) _ hR3 a (-x) ha6) hR3.1.1 hR3.1.2.2 rfl k_365 k_367 kp_10 k_1 k_368 ⟨rfl, by decide, by decide, by decide +kernel⟩ (by decide) rfl rfl (Nat.le_of_ble_eq_true rfl) dX4_moveCash_22 (by decide)) hE hX (fun L3 F3 H locs hp hX => ?_)
  obtain ⟨rfl, hR4⟩ := hp
  refine lv_aload_n hx hb dX4_moveCash_25 rfl (lv_at hl 0 rfl) ?_
  refine lv_iload_n hx hb dX4_moveCash_26 rfl (lv_at hl 2 rfl) ?_
  refine lv_iload_n hx hb dX4_moveCash_27 rfl (lv_at hl 3 rfl) ?_
  refine k_gou (k_V (n := 2) (As := [.int b, .int x]) (rest := []) hM hE hX hl (c_X4_addCash l γ L2 F3 o (adD ad 4 nd q) tg2 _ (nd + 1) _ hR4 b x hb6) hR4.1.1 hR4.1.2.2 rfl k_365 k_367 kp_10 k_1 k_368 ⟨rfl, by decide, by decide, by decide +kernel⟩ (by decide) rfl rfl (Nat.le_of_ble_eq_true rfl) dX4_moveCash_28 (by decide)) hE hX (fun L3 F4 H locs hp hX => ?_)
  obtain ⟨rfl, hR5⟩ := hp
  refine k_vret hM hsz hX ⟨rfl, fun b hb => hsub b hb, q, tg2, ?_⟩ (by decide) (by decide) dX4_moveCash_31
  rw [← Int32.sub_eq_add_neg] at hR5
  exact hR5
set_option maxHeartbeats 4000000 in
set_option maxRecDepth 100000 in
theorem c_X4_takePayment (l : Launch) (γ : kG) (L : List Nat) (F : kF) (o : Nat) (ad : cAd) (tg : cTg) (M : mM) (nd : Nat) (D : cD) (hR : RepC γ L F o ad tg M nd D) (i : Nat) (hi : i < nn M) (hnd : nd < 512) (x : Int32) (h4 : okI (M 4 i) 6) (h9 : okI (M 9 i) 6) : kC l yX4_takePayment cX4_takePayment 3 none (kRm 7 2 1003) γ L F [.ref o, .ref (ad 1 i 0), .int x] (kU fun L1 F1 => (∀ b ∈ L, b ∈ L1) ∧ ∃ (q : Nat) (tg1 : cTg), RepC γ L1 F1 o (adD ad 4 nd q) tg1 (movesM (mset M 12 i ((M 12 i) + x)) (kj (M 4 i)) (kj (M 9 i)) x) (nd + 1) (dput D nd (M 4 i, M 9 i, x))) := by
  refine kC_of (by decide +kernel) (Nat.le_of_ble_eq_true rfl) ?_
  intro p e s m args below meth c sz ls hargs hsz hM hin hE hX hl
  have hx := hM.1
  have hb := hM.2.1
  have hl : lv_has ls 3 [(0, .ref o), (1, .ref (ad 1 i 0)), (2, .int x)] := hl
  have fo : F o = .inr (9, [.ref (ad 5 0 0), .ref (ad 5 1 0), .ref (ad 5 2 0), .ref (ad 7 0 0), .ref (ad 8 0 0), .int (M 0 0)]) := hR.1.2.2
  have fi : F (ad 1 i 0) = .inr (7, [.int (M 3 i), .int (M 4 i), .int (M 5 i), .int (M 7 i), .ref (ad 5 (3 + i) 0), .int (M 6 i), .int (aDay M i), .int (hasC M (nI i)), .int (M 12 i), .int (M 9 i), .int (M 10 i), .int (M 11 i)]) := (hR.2.1 i hi).2.2
  refine lv_aload_n hx hb dX4_takePayment_0 rfl (lv_at hl 1 rfl) ?_
  refine lv_dup hx hb dX4_takePayment_1 rfl ?_
  refine k_get hM hE hX (hR.2.1 i hi).1 fi rfl 8 (by decide) inX2 k_538 (fun _ h => h) rfl dX4_takePayment_2 ?_
  refine lv_iload_n hx hb dX4_takePayment_5 rfl (lv_at hl 2 rfl) ?_
  refine lv_iadd hx hb dX4_takePayment_6 ?_
  refine k_put hM hE hX (hR.2.1 i hi).1 fi rfl 8 (by decide) inX2 tyX2 tyX2_ok nmX2 k_538 (fun _ h => h) (Or.inl rfl) rfl rfl (Nat.le_of_ble_eq_true rfl) dX4_takePayment_7 (fun H locs hX => ?_)
  obtain ⟨F1, hX, eF1⟩ : ∃ F9 : kF, kX γ _ s _ F9 H locs ∧ F9 = va_up F (ad 1 i 0) (.inr (7, [.int (M 3 i), .int (M 4 i), .int (M 5 i), .int (M 7 i), .ref (ad 5 (3 + i) 0), .int (M 6 i), .int (aDay M i), .int (hasC M (nI i)), .int ((M 12 i) + x), .int (M 9 i), .int (M 10 i), .int (M 11 i)])) := ⟨_, hX, rfl⟩
  have f1_o : F1 o = .inr (9, [.ref (ad 5 0 0), .ref (ad 5 1 0), .ref (ad 5 2 0), .ref (ad 7 0 0), .ref (ad 8 0 0), .int (M 0 0)]) := by rw [eF1, va_up_ne _ _ (fun h9 => by have h8 := fo; rw [h9, fi] at h8; cases h8)]; exact fo
  have f1__ad_1_i_0_ : F1 (ad 1 i 0) = .inr (7, [.int (M 3 i), .int (M 4 i), .int (M 5 i), .int (M 7 i), .ref (ad 5 (3 + i) 0), .int (M 6 i), .int (aDay M i), .int (hasC M (nI i)), .int ((M 12 i) + x), .int (M 9 i), .int (M 10 i), .int (M 11 i)]) := by rw [eF1]; exact va_up_self _ _ _
  refine lv_aload_n hx hb dX4_takePayment_10 rfl (lv_at hl 0 rfl) ?_
  refine lv_aload_n hx hb dX4_takePayment_11 rfl (lv_at hl 1 rfl) ?_
  refine k_get hM hE hX (hR.2.1 i hi).1 f1__ad_1_i_0_ rfl 1 (by decide) inX2 k_523 (fun _ h => h) rfl dX4_takePayment_12 ?_
  refine lv_aload_n hx hb dX4_takePayment_15 rfl (lv_at hl 1 rfl) ?_
  refine k_get hM hE hX (hR.2.1 i hi).1 f1__ad_1_i_0_ rfl 9 (by decide) inX2 k_540 (fun _ h => h) rfl dX4_takePayment_16 ?_
  refine lv_iload_n hx hb dX4_takePayment_19 rfl (lv_at hl 2 rfl) ?_
  have hR2 : RepC γ L F1 o ad tg (mset M 12 i ((M 12 i) + x)) nd D := by
    rw [eF1]
    exact hR.winv hi (by unfold iC; rw [mset_s]; rfl) rfl (fun _ => rfl) rfl rfl (fun i' hne => by unfold iC; rw [show (mset M 12 i ((M 12 i) + x)) 12 i' = M 12 i' from if_neg hne]; rfl) (fun _ _ => rfl) (fun _ => rfl) rfl rfl rfl
  refine k_gou (k_V (n := 3) (As := [.int (M 4 i), .int (M 9 i), .int x]) (rest := []) hM hE hX hl (c_X4_moveCash l γ L F1 o ad tg (mset M 12 i ((M 12 i) + x)) nd D hR2 hnd (M 4 i) (M 9 i) x h4 h9) hR.1.1 f1_o rfl k_284 k_286 kp_6 k_1 k_287 ⟨rfl, by decide, by decide, by decide +kernel⟩ (by decide) rfl rfl (Nat.le_of_ble_eq_true rfl) dX4_takePayment_20 (by decide)) hE hX (fun L2 F2 H locs hp hX => ?_)
  exact k_vret hM hsz hX ⟨rfl, hp⟩ (by decide) (by decide) dX4_takePayment_23
