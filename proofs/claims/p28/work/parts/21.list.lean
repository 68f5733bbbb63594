set_option maxHeartbeats 4000000 in
set_option maxRecDepth 100000 in
theorem c_J3_checkIndex_8e157 (l : Launch) (γ : kG) (L : List Nat) (F : kF) (j n : Nat) (hj : j < n) (hn : n < 1000000) : kC l yJ3_checkIndex_8e157 cJ3_checkIndex_8e157 3 (some .int) (kRm 0 0 0) γ L F [.int (nI j), .int (nI n), .null] (kI fun r L1 F1 => L = L1 ∧ F = F1 ∧ r = nI j) := by
  refine kC_of (by decide +kernel) (Nat.le_of_ble_eq_true rfl) ?_
  intro p e s m args below meth c sz ls hargs hsz hM hin hE hX hl
  have hx := hM.1
  have hb := hM.2.1
  have hl : lv_has ls 3 [(0, .int (nI j)), (1, .int (nI n))] := lv_sub (l' := [(0, .int (nI j)), (1, .int (nI n))]) hl [0, 1] rfl
  refine lv_iload_n hx hb dJ3_checkIndex_8e157_0 rfl (lv_at hl 0 rfl) ?_
  refine lv_if_lt (tgt := 9) hx hb dJ3_checkIndex_8e157_1 (by decide) (fun c_1 => absurd c_1 (nI_pos (by omega))) (fun _ => ?_)
  refine lv_iload_n hx hb dJ3_checkIndex_8e157_4 rfl (lv_at hl 0 rfl) ?_
  refine lv_iload_n hx hb dJ3_checkIndex_8e157_5 rfl (lv_at hl 1 rfl) ?_
  refine lv_icmp_lt (tgt := 16) hx hb dJ3_checkIndex_8e157_6 (by decide) (fun _ => ?_) (fun c_2 => absurd c_2 (not_not_intro (nI_lt hj (by omega))))
  refine lv_iload_n hx hb dJ3_checkIndex_8e157_16 rfl (lv_at hl 0 rfl) ?_
  exact k_iret hM hsz hX ⟨_, rfl, rfl, rfl, rfl⟩ (by decide) (by decide) dJ3_checkIndex_8e157_17
set_option maxHeartbeats 4000000 in
set_option maxRecDepth 100000 in
theorem c_J15_checkIndex_7cf53 (l : Launch) (γ : kG) (L : List Nat) (F : kF) (j n : Nat) (hj : j < n) (hn : n < 1000000) : kC l yJ15_checkIndex_7cf53 cJ15_checkIndex_7cf53 2 (some .int) (kRm 1 0 0) γ L F [.int (nI j), .int (nI n)] (kI fun r L1 F1 => L = L1 ∧ F = F1 ∧ r = nI j) := by
  refine kC_of (by decide +kernel) (Nat.le_of_ble_eq_true rfl) ?_
  intro p e s m args below meth c sz ls hargs hsz hM hin hE hX hl
  have hx := hM.1
  have hb := hM.2.1
  have hl : lv_has ls 2 [(0, .int (nI j)), (1, .int (nI n))] := hl
  refine lv_iload_n hx hb dJ15_checkIndex_7cf53_0 rfl (lv_at hl 0 rfl) ?_
  refine lv_iload_n hx hb dJ15_checkIndex_7cf53_1 rfl (lv_at hl 1 rfl) ?_
  refine lv_null hx hb dJ15_checkIndex_7cf53_2 ?_
  refine k_goi (k_S (n := 3) (As := [.int (nI j), .int (nI n), .null]) (rest := []) hM hE hX hl (c_J3_checkIndex_8e157 l γ L F j n hj hn) k_231 k_232 k_14 k_233 ⟨by decide, by decide, by decide +kernel⟩ (by decide) rfl rfl (Nat.le_of_ble_eq_true rfl) dJ15_checkIndex_7cf53_3 (by decide)) hE hX (fun r L1 F1 H locs hp hX => ?_)
  obtain ⟨rfl, rfl, rfl⟩ := hp
  exact k_iret hM hsz hX ⟨_, rfl, rfl, rfl, rfl⟩ (by decide) (by decide) dJ15_checkIndex_7cf53_6
set_option maxHeartbeats 4000000 in
set_option maxRecDepth 100000 in
theorem c_Jx4a65c_size_8abf5 (l : Launch) (γ : kG) (L : List Nat) (F : kF) (a e0 n : Nat) (mc : Int32) (ha : a ∈ L) (hFa : F a = .inr (4, [.int mc, .ref e0, .int (nI n)])) : kC l yJx4a65c_size_8abf5 cJx4a65c_size_8abf5 1 (some .int) (kRm 0 0 0) γ L F [.ref a] (kI fun r L1 F1 => L = L1 ∧ F = F1 ∧ r = nI n) := by
  refine kC_of (by decide +kernel) (Nat.le_of_ble_eq_true rfl) ?_
  intro p e s m args below meth c sz ls hargs hsz hM hin hE hX hl
  have hx := hM.1
  have hb := hM.2.1
  have hl : lv_has ls 1 [(0, .ref a)] := hl
  refine lv_aload_n hx hb dJx4a65c_size_8abf5_0 rfl (lv_at hl 0 rfl) ?_
  refine k_get hM hE hX ha hFa rfl 2 (by decide) inAL k_53 (fun _ h => h) rfl dJx4a65c_size_8abf5_1 ?_
  exact k_iret hM hsz hX ⟨_, rfl, rfl, rfl, rfl⟩ (by decide) (by decide) dJx4a65c_size_8abf5_4
set_option maxHeartbeats 4000000 in
set_option maxRecDepth 100000 in
theorem c_Jx4a65c_elementData_915e3 (l : Launch) (γ : kG) (L : List Nat) (F : kF) (a e0 n : Nat) (mc : Int32) (ha : a ∈ L) (hFa : F a = .inr (4, [.int mc, .ref e0, .int (nI n)])) (he : e0 ∈ L) (cap : Nat) (f : Nat → Option Nat) (hFe : F e0 = .inl (γ.2.1 4, cap, .inr (.inr (.inr (.inr f))))) (hcap : n ≤ cap) (hc9 : cap < 1000000) (j x : Nat) (hj : j < n) (hfx : f j = some x) : kC l yJx4a65c_elementData_915e3 cJx4a65c_elementData_915e3 2 (some (.object "java/lang/Object")) (kRm 0 0 0) γ L F [.ref a, .int (nI j)] (kR fun r L1 F1 => L = L1 ∧ F = F1 ∧ r = x) := by
  refine kC_of (by decide +kernel) (Nat.le_of_ble_eq_true rfl) ?_
  intro p e s m args below meth c sz ls hargs hsz hM hin hE hX hl
  have hx := hM.1
  have hb := hM.2.1
  have hl : lv_has ls 2 [(0, .ref a), (1, .int (nI j))] := hl
  refine lv_aload_n hx hb dJx4a65c_elementData_915e3_0 rfl (lv_at hl 0 rfl) ?_
  refine k_get hM hE hX ha hFa rfl 1 (by decide) inAL k_52 (fun _ h => h) rfl dJx4a65c_elementData_915e3_1 ?_
  refine lv_iload_n hx hb dJx4a65c_elementData_915e3_4 rfl (lv_at hl 1 rfl) ?_
  refine k_aald2 (v := x) hM hE hX he hFe (j := j) rfl (by omega) (by omega) hfx dJx4a65c_elementData_915e3_5 ?_
  exact k_aret hM (Or.inl ⟨_, rfl⟩) hsz hX ⟨_, rfl, rfl, rfl, rfl⟩ (by decide) (by decide) dJx4a65c_elementData_915e3_6
set_option maxHeartbeats 4000000 in
set_option maxRecDepth 100000 in
theorem c_Jx4a65c_get_915e3 (l : Launch) (γ : kG) (L : List Nat) (F : kF) (a e0 n : Nat) (mc : Int32) (ha : a ∈ L) (hFa : F a = .inr (4, [.int mc, .ref e0, .int (nI n)])) (he : e0 ∈ L) (cap : Nat) (f : Nat → Option Nat) (hFe : F e0 = .inl (γ.2.1 4, cap, .inr (.inr (.inr (.inr f))))) (hcap : n ≤ cap) (hc9 : cap < 1000000) (j x : Nat) (hj : j < n) (hfx : f j = some x) : kC l yJx4a65c_get_915e3 cJx4a65c_get_915e3 2 (some (.object "java/lang/Object")) (kRm 2 0 0) γ L F [.ref a, .int (nI j)] (kR fun r L1 F1 => L = L1 ∧ F = F1 ∧ r = x) := by
  refine kC_of (by decide +kernel) (Nat.le_of_ble_eq_true rfl) ?_
  intro p e s m args below meth c sz ls hargs hsz hM hin hE hX hl
  have hx := hM.1
  have hb := hM.2.1
  have hl : lv_has ls 2 [(0, .ref a), (1, .int (nI j))] := hl
  refine lv_iload_n hx hb dJx4a65c_get_915e3_0 rfl (lv_at hl 1 rfl) ?_
  refine lv_aload_n hx hb dJx4a65c_get_915e3_1 rfl (lv_at hl 0 rfl) ?_
  refine k_get hM hE hX ha hFa rfl 2 (by decide) inAL k_53 (fun _ h => h) rfl dJx4a65c_get_915e3_2 ?_
  refine k_goi (k_S (n := 2) (As := [.int (nI j), .int (nI n)]) (rest := []) hM hE hX hl (c_J15_checkIndex_7cf53 l γ L F j n hj (by omega)) k_228 k_229 k_13 k_230 ⟨by decide, by decide, by decide +kernel⟩ (by decide) rfl rfl (Nat.le_of_ble_eq_true rfl) dJx4a65c_get_915e3_5 (by decide)) hE hX (fun r L1 F1 H locs hp hX => ?_)
  obtain ⟨rfl, rfl, rfl⟩ := hp
  refine lv_pop hx hb dJx4a65c_get_915e3_8 rfl ?_
  refine lv_aload_n hx hb dJx4a65c_get_915e3_9 rfl (lv_at hl 0 rfl) ?_
  refine lv_iload_n hx hb dJx4a65c_get_915e3_10 rfl (lv_at hl 1 rfl) ?_
  refine k_gor (k_V (n := 1) (As := [.int (nI j)]) (rest := []) hM hE hX hl (c_Jx4a65c_elementData_915e3 l γ L F a e0 n mc ha hFa he cap f hFe hcap hc9 j x hj hfx) ha hFa rfl k_234 k_235 k_236 k_4 k_237 ⟨rfl, by decide, by decide, by decide +kernel⟩ (by decide) rfl rfl (Nat.le_of_ble_eq_true rfl) dJx4a65c_get_915e3_11 (by decide)) hE hX (fun r L1 F1 H locs hp hX => ?_)
  obtain ⟨rfl, rfl, rfl⟩ := hp
  exact k_aret hM (Or.inl ⟨_, rfl⟩) hsz hX ⟨_, rfl, rfl, rfl, rfl⟩ (by decide) (by decide) dJx4a65c_get_915e3_14
theorem gr_max (n : Nat) (hn : n < 1000000) : (if nI 1 < nI (n / 2) then nI (n / 2) else nI 1 : Int32) = nI (max 1 (n / 2)) := by
  rcases Nat.lt_or_ge 1 (n / 2) with h | h
  · rw [if_pos (nI_lt h (by omega)), Nat.max_eq_right (by omega)]
  · rw [if_neg (nI_nlt h (by decide)), Nat.max_eq_left h]
theorem gr_lim {k : Nat} (h : k < 2000000) : ¬ (2147483639 : Int32) < nI k := nI_nlt (a := 2147483639) (b := k) (by omega) (by decide)
theorem gr_pos {k : Nat} (h0 : 0 < k) (h : k < 2000000) : ¬ nI k ≤ (0 : Int32) := nI_nle h0 (by omega)
theorem gr_shr (n : Nat) (hn : n < 1000000) : nI n >>> ((1 : Int32) &&& 31) = nI (n / 2) := by
  rw [show ((1 : Int32) &&& 31) = 1 by decide]
  exact pk_shrN (n := n) (by omega) 1 1 (by decide)
set_option maxHeartbeats 4000000 in
set_option maxRecDepth 100000 in
theorem c_J8_newLength_cabcc (l : Launch) (γ : kG) (L : List Nat) (F : kF) (n : Nat) (hn : n < 1000000) : kC l yJ8_newLength_cabcc cJ8_newLength_cabcc 4 (some .int) (kRm 0 0 0) γ L F [.int (nI n), .int (nI 1), .int (nI (n / 2))] (kI fun r L1 F1 => L = L1 ∧ F = F1 ∧ r = nI (n + max 1 (n / 2))) := by
  refine kC_of (by decide +kernel) (Nat.le_of_ble_eq_true rfl) ?_
  intro p e s m args below meth c sz ls hargs hsz hM hin hE hX hl
  have hx := hM.1
  have hb := hM.2.1
  have hl : lv_has ls 4 [(0, .int (nI n)), (1, .int (nI 1)), (2, .int (nI (n / 2)))] := hl
  refine lv_iload_n hx hb dJ8_newLength_cabcc_0 rfl (lv_at hl 0 rfl) ?_
  refine lv_iload_n hx hb dJ8_newLength_cabcc_1 rfl (lv_at hl 1 rfl) ?_
  refine lv_iload_n hx hb dJ8_newLength_cabcc_2 rfl (lv_at hl 2 rfl) ?_
  refine k_max hM hl k_326 k_258 k_15 k_259 ⟨by decide, Nat.le_of_ble_eq_true rfl⟩ (by decide) dJ8_newLength_cabcc_3 ?_
  rw [show (if (nI 1) < (nI (n / 2)) then (nI (n / 2)) else (nI 1) : Int32) = (nI (max 1 (n / 2))) from gr_max n hn]
  refine lv_iadd hx hb dJ8_newLength_cabcc_6 ?_
  rw [show (nI n) + (nI (max 1 (n / 2))) = (nI (n + max 1 (n / 2))) from nI_add _ _]
  refine lv_istore_n (lv' := [(3, .int (nI (n + max 1 (n / 2)))), (0, .int (nI n)), (1, .int (nI 1)), (2, .int (nI (n / 2)))]) hx hb dJ8_newLength_cabcc_7 rfl hl (by decide) rfl (fun ls hl => ?_)
  refine lv_iconst (v := 0) hx hb dJ8_newLength_cabcc_8 (by decide) ?_
  refine lv_iload_n hx hb dJ8_newLength_cabcc_9 rfl (lv_at hl 0 rfl) ?_
  refine lv_icmp_ge (tgt := 21) hx hb dJ8_newLength_cabcc_10 (by decide) (fun c_1 => absurd c_1 (gr_pos (by omega) (by omega))) (fun _ => ?_)
  refine lv_iload_n hx hb dJ8_newLength_cabcc_13 rfl (lv_at hl 0 rfl) ?_
  refine lv_ldc hx hb hM.2.2.2.1 (hM.2.2.2.2.1 _ k_327) dJ8_newLength_cabcc_14 ?_
  refine lv_icmp_gt (tgt := 21) hx hb dJ8_newLength_cabcc_16 (by decide) (fun c_2 => absurd c_2 (gr_lim (by omega))) (fun _ => ?_)
  refine lv_iload_n hx hb dJ8_newLength_cabcc_19 rfl (lv_at hl 0 rfl) ?_
  exact k_iret hM hsz hX ⟨_, rfl, rfl, rfl, rfl⟩ (by decide) (by decide) dJ8_newLength_cabcc_20
theorem gr_min {n k : Nat} (h : n ≤ k) (hk : k < 1000000) : (if nI k < nI n then nI k else nI n : Int32) = nI n := if_neg (nI_nlt h (by omega))
set_option maxHeartbeats 4000000 in
set_option maxRecDepth 100000 in
theorem c_J7_copyOf_6403c (l : Launch) (γ : kG) (L : List Nat) (F : kF) (a0 n m1 : Nat) (f : Nat → Option Nat) (ha : a0 ∈ L) (hFa : F a0 = .inl (γ.2.1 4, n, .inr (.inr (.inr (.inr f))))) (hnm : n ≤ m1) (hm : m1 ≤ 1000) (hel : ∀ i : Nat, i < n → ∀ y : Nat, f i = some y → kEl L F y) : kC l yJ7_copyOf_6403c cJ7_copyOf_6403c 4 (some (.array (.object "java/lang/Object"))) (kRm 0 1 1000) γ L F [.ref a0, .int (nI m1), .ref (γ.2.1 5)] (kR fun r L1 F1 => r ∉ L ∧ L1 = L ++ [r] ∧ F1 = va_up F r (.inl (γ.2.1 4, m1, .inr (.inr (.inr (.inr (va_cpy f (fun _ => none) 0 0 n))))))) := by
  refine kC_of (by decide +kernel) (Nat.le_of_ble_eq_true rfl) ?_
  intro p e s m args below meth c sz ls hargs hsz hM hin hE hX hl
  have hx := hM.1
  have hb := hM.2.1
  have hl : lv_has ls 4 [(0, .ref a0), (1, .int (nI m1)), (2, .ref (γ.2.1 5))] := hl
  refine lv_aload_n hx hb dJ7_copyOf_6403c_0 rfl (lv_at hl 2 rfl) ?_
  refine va_ldcM hx hb hM.2.2.2.1 (hM.2.2.2.2.1 _ kw_cls_objarr) hE.2.1.2.2.2.2.2.2.2.2.2.2.2.2.1 dJ7_copyOf_6403c_1 ?_
  refine lv_acmp_ne (rx := some (γ.2.1 5)) (ry := some (γ.2.1 5)) (tgt := 13) hx hb dJ7_copyOf_6403c_3 (by decide) (fun h => absurd rfl h) (fun _ => ?_)
  refine lv_iload_n hx hb dJ7_copyOf_6403c_6 rfl (lv_at hl 1 rfl) ?_
  refine k_newq (N' := m1) hM hE hX k_356 (by first | decide | exact nI_pos (by omega)) (by first | decide | exact nI_clamp (by omega)) (by omega) (by decide) (by show 0 + m1 ≤ 1000; omega) dJ7_copyOf_6403c_7 (fun q H hq hX => ?_)
  obtain ⟨L1, F1, hX, eL1, eF1⟩ : ∃ (L9 : List Nat) (F9 : kF), kX γ _ s L9 F9 H _ ∧ L9 = L ++ [q] ∧ F9 = va_up F q (.inl (γ.2.1 4, m1, .inr (.inr (.inr (.inr (fun _ => none)))))) := ⟨_, _, hX, rfl, rfl⟩
  have f1_a0 : F1 a0 = .inl (γ.2.1 4, n, .inr (.inr (.inr (.inr f)))) := by rw [eF1, va_up_ne _ _ (show a0 ≠ q from fun h9 => hq (h9 ▸ ha))]; exact hFa
  have m1_a0 : a0 ∈ L1 := by rw [eL1]; exact List.mem_append_left _ ha
  have f1_q : F1 q = .inl (γ.2.1 4, m1, .inr (.inr (.inr (.inr (fun _ => none))))) := by rw [eF1]; exact va_up_self _ _ _
  have m1_q : q ∈ L1 := by rw [eL1]; simp
  refine lv_goto (tgt := 24) hx hb dJ7_copyOf_6403c_10 (by decide) ?_
  refine lv_astore_n (lv' := [(3, .ref q), (0, .ref a0), (1, .int (nI m1)), (2, .ref (γ.2.1 5))]) hx hb dJ7_copyOf_6403c_24 rfl hl (by decide) rfl (fun ls hl => ?_)
  refine lv_aload_n hx hb dJ7_copyOf_6403c_25 rfl (lv_at hl 1 rfl) ?_
  refine lv_iconst (v := 0) hx hb dJ7_copyOf_6403c_26 (by decide) ?_
  refine lv_aload_n hx hb dJ7_copyOf_6403c_27 rfl (lv_at hl 0 rfl) ?_
  refine lv_iconst (v := 0) hx hb dJ7_copyOf_6403c_28 (by decide) ?_
  refine lv_aload_n hx hb dJ7_copyOf_6403c_29 rfl (lv_at hl 1 rfl) ?_
  refine k_alen (t0 := 4) hM hE hX m1_a0 f1_a0 rfl rfl dJ7_copyOf_6403c_30 ?_
  refine lv_iload_n hx hb dJ7_copyOf_6403c_31 rfl (lv_at hl 2 rfl) ?_
  refine k_min hM hl k_357 k_358 k_15 k_359 ⟨by decide, Nat.le_of_ble_eq_true rfl⟩ ⟨by decide, by show 0 + m1 ≤ 1000; omega⟩ dJ7_copyOf_6403c_32 ?_
  rw [show (if (nI m1) < (nI n) then (nI m1) else (nI n) : Int32) = (nI n) from gr_min hnm (by omega)]
  refine k_copyq (n := n) hM hE hX hl m1_a0 f1_a0 m1_q f1_q (Nat.le_refl _) hnm (by omega) (fun i hi y hy => by obtain ⟨g1, ci, gs, g2, g3⟩ := hel i hi y hy; exact ⟨by rw [eL1]; exact List.mem_append_left _ g1, ci, gs, by rw [eF1, va_up_ne _ _ (show y ≠ q from fun h9 => hq (h9 ▸ g1))]; exact g2, g3⟩) kw_acopy_link kw_acopy_nat kw_acopy_st k_22 (by decide) dJ7_copyOf_6403c_35 (fun H locs hX => ?_)
  refine lv_aload_n hx hb dJ7_copyOf_6403c_38 rfl (lv_at hl 0 rfl) ?_
  refine k_aret hM (Or.inr ⟨_, rfl⟩) hsz hX ⟨_, rfl, hq, eL1, ?_⟩ (by decide) (show 0 + m1 ≤ 1000 by omega) dJ7_copyOf_6403c_39
  rw [eF1, bx_uu]
set_option maxHeartbeats 4000000 in
set_option maxRecDepth 100000 in
theorem c_J7_copyOf_1904c (l : Launch) (γ : kG) (L : List Nat) (F : kF) (a0 n m1 : Nat) (f : Nat → Option Nat) (ha : a0 ∈ L) (hFa : F a0 = .inl (γ.2.1 4, n, .inr (.inr (.inr (.inr f))))) (hnm : n ≤ m1) (hm : m1 ≤ 1000) (hel : ∀ i : Nat, i < n → ∀ y : Nat, f i = some y → kEl L F y) : kC l yJ7_copyOf_1904c cJ7_copyOf_1904c 2 (some (.array (.object "java/lang/Object"))) (kRm 1 1 1000) γ L F [.ref a0, .int (nI m1)] (kR fun r L1 F1 => r ∉ L ∧ L1 = L ++ [r] ∧ F1 = va_up F r (.inl (γ.2.1 4, m1, .inr (.inr (.inr (.inr (va_cpy f (fun _ => none) 0 0 n))))))) := by
  refine kC_of (by decide +kernel) (Nat.le_of_ble_eq_true rfl) ?_
  intro p e s m args below meth c sz ls hargs hsz hM hin hE hX hl
  have hx := hM.1
  have hb := hM.2.1
  have hl : lv_has ls 2 [(0, .ref a0), (1, .int (nI m1))] := hl
  refine lv_aload_n hx hb dJ7_copyOf_1904c_0 rfl (lv_at hl 0 rfl) ?_
  refine lv_iload_n hx hb dJ7_copyOf_1904c_1 rfl (lv_at hl 1 rfl) ?_
  refine lv_aload_n hx hb dJ7_copyOf_1904c_2 rfl (lv_at hl 0 rfl) ?_
  refine k_getC hM hE hX hl ha hFa hE.2.1.2.2.2.2.2.2.2.2.2.2.2.2.1 kw_getc_link kw_getc_sel k_335 kw_getc_nat ⟨by decide, Nat.le_of_ble_eq_true rfl⟩ dJ7_copyOf_1904c_3 ?_
  refine k_gor (k_S (n := 3) (As := [.ref a0, .int (nI m1), .ref (γ.2.1 5)]) (rest := []) hM hE hX hl (c_J7_copyOf_6403c l γ L F a0 n m1 f ha hFa hnm hm hel) k_351 k_352 k_21 k_353 ⟨by decide, by decide, by decide +kernel⟩ (by decide) rfl rfl (Nat.le_of_ble_eq_true rfl) dJ7_copyOf_1904c_6 (by decide)) hE hX (fun q L1 F1 H locs hp hX => ?_)
  obtain ⟨hq, eL, eF⟩ := hp
  exact k_aret hM (Or.inr ⟨_, rfl⟩) hsz hX ⟨_, rfl, hq, eL, eF⟩ (by decide) (by decide) dJ7_copyOf_1904c_9
set_option maxHeartbeats 4000000 in
set_option maxRecDepth 100000 in
theorem c_Jx4a65c_grow_92f84 (l : Launch) (γ : kG) (L : List Nat) (F : kF) (a e0 n : Nat) (mc : Int32) (ha : a ∈ L) (hFa : F a = .inr (4, [.int mc, .ref e0, .int (nI n)])) (he : e0 ∈ L) (f : Nat → Option Nat) (hFe : F e0 = .inl (γ.2.1 4, n, .inr (.inr (.inr (.inr f))))) (h1 : 1 ≤ n) (hn : n ≤ 600) (hel : ∀ i : Nat, i < n → ∀ y : Nat, f i = some y → kEl L F y) : kC l yJx4a65c_grow_92f84 cJx4a65c_grow_92f84 4 (some (.array (.object "java/lang/Object"))) (kRm 2 1 1000) γ L F [.ref a, .int (nI (n + 1))] (kR fun r L1 F1 => r ∉ L ∧ L1 = L ++ [r] ∧ F1 = va_up (va_up F r (.inl (γ.2.1 4, n + max 1 (n / 2), .inr (.inr (.inr (.inr (va_cpy f (fun _ => none) 0 0 n))))))) a (.inr (4, [.int mc, .ref r, .int (nI n)]))) := by
  refine kC_of (by decide +kernel) (Nat.le_of_ble_eq_true rfl) ?_
  intro p e s m args below meth c sz ls hargs hsz hM hin hE hX hl
  have hx := hM.1
  have hb := hM.2.1
  have hl : lv_has ls 4 [(0, .ref a), (1, .int (nI (n + 1)))] := hl
  refine lv_aload_n hx hb dJx4a65c_grow_92f84_0 rfl (lv_at hl 0 rfl) ?_
  refine k_get hM hE hX ha hFa rfl 1 (by decide) inAL k_52 (fun _ h => h) rfl dJx4a65c_grow_92f84_1 ?_
  refine k_alen (t0 := 4) hM hE hX he hFe rfl rfl dJx4a65c_grow_92f84_4 ?_
  refine lv_istore_n (lv' := [(2, .int (nI n)), (0, .ref a), (1, .int (nI (n + 1)))]) hx hb dJx4a65c_grow_92f84_5 rfl hl (by decide) rfl (fun ls hl => ?_)
  refine lv_iload_n hx hb dJx4a65c_grow_92f84_6 rfl (lv_at hl 0 rfl) ?_
  refine lv_if_gt (tgt := 20) hx hb dJx4a65c_grow_92f84_7 (by decide) (fun _ => ?_) (fun c_1 => absurd c_1 (not_not_intro (nI_lt (a := 0) (b := n) (by omega) (by omega))))
  refine lv_iload_n hx hb dJx4a65c_grow_92f84_20 rfl (lv_at hl 0 rfl) ?_
  refine lv_iload_n hx hb dJx4a65c_grow_92f84_21 rfl (lv_at hl 2 rfl) ?_
  refine lv_iload_n hx hb dJx4a65c_grow_92f84_22 rfl (lv_at hl 0 rfl) ?_
  refine lv_isub hx hb dJx4a65c_grow_92f84_23 ?_
  rw [show (nI (n + 1)) - (nI n) = (nI 1) from by rw [pk_sub (by omega), show n + 1 - n = 1 by omega]]
  refine lv_iload_n hx hb dJx4a65c_grow_92f84_24 rfl (lv_at hl 0 rfl) ?_
  refine lv_iconst (v := 1) hx hb dJx4a65c_grow_92f84_25 (by decide) ?_
  refine lv_ishr hx hb dJx4a65c_grow_92f84_26 ?_
  rw [show (nI n) >>> ((1 : Int32) &&& 31) = (nI (n / 2)) from gr_shr n (by omega)]
  refine k_goi (k_S (n := 3) (As := [.int (nI n), .int (nI 1), .int (nI (n / 2))]) (rest := []) hM hE hX hl (c_J8_newLength_cabcc l γ L F n (by omega)) k_323 k_324 k_20 k_325 ⟨by decide, by decide, by decide +kernel⟩ (by decide) rfl rfl (Nat.le_of_ble_eq_true rfl) dJx4a65c_grow_92f84_27 (by decide)) hE hX (fun r L1 F1 H locs hp hX => ?_)
  obtain ⟨rfl, rfl, rfl⟩ := hp
  refine lv_istore_n (lv' := [(3, .int (nI (n + max 1 (n / 2)))), (2, .int (nI n)), (0, .ref a), (1, .int (nI (n + 1)))]) hx hb dJx4a65c_grow_92f84_30 rfl hl (by decide) rfl (fun ls hl => ?_)
  refine lv_aload_n hx hb dJx4a65c_grow_92f84_31 rfl (lv_at hl 2 rfl) ?_
  refine lv_aload_n hx hb dJx4a65c_grow_92f84_32 rfl (lv_at hl 2 rfl) ?_
  refine k_get hM hE hX ha hFa rfl 1 (by decide) inAL k_52 (fun _ h => h) rfl dJx4a65c_grow_92f84_33 ?_
  refine lv_iload_n hx hb dJx4a65c_grow_92f84_36 rfl (lv_at hl 0 rfl) ?_
  refine k_gor (k_S (n := 2) (As := [.ref e0, .int (nI (n + max 1 (n / 2)))]) (rest := [.ref a]) hM hE hX hl (c_J7_copyOf_1904c l γ L F e0 n (n + max 1 (n / 2)) f he hFe (by omega) (by omega) hel) k_331 k_332 k_21 k_333 ⟨by decide, by decide, by decide +kernel⟩ (by decide) rfl rfl (Nat.le_of_ble_eq_true rfl) dJx4a65c_grow_92f84_37 (by decide)) hE hX (fun q L1 F1 H locs hp hX => ?_)
  obtain ⟨hq, eL, eF⟩ := hp
  have hFa2 : F1 a = .inr (4, [.int mc, .ref e0, .int (nI n)]) := by rw [eF, va_up_ne _ _ (show a ≠ q from fun h9 => hq (h9 ▸ ha))]; exact hFa
  have ha2 : a ∈ L1 := by rw [eL]; exact List.mem_append_left _ ha
  refine lv_dup_x1 hx hb dJx4a65c_grow_92f84_40 rfl rfl ?_
  refine k_put hM hE hX ha2 hFa2 rfl 1 (by decide) inAL tyJx4a65c tyJx4a65c_ok nmJx4a65c k_52 (fun _ h => h) (Or.inl rfl) rfl rfl (Nat.le_of_ble_eq_true rfl) dJx4a65c_grow_92f84_41 (fun H locs hX => ?_)
  obtain ⟨F2, hX, eF2⟩ : ∃ F9 : kF, kX γ _ s _ F9 H locs ∧ F9 = va_up F1 a (.inr (4, [.int mc, .ref q, .int (nI n)])) := ⟨_, hX, rfl⟩
  have f2_a : F2 a = .inr (4, [.int mc, .ref q, .int (nI n)]) := by rw [eF2]; exact va_up_self _ _ _
  exact k_aret hM (Or.inr ⟨_, rfl⟩) hsz hX ⟨_, rfl, hq, eL, by rw [eF2, eF]⟩ (by decide) (by decide) dJx4a65c_grow_92f84_44
set_option maxHeartbeats 4000000 in
set_option maxRecDepth 100000 in
theorem c0_Jx4a65c_grow_92f84 (l : Launch) (γ : kG) (L : List Nat) (F : kF) (a : Nat) (mc : Int32) (ha : a ∈ L) (hFa : F a = .inr (4, [.int mc, .ref γ.2.2, .int (nI 0)])) : kC l yJx4a65c_grow_92f84 cJx4a65c_grow_92f84 4 (some (.array (.object "java/lang/Object"))) (kRm 2 1 1000) γ L F [.ref a, .int (nI 1)] (kR fun r L1 F1 => r ∉ L ∧ L1 = L ++ [r] ∧ F1 = va_up (va_up F r (.inl (γ.2.1 4, 10, .inr (.inr (.inr (.inr (fun _ => none))))))) a (.inr (4, [.int mc, .ref r, .int (nI 0)]))) := by
  refine kC_of (by decide +kernel) (Nat.le_of_ble_eq_true rfl) ?_
  intro p e s m args below meth c sz ls hargs hsz hM hin hE hX hl
  have hx := hM.1
  have hb := hM.2.1
  have hl : lv_has ls 4 [(0, .ref a), (1, .int (nI 1))] := hl
  refine lv_aload_n hx hb dJx4a65c_grow_92f84_0 rfl (lv_at hl 0 rfl) ?_
  refine k_get hM hE hX ha hFa rfl 1 (by decide) inAL k_52 (fun _ h => h) rfl dJx4a65c_grow_92f84_1 ?_
  refine k_tlen (v := 0) hM hX hE.2.1.2.2.2.2.2.2.2.2.1 rfl dJx4a65c_grow_92f84_4 ?_
  refine lv_istore_n (lv' := [(2, .int 0), (0, .ref a), (1, .int (nI 1))]) hx hb dJx4a65c_grow_92f84_5 rfl hl (by decide) rfl (fun ls hl => ?_)
  refine lv_iload_n hx hb dJx4a65c_grow_92f84_6 rfl (lv_at hl 0 rfl) ?_
  refine lv_if_gt (tgt := 20) hx hb dJx4a65c_grow_92f84_7 (by decide) (fun c_1 => absurd (show (0 : Int32) < 0 from c_1) (by decide)) (fun _ => ?_)
  refine lv_aload_n hx hb dJx4a65c_grow_92f84_10 rfl (lv_at hl 1 rfl) ?_
  refine k_get hM hE hX ha hFa rfl 1 (by decide) inAL k_52 (fun _ h => h) rfl dJx4a65c_grow_92f84_11 ?_
  refine k_gets hM hX hE.2.1.2.2.2.2.2.2.2.1 kw_defcap dJx4a65c_grow_92f84_14 ?_
  refine lv_acmp_eq (rx := some γ.2.2) (ry := some γ.2.2) (tgt := 45) hx hb dJx4a65c_grow_92f84_17 (by decide) (fun _ => ?_) (fun h => absurd rfl h)
  refine lv_aload_n hx hb dJx4a65c_grow_92f84_45 rfl (lv_at hl 1 rfl) ?_
  refine lv_bipush (v := 10) hx hb dJx4a65c_grow_92f84_46 (by decide) ?_
  refine lv_iload_n hx hb dJx4a65c_grow_92f84_48 rfl (lv_at hl 2 rfl) ?_
  refine k_max hM hl k_363 k_258 k_15 k_259 ⟨by decide, Nat.le_of_ble_eq_true rfl⟩ (by decide) dJx4a65c_grow_92f84_49 ?_
  rw [show (if 10 < (nI 1) then (nI 1) else 10 : Int32) = (nI 10) from by decide]
  refine k_newq (N' := 10) hM hE hX k_364 (by first | decide | exact nI_pos (by omega)) (by first | decide | exact nI_clamp (by omega)) (by decide) (by decide) (by decide) dJx4a65c_grow_92f84_52 (fun q H hq hX => ?_)
  obtain ⟨L1, F1, hX, eL1, eF1⟩ : ∃ (L9 : List Nat) (F9 : kF), kX γ _ s L9 F9 H _ ∧ L9 = L ++ [q] ∧ F9 = va_up F q (.inl (γ.2.1 4, 10, .inr (.inr (.inr (.inr (fun _ => none)))))) := ⟨_, _, hX, rfl, rfl⟩
  have f1_a : F1 a = .inr (4, [.int mc, .ref γ.2.2, .int (nI 0)]) := by rw [eF1, va_up_ne _ _ (show a ≠ q from fun h9 => hq (h9 ▸ ha))]; exact hFa
  have m1_a : a ∈ L1 := by rw [eL1]; exact List.mem_append_left _ ha
  have f1_q : F1 q = .inl (γ.2.1 4, 10, .inr (.inr (.inr (.inr (fun _ => none))))) := by rw [eF1]; exact va_up_self _ _ _
  have m1_q : q ∈ L1 := by rw [eL1]; simp
  refine lv_dup_x1 hx hb dJx4a65c_grow_92f84_55 rfl rfl ?_
  refine k_put hM hE hX m1_a f1_a rfl 1 (by decide) inAL tyJx4a65c tyJx4a65c_ok nmJx4a65c k_52 (fun _ h => h) (Or.inl rfl) rfl rfl (Nat.le_of_ble_eq_true rfl) dJx4a65c_grow_92f84_56 (fun H locs hX => ?_)
  obtain ⟨F2, hX, eF2⟩ : ∃ F9 : kF, kX γ _ s _ F9 H locs ∧ F9 = va_up F1 a (.inr (4, [.int mc, .ref q, .int (nI 0)])) := ⟨_, hX, rfl⟩
  have f2_a : F2 a = .inr (4, [.int mc, .ref q, .int (nI 0)]) := by rw [eF2]; exact va_up_self _ _ _
  have f2_q : F2 q = .inl (γ.2.1 4, 10, .inr (.inr (.inr (.inr (fun _ => none))))) := by rw [eF2, va_up_ne _ _ (fun h9 => by have h8 := f1_q; rw [h9, f1_a] at h8; cases h8)]; exact f1_q
  exact k_aret hM (Or.inr ⟨_, rfl⟩) hsz hX ⟨_, rfl, hq, eL1, by rw [eF2, eF1]⟩ (by decide) (by decide) dJx4a65c_grow_92f84_59
set_option maxHeartbeats 4000000 in
set_option maxRecDepth 100000 in
theorem c_Jx4a65c_grow_d5877 (l : Launch) (γ : kG) (L : List Nat) (F : kF) (a e0 n : Nat) (mc : Int32) (ha : a ∈ L) (hFa : F a = .inr (4, [.int mc, .ref e0, .int (nI n)])) (he : e0 ∈ L) (f : Nat → Option Nat) (hFe : F e0 = .inl (γ.2.1 4, n, .inr (.inr (.inr (.inr f))))) (h1 : 1 ≤ n) (hn : n ≤ 600) (hel : ∀ i : Nat, i < n → ∀ y : Nat, f i = some y → kEl L F y) : kC l yJx4a65c_grow_d5877 cJx4a65c_grow_d5877 1 (some (.array (.object "java/lang/Object"))) (kRm 3 1 1000) γ L F [.ref a] (kR fun r L1 F1 => r ∉ L ∧ L1 = L ++ [r] ∧ F1 = va_up (va_up F r (.inl (γ.2.1 4, n + max 1 (n / 2), .inr (.inr (.inr (.inr (va_cpy f (fun _ => none) 0 0 n))))))) a (.inr (4, [.int mc, .ref r, .int (nI n)]))) := by
  refine kC_of (by decide +kernel) (Nat.le_of_ble_eq_true rfl) ?_
  intro p e s m args below meth c sz ls hargs hsz hM hin hE hX hl
  have hx := hM.1
  have hb := hM.2.1
  have hl : lv_has ls 1 [(0, .ref a)] := hl
  refine lv_aload_n hx hb dJx4a65c_grow_d5877_0 rfl (lv_at hl 0 rfl) ?_
  refine lv_aload_n hx hb dJx4a65c_grow_d5877_1 rfl (lv_at hl 0 rfl) ?_
  refine k_get hM hE hX ha hFa rfl 2 (by decide) inAL k_53 (fun _ h => h) rfl dJx4a65c_grow_d5877_2 ?_
  refine lv_iconst (v := 1) hx hb dJx4a65c_grow_d5877_5 (by decide) ?_
  refine lv_iadd hx hb dJx4a65c_grow_d5877_6 ?_
  rw [show (nI n) + 1 = (nI (n + 1)) from nI_1 _]
  refine k_gor (k_V (n := 1) (As := [.int (nI (n + 1))]) (rest := []) hM hE hX hl (c_Jx4a65c_grow_92f84 l γ L F a e0 n mc ha hFa he f hFe h1 hn hel) ha hFa rfl k_319 k_321 kp_9 k_4 k_322 ⟨rfl, by decide, by decide, by decide +kernel⟩ (by decide) rfl rfl (Nat.le_of_ble_eq_true rfl) dJx4a65c_grow_d5877_7 (by decide)) hE hX (fun q L1 F1 H locs hp hX => ?_)
  obtain ⟨hq, eL, eF⟩ := hp
  exact k_aret hM (Or.inr ⟨_, rfl⟩) hsz hX ⟨_, rfl, hq, eL, eF⟩ (by decide) (by decide) dJx4a65c_grow_d5877_10
set_option maxHeartbeats 4000000 in
set_option maxRecDepth 100000 in
theorem c0_Jx4a65c_grow_d5877 (l : Launch) (γ : kG) (L : List Nat) (F : kF) (a : Nat) (mc : Int32) (ha : a ∈ L) (hFa : F a = .inr (4, [.int mc, .ref γ.2.2, .int (nI 0)])) : kC l yJx4a65c_grow_d5877 cJx4a65c_grow_d5877 1 (some (.array (.object "java/lang/Object"))) (kRm 3 1 1000) γ L F [.ref a] (kR fun r L1 F1 => r ∉ L ∧ L1 = L ++ [r] ∧ F1 = va_up (va_up F r (.inl (γ.2.1 4, 10, .inr (.inr (.inr (.inr (fun _ => none))))))) a (.inr (4, [.int mc, .ref r, .int (nI 0)]))) := by
  refine kC_of (by decide +kernel) (Nat.le_of_ble_eq_true rfl) ?_
  intro p e s m args below meth c sz ls hargs hsz hM hin hE hX hl
  have hx := hM.1
  have hb := hM.2.1
  have hl : lv_has ls 1 [(0, .ref a)] := hl
  refine lv_aload_n hx hb dJx4a65c_grow_d5877_0 rfl (lv_at hl 0 rfl) ?_
  refine lv_aload_n hx hb dJx4a65c_grow_d5877_1 rfl (lv_at hl 0 rfl) ?_
  refine k_get hM hE hX ha hFa rfl 2 (by decide) inAL k_53 (fun _ h => h) rfl dJx4a65c_grow_d5877_2 ?_
  refine lv_iconst (v := 1) hx hb dJx4a65c_grow_d5877_5 (by decide) ?_
  refine lv_iadd hx hb dJx4a65c_grow_d5877_6 ?_
  rw [show (nI 0) + 1 = (nI 1) from rfl]
  refine k_gor (k_V (n := 1) (As := [.int (nI 1)]) (rest := []) hM hE hX hl (c0_Jx4a65c_grow_92f84 l γ L F a mc ha hFa) ha hFa rfl k_319 k_321 kp_9 k_4 k_322 ⟨rfl, by decide, by decide, by decide +kernel⟩ (by decide) rfl rfl (Nat.le_of_ble_eq_true rfl) dJx4a65c_grow_d5877_7 (by decide)) hE hX (fun q L1 F1 H locs hp hX => ?_)
  obtain ⟨hq, eL, eF⟩ := hp
  exact k_aret hM (Or.inr ⟨_, rfl⟩) hsz hX ⟨_, rfl, hq, eL, eF⟩ (by decide) (by decide) dJx4a65c_grow_d5877_10
