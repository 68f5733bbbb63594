def kAdded (γ : kG) (L : List Nat) (F : kF) (a e0 n x : Nat) (mc : Int32) (f : Nat → Option Nat) (L1 : List Nat) (F1 : kF) : Prop := ∃ (e1 cap1 : Nat) (f1 : Nat → Option Nat), (∀ b ∈ L, b ∈ L1) ∧ e1 ∈ L1 ∧ ((e1 = e0 ∧ n ≠ 0) ∨ e1 ∉ L) ∧ n + 1 ≤ cap1 ∧ cap1 ≤ 1000 ∧ F1 e1 = .inl (γ.2.1 4, cap1, .inr (.inr (.inr (.inr f1)))) ∧ f1 n = some x ∧ (∀ j : Nat, j < n → f1 j = f j) ∧ a ∈ L1 ∧ F1 a = .inr (4, [.int mc, .ref e1, .int (nI (n + 1))]) ∧ ∀ b ∈ L, b ≠ a → (b ≠ e0 ∨ n = 0) → F1 b = F b
theorem kEl.up {L : List Nat} {F : kF} {x b : Nat} {v : va_E} (h : kEl L F x) (hb : x ≠ b) : kEl L (va_up F b v) x := by
  obtain ⟨g1, ci, gs, g2, g3⟩ := h
  exact ⟨g1, ci, gs, by rw [va_up_ne _ _ hb]; exact g2, g3⟩
theorem kEl.more {L : List Nat} {F : kF} {x b : Nat} (h : kEl L F x) : kEl (L ++ [b]) F x := by
  obtain ⟨g1, ci, gs, g2, g3⟩ := h
  exact ⟨List.mem_append_left _ g1, ci, gs, g2, g3⟩
theorem kEl.ne {L : List Nat} {F : kF} {x b ci : Nat} {fs : List Value} (h : kEl L F x) (hb : F b = .inr (ci, fs)) (hc : ci < 5) : x ≠ b := by
  obtain ⟨g1, ci', gs, g2, g3⟩ := h
  intro e
  rw [e, hb] at g2
  cases g2
  omega
theorem kEl.neA {L : List Nat} {F : kF} {x b : Nat} {c} (h : kEl L F x) (hb : F b = .inl c) : x ≠ b := by
  obtain ⟨g1, ci', gs, g2, g3⟩ := h
  intro e
  rw [e, hb] at g2
  cases g2
set_option maxHeartbeats 4000000 in
set_option maxRecDepth 100000 in
theorem c_Jx4a65c_add_72be8 (l : Launch) (γ : kG) (L : List Nat) (F : kF) (a e0 n x : Nat) (mc : Int32) (ha : a ∈ L) (hFa : F a = .inr (4, [.int mc, .ref e0, .int (nI n)])) (hxx : kEl L F x) (he : e0 ∈ L) (cap : Nat) (f : Nat → Option Nat) (hFe : F e0 = .inl (γ.2.1 4, cap, .inr (.inr (.inr (.inr f))))) (hcap : n < cap) (hc9 : cap ≤ 1000) (h1n : 1 ≤ n) : kC l yJx4a65c_add_72be8 cJx4a65c_add_72be8 4 none (kRm 4 1 1000) γ L F [.ref a, .ref x, .ref e0, .int (nI n)] (kU fun L1 F1 => kAdded γ L F a e0 n x mc f L1 F1) := by
  refine kC_of (by decide +kernel) (Nat.le_of_ble_eq_true rfl) ?_
  intro p e s m args below meth c sz ls hargs hsz hM hin hE hX hl
  have hx := hM.1
  have hb := hM.2.1
  have hl : lv_has ls 4 [(0, .ref a), (1, .ref x), (2, .ref e0), (3, .int (nI n))] := hl
  refine lv_iload_n hx hb dJx4a65c_add_72be8_0 rfl (lv_at hl 3 rfl) ?_
  refine lv_aload_n hx hb dJx4a65c_add_72be8_1 rfl (lv_at hl 2 rfl) ?_
  refine k_alen (t0 := 4) hM hE hX he hFe rfl rfl dJx4a65c_add_72be8_2 ?_
  refine lv_icmp_ne (tgt := 11) hx hb dJx4a65c_add_72be8_3 (by decide) (fun _ => ?_) (fun c_1 => absurd c_1 (fun h9 => absurd ((nI_eq (by omega) (by omega)).mp h9) (by omega)))
  refine lv_aload_n hx hb dJx4a65c_add_72be8_11 rfl (lv_at hl 2 rfl) ?_
  refine lv_iload_n hx hb dJx4a65c_add_72be8_12 rfl (lv_at hl 3 rfl) ?_
  refine lv_aload_n hx hb dJx4a65c_add_72be8_13 rfl (lv_at hl 1 rfl) ?_
  refine k_aast (j := n) hM hE hX he hFe hxx rfl (by omega) (by omega) dJx4a65c_add_72be8_14 (fun H locs hX => ?_)
  obtain ⟨F1, hX, eF1⟩ : ∃ F9 : kF, kX γ _ s _ F9 H locs ∧ F9 = va_up F e0 (.inl (γ.2.1 4, cap, .inr (.inr (.inr (.inr (va_up f n (some x))))))) := ⟨_, hX, rfl⟩
  have f1_a : F1 a = .inr (4, [.int mc, .ref e0, .int (nI n)]) := by rw [eF1, va_up_ne _ _ (fun h9 => by have h8 := hFa; rw [h9, hFe] at h8; cases h8)]; exact hFa
  have f1_e0 : F1 e0 = .inl (γ.2.1 4, cap, .inr (.inr (.inr (.inr (va_up f n (some x)))))) := by rw [eF1]; exact va_up_self _ _ _
  refine lv_aload_n hx hb dJx4a65c_add_72be8_15 rfl (lv_at hl 0 rfl) ?_
  refine lv_iload_n hx hb dJx4a65c_add_72be8_16 rfl (lv_at hl 3 rfl) ?_
  refine lv_iconst (v := 1) hx hb dJx4a65c_add_72be8_17 (by decide) ?_
  refine lv_iadd hx hb dJx4a65c_add_72be8_18 ?_
  rw [show (nI n) + 1 = (nI (n + 1)) from nI_1 _]
  refine k_put hM hE hX ha f1_a rfl 2 (by decide) inAL tyJx4a65c tyJx4a65c_ok nmJx4a65c k_53 (fun _ h => h) (Or.inl rfl) rfl rfl (Nat.le_of_ble_eq_true rfl) dJx4a65c_add_72be8_19 (fun H locs hX => ?_)
  obtain ⟨F2, hX, eF2⟩ : ∃ F9 : kF, kX γ _ s _ F9 H locs ∧ F9 = va_up F1 a (.inr (4, [.int mc, .ref e0, .int (nI (n + 1))])) := ⟨_, hX, rfl⟩
  have f2_a : F2 a = .inr (4, [.int mc, .ref e0, .int (nI (n + 1))]) := by rw [eF2]; exact va_up_self _ _ _
  have f2_e0 : F2 e0 = .inl (γ.2.1 4, cap, .inr (.inr (.inr (.inr (va_up f n (some x)))))) := by rw [eF2, va_up_ne _ _ (fun h9 => by have h8 := f1_e0; rw [h9, f1_a] at h8; cases h8)]; exact f1_e0
  exact k_vret hM hsz hX ⟨rfl, e0, cap, _, (fun _ h => h), he, Or.inl ⟨rfl, by omega⟩, by omega, by omega, f2_e0, va_up_self _ _ _, (fun j hj => va_up_ne _ _ (by omega)), ha, f2_a, fun b hb h1 h2 => by rw [eF2, va_up_ne _ _ h1, eF1, va_up_ne _ _ (h2.resolve_right (by omega))]⟩ (by decide) (by decide) dJx4a65c_add_72be8_22
theorem kcpy_lt {f g : Nat → Option Nat} {n j : Nat} (h : j < n) : va_cpy f g 0 0 n j = f j := by
  unfold va_cpy
  rw [if_pos ⟨Nat.zero_le _, by omega⟩]
  simp
set_option maxHeartbeats 4000000 in
set_option maxRecDepth 100000 in
theorem cf_Jx4a65c_add_72be8 (l : Launch) (γ : kG) (L : List Nat) (F : kF) (a e0 n x : Nat) (mc : Int32) (ha : a ∈ L) (hFa : F a = .inr (4, [.int mc, .ref e0, .int (nI n)])) (hxx : kEl L F x) (he : e0 ∈ L) (f : Nat → Option Nat) (hFe : F e0 = .inl (γ.2.1 4, n, .inr (.inr (.inr (.inr f))))) (h1 : 1 ≤ n) (hn : n ≤ 600) (hel : ∀ i : Nat, i < n → ∀ y : Nat, f i = some y → kEl L F y) : kC l yJx4a65c_add_72be8 cJx4a65c_add_72be8 4 none (kRm 4 1 1000) γ L F [.ref a, .ref x, .ref e0, .int (nI n)] (kU fun L1 F1 => kAdded γ L F a e0 n x mc f L1 F1) := by
  refine kC_of (by decide +kernel) (Nat.le_of_ble_eq_true rfl) ?_
  intro p e s m args below meth c sz ls hargs hsz hM hin hE hX hl
  have hx := hM.1
  have hb := hM.2.1
  have hl : lv_has ls 4 [(0, .ref a), (1, .ref x), (2, .ref e0), (3, .int (nI n))] := hl
  refine lv_iload_n hx hb dJx4a65c_add_72be8_0 rfl (lv_at hl 3 rfl) ?_
  refine lv_aload_n hx hb dJx4a65c_add_72be8_1 rfl (lv_at hl 2 rfl) ?_
  refine k_alen (t0 := 4) hM hE hX he hFe rfl rfl dJx4a65c_add_72be8_2 ?_
  refine lv_icmp_ne (tgt := 11) hx hb dJx4a65c_add_72be8_3 (by decide) (fun c_1 => absurd c_1 (not_not_intro rfl)) (fun _ => ?_)
  refine lv_aload_n hx hb dJx4a65c_add_72be8_6 rfl (lv_at hl 0 rfl) ?_
  refine k_gor (k_V (n := 0) (As := []) (rest := []) hM hE hX hl (c_Jx4a65c_grow_d5877 l γ L F a e0 n mc ha hFa he f hFe h1 hn hel) ha hFa rfl k_315 k_317 kp_8 k_4 k_318 ⟨rfl, by decide, by decide, by decide +kernel⟩ (by decide) rfl rfl (Nat.le_of_ble_eq_true rfl) dJx4a65c_add_72be8_7 (by decide)) hE hX (fun q L1 F1 H locs hp hX => ?_)
  obtain ⟨hq, eL, eF⟩ := hp
  have hqa : a ≠ q := fun h9 => hq (h9 ▸ ha)
  have hFa2 : F1 a = .inr (4, [.int mc, .ref q, .int (nI n)]) := by rw [eF]; exact va_up_self _ _ _
  have ha2 : a ∈ L1 := by rw [eL]; exact List.mem_append_left _ ha
  have hFq2 : F1 q = .inl (γ.2.1 4, n + max 1 (n / 2), .inr (.inr (.inr (.inr (va_cpy f (fun _ => none) 0 0 n))))) := by rw [eF, va_up_ne _ _ (Ne.symm hqa)]; exact va_up_self _ _ _
  have hq2 : q ∈ L1 := by rw [eL]; simp
  have hxa : x ≠ a := hxx.ne hFa (by decide)
  have hxq : x ≠ q := fun h9 => hq (h9 ▸ hxx.1)
  have hx2 : kEl L1 F1 x := by rw [eL, eF]; exact ((hxx.more (b := q)).up hxq).up hxa
  refine lv_astore_n (lv' := [(2, .ref q), (0, .ref a), (1, .ref x), (3, .int (nI n))]) hx hb dJx4a65c_add_72be8_10 rfl hl (by decide) rfl (fun ls hl => ?_)
  refine lv_aload_n hx hb dJx4a65c_add_72be8_11 rfl (lv_at hl 0 rfl) ?_
  refine lv_iload_n hx hb dJx4a65c_add_72be8_12 rfl (lv_at hl 3 rfl) ?_
  refine lv_aload_n hx hb dJx4a65c_add_72be8_13 rfl (lv_at hl 2 rfl) ?_
  refine k_aast (j := n) hM hE hX hq2 hFq2 hx2 rfl (by omega) (by omega) dJx4a65c_add_72be8_14 (fun H locs hX => ?_)
  obtain ⟨F2, hX, eF2⟩ : ∃ F9 : kF, kX γ _ s _ F9 H locs ∧ F9 = va_up F1 q (.inl (γ.2.1 4, n + max 1 (n / 2), .inr (.inr (.inr (.inr (va_up (va_cpy f (fun _ => none) 0 0 n) n (some x))))))) := ⟨_, hX, rfl⟩
  have f2_a : F2 a = .inr (4, [.int mc, .ref q, .int (nI n)]) := by rw [eF2, va_up_ne _ _ (fun h9 => by have h8 := hFa2; rw [h9, hFq2] at h8; cases h8)]; exact hFa2
  have f2_q : F2 q = .inl (γ.2.1 4, n + max 1 (n / 2), .inr (.inr (.inr (.inr (va_up (va_cpy f (fun _ => none) 0 0 n) n (some x)))))) := by rw [eF2]; exact va_up_self _ _ _
  refine lv_aload_n hx hb dJx4a65c_add_72be8_15 rfl (lv_at hl 1 rfl) ?_
  refine lv_iload_n hx hb dJx4a65c_add_72be8_16 rfl (lv_at hl 3 rfl) ?_
  refine lv_iconst (v := 1) hx hb dJx4a65c_add_72be8_17 (by decide) ?_
  refine lv_iadd hx hb dJx4a65c_add_72be8_18 ?_
  rw [show (nI n) + 1 = (nI (n + 1)) from nI_1 _]
  refine k_put hM hE hX ha2 f2_a rfl 2 (by decide) inAL tyJx4a65c tyJx4a65c_ok nmJx4a65c k_53 (fun _ h => h) (Or.inl rfl) rfl rfl (Nat.le_of_ble_eq_true rfl) dJx4a65c_add_72be8_19 (fun H locs hX => ?_)
  obtain ⟨F3, hX, eF3⟩ : ∃ F9 : kF, kX γ _ s _ F9 H locs ∧ F9 = va_up F2 a (.inr (4, [.int mc, .ref q, .int (nI (n + 1))])) := ⟨_, hX, rfl⟩
  have f3_a : F3 a = .inr (4, [.int mc, .ref q, .int (nI (n + 1))]) := by rw [eF3]; exact va_up_self _ _ _
  have f3_q : F3 q = .inl (γ.2.1 4, n + max 1 (n / 2), .inr (.inr (.inr (.inr (va_up (va_cpy f (fun _ => none) 0 0 n) n (some x)))))) := by rw [eF3, va_up_ne _ _ (fun h9 => by have h8 := f2_q; rw [h9, f2_a] at h8; cases h8)]; exact f2_q
  exact k_vret hM hsz hX ⟨rfl, q, (n + max 1 (n / 2)), _, (fun b hb => by rw [eL]; exact List.mem_append_left _ hb), hq2, Or.inr hq, by omega, by omega, f3_q, va_up_self _ _ _, (fun j hj => by rw [va_up_ne _ _ (show j ≠ n by omega)]; exact kcpy_lt hj), ha2, f3_a, fun b hb h1 h2 => by rw [eF3, va_up_ne _ _ h1, eF2, va_up_ne _ _ (show b ≠ q from fun h9 => hq (h9 ▸ hb)), eF, va_up_ne _ _ h1, va_up_ne _ _ (show b ≠ q from fun h9 => hq (h9 ▸ hb))]⟩ (by decide) (by decide) dJx4a65c_add_72be8_22
set_option maxHeartbeats 4000000 in
set_option maxRecDepth 100000 in
theorem c0_Jx4a65c_add_72be8 (l : Launch) (γ : kG) (L : List Nat) (F : kF) (a x : Nat) (mc : Int32) (ha : a ∈ L) (hFa : F a = .inr (4, [.int mc, .ref γ.2.2, .int (nI 0)])) (hxx : kEl L F x)  : kC l yJx4a65c_add_72be8 cJx4a65c_add_72be8 4 none (kRm 4 1 1000) γ L F [.ref a, .ref x, .ref γ.2.2, .int (nI 0)] (kU fun L1 F1 => kAdded γ L F a γ.2.2 0 x mc (fun _ => none) L1 F1) := by
  refine kC_of (by decide +kernel) (Nat.le_of_ble_eq_true rfl) ?_
  intro p e s m args below meth c sz ls hargs hsz hM hin hE hX hl
  have hx := hM.1
  have hb := hM.2.1
  have hl : lv_has ls 4 [(0, .ref a), (1, .ref x), (2, .ref γ.2.2), (3, .int (nI 0))] := hl
  refine lv_iload_n hx hb dJx4a65c_add_72be8_0 rfl (lv_at hl 3 rfl) ?_
  refine lv_aload_n hx hb dJx4a65c_add_72be8_1 rfl (lv_at hl 2 rfl) ?_
  refine k_tlen (v := 0) hM hX hE.2.1.2.2.2.2.2.2.2.2.1 rfl dJx4a65c_add_72be8_2 ?_
  refine lv_icmp_ne (tgt := 11) hx hb dJx4a65c_add_72be8_3 (by decide) (fun c_1 => absurd c_1 (not_not_intro rfl)) (fun _ => ?_)
  refine lv_aload_n hx hb dJx4a65c_add_72be8_6 rfl (lv_at hl 0 rfl) ?_
  refine k_gor (k_V (n := 0) (As := []) (rest := []) hM hE hX hl (c0_Jx4a65c_grow_d5877 l γ L F a mc ha hFa) ha hFa rfl k_315 k_317 kp_8 k_4 k_318 ⟨rfl, by decide, by decide, by decide +kernel⟩ (by decide) rfl rfl (Nat.le_of_ble_eq_true rfl) dJx4a65c_add_72be8_7 (by decide)) hE hX (fun q L1 F1 H locs hp hX => ?_)
  obtain ⟨hq, eL, eF⟩ := hp
  have hqa : a ≠ q := fun h9 => hq (h9 ▸ ha)
  have hFa2 : F1 a = .inr (4, [.int mc, .ref q, .int (nI 0)]) := by rw [eF]; exact va_up_self _ _ _
  have ha2 : a ∈ L1 := by rw [eL]; exact List.mem_append_left _ ha
  have hFq2 : F1 q = .inl (γ.2.1 4, 10, .inr (.inr (.inr (.inr (fun _ => none))))) := by rw [eF, va_up_ne _ _ (Ne.symm hqa)]; exact va_up_self _ _ _
  have hq2 : q ∈ L1 := by rw [eL]; simp
  have hxa : x ≠ a := hxx.ne hFa (by decide)
  have hxq : x ≠ q := fun h9 => hq (h9 ▸ hxx.1)
  have hx2 : kEl L1 F1 x := by rw [eL, eF]; exact ((hxx.more (b := q)).up hxq).up hxa
  refine lv_astore_n (lv' := [(2, .ref q), (0, .ref a), (1, .ref x), (3, .int (nI 0))]) hx hb dJx4a65c_add_72be8_10 rfl hl (by decide) rfl (fun ls hl => ?_)
  refine lv_aload_n hx hb dJx4a65c_add_72be8_11 rfl (lv_at hl 0 rfl) ?_
  refine lv_iload_n hx hb dJx4a65c_add_72be8_12 rfl (lv_at hl 3 rfl) ?_
  refine lv_aload_n hx hb dJx4a65c_add_72be8_13 rfl (lv_at hl 2 rfl) ?_
  refine k_aast (j := 0) hM hE hX hq2 hFq2 hx2 rfl (by omega) (by omega) dJx4a65c_add_72be8_14 (fun H locs hX => ?_)
  obtain ⟨F2, hX, eF2⟩ : ∃ F9 : kF, kX γ _ s _ F9 H locs ∧ F9 = va_up F1 q (.inl (γ.2.1 4, 10, .inr (.inr (.inr (.inr (va_up (fun _ => none) 0 (some x))))))) := ⟨_, hX, rfl⟩
  have f2_a : F2 a = .inr (4, [.int mc, .ref q, .int (nI 0)]) := by rw [eF2, va_up_ne _ _ (fun h9 => by have h8 := hFa2; rw [h9, hFq2] at h8; cases h8)]; exact hFa2
  have f2_q : F2 q = .inl (γ.2.1 4, 10, .inr (.inr (.inr (.inr (va_up (fun _ => none) 0 (some x)))))) := by rw [eF2]; exact va_up_self _ _ _
  refine lv_aload_n hx hb dJx4a65c_add_72be8_15 rfl (lv_at hl 1 rfl) ?_
  refine lv_iload_n hx hb dJx4a65c_add_72be8_16 rfl (lv_at hl 3 rfl) ?_
  refine lv_iconst (v := 1) hx hb dJx4a65c_add_72be8_17 (by decide) ?_
  refine lv_iadd hx hb dJx4a65c_add_72be8_18 ?_
  rw [show (nI 0) + 1 = (nI (0 + 1)) from nI_1 _]
  refine k_put hM hE hX ha2 f2_a rfl 2 (by decide) inAL tyJx4a65c tyJx4a65c_ok nmJx4a65c k_53 (fun _ h => h) (Or.inl rfl) rfl rfl (Nat.le_of_ble_eq_true rfl) dJx4a65c_add_72be8_19 (fun H locs hX => ?_)
  obtain ⟨F3, hX, eF3⟩ : ∃ F9 : kF, kX γ _ s _ F9 H locs ∧ F9 = va_up F2 a (.inr (4, [.int mc, .ref q, .int (nI (0 + 1))])) := ⟨_, hX, rfl⟩
  have f3_a : F3 a = .inr (4, [.int mc, .ref q, .int (nI (0 + 1))]) := by rw [eF3]; exact va_up_self _ _ _
  have f3_q : F3 q = .inl (γ.2.1 4, 10, .inr (.inr (.inr (.inr (va_up (fun _ => none) 0 (some x)))))) := by rw [eF3, va_up_ne _ _ (fun h9 => by have h8 := f2_q; rw [h9, f2_a] at h8; cases h8)]; exact f2_q
  exact k_vret hM hsz hX ⟨rfl, q, 10, _, (fun b hb => by rw [eL]; exact List.mem_append_left _ hb), hq2, Or.inr hq, by omega, by omega, f3_q, va_up_self _ _ _, (fun j hj => absurd hj (Nat.not_lt_zero j)), ha2, f3_a, fun b hb h1 h2 => by rw [eF3, va_up_ne _ _ h1, eF2, va_up_ne _ _ (show b ≠ q from fun h9 => hq (h9 ▸ hb)), eF, va_up_ne _ _ h1, va_up_ne _ _ (show b ≠ q from fun h9 => hq (h9 ▸ hb))]⟩ (by decide) (by decide) dJx4a65c_add_72be8_22
