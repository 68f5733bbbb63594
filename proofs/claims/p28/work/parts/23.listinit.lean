/-- a list's array: the shared empty one, or its own -/
def kArr (γ : kG) (L : List Nat) (F : kF) (e0 n : Nat) (f : Nat → Option Nat) : Prop :=
  (n = 0 ∧ e0 = γ.2.2 ∧ f = fun _ => none) ∨ (e0 ∈ L ∧ ∃ cap : Nat, F e0 = .inl (γ.2.1 4, cap, .inr (.inr (.inr (.inr f)))) ∧ n ≤ cap ∧ 1 ≤ n ∧ cap ≤ 1000 ∧ ∀ i : Nat, i < n → ∀ y : Nat, f i = some y → kEl L F y)
theorem c_addAny (l : Launch) (γ : kG) (L : List Nat) (F : kF) (a e0 n x : Nat) (mc : Int32) (ha : a ∈ L) (hFa : F a = .inr (4, [.int mc, .ref e0, .int (nI n)])) (hx : kEl L F x) (f : Nat → Option Nat) (hr : kArr γ L F e0 n f) (hn : n ≤ 600) : kC l yJx4a65c_add_72be8 cJx4a65c_add_72be8 4 none (kRm 4 1 1000) γ L F [.ref a, .ref x, .ref e0, .int (nI n)] (kU fun L1 F1 => kAdded γ L F a e0 n x mc f L1 F1) := by
  rcases hr with ⟨rfl, rfl, rfl⟩ | ⟨he, cap, hFe, h1, h2, h3, hel⟩
  · exact c0_Jx4a65c_add_72be8 l γ L F a x mc ha hFa hx
  · rcases Nat.lt_or_ge n cap with h | h
    · exact c_Jx4a65c_add_72be8 l γ L F a e0 n x mc ha hFa hx he cap f hFe h h3 h2
    · obtain rfl : n = cap := Nat.le_antisymm h1 h
      exact cf_Jx4a65c_add_72be8 l γ L F a e0 n x mc ha hFa hx he f hFe h2 hn hel
set_option maxHeartbeats 4000000 in
set_option maxRecDepth 100000 in
theorem c_Jx4a65c_add_9ea2d (l : Launch) (γ : kG) (L : List Nat) (F : kF) (a e0 n x : Nat) (mc : Int32) (ha : a ∈ L) (hFa : F a = .inr (4, [.int mc, .ref e0, .int (nI n)])) (hxx : kEl L F x) (f : Nat → Option Nat) (hr : kArr γ L F e0 n f) (hn : n ≤ 600) : kC l yJx4a65c_add_9ea2d cJx4a65c_add_9ea2d 2 (some .boolean) (kRm 5 1 1000) γ L F [.ref a, .ref x] (kI fun r L1 F1 => r = 1 ∧ kAdded γ L F a e0 n x (mc + 1) f L1 F1) := by
  refine kC_of (by decide +kernel) (Nat.le_of_ble_eq_true rfl) ?_
  intro p e s m args below meth c sz ls hargs hsz hM hin hE hX hl
  have hx := hM.1
  have hb := hM.2.1
  have hl : lv_has ls 2 [(0, .ref a), (1, .ref x)] := hl
  refine lv_aload_n hx hb dJx4a65c_add_9ea2d_0 rfl (lv_at hl 0 rfl) ?_
  refine lv_dup hx hb dJx4a65c_add_9ea2d_1 rfl ?_
  refine k_get hM hE hX ha hFa rfl 0 (by decide) inAL k_55 (fun x h => u_same (hM.2.2.2.2.1 _ kw_same_mod) x h) rfl dJx4a65c_add_9ea2d_2 ?_
  refine lv_iconst (v := 1) hx hb dJx4a65c_add_9ea2d_5 (by decide) ?_
  refine lv_iadd hx hb dJx4a65c_add_9ea2d_6 ?_
  refine k_put hM hE hX ha hFa rfl 0 (by decide) inAL tyJx4a65c tyJx4a65c_ok nmJx4a65c k_55 (fun x h => u_same (hM.2.2.2.2.1 _ kw_same_mod) x h) (Or.inl rfl) rfl rfl (Nat.le_of_ble_eq_true rfl) dJx4a65c_add_9ea2d_7 (fun H locs hX => ?_)
  obtain ⟨F1, hX, eF1⟩ : ∃ F9 : kF, kX γ _ s _ F9 H locs ∧ F9 = va_up F a (.inr (4, [.int (mc + 1), .ref e0, .int (nI n)])) := ⟨_, hX, rfl⟩
  have f1_a : F1 a = .inr (4, [.int (mc + 1), .ref e0, .int (nI n)]) := by rw [eF1]; exact va_up_self _ _ _
  refine lv_aload_n hx hb dJx4a65c_add_9ea2d_10 rfl (lv_at hl 0 rfl) ?_
  refine lv_aload_n hx hb dJx4a65c_add_9ea2d_11 rfl (lv_at hl 1 rfl) ?_
  refine lv_aload_n hx hb dJx4a65c_add_9ea2d_12 rfl (lv_at hl 0 rfl) ?_
  refine k_get hM hE hX ha f1_a rfl 1 (by decide) inAL k_52 (fun _ h => h) rfl dJx4a65c_add_9ea2d_13 ?_
  refine lv_aload_n hx hb dJx4a65c_add_9ea2d_16 rfl (lv_at hl 0 rfl) ?_
  refine k_get hM hE hX ha f1_a rfl 2 (by decide) inAL k_53 (fun _ h => h) rfl dJx4a65c_add_9ea2d_17 ?_
  have hx2 : kEl L F1 x := by rw [eF1]; exact hxx.up (hxx.ne hFa (by decide))
  have hr2 : kArr γ L F1 e0 n f := by
    rcases hr with h9 | ⟨he, cap, hFe, h3⟩
    · exact Or.inl h9
    · refine Or.inr ⟨he, cap, by rw [eF1, va_up_ne _ _ (fun h9 => by rw [h9, hFa] at hFe; cases hFe)]; exact hFe, h3.1, h3.2.1, h3.2.2.1, fun i hi y hy => ?_⟩
      rw [eF1]; exact (h3.2.2.2 i hi y hy).up ((h3.2.2.2 i hi y hy).ne hFa (by decide))
  refine k_gou (k_V (n := 3) (As := [.ref x, .ref e0, .int (nI n)]) (rest := []) hM hE hX hl (c_addAny l γ L F1 a e0 n x (mc + 1) ha f1_a hx2 f hr2 hn) ha f1_a rfl k_311 k_313 kp_7 k_4 k_314 ⟨rfl, by decide, by decide, by decide +kernel⟩ (by decide) rfl rfl (Nat.le_of_ble_eq_true rfl) dJx4a65c_add_9ea2d_20 (by decide)) hE hX (fun L1 F2 H locs hp hX => ?_)
  refine lv_iconst (v := 1) hx hb dJx4a65c_add_9ea2d_23 (by decide) ?_
  obtain ⟨e1, cap1, f1, g1, g2, g3, g4, g5, g6, g7, g8, g9, g10, g11⟩ := hp
  exact k_zret hM rfl hsz hX ⟨1, rfl, rfl, e1, cap1, f1, g1, g2, g3, g4, g5, g6, g7, g8, g9, g10, fun b hb h1 h2 => by rw [g11 b hb h1 h2, eF1, va_up_ne _ _ h1]⟩ (by decide) (by decide) dJx4a65c_add_9ea2d_24
set_option maxHeartbeats 4000000 in
set_option maxRecDepth 100000 in
theorem c_Jxa1e45_init_da8c8 (l : Launch) (γ : kG) (L : List Nat) (F : kF) (a : Nat) : kC l yJxa1e45_init_da8c8 cJxa1e45_init_da8c8 1 none (kRm 0 0 0) γ L F [.ref a] (kU fun L1 F1 => L = L1 ∧ F = F1) := by
  refine kC_of (by decide +kernel) (Nat.le_of_ble_eq_true rfl) ?_
  intro p e s m args below meth c sz ls hargs hsz hM hin hE hX hl
  have hx := hM.1
  have hb := hM.2.1
  have hl : lv_has ls 1 [(0, .ref a)] := hl
  refine lv_aload_n hx hb dJxa1e45_init_da8c8_0 rfl (lv_at hl 0 rfl) ?_
  refine k_obj hM hl k_49 dJxa1e45_init_da8c8_1 ⟨by decide, Nat.le_of_ble_eq_true rfl⟩ ?_
  exact k_vret hM hsz hX ⟨rfl, rfl, rfl⟩ (by decide) (by decide) dJxa1e45_init_da8c8_4
set_option maxHeartbeats 4000000 in
set_option maxRecDepth 100000 in
theorem c_Jxc12de_init_da8c8 (l : Launch) (γ : kG) (L : List Nat) (F : kF) (a : Nat) (ha : a ∈ L) (hFa : F a = .inr (4, [.int 0, .null, .int 0])) : kC l yJxc12de_init_da8c8 cJxc12de_init_da8c8 1 none (kRm 1 0 0) γ L F [.ref a] (kU fun L1 F1 => L = L1 ∧ F1 = va_up F a (.inr (4, [.int 0, .null, .int 0]))) := by
  refine kC_of (by decide +kernel) (Nat.le_of_ble_eq_true rfl) ?_
  intro p e s m args below meth c sz ls hargs hsz hM hin hE hX hl
  have hx := hM.1
  have hb := hM.2.1
  have hl : lv_has ls 1 [(0, .ref a)] := hl
  refine lv_aload_n hx hb dJxc12de_init_da8c8_0 rfl (lv_at hl 0 rfl) ?_
  refine k_gou (k_I (n := 0) (As := []) (rest := []) hM hE hX hl (c_Jxa1e45_init_da8c8 l γ L F a) k_46 k_47 k_2 k_48 rfl ⟨by decide, by decide, by decide +kernel⟩ (by decide) rfl rfl (Nat.le_of_ble_eq_true rfl) dJxc12de_init_da8c8_1 (by decide)) hE hX (fun L1 F1 H locs hp hX => ?_)
  obtain ⟨rfl, rfl⟩ := hp
  refine lv_aload_n hx hb dJxc12de_init_da8c8_4 rfl (lv_at hl 0 rfl) ?_
  refine lv_iconst (v := 0) hx hb dJxc12de_init_da8c8_5 (by decide) ?_
  refine k_put hM hE hX ha hFa rfl 0 (by decide) inAL tyJx4a65c tyJx4a65c_ok nmJx4a65c k_54 (fun _ h => h) (Or.inr ⟨hin rfl, rfl⟩) rfl rfl (Nat.le_of_ble_eq_true rfl) dJxc12de_init_da8c8_6 (fun H locs hX => ?_)
  obtain ⟨F1, hX, eF1⟩ : ∃ F9 : kF, kX γ _ s _ F9 H locs ∧ F9 = va_up F a (.inr (4, [.int 0, .null, .int 0])) := ⟨_, hX, rfl⟩
  have f1_a : F1 a = .inr (4, [.int 0, .null, .int 0]) := by rw [eF1]; exact va_up_self _ _ _
  exact k_vret hM hsz hX ⟨rfl, rfl, eF1⟩ (by decide) (by decide) dJxc12de_init_da8c8_9
set_option maxHeartbeats 4000000 in
set_option maxRecDepth 100000 in
theorem c_Jx4a65c_init_da8c8 (l : Launch) (γ : kG) (L : List Nat) (F : kF) (a : Nat) (ha : a ∈ L) (hFa : F a = .inr (4, [.int 0, .null, .int 0])) : kC l yJx4a65c_init_da8c8 cJx4a65c_init_da8c8 1 none (kRm 2 0 0) γ L F [.ref a] (kU fun L1 F1 => L = L1 ∧ F1 = va_up F a (.inr (4, [.int 0, .ref γ.2.2, .int 0]))) := by
  refine kC_of (by decide +kernel) (Nat.le_of_ble_eq_true rfl) ?_
  intro p e s m args below meth c sz ls hargs hsz hM hin hE hX hl
  have hx := hM.1
  have hb := hM.2.1
  have hl : lv_has ls 1 [(0, .ref a)] := hl
  refine lv_aload_n hx hb dJx4a65c_init_da8c8_0 rfl (lv_at hl 0 rfl) ?_
  refine k_gou (k_I (n := 0) (As := []) (rest := []) hM hE hX hl (c_Jxc12de_init_da8c8 l γ L F a ha hFa) k_43 k_44 k_3 k_45 rfl ⟨by decide, by decide, by decide +kernel⟩ (by decide) rfl rfl (Nat.le_of_ble_eq_true rfl) dJx4a65c_init_da8c8_1 (by decide)) hE hX (fun L1 F0' H locs hp hX => ?_)
  obtain ⟨rfl, eF0⟩ := hp
  have hFa : F0' a = .inr (4, [.int 0, .null, .int 0]) := by rw [eF0]; exact va_up_self _ _ _
  refine lv_aload_n hx hb dJx4a65c_init_da8c8_4 rfl (lv_at hl 0 rfl) ?_
  refine k_gets hM hX hE.2.1.2.2.2.2.2.2.2.1 kw_defcap dJx4a65c_init_da8c8_5 ?_
  refine k_put hM hE hX ha hFa rfl 1 (by decide) inAL tyJx4a65c tyJx4a65c_ok nmJx4a65c k_52 (fun _ h => h) (Or.inr ⟨hin rfl, rfl⟩) rfl rfl (Nat.le_of_ble_eq_true rfl) dJx4a65c_init_da8c8_8 (fun H locs hX => ?_)
  obtain ⟨F1, hX, eF1⟩ : ∃ F9 : kF, kX γ _ s _ F9 H locs ∧ F9 = va_up F0' a (.inr (4, [.int 0, .ref γ.2.2, .int 0])) := ⟨_, hX, rfl⟩
  have f1_a : F1 a = .inr (4, [.int 0, .ref γ.2.2, .int 0]) := by rw [eF1]; exact va_up_self _ _ _
  exact k_vret hM hsz hX ⟨rfl, rfl, by rw [eF1, eF0, bx_uu]⟩ (by decide) (by decide) dJx4a65c_init_da8c8_11
