set_option maxHeartbeats 4000000 in
set_option maxRecDepth 100000 in
theorem c_X2_init (l : Launch) (γ : kG) (L : List Nat) (F : kF) (q : Nat) (a b z d : Int32) (hq : q ∈ L) (hFq : F q = .inr (7, [.int 0, .int 0, .int 0, .int 0, .null, .int 0, .int 0, .int 0, .int 0, .int 0, .int 0, .int 0])) : kC l yX2_init cX2_init 5 none (kRm 3 1 3) γ L F [.ref q, .int a, .int b, .int z, .int d] (kU fun L1 F1 => ∃ r : Nat, r ∉ L ∧ L1 = L ++ [r] ∧ F1 = va_up (va_up F r (.inr (4, [.int 0, .ref γ.2.2, .int 0]))) q (.inr (7, [.int a, .int b, .int z, .int d, .ref r, .int 0, .int (-1), .int 0, .int 0, .int a, .int 0, .int 0]))) := by
  refine kC_of (by decide +kernel) (Nat.le_of_ble_eq_true rfl) ?_
  intro p e s m args below meth c sz ls hargs hsz hM hin hE hX hl
  have hx := hM.1
  have hb := hM.2.1
  have hl : lv_has ls 5 [(0, .ref q), (1, .int a), (2, .int b), (3, .int z), (4, .int d)] := hl
  refine lv_aload_n hx hb dX2_init_0 rfl (lv_at hl 0 rfl) ?_
  refine k_obj hM hl k_515 dX2_init_1 ⟨by decide, Nat.le_of_ble_eq_true rfl⟩ ?_
  refine lv_aload_n hx hb dX2_init_4 rfl (lv_at hl 0 rfl) ?_
  refine k_new (ci := 4) (fs := [.int 0, .null, .int 0]) hM hE hX rfl inAL tyJx4a65c tyJx4a65c_ok k_516 k_39 k_4 dfJx4a65c (by decide) (by decide) dX2_init_5 (fun r H hr hX => ?_)
  obtain ⟨L1, F1, hX, eL1, eF1⟩ : ∃ (L9 : List Nat) (F9 : kF), kX γ _ s L9 F9 H _ ∧ L9 = L ++ [r] ∧ F9 = va_up F r (.inr (4, [.int 0, .null, .int 0])) := ⟨_, _, hX, rfl, rfl⟩
  have f1_q : F1 q = .inr (7, [.int 0, .int 0, .int 0, .int 0, .null, .int 0, .int 0, .int 0, .int 0, .int 0, .int 0, .int 0]) := by rw [eF1, va_up_ne _ _ (show q ≠ r from fun h9 => hr (h9 ▸ hq))]; exact hFq
  have m1_q : q ∈ L1 := by rw [eL1]; exact List.mem_append_left _ hq
  have f1_r : F1 r = .inr (4, [.int 0, .null, .int 0]) := by rw [eF1]; exact va_up_self _ _ _
  have m1_r : r ∈ L1 := by rw [eL1]; simp
  refine lv_dup hx hb dX2_init_8 rfl ?_
  refine k_gou (k_I (n := 0) (As := []) (rest := [.ref r, .ref q]) hM hE hX hl (c_Jx4a65c_init_da8c8 l γ L1 F1 r m1_r f1_r) k_517 k_41 k_4 k_42 rfl ⟨by decide, by decide, by decide +kernel⟩ (by decide) rfl rfl (Nat.le_of_ble_eq_true rfl) dX2_init_9 (by decide)) hE hX (fun L2 Fi H locs hp hX => ?_)
  obtain ⟨rfl, eFi⟩ := hp
  have hqr : q ≠ r := fun h9 => hr (h9 ▸ hq)
  have fq2 : Fi q = .inr (7, [.int 0, .int 0, .int 0, .int 0, .null, .int 0, .int 0, .int 0, .int 0, .int 0, .int 0, .int 0]) := by rw [eFi, va_up_ne _ _ hqr]; exact f1_q
  have fr2 : Fi r = .inr (4, [.int 0, .ref γ.2.2, .int 0]) := by rw [eFi]; exact va_up_self _ _ _
  refine k_put hM hE hX m1_q fq2 rfl 4 (by decide) inX2 tyX2 tyX2_ok nmX2 k_528 (fun _ h => h) (Or.inr ⟨hin rfl, rfl⟩) rfl rfl (Nat.le_of_ble_eq_true rfl) dX2_init_12 (fun H locs hX => ?_)
  obtain ⟨F2, hX, eF2⟩ : ∃ Fz : kF, kX γ _ s _ Fz H locs ∧ Fz = va_up Fi q (.inr (7, [.int 0, .int 0, .int 0, .int 0, .ref r, .int 0, .int 0, .int 0, .int 0, .int 0, .int 0, .int 0])) := ⟨_, hX, rfl⟩
  have f2_q : F2 q = .inr (7, [.int 0, .int 0, .int 0, .int 0, .ref r, .int 0, .int 0, .int 0, .int 0, .int 0, .int 0, .int 0]) := by rw [eF2]; exact va_up_self _ _ _
  have f2_r : F2 r = .inr (4, [.int 0, .ref γ.2.2, .int 0]) := by rw [eF2, va_up_ne _ _ (fun h9 => by have h8 := fr2; rw [h9, fq2] at h8; cases h8)]; exact fr2
  refine lv_aload_n hx hb dX2_init_15 rfl (lv_at hl 0 rfl) ?_
  refine lv_iconst (v := 0) hx hb dX2_init_16 (by decide) ?_
  refine k_put hM hE hX m1_q f2_q rfl 5 (by decide) inX2 tyX2 tyX2_ok nmX2 k_530 (fun _ h => h) (Or.inr ⟨hin rfl, rfl⟩) rfl rfl (Nat.le_of_ble_eq_true rfl) dX2_init_17 (fun H locs hX => ?_)
  obtain ⟨F3, hX, eF3⟩ : ∃ Fz : kF, kX γ _ s _ Fz H locs ∧ Fz = va_up F2 q (.inr (7, [.int 0, .int 0, .int 0, .int 0, .ref r, .int 0, .int 0, .int 0, .int 0, .int 0, .int 0, .int 0])) := ⟨_, hX, rfl⟩
  have f3_q : F3 q = .inr (7, [.int 0, .int 0, .int 0, .int 0, .ref r, .int 0, .int 0, .int 0, .int 0, .int 0, .int 0, .int 0]) := by rw [eF3]; exact va_up_self _ _ _
  have f3_r : F3 r = .inr (4, [.int 0, .ref γ.2.2, .int 0]) := by rw [eF3, va_up_ne _ _ (fun h9 => by have h8 := f2_r; rw [h9, f2_q] at h8; cases h8)]; exact f2_r
  refine lv_aload_n hx hb dX2_init_20 rfl (lv_at hl 0 rfl) ?_
  refine lv_iconst (v := (-1)) hx hb dX2_init_21 (by decide) ?_
  refine k_put hM hE hX m1_q f3_q rfl 6 (by decide) inX2 tyX2 tyX2_ok nmX2 k_533 (fun _ h => h) (Or.inr ⟨hin rfl, rfl⟩) rfl rfl (Nat.le_of_ble_eq_true rfl) dX2_init_22 (fun H locs hX => ?_)
  obtain ⟨F4, hX, eF4⟩ : ∃ Fz : kF, kX γ _ s _ Fz H locs ∧ Fz = va_up F3 q (.inr (7, [.int 0, .int 0, .int 0, .int 0, .ref r, .int 0, .int (-1), .int 0, .int 0, .int 0, .int 0, .int 0])) := ⟨_, hX, rfl⟩
  have f4_q : F4 q = .inr (7, [.int 0, .int 0, .int 0, .int 0, .ref r, .int 0, .int (-1), .int 0, .int 0, .int 0, .int 0, .int 0]) := by rw [eF4]; exact va_up_self _ _ _
  have f4_r : F4 r = .inr (4, [.int 0, .ref γ.2.2, .int 0]) := by rw [eF4, va_up_ne _ _ (fun h9 => by have h8 := f3_r; rw [h9, f3_q] at h8; cases h8)]; exact f3_r
  refine lv_aload_n hx hb dX2_init_25 rfl (lv_at hl 0 rfl) ?_
  refine lv_iconst (v := 0) hx hb dX2_init_26 (by decide) ?_
  refine k_put hM hE hX m1_q f4_q rfl 7 (by decide) inX2 tyX2 tyX2_ok nmX2 k_535 (fun _ h => h) (Or.inr ⟨hin rfl, rfl⟩) rfl rfl (Nat.le_of_ble_eq_true rfl) dX2_init_27 (fun H locs hX => ?_)
  obtain ⟨F5, hX, eF5⟩ : ∃ Fz : kF, kX γ _ s _ Fz H locs ∧ Fz = va_up F4 q (.inr (7, [.int 0, .int 0, .int 0, .int 0, .ref r, .int 0, .int (-1), .int 0, .int 0, .int 0, .int 0, .int 0])) := ⟨_, hX, rfl⟩
  have f5_q : F5 q = .inr (7, [.int 0, .int 0, .int 0, .int 0, .ref r, .int 0, .int (-1), .int 0, .int 0, .int 0, .int 0, .int 0]) := by rw [eF5]; exact va_up_self _ _ _
  have f5_r : F5 r = .inr (4, [.int 0, .ref γ.2.2, .int 0]) := by rw [eF5, va_up_ne _ _ (fun h9 => by have h8 := f4_r; rw [h9, f4_q] at h8; cases h8)]; exact f4_r
  refine lv_aload_n hx hb dX2_init_30 rfl (lv_at hl 0 rfl) ?_
  refine lv_iconst (v := 0) hx hb dX2_init_31 (by decide) ?_
  refine k_put hM hE hX m1_q f5_q rfl 8 (by decide) inX2 tyX2 tyX2_ok nmX2 k_537 (fun _ h => h) (Or.inr ⟨hin rfl, rfl⟩) rfl rfl (Nat.le_of_ble_eq_true rfl) dX2_init_32 (fun H locs hX => ?_)
  obtain ⟨F6, hX, eF6⟩ : ∃ Fz : kF, kX γ _ s _ Fz H locs ∧ Fz = va_up F5 q (.inr (7, [.int 0, .int 0, .int 0, .int 0, .ref r, .int 0, .int (-1), .int 0, .int 0, .int 0, .int 0, .int 0])) := ⟨_, hX, rfl⟩
  have f6_q : F6 q = .inr (7, [.int 0, .int 0, .int 0, .int 0, .ref r, .int 0, .int (-1), .int 0, .int 0, .int 0, .int 0, .int 0]) := by rw [eF6]; exact va_up_self _ _ _
  have f6_r : F6 r = .inr (4, [.int 0, .ref γ.2.2, .int 0]) := by rw [eF6, va_up_ne _ _ (fun h9 => by have h8 := f5_r; rw [h9, f5_q] at h8; cases h8)]; exact f5_r
  refine lv_aload_n hx hb dX2_init_35 rfl (lv_at hl 0 rfl) ?_
  refine lv_iconst (v := 0) hx hb dX2_init_36 (by decide) ?_
  refine k_put hM hE hX m1_q f6_q rfl 10 (by decide) inX2 tyX2 tyX2_ok nmX2 k_541 (fun _ h => h) (Or.inr ⟨hin rfl, rfl⟩) rfl rfl (Nat.le_of_ble_eq_true rfl) dX2_init_37 (fun H locs hX => ?_)
  obtain ⟨F7, hX, eF7⟩ : ∃ Fz : kF, kX γ _ s _ Fz H locs ∧ Fz = va_up F6 q (.inr (7, [.int 0, .int 0, .int 0, .int 0, .ref r, .int 0, .int (-1), .int 0, .int 0, .int 0, .int 0, .int 0])) := ⟨_, hX, rfl⟩
  have f7_q : F7 q = .inr (7, [.int 0, .int 0, .int 0, .int 0, .ref r, .int 0, .int (-1), .int 0, .int 0, .int 0, .int 0, .int 0]) := by rw [eF7]; exact va_up_self _ _ _
  have f7_r : F7 r = .inr (4, [.int 0, .ref γ.2.2, .int 0]) := by rw [eF7, va_up_ne _ _ (fun h9 => by have h8 := f6_r; rw [h9, f6_q] at h8; cases h8)]; exact f6_r
  refine lv_aload_n hx hb dX2_init_40 rfl (lv_at hl 0 rfl) ?_
  refine lv_iconst (v := 0) hx hb dX2_init_41 (by decide) ?_
  refine k_put hM hE hX m1_q f7_q rfl 11 (by decide) inX2 tyX2 tyX2_ok nmX2 k_543 (fun _ h => h) (Or.inr ⟨hin rfl, rfl⟩) rfl rfl (Nat.le_of_ble_eq_true rfl) dX2_init_42 (fun H locs hX => ?_)
  obtain ⟨F8, hX, eF8⟩ : ∃ Fz : kF, kX γ _ s _ Fz H locs ∧ Fz = va_up F7 q (.inr (7, [.int 0, .int 0, .int 0, .int 0, .ref r, .int 0, .int (-1), .int 0, .int 0, .int 0, .int 0, .int 0])) := ⟨_, hX, rfl⟩
  have f8_q : F8 q = .inr (7, [.int 0, .int 0, .int 0, .int 0, .ref r, .int 0, .int (-1), .int 0, .int 0, .int 0, .int 0, .int 0]) := by rw [eF8]; exact va_up_self _ _ _
  have f8_r : F8 r = .inr (4, [.int 0, .ref γ.2.2, .int 0]) := by rw [eF8, va_up_ne _ _ (fun h9 => by have h8 := f7_r; rw [h9, f7_q] at h8; cases h8)]; exact f7_r
  refine lv_aload_n hx hb dX2_init_45 rfl (lv_at hl 0 rfl) ?_
  refine lv_iload_n hx hb dX2_init_46 rfl (lv_at hl 1 rfl) ?_
  refine k_put hM hE hX m1_q f8_q rfl 0 (by decide) inX2 tyX2 tyX2_ok nmX2 k_518 (fun _ h => h) (Or.inr ⟨hin rfl, rfl⟩) rfl rfl (Nat.le_of_ble_eq_true rfl) dX2_init_47 (fun H locs hX => ?_)
  obtain ⟨F9, hX, eF9⟩ : ∃ Fz : kF, kX γ _ s _ Fz H locs ∧ Fz = va_up F8 q (.inr (7, [.int a, .int 0, .int 0, .int 0, .ref r, .int 0, .int (-1), .int 0, .int 0, .int 0, .int 0, .int 0])) := ⟨_, hX, rfl⟩
  have f9_q : F9 q = .inr (7, [.int a, .int 0, .int 0, .int 0, .ref r, .int 0, .int (-1), .int 0, .int 0, .int 0, .int 0, .int 0]) := by rw [eF9]; exact va_up_self _ _ _
  have f9_r : F9 r = .inr (4, [.int 0, .ref γ.2.2, .int 0]) := by rw [eF9, va_up_ne _ _ (fun h9 => by have h8 := f8_r; rw [h9, f8_q] at h8; cases h8)]; exact f8_r
  refine lv_aload_n hx hb dX2_init_50 rfl (lv_at hl 0 rfl) ?_
  refine lv_iload_n hx hb dX2_init_51 rfl (lv_at hl 2 rfl) ?_
  refine k_put hM hE hX m1_q f9_q rfl 1 (by decide) inX2 tyX2 tyX2_ok nmX2 k_521 (fun _ h => h) (Or.inr ⟨hin rfl, rfl⟩) rfl rfl (Nat.le_of_ble_eq_true rfl) dX2_init_52 (fun H locs hX => ?_)
  obtain ⟨F10, hX, eF10⟩ : ∃ Fz : kF, kX γ _ s _ Fz H locs ∧ Fz = va_up F9 q (.inr (7, [.int a, .int b, .int 0, .int 0, .ref r, .int 0, .int (-1), .int 0, .int 0, .int 0, .int 0, .int 0])) := ⟨_, hX, rfl⟩
  have f10_q : F10 q = .inr (7, [.int a, .int b, .int 0, .int 0, .ref r, .int 0, .int (-1), .int 0, .int 0, .int 0, .int 0, .int 0]) := by rw [eF10]; exact va_up_self _ _ _
  have f10_r : F10 r = .inr (4, [.int 0, .ref γ.2.2, .int 0]) := by rw [eF10, va_up_ne _ _ (fun h9 => by have h8 := f9_r; rw [h9, f9_q] at h8; cases h8)]; exact f9_r
  refine lv_aload_n hx hb dX2_init_55 rfl (lv_at hl 0 rfl) ?_
  refine lv_iload_n hx hb dX2_init_56 rfl (lv_at hl 3 rfl) ?_
  refine k_put hM hE hX m1_q f10_q rfl 2 (by decide) inX2 tyX2 tyX2_ok nmX2 k_524 (fun _ h => h) (Or.inr ⟨hin rfl, rfl⟩) rfl rfl (Nat.le_of_ble_eq_true rfl) dX2_init_57 (fun H locs hX => ?_)
  obtain ⟨F11, hX, eF11⟩ : ∃ Fz : kF, kX γ _ s _ Fz H locs ∧ Fz = va_up F10 q (.inr (7, [.int a, .int b, .int z, .int 0, .ref r, .int 0, .int (-1), .int 0, .int 0, .int 0, .int 0, .int 0])) := ⟨_, hX, rfl⟩
  have f11_q : F11 q = .inr (7, [.int a, .int b, .int z, .int 0, .ref r, .int 0, .int (-1), .int 0, .int 0, .int 0, .int 0, .int 0]) := by rw [eF11]; exact va_up_self _ _ _
  have f11_r : F11 r = .inr (4, [.int 0, .ref γ.2.2, .int 0]) := by rw [eF11, va_up_ne _ _ (fun h9 => by have h8 := f10_r; rw [h9, f10_q] at h8; cases h8)]; exact f10_r
  refine lv_aload_n hx hb dX2_init_60 rfl (lv_at hl 0 rfl) ?_
  refine lv_iload hx hb dX2_init_61 (lv_at hl 4 rfl) ?_
  refine k_put hM hE hX m1_q f11_q rfl 3 (by decide) inX2 tyX2 tyX2_ok nmX2 k_526 (fun _ h => h) (Or.inr ⟨hin rfl, rfl⟩) rfl rfl (Nat.le_of_ble_eq_true rfl) dX2_init_63 (fun H locs hX => ?_)
  obtain ⟨F12, hX, eF12⟩ : ∃ Fz : kF, kX γ _ s _ Fz H locs ∧ Fz = va_up F11 q (.inr (7, [.int a, .int b, .int z, .int d, .ref r, .int 0, .int (-1), .int 0, .int 0, .int 0, .int 0, .int 0])) := ⟨_, hX, rfl⟩
  have f12_q : F12 q = .inr (7, [.int a, .int b, .int z, .int d, .ref r, .int 0, .int (-1), .int 0, .int 0, .int 0, .int 0, .int 0]) := by rw [eF12]; exact va_up_self _ _ _
  have f12_r : F12 r = .inr (4, [.int 0, .ref γ.2.2, .int 0]) := by rw [eF12, va_up_ne _ _ (fun h9 => by have h8 := f11_r; rw [h9, f11_q] at h8; cases h8)]; exact f11_r
  refine lv_aload_n hx hb dX2_init_66 rfl (lv_at hl 0 rfl) ?_
  refine lv_iload_n hx hb dX2_init_67 rfl (lv_at hl 1 rfl) ?_
  refine k_put hM hE hX m1_q f12_q rfl 9 (by decide) inX2 tyX2 tyX2_ok nmX2 k_539 (fun _ h => h) (Or.inr ⟨hin rfl, rfl⟩) rfl rfl (Nat.le_of_ble_eq_true rfl) dX2_init_68 (fun H locs hX => ?_)
  obtain ⟨F13, hX, eF13⟩ : ∃ Fz : kF, kX γ _ s _ Fz H locs ∧ Fz = va_up F12 q (.inr (7, [.int a, .int b, .int z, .int d, .ref r, .int 0, .int (-1), .int 0, .int 0, .int a, .int 0, .int 0])) := ⟨_, hX, rfl⟩
  have f13_q : F13 q = .inr (7, [.int a, .int b, .int z, .int d, .ref r, .int 0, .int (-1), .int 0, .int 0, .int a, .int 0, .int 0]) := by rw [eF13]; exact va_up_self _ _ _
  have f13_r : F13 r = .inr (4, [.int 0, .ref γ.2.2, .int 0]) := by rw [eF13, va_up_ne _ _ (fun h9 => by have h8 := f12_r; rw [h9, f12_q] at h8; cases h8)]; exact f12_r
  exact k_vret hM hsz hX ⟨rfl, r, hr, eL1, by rw [eF13, eF12, eF11, eF10, eF9, eF8, eF7, eF6, eF5, eF4, eF3, eF2]; simp only [bx_uu]; rw [eFi, eF1, bx_uu]⟩ (by decide) (by decide) dX2_init_71
def adS (ad : cAd) (n q r s : Nat) : cAd := fun c i j => if c = 1 ∧ i = n then q else if c = 5 ∧ i = 3 + n then r else if c = 2 ∧ i = n then s else ad c i j
section SN
variable {γ : kG} {L L1 : List Nat} {F F1 : kF} {o : Nat} {ad : cAd} {tg tg1 : cTg} {M M' : mM} {nd : Nat} {D : cD}
theorem adS_1 {n q r s i : Nat} (h : i < n) : adS ad n q r s 1 i 0 = ad 1 i 0 := by
  unfold adS; rw [if_neg (by omega), if_neg (by omega), if_neg (by omega)]
theorem adS_5 {n q r s i : Nat} (h : i < n) : adS ad n q r s 5 (3 + i) 0 = ad 5 (3 + i) 0 := by
  unfold adS; rw [if_neg (by omega), if_neg (by omega), if_neg (by omega)]
theorem adS_2 {n q r s i j : Nat} (h : i < n) : adS ad n q r s 2 i j = ad 2 i j := by
  unfold adS; rw [if_neg (by omega), if_neg (by omega), if_neg (by omega)]
theorem adS_n {n q r s c i j : Nat} (h : ¬ c = 1 ∧ ¬ c = 2 ∧ (c = 5 → i < 3)) : adS ad n q r s c i j = ad c i j := by
  unfold adS; rw [if_neg (by omega), if_neg (by omega), if_neg (by omega)]
theorem RepC.snd (h : RepC γ L F o ad tg M nd D) {q r s : Nat} {v w : va_E} (hq : has L F tg q (1, nn M, 0) v) (hs : has L F tg s (2, nn M, 0) w) (hr : Lst γ L F tg r (3 + nn M) 1 (fun j => adS ad (nn M) q r s 2 (nn M) j)) (hb : But L F tg L1 F1 tg1 0) (hl : Lst γ L1 F1 tg1 (ad 5 0 0) 0 (nn M + 1) (fun j => adS ad (nn M) q r s 1 j 0))
    (hv : iC (adS ad (nn M) q r s) M' (nn M) = v) (hw : lC M' (nn M) 0 = w) (hn : nn M' = nn M + 1) (hk : ∀ i, i < nn M → kk M' i = kk M i) (hkn : kk M' (nn M) = 1) (hc : cc M' = cc M) (h0 : M' 0 0 = M 0 0) (ho : ∀ i, i < nn M → iC ad M' i = iC ad M i) (hlC : ∀ i j, i < nn M → j < kk M i → lC M' i j = lC M i j) (hr2 : ∀ k, rC ad M' k = rC ad M k) (hci : ∀ k, k < cc M → kj (M' 19 k) < nn M) (h1 : M' 1 = M 1) (h22 : M' 22 0 = M 22 0) (h23 : M' 23 = M 23) : RepC γ L1 F1 o (adS ad (nn M) q r s) tg1 M' nd D := by
  obtain ⟨g0, g1, g2, g3, g4, l1, l2, l3, l4, g7, ⟨ml, g8⟩, g9⟩ := h
  refine ⟨?_, fun i hi => ?_, fun i hi j hj => ?_, fun k hk9 => ?_, fun d hd => ?_, ?_, ?_, ?_, fun i hi => ?_, ?_, ⟨ml, ?_⟩, ?_⟩
  · unfold oC
    rw [adS_n (by omega), adS_n (by omega), adS_n (by omega), adS_n (by omega), adS_n (by omega), h0]
    exact g0.but hb (tg_ne (by omega)) (tg_ne (by omega))
  · rw [hn] at hi
    by_cases e : i = nn M
    · subst e
      rw [hv, show adS ad (nn M) q r s 1 (nn M) 0 = q from if_pos ⟨rfl, rfl⟩]
      exact hq.but hb (tg_ne (by omega)) (tg_ne (by omega))
    · have hi2 : i < nn M := by omega
      rw [adS_1 hi2, show iC (adS ad (nn M) q r s) M' i = iC ad M i from by rw [← ho i hi2]; unfold iC; rw [adS_5 hi2]]
      exact (g1 i hi2).but hb (tg_ne (by omega)) (tg_ne (by omega))
  · rw [hn] at hi
    by_cases e : i = nn M
    · subst e
      rw [hkn] at hj
      obtain rfl : j = 0 := by omega
      rw [hw, show adS ad (nn M) q r s 2 (nn M) 0 = s from by unfold adS; rw [if_neg (by omega), if_neg (by omega), if_pos ⟨rfl, rfl⟩]]
      exact hs.but hb (tg_ne (by omega)) (tg_ne (by omega))
    · have hi2 : i < nn M := by omega
      rw [hk i hi2] at hj
      rw [adS_2 hi2, hlC i j hi2 hj]
      exact (g2 i hi2 j hj).but hb (tg_ne (by omega)) (tg_ne (by omega))
  · rw [hc] at hk9
    rw [adS_n (by omega), show rC (adS ad (nn M) q r s) M' k = rC ad M k from by rw [← hr2 k]; unfold rC; rw [adS_1 (hci k hk9)]]
    exact (g3 k hk9).but hb (tg_ne (by omega)) (tg_ne (by omega))
  · rw [adS_n (by omega)]; exact (g4 d hd).but hb (tg_ne (by omega)) (tg_ne (by omega))
  · rw [adS_n (by omega), hn]; exact hl
  · rw [adS_n (by omega), hc, show (fun j => adS ad (nn M) q r s 3 j 0) = (fun j => ad 3 j 0) from funext fun j => adS_n (by omega)]
    exact l2.but hb (by omega)
  · rw [adS_n (by omega), show (fun j => adS ad (nn M) q r s 4 j 0) = (fun j => ad 4 j 0) from funext fun j => adS_n (by omega)]
    exact l3.but hb (by omega)
  · rw [hn] at hi
    by_cases e : i = nn M
    · subst e
      rw [hkn, show adS ad (nn M) q r s 5 (3 + nn M) 0 = r from by unfold adS; rw [if_neg (by omega), if_pos ⟨rfl, rfl⟩]]
      exact hr.but hb (by omega)
    · have hi2 : i < nn M := by omega
      rw [adS_5 hi2, hk i hi2, show (fun j => adS ad (nn M) q r s 2 i j) = (fun j => ad 2 i j) from funext fun j => adS_2 hi2]
      exact (l4 i hi2).but hb (by omega)
  · rw [adS_n (by omega), h1]; exact g7.but hb (tg_ne (by omega)) (tg_ne (by omega))
  · rw [adS_n (by omega), adS_n (by omega), h22]; exact g8.but hb (tg_ne (by omega)) (tg_ne (by omega))
  · rw [adS_n (by omega), h23]; exact g9.but hb (tg_ne (by omega)) (tg_ne (by omega))
end SN
