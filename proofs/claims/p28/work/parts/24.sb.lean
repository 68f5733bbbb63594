theorem sb_le {q : Nat} (h : q ≤ 16) : nI q - 16 ≤ 0 := by
  have : ∀ q : Nat, q < 17 → nI q - 16 ≤ 0 := by decide +kernel
  exact this q (by omega)
theorem sb_i2b {t : Nat} (h : t ≤ 126) : (nI t).toInt8.toInt32 = nI t := by
  have : ∀ t : Nat, t < 127 → (nI t).toInt8.toInt32 = nI t := by decide +kernel
  exact this t (by omega)
theorem sb_nar {t : Nat} (h : t ≤ 126) : vp_nar .byte (nI t) = nI t := by
  have : ∀ t : Nat, t < 127 → vp_nar .byte (nI t) = nI t := by decide +kernel
  exact this t (by omega)
theorem sb_and {t : Nat} (h : t ≤ 126) : nI t &&& (255 : Int32) = nI t := by
  have : ∀ t : Nat, t < 127 → nI t &&& (255 : Int32) = nI t := by decide +kernel
  exact this t (by omega)
theorem sb_i2c {t : Nat} (h : t ≤ 126) : ((nI t).toUInt32 % 65536).toInt32 = nI t := by
  have : ∀ t : Nat, t < 127 → ((nI t).toUInt32 % 65536).toInt32 = nI t := by decide +kernel
  exact this t (by omega)
set_option maxHeartbeats 4000000 in
set_option maxRecDepth 100000 in
theorem c_J5_length_8abf5 (l : Launch) (γ : kG) (L : List Nat) (F : kF) (b v k : Nat) (ml : Int32) (hbm : b ∈ L) (hFb : F b = .inr (1, [.ref v, .int 0, .int ml, .int (nI k)])) (hvm : v ∈ L) (g : Nat → Int32) (hFv : F v = .inl (γ.2.1 0, 16, .inl g)) (hk : k ≤ 16) : kC l yJ5_length_8abf5 cJ5_length_8abf5 1 (some .int) (kRm 0 0 0) γ L F [.ref b] (kI fun r L1 F1 => L = L1 ∧ F = F1 ∧ r = nI k) := by
  refine kC_of (by decide +kernel) (Nat.le_of_ble_eq_true rfl) ?_
  intro p e s m args below meth c sz ls hargs hsz hM hin hE hX hl
  have hx := hM.1
  have hb := hM.2.1
  have hl : lv_has ls 1 [(0, .ref b)] := hl
  refine lv_aload_n hx hb dJ5_length_8abf5_0 rfl (lv_at hl 0 rfl) ?_
  refine k_get hM hE hX hbm hFb rfl 3 (by decide) inSB k_86 (fun _ h => h) rfl dJ5_length_8abf5_1 ?_
  exact k_iret hM hsz hX ⟨_, rfl, rfl, rfl, rfl⟩ (by decide) (by decide) dJ5_length_8abf5_4
set_option maxHeartbeats 4000000 in
set_option maxRecDepth 100000 in
theorem c_J4_length_8abf5 (l : Launch) (γ : kG) (L : List Nat) (F : kF) (b v k : Nat) (ml : Int32) (hbm : b ∈ L) (hFb : F b = .inr (1, [.ref v, .int 0, .int ml, .int (nI k)])) (hvm : v ∈ L) (g : Nat → Int32) (hFv : F v = .inl (γ.2.1 0, 16, .inl g)) (hk : k ≤ 16) : kC l yJ4_length_8abf5 cJ4_length_8abf5 1 (some .int) (kRm 1 0 0) γ L F [.ref b] (kI fun r L1 F1 => L = L1 ∧ F = F1 ∧ r = nI k) := by
  refine kC_of (by decide +kernel) (Nat.le_of_ble_eq_true rfl) ?_
  intro p e s m args below meth c sz ls hargs hsz hM hin hE hX hl
  have hx := hM.1
  have hb := hM.2.1
  have hl : lv_has ls 1 [(0, .ref b)] := hl
  refine lv_aload_n hx hb dJ4_length_8abf5_0 rfl (lv_at hl 0 rfl) ?_
  refine k_goi (k_SU (n := 0) (As := []) (rest := []) hM hE hX hl (c_J5_length_8abf5 l γ L F b v k ml hbm hFb hvm g hFv hk) hbm hFb rfl k_682 k_1053 k_95 k_683 k_5 k_684 ⟨by decide, by decide +kernel⟩ (by decide) rfl rfl (Nat.le_of_ble_eq_true rfl) dJ4_length_8abf5_1 (by decide)) hE hX (fun r L1 F1 H locs hp hX => ?_)
  obtain ⟨rfl, rfl, rfl⟩ := hp
  exact k_iret hM hsz hX ⟨_, rfl, rfl, rfl, rfl⟩ (by decide) (by decide) dJ4_length_8abf5_4
set_option maxHeartbeats 4000000 in
set_option maxRecDepth 100000 in
theorem c_J5_ensureCapacityInternal_d00df (l : Launch) (γ : kG) (L : List Nat) (F : kF) (b v k : Nat) (ml : Int32) (hbm : b ∈ L) (hFb : F b = .inr (1, [.ref v, .int 0, .int ml, .int (nI k)])) (hvm : v ∈ L) (g : Nat → Int32) (hFv : F v = .inl (γ.2.1 0, 16, .inl g)) (hk : k ≤ 16) (q : Nat) (hq : q ≤ 16) : kC l yJ5_ensureCapacityInternal_d00df cJ5_ensureCapacityInternal_d00df 3 none (kRm 0 0 0) γ L F [.ref b, .int (nI q)] (kU fun L1 F1 => L = L1 ∧ F = F1) := by
  refine kC_of (by decide +kernel) (Nat.le_of_ble_eq_true rfl) ?_
  intro p e s m args below meth c sz ls hargs hsz hM hin hE hX hl
  have hx := hM.1
  have hb := hM.2.1
  have hl : lv_has ls 3 [(0, .ref b), (1, .int (nI q))] := hl
  refine lv_aload_n hx hb dJ5_ensureCapacityInternal_d00df_0 rfl (lv_at hl 0 rfl) ?_
  refine k_get hM hE hX hbm hFb rfl 0 (by decide) inSB k_82 (fun _ h => h) rfl dJ5_ensureCapacityInternal_d00df_1 ?_
  refine k_alen (t0 := 0) hM hE hX hvm hFv rfl rfl dJ5_ensureCapacityInternal_d00df_4 ?_
  refine lv_aload_n hx hb dJ5_ensureCapacityInternal_d00df_5 rfl (lv_at hl 0 rfl) ?_
  refine k_get hM hE hX hbm hFb rfl 1 (by decide) inSB k_83 (fun _ h => h) rfl dJ5_ensureCapacityInternal_d00df_6 ?_
  refine lv_ishr hx hb dJ5_ensureCapacityInternal_d00df_9 ?_
  rw [show (nI 16) >>> ((0 : Int32) &&& 31) = 16 from by decide]
  refine lv_istore_n (lv' := [(2, .int 16), (0, .ref b), (1, .int (nI q))]) hx hb dJ5_ensureCapacityInternal_d00df_10 rfl hl (by decide) rfl (fun ls hl => ?_)
  refine lv_iload_n hx hb dJ5_ensureCapacityInternal_d00df_11 rfl (lv_at hl 2 rfl) ?_
  refine lv_iload_n hx hb dJ5_ensureCapacityInternal_d00df_12 rfl (lv_at hl 0 rfl) ?_
  refine lv_isub hx hb dJ5_ensureCapacityInternal_d00df_13 ?_
  refine lv_if_le (tgt := 38) hx hb dJ5_ensureCapacityInternal_d00df_14 (by decide) (fun _ => ?_) (fun c_1 => absurd c_1 (not_not_intro (sb_le hq)))
  exact k_vret hM hsz hX ⟨rfl, rfl, rfl⟩ (by decide) (by decide) dJ5_ensureCapacityInternal_d00df_38
set_option maxHeartbeats 4000000 in
set_option maxRecDepth 100000 in
theorem c_J5_isLatin1_aae02 (l : Launch) (γ : kG) (L : List Nat) (F : kF) (b v k : Nat) (ml : Int32) (hbm : b ∈ L) (hFb : F b = .inr (1, [.ref v, .int 0, .int ml, .int (nI k)])) (hvm : v ∈ L) (g : Nat → Int32) (hFv : F v = .inl (γ.2.1 0, 16, .inl g)) (hk : k ≤ 16) : kC l yJ5_isLatin1_aae02 cJ5_isLatin1_aae02 1 (some .boolean) (kRm 0 0 0) γ L F [.ref b] (kI fun r L1 F1 => L = L1 ∧ F = F1 ∧ r = 1) := by
  refine kC_of (by decide +kernel) (Nat.le_of_ble_eq_true rfl) ?_
  intro p e s m args below meth c sz ls hargs hsz hM hin hE hX hl
  have hx := hM.1
  have hb := hM.2.1
  have hl : lv_has ls 1 [(0, .ref b)] := hl
  refine k_gets hM hX hE.2.1.2.2.2.2.2.1 k_73 dJ5_isLatin1_aae02_0 ?_
  refine lv_if_eq (tgt := 17) hx hb dJ5_isLatin1_aae02_3 (by decide) (fun c_1 => absurd (show (1 : Int32) = 0 from c_1) (by decide)) (fun _ => ?_)
  refine lv_aload_n hx hb dJ5_isLatin1_aae02_6 rfl (lv_at hl 0 rfl) ?_
  refine k_get hM hE hX hbm hFb rfl 1 (by decide) inSB k_83 (fun _ h => h) rfl dJ5_isLatin1_aae02_7 ?_
  refine lv_if_ne (tgt := 17) hx hb dJ5_isLatin1_aae02_10 (by decide) (fun c_2 => absurd (show ¬ (0 : Int32) = 0 from c_2) (by decide)) (fun _ => ?_)
  refine lv_iconst (v := 1) hx hb dJ5_isLatin1_aae02_13 (by decide) ?_
  refine lv_goto (tgt := 18) hx hb dJ5_isLatin1_aae02_14 (by decide) ?_
  exact k_zret hM rfl hsz hX ⟨_, rfl, rfl, rfl, rfl⟩ (by decide) (by decide) dJ5_isLatin1_aae02_18
set_option maxHeartbeats 4000000 in
set_option maxRecDepth 100000 in
theorem c_J1_canEncode_fc78d (l : Launch) (γ : kG) (L : List Nat) (F : kF) (t : Nat) (ht : t ≤ 126) : kC l yJ1_canEncode_fc78d cJ1_canEncode_fc78d 1 (some .boolean) (kRm 0 0 0) γ L F [.int (nI t)] (kI fun r L1 F1 => L = L1 ∧ F = F1 ∧ r = 1) := by
  refine kC_of (by decide +kernel) (Nat.le_of_ble_eq_true rfl) ?_
  intro p e s m args below meth c sz ls hargs hsz hM hin hE hX hl
  have hx := hM.1
  have hb := hM.2.1
  have hl : lv_has ls 1 [(0, .int (nI t))] := hl
  refine lv_iload_n hx hb dJ1_canEncode_fc78d_0 rfl (lv_at hl 0 rfl) ?_
  refine lv_sipush (v := 255) hx hb dJ1_canEncode_fc78d_1 (by decide) ?_
  refine lv_icmp_gt (tgt := 11) hx hb dJ1_canEncode_fc78d_4 (by decide) (fun c_1 => absurd c_1 (nI_nlt (a := 255) (b := t) (by omega) (by decide))) (fun _ => ?_)
  refine lv_iconst (v := 1) hx hb dJ1_canEncode_fc78d_7 (by decide) ?_
  refine lv_goto (tgt := 12) hx hb dJ1_canEncode_fc78d_8 (by decide) ?_
  exact k_zret hM rfl hsz hX ⟨_, rfl, rfl, rfl, rfl⟩ (by decide) (by decide) dJ1_canEncode_fc78d_12
set_option maxHeartbeats 4000000 in
set_option maxRecDepth 100000 in
theorem c_J5_append_3fe6f (l : Launch) (γ : kG) (L : List Nat) (F : kF) (b v k : Nat) (ml : Int32) (hbm : b ∈ L) (hFb : F b = .inr (1, [.ref v, .int 0, .int ml, .int (nI k)])) (hvm : v ∈ L) (g : Nat → Int32) (hFv : F v = .inl (γ.2.1 0, 16, .inl g)) (hk1 : k < 16) (t : Nat) (ht : t ≤ 126) : kC l yJ5_append_3fe6f cJ5_append_3fe6f 2 (some (.object "java/lang/AbstractStringBuilder")) (kRm 1 0 0) γ L F [.ref b, .int (nI t)] (kR fun r L1 F1 => r = b ∧ L1 = L ∧ F1 = va_up (va_up F b (.inr (1, [.ref v, .int 0, .int ml, .int (nI (k + 1))]))) v (.inl (γ.2.1 0, 16, .inl (upd g k (nI t))))) := by
  have hk : k ≤ 16 := Nat.le_of_lt hk1
  refine kC_of (by decide +kernel) (Nat.le_of_ble_eq_true rfl) ?_
  intro p e s m args below meth c sz ls hargs hsz hM hin hE hX hl
  have hx := hM.1
  have hb := hM.2.1
  have hl : lv_has ls 2 [(0, .ref b), (1, .int (nI t))] := hl
  refine lv_aload_n hx hb dJ5_append_3fe6f_0 rfl (lv_at hl 0 rfl) ?_
  refine lv_aload_n hx hb dJ5_append_3fe6f_1 rfl (lv_at hl 0 rfl) ?_
  refine k_get hM hE hX hbm hFb rfl 3 (by decide) inSB k_86 (fun _ h => h) rfl dJ5_append_3fe6f_2 ?_
  refine lv_iconst (v := 1) hx hb dJ5_append_3fe6f_5 (by decide) ?_
  refine lv_iadd hx hb dJ5_append_3fe6f_6 ?_
  rw [show (nI k) + 1 = (nI (k + 1)) from nI_1 _]
  refine k_gou (k_UU (owner := "java/lang/AbstractStringBuilder") (n := 1) (As := [.int (nI (k + 1))]) (rest := []) hM hE hX hl (c_J5_ensureCapacityInternal_d00df l γ L F b v k ml hbm hFb hvm g hFv hk (k + 1) (by omega)) hbm hFb rfl k_693 k_1055 k_ens k_695 k_5 k_696 rfl ⟨by decide, by decide, by decide +kernel⟩ (by decide) rfl rfl (Nat.le_of_ble_eq_true rfl) dJ5_append_3fe6f_7 (by decide)) hE hX (fun L1 F1 H locs hp hX => ?_)
  obtain ⟨rfl, rfl⟩ := hp
  refine lv_aload_n hx hb dJ5_append_3fe6f_10 rfl (lv_at hl 0 rfl) ?_
  refine k_goi (k_UU (owner := "java/lang/AbstractStringBuilder") (n := 0) (As := []) (rest := []) hM hE hX hl (c_J5_isLatin1_aae02 l γ L F b v k ml hbm hFb hvm g hFv hk) hbm hFb rfl k_713 k_715 k_716 k_714 k_5 k_717 rfl ⟨by decide, by decide, by decide +kernel⟩ (by decide) rfl rfl (Nat.le_of_ble_eq_true rfl) dJ5_append_3fe6f_11 (by decide)) hE hX (fun r L1 F1 H locs hp hX => ?_)
  obtain ⟨rfl, rfl, rfl⟩ := hp
  refine lv_if_eq (tgt := 45) hx hb dJ5_append_3fe6f_14 (by decide) (fun c_1 => absurd (show (1 : Int32) = 0 from c_1) (by decide)) (fun _ => ?_)
  refine lv_iload_n hx hb dJ5_append_3fe6f_17 rfl (lv_at hl 1 rfl) ?_
  refine k_goi (k_S (n := 1) (As := [.int (nI t)]) (rest := []) hM hE hX hl (c_J1_canEncode_fc78d l γ L F t ht) k_718 k_719 k_25 k_720 ⟨by decide, by decide, by decide +kernel⟩ (by decide) rfl rfl (Nat.le_of_ble_eq_true rfl) dJ5_append_3fe6f_18 (by decide)) hE hX (fun r L1 F1 H locs hp hX => ?_)
  obtain ⟨rfl, rfl, rfl⟩ := hp
  refine lv_if_eq (tgt := 45) hx hb dJ5_append_3fe6f_21 (by decide) (fun c_2 => absurd (show (1 : Int32) = 0 from c_2) (by decide)) (fun _ => ?_)
  refine lv_aload_n hx hb dJ5_append_3fe6f_24 rfl (lv_at hl 0 rfl) ?_
  refine k_get hM hE hX hbm hFb rfl 0 (by decide) inSB k_82 (fun _ h => h) rfl dJ5_append_3fe6f_25 ?_
  refine lv_aload_n hx hb dJ5_append_3fe6f_28 rfl (lv_at hl 0 rfl) ?_
  refine lv_dup hx hb dJ5_append_3fe6f_29 rfl ?_
  refine k_get hM hE hX hbm hFb rfl 3 (by decide) inSB k_86 (fun _ h => h) rfl dJ5_append_3fe6f_30 ?_
  refine lv_dup_x1 hx hb dJ5_append_3fe6f_33 rfl rfl ?_
  refine lv_iconst (v := 1) hx hb dJ5_append_3fe6f_34 (by decide) ?_
  refine lv_iadd hx hb dJ5_append_3fe6f_35 ?_
  rw [show (nI k) + 1 = (nI (k + 1)) from nI_1 _]
  refine k_put hM hE hX hbm hFb rfl 3 (by decide) inSB tyJ4 tyJ4_ok nmJ4 k_86 (fun _ h => h) (Or.inl rfl) rfl rfl (Nat.le_of_ble_eq_true rfl) dJ5_append_3fe6f_36 (fun H locs hX => ?_)
  obtain ⟨F1, hX, eF1⟩ : ∃ F9 : kF, kX γ _ s _ F9 H locs ∧ F9 = va_up F b (.inr (1, [.ref v, .int 0, .int ml, .int (nI (k + 1))])) := ⟨_, hX, rfl⟩
  have f1_b : F1 b = .inr (1, [.ref v, .int 0, .int ml, .int (nI (k + 1))]) := by rw [eF1]; exact va_up_self _ _ _
  have f1_v : F1 v = .inl (γ.2.1 0, 16, .inl g) := by rw [eF1, va_up_ne _ _ (fun h9 => by have h8 := hFv; rw [h9, hFb] at h8; cases h8)]; exact hFv
  refine lv_iload_n hx hb dJ5_append_3fe6f_39 rfl (lv_at hl 1 rfl) ?_
  refine lv_i2b (v := (nI t)) hx hb dJ5_append_3fe6f_40 (sb_i2b ht) ?_
  refine k_bast hM hE hX hvm f1_v (vp_in_nI (show k < 16 by omega) (by decide)) dJ5_append_3fe6f_41 (fun H locs hX => ?_)
  rw [nI_clamp (show k < 2 ^ 31 by omega), sb_nar ht] at hX
  obtain ⟨F2, hX, eF2⟩ : ∃ F9 : kF, kX γ _ s _ F9 H locs ∧ F9 = va_up F1 v (.inl (γ.2.1 0, 16, .inl (upd g k (nI t)))) := ⟨_, hX, rfl⟩
  have f2_b : F2 b = .inr (1, [.ref v, .int 0, .int ml, .int (nI (k + 1))]) := by rw [eF2, va_up_ne _ _ (fun h9 => by have h8 := f1_b; rw [h9, f1_v] at h8; cases h8)]; exact f1_b
  have f2_v : F2 v = .inl (γ.2.1 0, 16, .inl (upd g k (nI t))) := by rw [eF2]; exact va_up_self _ _ _
  refine lv_goto (tgt := 75) hx hb dJ5_append_3fe6f_42 (by decide) ?_
  refine lv_aload_n hx hb dJ5_append_3fe6f_75 rfl (lv_at hl 0 rfl) ?_
  exact k_aret hM (Or.inl ⟨_, rfl⟩) hsz hX ⟨_, rfl, rfl, rfl, by rw [eF2, eF1]⟩ (by decide) (by decide) dJ5_append_3fe6f_76
set_option maxHeartbeats 4000000 in
set_option maxRecDepth 100000 in
theorem c_J4_append_cf468 (l : Launch) (γ : kG) (L : List Nat) (F : kF) (b v k : Nat) (ml : Int32) (hbm : b ∈ L) (hFb : F b = .inr (1, [.ref v, .int 0, .int ml, .int (nI k)])) (hvm : v ∈ L) (g : Nat → Int32) (hFv : F v = .inl (γ.2.1 0, 16, .inl g)) (hk1 : k < 16) (t : Nat) (ht : t ≤ 126) : kC l yJ4_append_cf468 cJ4_append_cf468 2 (some (.object "java/lang/StringBuilder")) (kRm 2 0 0) γ L F [.ref b, .int (nI t)] (kR fun r L1 F1 => r = b ∧ L1 = L ∧ F1 = va_up (va_up F b (.inr (1, [.ref v, .int 0, .int ml, .int (nI (k + 1))]))) v (.inl (γ.2.1 0, 16, .inl (upd g k (nI t))))) := by
  refine kC_of (by decide +kernel) (Nat.le_of_ble_eq_true rfl) ?_
  intro p e s m args below meth c sz ls hargs hsz hM hin hE hX hl
  have hx := hM.1
  have hb := hM.2.1
  have hl : lv_has ls 2 [(0, .ref b), (1, .int (nI t))] := hl
  refine lv_aload_n hx hb dJ4_append_cf468_0 rfl (lv_at hl 0 rfl) ?_
  refine lv_iload_n hx hb dJ4_append_cf468_1 rfl (lv_at hl 1 rfl) ?_
  refine k_gor (k_SU (n := 1) (As := [.int (nI t)]) (rest := []) hM hE hX hl (c_J5_append_3fe6f l γ L F b v k ml hbm hFb hvm g hFv hk1 t ht) hbm hFb rfl k_690 k_1054 k_95 k_691 k_5 k_692 ⟨by decide, by decide +kernel⟩ (by decide) rfl rfl (Nat.le_of_ble_eq_true rfl) dJ4_append_cf468_2 (by decide)) hE hX (fun r L1 F1 H locs hp hX => ?_)
  obtain ⟨rfl, rfl, eF⟩ := hp
  refine lv_pop hx hb dJ4_append_cf468_5 rfl ?_
  refine lv_aload_n hx hb dJ4_append_cf468_6 rfl (lv_at hl 0 rfl) ?_
  exact k_aret hM (Or.inl ⟨_, rfl⟩) hsz hX ⟨_, rfl, rfl, rfl, eF⟩ (by decide) (by decide) dJ4_append_cf468_7
set_option maxHeartbeats 4000000 in
set_option maxRecDepth 100000 in
theorem cr_J3_checkIndex_8e157 (l : Launch) (γ : kG) (L : List Nat) (F : kF) (j n z : Nat) (hj : j < n) (hn : n < 1000000) : kC l yJ3_checkIndex_8e157 cJ3_checkIndex_8e157 3 (some .int) (kRm 0 0 0) γ L F [.int (nI j), .int (nI n), .ref z] (kI fun r L1 F1 => L = L1 ∧ F = F1 ∧ r = nI j) := by
  refine kC_of (by decide +kernel) (Nat.le_of_ble_eq_true rfl) ?_
  intro p e s m args below meth c sz ls hargs hsz hM hin hE hX hl
  have hx := hM.1
  have hb := hM.2.1
  have hl : lv_has ls 3 [(0, .int (nI j)), (1, .int (nI n))] := lv_sub (l' := [(0, .int (nI j)), (1, .int (nI n))]) hl [0, 1] rfl
  refine lv_iload_n hx hb dJ3_checkIndex_8e157_0 rfl (lv_at hl 0 rfl) ?_
  refine lv_if_lt (tgt := 9) hx hb dJ3_checkIndex_8e157_1 (by decide) (fun c_1 => absurd c_1 (nI_pos (by omega))) (fun _ => ?_)
  refine lv_iload_n hx hb dJ3_checkIndex_8e157_4 rfl (lv_at hl 0 rfl) ?_
  refine lv_iload_n hx hb dJ3_checkIndex_8e157_5 rfl (lv_at hl 1 rfl) ?_
  refine lv_icmp_lt (tgt := 16) hx hb dJ3_checkIndex_8e157_6 (by decide) (fun _ => ?_) (fun c_2 => absurd c_2 (not_not_intro (nI_lt hj (by omega))))
  refine lv_iload_n hx hb dJ3_checkIndex_8e157_16 rfl (lv_at hl 0 rfl) ?_
  exact k_iret hM hsz hX ⟨_, rfl, rfl, rfl, rfl⟩ (by decide) (by decide) dJ3_checkIndex_8e157_17
set_option maxHeartbeats 4000000 in
set_option maxRecDepth 100000 in
theorem c_J0_checkIndex_df160 (l : Launch) (γ : kG) (L : List Nat) (F : kF) (j n : Nat) (hj : j < n) (hn : n < 1000000) : kC l yJ0_checkIndex_df160 cJ0_checkIndex_df160 2 none (kRm 1 0 0) γ L F [.int (nI j), .int (nI n)] (kU fun L1 F1 => L = L1 ∧ F = F1) := by
  refine kC_of (by decide +kernel) (Nat.le_of_ble_eq_true rfl) ?_
  intro p e s m args below meth c sz ls hargs hsz hM hin hE hX hl
  have hx := hM.1
  have hb := hM.2.1
  have hl : lv_has ls 2 [(0, .int (nI j)), (1, .int (nI n))] := hl
  rcases hE.2.1.2.2.2.2.2.2.1 with hz | ⟨z, hz⟩
  · refine lv_iload_n hx hb dJ0_checkIndex_df160_0 rfl (lv_at hl 0 rfl) ?_
    refine lv_iload_n hx hb dJ0_checkIndex_df160_1 rfl (lv_at hl 1 rfl) ?_
    refine k_gets hM hX hz k_740 dJ0_checkIndex_df160_2 ?_
    refine k_goi (k_S (n := 3) (As := [.int (nI j), .int (nI n), .null]) (rest := []) hM hE hX hl (c_J3_checkIndex_8e157 l γ L F j n hj hn) k_763 k_232 k_14 k_233 ⟨by decide, by decide, by decide +kernel⟩ (by decide) rfl rfl (Nat.le_of_ble_eq_true rfl) dJ0_checkIndex_df160_5 (by decide)) hE hX (fun r L1 F1 H locs hp hX => ?_)
    obtain ⟨rfl, rfl, rfl⟩ := hp
    refine lv_pop hx hb dJ0_checkIndex_df160_8 rfl ?_
    exact k_vret hM hsz hX ⟨rfl, rfl, rfl⟩ (by decide) (by decide) dJ0_checkIndex_df160_9
  · refine lv_iload_n hx hb dJ0_checkIndex_df160_0 rfl (lv_at hl 0 rfl) ?_
    refine lv_iload_n hx hb dJ0_checkIndex_df160_1 rfl (lv_at hl 1 rfl) ?_
    refine k_gets hM hX hz k_740 dJ0_checkIndex_df160_2 ?_
    refine k_goi (k_S (n := 3) (As := [.int (nI j), .int (nI n), .ref z]) (rest := []) hM hE hX hl (cr_J3_checkIndex_8e157 l γ L F j n z hj hn) k_763 k_232 k_14 k_233 ⟨by decide, by decide, by decide +kernel⟩ (by decide) rfl rfl (Nat.le_of_ble_eq_true rfl) dJ0_checkIndex_df160_5 (by decide)) hE hX (fun r L1 F1 H locs hp hX => ?_)
    obtain ⟨rfl, rfl, rfl⟩ := hp
    refine lv_pop hx hb dJ0_checkIndex_df160_8 rfl ?_
    exact k_vret hM hsz hX ⟨rfl, rfl, rfl⟩ (by decide) (by decide) dJ0_checkIndex_df160_9
set_option maxHeartbeats 4000000 in
set_option maxRecDepth 100000 in
theorem c_J5_charAt_5068e (l : Launch) (γ : kG) (L : List Nat) (F : kF) (b v k : Nat) (ml : Int32) (hbm : b ∈ L) (hFb : F b = .inr (1, [.ref v, .int 0, .int ml, .int (nI k)])) (hvm : v ∈ L) (g : Nat → Int32) (hFv : F v = .inl (γ.2.1 0, 16, .inl g)) (hk : k ≤ 16) (j t : Nat) (hj : j < k) (hgj : g j = nI t) (ht : t ≤ 126) : kC l yJ5_charAt_5068e cJ5_charAt_5068e 5 (some .char) (kRm 2 0 0) γ L F [.ref b, .int (nI j)] (kI fun r L1 F1 => L = L1 ∧ F = F1 ∧ r = nI t) := by
  refine kC_of (by decide +kernel) (Nat.le_of_ble_eq_true rfl) ?_
  intro p e s m args below meth c sz ls hargs hsz hM hin hE hX hl
  have hx := hM.1
  have hb := hM.2.1
  have hl : lv_has ls 5 [(0, .ref b), (1, .int (nI j))] := hl
  refine lv_aload_n hx hb dJ5_charAt_5068e_0 rfl (lv_at hl 0 rfl) ?_
  refine k_get hM hE hX hbm hFb rfl 1 (by decide) inSB k_83 (fun _ h => h) rfl dJ5_charAt_5068e_1 ?_
  refine lv_istore_n (lv' := [(2, .int 0), (0, .ref b), (1, .int (nI j))]) hx hb dJ5_charAt_5068e_4 rfl hl (by decide) rfl (fun ls hl => ?_)
  refine lv_aload_n hx hb dJ5_charAt_5068e_5 rfl (lv_at hl 1 rfl) ?_
  refine k_get hM hE hX hbm hFb rfl 0 (by decide) inSB k_82 (fun _ h => h) rfl dJ5_charAt_5068e_6 ?_
  refine lv_astore_n (lv' := [(3, .ref v), (2, .int 0), (0, .ref b), (1, .int (nI j))]) hx hb dJ5_charAt_5068e_9 rfl hl (by decide) rfl (fun ls hl => ?_)
  refine lv_aload_n hx hb dJ5_charAt_5068e_10 rfl (lv_at hl 2 rfl) ?_
  refine k_get hM hE hX hbm hFb rfl 3 (by decide) inSB k_86 (fun _ h => h) rfl dJ5_charAt_5068e_11 ?_
  refine lv_aload_n hx hb dJ5_charAt_5068e_14 rfl (lv_at hl 0 rfl) ?_
  refine k_alen (t0 := 0) hM hE hX hvm hFv rfl rfl dJ5_charAt_5068e_15 ?_
  refine lv_iload_n hx hb dJ5_charAt_5068e_16 rfl (lv_at hl 1 rfl) ?_
  refine lv_ishr hx hb dJ5_charAt_5068e_17 ?_
  rw [show (nI 16) >>> ((0 : Int32) &&& 31) = 16 from by decide]
  refine k_min hM hl k_779 k_358 k_15 k_359 ⟨by decide, Nat.le_of_ble_eq_true rfl⟩ (by decide) dJ5_charAt_5068e_18 ?_
  rw [show (if 16 < (nI k) then 16 else (nI k) : Int32) = (nI k) from if_neg (nI_nlt (a := 16) (b := k) (by omega) (by decide))]
  refine lv_istore (lv' := [(4, .int (nI k)), (3, .ref v), (2, .int 0), (0, .ref b), (1, .int (nI j))]) hx hb dJ5_charAt_5068e_21 hl (by decide) rfl (fun ls hl => ?_)
  refine lv_iload_n hx hb dJ5_charAt_5068e_23 rfl (lv_at hl 4 rfl) ?_
  refine lv_iload hx hb dJ5_charAt_5068e_24 (lv_at hl 0 rfl) ?_
  refine k_gou (k_S (n := 2) (As := [.int (nI j), .int (nI k)]) (rest := []) hM hE hX hl (c_J0_checkIndex_df160 l γ L F j k hj (by omega)) k_780 k_761 k_7 k_762 ⟨by decide, by decide, by decide +kernel⟩ (by decide) rfl rfl (Nat.le_of_ble_eq_true rfl) dJ5_charAt_5068e_26 (by decide)) hE hX (fun L1 F1 H locs hp hX => ?_)
  obtain ⟨rfl, rfl⟩ := hp
  refine lv_iload_n hx hb dJ5_charAt_5068e_29 rfl (lv_at hl 2 rfl) ?_
  refine lv_if_ne (tgt := 42) hx hb dJ5_charAt_5068e_30 (by decide) (fun c_1 => absurd (show ¬ (0 : Int32) = 0 from c_1) (by decide)) (fun _ => ?_)
  refine lv_aload_n hx hb dJ5_charAt_5068e_33 rfl (lv_at hl 1 rfl) ?_
  refine lv_iload_n hx hb dJ5_charAt_5068e_34 rfl (lv_at hl 4 rfl) ?_
  refine k_bald hM hE hX hvm hFv (vp_in_nI (show j < 16 by omega) (by decide)) dJ5_charAt_5068e_35 ?_
  rw [nI_clamp (show j < 2 ^ 31 by omega), hgj]
  refine lv_sipush (v := 255) hx hb dJ5_charAt_5068e_36 (by decide) ?_
  refine lv_iand hx hb dJ5_charAt_5068e_39 ?_
  rw [show (nI t) &&& (255 : Int32) = nI t from sb_and ht]
  refine lv_i2c (v := (nI t)) hx hb dJ5_charAt_5068e_40 (sb_i2c ht) ?_
  exact k_zret hM (pk_charN (show t < 65536 by omega)).1 hsz hX ⟨_, rfl, rfl, rfl, rfl⟩ (by decide) (by decide) dJ5_charAt_5068e_41
set_option maxHeartbeats 4000000 in
set_option maxRecDepth 100000 in
theorem c_J4_charAt_5068e (l : Launch) (γ : kG) (L : List Nat) (F : kF) (b v k : Nat) (ml : Int32) (hbm : b ∈ L) (hFb : F b = .inr (1, [.ref v, .int 0, .int ml, .int (nI k)])) (hvm : v ∈ L) (g : Nat → Int32) (hFv : F v = .inl (γ.2.1 0, 16, .inl g)) (hk : k ≤ 16) (j t : Nat) (hj : j < k) (hgj : g j = nI t) (ht : t ≤ 126) : kC l yJ4_charAt_5068e cJ4_charAt_5068e 2 (some .char) (kRm 3 0 0) γ L F [.ref b, .int (nI j)] (kI fun r L1 F1 => L = L1 ∧ F = F1 ∧ r = nI t) := by
  refine kC_of (by decide +kernel) (Nat.le_of_ble_eq_true rfl) ?_
  intro p e s m args below meth c sz ls hargs hsz hM hin hE hX hl
  have hx := hM.1
  have hb := hM.2.1
  have hl : lv_has ls 2 [(0, .ref b), (1, .int (nI j))] := hl
  refine lv_aload_n hx hb dJ4_charAt_5068e_0 rfl (lv_at hl 0 rfl) ?_
  refine lv_iload_n hx hb dJ4_charAt_5068e_1 rfl (lv_at hl 1 rfl) ?_
  refine k_goi (k_SU (n := 1) (As := [.int (nI j)]) (rest := []) hM hE hX hl (c_J5_charAt_5068e l γ L F b v k ml hbm hFb hvm g hFv hk j t hj hgj ht) hbm hFb rfl k_776 k_1058 k_95 k_777 k_5 k_778 ⟨by decide, by decide +kernel⟩ (by decide) rfl rfl (Nat.le_of_ble_eq_true rfl) dJ4_charAt_5068e_2 (by decide)) hE hX (fun r L1 F1 H locs hp hX => ?_)
  obtain ⟨rfl, rfl, rfl⟩ := hp
  exact k_zret hM (pk_charN (show t < 65536 by omega)).1 hsz hX ⟨_, rfl, rfl, rfl, rfl⟩ (by decide) (by decide) dJ4_charAt_5068e_5
set_option maxHeartbeats 4000000 in
set_option maxRecDepth 100000 in
theorem c_J5_setLength_d00df (l : Launch) (γ : kG) (L : List Nat) (F : kF) (b v k : Nat) (ml : Int32) (hbm : b ∈ L) (hFb : F b = .inr (1, [.ref v, .int 0, .int ml, .int (nI k)])) (hvm : v ∈ L) (g : Nat → Int32) (hFv : F v = .inl (γ.2.1 0, 16, .inl g)) (hk : k ≤ 16) : kC l yJ5_setLength_d00df cJ5_setLength_d00df 2 none (kRm 1 0 0) γ L F [.ref b, .int 0] (kU fun L1 F1 => ∃ ml1 : Int32, L1 = L ∧ F1 = va_up F b (.inr (1, [.ref v, .int 0, .int ml1, .int 0]))) := by
  refine kC_of (by decide +kernel) (Nat.le_of_ble_eq_true rfl) ?_
  intro p e s m args below meth c sz ls hargs hsz hM hin hE hX hl
  have hx := hM.1
  have hb := hM.2.1
  have hl : lv_has ls 2 [(0, .ref b), (1, .int 0)] := hl
  refine lv_iload_n hx hb dJ5_setLength_d00df_0 rfl (lv_at hl 1 rfl) ?_
  refine lv_if_ge (tgt := 13) hx hb dJ5_setLength_d00df_1 (by decide) (fun _ => ?_) (fun c_1 => absurd (show ¬ (0 : Int32) ≤ 0 from c_1) (by decide))
  refine lv_aload_n hx hb dJ5_setLength_d00df_13 rfl (lv_at hl 0 rfl) ?_
  refine lv_iload_n hx hb dJ5_setLength_d00df_14 rfl (lv_at hl 1 rfl) ?_
  refine k_gou (k_UU (owner := "java/lang/AbstractStringBuilder") (n := 1) (As := [.int 0]) (rest := []) hM hE hX hl (c_J5_ensureCapacityInternal_d00df l γ L F b v k ml hbm hFb hvm g hFv hk 0 (by decide)) hbm hFb rfl k_693 k_1055 k_ens k_695 k_5 k_696 rfl ⟨by decide, by decide, by decide +kernel⟩ (by decide) rfl rfl (Nat.le_of_ble_eq_true rfl) dJ5_setLength_d00df_15 (by decide)) hE hX (fun L1 F1 H locs hp hX => ?_)
  obtain ⟨rfl, rfl⟩ := hp
  refine lv_aload_n hx hb dJ5_setLength_d00df_18 rfl (lv_at hl 0 rfl) ?_
  refine k_get hM hE hX hbm hFb rfl 3 (by decide) inSB k_86 (fun _ h => h) rfl dJ5_setLength_d00df_19 ?_
  refine lv_iload_n hx hb dJ5_setLength_d00df_22 rfl (lv_at hl 1 rfl) ?_
  refine lv_icmp_ge (tgt := 63) hx hb dJ5_setLength_d00df_23 (by decide) (fun _ => ?_) (fun c_2 => absurd c_2 (not_not_intro (nI_pos' (by omega))))
  refine lv_aload_n hx hb dJ5_setLength_d00df_63 rfl (lv_at hl 0 rfl) ?_
  refine k_get hM hE hX hbm hFb rfl 3 (by decide) inSB k_86 (fun _ h => h) rfl dJ5_setLength_d00df_64 ?_
  refine lv_iload_n hx hb dJ5_setLength_d00df_67 rfl (lv_at hl 1 rfl) ?_
  refine lv_icmp_le (tgt := 76) hx hb dJ5_setLength_d00df_68 (by decide) (fun c_3 => ?_) (fun c_3 => ?_)
  · refine lv_aload_n hx hb dJ5_setLength_d00df_76 rfl (lv_at hl 0 rfl) ?_
    refine lv_iload_n hx hb dJ5_setLength_d00df_77 rfl (lv_at hl 1 rfl) ?_
    refine k_put hM hE hX hbm hFb rfl 3 (by decide) inSB tyJ4 tyJ4_ok nmJ4 k_86 (fun _ h => h) (Or.inl rfl) rfl rfl (Nat.le_of_ble_eq_true rfl) dJ5_setLength_d00df_78 (fun H locs hX => ?_)
    obtain ⟨F1, hX, eF1⟩ : ∃ F9 : kF, kX γ _ s _ F9 H locs ∧ F9 = va_up F b (.inr (1, [.ref v, .int 0, .int ml, .int 0])) := ⟨_, hX, rfl⟩
    have f1_b : F1 b = .inr (1, [.ref v, .int 0, .int ml, .int 0]) := by rw [eF1]; exact va_up_self _ _ _
    have f1_v : F1 v = .inl (γ.2.1 0, 16, .inl g) := by rw [eF1, va_up_ne _ _ (fun h9 => by have h8 := hFv; rw [h9, hFb] at h8; cases h8)]; exact hFv
    exact k_vret hM hsz hX ⟨rfl, ml, rfl, eF1⟩ (by decide) (by decide) dJ5_setLength_d00df_81
  · refine lv_aload_n hx hb dJ5_setLength_d00df_71 rfl (lv_at hl 0 rfl) ?_
    refine lv_iconst (v := 1) hx hb dJ5_setLength_d00df_72 (by decide) ?_
    refine k_put hM hE hX hbm hFb rfl 2 (by decide) inSB tyJ4 tyJ4_ok nmJ4 k_84 (fun _ h => h) (Or.inl rfl) rfl rfl (Nat.le_of_ble_eq_true rfl) dJ5_setLength_d00df_73 (fun H locs hX => ?_)
    obtain ⟨F1, hX, eF1⟩ : ∃ F9 : kF, kX γ _ s _ F9 H locs ∧ F9 = va_up F b (.inr (1, [.ref v, .int 0, .int 1, .int (nI k)])) := ⟨_, hX, rfl⟩
    have f1_b : F1 b = .inr (1, [.ref v, .int 0, .int 1, .int (nI k)]) := by rw [eF1]; exact va_up_self _ _ _
    have f1_v : F1 v = .inl (γ.2.1 0, 16, .inl g) := by rw [eF1, va_up_ne _ _ (fun h9 => by have h8 := hFv; rw [h9, hFb] at h8; cases h8)]; exact hFv
    refine lv_aload_n hx hb dJ5_setLength_d00df_76 rfl (lv_at hl 0 rfl) ?_
    refine lv_iload_n hx hb dJ5_setLength_d00df_77 rfl (lv_at hl 1 rfl) ?_
    refine k_put hM hE hX hbm f1_b rfl 3 (by decide) inSB tyJ4 tyJ4_ok nmJ4 k_86 (fun _ h => h) (Or.inl rfl) rfl rfl (Nat.le_of_ble_eq_true rfl) dJ5_setLength_d00df_78 (fun H locs hX => ?_)
    obtain ⟨F2, hX, eF2⟩ : ∃ F9 : kF, kX γ _ s _ F9 H locs ∧ F9 = va_up F1 b (.inr (1, [.ref v, .int 0, .int 1, .int 0])) := ⟨_, hX, rfl⟩
    have f2_b : F2 b = .inr (1, [.ref v, .int 0, .int 1, .int 0]) := by rw [eF2]; exact va_up_self _ _ _
    have f2_v : F2 v = .inl (γ.2.1 0, 16, .inl g) := by rw [eF2, va_up_ne _ _ (fun h9 => by have h8 := f1_v; rw [h9, f1_b] at h8; cases h8)]; exact f1_v
    exact k_vret hM hsz hX ⟨rfl, 1, rfl, by rw [eF2, eF1, bx_uu]⟩ (by decide) (by decide) dJ5_setLength_d00df_81
set_option maxHeartbeats 4000000 in
set_option maxRecDepth 100000 in
theorem c_J4_setLength_d00df (l : Launch) (γ : kG) (L : List Nat) (F : kF) (b v k : Nat) (ml : Int32) (hbm : b ∈ L) (hFb : F b = .inr (1, [.ref v, .int 0, .int ml, .int (nI k)])) (hvm : v ∈ L) (g : Nat → Int32) (hFv : F v = .inl (γ.2.1 0, 16, .inl g)) (hk : k ≤ 16) : kC l yJ4_setLength_d00df cJ4_setLength_d00df 2 none (kRm 2 0 0) γ L F [.ref b, .int 0] (kU fun L1 F1 => ∃ ml1 : Int32, L1 = L ∧ F1 = va_up F b (.inr (1, [.ref v, .int 0, .int ml1, .int 0]))) := by
  refine kC_of (by decide +kernel) (Nat.le_of_ble_eq_true rfl) ?_
  intro p e s m args below meth c sz ls hargs hsz hM hin hE hX hl
  have hx := hM.1
  have hb := hM.2.1
  have hl : lv_has ls 2 [(0, .ref b), (1, .int 0)] := hl
  refine lv_aload_n hx hb dJ4_setLength_d00df_0 rfl (lv_at hl 0 rfl) ?_
  refine lv_iload_n hx hb dJ4_setLength_d00df_1 rfl (lv_at hl 1 rfl) ?_
  refine k_gou (k_SU (n := 1) (As := [.int 0]) (rest := []) hM hE hX hl (c_J5_setLength_d00df l γ L F b v k ml hbm hFb hvm g hFv hk) hbm hFb rfl k_799 k_1059 k_95 k_800 k_5 k_801 ⟨by decide, by decide +kernel⟩ (by decide) rfl rfl (Nat.le_of_ble_eq_true rfl) dJ4_setLength_d00df_2 (by decide)) hE hX (fun L1 F1 H locs hp hX => ?_)
  obtain ⟨ml1, rfl, eF⟩ := hp
  exact k_vret hM hsz hX ⟨rfl, ml1, rfl, eF⟩ (by decide) (by decide) dJ4_setLength_d00df_5
set_option maxHeartbeats 4000000 in
set_option maxRecDepth 100000 in
theorem c_J5_init_d00df (l : Launch) (γ : kG) (L : List Nat) (F : kF) (b : Nat) (hbm : b ∈ L) (hFb : F b = .inr (1, [.null, .int 0, .int 0, .int 0])) : kC l yJ5_init_d00df cJ5_init_d00df 2 none (kRm 0 1 16) γ L F [.ref b, .int 16] (kU fun L1 F1 => ∃ q : Nat, q ∉ L ∧ L1 = L ++ [q] ∧ F1 = va_up (va_up F q (.inl (γ.2.1 0, 16, .inl (fun _ => 0)))) b (.inr (1, [.ref q, .int 0, .int 0, .int 0]))) := by
  refine kC_of (by decide +kernel) (Nat.le_of_ble_eq_true rfl) ?_
  intro p e s m args below meth c sz ls hargs hsz hM hin hE hX hl
  have hx := hM.1
  have hb := hM.2.1
  have hl : lv_has ls 2 [(0, .ref b), (1, .int 16)] := hl
  refine lv_aload_n hx hb dJ5_init_d00df_0 rfl (lv_at hl 0 rfl) ?_
  refine k_obj hM hl k_72 dJ5_init_d00df_1 ⟨by decide, Nat.le_of_ble_eq_true rfl⟩ ?_
  refine k_gets hM hX hE.2.1.2.2.2.2.2.1 k_73 dJ5_init_d00df_4 ?_
  refine lv_if_eq (tgt := 25) hx hb dJ5_init_d00df_7 (by decide) (fun c_1 => absurd (show (1 : Int32) = 0 from c_1) (by decide)) (fun _ => ?_)
  refine lv_aload_n hx hb dJ5_init_d00df_10 rfl (lv_at hl 0 rfl) ?_
  refine lv_iload_n hx hb dJ5_init_d00df_11 rfl (lv_at hl 1 rfl) ?_
  refine k_newa (atype := .byte) (ty := .byte) (t0 := 0) (N' := 16) (a0 := (16, .inl (fun _ => 0))) hM hE hX rfl rfl kw_arr_byte (fun _ => rfl) (by decide) (by decide) (by decide) (by decide) (by decide) dJ5_init_d00df_12 (fun q H hq hX => ?_)
  obtain ⟨L1, F1, hX, eL1, eF1⟩ : ∃ (L9 : List Nat) (F9 : kF), kX γ _ s L9 F9 H _ ∧ L9 = L ++ [q] ∧ F9 = va_up F q (.inl (γ.2.1 0, 16, .inl (fun _ => 0))) := ⟨_, _, hX, rfl, rfl⟩
  have f1_b : F1 b = .inr (1, [.null, .int 0, .int 0, .int 0]) := by rw [eF1, va_up_ne _ _ (show b ≠ q from fun h9 => hq (h9 ▸ hbm))]; exact hFb
  have m1_b : b ∈ L1 := by rw [eL1]; exact List.mem_append_left _ hbm
  have f1_q : F1 q = .inl (γ.2.1 0, 16, .inl (fun _ => 0)) := by rw [eF1]; exact va_up_self _ _ _
  have m1_q : q ∈ L1 := by rw [eL1]; simp
  refine k_put hM hE hX m1_b f1_b rfl 0 (by decide) inSB tyJ4 tyJ4_ok nmJ4 k_82 (fun _ h => h) (Or.inr ⟨hin rfl, rfl⟩) rfl rfl (Nat.le_of_ble_eq_true rfl) dJ5_init_d00df_14 (fun H locs hX => ?_)
  obtain ⟨F2, hX, eF2⟩ : ∃ F9 : kF, kX γ _ s _ F9 H locs ∧ F9 = va_up F1 b (.inr (1, [.ref q, .int 0, .int 0, .int 0])) := ⟨_, hX, rfl⟩
  have f2_b : F2 b = .inr (1, [.ref q, .int 0, .int 0, .int 0]) := by rw [eF2]; exact va_up_self _ _ _
  have f2_q : F2 q = .inl (γ.2.1 0, 16, .inl (fun _ => 0)) := by rw [eF2, va_up_ne _ _ (fun h9 => by have h8 := f1_q; rw [h9, f1_b] at h8; cases h8)]; exact f1_q
  refine lv_aload_n hx hb dJ5_init_d00df_17 rfl (lv_at hl 0 rfl) ?_
  refine lv_iconst (v := 0) hx hb dJ5_init_d00df_18 (by decide) ?_
  refine k_put hM hE hX m1_b f2_b rfl 1 (by decide) inSB tyJ4 tyJ4_ok nmJ4 k_83 (fun _ h => h) (Or.inr ⟨hin rfl, rfl⟩) rfl rfl (Nat.le_of_ble_eq_true rfl) dJ5_init_d00df_19 (fun H locs hX => ?_)
  obtain ⟨F3, hX, eF3⟩ : ∃ F9 : kF, kX γ _ s _ F9 H locs ∧ F9 = va_up F2 b (.inr (1, [.ref q, .int 0, .int 0, .int 0])) := ⟨_, hX, rfl⟩
  have f3_b : F3 b = .inr (1, [.ref q, .int 0, .int 0, .int 0]) := by rw [eF3]; exact va_up_self _ _ _
  have f3_q : F3 q = .inl (γ.2.1 0, 16, .inl (fun _ => 0)) := by rw [eF3, va_up_ne _ _ (fun h9 => by have h8 := f2_q; rw [h9, f2_b] at h8; cases h8)]; exact f2_q
  refine lv_goto (tgt := 38) hx hb dJ5_init_d00df_22 (by decide) ?_
  exact k_vret hM hsz hX ⟨rfl, q, hq, eL1, by rw [eF3, eF2, eF1, bx_uu]⟩ (by decide) (by decide) dJ5_init_d00df_38
set_option maxHeartbeats 4000000 in
set_option maxRecDepth 100000 in
theorem c_J4_init_da8c8 (l : Launch) (γ : kG) (L : List Nat) (F : kF) (b : Nat) (hbm : b ∈ L) (hFb : F b = .inr (1, [.null, .int 0, .int 0, .int 0])) : kC l yJ4_init_da8c8 cJ4_init_da8c8 1 none (kRm 1 1 16) γ L F [.ref b] (kU fun L1 F1 => ∃ q : Nat, q ∉ L ∧ L1 = L ++ [q] ∧ F1 = va_up (va_up F q (.inl (γ.2.1 0, 16, .inl (fun _ => 0)))) b (.inr (1, [.ref q, .int 0, .int 0, .int 0]))) := by
  refine kC_of (by decide +kernel) (Nat.le_of_ble_eq_true rfl) ?_
  intro p e s m args below meth c sz ls hargs hsz hM hin hE hX hl
  have hx := hM.1
  have hb := hM.2.1
  have hl : lv_has ls 1 [(0, .ref b)] := hl
  refine lv_aload_n hx hb dJ4_init_da8c8_0 rfl (lv_at hl 0 rfl) ?_
  refine lv_bipush (v := 16) hx hb dJ4_init_da8c8_1 (by decide) ?_
  refine k_gou (k_I (n := 1) (As := [.int 16]) (rest := []) hM hE hX hl (c_J5_init_d00df l γ L F b hbm hFb) k_69 k_70 k_5 k_71 rfl ⟨by decide, by decide, by decide +kernel⟩ (by decide) rfl rfl (Nat.le_of_ble_eq_true rfl) dJ4_init_da8c8_3 (by decide)) hE hX (fun L1 F1 H locs hp hX => ?_)
  obtain ⟨q, hq, eL, eF⟩ := hp
  exact k_vret hM hsz hX ⟨rfl, q, hq, eL, eF⟩ (by decide) (by decide) dJ4_init_da8c8_6
