def iAd (r0 r1 r2 c9 b9 v9 : Nat) : cAd := fun c i _ => match c with
  | 5 => (match i with | 0 => r0 | 1 => r1 | _ => r2)
  | 7 => c9
  | 8 => b9
  | _ => v9
def iTg (o r0 r1 r2 c9 b9 v9 : Nat) : cTg := fun b => if b = o then (0, 0, 0) else if b = r0 then (5, 0, 0) else if b = r1 then (5, 1, 0) else if b = r2 then (5, 2, 0) else if b = c9 then (7, 0, 0) else if b = b9 then (8, 0, 0) else (9, 0, 0)
theorem RepC.nil {γ : kG} {L : List Nat} {F : kF} {o r0 r1 r2 c9 b9 v9 : Nat} {D : cD} (hn : [o, r0, r1, r2, c9, b9, v9].Nodup) (m0 : o ∈ L) (m1 : r0 ∈ L) (m2 : r1 ∈ L) (m3 : r2 ∈ L) (m4 : c9 ∈ L) (m5 : b9 ∈ L) (m6 : v9 ∈ L)
    (f0 : F o = .inr (9, [.ref r0, .ref r1, .ref r2, .ref c9, .ref b9, .int 0])) (f1 : F r0 = .inr (4, [.int 0, .ref γ.2.2, .int 0])) (f2 : F r1 = .inr (4, [.int 0, .ref γ.2.2, .int 0])) (f3 : F r2 = .inr (4, [.int 0, .ref γ.2.2, .int 0])) (f4 : F c9 = .inl (γ.2.1 1, 6, .inl (fun _ => 0))) (f5 : F b9 = .inr (1, [.ref v9, .int 0, .int 0, .int 0])) (f6 : F v9 = .inl (γ.2.1 0, 16, .inl (fun _ => 0))) :
    RepC γ L F o (iAd r0 r1 r2 c9 b9 v9) (iTg o r0 r1 r2 c9 b9 v9) (fun _ _ => 0) 0 D := by
  simp only [List.nodup_cons, List.mem_cons, List.not_mem_nil, or_false, not_or, not_false_eq_true, List.nodup_nil, and_true] at hn
  obtain ⟨⟨a1, a2, a3, a4, a5, a6⟩, ⟨b2, b3, b4, b5, b6⟩, ⟨c3, c4, c5, c6⟩, ⟨d4, d5, d6⟩, ⟨e5, e6⟩, f7⟩ := hn
  have t0 : iTg o r0 r1 r2 c9 b9 v9 o = (0, 0, 0) := if_pos rfl
  have t1 : iTg o r0 r1 r2 c9 b9 v9 r0 = (5, 0, 0) := (if_neg (Ne.symm a1)).trans (if_pos rfl)
  have t2 : iTg o r0 r1 r2 c9 b9 v9 r1 = (5, 1, 0) := (if_neg (Ne.symm a2)).trans ((if_neg (Ne.symm b2)).trans (if_pos rfl))
  have t3 : iTg o r0 r1 r2 c9 b9 v9 r2 = (5, 2, 0) := (if_neg (Ne.symm a3)).trans ((if_neg (Ne.symm b3)).trans ((if_neg (Ne.symm c3)).trans (if_pos rfl)))
  have t4 : iTg o r0 r1 r2 c9 b9 v9 c9 = (7, 0, 0) := (if_neg (Ne.symm a4)).trans ((if_neg (Ne.symm b4)).trans ((if_neg (Ne.symm c4)).trans ((if_neg (Ne.symm d4)).trans (if_pos rfl))))
  have t5 : iTg o r0 r1 r2 c9 b9 v9 b9 = (8, 0, 0) := (if_neg (Ne.symm a5)).trans ((if_neg (Ne.symm b5)).trans ((if_neg (Ne.symm c5)).trans ((if_neg (Ne.symm d5)).trans ((if_neg (Ne.symm e5)).trans (if_pos rfl)))))
  have t6 : iTg o r0 r1 r2 c9 b9 v9 v9 = (9, 0, 0) := (if_neg (Ne.symm a6)).trans ((if_neg (Ne.symm b6)).trans ((if_neg (Ne.symm c6)).trans ((if_neg (Ne.symm d6)).trans ((if_neg (Ne.symm e6)).trans (if_neg (Ne.symm f7))))))
  have z0 : nn (fun _ _ => 0) = 0 := rfl
  have z1 : cc (fun _ _ => 0) = 0 := rfl
  have mk : ∀ (a k : Nat) (g : Nat → Nat), a ∈ L → iTg o r0 r1 r2 c9 b9 v9 a = (5, k, 0) → F a = .inr (4, [.int 0, .ref γ.2.2, .int 0]) → Lst γ L F (iTg o r0 r1 r2 c9 b9 v9) a k 0 g := fun a k g h1 h2 h3 =>
    ⟨0, γ.2.2, fun _ => none, ⟨h1, h2, h3⟩, Or.inl ⟨rfl, rfl, rfl⟩, fun j hj => absurd hj (Nat.not_lt_zero j)⟩
  refine ⟨⟨m0, t0, f0⟩, fun i hi => absurd hi (by rw [z0]; exact Nat.not_lt_zero i), fun i hi => absurd hi (by rw [z0]; exact Nat.not_lt_zero i), fun k hk => absurd hk (by rw [z1]; exact Nat.not_lt_zero k), fun d hd => absurd hd (Nat.not_lt_zero d), ?_, ?_, mk r2 2 _ m3 t3 f3, fun i hi => absurd hi (by rw [z0]; exact Nat.not_lt_zero i), ⟨m4, t4, f4⟩, ⟨0, m5, t5, f5⟩, ⟨m6, t6, f6⟩⟩
  · rw [z0]; exact mk r0 0 _ m1 t1 f1
  · rw [z1]; exact mk r1 1 _ m2 t2 f2
theorem dSum0 (D : cD) (a : Int32) : dSum D a 0 = 0 := rfl
theorem Inv.nil (D : cD) : Inv (fun _ _ => 0) 0 D := by
  have z0 : nn (fun _ _ => 0) = 0 := rfl
  have z1 : cc (fun _ _ => 0) = 0 := rfl
  have z2 : dd (fun _ _ => 0) = 0 := rfl
  refine ⟨⟨rfl, by rw [z0]; decide⟩, fun i hi => absurd hi (by rw [z0]; exact Nat.not_lt_zero i), ⟨rfl, by rw [z1]; decide⟩, ⟨rfl, by rw [z2]; decide⟩, fun k hk => absurd hk (by rw [z1]; exact Nat.not_lt_zero k), fun i hi => absurd hi (by rw [z0]; exact Nat.not_lt_zero i), ⟨rfl, by decide⟩, fun i hi => absurd hi (by rw [z0]; exact Nat.not_lt_zero i), fun j hj => absurd hj (by rw [z2]; exact Nat.not_lt_zero j), fun _ _ => ⟨rfl, rfl, rfl, rfl⟩, fun _ _ _ _ => rfl, fun _ => Or.inl rfl, fun _ => Or.inl rfl, fun i hi => absurd hi (by rw [z0]; exact Nat.not_lt_zero i), fun _ _ => rfl⟩
set_option maxHeartbeats 4000000 in
set_option maxRecDepth 100000 in
theorem c_X4_init (l : Launch) (γ : kG) (L : List Nat) (F : kF) (o : Nat) (D : cD) (ho : o ∈ L) (hFo : F o = .inr (9, [.null, .null, .null, .null, .null, .int 0])) : kC l yX4_init cX4_init 1 none (kRm 3 10 100) γ L F [.ref o] (kU fun L1 F1 => o ∈ L1 ∧ ∃ (ad : cAd) (tg : cTg), RepC γ L1 F1 o ad tg (fun _ _ => 0) 0 D) := by
  refine kC_of (by decide +kernel) (Nat.le_of_ble_eq_true rfl) ?_
  intro p e s m args below meth c sz ls hargs hsz hM hin hE hX hl
  have hx := hM.1
  have hb := hM.2.1
  have hl : lv_has ls 1 [(0, .ref o)] := hl
  refine lv_aload_n hx hb dX4_init_0 rfl (lv_at hl 0 rfl) ?_
  refine k_obj hM hl k_35 dX4_init_1 ⟨by decide, Nat.le_of_ble_eq_true rfl⟩ ?_
  refine lv_aload_n hx hb dX4_init_4 rfl (lv_at hl 0 rfl) ?_
  refine k_new (ci := 4) (fs := [.int 0, .null, .int 0]) hM hE hX rfl inAL tyJx4a65c tyJx4a65c_ok k_38 k_39 k_4 dfJx4a65c (by decide) (by decide) dX4_init_5 (fun r0 H hr0 hX => ?_)
  have n_o_r0 : o ≠ r0 := fun h9 => hr0 (h9 ▸ ho)
  obtain ⟨L1, F1, hX, eL1, eF1⟩ : ∃ (L9 : List Nat) (F9 : kF), kX γ _ s L9 F9 H _ ∧ L9 = L ++ [r0] ∧ F9 = va_up F r0 (.inr (4, [.int 0, .null, .int 0])) := ⟨_, _, hX, rfl, rfl⟩
  have f1_o : F1 o = .inr (9, [.null, .null, .null, .null, .null, .int 0]) := by rw [eF1, va_up_ne _ _ (show o ≠ r0 from fun h9 => hr0 (h9 ▸ ho))]; exact hFo
  have m1_o : o ∈ L1 := by rw [eL1]; exact List.mem_append_left _ ho
  have f1_r0 : F1 r0 = .inr (4, [.int 0, .null, .int 0]) := by rw [eF1]; exact va_up_self _ _ _
  have m1_r0 : r0 ∈ L1 := by rw [eL1]; simp
  refine lv_dup hx hb dX4_init_8 rfl ?_
  refine k_gou (k_I (n := 0) (As := []) (rest := [.ref r0, .ref o]) hM hE hX hl (c_Jx4a65c_init_da8c8 l γ L1 F1 r0 m1_r0 f1_r0) k_40 k_41 k_4 k_42 rfl ⟨by decide, by decide, by decide +kernel⟩ (by decide) rfl rfl (Nat.le_of_ble_eq_true rfl) dX4_init_9 (by decide)) hE hX (fun L9 G0 H locs hp hX => ?_)
  obtain ⟨rfl, eG0⟩ := hp
  have gG0_o : G0 o = .inr (9, [.null, .null, .null, .null, .null, .int 0]) := by rw [eG0, va_up_ne _ _ n_o_r0]; exact f1_o
  have gG0_r0 : G0 r0 = .inr (4, [.int 0, .ref γ.2.2, .int 0]) := by rw [eG0]; exact va_up_self _ _ _
  refine k_put hM hE hX m1_o gG0_o rfl 0 (by decide) inX4 tyX4 tyX4_ok nmX4 k_98 (fun _ h => h) (Or.inr ⟨hin rfl, rfl⟩) rfl rfl (Nat.le_of_ble_eq_true rfl) dX4_init_12 (fun H locs hX => ?_)
  obtain ⟨F2, hX, eF2⟩ : ∃ Fz : kF, kX γ _ s _ Fz H locs ∧ Fz = va_up G0 o (.inr (9, [.ref r0, .null, .null, .null, .null, .int 0])) := ⟨_, hX, rfl⟩
  have f2_o : F2 o = .inr (9, [.ref r0, .null, .null, .null, .null, .int 0]) := by rw [eF2]; exact va_up_self _ _ _
  have f2_r0 : F2 r0 = .inr (4, [.int 0, .ref γ.2.2, .int 0]) := by rw [eF2, va_up_ne _ _ (Ne.symm n_o_r0)]; exact gG0_r0
  refine lv_aload_n hx hb dX4_init_15 rfl (lv_at hl 0 rfl) ?_
  refine k_new (ci := 4) (fs := [.int 0, .null, .int 0]) hM hE hX rfl inAL tyJx4a65c tyJx4a65c_ok k_38 k_39 k_4 dfJx4a65c (by decide) (by decide) dX4_init_16 (fun r1 H hr1 hX => ?_)
  have n_o_r1 : o ≠ r1 := fun h9 => hr1 (h9 ▸ m1_o)
  have n_r0_r1 : r0 ≠ r1 := fun h9 => hr1 (h9 ▸ m1_r0)
  obtain ⟨L3, F3, hX, eL3, eF3⟩ : ∃ (L9 : List Nat) (F9 : kF), kX γ _ s L9 F9 H _ ∧ L9 = L1 ++ [r1] ∧ F9 = va_up F2 r1 (.inr (4, [.int 0, .null, .int 0])) := ⟨_, _, hX, rfl, rfl⟩
  have f3_o : F3 o = .inr (9, [.ref r0, .null, .null, .null, .null, .int 0]) := by rw [eF3, va_up_ne _ _ (show o ≠ r1 from fun h9 => hr1 (h9 ▸ m1_o))]; exact f2_o
  have m3_o : o ∈ L3 := by rw [eL3]; exact List.mem_append_left _ m1_o
  have f3_r0 : F3 r0 = .inr (4, [.int 0, .ref γ.2.2, .int 0]) := by rw [eF3, va_up_ne _ _ (show r0 ≠ r1 from fun h9 => hr1 (h9 ▸ m1_r0))]; exact f2_r0
  have m3_r0 : r0 ∈ L3 := by rw [eL3]; exact List.mem_append_left _ m1_r0
  have f3_r1 : F3 r1 = .inr (4, [.int 0, .null, .int 0]) := by rw [eF3]; exact va_up_self _ _ _
  have m3_r1 : r1 ∈ L3 := by rw [eL3]; simp
  refine lv_dup hx hb dX4_init_19 rfl ?_
  refine k_gou (k_I (n := 0) (As := []) (rest := [.ref r1, .ref o]) hM hE hX hl (c_Jx4a65c_init_da8c8 l γ L3 F3 r1 m3_r1 f3_r1) k_40 k_41 k_4 k_42 rfl ⟨by decide, by decide, by decide +kernel⟩ (by decide) rfl rfl (Nat.le_of_ble_eq_true rfl) dX4_init_20 (by decide)) hE hX (fun L9 G1 H locs hp hX => ?_)
  obtain ⟨rfl, eG1⟩ := hp
  have gG1_o : G1 o = .inr (9, [.ref r0, .null, .null, .null, .null, .int 0]) := by rw [eG1, va_up_ne _ _ n_o_r1]; exact f3_o
  have gG1_r0 : G1 r0 = .inr (4, [.int 0, .ref γ.2.2, .int 0]) := by rw [eG1, va_up_ne _ _ n_r0_r1]; exact f3_r0
  have gG1_r1 : G1 r1 = .inr (4, [.int 0, .ref γ.2.2, .int 0]) := by rw [eG1]; exact va_up_self _ _ _
  refine k_put hM hE hX m3_o gG1_o rfl 1 (by decide) inX4 tyX4 tyX4_ok nmX4 k_99 (fun _ h => h) (Or.inr ⟨hin rfl, rfl⟩) rfl rfl (Nat.le_of_ble_eq_true rfl) dX4_init_23 (fun H locs hX => ?_)
  obtain ⟨F4, hX, eF4⟩ : ∃ Fz : kF, kX γ _ s _ Fz H locs ∧ Fz = va_up G1 o (.inr (9, [.ref r0, .ref r1, .null, .null, .null, .int 0])) := ⟨_, hX, rfl⟩
  have f4_o : F4 o = .inr (9, [.ref r0, .ref r1, .null, .null, .null, .int 0]) := by rw [eF4]; exact va_up_self _ _ _
  have f4_r0 : F4 r0 = .inr (4, [.int 0, .ref γ.2.2, .int 0]) := by rw [eF4, va_up_ne _ _ (Ne.symm n_o_r0)]; exact gG1_r0
  have f4_r1 : F4 r1 = .inr (4, [.int 0, .ref γ.2.2, .int 0]) := by rw [eF4, va_up_ne _ _ (Ne.symm n_o_r1)]; exact gG1_r1
  refine lv_aload_n hx hb dX4_init_26 rfl (lv_at hl 0 rfl) ?_
  refine k_new (ci := 4) (fs := [.int 0, .null, .int 0]) hM hE hX rfl inAL tyJx4a65c tyJx4a65c_ok k_38 k_39 k_4 dfJx4a65c (by decide) (by decide) dX4_init_27 (fun r2 H hr2 hX => ?_)
  have n_o_r2 : o ≠ r2 := fun h9 => hr2 (h9 ▸ m3_o)
  have n_r0_r2 : r0 ≠ r2 := fun h9 => hr2 (h9 ▸ m3_r0)
  have n_r1_r2 : r1 ≠ r2 := fun h9 => hr2 (h9 ▸ m3_r1)
  obtain ⟨L5, F5, hX, eL5, eF5⟩ : ∃ (L9 : List Nat) (F9 : kF), kX γ _ s L9 F9 H _ ∧ L9 = L3 ++ [r2] ∧ F9 = va_up F4 r2 (.inr (4, [.int 0, .null, .int 0])) := ⟨_, _, hX, rfl, rfl⟩
  have f5_o : F5 o = .inr (9, [.ref r0, .ref r1, .null, .null, .null, .int 0]) := by rw [eF5, va_up_ne _ _ (show o ≠ r2 from fun h9 => hr2 (h9 ▸ m3_o))]; exact f4_o
  have m5_o : o ∈ L5 := by rw [eL5]; exact List.mem_append_left _ m3_o
  have f5_r0 : F5 r0 = .inr (4, [.int 0, .ref γ.2.2, .int 0]) := by rw [eF5, va_up_ne _ _ (show r0 ≠ r2 from fun h9 => hr2 (h9 ▸ m3_r0))]; exact f4_r0
  have m5_r0 : r0 ∈ L5 := by rw [eL5]; exact List.mem_append_left _ m3_r0
  have f5_r1 : F5 r1 = .inr (4, [.int 0, .ref γ.2.2, .int 0]) := by rw [eF5, va_up_ne _ _ (show r1 ≠ r2 from fun h9 => hr2 (h9 ▸ m3_r1))]; exact f4_r1
  have m5_r1 : r1 ∈ L5 := by rw [eL5]; exact List.mem_append_left _ m3_r1
  have f5_r2 : F5 r2 = .inr (4, [.int 0, .null, .int 0]) := by rw [eF5]; exact va_up_self _ _ _
  have m5_r2 : r2 ∈ L5 := by rw [eL5]; simp
  refine lv_dup hx hb dX4_init_30 rfl ?_
  refine k_gou (k_I (n := 0) (As := []) (rest := [.ref r2, .ref o]) hM hE hX hl (c_Jx4a65c_init_da8c8 l γ L5 F5 r2 m5_r2 f5_r2) k_40 k_41 k_4 k_42 rfl ⟨by decide, by decide, by decide +kernel⟩ (by decide) rfl rfl (Nat.le_of_ble_eq_true rfl) dX4_init_31 (by decide)) hE hX (fun L9 G2 H locs hp hX => ?_)
  obtain ⟨rfl, eG2⟩ := hp
  have gG2_o : G2 o = .inr (9, [.ref r0, .ref r1, .null, .null, .null, .int 0]) := by rw [eG2, va_up_ne _ _ n_o_r2]; exact f5_o
  have gG2_r0 : G2 r0 = .inr (4, [.int 0, .ref γ.2.2, .int 0]) := by rw [eG2, va_up_ne _ _ n_r0_r2]; exact f5_r0
  have gG2_r1 : G2 r1 = .inr (4, [.int 0, .ref γ.2.2, .int 0]) := by rw [eG2, va_up_ne _ _ n_r1_r2]; exact f5_r1
  have gG2_r2 : G2 r2 = .inr (4, [.int 0, .ref γ.2.2, .int 0]) := by rw [eG2]; exact va_up_self _ _ _
  refine k_put hM hE hX m5_o gG2_o rfl 2 (by decide) inX4 tyX4 tyX4_ok nmX4 k_100 (fun _ h => h) (Or.inr ⟨hin rfl, rfl⟩) rfl rfl (Nat.le_of_ble_eq_true rfl) dX4_init_34 (fun H locs hX => ?_)
  obtain ⟨F6, hX, eF6⟩ : ∃ Fz : kF, kX γ _ s _ Fz H locs ∧ Fz = va_up G2 o (.inr (9, [.ref r0, .ref r1, .ref r2, .null, .null, .int 0])) := ⟨_, hX, rfl⟩
  have f6_o : F6 o = .inr (9, [.ref r0, .ref r1, .ref r2, .null, .null, .int 0]) := by rw [eF6]; exact va_up_self _ _ _
  have f6_r0 : F6 r0 = .inr (4, [.int 0, .ref γ.2.2, .int 0]) := by rw [eF6, va_up_ne _ _ (Ne.symm n_o_r0)]; exact gG2_r0
  have f6_r1 : F6 r1 = .inr (4, [.int 0, .ref γ.2.2, .int 0]) := by rw [eF6, va_up_ne _ _ (Ne.symm n_o_r1)]; exact gG2_r1
  have f6_r2 : F6 r2 = .inr (4, [.int 0, .ref γ.2.2, .int 0]) := by rw [eF6, va_up_ne _ _ (Ne.symm n_o_r2)]; exact gG2_r2
  refine lv_aload_n hx hb dX4_init_37 rfl (lv_at hl 0 rfl) ?_
  refine lv_bipush (v := 6) hx hb dX4_init_38 (by decide) ?_
  refine k_newa (atype := .int) (ty := .int) (t0 := 1) (N' := 6) (a0 := (6, .inl (fun _ => 0))) hM hE hX rfl rfl kw_arr_int (fun _ => rfl) (by decide) (by decide) (by decide) (by decide) (by decide) dX4_init_40 (fun c9 H hc9 hX => ?_)
  have n_o_c9 : o ≠ c9 := fun h9 => hc9 (h9 ▸ m5_o)
  have n_r0_c9 : r0 ≠ c9 := fun h9 => hc9 (h9 ▸ m5_r0)
  have n_r1_c9 : r1 ≠ c9 := fun h9 => hc9 (h9 ▸ m5_r1)
  have n_r2_c9 : r2 ≠ c9 := fun h9 => hc9 (h9 ▸ m5_r2)
  obtain ⟨L7, F7, hX, eL7, eF7⟩ : ∃ (L9 : List Nat) (F9 : kF), kX γ _ s L9 F9 H _ ∧ L9 = L5 ++ [c9] ∧ F9 = va_up F6 c9 (.inl (γ.2.1 1, 6, .inl (fun _ => 0))) := ⟨_, _, hX, rfl, rfl⟩
  have f7_o : F7 o = .inr (9, [.ref r0, .ref r1, .ref r2, .null, .null, .int 0]) := by rw [eF7, va_up_ne _ _ (show o ≠ c9 from fun h9 => hc9 (h9 ▸ m5_o))]; exact f6_o
  have m7_o : o ∈ L7 := by rw [eL7]; exact List.mem_append_left _ m5_o
  have f7_r0 : F7 r0 = .inr (4, [.int 0, .ref γ.2.2, .int 0]) := by rw [eF7, va_up_ne _ _ (show r0 ≠ c9 from fun h9 => hc9 (h9 ▸ m5_r0))]; exact f6_r0
  have m7_r0 : r0 ∈ L7 := by rw [eL7]; exact List.mem_append_left _ m5_r0
  have f7_r1 : F7 r1 = .inr (4, [.int 0, .ref γ.2.2, .int 0]) := by rw [eF7, va_up_ne _ _ (show r1 ≠ c9 from fun h9 => hc9 (h9 ▸ m5_r1))]; exact f6_r1
  have m7_r1 : r1 ∈ L7 := by rw [eL7]; exact List.mem_append_left _ m5_r1
  have f7_r2 : F7 r2 = .inr (4, [.int 0, .ref γ.2.2, .int 0]) := by rw [eF7, va_up_ne _ _ (show r2 ≠ c9 from fun h9 => hc9 (h9 ▸ m5_r2))]; exact f6_r2
  have m7_r2 : r2 ∈ L7 := by rw [eL7]; exact List.mem_append_left _ m5_r2
  have f7_c9 : F7 c9 = .inl (γ.2.1 1, 6, .inl (fun _ => 0)) := by rw [eF7]; exact va_up_self _ _ _
  have m7_c9 : c9 ∈ L7 := by rw [eL7]; simp
  refine k_put hM hE hX m7_o f7_o rfl 3 (by decide) inX4 tyX4 tyX4_ok nmX4 k_101 (fun _ h => h) (Or.inr ⟨hin rfl, rfl⟩) rfl rfl (Nat.le_of_ble_eq_true rfl) dX4_init_42 (fun H locs hX => ?_)
  obtain ⟨F8, hX, eF8⟩ : ∃ Fz : kF, kX γ _ s _ Fz H locs ∧ Fz = va_up F7 o (.inr (9, [.ref r0, .ref r1, .ref r2, .ref c9, .null, .int 0])) := ⟨_, hX, rfl⟩
  have f8_o : F8 o = .inr (9, [.ref r0, .ref r1, .ref r2, .ref c9, .null, .int 0]) := by rw [eF8]; exact va_up_self _ _ _
  have f8_r0 : F8 r0 = .inr (4, [.int 0, .ref γ.2.2, .int 0]) := by rw [eF8, va_up_ne _ _ (Ne.symm n_o_r0)]; exact f7_r0
  have f8_r1 : F8 r1 = .inr (4, [.int 0, .ref γ.2.2, .int 0]) := by rw [eF8, va_up_ne _ _ (Ne.symm n_o_r1)]; exact f7_r1
  have f8_r2 : F8 r2 = .inr (4, [.int 0, .ref γ.2.2, .int 0]) := by rw [eF8, va_up_ne _ _ (Ne.symm n_o_r2)]; exact f7_r2
  have f8_c9 : F8 c9 = .inl (γ.2.1 1, 6, .inl (fun _ => 0)) := by rw [eF8, va_up_ne _ _ (Ne.symm n_o_c9)]; exact f7_c9
  refine lv_aload_n hx hb dX4_init_45 rfl (lv_at hl 0 rfl) ?_
  refine k_new (ci := 1) (fs := [.null, .int 0, .int 0, .int 0]) hM hE hX rfl inSB tyJ4 tyJ4_ok k_64 k_65 k_6 dfJ4 (by decide) (by decide) dX4_init_46 (fun b9 H hb9 hX => ?_)
  have n_o_b9 : o ≠ b9 := fun h9 => hb9 (h9 ▸ m7_o)
  have n_r0_b9 : r0 ≠ b9 := fun h9 => hb9 (h9 ▸ m7_r0)
  have n_r1_b9 : r1 ≠ b9 := fun h9 => hb9 (h9 ▸ m7_r1)
  have n_r2_b9 : r2 ≠ b9 := fun h9 => hb9 (h9 ▸ m7_r2)
  have n_c9_b9 : c9 ≠ b9 := fun h9 => hb9 (h9 ▸ m7_c9)
  obtain ⟨L9, F9, hX, eL9, eF9⟩ : ∃ (L9 : List Nat) (F9 : kF), kX γ _ s L9 F9 H _ ∧ L9 = L7 ++ [b9] ∧ F9 = va_up F8 b9 (.inr (1, [.null, .int 0, .int 0, .int 0])) := ⟨_, _, hX, rfl, rfl⟩
  have f9_o : F9 o = .inr (9, [.ref r0, .ref r1, .ref r2, .ref c9, .null, .int 0]) := by rw [eF9, va_up_ne _ _ (show o ≠ b9 from fun h9 => hb9 (h9 ▸ m7_o))]; exact f8_o
  have m9_o : o ∈ L9 := by rw [eL9]; exact List.mem_append_left _ m7_o
  have f9_r0 : F9 r0 = .inr (4, [.int 0, .ref γ.2.2, .int 0]) := by rw [eF9, va_up_ne _ _ (show r0 ≠ b9 from fun h9 => hb9 (h9 ▸ m7_r0))]; exact f8_r0
  have m9_r0 : r0 ∈ L9 := by rw [eL9]; exact List.mem_append_left _ m7_r0
  have f9_r1 : F9 r1 = .inr (4, [.int 0, .ref γ.2.2, .int 0]) := by rw [eF9, va_up_ne _ _ (show r1 ≠ b9 from fun h9 => hb9 (h9 ▸ m7_r1))]; exact f8_r1
  have m9_r1 : r1 ∈ L9 := by rw [eL9]; exact List.mem_append_left _ m7_r1
  have f9_r2 : F9 r2 = .inr (4, [.int 0, .ref γ.2.2, .int 0]) := by rw [eF9, va_up_ne _ _ (show r2 ≠ b9 from fun h9 => hb9 (h9 ▸ m7_r2))]; exact f8_r2
  have m9_r2 : r2 ∈ L9 := by rw [eL9]; exact List.mem_append_left _ m7_r2
  have f9_c9 : F9 c9 = .inl (γ.2.1 1, 6, .inl (fun _ => 0)) := by rw [eF9, va_up_ne _ _ (show c9 ≠ b9 from fun h9 => hb9 (h9 ▸ m7_c9))]; exact f8_c9
  have m9_c9 : c9 ∈ L9 := by rw [eL9]; exact List.mem_append_left _ m7_c9
  have f9_b9 : F9 b9 = .inr (1, [.null, .int 0, .int 0, .int 0]) := by rw [eF9]; exact va_up_self _ _ _
  have m9_b9 : b9 ∈ L9 := by rw [eL9]; simp
  refine lv_dup hx hb dX4_init_49 rfl ?_
  refine k_gou (k_I (n := 0) (As := []) (rest := [.ref b9, .ref o]) hM hE hX hl (c_J4_init_da8c8 l γ L9 F9 b9 m9_b9 f9_b9) k_66 k_67 k_6 k_68 rfl ⟨by decide, by decide, by decide +kernel⟩ (by decide) rfl rfl (Nat.le_of_ble_eq_true rfl) dX4_init_50 (by decide)) hE hX (fun Lv Gv H locs hp hX => ?_)
  obtain ⟨v9, hv9, eLv, eFv⟩ := hp
  have n_o_v9 : o ≠ v9 := fun h9 => hv9 (h9 ▸ m9_o)
  have n_r0_v9 : r0 ≠ v9 := fun h9 => hv9 (h9 ▸ m9_r0)
  have n_r1_v9 : r1 ≠ v9 := fun h9 => hv9 (h9 ▸ m9_r1)
  have n_r2_v9 : r2 ≠ v9 := fun h9 => hv9 (h9 ▸ m9_r2)
  have n_c9_v9 : c9 ≠ v9 := fun h9 => hv9 (h9 ▸ m9_c9)
  have n_b9_v9 : b9 ≠ v9 := fun h9 => hv9 (h9 ▸ m9_b9)
  obtain ⟨Gm, eGm⟩ : ∃ Gm : kF, Gm = va_up F9 v9 (.inl (γ.2.1 0, 16, .inl (fun _ => 0))) := ⟨_, rfl⟩
  rw [← eGm] at eFv
  have gm_o : Gm o = .inr (9, [.ref r0, .ref r1, .ref r2, .ref c9, .null, .int 0]) := by rw [eGm, va_up_ne _ _ n_o_v9]; exact f9_o
  have mv_o : o ∈ Lv := by rw [eLv]; exact List.mem_append_left _ m9_o
  have gm_r0 : Gm r0 = .inr (4, [.int 0, .ref γ.2.2, .int 0]) := by rw [eGm, va_up_ne _ _ n_r0_v9]; exact f9_r0
  have mv_r0 : r0 ∈ Lv := by rw [eLv]; exact List.mem_append_left _ m9_r0
  have gm_r1 : Gm r1 = .inr (4, [.int 0, .ref γ.2.2, .int 0]) := by rw [eGm, va_up_ne _ _ n_r1_v9]; exact f9_r1
  have mv_r1 : r1 ∈ Lv := by rw [eLv]; exact List.mem_append_left _ m9_r1
  have gm_r2 : Gm r2 = .inr (4, [.int 0, .ref γ.2.2, .int 0]) := by rw [eGm, va_up_ne _ _ n_r2_v9]; exact f9_r2
  have mv_r2 : r2 ∈ Lv := by rw [eLv]; exact List.mem_append_left _ m9_r2
  have gm_c9 : Gm c9 = .inl (γ.2.1 1, 6, .inl (fun _ => 0)) := by rw [eGm, va_up_ne _ _ n_c9_v9]; exact f9_c9
  have mv_c9 : c9 ∈ Lv := by rw [eLv]; exact List.mem_append_left _ m9_c9
  have gm_b9 : Gm b9 = .inr (1, [.null, .int 0, .int 0, .int 0]) := by rw [eGm, va_up_ne _ _ n_b9_v9]; exact f9_b9
  have mv_b9 : b9 ∈ Lv := by rw [eLv]; exact List.mem_append_left _ m9_b9
  have gm_v9 : Gm v9 = .inl (γ.2.1 0, 16, .inl (fun _ => 0)) := by rw [eGm]; exact va_up_self _ _ _
  have mv_v9 : v9 ∈ Lv := by rw [eLv]; simp
  have gGv_o : Gv o = .inr (9, [.ref r0, .ref r1, .ref r2, .ref c9, .null, .int 0]) := by rw [eFv, va_up_ne _ _ n_o_b9]; exact gm_o
  have gGv_r0 : Gv r0 = .inr (4, [.int 0, .ref γ.2.2, .int 0]) := by rw [eFv, va_up_ne _ _ n_r0_b9]; exact gm_r0
  have gGv_r1 : Gv r1 = .inr (4, [.int 0, .ref γ.2.2, .int 0]) := by rw [eFv, va_up_ne _ _ n_r1_b9]; exact gm_r1
  have gGv_r2 : Gv r2 = .inr (4, [.int 0, .ref γ.2.2, .int 0]) := by rw [eFv, va_up_ne _ _ n_r2_b9]; exact gm_r2
  have gGv_c9 : Gv c9 = .inl (γ.2.1 1, 6, .inl (fun _ => 0)) := by rw [eFv, va_up_ne _ _ n_c9_b9]; exact gm_c9
  have gGv_b9 : Gv b9 = .inr (1, [.ref v9, .int 0, .int 0, .int 0]) := by rw [eFv]; exact va_up_self _ _ _
  have gGv_v9 : Gv v9 = .inl (γ.2.1 0, 16, .inl (fun _ => 0)) := by rw [eFv, va_up_ne _ _ (Ne.symm n_b9_v9)]; exact gm_v9
  refine k_put hM hE hX mv_o gGv_o rfl 4 (by decide) inX4 tyX4 tyX4_ok nmX4 k_102 (fun _ h => h) (Or.inr ⟨hin rfl, rfl⟩) rfl rfl (Nat.le_of_ble_eq_true rfl) dX4_init_53 (fun H locs hX => ?_)
  obtain ⟨F10, hX, eF10⟩ : ∃ Fz : kF, kX γ _ s _ Fz H locs ∧ Fz = va_up Gv o (.inr (9, [.ref r0, .ref r1, .ref r2, .ref c9, .ref b9, .int 0])) := ⟨_, hX, rfl⟩
  have f10_o : F10 o = .inr (9, [.ref r0, .ref r1, .ref r2, .ref c9, .ref b9, .int 0]) := by rw [eF10]; exact va_up_self _ _ _
  have f10_r0 : F10 r0 = .inr (4, [.int 0, .ref γ.2.2, .int 0]) := by rw [eF10, va_up_ne _ _ (Ne.symm n_o_r0)]; exact gGv_r0
  have f10_r1 : F10 r1 = .inr (4, [.int 0, .ref γ.2.2, .int 0]) := by rw [eF10, va_up_ne _ _ (Ne.symm n_o_r1)]; exact gGv_r1
  have f10_r2 : F10 r2 = .inr (4, [.int 0, .ref γ.2.2, .int 0]) := by rw [eF10, va_up_ne _ _ (Ne.symm n_o_r2)]; exact gGv_r2
  have f10_c9 : F10 c9 = .inl (γ.2.1 1, 6, .inl (fun _ => 0)) := by rw [eF10, va_up_ne _ _ (Ne.symm n_o_c9)]; exact gGv_c9
  have f10_b9 : F10 b9 = .inr (1, [.ref v9, .int 0, .int 0, .int 0]) := by rw [eF10, va_up_ne _ _ (Ne.symm n_o_b9)]; exact gGv_b9
  have f10_v9 : F10 v9 = .inl (γ.2.1 0, 16, .inl (fun _ => 0)) := by rw [eF10, va_up_ne _ _ (Ne.symm n_o_v9)]; exact gGv_v9
  refine lv_aload_n hx hb dX4_init_56 rfl (lv_at hl 0 rfl) ?_
  refine lv_iconst (v := 0) hx hb dX4_init_57 (by decide) ?_
  refine k_put hM hE hX mv_o f10_o rfl 5 (by decide) inX4 tyX4 tyX4_ok nmX4 k_103 (fun _ h => h) (Or.inr ⟨hin rfl, rfl⟩) rfl rfl (Nat.le_of_ble_eq_true rfl) dX4_init_58 (fun H locs hX => ?_)
  obtain ⟨F11, hX, eF11⟩ : ∃ Fz : kF, kX γ _ s _ Fz H locs ∧ Fz = va_up F10 o (.inr (9, [.ref r0, .ref r1, .ref r2, .ref c9, .ref b9, .int 0])) := ⟨_, hX, rfl⟩
  have f11_o : F11 o = .inr (9, [.ref r0, .ref r1, .ref r2, .ref c9, .ref b9, .int 0]) := by rw [eF11]; exact va_up_self _ _ _
  have f11_r0 : F11 r0 = .inr (4, [.int 0, .ref γ.2.2, .int 0]) := by rw [eF11, va_up_ne _ _ (Ne.symm n_o_r0)]; exact f10_r0
  have f11_r1 : F11 r1 = .inr (4, [.int 0, .ref γ.2.2, .int 0]) := by rw [eF11, va_up_ne _ _ (Ne.symm n_o_r1)]; exact f10_r1
  have f11_r2 : F11 r2 = .inr (4, [.int 0, .ref γ.2.2, .int 0]) := by rw [eF11, va_up_ne _ _ (Ne.symm n_o_r2)]; exact f10_r2
  have f11_c9 : F11 c9 = .inl (γ.2.1 1, 6, .inl (fun _ => 0)) := by rw [eF11, va_up_ne _ _ (Ne.symm n_o_c9)]; exact f10_c9
  have f11_b9 : F11 b9 = .inr (1, [.ref v9, .int 0, .int 0, .int 0]) := by rw [eF11, va_up_ne _ _ (Ne.symm n_o_b9)]; exact f10_b9
  have f11_v9 : F11 v9 = .inl (γ.2.1 0, 16, .inl (fun _ => 0)) := by rw [eF11, va_up_ne _ _ (Ne.symm n_o_v9)]; exact f10_v9
  have hnd : [o, r0, r1, r2, c9, b9, v9].Nodup := by simp only [List.nodup_cons, List.mem_cons, List.not_mem_nil, or_false, not_or, not_false_eq_true, List.nodup_nil, and_true]; exact ⟨⟨n_o_r0, n_o_r1, n_o_r2, n_o_c9, n_o_b9, n_o_v9⟩, ⟨n_r0_r1, n_r0_r2, n_r0_c9, n_r0_b9, n_r0_v9⟩, ⟨n_r1_r2, n_r1_c9, n_r1_b9, n_r1_v9⟩, ⟨n_r2_c9, n_r2_b9, n_r2_v9⟩, ⟨n_c9_b9, n_c9_v9⟩, n_b9_v9⟩
  exact k_vret hM hsz hX ⟨rfl, mv_o, _, _, RepC.nil hnd mv_o mv_r0 mv_r1 mv_r2 mv_c9 mv_b9 mv_v9 f11_o f11_r0 f11_r1 f11_r2 f11_c9 f11_b9 f11_v9⟩ (by decide) (by decide) dX4_init_61
