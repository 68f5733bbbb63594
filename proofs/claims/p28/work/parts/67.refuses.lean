theorem rf_j {M : mM} {A B : Prop} (h1 : M 2 0 = 0 → A → B) (h2 : ¬ M 2 0 = 0 → A → B) (a : A) : B := (Decidable.em (M 2 0 = 0)).elim (fun h => h1 h a) (fun h => h2 h a)
set_option maxHeartbeats 4000000 in
set_option maxRecDepth 100000 in
theorem c_L_refuses (l : Launch) (hfl : l.stackTraces = false) (γ : kG) (L : List Nat) (F : kF) (o n : Nat) (M : mM) (hO : Ob γ o M n L F) (hn : n < 512) : kC l yL_refuses cL_refuses 15 (some .boolean) (kRm 10 1242 169940) γ L F [.ref o, .int (M 2 0)] (kI fun r L1 F1 => r = 1 ∧ Ob γ o M n L1 F1) := by
  refine kC_of (by decide +kernel) (Nat.le_of_ble_eq_true rfl) ?_
  intro p e s m args below meth c sz ls hargs hsz hM hin hE hX hl
  have hx := hM.1
  have hb := hM.2.1
  have hl : lv_has ls 15 [(0, .ref o), (1, .int (M 2 0))] := hl
  refine rf_s hfl hM hE hX hO hn hl (fun L F H locs ls hX hO hl => ?_)
  refine rf_0_1 hfl hM hE hX hO hn hl (fun L F H locs ls hX hO hl => ?_)
  refine rf_0_2 hfl hM hE hX hO hn hl (fun L F H locs ls hX hO hl => ?_)
  refine rf_j (M := M) (fun hi0 kk => rf_0_4 hfl hM hE hX hO hn hi0 hl kk) (fun hi0 kk => rf_0_3 hfl hM hE hX hO hn hi0 hl kk) (fun L F H locs ls hX hO hl => ?_)
  refine rf_1_1 hfl hM hE hX hO hn (lv_sub hl [0, 8, 9, 10, 11, 12, 13, 14] rfl) (fun L F H locs ls hX hO hl => ?_)
  refine rf_1_2 hfl hM hE hX hO hn hl (fun L F H locs ls hX hO hl => ?_)
  refine rf_j (M := M) (fun hi0 kk => rf_1_4 hfl hM hE hX hO hn hi0 hl kk) (fun hi0 kk => rf_1_3 hfl hM hE hX hO hn hi0 hl kk) (fun L F H locs ls hX hO hl => ?_)
  refine rf_2_1 hfl hM hE hX hO hn (lv_sub hl [0, 8, 9, 10, 11, 12, 13, 14] rfl) (fun L F H locs ls hX hO hl => ?_)
  refine rf_2_2 hfl hM hE hX hO hn hl (fun L F H locs ls hX hO hl => ?_)
  refine rf_j (M := M) (fun hi0 kk => rf_2_4 hfl hM hE hX hO hn hi0 hl kk) (fun hi0 kk => rf_2_3 hfl hM hE hX hO hn hi0 hl kk) (fun L F H locs ls hX hO hl => ?_)
  refine rf_3_1 hfl hM hE hX hO hn (lv_sub hl [0, 8, 9, 10, 11, 12, 13, 14] rfl) (fun L F H locs ls hX hO hl => ?_)
  refine rf_3_2 hfl hM hE hX hO hn hl (fun L F H locs ls hX hO hl => ?_)
  refine rf_j (M := M) (fun hi0 kk => rf_3_4 hfl hM hE hX hO hn hi0 hl kk) (fun hi0 kk => rf_3_3 hfl hM hE hX hO hn hi0 hl kk) (fun L F H locs ls hX hO hl => ?_)
  refine rf_e hfl hM hE hX hO hn (lv_sub hl [0, 8, 9, 10, 11, 12, 13, 14] rfl) (fun L F H locs ls hX hO hl => ?_)
  refine lv_iconst (v := 1) hx hb dL_refuses_1252 (by decide) ?_
  refine lv_goto (tgt := 1257) hx hb dL_refuses_1253 (by decide) ?_
  exact k_zret hM rfl hsz hX ⟨1, rfl, rfl, hO⟩ (Nat.le_of_ble_eq_true rfl) (Nat.le_of_ble_eq_true rfl) dL_refuses_1257
