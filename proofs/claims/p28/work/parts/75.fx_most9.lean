set_option maxHeartbeats 4000000 in
set_option maxRecDepth 100000 in
theorem c_L_most (l : Launch) (hfl : l.stackTraces = false) (γ : kG) (F : kF) : kC l yL_most cL_most 2 (some .boolean) (kRm 11 2357 330422) γ [] F [] (kI fun r L1 F1 => r = 1) := by
  refine kC_of (by decide +kernel) (Nat.le_of_ble_eq_true rfl) ?_
  intro p e s m args below meth c sz ls hargs hsz hM hin hE hX hl
  have hx := hM.1
  have hb := hM.2.1
  have hl : lv_has ls 2 [] := hl
  refine o_new hM hE hX hl (by decide) (by decide) (by decide) (by decide) dL_most_0 dL_most_3 dL_most_4 (fun o L F H locs hX hO => ?_)
  refine lv_astore_n (lv' := [(0, .ref o)]) hx hb dL_most_7 rfl hl (by decide) rfl (fun ls hl => ?_)
  have hO : Ob γ o (mk mo_tb0) 0 L F := hO
  refine mo_0 hfl hM hE hX hO hl (fun L F H locs ls hX hO hl => ?_)
  refine mo_1 hfl hM hE hX hO hl (fun L F H locs ls hX hO hl => ?_)
  refine mo_2 hfl hM hE hX hO hl (fun L F H locs ls hX hO hl => ?_)
  refine mo_3 hfl hM hE hX hO hl (fun L F H locs ls hX hO hl => ?_)
  refine mo_4 hfl hM hE hX hO hl (fun L F H locs ls hX hO hl => ?_)
  refine mo_5 hfl hM hE hX hO hl (fun L F H locs ls hX hO hl => ?_)
  refine mo_6 hfl hM hE hX hO hl (fun L F H locs ls hX hO hl => ?_)
  refine mo_7 hfl hM hE hX hO hl (fun L F H locs ls hX hO hl => ?_)
  refine mo_8 hfl hM hE hX hO hl (fun L F H locs ls hX hO hl => ?_)
  refine mo_9 hfl hM hE hX hO hl (fun L F H locs ls hX hO hl => ?_)
  refine mo_10 hfl hM hE hX hO hl (fun L F H locs ls hX hO hl => ?_)
  refine mo_11 hfl hM hE hX hO hl (fun L F H locs ls hX hO hl => ?_)
  refine mo_12 hfl hM hE hX hO hl (fun L F H locs ls hX hO hl => ?_)
  refine mo_13 hfl hM hE hX hO hl (fun L F H locs ls hX hO hl => ?_)
  refine mo_14 hfl hM hE hX hO hl (fun L F H locs ls hX hO hl => ?_)
  refine mo_15 hfl hM hE hX hO hl (fun L F H locs ls hX hO hl => ?_)
  refine mo_16 hfl hM hE hX hO hl (fun L F H locs ls hX hO hl => ?_)
  refine mo_17 hfl hM hE hX hO hl (fun L F H locs ls hX hO hl => ?_)
  refine mo_18 hfl hM hE hX hO hl (fun L F H locs ls hX hO hl => ?_)
  refine mo_19 hfl hM hE hX hO hl (fun L F H locs ls hX hO hl => ?_)
  refine mo_20 hfl hM hE hX hO hl (fun L F H locs ls hX hO hl => ?_)
  refine mo_21 hfl hM hE hX hO hl (fun L F H locs ls hX hO hl => ?_)
  refine mo_22 hfl hM hE hX hO hl (fun L F H locs ls hX hO hl => ?_)
  exact k_zret hM rfl hsz hX ⟨1, rfl, rfl⟩ (Nat.le_of_ble_eq_true rfl) (Nat.le_of_ble_eq_true rfl) dL_most_417
