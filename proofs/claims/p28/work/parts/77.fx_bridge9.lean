set_option maxHeartbeats 4000000 in
set_option maxRecDepth 100000 in
theorem c_L_bridge (l : Launch) (hfl : l.stackTraces = false) (γ : kG) (F : kF) : kC l yL_bridge cL_bridge 1 (some .boolean) (kRm 12 9890 1299582) γ [] F [] (kI fun r L1 F1 => r = 1) := by
  refine kC_of (by decide +kernel) (Nat.le_of_ble_eq_true rfl) ?_
  intro p e s m args below meth c sz ls hargs hsz hM hin hE hX hl
  have hx := hM.1
  have hb := hM.2.1
  have hl : lv_has ls 1 [] := hl
  refine o_new hM hE hX hl (by decide) (by decide) (by decide) (by decide) dL_bridge_0 dL_bridge_3 dL_bridge_4 (fun o L F H locs hX hO => ?_)
  refine lv_astore_n (lv' := [(0, .ref o)]) hx hb dL_bridge_7 rfl hl (by decide) rfl (fun ls hl => ?_)
  have hO : Ob γ o (mk br_tb0) 0 L F := hO
  refine br_0 hfl hM hE hX hO hl (fun L F H locs ls hX hO hl => ?_)
  refine br_1 hfl hM hE hX hO hl (fun L F H locs ls hX hO hl => ?_)
  refine br_2 hfl hM hE hX hO hl (fun L F H locs ls hX hO hl => ?_)
  refine br_3 hfl hM hE hX hO hl (fun L F H locs ls hX hO hl => ?_)
  refine br_4 hfl hM hE hX hO hl (fun L F H locs ls hX hO hl => ?_)
  refine br_5 hfl hM hE hX hO hl (fun L F H locs ls hX hO hl => ?_)
  refine br_6 hfl hM hE hX hO hl (fun L F H locs ls hX hO hl => ?_)
  refine br_7 hfl hM hE hX hO hl (fun L F H locs ls hX hO hl => ?_)
  refine br_8 hfl hM hE hX hO hl (fun L F H locs ls hX hO hl => ?_)
  refine br_9 hfl hM hE hX hO hl (fun L F H locs ls hX hO hl => ?_)
  refine br_10 hfl hM hE hX hO hl (fun L F H locs ls hX hO hl => ?_)
  refine br_11 hfl hM hE hX hO hl (fun L F H locs ls hX hO hl => ?_)
  refine br_12 hfl hM hE hX hO hl (fun L F H locs ls hX hO hl => ?_)
  refine br_13 hfl hM hE hX hO hl (fun L F H locs ls hX hO hl => ?_)
  refine br_14 hfl hM hE hX hO hl (fun L F H locs ls hX hO hl => ?_)
  refine br_15 hfl hM hE hX hO hl (fun L F H locs ls hX hO hl => ?_)
  exact k_zret hM rfl hsz hX ⟨1, rfl, rfl⟩ (Nat.le_of_ble_eq_true rfl) (Nat.le_of_ble_eq_true rfl) dL_bridge_1401
