/-! act: a method by its number; what it throws is told as a number -/
set_option maxHeartbeats 4000000 in
set_option maxRecDepth 100000 in
theorem c_act_0 (l : Launch) (hfl : l.stackTraces = false) (γ : kG) (L : List Nat) (F : kF) (o n : Nat) (M : mM) (hO : Ob γ o M n L F) (a1 b1 c1 d1 e1 : Int32) : kCW l yL_act cL_act 8 (some .int) [(0, 344, 345, 81), (0, 344, 350, 84), (0, 344, 355, 87)] (kRm 8 20 3000) γ L F [.ref o, .int 0, .int a1, .int b1, .int c1, .int d1, .int e1] (kI fun r L1 F1 => Ac γ o n M (sendM M a1 b1 c1 d1 e1) [(1, -7000001), (2, -7000002), (3, -7000003)] r L1 F1) := by
  refine kCW_of (by decide +kernel) (Nat.le_of_ble_eq_true rfl) ?_
  intro p e s m args below meth c sz ls hargs hsz hM htab hE hX hl
  have hx := hM.1
  have hb := hM.2.1
  have hl : lv_has ls 8 [(0, .ref o), (1, .int 0), (2, .int a1), (3, .int b1), (4, .int c1), (5, .int d1), (6, .int e1)] := hl
  obtain ⟨ad, tg, nd, D, hRc, hI, hnd, hz⟩ := hO
  refine lv_iload_n hx hb dL_act_0 rfl (lv_at hl 1 rfl) ?_
  refine lv_if_ne (tgt := 19) hx hb dL_act_1 (by decide) (fun h9 => absurd rfl h9) (fun _ => ?_)
  refine lv_aload_n hx hb dL_act_4 rfl (lv_at hl 0 rfl) ?_
  refine lv_iload_n hx hb dL_act_5 rfl (lv_at hl 2 rfl) ?_
  refine lv_iload_n hx hb dL_act_6 rfl (lv_at hl 3 rfl) ?_
  refine lv_iload hx hb dL_act_7 (lv_at hl 4 rfl) ?_
  refine lv_iload hx hb dL_act_9 (lv_at hl 5 rfl) ?_
  refine lv_iload hx hb dL_act_11 (lv_at hl 6 rfl) ?_
  refine o_gox (x_V (n := 5) (As := [.int a1, .int b1, .int c1, .int d1, .int e1]) (rest := []) hM hE hX hl (c_X4_send l hfl γ L F o ad tg M nd D hRc hI a1 b1 c1 d1 e1) hRc.1.1 hRc.1.2.2 rfl k_496 k_497 k_498 k_1 k_499 ⟨rfl, by decide, by decide, by decide +kernel⟩ (by decide) rfl rfl (Nat.le_of_ble_eq_true rfl) dL_act_13 (by decide)) hE hX (fun v L1 F1 H1 locs1 hv hX1 => ?_) (fun E ce q9 H1 locs1 hno hX1 hce hcv hcl => ?_)
  · obtain ⟨r, rfl, hp⟩ := hv
    refine lv_goto (tgt := 344) hx hb dL_act_16 (by decide) ?_
    exact k_iret hM hsz hX1 ⟨_, rfl, Ac.wr hnd hp⟩ (by decide) (by decide) dL_act_344
  · rcases hno with ⟨rfl, ht⟩ | ⟨rfl, ht⟩ | ⟨rfl, ht⟩
    · refine x_h1 hM htab (by decide) (by decide) k_493 hE.2.1.2.2.2.2.2.2.2.2.2.2.1.1 hce hcv hcl ?_
      refine lv_astore (lv' := [(7, .ref q9), (0, .ref o), (1, .int 0), (2, .int a1), (3, .int b1), (4, .int c1), (5, .int d1), (6, .int e1)]) hx hb dL_act_345 hl (by decide) rfl (fun ls hl => ?_)
      refine lv_ldc hx hb hM.2.2.2.1 (hM.2.2.2.2.1 _ k_988) dL_act_347 ?_
      exact k_iret hM hsz hX1 ⟨_, rfl, Ac.no (q := (1, -7000001)) hRc hI hnd hz ht (by simp)⟩ (by decide) (by decide) dL_act_349
    · refine x_h2 hM htab (by decide) k_493 hE.2.1.2.2.2.2.2.2.2.2.2.2.2.1.1 (by decide) (by decide) k_494 hE.2.1.2.2.2.2.2.2.2.2.2.2.1.2.1 hce hcv hcl ?_
      refine lv_astore (lv' := [(7, .ref q9), (0, .ref o), (1, .int 0), (2, .int a1), (3, .int b1), (4, .int c1), (5, .int d1), (6, .int e1)]) hx hb dL_act_350 hl (by decide) rfl (fun ls hl => ?_)
      refine lv_ldc hx hb hM.2.2.2.1 (hM.2.2.2.2.1 _ k_989) dL_act_352 ?_
      exact k_iret hM hsz hX1 ⟨_, rfl, Ac.no (q := (2, -7000002)) hRc hI hnd hz ht (by simp)⟩ (by decide) (by decide) dL_act_354
    · refine x_h3 hM htab (by decide) k_493 hE.2.1.2.2.2.2.2.2.2.2.2.2.2.1.2.1 (by decide) k_494 hE.2.1.2.2.2.2.2.2.2.2.2.2.2.1.2.2 (by decide) (by decide) k_495 hE.2.1.2.2.2.2.2.2.2.2.2.2.1.2.2 hce hcv hcl ?_
      refine lv_astore (lv' := [(7, .ref q9), (0, .ref o), (1, .int 0), (2, .int a1), (3, .int b1), (4, .int c1), (5, .int d1), (6, .int e1)]) hx hb dL_act_355 hl (by decide) rfl (fun ls hl => ?_)
      refine lv_ldc hx hb hM.2.2.2.1 (hM.2.2.2.2.1 _ k_990) dL_act_357 ?_
      exact k_iret hM hsz hX1 ⟨_, rfl, Ac.no (q := (3, -7000003)) hRc hI hnd hz ht (by simp)⟩ (by decide) (by decide) dL_act_359
set_option maxHeartbeats 4000000 in
set_option maxRecDepth 100000 in
theorem c_act_1 (l : Launch) (hfl : l.stackTraces = false) (γ : kG) (L : List Nat) (F : kF) (o n : Nat) (M : mM) (hO : Ob γ o M n L F) (a1 b1 c1 d1 e1 : Int32) : kCW l yL_act cL_act 8 (some .int) [(0, 344, 345, 81), (0, 344, 350, 84), (0, 344, 355, 87)] (kRm 8 7 1100) γ L F [.ref o, .int 1, .int a1, .int b1, .int c1, .int d1, .int e1] (kI fun r L1 F1 => Ac γ o n M (addLineM M a1 b1 c1) [(1, -7000001), (2, -7000002), (3, -7000003)] r L1 F1) := by
  refine kCW_of (by decide +kernel) (Nat.le_of_ble_eq_true rfl) ?_
  intro p e s m args below meth c sz ls hargs hsz hM htab hE hX hl
  have hx := hM.1
  have hb := hM.2.1
  have hl : lv_has ls 8 [(0, .ref o), (1, .int 1), (2, .int a1), (3, .int b1), (4, .int c1), (5, .int d1), (6, .int e1)] := hl
  obtain ⟨ad, tg, nd, D, hRc, hI, hnd, hz⟩ := hO
  refine lv_iload_n hx hb dL_act_0 rfl (lv_at hl 1 rfl) ?_
  refine lv_if_ne (tgt := 19) hx hb dL_act_1 (by decide) (fun _ => ?_) (fun h9 => absurd (show (1 : Int32) = 0 from h9) (by decide))
  refine lv_iload_n hx hb dL_act_19 rfl (lv_at hl 1 rfl) ?_
  refine lv_iconst (v := 1) hx hb dL_act_20 (by decide) ?_
  refine lv_icmp_ne (tgt := 35) hx hb dL_act_21 (by decide) (fun h9 => absurd rfl h9) (fun _ => ?_)
  refine lv_aload_n hx hb dL_act_24 rfl (lv_at hl 0 rfl) ?_
  refine lv_iload_n hx hb dL_act_25 rfl (lv_at hl 2 rfl) ?_
  refine lv_iload_n hx hb dL_act_26 rfl (lv_at hl 3 rfl) ?_
  refine lv_iload hx hb dL_act_27 (lv_at hl 4 rfl) ?_
  refine o_gox (x_V (n := 3) (As := [.int a1, .int b1, .int c1]) (rest := []) hM hE hX hl (c_X4_addLine l hfl γ L F o ad tg M nd D hRc hI a1 b1 c1) hRc.1.1 hRc.1.2.2 rfl k_593 k_594 k_595 k_1 k_596 ⟨rfl, by decide, by decide, by decide +kernel⟩ (by decide) rfl rfl (Nat.le_of_ble_eq_true rfl) dL_act_29 (by decide)) hE hX (fun v L1 F1 H1 locs1 hv hX1 => ?_) (fun E ce q9 H1 locs1 hno hX1 hce hcv hcl => ?_)
  · obtain ⟨r, rfl, hp⟩ := hv
    refine lv_goto (tgt := 344) hx hb dL_act_32 (by decide) ?_
    exact k_iret hM hsz hX1 ⟨_, rfl, Ac.wr hnd hp⟩ (by decide) (by decide) dL_act_344
  · rcases hno with ⟨rfl, ht⟩ | ⟨rfl, ht⟩ | ⟨rfl, ht⟩
    · refine x_h1 hM htab (by decide) (by decide) k_493 hE.2.1.2.2.2.2.2.2.2.2.2.2.1.1 hce hcv hcl ?_
      refine lv_astore (lv' := [(7, .ref q9), (0, .ref o), (1, .int 1), (2, .int a1), (3, .int b1), (4, .int c1), (5, .int d1), (6, .int e1)]) hx hb dL_act_345 hl (by decide) rfl (fun ls hl => ?_)
      refine lv_ldc hx hb hM.2.2.2.1 (hM.2.2.2.2.1 _ k_988) dL_act_347 ?_
      exact k_iret hM hsz hX1 ⟨_, rfl, Ac.no (q := (1, -7000001)) hRc hI hnd hz ht (by simp)⟩ (by decide) (by decide) dL_act_349
    · refine x_h2 hM htab (by decide) k_493 hE.2.1.2.2.2.2.2.2.2.2.2.2.2.1.1 (by decide) (by decide) k_494 hE.2.1.2.2.2.2.2.2.2.2.2.2.1.2.1 hce hcv hcl ?_
      refine lv_astore (lv' := [(7, .ref q9), (0, .ref o), (1, .int 1), (2, .int a1), (3, .int b1), (4, .int c1), (5, .int d1), (6, .int e1)]) hx hb dL_act_350 hl (by decide) rfl (fun ls hl => ?_)
      refine lv_ldc hx hb hM.2.2.2.1 (hM.2.2.2.2.1 _ k_989) dL_act_352 ?_
      exact k_iret hM hsz hX1 ⟨_, rfl, Ac.no (q := (2, -7000002)) hRc hI hnd hz ht (by simp)⟩ (by decide) (by decide) dL_act_354
    · refine x_h3 hM htab (by decide) k_493 hE.2.1.2.2.2.2.2.2.2.2.2.2.2.1.2.1 (by decide) k_494 hE.2.1.2.2.2.2.2.2.2.2.2.2.2.1.2.2 (by decide) (by decide) k_495 hE.2.1.2.2.2.2.2.2.2.2.2.2.1.2.2 hce hcv hcl ?_
      refine lv_astore (lv' := [(7, .ref q9), (0, .ref o), (1, .int 1), (2, .int a1), (3, .int b1), (4, .int c1), (5, .int d1), (6, .int e1)]) hx hb dL_act_355 hl (by decide) rfl (fun ls hl => ?_)
      refine lv_ldc hx hb hM.2.2.2.1 (hM.2.2.2.2.1 _ k_990) dL_act_357 ?_
      exact k_iret hM hsz hX1 ⟨_, rfl, Ac.no (q := (3, -7000003)) hRc hI hnd hz ht (by simp)⟩ (by decide) (by decide) dL_act_359
set_option maxHeartbeats 4000000 in
set_option maxRecDepth 100000 in
theorem c_act_2 (l : Launch) (hfl : l.stackTraces = false) (γ : kG) (L : List Nat) (F : kF) (o n : Nat) (M : mM) (hO : Ob γ o M n L F) (a1 b1 c1 d1 e1 : Int32) : kCW l yL_act cL_act 8 (some .int) [(0, 344, 345, 81), (0, 344, 350, 84), (0, 344, 355, 87)] (kRm 5 2 12) γ L F [.ref o, .int 2, .int a1, .int b1, .int c1, .int d1, .int e1] (kI fun r L1 F1 => Ac γ o n M (acceptM M a1) [(1, -7000001), (2, -7000003)] r L1 F1) := by
  refine kCW_of (by decide +kernel) (Nat.le_of_ble_eq_true rfl) ?_
  intro p e s m args below meth c sz ls hargs hsz hM htab hE hX hl
  have hx := hM.1
  have hb := hM.2.1
  have hl : lv_has ls 8 [(0, .ref o), (1, .int 2), (2, .int a1), (3, .int b1), (4, .int c1), (5, .int d1), (6, .int e1)] := hl
  obtain ⟨ad, tg, nd, D, hRc, hI, hnd, hz⟩ := hO
  refine lv_iload_n hx hb dL_act_0 rfl (lv_at hl 1 rfl) ?_
  refine lv_if_ne (tgt := 19) hx hb dL_act_1 (by decide) (fun _ => ?_) (fun h9 => absurd (show (2 : Int32) = 0 from h9) (by decide))
  refine lv_iload_n hx hb dL_act_19 rfl (lv_at hl 1 rfl) ?_
  refine lv_iconst (v := 1) hx hb dL_act_20 (by decide) ?_
  refine lv_icmp_ne (tgt := 35) hx hb dL_act_21 (by decide) (fun _ => ?_) (fun h9 => absurd (show (2 : Int32) = 1 from h9) (by decide))
  refine lv_iload_n hx hb dL_act_35 rfl (lv_at hl 1 rfl) ?_
  refine lv_iconst (v := 2) hx hb dL_act_36 (by decide) ?_
  refine lv_icmp_ne (tgt := 48) hx hb dL_act_37 (by decide) (fun h9 => absurd rfl h9) (fun _ => ?_)
  refine lv_aload_n hx hb dL_act_40 rfl (lv_at hl 0 rfl) ?_
  refine lv_iload_n hx hb dL_act_41 rfl (lv_at hl 2 rfl) ?_
  refine o_gox (x_V (n := 1) (As := [.int a1]) (rest := []) hM hE hX hl (c_X4_accept l hfl γ L F o ad tg M nd D hRc hI a1) hRc.1.1 hRc.1.2.2 rfl k_605 k_606 k_607 k_1 k_608 ⟨rfl, by decide, by decide, by decide +kernel⟩ (by decide) rfl rfl (Nat.le_of_ble_eq_true rfl) dL_act_42 (by decide)) hE hX (fun v L1 F1 H1 locs1 hv hX1 => ?_) (fun E ce q9 H1 locs1 hno hX1 hce hcv hcl => ?_)
  · obtain ⟨r, rfl, hp⟩ := hv
    refine lv_goto (tgt := 344) hx hb dL_act_45 (by decide) ?_
    exact k_iret hM hsz hX1 ⟨_, rfl, Ac.wr hnd hp⟩ (by decide) (by decide) dL_act_344
  · rcases hno with ⟨rfl, ht⟩ | ⟨rfl, ht⟩
    · refine x_h1 hM htab (by decide) (by decide) k_493 hE.2.1.2.2.2.2.2.2.2.2.2.2.1.1 hce hcv hcl ?_
      refine lv_astore (lv' := [(7, .ref q9), (0, .ref o), (1, .int 2), (2, .int a1), (3, .int b1), (4, .int c1), (5, .int d1), (6, .int e1)]) hx hb dL_act_345 hl (by decide) rfl (fun ls hl => ?_)
      refine lv_ldc hx hb hM.2.2.2.1 (hM.2.2.2.2.1 _ k_988) dL_act_347 ?_
      exact k_iret hM hsz hX1 ⟨_, rfl, Ac.no (q := (1, -7000001)) hRc hI hnd hz ht (by simp)⟩ (by decide) (by decide) dL_act_349
    · refine x_h3 hM htab (by decide) k_493 hE.2.1.2.2.2.2.2.2.2.2.2.2.2.1.2.1 (by decide) k_494 hE.2.1.2.2.2.2.2.2.2.2.2.2.2.1.2.2 (by decide) (by decide) k_495 hE.2.1.2.2.2.2.2.2.2.2.2.2.1.2.2 hce hcv hcl ?_
      refine lv_astore (lv' := [(7, .ref q9), (0, .ref o), (1, .int 2), (2, .int a1), (3, .int b1), (4, .int c1), (5, .int d1), (6, .int e1)]) hx hb dL_act_355 hl (by decide) rfl (fun ls hl => ?_)
      refine lv_ldc hx hb hM.2.2.2.1 (hM.2.2.2.2.1 _ k_990) dL_act_357 ?_
      exact k_iret hM hsz hX1 ⟨_, rfl, Ac.no (q := (2, -7000003)) hRc hI hnd hz ht (by simp)⟩ (by decide) (by decide) dL_act_359
set_option maxHeartbeats 4000000 in
set_option maxRecDepth 100000 in
theorem c_act_3 (l : Launch) (hfl : l.stackTraces = false) (γ : kG) (L : List Nat) (F : kF) (o n : Nat) (M : mM) (hO : Ob γ o M n L F) (a1 b1 c1 d1 e1 : Int32) : kCW l yL_act cL_act 8 (some .int) [(0, 344, 345, 81), (0, 344, 350, 84), (0, 344, 355, 87)] (kRm 5 2 12) γ L F [.ref o, .int 3, .int a1, .int b1, .int c1, .int d1, .int e1] (kI fun r L1 F1 => Ac γ o n M (refuseM M a1) [(1, -7000001), (2, -7000003)] r L1 F1) := by
  refine kCW_of (by decide +kernel) (Nat.le_of_ble_eq_true rfl) ?_
  intro p e s m args below meth c sz ls hargs hsz hM htab hE hX hl
  have hx := hM.1
  have hb := hM.2.1
  have hl : lv_has ls 8 [(0, .ref o), (1, .int 3), (2, .int a1), (3, .int b1), (4, .int c1), (5, .int d1), (6, .int e1)] := hl
  obtain ⟨ad, tg, nd, D, hRc, hI, hnd, hz⟩ := hO
  refine lv_iload_n hx hb dL_act_0 rfl (lv_at hl 1 rfl) ?_
  refine lv_if_ne (tgt := 19) hx hb dL_act_1 (by decide) (fun _ => ?_) (fun h9 => absurd (show (3 : Int32) = 0 from h9) (by decide))
  refine lv_iload_n hx hb dL_act_19 rfl (lv_at hl 1 rfl) ?_
  refine lv_iconst (v := 1) hx hb dL_act_20 (by decide) ?_
  refine lv_icmp_ne (tgt := 35) hx hb dL_act_21 (by decide) (fun _ => ?_) (fun h9 => absurd (show (3 : Int32) = 1 from h9) (by decide))
  refine lv_iload_n hx hb dL_act_35 rfl (lv_at hl 1 rfl) ?_
  refine lv_iconst (v := 2) hx hb dL_act_36 (by decide) ?_
  refine lv_icmp_ne (tgt := 48) hx hb dL_act_37 (by decide) (fun _ => ?_) (fun h9 => absurd (show (3 : Int32) = 2 from h9) (by decide))
  refine lv_iload_n hx hb dL_act_48 rfl (lv_at hl 1 rfl) ?_
  refine lv_iconst (v := 3) hx hb dL_act_49 (by decide) ?_
  refine lv_icmp_ne (tgt := 61) hx hb dL_act_50 (by decide) (fun h9 => absurd rfl h9) (fun _ => ?_)
  refine lv_aload_n hx hb dL_act_53 rfl (lv_at hl 0 rfl) ?_
  refine lv_iload_n hx hb dL_act_54 rfl (lv_at hl 2 rfl) ?_
  refine o_gox (x_V (n := 1) (As := [.int a1]) (rest := []) hM hE hX hl (c_X4_refuse l hfl γ L F o ad tg M nd D hRc hI a1) hRc.1.1 hRc.1.2.2 rfl k_609 k_610 k_611 k_1 k_612 ⟨rfl, by decide, by decide, by decide +kernel⟩ (by decide) rfl rfl (Nat.le_of_ble_eq_true rfl) dL_act_55 (by decide)) hE hX (fun v L1 F1 H1 locs1 hv hX1 => ?_) (fun E ce q9 H1 locs1 hno hX1 hce hcv hcl => ?_)
  · obtain ⟨r, rfl, hp⟩ := hv
    refine lv_goto (tgt := 344) hx hb dL_act_58 (by decide) ?_
    exact k_iret hM hsz hX1 ⟨_, rfl, Ac.wr hnd hp⟩ (by decide) (by decide) dL_act_344
  · rcases hno with ⟨rfl, ht⟩ | ⟨rfl, ht⟩
    · refine x_h1 hM htab (by decide) (by decide) k_493 hE.2.1.2.2.2.2.2.2.2.2.2.2.1.1 hce hcv hcl ?_
      refine lv_astore (lv' := [(7, .ref q9), (0, .ref o), (1, .int 3), (2, .int a1), (3, .int b1), (4, .int c1), (5, .int d1), (6, .int e1)]) hx hb dL_act_345 hl (by decide) rfl (fun ls hl => ?_)
      refine lv_ldc hx hb hM.2.2.2.1 (hM.2.2.2.2.1 _ k_988) dL_act_347 ?_
      exact k_iret hM hsz hX1 ⟨_, rfl, Ac.no (q := (1, -7000001)) hRc hI hnd hz ht (by simp)⟩ (by decide) (by decide) dL_act_349
    · refine x_h3 hM htab (by decide) k_493 hE.2.1.2.2.2.2.2.2.2.2.2.2.2.1.2.1 (by decide) k_494 hE.2.1.2.2.2.2.2.2.2.2.2.2.2.1.2.2 (by decide) (by decide) k_495 hE.2.1.2.2.2.2.2.2.2.2.2.2.1.2.2 hce hcv hcl ?_
      refine lv_astore (lv' := [(7, .ref q9), (0, .ref o), (1, .int 3), (2, .int a1), (3, .int b1), (4, .int c1), (5, .int d1), (6, .int e1)]) hx hb dL_act_355 hl (by decide) rfl (fun ls hl => ?_)
      refine lv_ldc hx hb hM.2.2.2.1 (hM.2.2.2.2.1 _ k_990) dL_act_357 ?_
      exact k_iret hM hsz hX1 ⟨_, rfl, Ac.no (q := (2, -7000003)) hRc hI hnd hz ht (by simp)⟩ (by decide) (by decide) dL_act_359
set_option maxHeartbeats 4000000 in
set_option maxRecDepth 100000 in
theorem c_act_4 (l : Launch) (hfl : l.stackTraces = false) (γ : kG) (L : List Nat) (F : kF) (o n : Nat) (M : mM) (hO : Ob γ o M n L F) (a1 b1 c1 d1 e1 : Int32) : kCW l yL_act cL_act 8 (some .int) [(0, 344, 345, 81), (0, 344, 350, 84), (0, 344, 355, 87)] (kRm 8 6 1100) γ L F [.ref o, .int 4, .int a1, .int b1, .int c1, .int d1, .int e1] (kI fun r L1 F1 => Ac γ o n M (creditM M a1 b1 c1) [(1, -7000001), (2, -7000002), (3, -7000003)] r L1 F1) := by
  refine kCW_of (by decide +kernel) (Nat.le_of_ble_eq_true rfl) ?_
  intro p e s m args below meth c sz ls hargs hsz hM htab hE hX hl
  have hx := hM.1
  have hb := hM.2.1
  have hl : lv_has ls 8 [(0, .ref o), (1, .int 4), (2, .int a1), (3, .int b1), (4, .int c1), (5, .int d1), (6, .int e1)] := hl
  obtain ⟨ad, tg, nd, D, hRc, hI, hnd, hz⟩ := hO
  refine lv_iload_n hx hb dL_act_0 rfl (lv_at hl 1 rfl) ?_
  refine lv_if_ne (tgt := 19) hx hb dL_act_1 (by decide) (fun _ => ?_) (fun h9 => absurd (show (4 : Int32) = 0 from h9) (by decide))
  refine lv_iload_n hx hb dL_act_19 rfl (lv_at hl 1 rfl) ?_
  refine lv_iconst (v := 1) hx hb dL_act_20 (by decide) ?_
  refine lv_icmp_ne (tgt := 35) hx hb dL_act_21 (by decide) (fun _ => ?_) (fun h9 => absurd (show (4 : Int32) = 1 from h9) (by decide))
  refine lv_iload_n hx hb dL_act_35 rfl (lv_at hl 1 rfl) ?_
  refine lv_iconst (v := 2) hx hb dL_act_36 (by decide) ?_
  refine lv_icmp_ne (tgt := 48) hx hb dL_act_37 (by decide) (fun _ => ?_) (fun h9 => absurd (show (4 : Int32) = 2 from h9) (by decide))
  refine lv_iload_n hx hb dL_act_48 rfl (lv_at hl 1 rfl) ?_
  refine lv_iconst (v := 3) hx hb dL_act_49 (by decide) ?_
  refine lv_icmp_ne (tgt := 61) hx hb dL_act_50 (by decide) (fun _ => ?_) (fun h9 => absurd (show (4 : Int32) = 3 from h9) (by decide))
  refine lv_iload_n hx hb dL_act_61 rfl (lv_at hl 1 rfl) ?_
  refine lv_iconst (v := 4) hx hb dL_act_62 (by decide) ?_
  refine lv_icmp_ne (tgt := 77) hx hb dL_act_63 (by decide) (fun h9 => absurd rfl h9) (fun _ => ?_)
  refine lv_aload_n hx hb dL_act_66 rfl (lv_at hl 0 rfl) ?_
  refine lv_iload_n hx hb dL_act_67 rfl (lv_at hl 2 rfl) ?_
  refine lv_iload_n hx hb dL_act_68 rfl (lv_at hl 3 rfl) ?_
  refine lv_iload hx hb dL_act_69 (lv_at hl 4 rfl) ?_
  refine o_gox (x_V (n := 3) (As := [.int a1, .int b1, .int c1]) (rest := []) hM hE hX hl (c_X4_credit l hfl γ L F o ad tg M nd D hRc hI a1 b1 c1) hRc.1.1 hRc.1.2.2 rfl k_613 k_614 k_615 k_1 k_616 ⟨rfl, by decide, by decide, by decide +kernel⟩ (by decide) rfl rfl (Nat.le_of_ble_eq_true rfl) dL_act_71 (by decide)) hE hX (fun v L1 F1 H1 locs1 hv hX1 => ?_) (fun E ce q9 H1 locs1 hno hX1 hce hcv hcl => ?_)
  · obtain ⟨r, rfl, hp⟩ := hv
    refine lv_goto (tgt := 344) hx hb dL_act_74 (by decide) ?_
    exact k_iret hM hsz hX1 ⟨_, rfl, Ac.wr hnd hp⟩ (by decide) (by decide) dL_act_344
  · rcases hno with ⟨rfl, ht⟩ | ⟨rfl, ht⟩ | ⟨rfl, ht⟩
    · refine x_h1 hM htab (by decide) (by decide) k_493 hE.2.1.2.2.2.2.2.2.2.2.2.2.1.1 hce hcv hcl ?_
      refine lv_astore (lv' := [(7, .ref q9), (0, .ref o), (1, .int 4), (2, .int a1), (3, .int b1), (4, .int c1), (5, .int d1), (6, .int e1)]) hx hb dL_act_345 hl (by decide) rfl (fun ls hl => ?_)
      refine lv_ldc hx hb hM.2.2.2.1 (hM.2.2.2.2.1 _ k_988) dL_act_347 ?_
      exact k_iret hM hsz hX1 ⟨_, rfl, Ac.no (q := (1, -7000001)) hRc hI hnd hz ht (by simp)⟩ (by decide) (by decide) dL_act_349
    · refine x_h2 hM htab (by decide) k_493 hE.2.1.2.2.2.2.2.2.2.2.2.2.2.1.1 (by decide) (by decide) k_494 hE.2.1.2.2.2.2.2.2.2.2.2.2.1.2.1 hce hcv hcl ?_
      refine lv_astore (lv' := [(7, .ref q9), (0, .ref o), (1, .int 4), (2, .int a1), (3, .int b1), (4, .int c1), (5, .int d1), (6, .int e1)]) hx hb dL_act_350 hl (by decide) rfl (fun ls hl => ?_)
      refine lv_ldc hx hb hM.2.2.2.1 (hM.2.2.2.2.1 _ k_989) dL_act_352 ?_
      exact k_iret hM hsz hX1 ⟨_, rfl, Ac.no (q := (2, -7000002)) hRc hI hnd hz ht (by simp)⟩ (by decide) (by decide) dL_act_354
    · refine x_h3 hM htab (by decide) k_493 hE.2.1.2.2.2.2.2.2.2.2.2.2.2.1.2.1 (by decide) k_494 hE.2.1.2.2.2.2.2.2.2.2.2.2.2.1.2.2 (by decide) (by decide) k_495 hE.2.1.2.2.2.2.2.2.2.2.2.2.1.2.2 hce hcv hcl ?_
      refine lv_astore (lv' := [(7, .ref q9), (0, .ref o), (1, .int 4), (2, .int a1), (3, .int b1), (4, .int c1), (5, .int d1), (6, .int e1)]) hx hb dL_act_355 hl (by decide) rfl (fun ls hl => ?_)
      refine lv_ldc hx hb hM.2.2.2.1 (hM.2.2.2.2.1 _ k_990) dL_act_357 ?_
      exact k_iret hM hsz hX1 ⟨_, rfl, Ac.no (q := (3, -7000003)) hRc hI hnd hz ht (by simp)⟩ (by decide) (by decide) dL_act_359
set_option maxHeartbeats 4000000 in
set_option maxRecDepth 100000 in
theorem c_act_5 (l : Launch) (hfl : l.stackTraces = false) (γ : kG) (L : List Nat) (F : kF) (o n : Nat) (M : mM) (hO : Ob γ o M n L F) (a1 b1 c1 d1 e1 : Int32) : kCW l yL_act cL_act 8 (some .int) [(0, 344, 345, 81), (0, 344, 350, 84), (0, 344, 355, 87)] (kRm 5 3 18) γ L F [.ref o, .int 5, .int a1, .int b1, .int c1, .int d1, .int e1] (kI fun r L1 F1 => Ac γ o n M (disputeM M a1 b1) [(1, -7000001), (2, -7000003)] r L1 F1) := by
  refine kCW_of (by decide +kernel) (Nat.le_of_ble_eq_true rfl) ?_
  intro p e s m args below meth c sz ls hargs hsz hM htab hE hX hl
  have hx := hM.1
  have hb := hM.2.1
  have hl : lv_has ls 8 [(0, .ref o), (1, .int 5), (2, .int a1), (3, .int b1), (4, .int c1), (5, .int d1), (6, .int e1)] := hl
  obtain ⟨ad, tg, nd, D, hRc, hI, hnd, hz⟩ := hO
  refine lv_iload_n hx hb dL_act_0 rfl (lv_at hl 1 rfl) ?_
  refine lv_if_ne (tgt := 19) hx hb dL_act_1 (by decide) (fun _ => ?_) (fun h9 => absurd (show (5 : Int32) = 0 from h9) (by decide))
  refine lv_iload_n hx hb dL_act_19 rfl (lv_at hl 1 rfl) ?_
  refine lv_iconst (v := 1) hx hb dL_act_20 (by decide) ?_
  refine lv_icmp_ne (tgt := 35) hx hb dL_act_21 (by decide) (fun _ => ?_) (fun h9 => absurd (show (5 : Int32) = 1 from h9) (by decide))
  refine lv_iload_n hx hb dL_act_35 rfl (lv_at hl 1 rfl) ?_
  refine lv_iconst (v := 2) hx hb dL_act_36 (by decide) ?_
  refine lv_icmp_ne (tgt := 48) hx hb dL_act_37 (by decide) (fun _ => ?_) (fun h9 => absurd (show (5 : Int32) = 2 from h9) (by decide))
  refine lv_iload_n hx hb dL_act_48 rfl (lv_at hl 1 rfl) ?_
  refine lv_iconst (v := 3) hx hb dL_act_49 (by decide) ?_
  refine lv_icmp_ne (tgt := 61) hx hb dL_act_50 (by decide) (fun _ => ?_) (fun h9 => absurd (show (5 : Int32) = 3 from h9) (by decide))
  refine lv_iload_n hx hb dL_act_61 rfl (lv_at hl 1 rfl) ?_
  refine lv_iconst (v := 4) hx hb dL_act_62 (by decide) ?_
  refine lv_icmp_ne (tgt := 77) hx hb dL_act_63 (by decide) (fun _ => ?_) (fun h9 => absurd (show (5 : Int32) = 4 from h9) (by decide))
  refine lv_iload_n hx hb dL_act_77 rfl (lv_at hl 1 rfl) ?_
  refine lv_iconst (v := 5) hx hb dL_act_78 (by decide) ?_
  refine lv_icmp_ne (tgt := 91) hx hb dL_act_79 (by decide) (fun h9 => absurd rfl h9) (fun _ => ?_)
  refine lv_aload_n hx hb dL_act_82 rfl (lv_at hl 0 rfl) ?_
  refine lv_iload_n hx hb dL_act_83 rfl (lv_at hl 2 rfl) ?_
  refine lv_iload_n hx hb dL_act_84 rfl (lv_at hl 3 rfl) ?_
  refine o_gox (x_V (n := 2) (As := [.int a1, .int b1]) (rest := []) hM hE hX hl (c_X4_dispute l hfl γ L F o ad tg M nd D hRc hI a1 b1) hRc.1.1 hRc.1.2.2 rfl k_643 k_644 k_645 k_1 k_646 ⟨rfl, by decide, by decide, by decide +kernel⟩ (by decide) rfl rfl (Nat.le_of_ble_eq_true rfl) dL_act_85 (by decide)) hE hX (fun v L1 F1 H1 locs1 hv hX1 => ?_) (fun E ce q9 H1 locs1 hno hX1 hce hcv hcl => ?_)
  · obtain ⟨r, rfl, hp⟩ := hv
    refine lv_goto (tgt := 344) hx hb dL_act_88 (by decide) ?_
    exact k_iret hM hsz hX1 ⟨_, rfl, Ac.wr hnd hp⟩ (by decide) (by decide) dL_act_344
  · rcases hno with ⟨rfl, ht⟩ | ⟨rfl, ht⟩
    · refine x_h1 hM htab (by decide) (by decide) k_493 hE.2.1.2.2.2.2.2.2.2.2.2.2.1.1 hce hcv hcl ?_
      refine lv_astore (lv' := [(7, .ref q9), (0, .ref o), (1, .int 5), (2, .int a1), (3, .int b1), (4, .int c1), (5, .int d1), (6, .int e1)]) hx hb dL_act_345 hl (by decide) rfl (fun ls hl => ?_)
      refine lv_ldc hx hb hM.2.2.2.1 (hM.2.2.2.2.1 _ k_988) dL_act_347 ?_
      exact k_iret hM hsz hX1 ⟨_, rfl, Ac.no (q := (1, -7000001)) hRc hI hnd hz ht (by simp)⟩ (by decide) (by decide) dL_act_349
    · refine x_h3 hM htab (by decide) k_493 hE.2.1.2.2.2.2.2.2.2.2.2.2.2.1.2.1 (by decide) k_494 hE.2.1.2.2.2.2.2.2.2.2.2.2.2.1.2.2 (by decide) (by decide) k_495 hE.2.1.2.2.2.2.2.2.2.2.2.2.1.2.2 hce hcv hcl ?_
      refine lv_astore (lv' := [(7, .ref q9), (0, .ref o), (1, .int 5), (2, .int a1), (3, .int b1), (4, .int c1), (5, .int d1), (6, .int e1)]) hx hb dL_act_355 hl (by decide) rfl (fun ls hl => ?_)
      refine lv_ldc hx hb hM.2.2.2.1 (hM.2.2.2.2.1 _ k_990) dL_act_357 ?_
      exact k_iret hM hsz hX1 ⟨_, rfl, Ac.no (q := (2, -7000003)) hRc hI hnd hz ht (by simp)⟩ (by decide) (by decide) dL_act_359
set_option maxHeartbeats 4000000 in
set_option maxRecDepth 100000 in
theorem c_act_6 (l : Launch) (hfl : l.stackTraces = false) (γ : kG) (L : List Nat) (F : kF) (o n : Nat) (M : mM) (hO : Ob γ o M n L F) (a1 b1 c1 d1 e1 : Int32) : kCW l yL_act cL_act 8 (some .int) [(0, 344, 345, 81), (0, 344, 350, 84), (0, 344, 355, 87)] (kRm 8 6 1100) γ L F [.ref o, .int 6, .int a1, .int b1, .int c1, .int d1, .int e1] (kI fun r L1 F1 => Ac γ o n M (settleM M a1 b1 (bz c1)) [(1, -7000001), (2, -7000003)] r L1 F1) := by
  refine kCW_of (by decide +kernel) (Nat.le_of_ble_eq_true rfl) ?_
  intro p e s m args below meth c sz ls hargs hsz hM htab hE hX hl
  have hx := hM.1
  have hb := hM.2.1
  have hl : lv_has ls 8 [(0, .ref o), (1, .int 6), (2, .int a1), (3, .int b1), (4, .int c1), (5, .int d1), (6, .int e1)] := hl
  obtain ⟨ad, tg, nd, D, hRc, hI, hnd, hz⟩ := hO
  refine lv_iload_n hx hb dL_act_0 rfl (lv_at hl 1 rfl) ?_
  refine lv_if_ne (tgt := 19) hx hb dL_act_1 (by decide) (fun _ => ?_) (fun h9 => absurd (show (6 : Int32) = 0 from h9) (by decide))
  refine lv_iload_n hx hb dL_act_19 rfl (lv_at hl 1 rfl) ?_
  refine lv_iconst (v := 1) hx hb dL_act_20 (by decide) ?_
  refine lv_icmp_ne (tgt := 35) hx hb dL_act_21 (by decide) (fun _ => ?_) (fun h9 => absurd (show (6 : Int32) = 1 from h9) (by decide))
  refine lv_iload_n hx hb dL_act_35 rfl (lv_at hl 1 rfl) ?_
  refine lv_iconst (v := 2) hx hb dL_act_36 (by decide) ?_
  refine lv_icmp_ne (tgt := 48) hx hb dL_act_37 (by decide) (fun _ => ?_) (fun h9 => absurd (show (6 : Int32) = 2 from h9) (by decide))
  refine lv_iload_n hx hb dL_act_48 rfl (lv_at hl 1 rfl) ?_
  refine lv_iconst (v := 3) hx hb dL_act_49 (by decide) ?_
  refine lv_icmp_ne (tgt := 61) hx hb dL_act_50 (by decide) (fun _ => ?_) (fun h9 => absurd (show (6 : Int32) = 3 from h9) (by decide))
  refine lv_iload_n hx hb dL_act_61 rfl (lv_at hl 1 rfl) ?_
  refine lv_iconst (v := 4) hx hb dL_act_62 (by decide) ?_
  refine lv_icmp_ne (tgt := 77) hx hb dL_act_63 (by decide) (fun _ => ?_) (fun h9 => absurd (show (6 : Int32) = 4 from h9) (by decide))
  refine lv_iload_n hx hb dL_act_77 rfl (lv_at hl 1 rfl) ?_
  refine lv_iconst (v := 5) hx hb dL_act_78 (by decide) ?_
  refine lv_icmp_ne (tgt := 91) hx hb dL_act_79 (by decide) (fun _ => ?_) (fun h9 => absurd (show (6 : Int32) = 5 from h9) (by decide))
  refine lv_iload_n hx hb dL_act_91 rfl (lv_at hl 1 rfl) ?_
  refine lv_bipush (v := 6) hx hb dL_act_92 (by decide) ?_
  refine lv_icmp_ne (tgt := 117) hx hb dL_act_94 (by decide) (fun h9 => absurd rfl h9) (fun _ => ?_)
  refine lv_aload_n hx hb dL_act_97 rfl (lv_at hl 0 rfl) ?_
  refine lv_iload_n hx hb dL_act_98 rfl (lv_at hl 2 rfl) ?_
  refine lv_iload_n hx hb dL_act_99 rfl (lv_at hl 3 rfl) ?_
  refine lv_iload hx hb dL_act_100 (lv_at hl 4 rfl) ?_
  refine lv_iconst (v := 1) hx hb dL_act_102 (by decide) ?_
  refine act_bool (x := c1) hM dL_act_103 dL_act_106 dL_act_107 dL_act_110 (fun z hz9 => ?_)
  subst hz9
  refine o_gox (x_V (n := 3) (As := [.int a1, .int b1, .int (bz c1)]) (rest := []) hM hE hX hl (c_X4_settle l hfl γ L F o ad tg M nd D hRc hI a1 b1 (bz c1)) hRc.1.1 hRc.1.2.2 rfl k_650 k_651 k_652 k_1 k_653 ⟨rfl, by decide, by decide, by decide +kernel⟩ (by decide) rfl rfl (Nat.le_of_ble_eq_true rfl) dL_act_111 (by decide)) hE hX (fun v L1 F1 H1 locs1 hv hX1 => ?_) (fun E ce q9 H1 locs1 hno hX1 hce hcv hcl => ?_)
  · obtain ⟨r, rfl, hp⟩ := hv
    refine lv_goto (tgt := 344) hx hb dL_act_114 (by decide) ?_
    exact k_iret hM hsz hX1 ⟨_, rfl, Ac.wr hnd hp⟩ (by decide) (by decide) dL_act_344
  · rcases hno with ⟨rfl, ht⟩ | ⟨rfl, ht⟩
    · refine x_h1 hM htab (by decide) (by decide) k_493 hE.2.1.2.2.2.2.2.2.2.2.2.2.1.1 hce hcv hcl ?_
      refine lv_astore (lv' := [(7, .ref q9), (0, .ref o), (1, .int 6), (2, .int a1), (3, .int b1), (4, .int c1), (5, .int d1), (6, .int e1)]) hx hb dL_act_345 hl (by decide) rfl (fun ls hl => ?_)
      refine lv_ldc hx hb hM.2.2.2.1 (hM.2.2.2.2.1 _ k_988) dL_act_347 ?_
      exact k_iret hM hsz hX1 ⟨_, rfl, Ac.no (q := (1, -7000001)) hRc hI hnd hz ht (by simp)⟩ (by decide) (by decide) dL_act_349
    · refine x_h3 hM htab (by decide) k_493 hE.2.1.2.2.2.2.2.2.2.2.2.2.2.1.2.1 (by decide) k_494 hE.2.1.2.2.2.2.2.2.2.2.2.2.2.1.2.2 (by decide) (by decide) k_495 hE.2.1.2.2.2.2.2.2.2.2.2.2.1.2.2 hce hcv hcl ?_
      refine lv_astore (lv' := [(7, .ref q9), (0, .ref o), (1, .int 6), (2, .int a1), (3, .int b1), (4, .int c1), (5, .int d1), (6, .int e1)]) hx hb dL_act_355 hl (by decide) rfl (fun ls hl => ?_)
      refine lv_ldc hx hb hM.2.2.2.1 (hM.2.2.2.2.1 _ k_990) dL_act_357 ?_
      exact k_iret hM hsz hX1 ⟨_, rfl, Ac.no (q := (2, -7000003)) hRc hI hnd hz ht (by simp)⟩ (by decide) (by decide) dL_act_359
set_option maxHeartbeats 4000000 in
set_option maxRecDepth 100000 in
theorem c_act_7 (l : Launch) (hfl : l.stackTraces = false) (γ : kG) (L : List Nat) (F : kF) (o n : Nat) (M : mM) (hO : Ob γ o M n L F) (hn : n < 512) (a1 b1 c1 d1 e1 : Int32) : kCW l yL_act cL_act 8 (some .int) [(0, 344, 345, 81), (0, 344, 350, 84), (0, 344, 355, 87)] (kRm 8 6 1100) γ L F [.ref o, .int 7, .int a1, .int b1, .int c1, .int d1, .int e1] (kI fun r L1 F1 => Ac γ o n M (sellM M a1 b1 c1 (bz d1)) [(1, -7000001), (2, -7000002), (3, -7000003)] r L1 F1) := by
  refine kCW_of (by decide +kernel) (Nat.le_of_ble_eq_true rfl) ?_
  intro p e s m args below meth c sz ls hargs hsz hM htab hE hX hl
  have hx := hM.1
  have hb := hM.2.1
  have hl : lv_has ls 8 [(0, .ref o), (1, .int 7), (2, .int a1), (3, .int b1), (4, .int c1), (5, .int d1), (6, .int e1)] := hl
  obtain ⟨ad, tg, nd, D, hRc, hI, hnd, hz⟩ := hO
  refine lv_iload_n hx hb dL_act_0 rfl (lv_at hl 1 rfl) ?_
  refine lv_if_ne (tgt := 19) hx hb dL_act_1 (by decide) (fun _ => ?_) (fun h9 => absurd (show (7 : Int32) = 0 from h9) (by decide))
  refine lv_iload_n hx hb dL_act_19 rfl (lv_at hl 1 rfl) ?_
  refine lv_iconst (v := 1) hx hb dL_act_20 (by decide) ?_
  refine lv_icmp_ne (tgt := 35) hx hb dL_act_21 (by decide) (fun _ => ?_) (fun h9 => absurd (show (7 : Int32) = 1 from h9) (by decide))
  refine lv_iload_n hx hb dL_act_35 rfl (lv_at hl 1 rfl) ?_
  refine lv_iconst (v := 2) hx hb dL_act_36 (by decide) ?_
  refine lv_icmp_ne (tgt := 48) hx hb dL_act_37 (by decide) (fun _ => ?_) (fun h9 => absurd (show (7 : Int32) = 2 from h9) (by decide))
  refine lv_iload_n hx hb dL_act_48 rfl (lv_at hl 1 rfl) ?_
  refine lv_iconst (v := 3) hx hb dL_act_49 (by decide) ?_
  refine lv_icmp_ne (tgt := 61) hx hb dL_act_50 (by decide) (fun _ => ?_) (fun h9 => absurd (show (7 : Int32) = 3 from h9) (by decide))
  refine lv_iload_n hx hb dL_act_61 rfl (lv_at hl 1 rfl) ?_
  refine lv_iconst (v := 4) hx hb dL_act_62 (by decide) ?_
  refine lv_icmp_ne (tgt := 77) hx hb dL_act_63 (by decide) (fun _ => ?_) (fun h9 => absurd (show (7 : Int32) = 4 from h9) (by decide))
  refine lv_iload_n hx hb dL_act_77 rfl (lv_at hl 1 rfl) ?_
  refine lv_iconst (v := 5) hx hb dL_act_78 (by decide) ?_
  refine lv_icmp_ne (tgt := 91) hx hb dL_act_79 (by decide) (fun _ => ?_) (fun h9 => absurd (show (7 : Int32) = 5 from h9) (by decide))
  refine lv_iload_n hx hb dL_act_91 rfl (lv_at hl 1 rfl) ?_
  refine lv_bipush (v := 6) hx hb dL_act_92 (by decide) ?_
  refine lv_icmp_ne (tgt := 117) hx hb dL_act_94 (by decide) (fun _ => ?_) (fun h9 => absurd (show (7 : Int32) = 6 from h9) (by decide))
  refine lv_iload_n hx hb dL_act_117 rfl (lv_at hl 1 rfl) ?_
  refine lv_bipush (v := 7) hx hb dL_act_118 (by decide) ?_
  refine lv_icmp_ne (tgt := 145) hx hb dL_act_120 (by decide) (fun h9 => absurd rfl h9) (fun _ => ?_)
  refine lv_aload_n hx hb dL_act_123 rfl (lv_at hl 0 rfl) ?_
  refine lv_iload_n hx hb dL_act_124 rfl (lv_at hl 2 rfl) ?_
  refine lv_iload_n hx hb dL_act_125 rfl (lv_at hl 3 rfl) ?_
  refine lv_iload hx hb dL_act_126 (lv_at hl 4 rfl) ?_
  refine lv_iload hx hb dL_act_128 (lv_at hl 5 rfl) ?_
  refine lv_iconst (v := 1) hx hb dL_act_130 (by decide) ?_
  refine act_bool (x := d1) hM dL_act_131 dL_act_134 dL_act_135 dL_act_138 (fun z hz9 => ?_)
  subst hz9
  refine o_gox (x_V (n := 4) (As := [.int a1, .int b1, .int c1, .int (bz d1)]) (rest := []) hM hE hX hl (c_X4_sell l hfl γ L F o ad tg M nd D hRc hI (by omega) a1 b1 c1 (bz d1) (bz_01 _)) hRc.1.1 hRc.1.2.2 rfl k_655 k_656 k_657 k_1 k_658 ⟨rfl, by decide, by decide, by decide +kernel⟩ (by decide) rfl rfl (Nat.le_of_ble_eq_true rfl) dL_act_139 (by decide)) hE hX (fun v L1 F1 H1 locs1 hv hX1 => ?_) (fun E ce q9 H1 locs1 hno hX1 hce hcv hcl => ?_)
  · obtain ⟨r, rfl, hp⟩ := hv
    refine lv_goto (tgt := 344) hx hb dL_act_142 (by decide) ?_
    exact k_iret hM hsz hX1 ⟨_, rfl, Ac.wr hnd hp⟩ (by decide) (by decide) dL_act_344
  · rcases hno with ⟨rfl, ht⟩ | ⟨rfl, ht⟩ | ⟨rfl, ht⟩
    · refine x_h1 hM htab (by decide) (by decide) k_493 hE.2.1.2.2.2.2.2.2.2.2.2.2.1.1 hce hcv hcl ?_
      refine lv_astore (lv' := [(7, .ref q9), (0, .ref o), (1, .int 7), (2, .int a1), (3, .int b1), (4, .int c1), (5, .int d1), (6, .int e1)]) hx hb dL_act_345 hl (by decide) rfl (fun ls hl => ?_)
      refine lv_ldc hx hb hM.2.2.2.1 (hM.2.2.2.2.1 _ k_988) dL_act_347 ?_
      exact k_iret hM hsz hX1 ⟨_, rfl, Ac.no (q := (1, -7000001)) hRc hI hnd hz ht (by simp)⟩ (by decide) (by decide) dL_act_349
    · refine x_h2 hM htab (by decide) k_493 hE.2.1.2.2.2.2.2.2.2.2.2.2.2.1.1 (by decide) (by decide) k_494 hE.2.1.2.2.2.2.2.2.2.2.2.2.1.2.1 hce hcv hcl ?_
      refine lv_astore (lv' := [(7, .ref q9), (0, .ref o), (1, .int 7), (2, .int a1), (3, .int b1), (4, .int c1), (5, .int d1), (6, .int e1)]) hx hb dL_act_350 hl (by decide) rfl (fun ls hl => ?_)
      refine lv_ldc hx hb hM.2.2.2.1 (hM.2.2.2.2.1 _ k_989) dL_act_352 ?_
      exact k_iret hM hsz hX1 ⟨_, rfl, Ac.no (q := (2, -7000002)) hRc hI hnd hz ht (by simp)⟩ (by decide) (by decide) dL_act_354
    · refine x_h3 hM htab (by decide) k_493 hE.2.1.2.2.2.2.2.2.2.2.2.2.2.1.2.1 (by decide) k_494 hE.2.1.2.2.2.2.2.2.2.2.2.2.2.1.2.2 (by decide) (by decide) k_495 hE.2.1.2.2.2.2.2.2.2.2.2.2.1.2.2 hce hcv hcl ?_
      refine lv_astore (lv' := [(7, .ref q9), (0, .ref o), (1, .int 7), (2, .int a1), (3, .int b1), (4, .int c1), (5, .int d1), (6, .int e1)]) hx hb dL_act_355 hl (by decide) rfl (fun ls hl => ?_)
      refine lv_ldc hx hb hM.2.2.2.1 (hM.2.2.2.2.1 _ k_990) dL_act_357 ?_
      exact k_iret hM hsz hX1 ⟨_, rfl, Ac.no (q := (3, -7000003)) hRc hI hnd hz ht (by simp)⟩ (by decide) (by decide) dL_act_359
set_option maxHeartbeats 4000000 in
set_option maxRecDepth 100000 in
theorem c_act_8 (l : Launch) (hfl : l.stackTraces = false) (γ : kG) (L : List Nat) (F : kF) (o n : Nat) (M : mM) (hO : Ob γ o M n L F) (hn : n < 512) (a1 b1 c1 d1 e1 : Int32) : kCW l yL_act cL_act 8 (some .int) [(0, 344, 345, 81), (0, 344, 350, 84), (0, 344, 355, 87)] (kRm 8 6 1100) γ L F [.ref o, .int 8, .int a1, .int b1, .int c1, .int d1, .int e1] (kI fun r L1 F1 => Ac γ o n M (giveBackM M a1) [(1, -7000001), (2, -7000003)] r L1 F1) := by
  refine kCW_of (by decide +kernel) (Nat.le_of_ble_eq_true rfl) ?_
  intro p e s m args below meth c sz ls hargs hsz hM htab hE hX hl
  have hx := hM.1
  have hb := hM.2.1
  have hl : lv_has ls 8 [(0, .ref o), (1, .int 8), (2, .int a1), (3, .int b1), (4, .int c1), (5, .int d1), (6, .int e1)] := hl
  obtain ⟨ad, tg, nd, D, hRc, hI, hnd, hz⟩ := hO
  refine lv_iload_n hx hb dL_act_0 rfl (lv_at hl 1 rfl) ?_
  refine lv_if_ne (tgt := 19) hx hb dL_act_1 (by decide) (fun _ => ?_) (fun h9 => absurd (show (8 : Int32) = 0 from h9) (by decide))
  refine lv_iload_n hx hb dL_act_19 rfl (lv_at hl 1 rfl) ?_
  refine lv_iconst (v := 1) hx hb dL_act_20 (by decide) ?_
  refine lv_icmp_ne (tgt := 35) hx hb dL_act_21 (by decide) (fun _ => ?_) (fun h9 => absurd (show (8 : Int32) = 1 from h9) (by decide))
  refine lv_iload_n hx hb dL_act_35 rfl (lv_at hl 1 rfl) ?_
  refine lv_iconst (v := 2) hx hb dL_act_36 (by decide) ?_
  refine lv_icmp_ne (tgt := 48) hx hb dL_act_37 (by decide) (fun _ => ?_) (fun h9 => absurd (show (8 : Int32) = 2 from h9) (by decide))
  refine lv_iload_n hx hb dL_act_48 rfl (lv_at hl 1 rfl) ?_
  refine lv_iconst (v := 3) hx hb dL_act_49 (by decide) ?_
  refine lv_icmp_ne (tgt := 61) hx hb dL_act_50 (by decide) (fun _ => ?_) (fun h9 => absurd (show (8 : Int32) = 3 from h9) (by decide))
  refine lv_iload_n hx hb dL_act_61 rfl (lv_at hl 1 rfl) ?_
  refine lv_iconst (v := 4) hx hb dL_act_62 (by decide) ?_
  refine lv_icmp_ne (tgt := 77) hx hb dL_act_63 (by decide) (fun _ => ?_) (fun h9 => absurd (show (8 : Int32) = 4 from h9) (by decide))
  refine lv_iload_n hx hb dL_act_77 rfl (lv_at hl 1 rfl) ?_
  refine lv_iconst (v := 5) hx hb dL_act_78 (by decide) ?_
  refine lv_icmp_ne (tgt := 91) hx hb dL_act_79 (by decide) (fun _ => ?_) (fun h9 => absurd (show (8 : Int32) = 5 from h9) (by decide))
  refine lv_iload_n hx hb dL_act_91 rfl (lv_at hl 1 rfl) ?_
  refine lv_bipush (v := 6) hx hb dL_act_92 (by decide) ?_
  refine lv_icmp_ne (tgt := 117) hx hb dL_act_94 (by decide) (fun _ => ?_) (fun h9 => absurd (show (8 : Int32) = 6 from h9) (by decide))
  refine lv_iload_n hx hb dL_act_117 rfl (lv_at hl 1 rfl) ?_
  refine lv_bipush (v := 7) hx hb dL_act_118 (by decide) ?_
  refine lv_icmp_ne (tgt := 145) hx hb dL_act_120 (by decide) (fun _ => ?_) (fun h9 => absurd (show (8 : Int32) = 7 from h9) (by decide))
  refine lv_iload_n hx hb dL_act_145 rfl (lv_at hl 1 rfl) ?_
  refine lv_bipush (v := 8) hx hb dL_act_146 (by decide) ?_
  refine lv_icmp_ne (tgt := 159) hx hb dL_act_148 (by decide) (fun h9 => absurd rfl h9) (fun _ => ?_)
  refine lv_aload_n hx hb dL_act_151 rfl (lv_at hl 0 rfl) ?_
  refine lv_iload_n hx hb dL_act_152 rfl (lv_at hl 2 rfl) ?_
  refine o_gox (x_V (n := 1) (As := [.int a1]) (rest := []) hM hE hX hl (c_X4_giveBack l hfl γ L F o ad tg M nd D hRc hI (by omega) a1) hRc.1.1 hRc.1.2.2 rfl k_667 k_668 k_669 k_1 k_670 ⟨rfl, by decide, by decide, by decide +kernel⟩ (by decide) rfl rfl (Nat.le_of_ble_eq_true rfl) dL_act_153 (by decide)) hE hX (fun v L1 F1 H1 locs1 hv hX1 => ?_) (fun E ce q9 H1 locs1 hno hX1 hce hcv hcl => ?_)
  · obtain ⟨r, rfl, hp⟩ := hv
    refine lv_goto (tgt := 344) hx hb dL_act_156 (by decide) ?_
    exact k_iret hM hsz hX1 ⟨_, rfl, Ac.wr hnd hp⟩ (by decide) (by decide) dL_act_344
  · rcases hno with ⟨rfl, ht⟩ | ⟨rfl, ht⟩
    · refine x_h1 hM htab (by decide) (by decide) k_493 hE.2.1.2.2.2.2.2.2.2.2.2.2.1.1 hce hcv hcl ?_
      refine lv_astore (lv' := [(7, .ref q9), (0, .ref o), (1, .int 8), (2, .int a1), (3, .int b1), (4, .int c1), (5, .int d1), (6, .int e1)]) hx hb dL_act_345 hl (by decide) rfl (fun ls hl => ?_)
      refine lv_ldc hx hb hM.2.2.2.1 (hM.2.2.2.2.1 _ k_988) dL_act_347 ?_
      exact k_iret hM hsz hX1 ⟨_, rfl, Ac.no (q := (1, -7000001)) hRc hI hnd hz ht (by simp)⟩ (by decide) (by decide) dL_act_349
    · refine x_h3 hM htab (by decide) k_493 hE.2.1.2.2.2.2.2.2.2.2.2.2.2.1.2.1 (by decide) k_494 hE.2.1.2.2.2.2.2.2.2.2.2.2.2.1.2.2 (by decide) (by decide) k_495 hE.2.1.2.2.2.2.2.2.2.2.2.2.1.2.2 hce hcv hcl ?_
      refine lv_astore (lv' := [(7, .ref q9), (0, .ref o), (1, .int 8), (2, .int a1), (3, .int b1), (4, .int c1), (5, .int d1), (6, .int e1)]) hx hb dL_act_355 hl (by decide) rfl (fun ls hl => ?_)
      refine lv_ldc hx hb hM.2.2.2.1 (hM.2.2.2.2.1 _ k_990) dL_act_357 ?_
      exact k_iret hM hsz hX1 ⟨_, rfl, Ac.no (q := (2, -7000003)) hRc hI hnd hz ht (by simp)⟩ (by decide) (by decide) dL_act_359
set_option maxHeartbeats 4000000 in
set_option maxRecDepth 100000 in
theorem c_act_9 (l : Launch) (hfl : l.stackTraces = false) (γ : kG) (L : List Nat) (F : kF) (o n : Nat) (M : mM) (hO : Ob γ o M n L F) (a1 b1 c1 d1 e1 : Int32) : kCW l yL_act cL_act 8 (some .int) [(0, 344, 345, 81), (0, 344, 350, 84), (0, 344, 355, 87)] (kRm 4 1 6) γ L F [.ref o, .int 9, .int a1, .int b1, .int c1, .int d1, .int e1] (kI fun r L1 F1 => Ac γ o n M (typeM M a1) [(1, -7000002), (2, -7000003)] r L1 F1) := by
  refine kCW_of (by decide +kernel) (Nat.le_of_ble_eq_true rfl) ?_
  intro p e s m args below meth c sz ls hargs hsz hM htab hE hX hl
  have hx := hM.1
  have hb := hM.2.1
  have hl : lv_has ls 8 [(0, .ref o), (1, .int 9), (2, .int a1), (3, .int b1), (4, .int c1), (5, .int d1), (6, .int e1)] := hl
  obtain ⟨ad, tg, nd, D, hRc, hI, hnd, hz⟩ := hO
  refine lv_iload_n hx hb dL_act_0 rfl (lv_at hl 1 rfl) ?_
  refine lv_if_ne (tgt := 19) hx hb dL_act_1 (by decide) (fun _ => ?_) (fun h9 => absurd (show (9 : Int32) = 0 from h9) (by decide))
  refine lv_iload_n hx hb dL_act_19 rfl (lv_at hl 1 rfl) ?_
  refine lv_iconst (v := 1) hx hb dL_act_20 (by decide) ?_
  refine lv_icmp_ne (tgt := 35) hx hb dL_act_21 (by decide) (fun _ => ?_) (fun h9 => absurd (show (9 : Int32) = 1 from h9) (by decide))
  refine lv_iload_n hx hb dL_act_35 rfl (lv_at hl 1 rfl) ?_
  refine lv_iconst (v := 2) hx hb dL_act_36 (by decide) ?_
  refine lv_icmp_ne (tgt := 48) hx hb dL_act_37 (by decide) (fun _ => ?_) (fun h9 => absurd (show (9 : Int32) = 2 from h9) (by decide))
  refine lv_iload_n hx hb dL_act_48 rfl (lv_at hl 1 rfl) ?_
  refine lv_iconst (v := 3) hx hb dL_act_49 (by decide) ?_
  refine lv_icmp_ne (tgt := 61) hx hb dL_act_50 (by decide) (fun _ => ?_) (fun h9 => absurd (show (9 : Int32) = 3 from h9) (by decide))
  refine lv_iload_n hx hb dL_act_61 rfl (lv_at hl 1 rfl) ?_
  refine lv_iconst (v := 4) hx hb dL_act_62 (by decide) ?_
  refine lv_icmp_ne (tgt := 77) hx hb dL_act_63 (by decide) (fun _ => ?_) (fun h9 => absurd (show (9 : Int32) = 4 from h9) (by decide))
  refine lv_iload_n hx hb dL_act_77 rfl (lv_at hl 1 rfl) ?_
  refine lv_iconst (v := 5) hx hb dL_act_78 (by decide) ?_
  refine lv_icmp_ne (tgt := 91) hx hb dL_act_79 (by decide) (fun _ => ?_) (fun h9 => absurd (show (9 : Int32) = 5 from h9) (by decide))
  refine lv_iload_n hx hb dL_act_91 rfl (lv_at hl 1 rfl) ?_
  refine lv_bipush (v := 6) hx hb dL_act_92 (by decide) ?_
  refine lv_icmp_ne (tgt := 117) hx hb dL_act_94 (by decide) (fun _ => ?_) (fun h9 => absurd (show (9 : Int32) = 6 from h9) (by decide))
  refine lv_iload_n hx hb dL_act_117 rfl (lv_at hl 1 rfl) ?_
  refine lv_bipush (v := 7) hx hb dL_act_118 (by decide) ?_
  refine lv_icmp_ne (tgt := 145) hx hb dL_act_120 (by decide) (fun _ => ?_) (fun h9 => absurd (show (9 : Int32) = 7 from h9) (by decide))
  refine lv_iload_n hx hb dL_act_145 rfl (lv_at hl 1 rfl) ?_
  refine lv_bipush (v := 8) hx hb dL_act_146 (by decide) ?_
  refine lv_icmp_ne (tgt := 159) hx hb dL_act_148 (by decide) (fun _ => ?_) (fun h9 => absurd (show (9 : Int32) = 8 from h9) (by decide))
  refine lv_iload_n hx hb dL_act_159 rfl (lv_at hl 1 rfl) ?_
  refine lv_bipush (v := 9) hx hb dL_act_160 (by decide) ?_
  refine lv_icmp_ne (tgt := 173) hx hb dL_act_162 (by decide) (fun h9 => absurd rfl h9) (fun _ => ?_)
  refine lv_aload_n hx hb dL_act_165 rfl (lv_at hl 0 rfl) ?_
  refine lv_iload_n hx hb dL_act_166 rfl (lv_at hl 2 rfl) ?_
  refine o_gox (x_V (n := 1) (As := [.int a1]) (rest := []) hM hE hX hl (c_X4_type l hfl γ L F o ad tg M nd D hRc hI a1) hRc.1.1 hRc.1.2.2 rfl k_673 k_674 k_675 k_1 k_676 ⟨rfl, by decide, by decide, by decide +kernel⟩ (by decide) rfl rfl (Nat.le_of_ble_eq_true rfl) dL_act_167 (by decide)) hE hX (fun v L1 F1 H1 locs1 hv hX1 => ?_) (fun E ce q9 H1 locs1 hno hX1 hce hcv hcl => ?_)
  · obtain ⟨r, rfl, hp⟩ := hv
    refine lv_goto (tgt := 344) hx hb dL_act_170 (by decide) ?_
    exact k_iret hM hsz hX1 ⟨_, rfl, Ac.wr hnd hp⟩ (by decide) (by decide) dL_act_344
  · rcases hno with ⟨rfl, ht⟩ | ⟨rfl, ht⟩
    · refine x_h2 hM htab (by decide) k_493 hE.2.1.2.2.2.2.2.2.2.2.2.2.2.1.1 (by decide) (by decide) k_494 hE.2.1.2.2.2.2.2.2.2.2.2.2.1.2.1 hce hcv hcl ?_
      refine lv_astore (lv' := [(7, .ref q9), (0, .ref o), (1, .int 9), (2, .int a1), (3, .int b1), (4, .int c1), (5, .int d1), (6, .int e1)]) hx hb dL_act_350 hl (by decide) rfl (fun ls hl => ?_)
      refine lv_ldc hx hb hM.2.2.2.1 (hM.2.2.2.2.1 _ k_989) dL_act_352 ?_
      exact k_iret hM hsz hX1 ⟨_, rfl, Ac.no (q := (1, -7000002)) hRc hI hnd hz ht (by simp)⟩ (by decide) (by decide) dL_act_354
    · refine x_h3 hM htab (by decide) k_493 hE.2.1.2.2.2.2.2.2.2.2.2.2.2.1.2.1 (by decide) k_494 hE.2.1.2.2.2.2.2.2.2.2.2.2.2.1.2.2 (by decide) (by decide) k_495 hE.2.1.2.2.2.2.2.2.2.2.2.2.1.2.2 hce hcv hcl ?_
      refine lv_astore (lv' := [(7, .ref q9), (0, .ref o), (1, .int 9), (2, .int a1), (3, .int b1), (4, .int c1), (5, .int d1), (6, .int e1)]) hx hb dL_act_355 hl (by decide) rfl (fun ls hl => ?_)
      refine lv_ldc hx hb hM.2.2.2.1 (hM.2.2.2.2.1 _ k_990) dL_act_357 ?_
      exact k_iret hM hsz hX1 ⟨_, rfl, Ac.no (q := (2, -7000003)) hRc hI hnd hz ht (by simp)⟩ (by decide) (by decide) dL_act_359
set_option maxHeartbeats 4000000 in
set_option maxRecDepth 100000 in
theorem c_act_10 (l : Launch) (hfl : l.stackTraces = false) (γ : kG) (L : List Nat) (F : kF) (o n : Nat) (M : mM) (hO : Ob γ o M n L F) (hn : n < 512) (a1 b1 c1 d1 e1 : Int32) : kCW l yL_act cL_act 8 (some .int) [(0, 344, 345, 81), (0, 344, 350, 84), (0, 344, 355, 87)] (kRm 9 7 1100) γ L F [.ref o, .int 10, .int a1, .int b1, .int c1, .int d1, .int e1] (kI fun r L1 F1 => Ac γ o n M (payTextM M a1 b1 c1) [(1, -7000001), (2, -7000002), (3, -7000003)] r L1 F1) := by
  refine kCW_of (by decide +kernel) (Nat.le_of_ble_eq_true rfl) ?_
  intro p e s m args below meth c sz ls hargs hsz hM htab hE hX hl
  have hx := hM.1
  have hb := hM.2.1
  have hl : lv_has ls 8 [(0, .ref o), (1, .int 10), (2, .int a1), (3, .int b1), (4, .int c1), (5, .int d1), (6, .int e1)] := hl
  obtain ⟨ad, tg, nd, D, hRc, hI, hnd, hz⟩ := hO
  refine lv_iload_n hx hb dL_act_0 rfl (lv_at hl 1 rfl) ?_
  refine lv_if_ne (tgt := 19) hx hb dL_act_1 (by decide) (fun _ => ?_) (fun h9 => absurd (show (10 : Int32) = 0 from h9) (by decide))
  refine lv_iload_n hx hb dL_act_19 rfl (lv_at hl 1 rfl) ?_
  refine lv_iconst (v := 1) hx hb dL_act_20 (by decide) ?_
  refine lv_icmp_ne (tgt := 35) hx hb dL_act_21 (by decide) (fun _ => ?_) (fun h9 => absurd (show (10 : Int32) = 1 from h9) (by decide))
  refine lv_iload_n hx hb dL_act_35 rfl (lv_at hl 1 rfl) ?_
  refine lv_iconst (v := 2) hx hb dL_act_36 (by decide) ?_
  refine lv_icmp_ne (tgt := 48) hx hb dL_act_37 (by decide) (fun _ => ?_) (fun h9 => absurd (show (10 : Int32) = 2 from h9) (by decide))
  refine lv_iload_n hx hb dL_act_48 rfl (lv_at hl 1 rfl) ?_
  refine lv_iconst (v := 3) hx hb dL_act_49 (by decide) ?_
  refine lv_icmp_ne (tgt := 61) hx hb dL_act_50 (by decide) (fun _ => ?_) (fun h9 => absurd (show (10 : Int32) = 3 from h9) (by decide))
  refine lv_iload_n hx hb dL_act_61 rfl (lv_at hl 1 rfl) ?_
  refine lv_iconst (v := 4) hx hb dL_act_62 (by decide) ?_
  refine lv_icmp_ne (tgt := 77) hx hb dL_act_63 (by decide) (fun _ => ?_) (fun h9 => absurd (show (10 : Int32) = 4 from h9) (by decide))
  refine lv_iload_n hx hb dL_act_77 rfl (lv_at hl 1 rfl) ?_
  refine lv_iconst (v := 5) hx hb dL_act_78 (by decide) ?_
  refine lv_icmp_ne (tgt := 91) hx hb dL_act_79 (by decide) (fun _ => ?_) (fun h9 => absurd (show (10 : Int32) = 5 from h9) (by decide))
  refine lv_iload_n hx hb dL_act_91 rfl (lv_at hl 1 rfl) ?_
  refine lv_bipush (v := 6) hx hb dL_act_92 (by decide) ?_
  refine lv_icmp_ne (tgt := 117) hx hb dL_act_94 (by decide) (fun _ => ?_) (fun h9 => absurd (show (10 : Int32) = 6 from h9) (by decide))
  refine lv_iload_n hx hb dL_act_117 rfl (lv_at hl 1 rfl) ?_
  refine lv_bipush (v := 7) hx hb dL_act_118 (by decide) ?_
  refine lv_icmp_ne (tgt := 145) hx hb dL_act_120 (by decide) (fun _ => ?_) (fun h9 => absurd (show (10 : Int32) = 7 from h9) (by decide))
  refine lv_iload_n hx hb dL_act_145 rfl (lv_at hl 1 rfl) ?_
  refine lv_bipush (v := 8) hx hb dL_act_146 (by decide) ?_
  refine lv_icmp_ne (tgt := 159) hx hb dL_act_148 (by decide) (fun _ => ?_) (fun h9 => absurd (show (10 : Int32) = 8 from h9) (by decide))
  refine lv_iload_n hx hb dL_act_159 rfl (lv_at hl 1 rfl) ?_
  refine lv_bipush (v := 9) hx hb dL_act_160 (by decide) ?_
  refine lv_icmp_ne (tgt := 173) hx hb dL_act_162 (by decide) (fun _ => ?_) (fun h9 => absurd (show (10 : Int32) = 9 from h9) (by decide))
  refine lv_iload_n hx hb dL_act_173 rfl (lv_at hl 1 rfl) ?_
  refine lv_bipush (v := 10) hx hb dL_act_174 (by decide) ?_
  refine lv_icmp_ne (tgt := 190) hx hb dL_act_176 (by decide) (fun h9 => absurd rfl h9) (fun _ => ?_)
  refine lv_aload_n hx hb dL_act_179 rfl (lv_at hl 0 rfl) ?_
  refine lv_iload_n hx hb dL_act_180 rfl (lv_at hl 2 rfl) ?_
  refine lv_iload_n hx hb dL_act_181 rfl (lv_at hl 3 rfl) ?_
  refine lv_iload hx hb dL_act_182 (lv_at hl 4 rfl) ?_
  refine o_gox (x_V (n := 3) (As := [.int a1, .int b1, .int c1]) (rest := []) hM hE hX hl (c_X4_payByText l hfl γ L F o ad tg M nd D hRc hI (by omega) a1 b1 c1) hRc.1.1 hRc.1.2.2 rfl k_764 k_765 k_766 k_1 k_767 ⟨rfl, by decide, by decide, by decide +kernel⟩ (by decide) rfl rfl (Nat.le_of_ble_eq_true rfl) dL_act_184 (by decide)) hE hX (fun v L1 F1 H1 locs1 hv hX1 => ?_) (fun E ce q9 H1 locs1 hno hX1 hce hcv hcl => ?_)
  · obtain ⟨r, rfl, hp⟩ := hv
    refine lv_goto (tgt := 344) hx hb dL_act_187 (by decide) ?_
    exact k_iret hM hsz hX1 ⟨_, rfl, Ac.wr hnd hp⟩ (by decide) (by decide) dL_act_344
  · rcases hno with ⟨rfl, ht⟩ | ⟨rfl, ht⟩ | ⟨rfl, ht⟩
    · refine x_h1 hM htab (by decide) (by decide) k_493 hE.2.1.2.2.2.2.2.2.2.2.2.2.1.1 hce hcv hcl ?_
      refine lv_astore (lv' := [(7, .ref q9), (0, .ref o), (1, .int 10), (2, .int a1), (3, .int b1), (4, .int c1), (5, .int d1), (6, .int e1)]) hx hb dL_act_345 hl (by decide) rfl (fun ls hl => ?_)
      refine lv_ldc hx hb hM.2.2.2.1 (hM.2.2.2.2.1 _ k_988) dL_act_347 ?_
      exact k_iret hM hsz hX1 ⟨_, rfl, Ac.no (q := (1, -7000001)) hRc hI hnd hz ht (by simp)⟩ (by decide) (by decide) dL_act_349
    · refine x_h2 hM htab (by decide) k_493 hE.2.1.2.2.2.2.2.2.2.2.2.2.2.1.1 (by decide) (by decide) k_494 hE.2.1.2.2.2.2.2.2.2.2.2.2.1.2.1 hce hcv hcl ?_
      refine lv_astore (lv' := [(7, .ref q9), (0, .ref o), (1, .int 10), (2, .int a1), (3, .int b1), (4, .int c1), (5, .int d1), (6, .int e1)]) hx hb dL_act_350 hl (by decide) rfl (fun ls hl => ?_)
      refine lv_ldc hx hb hM.2.2.2.1 (hM.2.2.2.2.1 _ k_989) dL_act_352 ?_
      exact k_iret hM hsz hX1 ⟨_, rfl, Ac.no (q := (2, -7000002)) hRc hI hnd hz ht (by simp)⟩ (by decide) (by decide) dL_act_354
    · refine x_h3 hM htab (by decide) k_493 hE.2.1.2.2.2.2.2.2.2.2.2.2.2.1.2.1 (by decide) k_494 hE.2.1.2.2.2.2.2.2.2.2.2.2.2.1.2.2 (by decide) (by decide) k_495 hE.2.1.2.2.2.2.2.2.2.2.2.2.1.2.2 hce hcv hcl ?_
      refine lv_astore (lv' := [(7, .ref q9), (0, .ref o), (1, .int 10), (2, .int a1), (3, .int b1), (4, .int c1), (5, .int d1), (6, .int e1)]) hx hb dL_act_355 hl (by decide) rfl (fun ls hl => ?_)
      refine lv_ldc hx hb hM.2.2.2.1 (hM.2.2.2.2.1 _ k_990) dL_act_357 ?_
      exact k_iret hM hsz hX1 ⟨_, rfl, Ac.no (q := (3, -7000003)) hRc hI hnd hz ht (by simp)⟩ (by decide) (by decide) dL_act_359
set_option maxHeartbeats 4000000 in
set_option maxRecDepth 100000 in
theorem c_act_11 (l : Launch) (hfl : l.stackTraces = false) (γ : kG) (L : List Nat) (F : kF) (o n : Nat) (M : mM) (hO : Ob γ o M n L F) (hn : n < 512) (a1 b1 c1 d1 e1 : Int32) : kCW l yL_act cL_act 8 (some .int) [(0, 344, 345, 81), (0, 344, 350, 84), (0, 344, 355, 87)] (kRm 9 7 1100) γ L F [.ref o, .int 11, .int a1, .int b1, .int c1, .int d1, .int e1] (kI fun r L1 F1 => Ac γ o n M (paySumM M a1 b1 c1) [(1, -7000001), (2, -7000002), (3, -7000003)] r L1 F1) := by
  refine kCW_of (by decide +kernel) (Nat.le_of_ble_eq_true rfl) ?_
  intro p e s m args below meth c sz ls hargs hsz hM htab hE hX hl
  have hx := hM.1
  have hb := hM.2.1
  have hl : lv_has ls 8 [(0, .ref o), (1, .int 11), (2, .int a1), (3, .int b1), (4, .int c1), (5, .int d1), (6, .int e1)] := hl
  obtain ⟨ad, tg, nd, D, hRc, hI, hnd, hz⟩ := hO
  refine lv_iload_n hx hb dL_act_0 rfl (lv_at hl 1 rfl) ?_
  refine lv_if_ne (tgt := 19) hx hb dL_act_1 (by decide) (fun _ => ?_) (fun h9 => absurd (show (11 : Int32) = 0 from h9) (by decide))
  refine lv_iload_n hx hb dL_act_19 rfl (lv_at hl 1 rfl) ?_
  refine lv_iconst (v := 1) hx hb dL_act_20 (by decide) ?_
  refine lv_icmp_ne (tgt := 35) hx hb dL_act_21 (by decide) (fun _ => ?_) (fun h9 => absurd (show (11 : Int32) = 1 from h9) (by decide))
  refine lv_iload_n hx hb dL_act_35 rfl (lv_at hl 1 rfl) ?_
  refine lv_iconst (v := 2) hx hb dL_act_36 (by decide) ?_
  refine lv_icmp_ne (tgt := 48) hx hb dL_act_37 (by decide) (fun _ => ?_) (fun h9 => absurd (show (11 : Int32) = 2 from h9) (by decide))
  refine lv_iload_n hx hb dL_act_48 rfl (lv_at hl 1 rfl) ?_
  refine lv_iconst (v := 3) hx hb dL_act_49 (by decide) ?_
  refine lv_icmp_ne (tgt := 61) hx hb dL_act_50 (by decide) (fun _ => ?_) (fun h9 => absurd (show (11 : Int32) = 3 from h9) (by decide))
  refine lv_iload_n hx hb dL_act_61 rfl (lv_at hl 1 rfl) ?_
  refine lv_iconst (v := 4) hx hb dL_act_62 (by decide) ?_
  refine lv_icmp_ne (tgt := 77) hx hb dL_act_63 (by decide) (fun _ => ?_) (fun h9 => absurd (show (11 : Int32) = 4 from h9) (by decide))
  refine lv_iload_n hx hb dL_act_77 rfl (lv_at hl 1 rfl) ?_
  refine lv_iconst (v := 5) hx hb dL_act_78 (by decide) ?_
  refine lv_icmp_ne (tgt := 91) hx hb dL_act_79 (by decide) (fun _ => ?_) (fun h9 => absurd (show (11 : Int32) = 5 from h9) (by decide))
  refine lv_iload_n hx hb dL_act_91 rfl (lv_at hl 1 rfl) ?_
  refine lv_bipush (v := 6) hx hb dL_act_92 (by decide) ?_
  refine lv_icmp_ne (tgt := 117) hx hb dL_act_94 (by decide) (fun _ => ?_) (fun h9 => absurd (show (11 : Int32) = 6 from h9) (by decide))
  refine lv_iload_n hx hb dL_act_117 rfl (lv_at hl 1 rfl) ?_
  refine lv_bipush (v := 7) hx hb dL_act_118 (by decide) ?_
  refine lv_icmp_ne (tgt := 145) hx hb dL_act_120 (by decide) (fun _ => ?_) (fun h9 => absurd (show (11 : Int32) = 7 from h9) (by decide))
  refine lv_iload_n hx hb dL_act_145 rfl (lv_at hl 1 rfl) ?_
  refine lv_bipush (v := 8) hx hb dL_act_146 (by decide) ?_
  refine lv_icmp_ne (tgt := 159) hx hb dL_act_148 (by decide) (fun _ => ?_) (fun h9 => absurd (show (11 : Int32) = 8 from h9) (by decide))
  refine lv_iload_n hx hb dL_act_159 rfl (lv_at hl 1 rfl) ?_
  refine lv_bipush (v := 9) hx hb dL_act_160 (by decide) ?_
  refine lv_icmp_ne (tgt := 173) hx hb dL_act_162 (by decide) (fun _ => ?_) (fun h9 => absurd (show (11 : Int32) = 9 from h9) (by decide))
  refine lv_iload_n hx hb dL_act_173 rfl (lv_at hl 1 rfl) ?_
  refine lv_bipush (v := 10) hx hb dL_act_174 (by decide) ?_
  refine lv_icmp_ne (tgt := 190) hx hb dL_act_176 (by decide) (fun _ => ?_) (fun h9 => absurd (show (11 : Int32) = 10 from h9) (by decide))
  refine lv_iload_n hx hb dL_act_190 rfl (lv_at hl 1 rfl) ?_
  refine lv_bipush (v := 11) hx hb dL_act_191 (by decide) ?_
  refine lv_icmp_ne (tgt := 207) hx hb dL_act_193 (by decide) (fun h9 => absurd rfl h9) (fun _ => ?_)
  refine lv_aload_n hx hb dL_act_196 rfl (lv_at hl 0 rfl) ?_
  refine lv_iload_n hx hb dL_act_197 rfl (lv_at hl 2 rfl) ?_
  refine lv_iload_n hx hb dL_act_198 rfl (lv_at hl 3 rfl) ?_
  refine lv_iload hx hb dL_act_199 (lv_at hl 4 rfl) ?_
  refine o_gox (x_V (n := 3) (As := [.int a1, .int b1, .int c1]) (rest := []) hM hE hX hl (c_X4_payBySum l hfl γ L F o ad tg M nd D hRc hI (by omega) a1 b1 c1) hRc.1.1 hRc.1.2.2 rfl k_117 k_118 k_119 k_1 k_120 ⟨rfl, by decide, by decide, by decide +kernel⟩ (by decide) rfl rfl (Nat.le_of_ble_eq_true rfl) dL_act_201 (by decide)) hE hX (fun v L1 F1 H1 locs1 hv hX1 => ?_) (fun E ce q9 H1 locs1 hno hX1 hce hcv hcl => ?_)
  · obtain ⟨r, rfl, hp⟩ := hv
    refine lv_goto (tgt := 344) hx hb dL_act_204 (by decide) ?_
    exact k_iret hM hsz hX1 ⟨_, rfl, Ac.wr hnd hp⟩ (by decide) (by decide) dL_act_344
  · rcases hno with ⟨rfl, ht⟩ | ⟨rfl, ht⟩ | ⟨rfl, ht⟩
    · refine x_h1 hM htab (by decide) (by decide) k_493 hE.2.1.2.2.2.2.2.2.2.2.2.2.1.1 hce hcv hcl ?_
      refine lv_astore (lv' := [(7, .ref q9), (0, .ref o), (1, .int 11), (2, .int a1), (3, .int b1), (4, .int c1), (5, .int d1), (6, .int e1)]) hx hb dL_act_345 hl (by decide) rfl (fun ls hl => ?_)
      refine lv_ldc hx hb hM.2.2.2.1 (hM.2.2.2.2.1 _ k_988) dL_act_347 ?_
      exact k_iret hM hsz hX1 ⟨_, rfl, Ac.no (q := (1, -7000001)) hRc hI hnd hz ht (by simp)⟩ (by decide) (by decide) dL_act_349
    · refine x_h2 hM htab (by decide) k_493 hE.2.1.2.2.2.2.2.2.2.2.2.2.2.1.1 (by decide) (by decide) k_494 hE.2.1.2.2.2.2.2.2.2.2.2.2.1.2.1 hce hcv hcl ?_
      refine lv_astore (lv' := [(7, .ref q9), (0, .ref o), (1, .int 11), (2, .int a1), (3, .int b1), (4, .int c1), (5, .int d1), (6, .int e1)]) hx hb dL_act_350 hl (by decide) rfl (fun ls hl => ?_)
      refine lv_ldc hx hb hM.2.2.2.1 (hM.2.2.2.2.1 _ k_989) dL_act_352 ?_
      exact k_iret hM hsz hX1 ⟨_, rfl, Ac.no (q := (2, -7000002)) hRc hI hnd hz ht (by simp)⟩ (by decide) (by decide) dL_act_354
    · refine x_h3 hM htab (by decide) k_493 hE.2.1.2.2.2.2.2.2.2.2.2.2.2.1.2.1 (by decide) k_494 hE.2.1.2.2.2.2.2.2.2.2.2.2.2.1.2.2 (by decide) (by decide) k_495 hE.2.1.2.2.2.2.2.2.2.2.2.2.1.2.2 hce hcv hcl ?_
      refine lv_astore (lv' := [(7, .ref q9), (0, .ref o), (1, .int 11), (2, .int a1), (3, .int b1), (4, .int c1), (5, .int d1), (6, .int e1)]) hx hb dL_act_355 hl (by decide) rfl (fun ls hl => ?_)
      refine lv_ldc hx hb hM.2.2.2.1 (hM.2.2.2.2.1 _ k_990) dL_act_357 ?_
      exact k_iret hM hsz hX1 ⟨_, rfl, Ac.no (q := (3, -7000003)) hRc hI hnd hz ht (by simp)⟩ (by decide) (by decide) dL_act_359
set_option maxHeartbeats 4000000 in
set_option maxRecDepth 100000 in
theorem c_act_12 (l : Launch) (hfl : l.stackTraces = false) (γ : kG) (L : List Nat) (F : kF) (o n : Nat) (M : mM) (hO : Ob γ o M n L F) (a1 b1 c1 d1 e1 : Int32) : kCW l yL_act cL_act 8 (some .int) [(0, 344, 345, 81), (0, 344, 350, 84), (0, 344, 355, 87)] (kRm 2 1 6) γ L F [.ref o, .int 12, .int a1, .int b1, .int c1, .int d1, .int e1] (kI fun r L1 F1 => Ac γ o n M (passM M a1) [(1, -7000002), (2, -7000003)] r L1 F1) := by
  refine kCW_of (by decide +kernel) (Nat.le_of_ble_eq_true rfl) ?_
  intro p e s m args below meth c sz ls hargs hsz hM htab hE hX hl
  have hx := hM.1
  have hb := hM.2.1
  have hl : lv_has ls 8 [(0, .ref o), (1, .int 12), (2, .int a1), (3, .int b1), (4, .int c1), (5, .int d1), (6, .int e1)] := hl
  obtain ⟨ad, tg, nd, D, hRc, hI, hnd, hz⟩ := hO
  refine lv_iload_n hx hb dL_act_0 rfl (lv_at hl 1 rfl) ?_
  refine lv_if_ne (tgt := 19) hx hb dL_act_1 (by decide) (fun _ => ?_) (fun h9 => absurd (show (12 : Int32) = 0 from h9) (by decide))
  refine lv_iload_n hx hb dL_act_19 rfl (lv_at hl 1 rfl) ?_
  refine lv_iconst (v := 1) hx hb dL_act_20 (by decide) ?_
  refine lv_icmp_ne (tgt := 35) hx hb dL_act_21 (by decide) (fun _ => ?_) (fun h9 => absurd (show (12 : Int32) = 1 from h9) (by decide))
  refine lv_iload_n hx hb dL_act_35 rfl (lv_at hl 1 rfl) ?_
  refine lv_iconst (v := 2) hx hb dL_act_36 (by decide) ?_
  refine lv_icmp_ne (tgt := 48) hx hb dL_act_37 (by decide) (fun _ => ?_) (fun h9 => absurd (show (12 : Int32) = 2 from h9) (by decide))
  refine lv_iload_n hx hb dL_act_48 rfl (lv_at hl 1 rfl) ?_
  refine lv_iconst (v := 3) hx hb dL_act_49 (by decide) ?_
  refine lv_icmp_ne (tgt := 61) hx hb dL_act_50 (by decide) (fun _ => ?_) (fun h9 => absurd (show (12 : Int32) = 3 from h9) (by decide))
  refine lv_iload_n hx hb dL_act_61 rfl (lv_at hl 1 rfl) ?_
  refine lv_iconst (v := 4) hx hb dL_act_62 (by decide) ?_
  refine lv_icmp_ne (tgt := 77) hx hb dL_act_63 (by decide) (fun _ => ?_) (fun h9 => absurd (show (12 : Int32) = 4 from h9) (by decide))
  refine lv_iload_n hx hb dL_act_77 rfl (lv_at hl 1 rfl) ?_
  refine lv_iconst (v := 5) hx hb dL_act_78 (by decide) ?_
  refine lv_icmp_ne (tgt := 91) hx hb dL_act_79 (by decide) (fun _ => ?_) (fun h9 => absurd (show (12 : Int32) = 5 from h9) (by decide))
  refine lv_iload_n hx hb dL_act_91 rfl (lv_at hl 1 rfl) ?_
  refine lv_bipush (v := 6) hx hb dL_act_92 (by decide) ?_
  refine lv_icmp_ne (tgt := 117) hx hb dL_act_94 (by decide) (fun _ => ?_) (fun h9 => absurd (show (12 : Int32) = 6 from h9) (by decide))
  refine lv_iload_n hx hb dL_act_117 rfl (lv_at hl 1 rfl) ?_
  refine lv_bipush (v := 7) hx hb dL_act_118 (by decide) ?_
  refine lv_icmp_ne (tgt := 145) hx hb dL_act_120 (by decide) (fun _ => ?_) (fun h9 => absurd (show (12 : Int32) = 7 from h9) (by decide))
  refine lv_iload_n hx hb dL_act_145 rfl (lv_at hl 1 rfl) ?_
  refine lv_bipush (v := 8) hx hb dL_act_146 (by decide) ?_
  refine lv_icmp_ne (tgt := 159) hx hb dL_act_148 (by decide) (fun _ => ?_) (fun h9 => absurd (show (12 : Int32) = 8 from h9) (by decide))
  refine lv_iload_n hx hb dL_act_159 rfl (lv_at hl 1 rfl) ?_
  refine lv_bipush (v := 9) hx hb dL_act_160 (by decide) ?_
  refine lv_icmp_ne (tgt := 173) hx hb dL_act_162 (by decide) (fun _ => ?_) (fun h9 => absurd (show (12 : Int32) = 9 from h9) (by decide))
  refine lv_iload_n hx hb dL_act_173 rfl (lv_at hl 1 rfl) ?_
  refine lv_bipush (v := 10) hx hb dL_act_174 (by decide) ?_
  refine lv_icmp_ne (tgt := 190) hx hb dL_act_176 (by decide) (fun _ => ?_) (fun h9 => absurd (show (12 : Int32) = 10 from h9) (by decide))
  refine lv_iload_n hx hb dL_act_190 rfl (lv_at hl 1 rfl) ?_
  refine lv_bipush (v := 11) hx hb dL_act_191 (by decide) ?_
  refine lv_icmp_ne (tgt := 207) hx hb dL_act_193 (by decide) (fun _ => ?_) (fun h9 => absurd (show (12 : Int32) = 11 from h9) (by decide))
  refine lv_iload_n hx hb dL_act_207 rfl (lv_at hl 1 rfl) ?_
  refine lv_bipush (v := 12) hx hb dL_act_208 (by decide) ?_
  refine lv_icmp_ne (tgt := 221) hx hb dL_act_210 (by decide) (fun h9 => absurd rfl h9) (fun _ => ?_)
  refine lv_aload_n hx hb dL_act_213 rfl (lv_at hl 0 rfl) ?_
  refine lv_iload_n hx hb dL_act_214 rfl (lv_at hl 2 rfl) ?_
  refine o_gox (x_V (n := 1) (As := [.int a1]) (rest := []) hM hE hX hl (c_X4_pass l hfl γ L F o ad tg M nd D hRc hI a1) hRc.1.1 hRc.1.2.2 rfl k_370 k_371 k_372 k_1 k_373 ⟨rfl, by decide, by decide, by decide +kernel⟩ (by decide) rfl rfl (Nat.le_of_ble_eq_true rfl) dL_act_215 (by decide)) hE hX (fun v L1 F1 H1 locs1 hv hX1 => ?_) (fun E ce q9 H1 locs1 hno hX1 hce hcv hcl => ?_)
  · obtain ⟨r, rfl, hp⟩ := hv
    refine lv_goto (tgt := 344) hx hb dL_act_218 (by decide) ?_
    exact k_iret hM hsz hX1 ⟨_, rfl, Ac.wr hnd hp⟩ (by decide) (by decide) dL_act_344
  · rcases hno with ⟨rfl, ht⟩ | ⟨rfl, ht⟩
    · refine x_h2 hM htab (by decide) k_493 hE.2.1.2.2.2.2.2.2.2.2.2.2.2.1.1 (by decide) (by decide) k_494 hE.2.1.2.2.2.2.2.2.2.2.2.2.1.2.1 hce hcv hcl ?_
      refine lv_astore (lv' := [(7, .ref q9), (0, .ref o), (1, .int 12), (2, .int a1), (3, .int b1), (4, .int c1), (5, .int d1), (6, .int e1)]) hx hb dL_act_350 hl (by decide) rfl (fun ls hl => ?_)
      refine lv_ldc hx hb hM.2.2.2.1 (hM.2.2.2.2.1 _ k_989) dL_act_352 ?_
      exact k_iret hM hsz hX1 ⟨_, rfl, Ac.no (q := (1, -7000002)) hRc hI hnd hz ht (by simp)⟩ (by decide) (by decide) dL_act_354
    · refine x_h3 hM htab (by decide) k_493 hE.2.1.2.2.2.2.2.2.2.2.2.2.2.1.2.1 (by decide) k_494 hE.2.1.2.2.2.2.2.2.2.2.2.2.2.1.2.2 (by decide) (by decide) k_495 hE.2.1.2.2.2.2.2.2.2.2.2.2.1.2.2 hce hcv hcl ?_
      refine lv_astore (lv' := [(7, .ref q9), (0, .ref o), (1, .int 12), (2, .int a1), (3, .int b1), (4, .int c1), (5, .int d1), (6, .int e1)]) hx hb dL_act_355 hl (by decide) rfl (fun ls hl => ?_)
      refine lv_ldc hx hb hM.2.2.2.1 (hM.2.2.2.2.1 _ k_990) dL_act_357 ?_
      exact k_iret hM hsz hX1 ⟨_, rfl, Ac.no (q := (2, -7000003)) hRc hI hnd hz ht (by simp)⟩ (by decide) (by decide) dL_act_359
set_option maxHeartbeats 4000000 in
set_option maxRecDepth 100000 in
theorem c_act_13 (l : Launch) (hfl : l.stackTraces = false) (γ : kG) (L : List Nat) (F : kF) (o n : Nat) (M : mM) (hO : Ob γ o M n L F) (a1 b1 c1 d1 e1 : Int32) : kCW l yL_act cL_act 8 (some .int) [(0, 344, 345, 81), (0, 344, 350, 84), (0, 344, 355, 87)] (kRm 5 2 12) γ L F [.ref o, .int 13, .int a1, .int b1, .int c1, .int d1, .int e1] (kI fun r L1 F1 => Ac γ o n M (aboutM M a1 b1) [(1, -7000001), (2, -7000002)] r L1 F1) := by
  refine kCW_of (by decide +kernel) (Nat.le_of_ble_eq_true rfl) ?_
  intro p e s m args below meth c sz ls hargs hsz hM htab hE hX hl
  have hx := hM.1
  have hb := hM.2.1
  have hl : lv_has ls 8 [(0, .ref o), (1, .int 13), (2, .int a1), (3, .int b1), (4, .int c1), (5, .int d1), (6, .int e1)] := hl
  obtain ⟨ad, tg, nd, D, hRc, hI, hnd, hz⟩ := hO
  refine lv_iload_n hx hb dL_act_0 rfl (lv_at hl 1 rfl) ?_
  refine lv_if_ne (tgt := 19) hx hb dL_act_1 (by decide) (fun _ => ?_) (fun h9 => absurd (show (13 : Int32) = 0 from h9) (by decide))
  refine lv_iload_n hx hb dL_act_19 rfl (lv_at hl 1 rfl) ?_
  refine lv_iconst (v := 1) hx hb dL_act_20 (by decide) ?_
  refine lv_icmp_ne (tgt := 35) hx hb dL_act_21 (by decide) (fun _ => ?_) (fun h9 => absurd (show (13 : Int32) = 1 from h9) (by decide))
  refine lv_iload_n hx hb dL_act_35 rfl (lv_at hl 1 rfl) ?_
  refine lv_iconst (v := 2) hx hb dL_act_36 (by decide) ?_
  refine lv_icmp_ne (tgt := 48) hx hb dL_act_37 (by decide) (fun _ => ?_) (fun h9 => absurd (show (13 : Int32) = 2 from h9) (by decide))
  refine lv_iload_n hx hb dL_act_48 rfl (lv_at hl 1 rfl) ?_
  refine lv_iconst (v := 3) hx hb dL_act_49 (by decide) ?_
  refine lv_icmp_ne (tgt := 61) hx hb dL_act_50 (by decide) (fun _ => ?_) (fun h9 => absurd (show (13 : Int32) = 3 from h9) (by decide))
  refine lv_iload_n hx hb dL_act_61 rfl (lv_at hl 1 rfl) ?_
  refine lv_iconst (v := 4) hx hb dL_act_62 (by decide) ?_
  refine lv_icmp_ne (tgt := 77) hx hb dL_act_63 (by decide) (fun _ => ?_) (fun h9 => absurd (show (13 : Int32) = 4 from h9) (by decide))
  refine lv_iload_n hx hb dL_act_77 rfl (lv_at hl 1 rfl) ?_
  refine lv_iconst (v := 5) hx hb dL_act_78 (by decide) ?_
  refine lv_icmp_ne (tgt := 91) hx hb dL_act_79 (by decide) (fun _ => ?_) (fun h9 => absurd (show (13 : Int32) = 5 from h9) (by decide))
  refine lv_iload_n hx hb dL_act_91 rfl (lv_at hl 1 rfl) ?_
  refine lv_bipush (v := 6) hx hb dL_act_92 (by decide) ?_
  refine lv_icmp_ne (tgt := 117) hx hb dL_act_94 (by decide) (fun _ => ?_) (fun h9 => absurd (show (13 : Int32) = 6 from h9) (by decide))
  refine lv_iload_n hx hb dL_act_117 rfl (lv_at hl 1 rfl) ?_
  refine lv_bipush (v := 7) hx hb dL_act_118 (by decide) ?_
  refine lv_icmp_ne (tgt := 145) hx hb dL_act_120 (by decide) (fun _ => ?_) (fun h9 => absurd (show (13 : Int32) = 7 from h9) (by decide))
  refine lv_iload_n hx hb dL_act_145 rfl (lv_at hl 1 rfl) ?_
  refine lv_bipush (v := 8) hx hb dL_act_146 (by decide) ?_
  refine lv_icmp_ne (tgt := 159) hx hb dL_act_148 (by decide) (fun _ => ?_) (fun h9 => absurd (show (13 : Int32) = 8 from h9) (by decide))
  refine lv_iload_n hx hb dL_act_159 rfl (lv_at hl 1 rfl) ?_
  refine lv_bipush (v := 9) hx hb dL_act_160 (by decide) ?_
  refine lv_icmp_ne (tgt := 173) hx hb dL_act_162 (by decide) (fun _ => ?_) (fun h9 => absurd (show (13 : Int32) = 9 from h9) (by decide))
  refine lv_iload_n hx hb dL_act_173 rfl (lv_at hl 1 rfl) ?_
  refine lv_bipush (v := 10) hx hb dL_act_174 (by decide) ?_
  refine lv_icmp_ne (tgt := 190) hx hb dL_act_176 (by decide) (fun _ => ?_) (fun h9 => absurd (show (13 : Int32) = 10 from h9) (by decide))
  refine lv_iload_n hx hb dL_act_190 rfl (lv_at hl 1 rfl) ?_
  refine lv_bipush (v := 11) hx hb dL_act_191 (by decide) ?_
  refine lv_icmp_ne (tgt := 207) hx hb dL_act_193 (by decide) (fun _ => ?_) (fun h9 => absurd (show (13 : Int32) = 11 from h9) (by decide))
  refine lv_iload_n hx hb dL_act_207 rfl (lv_at hl 1 rfl) ?_
  refine lv_bipush (v := 12) hx hb dL_act_208 (by decide) ?_
  refine lv_icmp_ne (tgt := 221) hx hb dL_act_210 (by decide) (fun _ => ?_) (fun h9 => absurd (show (13 : Int32) = 12 from h9) (by decide))
  refine lv_iload_n hx hb dL_act_221 rfl (lv_at hl 1 rfl) ?_
  refine lv_bipush (v := 13) hx hb dL_act_222 (by decide) ?_
  refine lv_icmp_ne (tgt := 236) hx hb dL_act_224 (by decide) (fun h9 => absurd rfl h9) (fun _ => ?_)
  refine lv_aload_n hx hb dL_act_227 rfl (lv_at hl 0 rfl) ?_
  refine lv_iload_n hx hb dL_act_228 rfl (lv_at hl 2 rfl) ?_
  refine lv_iload_n hx hb dL_act_229 rfl (lv_at hl 3 rfl) ?_
  refine o_gox (x_V (n := 2) (As := [.int a1, .int b1]) (rest := []) hM hE hX hl (c_X4_about l hfl γ L F o ad tg M nd D hRc hI a1 b1) hRc.1.1 hRc.1.2.2 rfl k_379 k_380 k_381 k_1 k_382 ⟨rfl, by decide, by decide, by decide +kernel⟩ (by decide) rfl rfl (Nat.le_of_ble_eq_true rfl) dL_act_230 (by decide)) hE hX (fun v L1 F1 H1 locs1 hv hX1 => ?_) (fun E ce q9 H1 locs1 hno hX1 hce hcv hcl => ?_)
  · obtain ⟨r, rfl, hp⟩ := hv
    refine lv_goto (tgt := 344) hx hb dL_act_233 (by decide) ?_
    exact k_iret hM hsz hX1 ⟨_, rfl, Ac.rd hRc hI hnd hz hp⟩ (by decide) (by decide) dL_act_344
  · rcases hno with ⟨rfl, ht⟩ | ⟨rfl, ht⟩
    · refine x_h1 hM htab (by decide) (by decide) k_493 hE.2.1.2.2.2.2.2.2.2.2.2.2.1.1 hce hcv hcl ?_
      refine lv_astore (lv' := [(7, .ref q9), (0, .ref o), (1, .int 13), (2, .int a1), (3, .int b1), (4, .int c1), (5, .int d1), (6, .int e1)]) hx hb dL_act_345 hl (by decide) rfl (fun ls hl => ?_)
      refine lv_ldc hx hb hM.2.2.2.1 (hM.2.2.2.2.1 _ k_988) dL_act_347 ?_
      exact k_iret hM hsz hX1 ⟨_, rfl, Ac.no (q := (1, -7000001)) hRc hI hnd hz ht (by simp)⟩ (by decide) (by decide) dL_act_349
    · refine x_h2 hM htab (by decide) k_493 hE.2.1.2.2.2.2.2.2.2.2.2.2.2.1.1 (by decide) (by decide) k_494 hE.2.1.2.2.2.2.2.2.2.2.2.2.1.2.1 hce hcv hcl ?_
      refine lv_astore (lv' := [(7, .ref q9), (0, .ref o), (1, .int 13), (2, .int a1), (3, .int b1), (4, .int c1), (5, .int d1), (6, .int e1)]) hx hb dL_act_350 hl (by decide) rfl (fun ls hl => ?_)
      refine lv_ldc hx hb hM.2.2.2.1 (hM.2.2.2.2.1 _ k_989) dL_act_352 ?_
      exact k_iret hM hsz hX1 ⟨_, rfl, Ac.no (q := (2, -7000002)) hRc hI hnd hz ht (by simp)⟩ (by decide) (by decide) dL_act_354
set_option maxHeartbeats 4000000 in
set_option maxRecDepth 100000 in
theorem c_act_14 (l : Launch) (hfl : l.stackTraces = false) (γ : kG) (L : List Nat) (F : kF) (o n : Nat) (M : mM) (hO : Ob γ o M n L F) (a1 b1 c1 d1 e1 : Int32) : kCW l yL_act cL_act 8 (some .int) [(0, 344, 345, 81), (0, 344, 350, 84), (0, 344, 355, 87)] (kRm 5 3 18) γ L F [.ref o, .int 14, .int a1, .int b1, .int c1, .int d1, .int e1] (kI fun r L1 F1 => Ac γ o n M (lineOfM M a1 b1 c1) [(1, -7000001), (2, -7000002)] r L1 F1) := by
  refine kCW_of (by decide +kernel) (Nat.le_of_ble_eq_true rfl) ?_
  intro p e s m args below meth c sz ls hargs hsz hM htab hE hX hl
  have hx := hM.1
  have hb := hM.2.1
  have hl : lv_has ls 8 [(0, .ref o), (1, .int 14), (2, .int a1), (3, .int b1), (4, .int c1), (5, .int d1), (6, .int e1)] := hl
  obtain ⟨ad, tg, nd, D, hRc, hI, hnd, hz⟩ := hO
  refine lv_iload_n hx hb dL_act_0 rfl (lv_at hl 1 rfl) ?_
  refine lv_if_ne (tgt := 19) hx hb dL_act_1 (by decide) (fun _ => ?_) (fun h9 => absurd (show (14 : Int32) = 0 from h9) (by decide))
  refine lv_iload_n hx hb dL_act_19 rfl (lv_at hl 1 rfl) ?_
  refine lv_iconst (v := 1) hx hb dL_act_20 (by decide) ?_
  refine lv_icmp_ne (tgt := 35) hx hb dL_act_21 (by decide) (fun _ => ?_) (fun h9 => absurd (show (14 : Int32) = 1 from h9) (by decide))
  refine lv_iload_n hx hb dL_act_35 rfl (lv_at hl 1 rfl) ?_
  refine lv_iconst (v := 2) hx hb dL_act_36 (by decide) ?_
  refine lv_icmp_ne (tgt := 48) hx hb dL_act_37 (by decide) (fun _ => ?_) (fun h9 => absurd (show (14 : Int32) = 2 from h9) (by decide))
  refine lv_iload_n hx hb dL_act_48 rfl (lv_at hl 1 rfl) ?_
  refine lv_iconst (v := 3) hx hb dL_act_49 (by decide) ?_
  refine lv_icmp_ne (tgt := 61) hx hb dL_act_50 (by decide) (fun _ => ?_) (fun h9 => absurd (show (14 : Int32) = 3 from h9) (by decide))
  refine lv_iload_n hx hb dL_act_61 rfl (lv_at hl 1 rfl) ?_
  refine lv_iconst (v := 4) hx hb dL_act_62 (by decide) ?_
  refine lv_icmp_ne (tgt := 77) hx hb dL_act_63 (by decide) (fun _ => ?_) (fun h9 => absurd (show (14 : Int32) = 4 from h9) (by decide))
  refine lv_iload_n hx hb dL_act_77 rfl (lv_at hl 1 rfl) ?_
  refine lv_iconst (v := 5) hx hb dL_act_78 (by decide) ?_
  refine lv_icmp_ne (tgt := 91) hx hb dL_act_79 (by decide) (fun _ => ?_) (fun h9 => absurd (show (14 : Int32) = 5 from h9) (by decide))
  refine lv_iload_n hx hb dL_act_91 rfl (lv_at hl 1 rfl) ?_
  refine lv_bipush (v := 6) hx hb dL_act_92 (by decide) ?_
  refine lv_icmp_ne (tgt := 117) hx hb dL_act_94 (by decide) (fun _ => ?_) (fun h9 => absurd (show (14 : Int32) = 6 from h9) (by decide))
  refine lv_iload_n hx hb dL_act_117 rfl (lv_at hl 1 rfl) ?_
  refine lv_bipush (v := 7) hx hb dL_act_118 (by decide) ?_
  refine lv_icmp_ne (tgt := 145) hx hb dL_act_120 (by decide) (fun _ => ?_) (fun h9 => absurd (show (14 : Int32) = 7 from h9) (by decide))
  refine lv_iload_n hx hb dL_act_145 rfl (lv_at hl 1 rfl) ?_
  refine lv_bipush (v := 8) hx hb dL_act_146 (by decide) ?_
  refine lv_icmp_ne (tgt := 159) hx hb dL_act_148 (by decide) (fun _ => ?_) (fun h9 => absurd (show (14 : Int32) = 8 from h9) (by decide))
  refine lv_iload_n hx hb dL_act_159 rfl (lv_at hl 1 rfl) ?_
  refine lv_bipush (v := 9) hx hb dL_act_160 (by decide) ?_
  refine lv_icmp_ne (tgt := 173) hx hb dL_act_162 (by decide) (fun _ => ?_) (fun h9 => absurd (show (14 : Int32) = 9 from h9) (by decide))
  refine lv_iload_n hx hb dL_act_173 rfl (lv_at hl 1 rfl) ?_
  refine lv_bipush (v := 10) hx hb dL_act_174 (by decide) ?_
  refine lv_icmp_ne (tgt := 190) hx hb dL_act_176 (by decide) (fun _ => ?_) (fun h9 => absurd (show (14 : Int32) = 10 from h9) (by decide))
  refine lv_iload_n hx hb dL_act_190 rfl (lv_at hl 1 rfl) ?_
  refine lv_bipush (v := 11) hx hb dL_act_191 (by decide) ?_
  refine lv_icmp_ne (tgt := 207) hx hb dL_act_193 (by decide) (fun _ => ?_) (fun h9 => absurd (show (14 : Int32) = 11 from h9) (by decide))
  refine lv_iload_n hx hb dL_act_207 rfl (lv_at hl 1 rfl) ?_
  refine lv_bipush (v := 12) hx hb dL_act_208 (by decide) ?_
  refine lv_icmp_ne (tgt := 221) hx hb dL_act_210 (by decide) (fun _ => ?_) (fun h9 => absurd (show (14 : Int32) = 12 from h9) (by decide))
  refine lv_iload_n hx hb dL_act_221 rfl (lv_at hl 1 rfl) ?_
  refine lv_bipush (v := 13) hx hb dL_act_222 (by decide) ?_
  refine lv_icmp_ne (tgt := 236) hx hb dL_act_224 (by decide) (fun _ => ?_) (fun h9 => absurd (show (14 : Int32) = 13 from h9) (by decide))
  refine lv_iload_n hx hb dL_act_236 rfl (lv_at hl 1 rfl) ?_
  refine lv_bipush (v := 14) hx hb dL_act_237 (by decide) ?_
  refine lv_icmp_ne (tgt := 253) hx hb dL_act_239 (by decide) (fun h9 => absurd rfl h9) (fun _ => ?_)
  refine lv_aload_n hx hb dL_act_242 rfl (lv_at hl 0 rfl) ?_
  refine lv_iload_n hx hb dL_act_243 rfl (lv_at hl 2 rfl) ?_
  refine lv_iload_n hx hb dL_act_244 rfl (lv_at hl 3 rfl) ?_
  refine lv_iload hx hb dL_act_245 (lv_at hl 4 rfl) ?_
  refine o_gox (x_V (n := 3) (As := [.int a1, .int b1, .int c1]) (rest := []) hM hE hX hl (c_X4_lineOf l hfl γ L F o ad tg M nd D hRc hI a1 b1 c1) hRc.1.1 hRc.1.2.2 rfl k_401 k_402 k_403 k_1 k_404 ⟨rfl, by decide, by decide, by decide +kernel⟩ (by decide) rfl rfl (Nat.le_of_ble_eq_true rfl) dL_act_247 (by decide)) hE hX (fun v L1 F1 H1 locs1 hv hX1 => ?_) (fun E ce q9 H1 locs1 hno hX1 hce hcv hcl => ?_)
  · obtain ⟨r, rfl, hp⟩ := hv
    refine lv_goto (tgt := 344) hx hb dL_act_250 (by decide) ?_
    exact k_iret hM hsz hX1 ⟨_, rfl, Ac.rd hRc hI hnd hz hp⟩ (by decide) (by decide) dL_act_344
  · rcases hno with ⟨rfl, ht⟩ | ⟨rfl, ht⟩
    · refine x_h1 hM htab (by decide) (by decide) k_493 hE.2.1.2.2.2.2.2.2.2.2.2.2.1.1 hce hcv hcl ?_
      refine lv_astore (lv' := [(7, .ref q9), (0, .ref o), (1, .int 14), (2, .int a1), (3, .int b1), (4, .int c1), (5, .int d1), (6, .int e1)]) hx hb dL_act_345 hl (by decide) rfl (fun ls hl => ?_)
      refine lv_ldc hx hb hM.2.2.2.1 (hM.2.2.2.2.1 _ k_988) dL_act_347 ?_
      exact k_iret hM hsz hX1 ⟨_, rfl, Ac.no (q := (1, -7000001)) hRc hI hnd hz ht (by simp)⟩ (by decide) (by decide) dL_act_349
    · refine x_h2 hM htab (by decide) k_493 hE.2.1.2.2.2.2.2.2.2.2.2.2.2.1.1 (by decide) (by decide) k_494 hE.2.1.2.2.2.2.2.2.2.2.2.2.1.2.1 hce hcv hcl ?_
      refine lv_astore (lv' := [(7, .ref q9), (0, .ref o), (1, .int 14), (2, .int a1), (3, .int b1), (4, .int c1), (5, .int d1), (6, .int e1)]) hx hb dL_act_350 hl (by decide) rfl (fun ls hl => ?_)
      refine lv_ldc hx hb hM.2.2.2.1 (hM.2.2.2.2.1 _ k_989) dL_act_352 ?_
      exact k_iret hM hsz hX1 ⟨_, rfl, Ac.no (q := (2, -7000002)) hRc hI hnd hz ht (by simp)⟩ (by decide) (by decide) dL_act_354
set_option maxHeartbeats 4000000 in
set_option maxRecDepth 100000 in
theorem c_act_15 (l : Launch) (hfl : l.stackTraces = false) (γ : kG) (L : List Nat) (F : kF) (o n : Nat) (M : mM) (hO : Ob γ o M n L F) (a1 b1 c1 d1 e1 : Int32) : kCW l yL_act cL_act 8 (some .int) [(0, 344, 345, 81), (0, 344, 350, 84), (0, 344, 355, 87)] (kRm 1 1 6) γ L F [.ref o, .int 15, .int a1, .int b1, .int c1, .int d1, .int e1] (kI fun r L1 F1 => Ac γ o n M (cashM M a1) [(1, -7000001)] r L1 F1) := by
  refine kCW_of (by decide +kernel) (Nat.le_of_ble_eq_true rfl) ?_
  intro p e s m args below meth c sz ls hargs hsz hM htab hE hX hl
  have hx := hM.1
  have hb := hM.2.1
  have hl : lv_has ls 8 [(0, .ref o), (1, .int 15), (2, .int a1), (3, .int b1), (4, .int c1), (5, .int d1), (6, .int e1)] := hl
  obtain ⟨ad, tg, nd, D, hRc, hI, hnd, hz⟩ := hO
  refine lv_iload_n hx hb dL_act_0 rfl (lv_at hl 1 rfl) ?_
  refine lv_if_ne (tgt := 19) hx hb dL_act_1 (by decide) (fun _ => ?_) (fun h9 => absurd (show (15 : Int32) = 0 from h9) (by decide))
  refine lv_iload_n hx hb dL_act_19 rfl (lv_at hl 1 rfl) ?_
  refine lv_iconst (v := 1) hx hb dL_act_20 (by decide) ?_
  refine lv_icmp_ne (tgt := 35) hx hb dL_act_21 (by decide) (fun _ => ?_) (fun h9 => absurd (show (15 : Int32) = 1 from h9) (by decide))
  refine lv_iload_n hx hb dL_act_35 rfl (lv_at hl 1 rfl) ?_
  refine lv_iconst (v := 2) hx hb dL_act_36 (by decide) ?_
  refine lv_icmp_ne (tgt := 48) hx hb dL_act_37 (by decide) (fun _ => ?_) (fun h9 => absurd (show (15 : Int32) = 2 from h9) (by decide))
  refine lv_iload_n hx hb dL_act_48 rfl (lv_at hl 1 rfl) ?_
  refine lv_iconst (v := 3) hx hb dL_act_49 (by decide) ?_
  refine lv_icmp_ne (tgt := 61) hx hb dL_act_50 (by decide) (fun _ => ?_) (fun h9 => absurd (show (15 : Int32) = 3 from h9) (by decide))
  refine lv_iload_n hx hb dL_act_61 rfl (lv_at hl 1 rfl) ?_
  refine lv_iconst (v := 4) hx hb dL_act_62 (by decide) ?_
  refine lv_icmp_ne (tgt := 77) hx hb dL_act_63 (by decide) (fun _ => ?_) (fun h9 => absurd (show (15 : Int32) = 4 from h9) (by decide))
  refine lv_iload_n hx hb dL_act_77 rfl (lv_at hl 1 rfl) ?_
  refine lv_iconst (v := 5) hx hb dL_act_78 (by decide) ?_
  refine lv_icmp_ne (tgt := 91) hx hb dL_act_79 (by decide) (fun _ => ?_) (fun h9 => absurd (show (15 : Int32) = 5 from h9) (by decide))
  refine lv_iload_n hx hb dL_act_91 rfl (lv_at hl 1 rfl) ?_
  refine lv_bipush (v := 6) hx hb dL_act_92 (by decide) ?_
  refine lv_icmp_ne (tgt := 117) hx hb dL_act_94 (by decide) (fun _ => ?_) (fun h9 => absurd (show (15 : Int32) = 6 from h9) (by decide))
  refine lv_iload_n hx hb dL_act_117 rfl (lv_at hl 1 rfl) ?_
  refine lv_bipush (v := 7) hx hb dL_act_118 (by decide) ?_
  refine lv_icmp_ne (tgt := 145) hx hb dL_act_120 (by decide) (fun _ => ?_) (fun h9 => absurd (show (15 : Int32) = 7 from h9) (by decide))
  refine lv_iload_n hx hb dL_act_145 rfl (lv_at hl 1 rfl) ?_
  refine lv_bipush (v := 8) hx hb dL_act_146 (by decide) ?_
  refine lv_icmp_ne (tgt := 159) hx hb dL_act_148 (by decide) (fun _ => ?_) (fun h9 => absurd (show (15 : Int32) = 8 from h9) (by decide))
  refine lv_iload_n hx hb dL_act_159 rfl (lv_at hl 1 rfl) ?_
  refine lv_bipush (v := 9) hx hb dL_act_160 (by decide) ?_
  refine lv_icmp_ne (tgt := 173) hx hb dL_act_162 (by decide) (fun _ => ?_) (fun h9 => absurd (show (15 : Int32) = 9 from h9) (by decide))
  refine lv_iload_n hx hb dL_act_173 rfl (lv_at hl 1 rfl) ?_
  refine lv_bipush (v := 10) hx hb dL_act_174 (by decide) ?_
  refine lv_icmp_ne (tgt := 190) hx hb dL_act_176 (by decide) (fun _ => ?_) (fun h9 => absurd (show (15 : Int32) = 10 from h9) (by decide))
  refine lv_iload_n hx hb dL_act_190 rfl (lv_at hl 1 rfl) ?_
  refine lv_bipush (v := 11) hx hb dL_act_191 (by decide) ?_
  refine lv_icmp_ne (tgt := 207) hx hb dL_act_193 (by decide) (fun _ => ?_) (fun h9 => absurd (show (15 : Int32) = 11 from h9) (by decide))
  refine lv_iload_n hx hb dL_act_207 rfl (lv_at hl 1 rfl) ?_
  refine lv_bipush (v := 12) hx hb dL_act_208 (by decide) ?_
  refine lv_icmp_ne (tgt := 221) hx hb dL_act_210 (by decide) (fun _ => ?_) (fun h9 => absurd (show (15 : Int32) = 12 from h9) (by decide))
  refine lv_iload_n hx hb dL_act_221 rfl (lv_at hl 1 rfl) ?_
  refine lv_bipush (v := 13) hx hb dL_act_222 (by decide) ?_
  refine lv_icmp_ne (tgt := 236) hx hb dL_act_224 (by decide) (fun _ => ?_) (fun h9 => absurd (show (15 : Int32) = 13 from h9) (by decide))
  refine lv_iload_n hx hb dL_act_236 rfl (lv_at hl 1 rfl) ?_
  refine lv_bipush (v := 14) hx hb dL_act_237 (by decide) ?_
  refine lv_icmp_ne (tgt := 253) hx hb dL_act_239 (by decide) (fun _ => ?_) (fun h9 => absurd (show (15 : Int32) = 14 from h9) (by decide))
  refine lv_iload_n hx hb dL_act_253 rfl (lv_at hl 1 rfl) ?_
  refine lv_bipush (v := 15) hx hb dL_act_254 (by decide) ?_
  refine lv_icmp_ne (tgt := 267) hx hb dL_act_256 (by decide) (fun h9 => absurd rfl h9) (fun _ => ?_)
  refine lv_aload_n hx hb dL_act_259 rfl (lv_at hl 0 rfl) ?_
  refine lv_iload_n hx hb dL_act_260 rfl (lv_at hl 2 rfl) ?_
  refine o_gox (x_V (n := 1) (As := [.int a1]) (rest := []) hM hE hX hl (c_X4_cash l hfl γ L F o ad tg M nd D hRc hI a1) hRc.1.1 hRc.1.2.2 rfl k_412 k_413 k_414 k_1 k_415 ⟨rfl, by decide, by decide, by decide +kernel⟩ (by decide) rfl rfl (Nat.le_of_ble_eq_true rfl) dL_act_261 (by decide)) hE hX (fun v L1 F1 H1 locs1 hv hX1 => ?_) (fun E ce q9 H1 locs1 hno hX1 hce hcv hcl => ?_)
  · obtain ⟨r, rfl, hp⟩ := hv
    refine lv_goto (tgt := 344) hx hb dL_act_264 (by decide) ?_
    exact k_iret hM hsz hX1 ⟨_, rfl, Ac.rd hRc hI hnd hz hp⟩ (by decide) (by decide) dL_act_344
  · obtain ⟨rfl, ht⟩ := hno
    refine x_h1 hM htab (by decide) (by decide) k_493 hE.2.1.2.2.2.2.2.2.2.2.2.2.1.1 hce hcv hcl ?_
    refine lv_astore (lv' := [(7, .ref q9), (0, .ref o), (1, .int 15), (2, .int a1), (3, .int b1), (4, .int c1), (5, .int d1), (6, .int e1)]) hx hb dL_act_345 hl (by decide) rfl (fun ls hl => ?_)
    refine lv_ldc hx hb hM.2.2.2.1 (hM.2.2.2.2.1 _ k_988) dL_act_347 ?_
    exact k_iret hM hsz hX1 ⟨_, rfl, Ac.no (q := (1, -7000001)) hRc hI hnd hz ht (by simp)⟩ (by decide) (by decide) dL_act_349
set_option maxHeartbeats 4000000 in
set_option maxRecDepth 100000 in
theorem c_act_16 (l : Launch) (hfl : l.stackTraces = false) (γ : kG) (L : List Nat) (F : kF) (o n : Nat) (M : mM) (hO : Ob γ o M n L F) (hn : n < 512) (a1 b1 c1 d1 e1 : Int32) : kCW l yL_act cL_act 8 (some .int) [(0, 344, 345, 81), (0, 344, 350, 84), (0, 344, 355, 87)] (kRm 5 1 6) γ L F [.ref o, .int 16, .int a1, .int b1, .int c1, .int d1, .int e1] (kI fun r L1 F1 => Ac γ o n M (cashAnewM M a1) [(1, -7000001)] r L1 F1) := by
  refine kCW_of (by decide +kernel) (Nat.le_of_ble_eq_true rfl) ?_
  intro p e s m args below meth c sz ls hargs hsz hM htab hE hX hl
  have hx := hM.1
  have hb := hM.2.1
  have hl : lv_has ls 8 [(0, .ref o), (1, .int 16), (2, .int a1), (3, .int b1), (4, .int c1), (5, .int d1), (6, .int e1)] := hl
  obtain ⟨ad, tg, nd, D, hRc, hI, hnd, hz⟩ := hO
  refine lv_iload_n hx hb dL_act_0 rfl (lv_at hl 1 rfl) ?_
  refine lv_if_ne (tgt := 19) hx hb dL_act_1 (by decide) (fun _ => ?_) (fun h9 => absurd (show (16 : Int32) = 0 from h9) (by decide))
  refine lv_iload_n hx hb dL_act_19 rfl (lv_at hl 1 rfl) ?_
  refine lv_iconst (v := 1) hx hb dL_act_20 (by decide) ?_
  refine lv_icmp_ne (tgt := 35) hx hb dL_act_21 (by decide) (fun _ => ?_) (fun h9 => absurd (show (16 : Int32) = 1 from h9) (by decide))
  refine lv_iload_n hx hb dL_act_35 rfl (lv_at hl 1 rfl) ?_
  refine lv_iconst (v := 2) hx hb dL_act_36 (by decide) ?_
  refine lv_icmp_ne (tgt := 48) hx hb dL_act_37 (by decide) (fun _ => ?_) (fun h9 => absurd (show (16 : Int32) = 2 from h9) (by decide))
  refine lv_iload_n hx hb dL_act_48 rfl (lv_at hl 1 rfl) ?_
  refine lv_iconst (v := 3) hx hb dL_act_49 (by decide) ?_
  refine lv_icmp_ne (tgt := 61) hx hb dL_act_50 (by decide) (fun _ => ?_) (fun h9 => absurd (show (16 : Int32) = 3 from h9) (by decide))
  refine lv_iload_n hx hb dL_act_61 rfl (lv_at hl 1 rfl) ?_
  refine lv_iconst (v := 4) hx hb dL_act_62 (by decide) ?_
  refine lv_icmp_ne (tgt := 77) hx hb dL_act_63 (by decide) (fun _ => ?_) (fun h9 => absurd (show (16 : Int32) = 4 from h9) (by decide))
  refine lv_iload_n hx hb dL_act_77 rfl (lv_at hl 1 rfl) ?_
  refine lv_iconst (v := 5) hx hb dL_act_78 (by decide) ?_
  refine lv_icmp_ne (tgt := 91) hx hb dL_act_79 (by decide) (fun _ => ?_) (fun h9 => absurd (show (16 : Int32) = 5 from h9) (by decide))
  refine lv_iload_n hx hb dL_act_91 rfl (lv_at hl 1 rfl) ?_
  refine lv_bipush (v := 6) hx hb dL_act_92 (by decide) ?_
  refine lv_icmp_ne (tgt := 117) hx hb dL_act_94 (by decide) (fun _ => ?_) (fun h9 => absurd (show (16 : Int32) = 6 from h9) (by decide))
  refine lv_iload_n hx hb dL_act_117 rfl (lv_at hl 1 rfl) ?_
  refine lv_bipush (v := 7) hx hb dL_act_118 (by decide) ?_
  refine lv_icmp_ne (tgt := 145) hx hb dL_act_120 (by decide) (fun _ => ?_) (fun h9 => absurd (show (16 : Int32) = 7 from h9) (by decide))
  refine lv_iload_n hx hb dL_act_145 rfl (lv_at hl 1 rfl) ?_
  refine lv_bipush (v := 8) hx hb dL_act_146 (by decide) ?_
  refine lv_icmp_ne (tgt := 159) hx hb dL_act_148 (by decide) (fun _ => ?_) (fun h9 => absurd (show (16 : Int32) = 8 from h9) (by decide))
  refine lv_iload_n hx hb dL_act_159 rfl (lv_at hl 1 rfl) ?_
  refine lv_bipush (v := 9) hx hb dL_act_160 (by decide) ?_
  refine lv_icmp_ne (tgt := 173) hx hb dL_act_162 (by decide) (fun _ => ?_) (fun h9 => absurd (show (16 : Int32) = 9 from h9) (by decide))
  refine lv_iload_n hx hb dL_act_173 rfl (lv_at hl 1 rfl) ?_
  refine lv_bipush (v := 10) hx hb dL_act_174 (by decide) ?_
  refine lv_icmp_ne (tgt := 190) hx hb dL_act_176 (by decide) (fun _ => ?_) (fun h9 => absurd (show (16 : Int32) = 10 from h9) (by decide))
  refine lv_iload_n hx hb dL_act_190 rfl (lv_at hl 1 rfl) ?_
  refine lv_bipush (v := 11) hx hb dL_act_191 (by decide) ?_
  refine lv_icmp_ne (tgt := 207) hx hb dL_act_193 (by decide) (fun _ => ?_) (fun h9 => absurd (show (16 : Int32) = 11 from h9) (by decide))
  refine lv_iload_n hx hb dL_act_207 rfl (lv_at hl 1 rfl) ?_
  refine lv_bipush (v := 12) hx hb dL_act_208 (by decide) ?_
  refine lv_icmp_ne (tgt := 221) hx hb dL_act_210 (by decide) (fun _ => ?_) (fun h9 => absurd (show (16 : Int32) = 12 from h9) (by decide))
  refine lv_iload_n hx hb dL_act_221 rfl (lv_at hl 1 rfl) ?_
  refine lv_bipush (v := 13) hx hb dL_act_222 (by decide) ?_
  refine lv_icmp_ne (tgt := 236) hx hb dL_act_224 (by decide) (fun _ => ?_) (fun h9 => absurd (show (16 : Int32) = 13 from h9) (by decide))
  refine lv_iload_n hx hb dL_act_236 rfl (lv_at hl 1 rfl) ?_
  refine lv_bipush (v := 14) hx hb dL_act_237 (by decide) ?_
  refine lv_icmp_ne (tgt := 253) hx hb dL_act_239 (by decide) (fun _ => ?_) (fun h9 => absurd (show (16 : Int32) = 14 from h9) (by decide))
  refine lv_iload_n hx hb dL_act_253 rfl (lv_at hl 1 rfl) ?_
  refine lv_bipush (v := 15) hx hb dL_act_254 (by decide) ?_
  refine lv_icmp_ne (tgt := 267) hx hb dL_act_256 (by decide) (fun _ => ?_) (fun h9 => absurd (show (16 : Int32) = 15 from h9) (by decide))
  refine lv_iload_n hx hb dL_act_267 rfl (lv_at hl 1 rfl) ?_
  refine lv_bipush (v := 16) hx hb dL_act_268 (by decide) ?_
  refine lv_icmp_ne (tgt := 281) hx hb dL_act_270 (by decide) (fun h9 => absurd rfl h9) (fun _ => ?_)
  refine lv_aload_n hx hb dL_act_273 rfl (lv_at hl 0 rfl) ?_
  refine lv_iload_n hx hb dL_act_274 rfl (lv_at hl 2 rfl) ?_
  refine o_gox (x_V (n := 1) (As := [.int a1]) (rest := []) hM hE hX hl (c_X4_cashAnew l hfl γ L F o ad tg M nd D hRc hI a1 (by omega)) hRc.1.1 hRc.1.2.2 rfl k_416 k_417 k_418 k_1 k_419 ⟨rfl, by decide, by decide, by decide +kernel⟩ (by decide) rfl rfl (Nat.le_of_ble_eq_true rfl) dL_act_275 (by decide)) hE hX (fun v L1 F1 H1 locs1 hv hX1 => ?_) (fun E ce q9 H1 locs1 hno hX1 hce hcv hcl => ?_)
  · obtain ⟨r, rfl, hp⟩ := hv
    refine lv_goto (tgt := 344) hx hb dL_act_278 (by decide) ?_
    exact k_iret hM hsz hX1 ⟨_, rfl, Ac.rd hRc hI hnd hz hp⟩ (by decide) (by decide) dL_act_344
  · obtain ⟨rfl, ht⟩ := hno
    refine x_h1 hM htab (by decide) (by decide) k_493 hE.2.1.2.2.2.2.2.2.2.2.2.2.1.1 hce hcv hcl ?_
    refine lv_astore (lv' := [(7, .ref q9), (0, .ref o), (1, .int 16), (2, .int a1), (3, .int b1), (4, .int c1), (5, .int d1), (6, .int e1)]) hx hb dL_act_345 hl (by decide) rfl (fun ls hl => ?_)
    refine lv_ldc hx hb hM.2.2.2.1 (hM.2.2.2.2.1 _ k_988) dL_act_347 ?_
    exact k_iret hM hsz hX1 ⟨_, rfl, Ac.no (q := (1, -7000001)) hRc hI hnd hz ht (by simp)⟩ (by decide) (by decide) dL_act_349
set_option maxHeartbeats 4000000 in
set_option maxRecDepth 100000 in
theorem c_act_17 (l : Launch) (hfl : l.stackTraces = false) (γ : kG) (L : List Nat) (F : kF) (o n : Nat) (M : mM) (hO : Ob γ o M n L F) (a1 b1 c1 d1 e1 : Int32) : kCW l yL_act cL_act 8 (some .int) [(0, 344, 345, 81), (0, 344, 350, 84), (0, 344, 355, 87)] (kRm 5 1 6) γ L F [.ref o, .int 17, .int a1, .int b1, .int c1, .int d1, .int e1] (kI fun r L1 F1 => Ac γ o n M (owedToM M a1) [(1, -7000001)] r L1 F1) := by
  refine kCW_of (by decide +kernel) (Nat.le_of_ble_eq_true rfl) ?_
  intro p e s m args below meth c sz ls hargs hsz hM htab hE hX hl
  have hx := hM.1
  have hb := hM.2.1
  have hl : lv_has ls 8 [(0, .ref o), (1, .int 17), (2, .int a1), (3, .int b1), (4, .int c1), (5, .int d1), (6, .int e1)] := hl
  obtain ⟨ad, tg, nd, D, hRc, hI, hnd, hz⟩ := hO
  refine lv_iload_n hx hb dL_act_0 rfl (lv_at hl 1 rfl) ?_
  refine lv_if_ne (tgt := 19) hx hb dL_act_1 (by decide) (fun _ => ?_) (fun h9 => absurd (show (17 : Int32) = 0 from h9) (by decide))
  refine lv_iload_n hx hb dL_act_19 rfl (lv_at hl 1 rfl) ?_
  refine lv_iconst (v := 1) hx hb dL_act_20 (by decide) ?_
  refine lv_icmp_ne (tgt := 35) hx hb dL_act_21 (by decide) (fun _ => ?_) (fun h9 => absurd (show (17 : Int32) = 1 from h9) (by decide))
  refine lv_iload_n hx hb dL_act_35 rfl (lv_at hl 1 rfl) ?_
  refine lv_iconst (v := 2) hx hb dL_act_36 (by decide) ?_
  refine lv_icmp_ne (tgt := 48) hx hb dL_act_37 (by decide) (fun _ => ?_) (fun h9 => absurd (show (17 : Int32) = 2 from h9) (by decide))
  refine lv_iload_n hx hb dL_act_48 rfl (lv_at hl 1 rfl) ?_
  refine lv_iconst (v := 3) hx hb dL_act_49 (by decide) ?_
  refine lv_icmp_ne (tgt := 61) hx hb dL_act_50 (by decide) (fun _ => ?_) (fun h9 => absurd (show (17 : Int32) = 3 from h9) (by decide))
  refine lv_iload_n hx hb dL_act_61 rfl (lv_at hl 1 rfl) ?_
  refine lv_iconst (v := 4) hx hb dL_act_62 (by decide) ?_
  refine lv_icmp_ne (tgt := 77) hx hb dL_act_63 (by decide) (fun _ => ?_) (fun h9 => absurd (show (17 : Int32) = 4 from h9) (by decide))
  refine lv_iload_n hx hb dL_act_77 rfl (lv_at hl 1 rfl) ?_
  refine lv_iconst (v := 5) hx hb dL_act_78 (by decide) ?_
  refine lv_icmp_ne (tgt := 91) hx hb dL_act_79 (by decide) (fun _ => ?_) (fun h9 => absurd (show (17 : Int32) = 5 from h9) (by decide))
  refine lv_iload_n hx hb dL_act_91 rfl (lv_at hl 1 rfl) ?_
  refine lv_bipush (v := 6) hx hb dL_act_92 (by decide) ?_
  refine lv_icmp_ne (tgt := 117) hx hb dL_act_94 (by decide) (fun _ => ?_) (fun h9 => absurd (show (17 : Int32) = 6 from h9) (by decide))
  refine lv_iload_n hx hb dL_act_117 rfl (lv_at hl 1 rfl) ?_
  refine lv_bipush (v := 7) hx hb dL_act_118 (by decide) ?_
  refine lv_icmp_ne (tgt := 145) hx hb dL_act_120 (by decide) (fun _ => ?_) (fun h9 => absurd (show (17 : Int32) = 7 from h9) (by decide))
  refine lv_iload_n hx hb dL_act_145 rfl (lv_at hl 1 rfl) ?_
  refine lv_bipush (v := 8) hx hb dL_act_146 (by decide) ?_
  refine lv_icmp_ne (tgt := 159) hx hb dL_act_148 (by decide) (fun _ => ?_) (fun h9 => absurd (show (17 : Int32) = 8 from h9) (by decide))
  refine lv_iload_n hx hb dL_act_159 rfl (lv_at hl 1 rfl) ?_
  refine lv_bipush (v := 9) hx hb dL_act_160 (by decide) ?_
  refine lv_icmp_ne (tgt := 173) hx hb dL_act_162 (by decide) (fun _ => ?_) (fun h9 => absurd (show (17 : Int32) = 9 from h9) (by decide))
  refine lv_iload_n hx hb dL_act_173 rfl (lv_at hl 1 rfl) ?_
  refine lv_bipush (v := 10) hx hb dL_act_174 (by decide) ?_
  refine lv_icmp_ne (tgt := 190) hx hb dL_act_176 (by decide) (fun _ => ?_) (fun h9 => absurd (show (17 : Int32) = 10 from h9) (by decide))
  refine lv_iload_n hx hb dL_act_190 rfl (lv_at hl 1 rfl) ?_
  refine lv_bipush (v := 11) hx hb dL_act_191 (by decide) ?_
  refine lv_icmp_ne (tgt := 207) hx hb dL_act_193 (by decide) (fun _ => ?_) (fun h9 => absurd (show (17 : Int32) = 11 from h9) (by decide))
  refine lv_iload_n hx hb dL_act_207 rfl (lv_at hl 1 rfl) ?_
  refine lv_bipush (v := 12) hx hb dL_act_208 (by decide) ?_
  refine lv_icmp_ne (tgt := 221) hx hb dL_act_210 (by decide) (fun _ => ?_) (fun h9 => absurd (show (17 : Int32) = 12 from h9) (by decide))
  refine lv_iload_n hx hb dL_act_221 rfl (lv_at hl 1 rfl) ?_
  refine lv_bipush (v := 13) hx hb dL_act_222 (by decide) ?_
  refine lv_icmp_ne (tgt := 236) hx hb dL_act_224 (by decide) (fun _ => ?_) (fun h9 => absurd (show (17 : Int32) = 13 from h9) (by decide))
  refine lv_iload_n hx hb dL_act_236 rfl (lv_at hl 1 rfl) ?_
  refine lv_bipush (v := 14) hx hb dL_act_237 (by decide) ?_
  refine lv_icmp_ne (tgt := 253) hx hb dL_act_239 (by decide) (fun _ => ?_) (fun h9 => absurd (show (17 : Int32) = 14 from h9) (by decide))
  refine lv_iload_n hx hb dL_act_253 rfl (lv_at hl 1 rfl) ?_
  refine lv_bipush (v := 15) hx hb dL_act_254 (by decide) ?_
  refine lv_icmp_ne (tgt := 267) hx hb dL_act_256 (by decide) (fun _ => ?_) (fun h9 => absurd (show (17 : Int32) = 15 from h9) (by decide))
  refine lv_iload_n hx hb dL_act_267 rfl (lv_at hl 1 rfl) ?_
  refine lv_bipush (v := 16) hx hb dL_act_268 (by decide) ?_
  refine lv_icmp_ne (tgt := 281) hx hb dL_act_270 (by decide) (fun _ => ?_) (fun h9 => absurd (show (17 : Int32) = 16 from h9) (by decide))
  refine lv_iload_n hx hb dL_act_281 rfl (lv_at hl 1 rfl) ?_
  refine lv_bipush (v := 17) hx hb dL_act_282 (by decide) ?_
  refine lv_icmp_ne (tgt := 295) hx hb dL_act_284 (by decide) (fun h9 => absurd rfl h9) (fun _ => ?_)
  refine lv_aload_n hx hb dL_act_287 rfl (lv_at hl 0 rfl) ?_
  refine lv_iload_n hx hb dL_act_288 rfl (lv_at hl 2 rfl) ?_
  refine o_gox (x_V (n := 1) (As := [.int a1]) (rest := []) hM hE hX hl (c_X4_owedTo l hfl γ L F o ad tg M nd D hRc hI a1) hRc.1.1 hRc.1.2.2 rfl k_420 k_421 k_422 k_1 k_423 ⟨rfl, by decide, by decide, by decide +kernel⟩ (by decide) rfl rfl (Nat.le_of_ble_eq_true rfl) dL_act_289 (by decide)) hE hX (fun v L1 F1 H1 locs1 hv hX1 => ?_) (fun E ce q9 H1 locs1 hno hX1 hce hcv hcl => ?_)
  · obtain ⟨r, rfl, hp⟩ := hv
    refine lv_goto (tgt := 344) hx hb dL_act_292 (by decide) ?_
    exact k_iret hM hsz hX1 ⟨_, rfl, Ac.rd hRc hI hnd hz hp⟩ (by decide) (by decide) dL_act_344
  · obtain ⟨rfl, ht⟩ := hno
    refine x_h1 hM htab (by decide) (by decide) k_493 hE.2.1.2.2.2.2.2.2.2.2.2.2.1.1 hce hcv hcl ?_
    refine lv_astore (lv' := [(7, .ref q9), (0, .ref o), (1, .int 17), (2, .int a1), (3, .int b1), (4, .int c1), (5, .int d1), (6, .int e1)]) hx hb dL_act_345 hl (by decide) rfl (fun ls hl => ?_)
    refine lv_ldc hx hb hM.2.2.2.1 (hM.2.2.2.2.1 _ k_988) dL_act_347 ?_
    exact k_iret hM hsz hX1 ⟨_, rfl, Ac.no (q := (1, -7000001)) hRc hI hnd hz ht (by simp)⟩ (by decide) (by decide) dL_act_349
set_option maxHeartbeats 4000000 in
set_option maxRecDepth 100000 in
theorem c_act_18 (l : Launch) (hfl : l.stackTraces = false) (γ : kG) (L : List Nat) (F : kF) (o n : Nat) (M : mM) (hO : Ob γ o M n L F) (a1 b1 c1 d1 e1 : Int32) : kCW l yL_act cL_act 8 (some .int) [(0, 344, 345, 81), (0, 344, 350, 84), (0, 344, 355, 87)] (kRm 5 1 6) γ L F [.ref o, .int 18, .int a1, .int b1, .int c1, .int d1, .int e1] (kI fun r L1 F1 => Ac γ o n M (owesM M a1) [(1, -7000001)] r L1 F1) := by
  refine kCW_of (by decide +kernel) (Nat.le_of_ble_eq_true rfl) ?_
  intro p e s m args below meth c sz ls hargs hsz hM htab hE hX hl
  have hx := hM.1
  have hb := hM.2.1
  have hl : lv_has ls 8 [(0, .ref o), (1, .int 18), (2, .int a1), (3, .int b1), (4, .int c1), (5, .int d1), (6, .int e1)] := hl
  obtain ⟨ad, tg, nd, D, hRc, hI, hnd, hz⟩ := hO
  refine lv_iload_n hx hb dL_act_0 rfl (lv_at hl 1 rfl) ?_
  refine lv_if_ne (tgt := 19) hx hb dL_act_1 (by decide) (fun _ => ?_) (fun h9 => absurd (show (18 : Int32) = 0 from h9) (by decide))
  refine lv_iload_n hx hb dL_act_19 rfl (lv_at hl 1 rfl) ?_
  refine lv_iconst (v := 1) hx hb dL_act_20 (by decide) ?_
  refine lv_icmp_ne (tgt := 35) hx hb dL_act_21 (by decide) (fun _ => ?_) (fun h9 => absurd (show (18 : Int32) = 1 from h9) (by decide))
  refine lv_iload_n hx hb dL_act_35 rfl (lv_at hl 1 rfl) ?_
  refine lv_iconst (v := 2) hx hb dL_act_36 (by decide) ?_
  refine lv_icmp_ne (tgt := 48) hx hb dL_act_37 (by decide) (fun _ => ?_) (fun h9 => absurd (show (18 : Int32) = 2 from h9) (by decide))
  refine lv_iload_n hx hb dL_act_48 rfl (lv_at hl 1 rfl) ?_
  refine lv_iconst (v := 3) hx hb dL_act_49 (by decide) ?_
  refine lv_icmp_ne (tgt := 61) hx hb dL_act_50 (by decide) (fun _ => ?_) (fun h9 => absurd (show (18 : Int32) = 3 from h9) (by decide))
  refine lv_iload_n hx hb dL_act_61 rfl (lv_at hl 1 rfl) ?_
  refine lv_iconst (v := 4) hx hb dL_act_62 (by decide) ?_
  refine lv_icmp_ne (tgt := 77) hx hb dL_act_63 (by decide) (fun _ => ?_) (fun h9 => absurd (show (18 : Int32) = 4 from h9) (by decide))
  refine lv_iload_n hx hb dL_act_77 rfl (lv_at hl 1 rfl) ?_
  refine lv_iconst (v := 5) hx hb dL_act_78 (by decide) ?_
  refine lv_icmp_ne (tgt := 91) hx hb dL_act_79 (by decide) (fun _ => ?_) (fun h9 => absurd (show (18 : Int32) = 5 from h9) (by decide))
  refine lv_iload_n hx hb dL_act_91 rfl (lv_at hl 1 rfl) ?_
  refine lv_bipush (v := 6) hx hb dL_act_92 (by decide) ?_
  refine lv_icmp_ne (tgt := 117) hx hb dL_act_94 (by decide) (fun _ => ?_) (fun h9 => absurd (show (18 : Int32) = 6 from h9) (by decide))
  refine lv_iload_n hx hb dL_act_117 rfl (lv_at hl 1 rfl) ?_
  refine lv_bipush (v := 7) hx hb dL_act_118 (by decide) ?_
  refine lv_icmp_ne (tgt := 145) hx hb dL_act_120 (by decide) (fun _ => ?_) (fun h9 => absurd (show (18 : Int32) = 7 from h9) (by decide))
  refine lv_iload_n hx hb dL_act_145 rfl (lv_at hl 1 rfl) ?_
  refine lv_bipush (v := 8) hx hb dL_act_146 (by decide) ?_
  refine lv_icmp_ne (tgt := 159) hx hb dL_act_148 (by decide) (fun _ => ?_) (fun h9 => absurd (show (18 : Int32) = 8 from h9) (by decide))
  refine lv_iload_n hx hb dL_act_159 rfl (lv_at hl 1 rfl) ?_
  refine lv_bipush (v := 9) hx hb dL_act_160 (by decide) ?_
  refine lv_icmp_ne (tgt := 173) hx hb dL_act_162 (by decide) (fun _ => ?_) (fun h9 => absurd (show (18 : Int32) = 9 from h9) (by decide))
  refine lv_iload_n hx hb dL_act_173 rfl (lv_at hl 1 rfl) ?_
  refine lv_bipush (v := 10) hx hb dL_act_174 (by decide) ?_
  refine lv_icmp_ne (tgt := 190) hx hb dL_act_176 (by decide) (fun _ => ?_) (fun h9 => absurd (show (18 : Int32) = 10 from h9) (by decide))
  refine lv_iload_n hx hb dL_act_190 rfl (lv_at hl 1 rfl) ?_
  refine lv_bipush (v := 11) hx hb dL_act_191 (by decide) ?_
  refine lv_icmp_ne (tgt := 207) hx hb dL_act_193 (by decide) (fun _ => ?_) (fun h9 => absurd (show (18 : Int32) = 11 from h9) (by decide))
  refine lv_iload_n hx hb dL_act_207 rfl (lv_at hl 1 rfl) ?_
  refine lv_bipush (v := 12) hx hb dL_act_208 (by decide) ?_
  refine lv_icmp_ne (tgt := 221) hx hb dL_act_210 (by decide) (fun _ => ?_) (fun h9 => absurd (show (18 : Int32) = 12 from h9) (by decide))
  refine lv_iload_n hx hb dL_act_221 rfl (lv_at hl 1 rfl) ?_
  refine lv_bipush (v := 13) hx hb dL_act_222 (by decide) ?_
  refine lv_icmp_ne (tgt := 236) hx hb dL_act_224 (by decide) (fun _ => ?_) (fun h9 => absurd (show (18 : Int32) = 13 from h9) (by decide))
  refine lv_iload_n hx hb dL_act_236 rfl (lv_at hl 1 rfl) ?_
  refine lv_bipush (v := 14) hx hb dL_act_237 (by decide) ?_
  refine lv_icmp_ne (tgt := 253) hx hb dL_act_239 (by decide) (fun _ => ?_) (fun h9 => absurd (show (18 : Int32) = 14 from h9) (by decide))
  refine lv_iload_n hx hb dL_act_253 rfl (lv_at hl 1 rfl) ?_
  refine lv_bipush (v := 15) hx hb dL_act_254 (by decide) ?_
  refine lv_icmp_ne (tgt := 267) hx hb dL_act_256 (by decide) (fun _ => ?_) (fun h9 => absurd (show (18 : Int32) = 15 from h9) (by decide))
  refine lv_iload_n hx hb dL_act_267 rfl (lv_at hl 1 rfl) ?_
  refine lv_bipush (v := 16) hx hb dL_act_268 (by decide) ?_
  refine lv_icmp_ne (tgt := 281) hx hb dL_act_270 (by decide) (fun _ => ?_) (fun h9 => absurd (show (18 : Int32) = 16 from h9) (by decide))
  refine lv_iload_n hx hb dL_act_281 rfl (lv_at hl 1 rfl) ?_
  refine lv_bipush (v := 17) hx hb dL_act_282 (by decide) ?_
  refine lv_icmp_ne (tgt := 295) hx hb dL_act_284 (by decide) (fun _ => ?_) (fun h9 => absurd (show (18 : Int32) = 17 from h9) (by decide))
  refine lv_iload_n hx hb dL_act_295 rfl (lv_at hl 1 rfl) ?_
  refine lv_bipush (v := 18) hx hb dL_act_296 (by decide) ?_
  refine lv_icmp_ne (tgt := 309) hx hb dL_act_298 (by decide) (fun h9 => absurd rfl h9) (fun _ => ?_)
  refine lv_aload_n hx hb dL_act_301 rfl (lv_at hl 0 rfl) ?_
  refine lv_iload_n hx hb dL_act_302 rfl (lv_at hl 2 rfl) ?_
  refine o_gox (x_V (n := 1) (As := [.int a1]) (rest := []) hM hE hX hl (c_X4_owes l hfl γ L F o ad tg M nd D hRc hI a1) hRc.1.1 hRc.1.2.2 rfl k_424 k_425 k_426 k_1 k_427 ⟨rfl, by decide, by decide, by decide +kernel⟩ (by decide) rfl rfl (Nat.le_of_ble_eq_true rfl) dL_act_303 (by decide)) hE hX (fun v L1 F1 H1 locs1 hv hX1 => ?_) (fun E ce q9 H1 locs1 hno hX1 hce hcv hcl => ?_)
  · obtain ⟨r, rfl, hp⟩ := hv
    refine lv_goto (tgt := 344) hx hb dL_act_306 (by decide) ?_
    exact k_iret hM hsz hX1 ⟨_, rfl, Ac.rd hRc hI hnd hz hp⟩ (by decide) (by decide) dL_act_344
  · obtain ⟨rfl, ht⟩ := hno
    refine x_h1 hM htab (by decide) (by decide) k_493 hE.2.1.2.2.2.2.2.2.2.2.2.2.1.1 hce hcv hcl ?_
    refine lv_astore (lv' := [(7, .ref q9), (0, .ref o), (1, .int 18), (2, .int a1), (3, .int b1), (4, .int c1), (5, .int d1), (6, .int e1)]) hx hb dL_act_345 hl (by decide) rfl (fun ls hl => ?_)
    refine lv_ldc hx hb hM.2.2.2.1 (hM.2.2.2.2.1 _ k_988) dL_act_347 ?_
    exact k_iret hM hsz hX1 ⟨_, rfl, Ac.no (q := (1, -7000001)) hRc hI hnd hz ht (by simp)⟩ (by decide) (by decide) dL_act_349
set_option maxHeartbeats 4000000 in
set_option maxRecDepth 100000 in
theorem c_act_19 (l : Launch) (hfl : l.stackTraces = false) (γ : kG) (L : List Nat) (F : kF) (o n : Nat) (M : mM) (hO : Ob γ o M n L F) (a1 b1 c1 d1 e1 : Int32) : kCW l yL_act cL_act 8 (some .int) [(0, 344, 345, 81), (0, 344, 350, 84), (0, 344, 355, 87)] (kRm 8 3 18) γ L F [.ref o, .int 19, .int a1, .int b1, .int c1, .int d1, .int e1] (kI fun r L1 F1 => Ac γ o n M (taxM M a1 b1) [(1, -7000001)] r L1 F1) := by
  refine kCW_of (by decide +kernel) (Nat.le_of_ble_eq_true rfl) ?_
  intro p e s m args below meth c sz ls hargs hsz hM htab hE hX hl
  have hx := hM.1
  have hb := hM.2.1
  have hl : lv_has ls 8 [(0, .ref o), (1, .int 19), (2, .int a1), (3, .int b1), (4, .int c1), (5, .int d1), (6, .int e1)] := hl
  obtain ⟨ad, tg, nd, D, hRc, hI, hnd, hz⟩ := hO
  refine lv_iload_n hx hb dL_act_0 rfl (lv_at hl 1 rfl) ?_
  refine lv_if_ne (tgt := 19) hx hb dL_act_1 (by decide) (fun _ => ?_) (fun h9 => absurd (show (19 : Int32) = 0 from h9) (by decide))
  refine lv_iload_n hx hb dL_act_19 rfl (lv_at hl 1 rfl) ?_
  refine lv_iconst (v := 1) hx hb dL_act_20 (by decide) ?_
  refine lv_icmp_ne (tgt := 35) hx hb dL_act_21 (by decide) (fun _ => ?_) (fun h9 => absurd (show (19 : Int32) = 1 from h9) (by decide))
  refine lv_iload_n hx hb dL_act_35 rfl (lv_at hl 1 rfl) ?_
  refine lv_iconst (v := 2) hx hb dL_act_36 (by decide) ?_
  refine lv_icmp_ne (tgt := 48) hx hb dL_act_37 (by decide) (fun _ => ?_) (fun h9 => absurd (show (19 : Int32) = 2 from h9) (by decide))
  refine lv_iload_n hx hb dL_act_48 rfl (lv_at hl 1 rfl) ?_
  refine lv_iconst (v := 3) hx hb dL_act_49 (by decide) ?_
  refine lv_icmp_ne (tgt := 61) hx hb dL_act_50 (by decide) (fun _ => ?_) (fun h9 => absurd (show (19 : Int32) = 3 from h9) (by decide))
  refine lv_iload_n hx hb dL_act_61 rfl (lv_at hl 1 rfl) ?_
  refine lv_iconst (v := 4) hx hb dL_act_62 (by decide) ?_
  refine lv_icmp_ne (tgt := 77) hx hb dL_act_63 (by decide) (fun _ => ?_) (fun h9 => absurd (show (19 : Int32) = 4 from h9) (by decide))
  refine lv_iload_n hx hb dL_act_77 rfl (lv_at hl 1 rfl) ?_
  refine lv_iconst (v := 5) hx hb dL_act_78 (by decide) ?_
  refine lv_icmp_ne (tgt := 91) hx hb dL_act_79 (by decide) (fun _ => ?_) (fun h9 => absurd (show (19 : Int32) = 5 from h9) (by decide))
  refine lv_iload_n hx hb dL_act_91 rfl (lv_at hl 1 rfl) ?_
  refine lv_bipush (v := 6) hx hb dL_act_92 (by decide) ?_
  refine lv_icmp_ne (tgt := 117) hx hb dL_act_94 (by decide) (fun _ => ?_) (fun h9 => absurd (show (19 : Int32) = 6 from h9) (by decide))
  refine lv_iload_n hx hb dL_act_117 rfl (lv_at hl 1 rfl) ?_
  refine lv_bipush (v := 7) hx hb dL_act_118 (by decide) ?_
  refine lv_icmp_ne (tgt := 145) hx hb dL_act_120 (by decide) (fun _ => ?_) (fun h9 => absurd (show (19 : Int32) = 7 from h9) (by decide))
  refine lv_iload_n hx hb dL_act_145 rfl (lv_at hl 1 rfl) ?_
  refine lv_bipush (v := 8) hx hb dL_act_146 (by decide) ?_
  refine lv_icmp_ne (tgt := 159) hx hb dL_act_148 (by decide) (fun _ => ?_) (fun h9 => absurd (show (19 : Int32) = 8 from h9) (by decide))
  refine lv_iload_n hx hb dL_act_159 rfl (lv_at hl 1 rfl) ?_
  refine lv_bipush (v := 9) hx hb dL_act_160 (by decide) ?_
  refine lv_icmp_ne (tgt := 173) hx hb dL_act_162 (by decide) (fun _ => ?_) (fun h9 => absurd (show (19 : Int32) = 9 from h9) (by decide))
  refine lv_iload_n hx hb dL_act_173 rfl (lv_at hl 1 rfl) ?_
  refine lv_bipush (v := 10) hx hb dL_act_174 (by decide) ?_
  refine lv_icmp_ne (tgt := 190) hx hb dL_act_176 (by decide) (fun _ => ?_) (fun h9 => absurd (show (19 : Int32) = 10 from h9) (by decide))
  refine lv_iload_n hx hb dL_act_190 rfl (lv_at hl 1 rfl) ?_
  refine lv_bipush (v := 11) hx hb dL_act_191 (by decide) ?_
  refine lv_icmp_ne (tgt := 207) hx hb dL_act_193 (by decide) (fun _ => ?_) (fun h9 => absurd (show (19 : Int32) = 11 from h9) (by decide))
  refine lv_iload_n hx hb dL_act_207 rfl (lv_at hl 1 rfl) ?_
  refine lv_bipush (v := 12) hx hb dL_act_208 (by decide) ?_
  refine lv_icmp_ne (tgt := 221) hx hb dL_act_210 (by decide) (fun _ => ?_) (fun h9 => absurd (show (19 : Int32) = 12 from h9) (by decide))
  refine lv_iload_n hx hb dL_act_221 rfl (lv_at hl 1 rfl) ?_
  refine lv_bipush (v := 13) hx hb dL_act_222 (by decide) ?_
  refine lv_icmp_ne (tgt := 236) hx hb dL_act_224 (by decide) (fun _ => ?_) (fun h9 => absurd (show (19 : Int32) = 13 from h9) (by decide))
  refine lv_iload_n hx hb dL_act_236 rfl (lv_at hl 1 rfl) ?_
  refine lv_bipush (v := 14) hx hb dL_act_237 (by decide) ?_
  refine lv_icmp_ne (tgt := 253) hx hb dL_act_239 (by decide) (fun _ => ?_) (fun h9 => absurd (show (19 : Int32) = 14 from h9) (by decide))
  refine lv_iload_n hx hb dL_act_253 rfl (lv_at hl 1 rfl) ?_
  refine lv_bipush (v := 15) hx hb dL_act_254 (by decide) ?_
  refine lv_icmp_ne (tgt := 267) hx hb dL_act_256 (by decide) (fun _ => ?_) (fun h9 => absurd (show (19 : Int32) = 15 from h9) (by decide))
  refine lv_iload_n hx hb dL_act_267 rfl (lv_at hl 1 rfl) ?_
  refine lv_bipush (v := 16) hx hb dL_act_268 (by decide) ?_
  refine lv_icmp_ne (tgt := 281) hx hb dL_act_270 (by decide) (fun _ => ?_) (fun h9 => absurd (show (19 : Int32) = 16 from h9) (by decide))
  refine lv_iload_n hx hb dL_act_281 rfl (lv_at hl 1 rfl) ?_
  refine lv_bipush (v := 17) hx hb dL_act_282 (by decide) ?_
  refine lv_icmp_ne (tgt := 295) hx hb dL_act_284 (by decide) (fun _ => ?_) (fun h9 => absurd (show (19 : Int32) = 17 from h9) (by decide))
  refine lv_iload_n hx hb dL_act_295 rfl (lv_at hl 1 rfl) ?_
  refine lv_bipush (v := 18) hx hb dL_act_296 (by decide) ?_
  refine lv_icmp_ne (tgt := 309) hx hb dL_act_298 (by decide) (fun _ => ?_) (fun h9 => absurd (show (19 : Int32) = 18 from h9) (by decide))
  refine lv_iload_n hx hb dL_act_309 rfl (lv_at hl 1 rfl) ?_
  refine lv_bipush (v := 19) hx hb dL_act_310 (by decide) ?_
  refine lv_icmp_ne (tgt := 324) hx hb dL_act_312 (by decide) (fun h9 => absurd rfl h9) (fun _ => ?_)
  refine lv_aload_n hx hb dL_act_315 rfl (lv_at hl 0 rfl) ?_
  refine lv_iload_n hx hb dL_act_316 rfl (lv_at hl 2 rfl) ?_
  refine lv_iload_n hx hb dL_act_317 rfl (lv_at hl 3 rfl) ?_
  refine o_gox (x_V (n := 2) (As := [.int a1, .int b1]) (rest := []) hM hE hX hl (c_X4_tax l hfl γ L F o ad tg M nd D hRc hI a1 b1) hRc.1.1 hRc.1.2.2 rfl k_428 k_429 k_430 k_1 k_431 ⟨rfl, by decide, by decide, by decide +kernel⟩ (by decide) rfl rfl (Nat.le_of_ble_eq_true rfl) dL_act_318 (by decide)) hE hX (fun v L1 F1 H1 locs1 hv hX1 => ?_) (fun E ce q9 H1 locs1 hno hX1 hce hcv hcl => ?_)
  · obtain ⟨r, rfl, hp⟩ := hv
    refine lv_goto (tgt := 344) hx hb dL_act_321 (by decide) ?_
    exact k_iret hM hsz hX1 ⟨_, rfl, Ac.rd hRc hI hnd hz hp⟩ (by decide) (by decide) dL_act_344
  · obtain ⟨rfl, ht⟩ := hno
    refine x_h1 hM htab (by decide) (by decide) k_493 hE.2.1.2.2.2.2.2.2.2.2.2.2.1.1 hce hcv hcl ?_
    refine lv_astore (lv' := [(7, .ref q9), (0, .ref o), (1, .int 19), (2, .int a1), (3, .int b1), (4, .int c1), (5, .int d1), (6, .int e1)]) hx hb dL_act_345 hl (by decide) rfl (fun ls hl => ?_)
    refine lv_ldc hx hb hM.2.2.2.1 (hM.2.2.2.2.1 _ k_988) dL_act_347 ?_
    exact k_iret hM hsz hX1 ⟨_, rfl, Ac.no (q := (1, -7000001)) hRc hI hnd hz ht (by simp)⟩ (by decide) (by decide) dL_act_349
set_option maxHeartbeats 4000000 in
set_option maxRecDepth 100000 in
theorem c_act_20 (l : Launch) (hfl : l.stackTraces = false) (γ : kG) (L : List Nat) (F : kF) (o n : Nat) (M : mM) (hO : Ob γ o M n L F) (a1 b1 c1 d1 e1 : Int32) : kCW l yL_act cL_act 8 (some .int) [(0, 344, 345, 81), (0, 344, 350, 84), (0, 344, 355, 87)] (kRm 8 3 18) γ L F [.ref o, .int 20, .int a1, .int b1, .int c1, .int d1, .int e1] (kI fun r L1 F1 => Ac γ o n M (carriedM M a1 b1) [(1, -7000001)] r L1 F1) := by
  refine kCW_of (by decide +kernel) (Nat.le_of_ble_eq_true rfl) ?_
  intro p e s m args below meth c sz ls hargs hsz hM htab hE hX hl
  have hx := hM.1
  have hb := hM.2.1
  have hl : lv_has ls 8 [(0, .ref o), (1, .int 20), (2, .int a1), (3, .int b1), (4, .int c1), (5, .int d1), (6, .int e1)] := hl
  obtain ⟨ad, tg, nd, D, hRc, hI, hnd, hz⟩ := hO
  refine lv_iload_n hx hb dL_act_0 rfl (lv_at hl 1 rfl) ?_
  refine lv_if_ne (tgt := 19) hx hb dL_act_1 (by decide) (fun _ => ?_) (fun h9 => absurd (show (20 : Int32) = 0 from h9) (by decide))
  refine lv_iload_n hx hb dL_act_19 rfl (lv_at hl 1 rfl) ?_
  refine lv_iconst (v := 1) hx hb dL_act_20 (by decide) ?_
  refine lv_icmp_ne (tgt := 35) hx hb dL_act_21 (by decide) (fun _ => ?_) (fun h9 => absurd (show (20 : Int32) = 1 from h9) (by decide))
  refine lv_iload_n hx hb dL_act_35 rfl (lv_at hl 1 rfl) ?_
  refine lv_iconst (v := 2) hx hb dL_act_36 (by decide) ?_
  refine lv_icmp_ne (tgt := 48) hx hb dL_act_37 (by decide) (fun _ => ?_) (fun h9 => absurd (show (20 : Int32) = 2 from h9) (by decide))
  refine lv_iload_n hx hb dL_act_48 rfl (lv_at hl 1 rfl) ?_
  refine lv_iconst (v := 3) hx hb dL_act_49 (by decide) ?_
  refine lv_icmp_ne (tgt := 61) hx hb dL_act_50 (by decide) (fun _ => ?_) (fun h9 => absurd (show (20 : Int32) = 3 from h9) (by decide))
  refine lv_iload_n hx hb dL_act_61 rfl (lv_at hl 1 rfl) ?_
  refine lv_iconst (v := 4) hx hb dL_act_62 (by decide) ?_
  refine lv_icmp_ne (tgt := 77) hx hb dL_act_63 (by decide) (fun _ => ?_) (fun h9 => absurd (show (20 : Int32) = 4 from h9) (by decide))
  refine lv_iload_n hx hb dL_act_77 rfl (lv_at hl 1 rfl) ?_
  refine lv_iconst (v := 5) hx hb dL_act_78 (by decide) ?_
  refine lv_icmp_ne (tgt := 91) hx hb dL_act_79 (by decide) (fun _ => ?_) (fun h9 => absurd (show (20 : Int32) = 5 from h9) (by decide))
  refine lv_iload_n hx hb dL_act_91 rfl (lv_at hl 1 rfl) ?_
  refine lv_bipush (v := 6) hx hb dL_act_92 (by decide) ?_
  refine lv_icmp_ne (tgt := 117) hx hb dL_act_94 (by decide) (fun _ => ?_) (fun h9 => absurd (show (20 : Int32) = 6 from h9) (by decide))
  refine lv_iload_n hx hb dL_act_117 rfl (lv_at hl 1 rfl) ?_
  refine lv_bipush (v := 7) hx hb dL_act_118 (by decide) ?_
  refine lv_icmp_ne (tgt := 145) hx hb dL_act_120 (by decide) (fun _ => ?_) (fun h9 => absurd (show (20 : Int32) = 7 from h9) (by decide))
  refine lv_iload_n hx hb dL_act_145 rfl (lv_at hl 1 rfl) ?_
  refine lv_bipush (v := 8) hx hb dL_act_146 (by decide) ?_
  refine lv_icmp_ne (tgt := 159) hx hb dL_act_148 (by decide) (fun _ => ?_) (fun h9 => absurd (show (20 : Int32) = 8 from h9) (by decide))
  refine lv_iload_n hx hb dL_act_159 rfl (lv_at hl 1 rfl) ?_
  refine lv_bipush (v := 9) hx hb dL_act_160 (by decide) ?_
  refine lv_icmp_ne (tgt := 173) hx hb dL_act_162 (by decide) (fun _ => ?_) (fun h9 => absurd (show (20 : Int32) = 9 from h9) (by decide))
  refine lv_iload_n hx hb dL_act_173 rfl (lv_at hl 1 rfl) ?_
  refine lv_bipush (v := 10) hx hb dL_act_174 (by decide) ?_
  refine lv_icmp_ne (tgt := 190) hx hb dL_act_176 (by decide) (fun _ => ?_) (fun h9 => absurd (show (20 : Int32) = 10 from h9) (by decide))
  refine lv_iload_n hx hb dL_act_190 rfl (lv_at hl 1 rfl) ?_
  refine lv_bipush (v := 11) hx hb dL_act_191 (by decide) ?_
  refine lv_icmp_ne (tgt := 207) hx hb dL_act_193 (by decide) (fun _ => ?_) (fun h9 => absurd (show (20 : Int32) = 11 from h9) (by decide))
  refine lv_iload_n hx hb dL_act_207 rfl (lv_at hl 1 rfl) ?_
  refine lv_bipush (v := 12) hx hb dL_act_208 (by decide) ?_
  refine lv_icmp_ne (tgt := 221) hx hb dL_act_210 (by decide) (fun _ => ?_) (fun h9 => absurd (show (20 : Int32) = 12 from h9) (by decide))
  refine lv_iload_n hx hb dL_act_221 rfl (lv_at hl 1 rfl) ?_
  refine lv_bipush (v := 13) hx hb dL_act_222 (by decide) ?_
  refine lv_icmp_ne (tgt := 236) hx hb dL_act_224 (by decide) (fun _ => ?_) (fun h9 => absurd (show (20 : Int32) = 13 from h9) (by decide))
  refine lv_iload_n hx hb dL_act_236 rfl (lv_at hl 1 rfl) ?_
  refine lv_bipush (v := 14) hx hb dL_act_237 (by decide) ?_
  refine lv_icmp_ne (tgt := 253) hx hb dL_act_239 (by decide) (fun _ => ?_) (fun h9 => absurd (show (20 : Int32) = 14 from h9) (by decide))
  refine lv_iload_n hx hb dL_act_253 rfl (lv_at hl 1 rfl) ?_
  refine lv_bipush (v := 15) hx hb dL_act_254 (by decide) ?_
  refine lv_icmp_ne (tgt := 267) hx hb dL_act_256 (by decide) (fun _ => ?_) (fun h9 => absurd (show (20 : Int32) = 15 from h9) (by decide))
  refine lv_iload_n hx hb dL_act_267 rfl (lv_at hl 1 rfl) ?_
  refine lv_bipush (v := 16) hx hb dL_act_268 (by decide) ?_
  refine lv_icmp_ne (tgt := 281) hx hb dL_act_270 (by decide) (fun _ => ?_) (fun h9 => absurd (show (20 : Int32) = 16 from h9) (by decide))
  refine lv_iload_n hx hb dL_act_281 rfl (lv_at hl 1 rfl) ?_
  refine lv_bipush (v := 17) hx hb dL_act_282 (by decide) ?_
  refine lv_icmp_ne (tgt := 295) hx hb dL_act_284 (by decide) (fun _ => ?_) (fun h9 => absurd (show (20 : Int32) = 17 from h9) (by decide))
  refine lv_iload_n hx hb dL_act_295 rfl (lv_at hl 1 rfl) ?_
  refine lv_bipush (v := 18) hx hb dL_act_296 (by decide) ?_
  refine lv_icmp_ne (tgt := 309) hx hb dL_act_298 (by decide) (fun _ => ?_) (fun h9 => absurd (show (20 : Int32) = 18 from h9) (by decide))
  refine lv_iload_n hx hb dL_act_309 rfl (lv_at hl 1 rfl) ?_
  refine lv_bipush (v := 19) hx hb dL_act_310 (by decide) ?_
  refine lv_icmp_ne (tgt := 324) hx hb dL_act_312 (by decide) (fun _ => ?_) (fun h9 => absurd (show (20 : Int32) = 19 from h9) (by decide))
  refine lv_iload_n hx hb dL_act_324 rfl (lv_at hl 1 rfl) ?_
  refine lv_bipush (v := 20) hx hb dL_act_325 (by decide) ?_
  refine lv_icmp_ne (tgt := 339) hx hb dL_act_327 (by decide) (fun h9 => absurd rfl h9) (fun _ => ?_)
  refine lv_aload_n hx hb dL_act_330 rfl (lv_at hl 0 rfl) ?_
  refine lv_iload_n hx hb dL_act_331 rfl (lv_at hl 2 rfl) ?_
  refine lv_iload_n hx hb dL_act_332 rfl (lv_at hl 3 rfl) ?_
  refine o_gox (x_V (n := 2) (As := [.int a1, .int b1]) (rest := []) hM hE hX hl (c_X4_carried l hfl γ L F o ad tg M nd D hRc hI a1 b1) hRc.1.1 hRc.1.2.2 rfl k_465 k_466 k_467 k_1 k_468 ⟨rfl, by decide, by decide, by decide +kernel⟩ (by decide) rfl rfl (Nat.le_of_ble_eq_true rfl) dL_act_333 (by decide)) hE hX (fun v L1 F1 H1 locs1 hv hX1 => ?_) (fun E ce q9 H1 locs1 hno hX1 hce hcv hcl => ?_)
  · obtain ⟨r, rfl, hp⟩ := hv
    refine lv_goto (tgt := 344) hx hb dL_act_336 (by decide) ?_
    exact k_iret hM hsz hX1 ⟨_, rfl, Ac.rd hRc hI hnd hz hp⟩ (by decide) (by decide) dL_act_344
  · obtain ⟨rfl, ht⟩ := hno
    refine x_h1 hM htab (by decide) (by decide) k_493 hE.2.1.2.2.2.2.2.2.2.2.2.2.1.1 hce hcv hcl ?_
    refine lv_astore (lv' := [(7, .ref q9), (0, .ref o), (1, .int 20), (2, .int a1), (3, .int b1), (4, .int c1), (5, .int d1), (6, .int e1)]) hx hb dL_act_345 hl (by decide) rfl (fun ls hl => ?_)
    refine lv_ldc hx hb hM.2.2.2.1 (hM.2.2.2.2.1 _ k_988) dL_act_347 ?_
    exact k_iret hM hsz hX1 ⟨_, rfl, Ac.no (q := (1, -7000001)) hRc hI hnd hz ht (by simp)⟩ (by decide) (by decide) dL_act_349
set_option maxHeartbeats 4000000 in
set_option maxRecDepth 100000 in
theorem c_act_21 (l : Launch) (hfl : l.stackTraces = false) (γ : kG) (L : List Nat) (F : kF) (o n : Nat) (M : mM) (hO : Ob γ o M n L F) (a1 b1 c1 d1 e1 : Int32) : kCW l yL_act cL_act 8 (some .int) [(0, 344, 345, 81), (0, 344, 350, 84), (0, 344, 355, 87)] (kRm 6 1 6) γ L F [.ref o, .int 21, .int a1, .int b1, .int c1, .int d1, .int e1] (kI fun r L1 F1 => Ac γ o n M (chainM M a1) [(1, -7000001)] r L1 F1) := by
  refine kCW_of (by decide +kernel) (Nat.le_of_ble_eq_true rfl) ?_
  intro p e s m args below meth c sz ls hargs hsz hM htab hE hX hl
  have hx := hM.1
  have hb := hM.2.1
  have hl : lv_has ls 8 [(0, .ref o), (1, .int 21), (2, .int a1), (3, .int b1), (4, .int c1), (5, .int d1), (6, .int e1)] := hl
  obtain ⟨ad, tg, nd, D, hRc, hI, hnd, hz⟩ := hO
  refine lv_iload_n hx hb dL_act_0 rfl (lv_at hl 1 rfl) ?_
  refine lv_if_ne (tgt := 19) hx hb dL_act_1 (by decide) (fun _ => ?_) (fun h9 => absurd (show (21 : Int32) = 0 from h9) (by decide))
  refine lv_iload_n hx hb dL_act_19 rfl (lv_at hl 1 rfl) ?_
  refine lv_iconst (v := 1) hx hb dL_act_20 (by decide) ?_
  refine lv_icmp_ne (tgt := 35) hx hb dL_act_21 (by decide) (fun _ => ?_) (fun h9 => absurd (show (21 : Int32) = 1 from h9) (by decide))
  refine lv_iload_n hx hb dL_act_35 rfl (lv_at hl 1 rfl) ?_
  refine lv_iconst (v := 2) hx hb dL_act_36 (by decide) ?_
  refine lv_icmp_ne (tgt := 48) hx hb dL_act_37 (by decide) (fun _ => ?_) (fun h9 => absurd (show (21 : Int32) = 2 from h9) (by decide))
  refine lv_iload_n hx hb dL_act_48 rfl (lv_at hl 1 rfl) ?_
  refine lv_iconst (v := 3) hx hb dL_act_49 (by decide) ?_
  refine lv_icmp_ne (tgt := 61) hx hb dL_act_50 (by decide) (fun _ => ?_) (fun h9 => absurd (show (21 : Int32) = 3 from h9) (by decide))
  refine lv_iload_n hx hb dL_act_61 rfl (lv_at hl 1 rfl) ?_
  refine lv_iconst (v := 4) hx hb dL_act_62 (by decide) ?_
  refine lv_icmp_ne (tgt := 77) hx hb dL_act_63 (by decide) (fun _ => ?_) (fun h9 => absurd (show (21 : Int32) = 4 from h9) (by decide))
  refine lv_iload_n hx hb dL_act_77 rfl (lv_at hl 1 rfl) ?_
  refine lv_iconst (v := 5) hx hb dL_act_78 (by decide) ?_
  refine lv_icmp_ne (tgt := 91) hx hb dL_act_79 (by decide) (fun _ => ?_) (fun h9 => absurd (show (21 : Int32) = 5 from h9) (by decide))
  refine lv_iload_n hx hb dL_act_91 rfl (lv_at hl 1 rfl) ?_
  refine lv_bipush (v := 6) hx hb dL_act_92 (by decide) ?_
  refine lv_icmp_ne (tgt := 117) hx hb dL_act_94 (by decide) (fun _ => ?_) (fun h9 => absurd (show (21 : Int32) = 6 from h9) (by decide))
  refine lv_iload_n hx hb dL_act_117 rfl (lv_at hl 1 rfl) ?_
  refine lv_bipush (v := 7) hx hb dL_act_118 (by decide) ?_
  refine lv_icmp_ne (tgt := 145) hx hb dL_act_120 (by decide) (fun _ => ?_) (fun h9 => absurd (show (21 : Int32) = 7 from h9) (by decide))
  refine lv_iload_n hx hb dL_act_145 rfl (lv_at hl 1 rfl) ?_
  refine lv_bipush (v := 8) hx hb dL_act_146 (by decide) ?_
  refine lv_icmp_ne (tgt := 159) hx hb dL_act_148 (by decide) (fun _ => ?_) (fun h9 => absurd (show (21 : Int32) = 8 from h9) (by decide))
  refine lv_iload_n hx hb dL_act_159 rfl (lv_at hl 1 rfl) ?_
  refine lv_bipush (v := 9) hx hb dL_act_160 (by decide) ?_
  refine lv_icmp_ne (tgt := 173) hx hb dL_act_162 (by decide) (fun _ => ?_) (fun h9 => absurd (show (21 : Int32) = 9 from h9) (by decide))
  refine lv_iload_n hx hb dL_act_173 rfl (lv_at hl 1 rfl) ?_
  refine lv_bipush (v := 10) hx hb dL_act_174 (by decide) ?_
  refine lv_icmp_ne (tgt := 190) hx hb dL_act_176 (by decide) (fun _ => ?_) (fun h9 => absurd (show (21 : Int32) = 10 from h9) (by decide))
  refine lv_iload_n hx hb dL_act_190 rfl (lv_at hl 1 rfl) ?_
  refine lv_bipush (v := 11) hx hb dL_act_191 (by decide) ?_
  refine lv_icmp_ne (tgt := 207) hx hb dL_act_193 (by decide) (fun _ => ?_) (fun h9 => absurd (show (21 : Int32) = 11 from h9) (by decide))
  refine lv_iload_n hx hb dL_act_207 rfl (lv_at hl 1 rfl) ?_
  refine lv_bipush (v := 12) hx hb dL_act_208 (by decide) ?_
  refine lv_icmp_ne (tgt := 221) hx hb dL_act_210 (by decide) (fun _ => ?_) (fun h9 => absurd (show (21 : Int32) = 12 from h9) (by decide))
  refine lv_iload_n hx hb dL_act_221 rfl (lv_at hl 1 rfl) ?_
  refine lv_bipush (v := 13) hx hb dL_act_222 (by decide) ?_
  refine lv_icmp_ne (tgt := 236) hx hb dL_act_224 (by decide) (fun _ => ?_) (fun h9 => absurd (show (21 : Int32) = 13 from h9) (by decide))
  refine lv_iload_n hx hb dL_act_236 rfl (lv_at hl 1 rfl) ?_
  refine lv_bipush (v := 14) hx hb dL_act_237 (by decide) ?_
  refine lv_icmp_ne (tgt := 253) hx hb dL_act_239 (by decide) (fun _ => ?_) (fun h9 => absurd (show (21 : Int32) = 14 from h9) (by decide))
  refine lv_iload_n hx hb dL_act_253 rfl (lv_at hl 1 rfl) ?_
  refine lv_bipush (v := 15) hx hb dL_act_254 (by decide) ?_
  refine lv_icmp_ne (tgt := 267) hx hb dL_act_256 (by decide) (fun _ => ?_) (fun h9 => absurd (show (21 : Int32) = 15 from h9) (by decide))
  refine lv_iload_n hx hb dL_act_267 rfl (lv_at hl 1 rfl) ?_
  refine lv_bipush (v := 16) hx hb dL_act_268 (by decide) ?_
  refine lv_icmp_ne (tgt := 281) hx hb dL_act_270 (by decide) (fun _ => ?_) (fun h9 => absurd (show (21 : Int32) = 16 from h9) (by decide))
  refine lv_iload_n hx hb dL_act_281 rfl (lv_at hl 1 rfl) ?_
  refine lv_bipush (v := 17) hx hb dL_act_282 (by decide) ?_
  refine lv_icmp_ne (tgt := 295) hx hb dL_act_284 (by decide) (fun _ => ?_) (fun h9 => absurd (show (21 : Int32) = 17 from h9) (by decide))
  refine lv_iload_n hx hb dL_act_295 rfl (lv_at hl 1 rfl) ?_
  refine lv_bipush (v := 18) hx hb dL_act_296 (by decide) ?_
  refine lv_icmp_ne (tgt := 309) hx hb dL_act_298 (by decide) (fun _ => ?_) (fun h9 => absurd (show (21 : Int32) = 18 from h9) (by decide))
  refine lv_iload_n hx hb dL_act_309 rfl (lv_at hl 1 rfl) ?_
  refine lv_bipush (v := 19) hx hb dL_act_310 (by decide) ?_
  refine lv_icmp_ne (tgt := 324) hx hb dL_act_312 (by decide) (fun _ => ?_) (fun h9 => absurd (show (21 : Int32) = 19 from h9) (by decide))
  refine lv_iload_n hx hb dL_act_324 rfl (lv_at hl 1 rfl) ?_
  refine lv_bipush (v := 20) hx hb dL_act_325 (by decide) ?_
  refine lv_icmp_ne (tgt := 339) hx hb dL_act_327 (by decide) (fun _ => ?_) (fun h9 => absurd (show (21 : Int32) = 20 from h9) (by decide))
  refine lv_aload_n hx hb dL_act_339 rfl (lv_at hl 0 rfl) ?_
  refine lv_iload_n hx hb dL_act_340 rfl (lv_at hl 2 rfl) ?_
  refine o_gox (x_V (n := 1) (As := [.int a1]) (rest := []) hM hE hX hl (c_X4_chain l hfl γ L F o ad tg M nd D hRc hI a1) hRc.1.1 hRc.1.2.2 rfl k_469 k_470 k_471 k_1 k_472 ⟨rfl, by decide, by decide, by decide +kernel⟩ (by decide) rfl rfl (Nat.le_of_ble_eq_true rfl) dL_act_341 (by decide)) hE hX (fun v L1 F1 H1 locs1 hv hX1 => ?_) (fun E ce q9 H1 locs1 hno hX1 hce hcv hcl => ?_)
  · obtain ⟨r, rfl, hp⟩ := hv
    exact k_iret hM hsz hX1 ⟨_, rfl, Ac.rd hRc hI hnd hz hp⟩ (by decide) (by decide) dL_act_344
  · obtain ⟨rfl, ht⟩ := hno
    refine x_h1 hM htab (by decide) (by decide) k_493 hE.2.1.2.2.2.2.2.2.2.2.2.2.1.1 hce hcv hcl ?_
    refine lv_astore (lv' := [(7, .ref q9), (0, .ref o), (1, .int 21), (2, .int a1), (3, .int b1), (4, .int c1), (5, .int d1), (6, .int e1)]) hx hb dL_act_345 hl (by decide) rfl (fun ls hl => ?_)
    refine lv_ldc hx hb hM.2.2.2.1 (hM.2.2.2.2.1 _ k_988) dL_act_347 ?_
    exact k_iret hM hsz hX1 ⟨_, rfl, Ac.no (q := (1, -7000001)) hRc hI hnd hz ht (by simp)⟩ (by decide) (by decide) dL_act_349
