/-! the law's wrappers: they return, whatever is thrown -/
set_option maxHeartbeats 4000000 in
set_option maxRecDepth 100000 in
theorem c_L_cash (l : Launch) (hfl : l.stackTraces = false) (γ : kG) (L : List Nat) (F : kF) (o q : Nat) (ad : cAd) (tg : cTg) (M : mM) (nd : Nat) (D : cD) (f : Nat → Int64) (hR : RepC γ L F o ad tg M nd D) (hI : Inv M nd D) (hnd : nd < 512) (hq : F q = oL γ f) (a : Int32) : kCW l yL_cash cL_cash 4 (some .int) [(0, 9, 12, 13)] (kRm 1 1 6) γ (L ++ [q]) F [.ref o, .int a, .ref q] (kI fun k L1 F1 => Wo γ o q nd (cashM M a) k L1 F1) := by
  refine kCW_of (by decide +kernel) (Nat.le_of_ble_eq_true rfl) ?_
  intro p e s m args below meth c sz ls hargs hsz hM htab hE hX hl
  have hx := hM.1
  have hb := hM.2.1
  have hl : lv_has ls 4 [(0, .ref o), (1, .int a), (2, .ref q)] := hl
  have hXl := kX_left hX
  refine lv_aload_n hx hb dL_cash_0 rfl (lv_at hl 2 rfl) ?_
  refine lv_iconst (v := 0) hx hb dL_cash_1 (by decide) ?_
  refine lv_aload_n hx hb dL_cash_2 rfl (lv_at hl 0 rfl) ?_
  refine lv_iload_n hx hb dL_cash_3 rfl (lv_at hl 1 rfl) ?_
  refine x_goF (x_V (n := 1) (As := [.int a]) (rest := [.int 0, .ref q]) hM hE hXl hl (c_X4_cash l hfl γ L F o ad tg M nd D hR hI a) hR.1.1 hR.1.2.2 rfl k_975 k_976 k_977 k_1 k_978 ⟨rfl, by decide, by decide, by decide +kernel⟩ (by decide) rfl rfl (Nat.le_of_ble_eq_true rfl) dL_cash_4 (by decide)) hE hX (fun v L1 F1 H1 locs1 hv hX1 => ?_) (fun E ce q9 H1 locs1 hno hX1 hce hcv hcl => ?_)
  · obtain ⟨r, rfl, hp⟩ := hv
    refine lv_i2l hx hb dL_cash_7 rfl ?_
    refine k_last (n := 1) (f := f) hM hE hX1 (List.mem_append_right _ (List.mem_singleton.mpr rfl)) ((kMix_in (List.mem_singleton.mpr rfl)).trans hq) (show vp_in (nI 0) 1 from vp_in_nI (by decide) (by decide)) dL_cash_8 (fun H2 locs2 hX2 => ?_)
    refine lv_goto (tgt := 15) hx hb dL_cash_9 (by decide) ?_
    refine lv_iconst (v := 0) hx hb dL_cash_15 (by decide) ?_
    exact k_iret hM hsz hX2 ⟨_, rfl, Wo.done (After.rd hR hI hp) (fun b hb => kX_apart hX1 hb)⟩ (by decide) (by decide) dL_cash_16
  · obtain ⟨rfl, ht⟩ := hno
    refine x_h1 hM htab (by decide) (by decide) k_499 hE.2.1.2.2.2.2.2.2.2.2.2.2.1.1 hce hcv hcl ?_
    refine lv_astore_n (lv' := [(3, .ref q9), (0, .ref o), (1, .int a), (2, .ref q)]) hx hb dL_cash_12 rfl hl (by decide) rfl (fun ls hl => ?_)
    refine lv_iconst (v := 1) hx hb dL_cash_13 (by decide) ?_
    exact k_iret hM hsz hX1 ⟨_, rfl, Wo.thr hR hI hq ht (by decide)⟩ (by decide) (by decide) dL_cash_14
set_option maxHeartbeats 4000000 in
set_option maxRecDepth 100000 in
theorem c_L_about (l : Launch) (hfl : l.stackTraces = false) (γ : kG) (L : List Nat) (F : kF) (o q : Nat) (ad : cAd) (tg : cTg) (M : mM) (nd : Nat) (D : cD) (f : Nat → Int64) (hR : RepC γ L F o ad tg M nd D) (hI : Inv M nd D) (hnd : nd < 512) (hq : F q = oL γ f) (a b : Int32) : kCW l yL_about cL_about 5 (some .int) [(0, 10, 13, 13), (0, 10, 17, 15)] (kRm 5 2 12) γ (L ++ [q]) F [.ref o, .int a, .int b, .ref q] (kI fun k L1 F1 => Wo γ o q nd (aboutM M a b) k L1 F1) := by
  refine kCW_of (by decide +kernel) (Nat.le_of_ble_eq_true rfl) ?_
  intro p e s m args below meth c sz ls hargs hsz hM htab hE hX hl
  have hx := hM.1
  have hb := hM.2.1
  have hl : lv_has ls 5 [(0, .ref o), (1, .int a), (2, .int b), (3, .ref q)] := hl
  have hXl := kX_left hX
  refine lv_aload_n hx hb dL_about_0 rfl (lv_at hl 3 rfl) ?_
  refine lv_iconst (v := 0) hx hb dL_about_1 (by decide) ?_
  refine lv_aload_n hx hb dL_about_2 rfl (lv_at hl 0 rfl) ?_
  refine lv_iload_n hx hb dL_about_3 rfl (lv_at hl 1 rfl) ?_
  refine lv_iload_n hx hb dL_about_4 rfl (lv_at hl 2 rfl) ?_
  refine x_goF (x_V (n := 2) (As := [.int a, .int b]) (rest := [.int 0, .ref q]) hM hE hXl hl (c_X4_about l hfl γ L F o ad tg M nd D hR hI a b) hR.1.1 hR.1.2.2 rfl k_955 k_956 k_957 k_1 k_958 ⟨rfl, by decide, by decide, by decide +kernel⟩ (by decide) rfl rfl (Nat.le_of_ble_eq_true rfl) dL_about_5 (by decide)) hE hX (fun v L1 F1 H1 locs1 hv hX1 => ?_) (fun E ce q9 H1 locs1 hno hX1 hce hcv hcl => ?_)
  · obtain ⟨r, rfl, hp⟩ := hv
    refine lv_i2l hx hb dL_about_8 rfl ?_
    refine k_last (n := 1) (f := f) hM hE hX1 (List.mem_append_right _ (List.mem_singleton.mpr rfl)) ((kMix_in (List.mem_singleton.mpr rfl)).trans hq) (show vp_in (nI 0) 1 from vp_in_nI (by decide) (by decide)) dL_about_9 (fun H2 locs2 hX2 => ?_)
    refine lv_goto (tgt := 21) hx hb dL_about_10 (by decide) ?_
    refine lv_iconst (v := 0) hx hb dL_about_21 (by decide) ?_
    exact k_iret hM hsz hX2 ⟨_, rfl, Wo.done (After.rd hR hI hp) (fun b hb => kX_apart hX1 hb)⟩ (by decide) (by decide) dL_about_22
  · rcases hno with ⟨rfl, ht⟩ | ⟨rfl, ht⟩
    · refine x_h1 hM htab (by decide) (by decide) k_499 hE.2.1.2.2.2.2.2.2.2.2.2.2.1.1 hce hcv hcl ?_
      refine lv_astore (lv' := [(4, .ref q9), (0, .ref o), (1, .int a), (2, .int b), (3, .ref q)]) hx hb dL_about_13 hl (by decide) rfl (fun ls hl => ?_)
      refine lv_iconst (v := 1) hx hb dL_about_15 (by decide) ?_
      exact k_iret hM hsz hX1 ⟨_, rfl, Wo.thr hR hI hq ht (by decide)⟩ (by decide) (by decide) dL_about_16
    · refine x_h2 hM htab (by decide) k_499 hE.2.1.2.2.2.2.2.2.2.2.2.2.2.1.1 (by decide) (by decide) k_500 hE.2.1.2.2.2.2.2.2.2.2.2.2.1.2.1 hce hcv hcl ?_
      refine lv_astore (lv' := [(4, .ref q9), (0, .ref o), (1, .int a), (2, .int b), (3, .ref q)]) hx hb dL_about_17 hl (by decide) rfl (fun ls hl => ?_)
      refine lv_iconst (v := 2) hx hb dL_about_19 (by decide) ?_
      exact k_iret hM hsz hX1 ⟨_, rfl, Wo.thr hR hI hq ht (by decide)⟩ (by decide) (by decide) dL_about_20
set_option maxHeartbeats 4000000 in
set_option maxRecDepth 100000 in
theorem c_L_lineOf (l : Launch) (hfl : l.stackTraces = false) (γ : kG) (L : List Nat) (F : kF) (o q : Nat) (ad : cAd) (tg : cTg) (M : mM) (nd : Nat) (D : cD) (f : Nat → Int64) (hR : RepC γ L F o ad tg M nd D) (hI : Inv M nd D) (hnd : nd < 512) (hq : F q = oL γ f) (a b x : Int32) : kCW l yL_lineOf cL_lineOf 6 (some .int) [(0, 12, 15, 13), (0, 12, 19, 15)] (kRm 5 3 18) γ (L ++ [q]) F [.ref o, .int a, .int b, .int x, .ref q] (kI fun k L1 F1 => Wo γ o q nd (lineOfM M a b x) k L1 F1) := by
  refine kCW_of (by decide +kernel) (Nat.le_of_ble_eq_true rfl) ?_
  intro p e s m args below meth c sz ls hargs hsz hM htab hE hX hl
  have hx := hM.1
  have hb := hM.2.1
  have hl : lv_has ls 6 [(0, .ref o), (1, .int a), (2, .int b), (3, .int x), (4, .ref q)] := hl
  have hXl := kX_left hX
  refine lv_aload hx hb dL_lineOf_0 (lv_at hl 4 rfl) ?_
  refine lv_iconst (v := 0) hx hb dL_lineOf_2 (by decide) ?_
  refine lv_aload_n hx hb dL_lineOf_3 rfl (lv_at hl 0 rfl) ?_
  refine lv_iload_n hx hb dL_lineOf_4 rfl (lv_at hl 1 rfl) ?_
  refine lv_iload_n hx hb dL_lineOf_5 rfl (lv_at hl 2 rfl) ?_
  refine lv_iload_n hx hb dL_lineOf_6 rfl (lv_at hl 3 rfl) ?_
  refine x_goF (x_V (n := 3) (As := [.int a, .int b, .int x]) (rest := [.int 0, .ref q]) hM hE hXl hl (c_X4_lineOf l hfl γ L F o ad tg M nd D hR hI a b x) hR.1.1 hR.1.2.2 rfl k_968 k_969 k_970 k_1 k_971 ⟨rfl, by decide, by decide, by decide +kernel⟩ (by decide) rfl rfl (Nat.le_of_ble_eq_true rfl) dL_lineOf_7 (by decide)) hE hX (fun v L1 F1 H1 locs1 hv hX1 => ?_) (fun E ce q9 H1 locs1 hno hX1 hce hcv hcl => ?_)
  · obtain ⟨r, rfl, hp⟩ := hv
    refine lv_i2l hx hb dL_lineOf_10 rfl ?_
    refine k_last (n := 1) (f := f) hM hE hX1 (List.mem_append_right _ (List.mem_singleton.mpr rfl)) ((kMix_in (List.mem_singleton.mpr rfl)).trans hq) (show vp_in (nI 0) 1 from vp_in_nI (by decide) (by decide)) dL_lineOf_11 (fun H2 locs2 hX2 => ?_)
    refine lv_goto (tgt := 23) hx hb dL_lineOf_12 (by decide) ?_
    refine lv_iconst (v := 0) hx hb dL_lineOf_23 (by decide) ?_
    exact k_iret hM hsz hX2 ⟨_, rfl, Wo.done (After.rd hR hI hp) (fun b hb => kX_apart hX1 hb)⟩ (by decide) (by decide) dL_lineOf_24
  · rcases hno with ⟨rfl, ht⟩ | ⟨rfl, ht⟩
    · refine x_h1 hM htab (by decide) (by decide) k_499 hE.2.1.2.2.2.2.2.2.2.2.2.2.1.1 hce hcv hcl ?_
      refine lv_astore (lv' := [(5, .ref q9), (0, .ref o), (1, .int a), (2, .int b), (3, .int x), (4, .ref q)]) hx hb dL_lineOf_15 hl (by decide) rfl (fun ls hl => ?_)
      refine lv_iconst (v := 1) hx hb dL_lineOf_17 (by decide) ?_
      exact k_iret hM hsz hX1 ⟨_, rfl, Wo.thr hR hI hq ht (by decide)⟩ (by decide) (by decide) dL_lineOf_18
    · refine x_h2 hM htab (by decide) k_499 hE.2.1.2.2.2.2.2.2.2.2.2.2.2.1.1 (by decide) (by decide) k_500 hE.2.1.2.2.2.2.2.2.2.2.2.2.1.2.1 hce hcv hcl ?_
      refine lv_astore (lv' := [(5, .ref q9), (0, .ref o), (1, .int a), (2, .int b), (3, .int x), (4, .ref q)]) hx hb dL_lineOf_19 hl (by decide) rfl (fun ls hl => ?_)
      refine lv_iconst (v := 2) hx hb dL_lineOf_21 (by decide) ?_
      exact k_iret hM hsz hX1 ⟨_, rfl, Wo.thr hR hI hq ht (by decide)⟩ (by decide) (by decide) dL_lineOf_22
set_option maxHeartbeats 4000000 in
set_option maxRecDepth 100000 in
theorem c_L_tax (l : Launch) (hfl : l.stackTraces = false) (γ : kG) (L : List Nat) (F : kF) (o q : Nat) (ad : cAd) (tg : cTg) (M : mM) (nd : Nat) (D : cD) (f : Nat → Int64) (hR : RepC γ L F o ad tg M nd D) (hI : Inv M nd D) (hnd : nd < 512) (hq : F q = oL γ f) (a b : Int32) : kCW l yL_tax cL_tax 5 (some .int) [(0, 10, 13, 13)] (kRm 8 3 18) γ (L ++ [q]) F [.ref o, .int a, .int b, .ref q] (kI fun k L1 F1 => Wo γ o q nd (taxM M a b) k L1 F1) := by
  refine kCW_of (by decide +kernel) (Nat.le_of_ble_eq_true rfl) ?_
  intro p e s m args below meth c sz ls hargs hsz hM htab hE hX hl
  have hx := hM.1
  have hb := hM.2.1
  have hl : lv_has ls 5 [(0, .ref o), (1, .int a), (2, .int b), (3, .ref q)] := hl
  have hXl := kX_left hX
  refine lv_aload_n hx hb dL_tax_0 rfl (lv_at hl 3 rfl) ?_
  refine lv_iconst (v := 0) hx hb dL_tax_1 (by decide) ?_
  refine lv_aload_n hx hb dL_tax_2 rfl (lv_at hl 0 rfl) ?_
  refine lv_iload_n hx hb dL_tax_3 rfl (lv_at hl 1 rfl) ?_
  refine lv_iload_n hx hb dL_tax_4 rfl (lv_at hl 2 rfl) ?_
  refine x_goF (x_V (n := 2) (As := [.int a, .int b]) (rest := [.int 0, .ref q]) hM hE hXl hl (c_X4_tax l hfl γ L F o ad tg M nd D hR hI a b) hR.1.1 hR.1.2.2 rfl k_1003 k_1004 k_1005 k_1 k_1006 ⟨rfl, by decide, by decide, by decide +kernel⟩ (by decide) rfl rfl (Nat.le_of_ble_eq_true rfl) dL_tax_5 (by decide)) hE hX (fun v L1 F1 H1 locs1 hv hX1 => ?_) (fun E ce q9 H1 locs1 hno hX1 hce hcv hcl => ?_)
  · obtain ⟨r, rfl, hp⟩ := hv
    refine lv_i2l hx hb dL_tax_8 rfl ?_
    refine k_last (n := 1) (f := f) hM hE hX1 (List.mem_append_right _ (List.mem_singleton.mpr rfl)) ((kMix_in (List.mem_singleton.mpr rfl)).trans hq) (show vp_in (nI 0) 1 from vp_in_nI (by decide) (by decide)) dL_tax_9 (fun H2 locs2 hX2 => ?_)
    refine lv_goto (tgt := 17) hx hb dL_tax_10 (by decide) ?_
    refine lv_iconst (v := 0) hx hb dL_tax_17 (by decide) ?_
    exact k_iret hM hsz hX2 ⟨_, rfl, Wo.done (After.rd hR hI hp) (fun b hb => kX_apart hX1 hb)⟩ (by decide) (by decide) dL_tax_18
  · obtain ⟨rfl, ht⟩ := hno
    refine x_h1 hM htab (by decide) (by decide) k_499 hE.2.1.2.2.2.2.2.2.2.2.2.2.1.1 hce hcv hcl ?_
    refine lv_astore (lv' := [(4, .ref q9), (0, .ref o), (1, .int a), (2, .int b), (3, .ref q)]) hx hb dL_tax_13 hl (by decide) rfl (fun ls hl => ?_)
    refine lv_iconst (v := 1) hx hb dL_tax_15 (by decide) ?_
    exact k_iret hM hsz hX1 ⟨_, rfl, Wo.thr hR hI hq ht (by decide)⟩ (by decide) (by decide) dL_tax_16
set_option maxHeartbeats 4000000 in
set_option maxRecDepth 100000 in
theorem c_L_carried (l : Launch) (hfl : l.stackTraces = false) (γ : kG) (L : List Nat) (F : kF) (o q : Nat) (ad : cAd) (tg : cTg) (M : mM) (nd : Nat) (D : cD) (f : Nat → Int64) (hR : RepC γ L F o ad tg M nd D) (hI : Inv M nd D) (hnd : nd < 512) (hq : F q = oL γ f) (a b : Int32) : kCW l yL_carried cL_carried 5 (some .int) [(0, 10, 13, 13)] (kRm 8 3 18) γ (L ++ [q]) F [.ref o, .int a, .int b, .ref q] (kI fun k L1 F1 => Wo γ o q nd (carriedM M a b) k L1 F1) := by
  refine kCW_of (by decide +kernel) (Nat.le_of_ble_eq_true rfl) ?_
  intro p e s m args below meth c sz ls hargs hsz hM htab hE hX hl
  have hx := hM.1
  have hb := hM.2.1
  have hl : lv_has ls 5 [(0, .ref o), (1, .int a), (2, .int b), (3, .ref q)] := hl
  have hXl := kX_left hX
  refine lv_aload_n hx hb dL_carried_0 rfl (lv_at hl 3 rfl) ?_
  refine lv_iconst (v := 0) hx hb dL_carried_1 (by decide) ?_
  refine lv_aload_n hx hb dL_carried_2 rfl (lv_at hl 0 rfl) ?_
  refine lv_iload_n hx hb dL_carried_3 rfl (lv_at hl 1 rfl) ?_
  refine lv_iload_n hx hb dL_carried_4 rfl (lv_at hl 2 rfl) ?_
  refine x_goF (x_V (n := 2) (As := [.int a, .int b]) (rest := [.int 0, .ref q]) hM hE hXl hl (c_X4_carried l hfl γ L F o ad tg M nd D hR hI a b) hR.1.1 hR.1.2.2 rfl k_1042 k_1043 k_1044 k_1 k_1045 ⟨rfl, by decide, by decide, by decide +kernel⟩ (by decide) rfl rfl (Nat.le_of_ble_eq_true rfl) dL_carried_5 (by decide)) hE hX (fun v L1 F1 H1 locs1 hv hX1 => ?_) (fun E ce q9 H1 locs1 hno hX1 hce hcv hcl => ?_)
  · obtain ⟨r, rfl, hp⟩ := hv
    refine lv_i2l hx hb dL_carried_8 rfl ?_
    refine k_last (n := 1) (f := f) hM hE hX1 (List.mem_append_right _ (List.mem_singleton.mpr rfl)) ((kMix_in (List.mem_singleton.mpr rfl)).trans hq) (show vp_in (nI 0) 1 from vp_in_nI (by decide) (by decide)) dL_carried_9 (fun H2 locs2 hX2 => ?_)
    refine lv_goto (tgt := 17) hx hb dL_carried_10 (by decide) ?_
    refine lv_iconst (v := 0) hx hb dL_carried_17 (by decide) ?_
    exact k_iret hM hsz hX2 ⟨_, rfl, Wo.done (After.rd hR hI hp) (fun b hb => kX_apart hX1 hb)⟩ (by decide) (by decide) dL_carried_18
  · obtain ⟨rfl, ht⟩ := hno
    refine x_h1 hM htab (by decide) (by decide) k_499 hE.2.1.2.2.2.2.2.2.2.2.2.2.1.1 hce hcv hcl ?_
    refine lv_astore (lv' := [(4, .ref q9), (0, .ref o), (1, .int a), (2, .int b), (3, .ref q)]) hx hb dL_carried_13 hl (by decide) rfl (fun ls hl => ?_)
    refine lv_iconst (v := 1) hx hb dL_carried_15 (by decide) ?_
    exact k_iret hM hsz hX1 ⟨_, rfl, Wo.thr hR hI hq ht (by decide)⟩ (by decide) (by decide) dL_carried_16
set_option maxHeartbeats 4000000 in
set_option maxRecDepth 100000 in
theorem c_L_owedTo (l : Launch) (hfl : l.stackTraces = false) (γ : kG) (L : List Nat) (F : kF) (o q : Nat) (ad : cAd) (tg : cTg) (M : mM) (nd : Nat) (D : cD) (f : Nat → Int64) (hR : RepC γ L F o ad tg M nd D) (hI : Inv M nd D) (hnd : nd < 512) (hq : F q = oL γ f) (a : Int32) : kCW l yL_owedTo cL_owedTo 4 (some .int) [(0, 9, 12, 13)] (kRm 5 1 6) γ (L ++ [q]) F [.ref o, .int a, .ref q] (kI fun k L1 F1 => Wo γ o q nd (owedToM M a) k L1 F1) := by
  refine kCW_of (by decide +kernel) (Nat.le_of_ble_eq_true rfl) ?_
  intro p e s m args below meth c sz ls hargs hsz hM htab hE hX hl
  have hx := hM.1
  have hb := hM.2.1
  have hl : lv_has ls 4 [(0, .ref o), (1, .int a), (2, .ref q)] := hl
  have hXl := kX_left hX
  refine lv_aload_n hx hb dL_owedTo_0 rfl (lv_at hl 2 rfl) ?_
  refine lv_iconst (v := 0) hx hb dL_owedTo_1 (by decide) ?_
  refine lv_aload_n hx hb dL_owedTo_2 rfl (lv_at hl 0 rfl) ?_
  refine lv_iload_n hx hb dL_owedTo_3 rfl (lv_at hl 1 rfl) ?_
  refine x_goF (x_V (n := 1) (As := [.int a]) (rest := [.int 0, .ref q]) hM hE hXl hl (c_X4_owedTo l hfl γ L F o ad tg M nd D hR hI a) hR.1.1 hR.1.2.2 rfl k_989 k_990 k_991 k_1 k_992 ⟨rfl, by decide, by decide, by decide +kernel⟩ (by decide) rfl rfl (Nat.le_of_ble_eq_true rfl) dL_owedTo_4 (by decide)) hE hX (fun v L1 F1 H1 locs1 hv hX1 => ?_) (fun E ce q9 H1 locs1 hno hX1 hce hcv hcl => ?_)
  · obtain ⟨r, rfl, hp⟩ := hv
    refine lv_i2l hx hb dL_owedTo_7 rfl ?_
    refine k_last (n := 1) (f := f) hM hE hX1 (List.mem_append_right _ (List.mem_singleton.mpr rfl)) ((kMix_in (List.mem_singleton.mpr rfl)).trans hq) (show vp_in (nI 0) 1 from vp_in_nI (by decide) (by decide)) dL_owedTo_8 (fun H2 locs2 hX2 => ?_)
    refine lv_goto (tgt := 15) hx hb dL_owedTo_9 (by decide) ?_
    refine lv_iconst (v := 0) hx hb dL_owedTo_15 (by decide) ?_
    exact k_iret hM hsz hX2 ⟨_, rfl, Wo.done (After.rd hR hI hp) (fun b hb => kX_apart hX1 hb)⟩ (by decide) (by decide) dL_owedTo_16
  · obtain ⟨rfl, ht⟩ := hno
    refine x_h1 hM htab (by decide) (by decide) k_499 hE.2.1.2.2.2.2.2.2.2.2.2.2.1.1 hce hcv hcl ?_
    refine lv_astore_n (lv' := [(3, .ref q9), (0, .ref o), (1, .int a), (2, .ref q)]) hx hb dL_owedTo_12 rfl hl (by decide) rfl (fun ls hl => ?_)
    refine lv_iconst (v := 1) hx hb dL_owedTo_13 (by decide) ?_
    exact k_iret hM hsz hX1 ⟨_, rfl, Wo.thr hR hI hq ht (by decide)⟩ (by decide) (by decide) dL_owedTo_14
set_option maxHeartbeats 4000000 in
set_option maxRecDepth 100000 in
theorem c_L_owes (l : Launch) (hfl : l.stackTraces = false) (γ : kG) (L : List Nat) (F : kF) (o q : Nat) (ad : cAd) (tg : cTg) (M : mM) (nd : Nat) (D : cD) (f : Nat → Int64) (hR : RepC γ L F o ad tg M nd D) (hI : Inv M nd D) (hnd : nd < 512) (hq : F q = oL γ f) (a : Int32) : kCW l yL_owes cL_owes 4 (some .int) [(0, 9, 12, 13)] (kRm 5 1 6) γ (L ++ [q]) F [.ref o, .int a, .ref q] (kI fun k L1 F1 => Wo γ o q nd (owesM M a) k L1 F1) := by
  refine kCW_of (by decide +kernel) (Nat.le_of_ble_eq_true rfl) ?_
  intro p e s m args below meth c sz ls hargs hsz hM htab hE hX hl
  have hx := hM.1
  have hb := hM.2.1
  have hl : lv_has ls 4 [(0, .ref o), (1, .int a), (2, .ref q)] := hl
  have hXl := kX_left hX
  refine lv_aload_n hx hb dL_owes_0 rfl (lv_at hl 2 rfl) ?_
  refine lv_iconst (v := 0) hx hb dL_owes_1 (by decide) ?_
  refine lv_aload_n hx hb dL_owes_2 rfl (lv_at hl 0 rfl) ?_
  refine lv_iload_n hx hb dL_owes_3 rfl (lv_at hl 1 rfl) ?_
  refine x_goF (x_V (n := 1) (As := [.int a]) (rest := [.int 0, .ref q]) hM hE hXl hl (c_X4_owes l hfl γ L F o ad tg M nd D hR hI a) hR.1.1 hR.1.2.2 rfl k_996 k_997 k_998 k_1 k_999 ⟨rfl, by decide, by decide, by decide +kernel⟩ (by decide) rfl rfl (Nat.le_of_ble_eq_true rfl) dL_owes_4 (by decide)) hE hX (fun v L1 F1 H1 locs1 hv hX1 => ?_) (fun E ce q9 H1 locs1 hno hX1 hce hcv hcl => ?_)
  · obtain ⟨r, rfl, hp⟩ := hv
    refine lv_i2l hx hb dL_owes_7 rfl ?_
    refine k_last (n := 1) (f := f) hM hE hX1 (List.mem_append_right _ (List.mem_singleton.mpr rfl)) ((kMix_in (List.mem_singleton.mpr rfl)).trans hq) (show vp_in (nI 0) 1 from vp_in_nI (by decide) (by decide)) dL_owes_8 (fun H2 locs2 hX2 => ?_)
    refine lv_goto (tgt := 15) hx hb dL_owes_9 (by decide) ?_
    refine lv_iconst (v := 0) hx hb dL_owes_15 (by decide) ?_
    exact k_iret hM hsz hX2 ⟨_, rfl, Wo.done (After.rd hR hI hp) (fun b hb => kX_apart hX1 hb)⟩ (by decide) (by decide) dL_owes_16
  · obtain ⟨rfl, ht⟩ := hno
    refine x_h1 hM htab (by decide) (by decide) k_499 hE.2.1.2.2.2.2.2.2.2.2.2.2.1.1 hce hcv hcl ?_
    refine lv_astore_n (lv' := [(3, .ref q9), (0, .ref o), (1, .int a), (2, .ref q)]) hx hb dL_owes_12 rfl hl (by decide) rfl (fun ls hl => ?_)
    refine lv_iconst (v := 1) hx hb dL_owes_13 (by decide) ?_
    exact k_iret hM hsz hX1 ⟨_, rfl, Wo.thr hR hI hq ht (by decide)⟩ (by decide) (by decide) dL_owes_14
set_option maxHeartbeats 4000000 in
set_option maxRecDepth 100000 in
theorem c_L_cashAnew (l : Launch) (hfl : l.stackTraces = false) (γ : kG) (L : List Nat) (F : kF) (o q : Nat) (ad : cAd) (tg : cTg) (M : mM) (nd : Nat) (D : cD) (f : Nat → Int64) (hR : RepC γ L F o ad tg M nd D) (hI : Inv M nd D) (hnd : nd < 512) (hq : F q = oL γ f) (a : Int32) : kCW l yL_cashAnew cL_cashAnew 4 (some .int) [(0, 9, 12, 13)] (kRm 5 1 6) γ (L ++ [q]) F [.ref o, .int a, .ref q] (kI fun k L1 F1 => Wo γ o q nd (cashAnewM M a) k L1 F1) := by
  refine kCW_of (by decide +kernel) (Nat.le_of_ble_eq_true rfl) ?_
  intro p e s m args below meth c sz ls hargs hsz hM htab hE hX hl
  have hx := hM.1
  have hb := hM.2.1
  have hl : lv_has ls 4 [(0, .ref o), (1, .int a), (2, .ref q)] := hl
  have hXl := kX_left hX
  refine lv_aload_n hx hb dL_cashAnew_0 rfl (lv_at hl 2 rfl) ?_
  refine lv_iconst (v := 0) hx hb dL_cashAnew_1 (by decide) ?_
  refine lv_aload_n hx hb dL_cashAnew_2 rfl (lv_at hl 0 rfl) ?_
  refine lv_iload_n hx hb dL_cashAnew_3 rfl (lv_at hl 1 rfl) ?_
  refine x_goF (x_V (n := 1) (As := [.int a]) (rest := [.int 0, .ref q]) hM hE hXl hl (c_X4_cashAnew l hfl γ L F o ad tg M nd D hR hI a (by omega)) hR.1.1 hR.1.2.2 rfl k_982 k_983 k_984 k_1 k_985 ⟨rfl, by decide, by decide, by decide +kernel⟩ (by decide) rfl rfl (Nat.le_of_ble_eq_true rfl) dL_cashAnew_4 (by decide)) hE hX (fun v L1 F1 H1 locs1 hv hX1 => ?_) (fun E ce q9 H1 locs1 hno hX1 hce hcv hcl => ?_)
  · obtain ⟨r, rfl, hp⟩ := hv
    refine lv_i2l hx hb dL_cashAnew_7 rfl ?_
    refine k_last (n := 1) (f := f) hM hE hX1 (List.mem_append_right _ (List.mem_singleton.mpr rfl)) ((kMix_in (List.mem_singleton.mpr rfl)).trans hq) (show vp_in (nI 0) 1 from vp_in_nI (by decide) (by decide)) dL_cashAnew_8 (fun H2 locs2 hX2 => ?_)
    refine lv_goto (tgt := 15) hx hb dL_cashAnew_9 (by decide) ?_
    refine lv_iconst (v := 0) hx hb dL_cashAnew_15 (by decide) ?_
    exact k_iret hM hsz hX2 ⟨_, rfl, Wo.done (After.rd hR hI hp) (fun b hb => kX_apart hX1 hb)⟩ (by decide) (by decide) dL_cashAnew_16
  · obtain ⟨rfl, ht⟩ := hno
    refine x_h1 hM htab (by decide) (by decide) k_499 hE.2.1.2.2.2.2.2.2.2.2.2.2.1.1 hce hcv hcl ?_
    refine lv_astore_n (lv' := [(3, .ref q9), (0, .ref o), (1, .int a), (2, .ref q)]) hx hb dL_cashAnew_12 rfl hl (by decide) rfl (fun ls hl => ?_)
    refine lv_iconst (v := 1) hx hb dL_cashAnew_13 (by decide) ?_
    exact k_iret hM hsz hX1 ⟨_, rfl, Wo.thr hR hI hq ht (by decide)⟩ (by decide) (by decide) dL_cashAnew_14
set_option maxHeartbeats 4000000 in
set_option maxRecDepth 100000 in
theorem c_L_chain (l : Launch) (hfl : l.stackTraces = false) (γ : kG) (L : List Nat) (F : kF) (o q : Nat) (ad : cAd) (tg : cTg) (M : mM) (nd : Nat) (D : cD) (f : Nat → Int64) (hR : RepC γ L F o ad tg M nd D) (hI : Inv M nd D) (hnd : nd < 512) (hq : F q = oL γ f) (a : Int32) : kCW l yL_chain cL_chain 4 (some .int) [(0, 9, 12, 13)] (kRm 6 1 6) γ (L ++ [q]) F [.ref o, .int a, .ref q] (kI fun k L1 F1 => Wo γ o q nd (chainM M a) k L1 F1) := by
  refine kCW_of (by decide +kernel) (Nat.le_of_ble_eq_true rfl) ?_
  intro p e s m args below meth c sz ls hargs hsz hM htab hE hX hl
  have hx := hM.1
  have hb := hM.2.1
  have hl : lv_has ls 4 [(0, .ref o), (1, .int a), (2, .ref q)] := hl
  have hXl := kX_left hX
  refine lv_aload_n hx hb dL_chain_0 rfl (lv_at hl 2 rfl) ?_
  refine lv_iconst (v := 0) hx hb dL_chain_1 (by decide) ?_
  refine lv_aload_n hx hb dL_chain_2 rfl (lv_at hl 0 rfl) ?_
  refine lv_iload_n hx hb dL_chain_3 rfl (lv_at hl 1 rfl) ?_
  refine x_goF (x_V (n := 1) (As := [.int a]) (rest := [.int 0, .ref q]) hM hE hXl hl (c_X4_chain l hfl γ L F o ad tg M nd D hR hI a) hR.1.1 hR.1.2.2 rfl k_1049 k_1050 k_1051 k_1 k_1052 ⟨rfl, by decide, by decide, by decide +kernel⟩ (by decide) rfl rfl (Nat.le_of_ble_eq_true rfl) dL_chain_4 (by decide)) hE hX (fun v L1 F1 H1 locs1 hv hX1 => ?_) (fun E ce q9 H1 locs1 hno hX1 hce hcv hcl => ?_)
  · obtain ⟨r, rfl, hp⟩ := hv
    refine lv_i2l hx hb dL_chain_7 rfl ?_
    refine k_last (n := 1) (f := f) hM hE hX1 (List.mem_append_right _ (List.mem_singleton.mpr rfl)) ((kMix_in (List.mem_singleton.mpr rfl)).trans hq) (show vp_in (nI 0) 1 from vp_in_nI (by decide) (by decide)) dL_chain_8 (fun H2 locs2 hX2 => ?_)
    refine lv_goto (tgt := 15) hx hb dL_chain_9 (by decide) ?_
    refine lv_iconst (v := 0) hx hb dL_chain_15 (by decide) ?_
    exact k_iret hM hsz hX2 ⟨_, rfl, Wo.done (After.rd hR hI hp) (fun b hb => kX_apart hX1 hb)⟩ (by decide) (by decide) dL_chain_16
  · obtain ⟨rfl, ht⟩ := hno
    refine x_h1 hM htab (by decide) (by decide) k_499 hE.2.1.2.2.2.2.2.2.2.2.2.2.1.1 hce hcv hcl ?_
    refine lv_astore_n (lv' := [(3, .ref q9), (0, .ref o), (1, .int a), (2, .ref q)]) hx hb dL_chain_12 rfl hl (by decide) rfl (fun ls hl => ?_)
    refine lv_iconst (v := 1) hx hb dL_chain_13 (by decide) ?_
    exact k_iret hM hsz hX1 ⟨_, rfl, Wo.thr hR hI hq ht (by decide)⟩ (by decide) (by decide) dL_chain_14
set_option maxHeartbeats 4000000 in
set_option maxRecDepth 100000 in
theorem c_L_accept (l : Launch) (hfl : l.stackTraces = false) (γ : kG) (L : List Nat) (F : kF) (o q : Nat) (ad : cAd) (tg : cTg) (M : mM) (nd : Nat) (D : cD) (f : Nat → Int64) (hR : RepC γ L F o ad tg M nd D) (hI : Inv M nd D) (hnd : nd < 512) (hq : F q = oL γ f) (a : Int32) : kCW l yL_accept cL_accept 4 (some .int) [(0, 9, 12, 13), (0, 9, 15, 17)] (kRm 5 2 12) γ (L ++ [q]) F [.ref o, .int a, .ref q] (kI fun k L1 F1 => Wo γ o q nd (acceptM M a) k L1 F1) := by
  refine kCW_of (by decide +kernel) (Nat.le_of_ble_eq_true rfl) ?_
  intro p e s m args below meth c sz ls hargs hsz hM htab hE hX hl
  have hx := hM.1
  have hb := hM.2.1
  have hl : lv_has ls 4 [(0, .ref o), (1, .int a), (2, .ref q)] := hl
  have hXl := kX_left hX
  refine lv_aload_n hx hb dL_accept_0 rfl (lv_at hl 2 rfl) ?_
  refine lv_iconst (v := 0) hx hb dL_accept_1 (by decide) ?_
  refine lv_aload_n hx hb dL_accept_2 rfl (lv_at hl 0 rfl) ?_
  refine lv_iload_n hx hb dL_accept_3 rfl (lv_at hl 1 rfl) ?_
  refine x_goF (x_V (n := 1) (As := [.int a]) (rest := [.int 0, .ref q]) hM hE hXl hl (c_X4_accept l hfl γ L F o ad tg M nd D hR hI a) hR.1.1 hR.1.2.2 rfl k_734 k_735 k_736 k_1 k_737 ⟨rfl, by decide, by decide, by decide +kernel⟩ (by decide) rfl rfl (Nat.le_of_ble_eq_true rfl) dL_accept_4 (by decide)) hE hX (fun v L1 F1 H1 locs1 hv hX1 => ?_) (fun E ce q9 H1 locs1 hno hX1 hce hcv hcl => ?_)
  · obtain ⟨r, rfl, hp⟩ := hv
    refine lv_i2l hx hb dL_accept_7 rfl ?_
    refine k_last (n := 1) (f := f) hM hE hX1 (List.mem_append_right _ (List.mem_singleton.mpr rfl)) ((kMix_in (List.mem_singleton.mpr rfl)).trans hq) (show vp_in (nI 0) 1 from vp_in_nI (by decide) (by decide)) dL_accept_8 (fun H2 locs2 hX2 => ?_)
    refine lv_goto (tgt := 18) hx hb dL_accept_9 (by decide) ?_
    refine lv_iconst (v := 0) hx hb dL_accept_18 (by decide) ?_
    exact k_iret hM hsz hX2 ⟨_, rfl, Wo.done hp (fun b hb => kX_apart hX1 hb)⟩ (by decide) (by decide) dL_accept_19
  · rcases hno with ⟨rfl, ht⟩ | ⟨rfl, ht⟩
    · refine x_h1 hM htab (by decide) (by decide) k_499 hE.2.1.2.2.2.2.2.2.2.2.2.2.1.1 hce hcv hcl ?_
      refine lv_astore_n (lv' := [(3, .ref q9), (0, .ref o), (1, .int a), (2, .ref q)]) hx hb dL_accept_12 rfl hl (by decide) rfl (fun ls hl => ?_)
      refine lv_iconst (v := 1) hx hb dL_accept_13 (by decide) ?_
      exact k_iret hM hsz hX1 ⟨_, rfl, Wo.thr hR hI hq ht (by decide)⟩ (by decide) (by decide) dL_accept_14
    · refine x_h2 hM htab (by decide) k_499 hE.2.1.2.2.2.2.2.2.2.2.2.2.2.1.2.1 (by decide) (by decide) k_501 hE.2.1.2.2.2.2.2.2.2.2.2.2.1.2.2 hce hcv hcl ?_
      refine lv_astore_n (lv' := [(3, .ref q9), (0, .ref o), (1, .int a), (2, .ref q)]) hx hb dL_accept_15 rfl hl (by decide) rfl (fun ls hl => ?_)
      refine lv_iconst (v := 2) hx hb dL_accept_16 (by decide) ?_
      exact k_iret hM hsz hX1 ⟨_, rfl, Wo.thr hR hI hq ht (by decide)⟩ (by decide) (by decide) dL_accept_17
set_option maxHeartbeats 4000000 in
set_option maxRecDepth 100000 in
theorem c_L_refuse (l : Launch) (hfl : l.stackTraces = false) (γ : kG) (L : List Nat) (F : kF) (o q : Nat) (ad : cAd) (tg : cTg) (M : mM) (nd : Nat) (D : cD) (f : Nat → Int64) (hR : RepC γ L F o ad tg M nd D) (hI : Inv M nd D) (hnd : nd < 512) (hq : F q = oL γ f) (a : Int32) : kCW l yL_refuse cL_refuse 4 (some .int) [(0, 9, 12, 13), (0, 9, 15, 17)] (kRm 5 2 12) γ (L ++ [q]) F [.ref o, .int a, .ref q] (kI fun k L1 F1 => Wo γ o q nd (refuseM M a) k L1 F1) := by
  refine kCW_of (by decide +kernel) (Nat.le_of_ble_eq_true rfl) ?_
  intro p e s m args below meth c sz ls hargs hsz hM htab hE hX hl
  have hx := hM.1
  have hb := hM.2.1
  have hl : lv_has ls 4 [(0, .ref o), (1, .int a), (2, .ref q)] := hl
  have hXl := kX_left hX
  refine lv_aload_n hx hb dL_refuse_0 rfl (lv_at hl 2 rfl) ?_
  refine lv_iconst (v := 0) hx hb dL_refuse_1 (by decide) ?_
  refine lv_aload_n hx hb dL_refuse_2 rfl (lv_at hl 0 rfl) ?_
  refine lv_iload_n hx hb dL_refuse_3 rfl (lv_at hl 1 rfl) ?_
  refine x_goF (x_V (n := 1) (As := [.int a]) (rest := [.int 0, .ref q]) hM hE hXl hl (c_X4_refuse l hfl γ L F o ad tg M nd D hR hI a) hR.1.1 hR.1.2.2 rfl k_760 k_761 k_762 k_1 k_763 ⟨rfl, by decide, by decide, by decide +kernel⟩ (by decide) rfl rfl (Nat.le_of_ble_eq_true rfl) dL_refuse_4 (by decide)) hE hX (fun v L1 F1 H1 locs1 hv hX1 => ?_) (fun E ce q9 H1 locs1 hno hX1 hce hcv hcl => ?_)
  · obtain ⟨r, rfl, hp⟩ := hv
    refine lv_i2l hx hb dL_refuse_7 rfl ?_
    refine k_last (n := 1) (f := f) hM hE hX1 (List.mem_append_right _ (List.mem_singleton.mpr rfl)) ((kMix_in (List.mem_singleton.mpr rfl)).trans hq) (show vp_in (nI 0) 1 from vp_in_nI (by decide) (by decide)) dL_refuse_8 (fun H2 locs2 hX2 => ?_)
    refine lv_goto (tgt := 18) hx hb dL_refuse_9 (by decide) ?_
    refine lv_iconst (v := 0) hx hb dL_refuse_18 (by decide) ?_
    exact k_iret hM hsz hX2 ⟨_, rfl, Wo.done hp (fun b hb => kX_apart hX1 hb)⟩ (by decide) (by decide) dL_refuse_19
  · rcases hno with ⟨rfl, ht⟩ | ⟨rfl, ht⟩
    · refine x_h1 hM htab (by decide) (by decide) k_499 hE.2.1.2.2.2.2.2.2.2.2.2.2.1.1 hce hcv hcl ?_
      refine lv_astore_n (lv' := [(3, .ref q9), (0, .ref o), (1, .int a), (2, .ref q)]) hx hb dL_refuse_12 rfl hl (by decide) rfl (fun ls hl => ?_)
      refine lv_iconst (v := 1) hx hb dL_refuse_13 (by decide) ?_
      exact k_iret hM hsz hX1 ⟨_, rfl, Wo.thr hR hI hq ht (by decide)⟩ (by decide) (by decide) dL_refuse_14
    · refine x_h2 hM htab (by decide) k_499 hE.2.1.2.2.2.2.2.2.2.2.2.2.2.1.2.1 (by decide) (by decide) k_501 hE.2.1.2.2.2.2.2.2.2.2.2.2.1.2.2 hce hcv hcl ?_
      refine lv_astore_n (lv' := [(3, .ref q9), (0, .ref o), (1, .int a), (2, .ref q)]) hx hb dL_refuse_15 rfl hl (by decide) rfl (fun ls hl => ?_)
      refine lv_iconst (v := 2) hx hb dL_refuse_16 (by decide) ?_
      exact k_iret hM hsz hX1 ⟨_, rfl, Wo.thr hR hI hq ht (by decide)⟩ (by decide) (by decide) dL_refuse_17
set_option maxHeartbeats 4000000 in
set_option maxRecDepth 100000 in
theorem c_L_dispute (l : Launch) (hfl : l.stackTraces = false) (γ : kG) (L : List Nat) (F : kF) (o q : Nat) (ad : cAd) (tg : cTg) (M : mM) (nd : Nat) (D : cD) (f : Nat → Int64) (hR : RepC γ L F o ad tg M nd D) (hI : Inv M nd D) (hnd : nd < 512) (hq : F q = oL γ f) (a b : Int32) : kCW l yL_dispute cL_dispute 5 (some .int) [(0, 10, 13, 13), (0, 10, 17, 17)] (kRm 5 3 18) γ (L ++ [q]) F [.ref o, .int a, .int b, .ref q] (kI fun k L1 F1 => Wo γ o q nd (disputeM M a b) k L1 F1) := by
  refine kCW_of (by decide +kernel) (Nat.le_of_ble_eq_true rfl) ?_
  intro p e s m args below meth c sz ls hargs hsz hM htab hE hX hl
  have hx := hM.1
  have hb := hM.2.1
  have hl : lv_has ls 5 [(0, .ref o), (1, .int a), (2, .int b), (3, .ref q)] := hl
  have hXl := kX_left hX
  refine lv_aload_n hx hb dL_dispute_0 rfl (lv_at hl 3 rfl) ?_
  refine lv_iconst (v := 0) hx hb dL_dispute_1 (by decide) ?_
  refine lv_aload_n hx hb dL_dispute_2 rfl (lv_at hl 0 rfl) ?_
  refine lv_iload_n hx hb dL_dispute_3 rfl (lv_at hl 1 rfl) ?_
  refine lv_iload_n hx hb dL_dispute_4 rfl (lv_at hl 2 rfl) ?_
  refine x_goF (x_V (n := 2) (As := [.int a, .int b]) (rest := [.int 0, .ref q]) hM hE hXl hl (c_X4_dispute l hfl γ L F o ad tg M nd D hR hI a b) hR.1.1 hR.1.2.2 rfl k_814 k_815 k_816 k_1 k_817 ⟨rfl, by decide, by decide, by decide +kernel⟩ (by decide) rfl rfl (Nat.le_of_ble_eq_true rfl) dL_dispute_5 (by decide)) hE hX (fun v L1 F1 H1 locs1 hv hX1 => ?_) (fun E ce q9 H1 locs1 hno hX1 hce hcv hcl => ?_)
  · obtain ⟨r, rfl, hp⟩ := hv
    refine lv_i2l hx hb dL_dispute_8 rfl ?_
    refine k_last (n := 1) (f := f) hM hE hX1 (List.mem_append_right _ (List.mem_singleton.mpr rfl)) ((kMix_in (List.mem_singleton.mpr rfl)).trans hq) (show vp_in (nI 0) 1 from vp_in_nI (by decide) (by decide)) dL_dispute_9 (fun H2 locs2 hX2 => ?_)
    refine lv_goto (tgt := 21) hx hb dL_dispute_10 (by decide) ?_
    refine lv_iconst (v := 0) hx hb dL_dispute_21 (by decide) ?_
    exact k_iret hM hsz hX2 ⟨_, rfl, Wo.done hp (fun b hb => kX_apart hX1 hb)⟩ (by decide) (by decide) dL_dispute_22
  · rcases hno with ⟨rfl, ht⟩ | ⟨rfl, ht⟩
    · refine x_h1 hM htab (by decide) (by decide) k_499 hE.2.1.2.2.2.2.2.2.2.2.2.2.1.1 hce hcv hcl ?_
      refine lv_astore (lv' := [(4, .ref q9), (0, .ref o), (1, .int a), (2, .int b), (3, .ref q)]) hx hb dL_dispute_13 hl (by decide) rfl (fun ls hl => ?_)
      refine lv_iconst (v := 1) hx hb dL_dispute_15 (by decide) ?_
      exact k_iret hM hsz hX1 ⟨_, rfl, Wo.thr hR hI hq ht (by decide)⟩ (by decide) (by decide) dL_dispute_16
    · refine x_h2 hM htab (by decide) k_499 hE.2.1.2.2.2.2.2.2.2.2.2.2.2.1.2.1 (by decide) (by decide) k_501 hE.2.1.2.2.2.2.2.2.2.2.2.2.1.2.2 hce hcv hcl ?_
      refine lv_astore (lv' := [(4, .ref q9), (0, .ref o), (1, .int a), (2, .int b), (3, .ref q)]) hx hb dL_dispute_17 hl (by decide) rfl (fun ls hl => ?_)
      refine lv_iconst (v := 2) hx hb dL_dispute_19 (by decide) ?_
      exact k_iret hM hsz hX1 ⟨_, rfl, Wo.thr hR hI hq ht (by decide)⟩ (by decide) (by decide) dL_dispute_20
set_option maxHeartbeats 4000000 in
set_option maxRecDepth 100000 in
theorem c_L_pass (l : Launch) (hfl : l.stackTraces = false) (γ : kG) (L : List Nat) (F : kF) (o q : Nat) (ad : cAd) (tg : cTg) (M : mM) (nd : Nat) (D : cD) (f : Nat → Int64) (hR : RepC γ L F o ad tg M nd D) (hI : Inv M nd D) (hnd : nd < 512) (hq : F q = oL γ f) (a : Int32) : kCW l yL_pass cL_pass 4 (some .int) [(0, 9, 12, 15), (0, 9, 15, 17)] (kRm 2 1 6) γ (L ++ [q]) F [.ref o, .int a, .ref q] (kI fun k L1 F1 => Wo γ o q nd (passM M a) k L1 F1) := by
  refine kCW_of (by decide +kernel) (Nat.le_of_ble_eq_true rfl) ?_
  intro p e s m args below meth c sz ls hargs hsz hM htab hE hX hl
  have hx := hM.1
  have hb := hM.2.1
  have hl : lv_has ls 4 [(0, .ref o), (1, .int a), (2, .ref q)] := hl
  have hXl := kX_left hX
  refine lv_aload_n hx hb dL_pass_0 rfl (lv_at hl 2 rfl) ?_
  refine lv_iconst (v := 0) hx hb dL_pass_1 (by decide) ?_
  refine lv_aload_n hx hb dL_pass_2 rfl (lv_at hl 0 rfl) ?_
  refine lv_iload_n hx hb dL_pass_3 rfl (lv_at hl 1 rfl) ?_
  refine x_goF (x_V (n := 1) (As := [.int a]) (rest := [.int 0, .ref q]) hM hE hXl hl (c_X4_pass l hfl γ L F o ad tg M nd D hR hI a) hR.1.1 hR.1.2.2 rfl k_946 k_947 k_948 k_1 k_949 ⟨rfl, by decide, by decide, by decide +kernel⟩ (by decide) rfl rfl (Nat.le_of_ble_eq_true rfl) dL_pass_4 (by decide)) hE hX (fun v L1 F1 H1 locs1 hv hX1 => ?_) (fun E ce q9 H1 locs1 hno hX1 hce hcv hcl => ?_)
  · obtain ⟨r, rfl, hp⟩ := hv
    refine lv_i2l hx hb dL_pass_7 rfl ?_
    refine k_last (n := 1) (f := f) hM hE hX1 (List.mem_append_right _ (List.mem_singleton.mpr rfl)) ((kMix_in (List.mem_singleton.mpr rfl)).trans hq) (show vp_in (nI 0) 1 from vp_in_nI (by decide) (by decide)) dL_pass_8 (fun H2 locs2 hX2 => ?_)
    refine lv_goto (tgt := 18) hx hb dL_pass_9 (by decide) ?_
    refine lv_iconst (v := 0) hx hb dL_pass_18 (by decide) ?_
    exact k_iret hM hsz hX2 ⟨_, rfl, Wo.done hp (fun b hb => kX_apart hX1 hb)⟩ (by decide) (by decide) dL_pass_19
  · rcases hno with ⟨rfl, ht⟩ | ⟨rfl, ht⟩
    · refine x_h1 hM htab (by decide) (by decide) k_500 hE.2.1.2.2.2.2.2.2.2.2.2.2.1.2.1 hce hcv hcl ?_
      refine lv_astore_n (lv' := [(3, .ref q9), (0, .ref o), (1, .int a), (2, .ref q)]) hx hb dL_pass_12 rfl hl (by decide) rfl (fun ls hl => ?_)
      refine lv_iconst (v := 1) hx hb dL_pass_13 (by decide) ?_
      exact k_iret hM hsz hX1 ⟨_, rfl, Wo.thr hR hI hq ht (by decide)⟩ (by decide) (by decide) dL_pass_14
    · refine x_h2 hM htab (by decide) k_500 hE.2.1.2.2.2.2.2.2.2.2.2.2.2.1.2.2 (by decide) (by decide) k_501 hE.2.1.2.2.2.2.2.2.2.2.2.2.1.2.2 hce hcv hcl ?_
      refine lv_astore_n (lv' := [(3, .ref q9), (0, .ref o), (1, .int a), (2, .ref q)]) hx hb dL_pass_15 rfl hl (by decide) rfl (fun ls hl => ?_)
      refine lv_iconst (v := 2) hx hb dL_pass_16 (by decide) ?_
      exact k_iret hM hsz hX1 ⟨_, rfl, Wo.thr hR hI hq ht (by decide)⟩ (by decide) (by decide) dL_pass_17
set_option maxHeartbeats 4000000 in
set_option maxRecDepth 100000 in
theorem c_L_type (l : Launch) (hfl : l.stackTraces = false) (γ : kG) (L : List Nat) (F : kF) (o q : Nat) (ad : cAd) (tg : cTg) (M : mM) (nd : Nat) (D : cD) (f : Nat → Int64) (hR : RepC γ L F o ad tg M nd D) (hI : Inv M nd D) (hnd : nd < 512) (hq : F q = oL γ f) (a : Int32) : kCW l yL_type cL_type 4 (some .int) [(0, 9, 12, 15), (0, 9, 15, 17)] (kRm 4 1 6) γ (L ++ [q]) F [.ref o, .int a, .ref q] (kI fun k L1 F1 => Wo γ o q nd (typeM M a) k L1 F1) := by
  refine kCW_of (by decide +kernel) (Nat.le_of_ble_eq_true rfl) ?_
  intro p e s m args below meth c sz ls hargs hsz hM htab hE hX hl
  have hx := hM.1
  have hb := hM.2.1
  have hl : lv_has ls 4 [(0, .ref o), (1, .int a), (2, .ref q)] := hl
  have hXl := kX_left hX
  refine lv_aload_n hx hb dL_type_0 rfl (lv_at hl 2 rfl) ?_
  refine lv_iconst (v := 0) hx hb dL_type_1 (by decide) ?_
  refine lv_aload_n hx hb dL_type_2 rfl (lv_at hl 0 rfl) ?_
  refine lv_iload_n hx hb dL_type_3 rfl (lv_at hl 1 rfl) ?_
  refine x_goF (x_V (n := 1) (As := [.int a]) (rest := [.int 0, .ref q]) hM hE hXl hl (c_X4_type l hfl γ L F o ad tg M nd D hR hI a) hR.1.1 hR.1.2.2 rfl k_888 k_889 k_890 k_1 k_891 ⟨rfl, by decide, by decide, by decide +kernel⟩ (by decide) rfl rfl (Nat.le_of_ble_eq_true rfl) dL_type_4 (by decide)) hE hX (fun v L1 F1 H1 locs1 hv hX1 => ?_) (fun E ce q9 H1 locs1 hno hX1 hce hcv hcl => ?_)
  · obtain ⟨r, rfl, hp⟩ := hv
    refine lv_i2l hx hb dL_type_7 rfl ?_
    refine k_last (n := 1) (f := f) hM hE hX1 (List.mem_append_right _ (List.mem_singleton.mpr rfl)) ((kMix_in (List.mem_singleton.mpr rfl)).trans hq) (show vp_in (nI 0) 1 from vp_in_nI (by decide) (by decide)) dL_type_8 (fun H2 locs2 hX2 => ?_)
    refine lv_goto (tgt := 18) hx hb dL_type_9 (by decide) ?_
    refine lv_iconst (v := 0) hx hb dL_type_18 (by decide) ?_
    exact k_iret hM hsz hX2 ⟨_, rfl, Wo.done hp (fun b hb => kX_apart hX1 hb)⟩ (by decide) (by decide) dL_type_19
  · rcases hno with ⟨rfl, ht⟩ | ⟨rfl, ht⟩
    · refine x_h1 hM htab (by decide) (by decide) k_500 hE.2.1.2.2.2.2.2.2.2.2.2.2.1.2.1 hce hcv hcl ?_
      refine lv_astore_n (lv' := [(3, .ref q9), (0, .ref o), (1, .int a), (2, .ref q)]) hx hb dL_type_12 rfl hl (by decide) rfl (fun ls hl => ?_)
      refine lv_iconst (v := 1) hx hb dL_type_13 (by decide) ?_
      exact k_iret hM hsz hX1 ⟨_, rfl, Wo.thr hR hI hq ht (by decide)⟩ (by decide) (by decide) dL_type_14
    · refine x_h2 hM htab (by decide) k_500 hE.2.1.2.2.2.2.2.2.2.2.2.2.2.1.2.2 (by decide) (by decide) k_501 hE.2.1.2.2.2.2.2.2.2.2.2.2.1.2.2 hce hcv hcl ?_
      refine lv_astore_n (lv' := [(3, .ref q9), (0, .ref o), (1, .int a), (2, .ref q)]) hx hb dL_type_15 rfl hl (by decide) rfl (fun ls hl => ?_)
      refine lv_iconst (v := 2) hx hb dL_type_16 (by decide) ?_
      exact k_iret hM hsz hX1 ⟨_, rfl, Wo.thr hR hI hq ht (by decide)⟩ (by decide) (by decide) dL_type_17
set_option maxHeartbeats 4000000 in
set_option maxRecDepth 100000 in
theorem c_L_sell (l : Launch) (hfl : l.stackTraces = false) (γ : kG) (L : List Nat) (F : kF) (o q : Nat) (ad : cAd) (tg : cTg) (M : mM) (nd : Nat) (D : cD) (f : Nat → Int64) (hR : RepC γ L F o ad tg M nd D) (hI : Inv M nd D) (hnd : nd < 512) (hq : F q = oL γ f) (a b x z : Int32) (hz01 : z = 0 ∨ z = 1) : kCW l yL_sell cL_sell 7 (some .int) [(0, 14, 17, 13), (0, 14, 21, 15), (0, 14, 25, 17)] (kRm 8 6 1100) γ (L ++ [q]) F [.ref o, .int a, .int b, .int x, .int z, .ref q] (kI fun k L1 F1 => Wo γ o q nd (sellM M a b x z) k L1 F1) := by
  refine kCW_of (by decide +kernel) (Nat.le_of_ble_eq_true rfl) ?_
  intro p e s m args below meth c sz ls hargs hsz hM htab hE hX hl
  have hx := hM.1
  have hb := hM.2.1
  have hl : lv_has ls 7 [(0, .ref o), (1, .int a), (2, .int b), (3, .int x), (4, .int z), (5, .ref q)] := hl
  have hXl := kX_left hX
  refine lv_aload hx hb dL_sell_0 (lv_at hl 5 rfl) ?_
  refine lv_iconst (v := 0) hx hb dL_sell_2 (by decide) ?_
  refine lv_aload_n hx hb dL_sell_3 rfl (lv_at hl 0 rfl) ?_
  refine lv_iload_n hx hb dL_sell_4 rfl (lv_at hl 1 rfl) ?_
  refine lv_iload_n hx hb dL_sell_5 rfl (lv_at hl 2 rfl) ?_
  refine lv_iload_n hx hb dL_sell_6 rfl (lv_at hl 3 rfl) ?_
  refine lv_iload hx hb dL_sell_7 (lv_at hl 4 rfl) ?_
  refine x_goF (x_V (n := 4) (As := [.int a, .int b, .int x, .int z]) (rest := [.int 0, .ref q]) hM hE hXl hl (c_X4_sell l hfl γ L F o ad tg M nd D hR hI (by omega) a b x z hz01) hR.1.1 hR.1.2.2 rfl k_832 k_833 k_834 k_1 k_835 ⟨rfl, by decide, by decide, by decide +kernel⟩ (by decide) rfl rfl (Nat.le_of_ble_eq_true rfl) dL_sell_9 (by decide)) hE hX (fun v L1 F1 H1 locs1 hv hX1 => ?_) (fun E ce q9 H1 locs1 hno hX1 hce hcv hcl => ?_)
  · obtain ⟨r, rfl, hp⟩ := hv
    refine lv_i2l hx hb dL_sell_12 rfl ?_
    refine k_last (n := 1) (f := f) hM hE hX1 (List.mem_append_right _ (List.mem_singleton.mpr rfl)) ((kMix_in (List.mem_singleton.mpr rfl)).trans hq) (show vp_in (nI 0) 1 from vp_in_nI (by decide) (by decide)) dL_sell_13 (fun H2 locs2 hX2 => ?_)
    refine lv_goto (tgt := 29) hx hb dL_sell_14 (by decide) ?_
    refine lv_iconst (v := 0) hx hb dL_sell_29 (by decide) ?_
    exact k_iret hM hsz hX2 ⟨_, rfl, Wo.done hp (fun b hb => kX_apart hX1 hb)⟩ (by decide) (by decide) dL_sell_30
  · rcases hno with ⟨rfl, ht⟩ | ⟨rfl, ht⟩ | ⟨rfl, ht⟩
    · refine x_h1 hM htab (by decide) (by decide) k_499 hE.2.1.2.2.2.2.2.2.2.2.2.2.1.1 hce hcv hcl ?_
      refine lv_astore (lv' := [(6, .ref q9), (0, .ref o), (1, .int a), (2, .int b), (3, .int x), (4, .int z), (5, .ref q)]) hx hb dL_sell_17 hl (by decide) rfl (fun ls hl => ?_)
      refine lv_iconst (v := 1) hx hb dL_sell_19 (by decide) ?_
      exact k_iret hM hsz hX1 ⟨_, rfl, Wo.thr hR hI hq ht (by decide)⟩ (by decide) (by decide) dL_sell_20
    · refine x_h2 hM htab (by decide) k_499 hE.2.1.2.2.2.2.2.2.2.2.2.2.2.1.1 (by decide) (by decide) k_500 hE.2.1.2.2.2.2.2.2.2.2.2.2.1.2.1 hce hcv hcl ?_
      refine lv_astore (lv' := [(6, .ref q9), (0, .ref o), (1, .int a), (2, .int b), (3, .int x), (4, .int z), (5, .ref q)]) hx hb dL_sell_21 hl (by decide) rfl (fun ls hl => ?_)
      refine lv_iconst (v := 2) hx hb dL_sell_23 (by decide) ?_
      exact k_iret hM hsz hX1 ⟨_, rfl, Wo.thr hR hI hq ht (by decide)⟩ (by decide) (by decide) dL_sell_24
    · refine x_h3 hM htab (by decide) k_499 hE.2.1.2.2.2.2.2.2.2.2.2.2.2.1.2.1 (by decide) k_500 hE.2.1.2.2.2.2.2.2.2.2.2.2.2.1.2.2 (by decide) (by decide) k_501 hE.2.1.2.2.2.2.2.2.2.2.2.2.1.2.2 hce hcv hcl ?_
      refine lv_astore (lv' := [(6, .ref q9), (0, .ref o), (1, .int a), (2, .int b), (3, .int x), (4, .int z), (5, .ref q)]) hx hb dL_sell_25 hl (by decide) rfl (fun ls hl => ?_)
      refine lv_iconst (v := 3) hx hb dL_sell_27 (by decide) ?_
      exact k_iret hM hsz hX1 ⟨_, rfl, Wo.thr hR hI hq ht (by decide)⟩ (by decide) (by decide) dL_sell_28
set_option maxHeartbeats 4000000 in
set_option maxRecDepth 100000 in
theorem c_L_giveBack (l : Launch) (hfl : l.stackTraces = false) (γ : kG) (L : List Nat) (F : kF) (o q : Nat) (ad : cAd) (tg : cTg) (M : mM) (nd : Nat) (D : cD) (f : Nat → Int64) (hR : RepC γ L F o ad tg M nd D) (hI : Inv M nd D) (hnd : nd < 512) (hq : F q = oL γ f) (a : Int32) : kCW l yL_giveBack cL_giveBack 4 (some .int) [(0, 9, 12, 13), (0, 9, 15, 17)] (kRm 8 6 1100) γ (L ++ [q]) F [.ref o, .int a, .ref q] (kI fun k L1 F1 => Wo γ o q nd (giveBackM M a) k L1 F1) := by
  refine kCW_of (by decide +kernel) (Nat.le_of_ble_eq_true rfl) ?_
  intro p e s m args below meth c sz ls hargs hsz hM htab hE hX hl
  have hx := hM.1
  have hb := hM.2.1
  have hl : lv_has ls 4 [(0, .ref o), (1, .int a), (2, .ref q)] := hl
  have hXl := kX_left hX
  refine lv_aload_n hx hb dL_giveBack_0 rfl (lv_at hl 2 rfl) ?_
  refine lv_iconst (v := 0) hx hb dL_giveBack_1 (by decide) ?_
  refine lv_aload_n hx hb dL_giveBack_2 rfl (lv_at hl 0 rfl) ?_
  refine lv_iload_n hx hb dL_giveBack_3 rfl (lv_at hl 1 rfl) ?_
  refine x_goF (x_V (n := 1) (As := [.int a]) (rest := [.int 0, .ref q]) hM hE hXl hl (c_X4_giveBack l hfl γ L F o ad tg M nd D hR hI (by omega) a) hR.1.1 hR.1.2.2 rfl k_879 k_880 k_881 k_1 k_882 ⟨rfl, by decide, by decide, by decide +kernel⟩ (by decide) rfl rfl (Nat.le_of_ble_eq_true rfl) dL_giveBack_4 (by decide)) hE hX (fun v L1 F1 H1 locs1 hv hX1 => ?_) (fun E ce q9 H1 locs1 hno hX1 hce hcv hcl => ?_)
  · obtain ⟨r, rfl, hp⟩ := hv
    refine lv_i2l hx hb dL_giveBack_7 rfl ?_
    refine k_last (n := 1) (f := f) hM hE hX1 (List.mem_append_right _ (List.mem_singleton.mpr rfl)) ((kMix_in (List.mem_singleton.mpr rfl)).trans hq) (show vp_in (nI 0) 1 from vp_in_nI (by decide) (by decide)) dL_giveBack_8 (fun H2 locs2 hX2 => ?_)
    refine lv_goto (tgt := 18) hx hb dL_giveBack_9 (by decide) ?_
    refine lv_iconst (v := 0) hx hb dL_giveBack_18 (by decide) ?_
    exact k_iret hM hsz hX2 ⟨_, rfl, Wo.done hp (fun b hb => kX_apart hX1 hb)⟩ (by decide) (by decide) dL_giveBack_19
  · rcases hno with ⟨rfl, ht⟩ | ⟨rfl, ht⟩
    · refine x_h1 hM htab (by decide) (by decide) k_499 hE.2.1.2.2.2.2.2.2.2.2.2.2.1.1 hce hcv hcl ?_
      refine lv_astore_n (lv' := [(3, .ref q9), (0, .ref o), (1, .int a), (2, .ref q)]) hx hb dL_giveBack_12 rfl hl (by decide) rfl (fun ls hl => ?_)
      refine lv_iconst (v := 1) hx hb dL_giveBack_13 (by decide) ?_
      exact k_iret hM hsz hX1 ⟨_, rfl, Wo.thr hR hI hq ht (by decide)⟩ (by decide) (by decide) dL_giveBack_14
    · refine x_h2 hM htab (by decide) k_499 hE.2.1.2.2.2.2.2.2.2.2.2.2.2.1.2.1 (by decide) (by decide) k_501 hE.2.1.2.2.2.2.2.2.2.2.2.2.1.2.2 hce hcv hcl ?_
      refine lv_astore_n (lv' := [(3, .ref q9), (0, .ref o), (1, .int a), (2, .ref q)]) hx hb dL_giveBack_15 rfl hl (by decide) rfl (fun ls hl => ?_)
      refine lv_iconst (v := 2) hx hb dL_giveBack_16 (by decide) ?_
      exact k_iret hM hsz hX1 ⟨_, rfl, Wo.thr hR hI hq ht (by decide)⟩ (by decide) (by decide) dL_giveBack_17
set_option maxHeartbeats 4000000 in
set_option maxRecDepth 100000 in
theorem c_L_payBySum (l : Launch) (hfl : l.stackTraces = false) (γ : kG) (L : List Nat) (F : kF) (o q : Nat) (ad : cAd) (tg : cTg) (M : mM) (nd : Nat) (D : cD) (f : Nat → Int64) (hR : RepC γ L F o ad tg M nd D) (hI : Inv M nd D) (hnd : nd < 512) (hq : F q = oL γ f) (a b x : Int32) : kCW l yL_payBySum cL_payBySum 6 (some .int) [(0, 12, 15, 13), (0, 12, 19, 15), (0, 12, 23, 17)] (kRm 9 7 1100) γ (L ++ [q]) F [.ref o, .int a, .int b, .int x, .ref q] (kI fun k L1 F1 => Wo γ o q nd (paySumM M a b x) k L1 F1) := by
  refine kCW_of (by decide +kernel) (Nat.le_of_ble_eq_true rfl) ?_
  intro p e s m args below meth c sz ls hargs hsz hM htab hE hX hl
  have hx := hM.1
  have hb := hM.2.1
  have hl : lv_has ls 6 [(0, .ref o), (1, .int a), (2, .int b), (3, .int x), (4, .ref q)] := hl
  have hXl := kX_left hX
  refine lv_aload hx hb dL_payBySum_0 (lv_at hl 4 rfl) ?_
  refine lv_iconst (v := 0) hx hb dL_payBySum_2 (by decide) ?_
  refine lv_aload_n hx hb dL_payBySum_3 rfl (lv_at hl 0 rfl) ?_
  refine lv_iload_n hx hb dL_payBySum_4 rfl (lv_at hl 1 rfl) ?_
  refine lv_iload_n hx hb dL_payBySum_5 rfl (lv_at hl 2 rfl) ?_
  refine lv_iload_n hx hb dL_payBySum_6 rfl (lv_at hl 3 rfl) ?_
  refine x_goF (x_V (n := 3) (As := [.int a, .int b, .int x]) (rest := [.int 0, .ref q]) hM hE hXl hl (c_X4_payBySum l hfl γ L F o ad tg M nd D hR hI (by omega) a b x) hR.1.1 hR.1.2.2 rfl k_939 k_940 k_941 k_1 k_942 ⟨rfl, by decide, by decide, by decide +kernel⟩ (by decide) rfl rfl (Nat.le_of_ble_eq_true rfl) dL_payBySum_7 (by decide)) hE hX (fun v L1 F1 H1 locs1 hv hX1 => ?_) (fun E ce q9 H1 locs1 hno hX1 hce hcv hcl => ?_)
  · obtain ⟨r, rfl, hp⟩ := hv
    refine lv_i2l hx hb dL_payBySum_10 rfl ?_
    refine k_last (n := 1) (f := f) hM hE hX1 (List.mem_append_right _ (List.mem_singleton.mpr rfl)) ((kMix_in (List.mem_singleton.mpr rfl)).trans hq) (show vp_in (nI 0) 1 from vp_in_nI (by decide) (by decide)) dL_payBySum_11 (fun H2 locs2 hX2 => ?_)
    refine lv_goto (tgt := 27) hx hb dL_payBySum_12 (by decide) ?_
    refine lv_iconst (v := 0) hx hb dL_payBySum_27 (by decide) ?_
    exact k_iret hM hsz hX2 ⟨_, rfl, Wo.done hp (fun b hb => kX_apart hX1 hb)⟩ (by decide) (by decide) dL_payBySum_28
  · rcases hno with ⟨rfl, ht⟩ | ⟨rfl, ht⟩ | ⟨rfl, ht⟩
    · refine x_h1 hM htab (by decide) (by decide) k_499 hE.2.1.2.2.2.2.2.2.2.2.2.2.1.1 hce hcv hcl ?_
      refine lv_astore (lv' := [(5, .ref q9), (0, .ref o), (1, .int a), (2, .int b), (3, .int x), (4, .ref q)]) hx hb dL_payBySum_15 hl (by decide) rfl (fun ls hl => ?_)
      refine lv_iconst (v := 1) hx hb dL_payBySum_17 (by decide) ?_
      exact k_iret hM hsz hX1 ⟨_, rfl, Wo.thr hR hI hq ht (by decide)⟩ (by decide) (by decide) dL_payBySum_18
    · refine x_h2 hM htab (by decide) k_499 hE.2.1.2.2.2.2.2.2.2.2.2.2.2.1.1 (by decide) (by decide) k_500 hE.2.1.2.2.2.2.2.2.2.2.2.2.1.2.1 hce hcv hcl ?_
      refine lv_astore (lv' := [(5, .ref q9), (0, .ref o), (1, .int a), (2, .int b), (3, .int x), (4, .ref q)]) hx hb dL_payBySum_19 hl (by decide) rfl (fun ls hl => ?_)
      refine lv_iconst (v := 2) hx hb dL_payBySum_21 (by decide) ?_
      exact k_iret hM hsz hX1 ⟨_, rfl, Wo.thr hR hI hq ht (by decide)⟩ (by decide) (by decide) dL_payBySum_22
    · refine x_h3 hM htab (by decide) k_499 hE.2.1.2.2.2.2.2.2.2.2.2.2.2.1.2.1 (by decide) k_500 hE.2.1.2.2.2.2.2.2.2.2.2.2.2.1.2.2 (by decide) (by decide) k_501 hE.2.1.2.2.2.2.2.2.2.2.2.2.1.2.2 hce hcv hcl ?_
      refine lv_astore (lv' := [(5, .ref q9), (0, .ref o), (1, .int a), (2, .int b), (3, .int x), (4, .ref q)]) hx hb dL_payBySum_23 hl (by decide) rfl (fun ls hl => ?_)
      refine lv_iconst (v := 3) hx hb dL_payBySum_25 (by decide) ?_
      exact k_iret hM hsz hX1 ⟨_, rfl, Wo.thr hR hI hq ht (by decide)⟩ (by decide) (by decide) dL_payBySum_26
set_option maxHeartbeats 4000000 in
set_option maxRecDepth 100000 in
theorem c_L_payByText (l : Launch) (hfl : l.stackTraces = false) (γ : kG) (L : List Nat) (F : kF) (o q : Nat) (ad : cAd) (tg : cTg) (M : mM) (nd : Nat) (D : cD) (f : Nat → Int64) (hR : RepC γ L F o ad tg M nd D) (hI : Inv M nd D) (hnd : nd < 512) (hq : F q = oL γ f) (a b x : Int32) : kCW l yL_payByText cL_payByText 6 (some .int) [(0, 12, 15, 13), (0, 12, 19, 15), (0, 12, 23, 17)] (kRm 9 7 1100) γ (L ++ [q]) F [.ref o, .int a, .int b, .int x, .ref q] (kI fun k L1 F1 => Wo γ o q nd (payTextM M a b x) k L1 F1) := by
  refine kCW_of (by decide +kernel) (Nat.le_of_ble_eq_true rfl) ?_
  intro p e s m args below meth c sz ls hargs hsz hM htab hE hX hl
  have hx := hM.1
  have hb := hM.2.1
  have hl : lv_has ls 6 [(0, .ref o), (1, .int a), (2, .int b), (3, .int x), (4, .ref q)] := hl
  have hXl := kX_left hX
  refine lv_aload hx hb dL_payByText_0 (lv_at hl 4 rfl) ?_
  refine lv_iconst (v := 0) hx hb dL_payByText_2 (by decide) ?_
  refine lv_aload_n hx hb dL_payByText_3 rfl (lv_at hl 0 rfl) ?_
  refine lv_iload_n hx hb dL_payByText_4 rfl (lv_at hl 1 rfl) ?_
  refine lv_iload_n hx hb dL_payByText_5 rfl (lv_at hl 2 rfl) ?_
  refine lv_iload_n hx hb dL_payByText_6 rfl (lv_at hl 3 rfl) ?_
  refine x_goF (x_V (n := 3) (As := [.int a, .int b, .int x]) (rest := [.int 0, .ref q]) hM hE hXl hl (c_X4_payByText l hfl γ L F o ad tg M nd D hR hI (by omega) a b x) hR.1.1 hR.1.2.2 rfl k_914 k_915 k_916 k_1 k_917 ⟨rfl, by decide, by decide, by decide +kernel⟩ (by decide) rfl rfl (Nat.le_of_ble_eq_true rfl) dL_payByText_7 (by decide)) hE hX (fun v L1 F1 H1 locs1 hv hX1 => ?_) (fun E ce q9 H1 locs1 hno hX1 hce hcv hcl => ?_)
  · obtain ⟨r, rfl, hp⟩ := hv
    refine lv_i2l hx hb dL_payByText_10 rfl ?_
    refine k_last (n := 1) (f := f) hM hE hX1 (List.mem_append_right _ (List.mem_singleton.mpr rfl)) ((kMix_in (List.mem_singleton.mpr rfl)).trans hq) (show vp_in (nI 0) 1 from vp_in_nI (by decide) (by decide)) dL_payByText_11 (fun H2 locs2 hX2 => ?_)
    refine lv_goto (tgt := 27) hx hb dL_payByText_12 (by decide) ?_
    refine lv_iconst (v := 0) hx hb dL_payByText_27 (by decide) ?_
    exact k_iret hM hsz hX2 ⟨_, rfl, Wo.done hp (fun b hb => kX_apart hX1 hb)⟩ (by decide) (by decide) dL_payByText_28
  · rcases hno with ⟨rfl, ht⟩ | ⟨rfl, ht⟩ | ⟨rfl, ht⟩
    · refine x_h1 hM htab (by decide) (by decide) k_499 hE.2.1.2.2.2.2.2.2.2.2.2.2.1.1 hce hcv hcl ?_
      refine lv_astore (lv' := [(5, .ref q9), (0, .ref o), (1, .int a), (2, .int b), (3, .int x), (4, .ref q)]) hx hb dL_payByText_15 hl (by decide) rfl (fun ls hl => ?_)
      refine lv_iconst (v := 1) hx hb dL_payByText_17 (by decide) ?_
      exact k_iret hM hsz hX1 ⟨_, rfl, Wo.thr hR hI hq ht (by decide)⟩ (by decide) (by decide) dL_payByText_18
    · refine x_h2 hM htab (by decide) k_499 hE.2.1.2.2.2.2.2.2.2.2.2.2.2.1.1 (by decide) (by decide) k_500 hE.2.1.2.2.2.2.2.2.2.2.2.2.1.2.1 hce hcv hcl ?_
      refine lv_astore (lv' := [(5, .ref q9), (0, .ref o), (1, .int a), (2, .int b), (3, .int x), (4, .ref q)]) hx hb dL_payByText_19 hl (by decide) rfl (fun ls hl => ?_)
      refine lv_iconst (v := 2) hx hb dL_payByText_21 (by decide) ?_
      exact k_iret hM hsz hX1 ⟨_, rfl, Wo.thr hR hI hq ht (by decide)⟩ (by decide) (by decide) dL_payByText_22
    · refine x_h3 hM htab (by decide) k_499 hE.2.1.2.2.2.2.2.2.2.2.2.2.2.1.2.1 (by decide) k_500 hE.2.1.2.2.2.2.2.2.2.2.2.2.2.1.2.2 (by decide) (by decide) k_501 hE.2.1.2.2.2.2.2.2.2.2.2.2.1.2.2 hce hcv hcl ?_
      refine lv_astore (lv' := [(5, .ref q9), (0, .ref o), (1, .int a), (2, .int b), (3, .int x), (4, .ref q)]) hx hb dL_payByText_23 hl (by decide) rfl (fun ls hl => ?_)
      refine lv_iconst (v := 3) hx hb dL_payByText_25 (by decide) ?_
      exact k_iret hM hsz hX1 ⟨_, rfl, Wo.thr hR hI hq ht (by decide)⟩ (by decide) (by decide) dL_payByText_26
set_option maxHeartbeats 4000000 in
set_option maxRecDepth 100000 in
theorem c_L_credit (l : Launch) (hfl : l.stackTraces = false) (γ : kG) (L : List Nat) (F : kF) (o q : Nat) (ad : cAd) (tg : cTg) (M : mM) (nd : Nat) (D : cD) (f : Nat → Int64) (hR : RepC γ L F o ad tg M nd D) (hI : Inv M nd D) (hnd : nd < 512) (hq : F q = oL γ f) (a b x : Int32) : kCW l yL_credit cL_credit 6 (some .int) [(0, 12, 15, 13), (0, 12, 19, 15), (0, 12, 23, 17)] (kRm 8 6 1100) γ (L ++ [q]) F [.ref o, .int a, .int b, .int x, .ref q] (kI fun k L1 F1 => Wo γ o q nd (creditM M a b x) k L1 F1) := by
  refine kCW_of (by decide +kernel) (Nat.le_of_ble_eq_true rfl) ?_
  intro p e s m args below meth c sz ls hargs hsz hM htab hE hX hl
  have hx := hM.1
  have hb := hM.2.1
  have hl : lv_has ls 6 [(0, .ref o), (1, .int a), (2, .int b), (3, .int x), (4, .ref q)] := hl
  have hXl := kX_left hX
  refine lv_aload hx hb dL_credit_0 (lv_at hl 4 rfl) ?_
  refine lv_iconst (v := 0) hx hb dL_credit_2 (by decide) ?_
  refine lv_aload_n hx hb dL_credit_3 rfl (lv_at hl 0 rfl) ?_
  refine lv_iload_n hx hb dL_credit_4 rfl (lv_at hl 1 rfl) ?_
  refine lv_iload_n hx hb dL_credit_5 rfl (lv_at hl 2 rfl) ?_
  refine lv_iload_n hx hb dL_credit_6 rfl (lv_at hl 3 rfl) ?_
  refine x_goF (x_V (n := 3) (As := [.int a, .int b, .int x]) (rest := [.int 0, .ref q]) hM hE hXl hl (c_X4_credit l hfl γ L F o ad tg M nd D hR hI a b x) hR.1.1 hR.1.2.2 rfl k_771 k_772 k_773 k_1 k_774 ⟨rfl, by decide, by decide, by decide +kernel⟩ (by decide) rfl rfl (Nat.le_of_ble_eq_true rfl) dL_credit_7 (by decide)) hE hX (fun v L1 F1 H1 locs1 hv hX1 => ?_) (fun E ce q9 H1 locs1 hno hX1 hce hcv hcl => ?_)
  · obtain ⟨r, rfl, hp⟩ := hv
    refine lv_i2l hx hb dL_credit_10 rfl ?_
    refine k_last (n := 1) (f := f) hM hE hX1 (List.mem_append_right _ (List.mem_singleton.mpr rfl)) ((kMix_in (List.mem_singleton.mpr rfl)).trans hq) (show vp_in (nI 0) 1 from vp_in_nI (by decide) (by decide)) dL_credit_11 (fun H2 locs2 hX2 => ?_)
    refine lv_goto (tgt := 27) hx hb dL_credit_12 (by decide) ?_
    refine lv_iconst (v := 0) hx hb dL_credit_27 (by decide) ?_
    exact k_iret hM hsz hX2 ⟨_, rfl, Wo.done hp (fun b hb => kX_apart hX1 hb)⟩ (by decide) (by decide) dL_credit_28
  · rcases hno with ⟨rfl, ht⟩ | ⟨rfl, ht⟩ | ⟨rfl, ht⟩
    · refine x_h1 hM htab (by decide) (by decide) k_499 hE.2.1.2.2.2.2.2.2.2.2.2.2.1.1 hce hcv hcl ?_
      refine lv_astore (lv' := [(5, .ref q9), (0, .ref o), (1, .int a), (2, .int b), (3, .int x), (4, .ref q)]) hx hb dL_credit_15 hl (by decide) rfl (fun ls hl => ?_)
      refine lv_iconst (v := 1) hx hb dL_credit_17 (by decide) ?_
      exact k_iret hM hsz hX1 ⟨_, rfl, Wo.thr hR hI hq ht (by decide)⟩ (by decide) (by decide) dL_credit_18
    · refine x_h2 hM htab (by decide) k_499 hE.2.1.2.2.2.2.2.2.2.2.2.2.2.1.1 (by decide) (by decide) k_500 hE.2.1.2.2.2.2.2.2.2.2.2.2.1.2.1 hce hcv hcl ?_
      refine lv_astore (lv' := [(5, .ref q9), (0, .ref o), (1, .int a), (2, .int b), (3, .int x), (4, .ref q)]) hx hb dL_credit_19 hl (by decide) rfl (fun ls hl => ?_)
      refine lv_iconst (v := 2) hx hb dL_credit_21 (by decide) ?_
      exact k_iret hM hsz hX1 ⟨_, rfl, Wo.thr hR hI hq ht (by decide)⟩ (by decide) (by decide) dL_credit_22
    · refine x_h3 hM htab (by decide) k_499 hE.2.1.2.2.2.2.2.2.2.2.2.2.2.1.2.1 (by decide) k_500 hE.2.1.2.2.2.2.2.2.2.2.2.2.2.1.2.2 (by decide) (by decide) k_501 hE.2.1.2.2.2.2.2.2.2.2.2.2.1.2.2 hce hcv hcl ?_
      refine lv_astore (lv' := [(5, .ref q9), (0, .ref o), (1, .int a), (2, .int b), (3, .int x), (4, .ref q)]) hx hb dL_credit_23 hl (by decide) rfl (fun ls hl => ?_)
      refine lv_iconst (v := 3) hx hb dL_credit_25 (by decide) ?_
      exact k_iret hM hsz hX1 ⟨_, rfl, Wo.thr hR hI hq ht (by decide)⟩ (by decide) (by decide) dL_credit_26
set_option maxHeartbeats 4000000 in
set_option maxRecDepth 100000 in
theorem c_L_settle (l : Launch) (hfl : l.stackTraces = false) (γ : kG) (L : List Nat) (F : kF) (o q : Nat) (ad : cAd) (tg : cTg) (M : mM) (nd : Nat) (D : cD) (f : Nat → Int64) (hR : RepC γ L F o ad tg M nd D) (hI : Inv M nd D) (hnd : nd < 512) (hq : F q = oL γ f) (a b z : Int32) : kCW l yL_settle cL_settle 6 (some .int) [(0, 12, 15, 13), (0, 12, 19, 17)] (kRm 8 6 1100) γ (L ++ [q]) F [.ref o, .int a, .int b, .int z, .ref q] (kI fun k L1 F1 => Wo γ o q nd (settleM M a b z) k L1 F1) := by
  refine kCW_of (by decide +kernel) (Nat.le_of_ble_eq_true rfl) ?_
  intro p e s m args below meth c sz ls hargs hsz hM htab hE hX hl
  have hx := hM.1
  have hb := hM.2.1
  have hl : lv_has ls 6 [(0, .ref o), (1, .int a), (2, .int b), (3, .int z), (4, .ref q)] := hl
  have hXl := kX_left hX
  refine lv_aload hx hb dL_settle_0 (lv_at hl 4 rfl) ?_
  refine lv_iconst (v := 0) hx hb dL_settle_2 (by decide) ?_
  refine lv_aload_n hx hb dL_settle_3 rfl (lv_at hl 0 rfl) ?_
  refine lv_iload_n hx hb dL_settle_4 rfl (lv_at hl 1 rfl) ?_
  refine lv_iload_n hx hb dL_settle_5 rfl (lv_at hl 2 rfl) ?_
  refine lv_iload_n hx hb dL_settle_6 rfl (lv_at hl 3 rfl) ?_
  refine x_goF (x_V (n := 3) (As := [.int a, .int b, .int z]) (rest := [.int 0, .ref q]) hM hE hXl hl (c_X4_settle l hfl γ L F o ad tg M nd D hR hI a b z) hR.1.1 hR.1.2.2 rfl k_824 k_825 k_826 k_1 k_827 ⟨rfl, by decide, by decide, by decide +kernel⟩ (by decide) rfl rfl (Nat.le_of_ble_eq_true rfl) dL_settle_7 (by decide)) hE hX (fun v L1 F1 H1 locs1 hv hX1 => ?_) (fun E ce q9 H1 locs1 hno hX1 hce hcv hcl => ?_)
  · obtain ⟨r, rfl, hp⟩ := hv
    refine lv_i2l hx hb dL_settle_10 rfl ?_
    refine k_last (n := 1) (f := f) hM hE hX1 (List.mem_append_right _ (List.mem_singleton.mpr rfl)) ((kMix_in (List.mem_singleton.mpr rfl)).trans hq) (show vp_in (nI 0) 1 from vp_in_nI (by decide) (by decide)) dL_settle_11 (fun H2 locs2 hX2 => ?_)
    refine lv_goto (tgt := 23) hx hb dL_settle_12 (by decide) ?_
    refine lv_iconst (v := 0) hx hb dL_settle_23 (by decide) ?_
    exact k_iret hM hsz hX2 ⟨_, rfl, Wo.done hp (fun b hb => kX_apart hX1 hb)⟩ (by decide) (by decide) dL_settle_24
  · rcases hno with ⟨rfl, ht⟩ | ⟨rfl, ht⟩
    · refine x_h1 hM htab (by decide) (by decide) k_499 hE.2.1.2.2.2.2.2.2.2.2.2.2.1.1 hce hcv hcl ?_
      refine lv_astore (lv' := [(5, .ref q9), (0, .ref o), (1, .int a), (2, .int b), (3, .int z), (4, .ref q)]) hx hb dL_settle_15 hl (by decide) rfl (fun ls hl => ?_)
      refine lv_iconst (v := 1) hx hb dL_settle_17 (by decide) ?_
      exact k_iret hM hsz hX1 ⟨_, rfl, Wo.thr hR hI hq ht (by decide)⟩ (by decide) (by decide) dL_settle_18
    · refine x_h2 hM htab (by decide) k_499 hE.2.1.2.2.2.2.2.2.2.2.2.2.2.1.2.1 (by decide) (by decide) k_501 hE.2.1.2.2.2.2.2.2.2.2.2.2.1.2.2 hce hcv hcl ?_
      refine lv_astore (lv' := [(5, .ref q9), (0, .ref o), (1, .int a), (2, .int b), (3, .int z), (4, .ref q)]) hx hb dL_settle_19 hl (by decide) rfl (fun ls hl => ?_)
      refine lv_iconst (v := 2) hx hb dL_settle_21 (by decide) ?_
      exact k_iret hM hsz hX1 ⟨_, rfl, Wo.thr hR hI hq ht (by decide)⟩ (by decide) (by decide) dL_settle_22
set_option maxHeartbeats 4000000 in
set_option maxRecDepth 100000 in
theorem c_L_addLine (l : Launch) (hfl : l.stackTraces = false) (γ : kG) (L : List Nat) (F : kF) (o q : Nat) (ad : cAd) (tg : cTg) (M : mM) (nd : Nat) (D : cD) (f : Nat → Int64) (hR : RepC γ L F o ad tg M nd D) (hI : Inv M nd D) (hnd : nd < 512) (hq : F q = oL γ f) (a x y : Int32) : kCW l yL_addLine cL_addLine 6 (some .int) [(0, 12, 15, 13), (0, 12, 19, 15), (0, 12, 23, 17)] (kRm 8 7 1100) γ (L ++ [q]) F [.ref o, .int a, .int x, .int y, .ref q] (kI fun k L1 F1 => Wo γ o q nd (addLineM M a x y) k L1 F1) := by
  refine kCW_of (by decide +kernel) (Nat.le_of_ble_eq_true rfl) ?_
  intro p e s m args below meth c sz ls hargs hsz hM htab hE hX hl
  have hx := hM.1
  have hb := hM.2.1
  have hl : lv_has ls 6 [(0, .ref o), (1, .int a), (2, .int x), (3, .int y), (4, .ref q)] := hl
  have hXl := kX_left hX
  refine lv_aload hx hb dL_addLine_0 (lv_at hl 4 rfl) ?_
  refine lv_iconst (v := 0) hx hb dL_addLine_2 (by decide) ?_
  refine lv_aload_n hx hb dL_addLine_3 rfl (lv_at hl 0 rfl) ?_
  refine lv_iload_n hx hb dL_addLine_4 rfl (lv_at hl 1 rfl) ?_
  refine lv_iload_n hx hb dL_addLine_5 rfl (lv_at hl 2 rfl) ?_
  refine lv_iload_n hx hb dL_addLine_6 rfl (lv_at hl 3 rfl) ?_
  refine x_goF (x_V (n := 3) (As := [.int a, .int x, .int y]) (rest := [.int 0, .ref q]) hM hE hXl hl (c_X4_addLine l hfl γ L F o ad tg M nd D hR hI a x y) hR.1.1 hR.1.2.2 rfl k_698 k_699 k_700 k_1 k_701 ⟨rfl, by decide, by decide, by decide +kernel⟩ (by decide) rfl rfl (Nat.le_of_ble_eq_true rfl) dL_addLine_7 (by decide)) hE hX (fun v L1 F1 H1 locs1 hv hX1 => ?_) (fun E ce q9 H1 locs1 hno hX1 hce hcv hcl => ?_)
  · obtain ⟨r, rfl, hp⟩ := hv
    refine lv_i2l hx hb dL_addLine_10 rfl ?_
    refine k_last (n := 1) (f := f) hM hE hX1 (List.mem_append_right _ (List.mem_singleton.mpr rfl)) ((kMix_in (List.mem_singleton.mpr rfl)).trans hq) (show vp_in (nI 0) 1 from vp_in_nI (by decide) (by decide)) dL_addLine_11 (fun H2 locs2 hX2 => ?_)
    refine lv_goto (tgt := 27) hx hb dL_addLine_12 (by decide) ?_
    refine lv_iconst (v := 0) hx hb dL_addLine_27 (by decide) ?_
    exact k_iret hM hsz hX2 ⟨_, rfl, Wo.done hp (fun b hb => kX_apart hX1 hb)⟩ (by decide) (by decide) dL_addLine_28
  · rcases hno with ⟨rfl, ht⟩ | ⟨rfl, ht⟩ | ⟨rfl, ht⟩
    · refine x_h1 hM htab (by decide) (by decide) k_499 hE.2.1.2.2.2.2.2.2.2.2.2.2.1.1 hce hcv hcl ?_
      refine lv_astore (lv' := [(5, .ref q9), (0, .ref o), (1, .int a), (2, .int x), (3, .int y), (4, .ref q)]) hx hb dL_addLine_15 hl (by decide) rfl (fun ls hl => ?_)
      refine lv_iconst (v := 1) hx hb dL_addLine_17 (by decide) ?_
      exact k_iret hM hsz hX1 ⟨_, rfl, Wo.thr hR hI hq ht (by decide)⟩ (by decide) (by decide) dL_addLine_18
    · refine x_h2 hM htab (by decide) k_499 hE.2.1.2.2.2.2.2.2.2.2.2.2.2.1.1 (by decide) (by decide) k_500 hE.2.1.2.2.2.2.2.2.2.2.2.2.1.2.1 hce hcv hcl ?_
      refine lv_astore (lv' := [(5, .ref q9), (0, .ref o), (1, .int a), (2, .int x), (3, .int y), (4, .ref q)]) hx hb dL_addLine_19 hl (by decide) rfl (fun ls hl => ?_)
      refine lv_iconst (v := 2) hx hb dL_addLine_21 (by decide) ?_
      exact k_iret hM hsz hX1 ⟨_, rfl, Wo.thr hR hI hq ht (by decide)⟩ (by decide) (by decide) dL_addLine_22
    · refine x_h3 hM htab (by decide) k_499 hE.2.1.2.2.2.2.2.2.2.2.2.2.2.1.2.1 (by decide) k_500 hE.2.1.2.2.2.2.2.2.2.2.2.2.2.1.2.2 (by decide) (by decide) k_501 hE.2.1.2.2.2.2.2.2.2.2.2.2.1.2.2 hce hcv hcl ?_
      refine lv_astore (lv' := [(5, .ref q9), (0, .ref o), (1, .int a), (2, .int x), (3, .int y), (4, .ref q)]) hx hb dL_addLine_23 hl (by decide) rfl (fun ls hl => ?_)
      refine lv_iconst (v := 3) hx hb dL_addLine_25 (by decide) ?_
      exact k_iret hM hsz hX1 ⟨_, rfl, Wo.thr hR hI hq ht (by decide)⟩ (by decide) (by decide) dL_addLine_26
set_option maxHeartbeats 4000000 in
set_option maxRecDepth 100000 in
theorem c_L_send (l : Launch) (hfl : l.stackTraces = false) (γ : kG) (L : List Nat) (F : kF) (o q : Nat) (ad : cAd) (tg : cTg) (M : mM) (nd : Nat) (D : cD) (f : Nat → Int64) (hR : RepC γ L F o ad tg M nd D) (hI : Inv M nd D) (hnd : nd < 512) (hq : F q = oL γ f) (a b z x y : Int32) : kCW l yL_send cL_send 8 (some .int) [(0, 16, 19, 13), (0, 16, 23, 15), (0, 16, 27, 17)] (kRm 8 20 3000) γ (L ++ [q]) F [.ref o, .int a, .int b, .int z, .int x, .int y, .ref q] (kI fun k L1 F1 => Wo γ o q nd (sendM M a b z x y) k L1 F1) := by
  refine kCW_of (by decide +kernel) (Nat.le_of_ble_eq_true rfl) ?_
  intro p e s m args below meth c sz ls hargs hsz hM htab hE hX hl
  have hx := hM.1
  have hb := hM.2.1
  have hl : lv_has ls 8 [(0, .ref o), (1, .int a), (2, .int b), (3, .int z), (4, .int x), (5, .int y), (6, .ref q)] := hl
  have hXl := kX_left hX
  refine lv_aload hx hb dL_send_0 (lv_at hl 6 rfl) ?_
  refine lv_iconst (v := 0) hx hb dL_send_2 (by decide) ?_
  refine lv_aload_n hx hb dL_send_3 rfl (lv_at hl 0 rfl) ?_
  refine lv_iload_n hx hb dL_send_4 rfl (lv_at hl 1 rfl) ?_
  refine lv_iload_n hx hb dL_send_5 rfl (lv_at hl 2 rfl) ?_
  refine lv_iload_n hx hb dL_send_6 rfl (lv_at hl 3 rfl) ?_
  refine lv_iload hx hb dL_send_7 (lv_at hl 4 rfl) ?_
  refine lv_iload hx hb dL_send_9 (lv_at hl 5 rfl) ?_
  refine x_goF (x_V (n := 5) (As := [.int a, .int b, .int z, .int x, .int y]) (rest := [.int 0, .ref q]) hM hE hXl hl (c_X4_send l hfl γ L F o ad tg M nd D hR hI a b z x y) hR.1.1 hR.1.2.2 rfl k_502 k_503 k_504 k_1 k_505 ⟨rfl, by decide, by decide, by decide +kernel⟩ (by decide) rfl rfl (Nat.le_of_ble_eq_true rfl) dL_send_11 (by decide)) hE hX (fun v L1 F1 H1 locs1 hv hX1 => ?_) (fun E ce q9 H1 locs1 hno hX1 hce hcv hcl => ?_)
  · obtain ⟨r, rfl, hp⟩ := hv
    refine lv_i2l hx hb dL_send_14 rfl ?_
    refine k_last (n := 1) (f := f) hM hE hX1 (List.mem_append_right _ (List.mem_singleton.mpr rfl)) ((kMix_in (List.mem_singleton.mpr rfl)).trans hq) (show vp_in (nI 0) 1 from vp_in_nI (by decide) (by decide)) dL_send_15 (fun H2 locs2 hX2 => ?_)
    refine lv_goto (tgt := 31) hx hb dL_send_16 (by decide) ?_
    refine lv_iconst (v := 0) hx hb dL_send_31 (by decide) ?_
    exact k_iret hM hsz hX2 ⟨_, rfl, Wo.done hp (fun b hb => kX_apart hX1 hb)⟩ (by decide) (by decide) dL_send_32
  · rcases hno with ⟨rfl, ht⟩ | ⟨rfl, ht⟩ | ⟨rfl, ht⟩
    · refine x_h1 hM htab (by decide) (by decide) k_499 hE.2.1.2.2.2.2.2.2.2.2.2.2.1.1 hce hcv hcl ?_
      refine lv_astore (lv' := [(7, .ref q9), (0, .ref o), (1, .int a), (2, .int b), (3, .int z), (4, .int x), (5, .int y), (6, .ref q)]) hx hb dL_send_19 hl (by decide) rfl (fun ls hl => ?_)
      refine lv_iconst (v := 1) hx hb dL_send_21 (by decide) ?_
      exact k_iret hM hsz hX1 ⟨_, rfl, Wo.thr hR hI hq ht (by decide)⟩ (by decide) (by decide) dL_send_22
    · refine x_h2 hM htab (by decide) k_499 hE.2.1.2.2.2.2.2.2.2.2.2.2.2.1.1 (by decide) (by decide) k_500 hE.2.1.2.2.2.2.2.2.2.2.2.2.1.2.1 hce hcv hcl ?_
      refine lv_astore (lv' := [(7, .ref q9), (0, .ref o), (1, .int a), (2, .int b), (3, .int z), (4, .int x), (5, .int y), (6, .ref q)]) hx hb dL_send_23 hl (by decide) rfl (fun ls hl => ?_)
      refine lv_iconst (v := 2) hx hb dL_send_25 (by decide) ?_
      exact k_iret hM hsz hX1 ⟨_, rfl, Wo.thr hR hI hq ht (by decide)⟩ (by decide) (by decide) dL_send_26
    · refine x_h3 hM htab (by decide) k_499 hE.2.1.2.2.2.2.2.2.2.2.2.2.2.1.2.1 (by decide) k_500 hE.2.1.2.2.2.2.2.2.2.2.2.2.2.1.2.2 (by decide) (by decide) k_501 hE.2.1.2.2.2.2.2.2.2.2.2.2.1.2.2 hce hcv hcl ?_
      refine lv_astore (lv' := [(7, .ref q9), (0, .ref o), (1, .int a), (2, .int b), (3, .int z), (4, .int x), (5, .int y), (6, .ref q)]) hx hb dL_send_27 hl (by decide) rfl (fun ls hl => ?_)
      refine lv_iconst (v := 3) hx hb dL_send_29 (by decide) ?_
      exact k_iret hM hsz hX1 ⟨_, rfl, Wo.thr hR hI hq ht (by decide)⟩ (by decide) (by decide) dL_send_30
