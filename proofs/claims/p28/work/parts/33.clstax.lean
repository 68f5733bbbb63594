section DR
variable {γ : kG} {L : List Nat} {F : kF} {o : Nat} {ad : cAd} {tg : cTg} {M : mM} {nd : Nat} {D : cD}
theorem c_dLen (l : Launch) (hR : RepC γ L F o ad tg M nd D) (hI : Inv M nd D) : kC l yJ4_length_8abf5 cJ4_length_8abf5 1 (some .int) (kRm 1 0 0) γ L F [.ref (ad 8 0 0)] (kI fun r L1 F1 => L = L1 ∧ F = F1 ∧ r = nI (dd M)) := by
  obtain ⟨ml, h1, h2, h3⟩ := hR.2.2.2.2.2.2.2.2.2.2.1
  have h4 := hR.2.2.2.2.2.2.2.2.2.2.2
  have hd := hI.2.2.2.1
  exact c_J4_length_8abf5 l γ L F (ad 8 0 0) (ad 9 0 0) (dd M) ml h1 (by rw [h3, hd.1]) h4.1 (M 23) h4.2.2 (by have := hd.2; omega)
theorem c_dChar (l : Launch) (hR : RepC γ L F o ad tg M nd D) (hI : Inv M nd D) (j : Nat) (x : Int32) (hx : x = nI j) (hj : j < dd M) : kC l yJ4_charAt_5068e cJ4_charAt_5068e 2 (some .char) (kRm 3 0 0) γ L F [.ref (ad 8 0 0), .int x] (kI fun r L1 F1 => L = L1 ∧ F = F1 ∧ r = M 23 j) := by
  subst hx
  obtain ⟨ml, h1, h2, h3⟩ := hR.2.2.2.2.2.2.2.2.2.2.1
  have h4 := hR.2.2.2.2.2.2.2.2.2.2.2
  have hd := hI.2.2.2.1
  obtain ⟨e1, e2⟩ := hI.2.2.2.2.2.2.2.2.1 j hj
  have key := c_J4_charAt_5068e l γ L F (ad 8 0 0) (ad 9 0 0) (dd M) ml h1 (by rw [h3, hd.1]) h4.1 (M 23) h4.2.2 (by have := hd.2; omega) j (kj (M 23 j)) hj e1 (by omega)
  rw [← e1] at key
  exact key
theorem sb_recv (hR : RepC γ L F o ad tg M nd D) : ∃ ml : Int32, ad 8 0 0 ∈ L ∧ F (ad 8 0 0) = .inr (1, [.ref (ad 9 0 0), .int 0, .int ml, .int (M 22 0)]) := by
  obtain ⟨ml, h1, h2, h3⟩ := hR.2.2.2.2.2.2.2.2.2.2.1
  exact ⟨ml, h1, h3⟩
theorem dlt {n : Nat} (k : Nat) (hn : n ≤ 10) (hk : k < 10) (h : ¬ nI n < nI (k + 1)) : k < n := by
  rcases Nat.lt_or_ge k n with q | q
  · exact q
  · exact absurd (nI_lt (a := n) (b := k + 1) (by omega) (by omega)) h
theorem dge {n : Nat} (k : Nat) (hn : n ≤ 10) (hk : k < 10) (h : nI (k + 1) ≤ nI n) : k < n := (nI_leI (a := k + 1) (b := n) (by omega) (by omega)).mp h
theorem chI_p {a x : Int32} {t j : Nat} (h : M 6 j = 1 ∧ M 5 j = a) (h2 : M 4 j = M 3 t) : (if x < taxAll M j 0 then taxAll M j 0 else x) = chI M a t j x := by
  unfold chI
  rw [if_pos h.2, if_pos h.1, if_pos h2]
  by_cases h3 : taxAll M j 0 ≤ x
  · rw [if_pos h3, if_neg (Int32.not_lt.mpr h3)]
  · rw [if_neg h3, if_pos (Int32.not_le.mp h3)]
theorem chI_n2 {a x : Int32} {t j : Nat} (h : M 6 j = 1 ∧ M 5 j = a) (h2 : ¬ M 4 j = M 3 t) : x = chI M a t j x := by
  unfold chI
  rw [if_pos h.2, if_pos h.1, if_neg h2]
theorem chI_n1 {a x : Int32} {t j : Nat} (h : ¬ (M 6 j = 1 ∧ M 5 j = a)) : x = chI M a t j x := by
  unfold chI
  by_cases h1 : M 5 j = a
  · rw [if_pos h1, if_neg (fun h2 => h ⟨h2, h1⟩)]
  · rw [if_neg h1]
end DR
set_option maxHeartbeats 4000000 in
set_option maxRecDepth 100000 in
theorem c_X4_isDigit (l : Launch) (γ : kG) (L : List Nat) (F : kF) (a : Int32) : kC l yX4_isDigit cX4_isDigit 1 (some .boolean) (kRm 0 0 0) γ L F [.int a] (kI fun r L1 F1 => L = L1 ∧ F = F1 ∧ ((r = 1 ∧ 48 ≤ a ∧ a ≤ 57) ∨ (r = 0 ∧ ¬ (48 ≤ a ∧ a ≤ 57)))) := by
  refine kC_of (by decide +kernel) (Nat.le_of_ble_eq_true rfl) ?_
  intro p e s m args below meth c sz ls hargs hsz hM hin hE hX hl
  have hx := hM.1
  have hb := hM.2.1
  have hl : lv_has ls 1 [(0, .int a)] := hl
  refine lv_iload_n hx hb dX4_isDigit_0 rfl (lv_at hl 0 rfl) ?_
  refine lv_bipush (v := 48) hx hb dX4_isDigit_1 (by decide) ?_
  refine lv_icmp_lt (tgt := 16) hx hb dX4_isDigit_3 (by decide) (fun c_1 => ?_) (fun c_1 => ?_)
  · refine lv_iconst (v := 0) hx hb dX4_isDigit_16 (by decide) ?_
    exact k_zret hM rfl hsz hX ⟨_, rfl, rfl, rfl, Or.inr ⟨rfl, fun h => absurd c_1 (Int32.not_lt.mpr h.1)⟩⟩ (by decide) (by decide) dX4_isDigit_17
  · refine lv_iload_n hx hb dX4_isDigit_6 rfl (lv_at hl 0 rfl) ?_
    refine lv_bipush (v := 57) hx hb dX4_isDigit_7 (by decide) ?_
    refine lv_icmp_gt (tgt := 16) hx hb dX4_isDigit_9 (by decide) (fun c_2 => ?_) (fun c_2 => ?_)
    · refine lv_iconst (v := 0) hx hb dX4_isDigit_16 (by decide) ?_
      exact k_zret hM rfl hsz hX ⟨_, rfl, rfl, rfl, Or.inr ⟨rfl, fun h => absurd c_2 (Int32.not_lt.mpr h.2)⟩⟩ (by decide) (by decide) dX4_isDigit_17
    · refine lv_iconst (v := 1) hx hb dX4_isDigit_12 (by decide) ?_
      refine lv_goto (tgt := 17) hx hb dX4_isDigit_13 (by decide) ?_
      exact k_zret hM rfl hsz hX ⟨_, rfl, rfl, rfl, Or.inl ⟨rfl, Int32.not_lt.mp c_1, Int32.not_lt.mp c_2⟩⟩ (by decide) (by decide) dX4_isDigit_17
def cfault (M : mM) : Int32 := (if (nI (dd M)) < 1 then 0 else (if (M 23 0) = 82 then (if (nI (dd M)) < 2 then 1 else (if 48 ≤ (M 23 1) ∧ (M 23 1) ≤ 57 then (if 3 ≤ (nI (dd M)) then (if 48 ≤ (M 23 2) ∧ (M 23 2) ≤ 57 then (if (nI (dd M)) = 3 then (-1) else 3) else 2) else (-1)) else 1)) else 0))
set_option maxHeartbeats 4000000 in
set_option maxRecDepth 100000 in
theorem c_X4_faultOfDraft (l : Launch) (γ : kG) (L : List Nat) (F : kF) (o : Nat) (ad : cAd) (tg : cTg) (M : mM) (nd : Nat) (D : cD) (hR : RepC γ L F o ad tg M nd D) (hI : Inv M nd D) : kC l yX4_faultOfDraft cX4_faultOfDraft 2 (some .int) (kRm 4 0 0) γ L F [.ref o] (kI fun r L1 F1 => L = L1 ∧ F = F1 ∧ r = cfault M) := by
  refine kC_of (by decide +kernel) (Nat.le_of_ble_eq_true rfl) ?_
  intro p e s m args below meth c sz ls hargs hsz hM hin hE hX hl
  have hx := hM.1
  have hb := hM.2.1
  have hl : lv_has ls 2 [(0, .ref o)] := hl
  obtain ⟨ml, msb, fsb⟩ := sb_recv hR
  have hd2 := hI.2.2.2.1.2
  refine lv_aload_n hx hb dX4_faultOfDraft_0 rfl (lv_at hl 0 rfl) ?_
  refine k_get hM hE hX hR.1.1 hR.1.2.2 rfl 4 (by decide) inX4 k_102 (fun _ h => h) rfl dX4_faultOfDraft_1 ?_
  refine k_goi (k_V (n := 0) (As := []) (rest := []) hM hE hX hl (c_dLen l hR hI) msb fsb rfl k_678 k_679 k_680 k_6 k_681 ⟨rfl, by decide, by decide, by decide +kernel⟩ (by decide) rfl rfl (Nat.le_of_ble_eq_true rfl) dX4_faultOfDraft_4 (by decide)) hE hX (fun r L1 F1 H locs hp hX => ?_)
  obtain ⟨rfl, rfl, rfl⟩ := hp
  refine lv_istore_n (lv' := [(1, .int (nI (dd M))), (0, .ref o)]) hx hb dX4_faultOfDraft_7 rfl hl (by decide) rfl (fun ls hl => ?_)
  refine lv_iload_n hx hb dX4_faultOfDraft_8 rfl (lv_at hl 0 rfl) ?_
  refine lv_iconst (v := 1) hx hb dX4_faultOfDraft_9 (by decide) ?_
  refine lv_icmp_lt (tgt := 26) hx hb dX4_faultOfDraft_10 (by decide) (fun c_1 => ?_) (fun c_1 => ?_)
  · refine lv_iconst (v := 0) hx hb dX4_faultOfDraft_26 (by decide) ?_
    exact k_iret hM hsz hX ⟨_, rfl, rfl, rfl, (show cfault M = _ from ((if_pos c_1).trans rfl)).symm⟩ (by decide) (by decide) dX4_faultOfDraft_27
  · refine lv_aload_n hx hb dX4_faultOfDraft_13 rfl (lv_at hl 1 rfl) ?_
    refine k_get hM hE hX hR.1.1 hR.1.2.2 rfl 4 (by decide) inX4 k_102 (fun _ h => h) rfl dX4_faultOfDraft_14 ?_
    refine lv_iconst (v := 0) hx hb dX4_faultOfDraft_17 (by decide) ?_
    refine k_goi (k_V (n := 1) (As := [.int 0]) (rest := []) hM hE hX hl (c_dChar l hR hI 0 0 rfl (dlt 0 hd2 (by decide) c_1)) msb fsb rfl k_772 k_773 k_774 k_6 k_775 ⟨rfl, by decide, by decide, by decide +kernel⟩ (by decide) rfl rfl (Nat.le_of_ble_eq_true rfl) dX4_faultOfDraft_18 (by decide)) hE hX (fun r L1 F1 H locs hp hX => ?_)
    obtain ⟨rfl, rfl, rfl⟩ := hp
    refine lv_bipush (v := 82) hx hb dX4_faultOfDraft_21 (by decide) ?_
    refine lv_icmp_eq (tgt := 28) hx hb dX4_faultOfDraft_23 (by decide) (fun c_2 => ?_) (fun c_2 => ?_)
    · refine lv_iload_n hx hb dX4_faultOfDraft_28 rfl (lv_at hl 0 rfl) ?_
      refine lv_iconst (v := 2) hx hb dX4_faultOfDraft_29 (by decide) ?_
      refine lv_icmp_lt (tgt := 47) hx hb dX4_faultOfDraft_30 (by decide) (fun c_3 => ?_) (fun c_3 => ?_)
      · refine lv_iconst (v := 1) hx hb dX4_faultOfDraft_47 (by decide) ?_
        exact k_iret hM hsz hX ⟨_, rfl, rfl, rfl, (show cfault M = _ from ((if_neg c_1).trans ((if_pos c_2).trans ((if_pos c_3).trans rfl)))).symm⟩ (by decide) (by decide) dX4_faultOfDraft_48
      · refine lv_aload_n hx hb dX4_faultOfDraft_33 rfl (lv_at hl 1 rfl) ?_
        refine k_get hM hE hX hR.1.1 hR.1.2.2 rfl 4 (by decide) inX4 k_102 (fun _ h => h) rfl dX4_faultOfDraft_34 ?_
        refine lv_iconst (v := 1) hx hb dX4_faultOfDraft_37 (by decide) ?_
        refine k_goi (k_V (n := 1) (As := [.int 1]) (rest := []) hM hE hX hl (c_dChar l hR hI 1 1 rfl (dlt 1 hd2 (by decide) c_3)) msb fsb rfl k_772 k_773 k_774 k_6 k_775 ⟨rfl, by decide, by decide, by decide +kernel⟩ (by decide) rfl rfl (Nat.le_of_ble_eq_true rfl) dX4_faultOfDraft_38 (by decide)) hE hX (fun r L1 F1 H locs hp hX => ?_)
        obtain ⟨rfl, rfl, rfl⟩ := hp
        refine k_goi (k_S (n := 1) (As := [.int (M 23 1)]) (rest := []) hM hE hX hl (c_X4_isDigit l γ L F (M 23 1)) k_784 k_785 k_1 k_786 ⟨by decide, by decide, by decide +kernel⟩ (by decide) rfl rfl (Nat.le_of_ble_eq_true rfl) dX4_faultOfDraft_41 (by decide)) hE hX (fun r L1 F1 H locs hp hX => ?_)
        obtain ⟨rfl, rfl, ⟨rfl, h_4⟩ | ⟨rfl, h_4⟩⟩ := hp
        · refine lv_if_ne (tgt := 49) hx hb dX4_faultOfDraft_44 (by decide) (fun _ => ?_) (fun c_5 => absurd (show (1 : Int32) = 0 from c_5) (by decide))
          refine lv_iload_n hx hb dX4_faultOfDraft_49 rfl (lv_at hl 0 rfl) ?_
          refine lv_iconst (v := 3) hx hb dX4_faultOfDraft_50 (by decide) ?_
          refine lv_icmp_ge (tgt := 56) hx hb dX4_faultOfDraft_51 (by decide) (fun c_6 => ?_) (fun c_6 => ?_)
          · refine lv_aload_n hx hb dX4_faultOfDraft_56 rfl (lv_at hl 1 rfl) ?_
            refine k_get hM hE hX hR.1.1 hR.1.2.2 rfl 4 (by decide) inX4 k_102 (fun _ h => h) rfl dX4_faultOfDraft_57 ?_
            refine lv_iconst (v := 2) hx hb dX4_faultOfDraft_60 (by decide) ?_
            refine k_goi (k_V (n := 1) (As := [.int 2]) (rest := []) hM hE hX hl (c_dChar l hR hI 2 2 rfl (dge 2 hd2 (by decide) c_6)) msb fsb rfl k_772 k_773 k_774 k_6 k_775 ⟨rfl, by decide, by decide, by decide +kernel⟩ (by decide) rfl rfl (Nat.le_of_ble_eq_true rfl) dX4_faultOfDraft_61 (by decide)) hE hX (fun r L1 F1 H locs hp hX => ?_)
            obtain ⟨rfl, rfl, rfl⟩ := hp
            refine k_goi (k_S (n := 1) (As := [.int (M 23 2)]) (rest := []) hM hE hX hl (c_X4_isDigit l γ L F (M 23 2)) k_784 k_785 k_1 k_786 ⟨by decide, by decide, by decide +kernel⟩ (by decide) rfl rfl (Nat.le_of_ble_eq_true rfl) dX4_faultOfDraft_64 (by decide)) hE hX (fun r L1 F1 H locs hp hX => ?_)
            obtain ⟨rfl, rfl, ⟨rfl, h_7⟩ | ⟨rfl, h_7⟩⟩ := hp
            · refine lv_if_ne (tgt := 72) hx hb dX4_faultOfDraft_67 (by decide) (fun _ => ?_) (fun c_8 => absurd (show (1 : Int32) = 0 from c_8) (by decide))
              refine lv_iload_n hx hb dX4_faultOfDraft_72 rfl (lv_at hl 0 rfl) ?_
              refine lv_iconst (v := 3) hx hb dX4_faultOfDraft_73 (by decide) ?_
              refine lv_icmp_ne (tgt := 81) hx hb dX4_faultOfDraft_74 (by decide) (fun c_9 => ?_) (fun c_9 => ?_)
              · refine lv_iconst (v := 3) hx hb dX4_faultOfDraft_81 (by decide) ?_
                exact k_iret hM hsz hX ⟨_, rfl, rfl, rfl, (show cfault M = _ from ((if_neg c_1).trans ((if_pos c_2).trans ((if_neg c_3).trans ((if_pos h_4).trans ((if_pos c_6).trans ((if_pos h_7).trans ((if_neg c_9).trans rfl)))))))).symm⟩ (by decide) (by decide) dX4_faultOfDraft_82
              · refine lv_iconst (v := (-1)) hx hb dX4_faultOfDraft_77 (by decide) ?_
                refine lv_goto (tgt := 82) hx hb dX4_faultOfDraft_78 (by decide) ?_
                exact k_iret hM hsz hX ⟨_, rfl, rfl, rfl, (show cfault M = _ from ((if_neg c_1).trans ((if_pos c_2).trans ((if_neg c_3).trans ((if_pos h_4).trans ((if_pos c_6).trans ((if_pos h_7).trans ((if_pos c_9).trans rfl)))))))).symm⟩ (by decide) (by decide) dX4_faultOfDraft_82
            · refine lv_if_ne (tgt := 72) hx hb dX4_faultOfDraft_67 (by decide) (fun c_10 => absurd (show ¬ (0 : Int32) = 0 from c_10) (by decide)) (fun _ => ?_)
              refine lv_iconst (v := 2) hx hb dX4_faultOfDraft_70 (by decide) ?_
              exact k_iret hM hsz hX ⟨_, rfl, rfl, rfl, (show cfault M = _ from ((if_neg c_1).trans ((if_pos c_2).trans ((if_neg c_3).trans ((if_pos h_4).trans ((if_pos c_6).trans ((if_neg h_7).trans rfl))))))).symm⟩ (by decide) (by decide) dX4_faultOfDraft_71
          · refine lv_iconst (v := (-1)) hx hb dX4_faultOfDraft_54 (by decide) ?_
            exact k_iret hM hsz hX ⟨_, rfl, rfl, rfl, (show cfault M = _ from ((if_neg c_1).trans ((if_pos c_2).trans ((if_neg c_3).trans ((if_pos h_4).trans ((if_neg c_6).trans rfl)))))).symm⟩ (by decide) (by decide) dX4_faultOfDraft_55
        · refine lv_if_ne (tgt := 49) hx hb dX4_faultOfDraft_44 (by decide) (fun c_11 => absurd (show ¬ (0 : Int32) = 0 from c_11) (by decide)) (fun _ => ?_)
          refine lv_iconst (v := 1) hx hb dX4_faultOfDraft_47 (by decide) ?_
          exact k_iret hM hsz hX ⟨_, rfl, rfl, rfl, (show cfault M = _ from ((if_neg c_1).trans ((if_pos c_2).trans ((if_neg c_3).trans ((if_neg h_4).trans rfl))))).symm⟩ (by decide) (by decide) dX4_faultOfDraft_48
    · refine lv_iconst (v := 0) hx hb dX4_faultOfDraft_26 (by decide) ?_
      exact k_iret hM hsz hX ⟨_, rfl, rfl, rfl, (show cfault M = _ from ((if_neg c_1).trans ((if_neg c_2).trans rfl))).symm⟩ (by decide) (by decide) dX4_faultOfDraft_27
set_option maxHeartbeats 4000000 in
set_option maxRecDepth 100000 in
theorem c2_X4_numberOfDraft (l : Launch) (γ : kG) (L : List Nat) (F : kF) (o : Nat) (ad : cAd) (tg : cTg) (M : mM) (nd : Nat) (D : cD) (hR : RepC γ L F o ad tg M nd D) (hI : Inv M nd D) (hdd : dd M = 2) : kC l yX4_numberOfDraft cX4_numberOfDraft 3 (some .int) (kRm 4 0 0) γ L F [.ref o] (kI fun r L1 F1 => L = L1 ∧ F = F1 ∧ r = ((0 * 10) + ((M 23 1) - 48))) := by
  refine kC_of (by decide +kernel) (Nat.le_of_ble_eq_true rfl) ?_
  intro p e s m args below meth c sz ls hargs hsz hM hin hE hX hl
  have hx := hM.1
  have hb := hM.2.1
  have hl : lv_has ls 3 [(0, .ref o)] := hl
  obtain ⟨ml, msb, fsb⟩ := sb_recv hR
  have hd2 := hI.2.2.2.1.2
  refine lv_iconst (v := 0) hx hb dX4_numberOfDraft_0 (by decide) ?_
  refine lv_istore_n (lv' := [(1, .int 0), (0, .ref o)]) hx hb dX4_numberOfDraft_1 rfl hl (by decide) rfl (fun ls hl => ?_)
  refine lv_iconst (v := 1) hx hb dX4_numberOfDraft_2 (by decide) ?_
  refine lv_istore_n (lv' := [(2, .int 1), (1, .int 0), (0, .ref o)]) hx hb dX4_numberOfDraft_3 rfl hl (by decide) rfl (fun ls hl => ?_)
  refine lv_iload_n hx hb dX4_numberOfDraft_4 rfl (lv_at hl 0 rfl) ?_
  refine lv_aload_n hx hb dX4_numberOfDraft_5 rfl (lv_at hl 2 rfl) ?_
  refine k_get hM hE hX hR.1.1 hR.1.2.2 rfl 4 (by decide) inX4 k_102 (fun _ h => h) rfl dX4_numberOfDraft_6 ?_
  refine k_goi (k_V (n := 0) (As := []) (rest := [.int 1]) hM hE hX hl (by rw [show (2 : Int32) = nI (dd M) by rw [hdd]; rfl]; exact c_dLen l hR hI : kC l yJ4_length_8abf5 cJ4_length_8abf5 1 (some .int) (kRm 1 0 0) γ L F [.ref (ad 8 0 0)] (kI fun r L1 F1 => L = L1 ∧ F = F1 ∧ r = 2)) msb fsb rfl k_678 k_679 k_680 k_6 k_681 ⟨rfl, by decide, by decide, by decide +kernel⟩ (by decide) rfl rfl (Nat.le_of_ble_eq_true rfl) dX4_numberOfDraft_9 (by decide)) hE hX (fun r L1 F1 H locs hp hX => ?_)
  obtain ⟨rfl, rfl, rfl⟩ := hp
  refine lv_icmp_ge (tgt := 38) hx hb dX4_numberOfDraft_12 (by decide) (fun c_1 => absurd (show (2 : Int32) ≤ 1 from c_1) (by decide)) (fun _ => ?_)
  refine lv_iload_n hx hb dX4_numberOfDraft_15 rfl (lv_at hl 1 rfl) ?_
  refine lv_bipush (v := 10) hx hb dX4_numberOfDraft_16 (by decide) ?_
  refine lv_imul hx hb dX4_numberOfDraft_18 ?_
  refine lv_aload_n hx hb dX4_numberOfDraft_19 rfl (lv_at hl 2 rfl) ?_
  refine k_get hM hE hX hR.1.1 hR.1.2.2 rfl 4 (by decide) inX4 k_102 (fun _ h => h) rfl dX4_numberOfDraft_20 ?_
  refine lv_iload_n hx hb dX4_numberOfDraft_23 rfl (lv_at hl 0 rfl) ?_
  refine k_goi (k_V (n := 1) (As := [.int 1]) (rest := [.int (0 * 10)]) hM hE hX hl (c_dChar l hR hI 1 1 rfl (by omega)) msb fsb rfl k_772 k_773 k_774 k_6 k_775 ⟨rfl, by decide, by decide, by decide +kernel⟩ (by decide) rfl rfl (Nat.le_of_ble_eq_true rfl) dX4_numberOfDraft_24 (by decide)) hE hX (fun r L1 F1 H locs hp hX => ?_)
  obtain ⟨rfl, rfl, rfl⟩ := hp
  refine lv_bipush (v := 48) hx hb dX4_numberOfDraft_27 (by decide) ?_
  refine lv_isub hx hb dX4_numberOfDraft_29 ?_
  refine lv_iadd hx hb dX4_numberOfDraft_30 ?_
  refine lv_istore_n (lv' := [(1, .int ((0 * 10) + ((M 23 1) - 48))), (2, .int 1), (0, .ref o)]) hx hb dX4_numberOfDraft_31 rfl hl (by decide) rfl (fun ls hl => ?_)
  refine lv_iinc (v := 2) (lv' := [(2, .int 2), (1, .int ((0 * 10) + ((M 23 1) - 48))), (0, .ref o)]) hx hb dX4_numberOfDraft_32 hl (k := 1) rfl (by decide) (by decide) rfl (fun ls hl => ?_)
  refine lv_goto (tgt := 4) hx hb dX4_numberOfDraft_35 (by decide) ?_
  refine lv_iload_n hx hb dX4_numberOfDraft_4 rfl (lv_at hl 0 rfl) ?_
  refine lv_aload_n hx hb dX4_numberOfDraft_5 rfl (lv_at hl 2 rfl) ?_
  refine k_get hM hE hX hR.1.1 hR.1.2.2 rfl 4 (by decide) inX4 k_102 (fun _ h => h) rfl dX4_numberOfDraft_6 ?_
  refine k_goi (k_V (n := 0) (As := []) (rest := [.int 2]) hM hE hX hl (by rw [show (2 : Int32) = nI (dd M) by rw [hdd]; rfl]; exact c_dLen l hR hI : kC l yJ4_length_8abf5 cJ4_length_8abf5 1 (some .int) (kRm 1 0 0) γ L F [.ref (ad 8 0 0)] (kI fun r L1 F1 => L = L1 ∧ F = F1 ∧ r = 2)) msb fsb rfl k_678 k_679 k_680 k_6 k_681 ⟨rfl, by decide, by decide, by decide +kernel⟩ (by decide) rfl rfl (Nat.le_of_ble_eq_true rfl) dX4_numberOfDraft_9 (by decide)) hE hX (fun r L1 F1 H locs hp hX => ?_)
  obtain ⟨rfl, rfl, rfl⟩ := hp
  refine lv_icmp_ge (tgt := 38) hx hb dX4_numberOfDraft_12 (by decide) (fun _ => ?_) (fun c_2 => absurd (show ¬ (2 : Int32) ≤ 2 from c_2) (by decide))
  refine lv_iload_n hx hb dX4_numberOfDraft_38 rfl (lv_at hl 1 rfl) ?_
  exact k_iret hM hsz hX ⟨_, rfl, rfl, rfl, rfl⟩ (by decide) (by decide) dX4_numberOfDraft_39
set_option maxHeartbeats 4000000 in
set_option maxRecDepth 100000 in
theorem c3_X4_numberOfDraft (l : Launch) (γ : kG) (L : List Nat) (F : kF) (o : Nat) (ad : cAd) (tg : cTg) (M : mM) (nd : Nat) (D : cD) (hR : RepC γ L F o ad tg M nd D) (hI : Inv M nd D) (hdd : dd M = 3) : kC l yX4_numberOfDraft cX4_numberOfDraft 3 (some .int) (kRm 4 0 0) γ L F [.ref o] (kI fun r L1 F1 => L = L1 ∧ F = F1 ∧ r = ((((0 * 10) + ((M 23 1) - 48)) * 10) + ((M 23 2) - 48))) := by
  refine kC_of (by decide +kernel) (Nat.le_of_ble_eq_true rfl) ?_
  intro p e s m args below meth c sz ls hargs hsz hM hin hE hX hl
  have hx := hM.1
  have hb := hM.2.1
  have hl : lv_has ls 3 [(0, .ref o)] := hl
  obtain ⟨ml, msb, fsb⟩ := sb_recv hR
  have hd2 := hI.2.2.2.1.2
  refine lv_iconst (v := 0) hx hb dX4_numberOfDraft_0 (by decide) ?_
  refine lv_istore_n (lv' := [(1, .int 0), (0, .ref o)]) hx hb dX4_numberOfDraft_1 rfl hl (by decide) rfl (fun ls hl => ?_)
  refine lv_iconst (v := 1) hx hb dX4_numberOfDraft_2 (by decide) ?_
  refine lv_istore_n (lv' := [(2, .int 1), (1, .int 0), (0, .ref o)]) hx hb dX4_numberOfDraft_3 rfl hl (by decide) rfl (fun ls hl => ?_)
  refine lv_iload_n hx hb dX4_numberOfDraft_4 rfl (lv_at hl 0 rfl) ?_
  refine lv_aload_n hx hb dX4_numberOfDraft_5 rfl (lv_at hl 2 rfl) ?_
  refine k_get hM hE hX hR.1.1 hR.1.2.2 rfl 4 (by decide) inX4 k_102 (fun _ h => h) rfl dX4_numberOfDraft_6 ?_
  refine k_goi (k_V (n := 0) (As := []) (rest := [.int 1]) hM hE hX hl (by rw [show (3 : Int32) = nI (dd M) by rw [hdd]; rfl]; exact c_dLen l hR hI : kC l yJ4_length_8abf5 cJ4_length_8abf5 1 (some .int) (kRm 1 0 0) γ L F [.ref (ad 8 0 0)] (kI fun r L1 F1 => L = L1 ∧ F = F1 ∧ r = 3)) msb fsb rfl k_678 k_679 k_680 k_6 k_681 ⟨rfl, by decide, by decide, by decide +kernel⟩ (by decide) rfl rfl (Nat.le_of_ble_eq_true rfl) dX4_numberOfDraft_9 (by decide)) hE hX (fun r L1 F1 H locs hp hX => ?_)
  obtain ⟨rfl, rfl, rfl⟩ := hp
  refine lv_icmp_ge (tgt := 38) hx hb dX4_numberOfDraft_12 (by decide) (fun c_1 => absurd (show (3 : Int32) ≤ 1 from c_1) (by decide)) (fun _ => ?_)
  refine lv_iload_n hx hb dX4_numberOfDraft_15 rfl (lv_at hl 1 rfl) ?_
  refine lv_bipush (v := 10) hx hb dX4_numberOfDraft_16 (by decide) ?_
  refine lv_imul hx hb dX4_numberOfDraft_18 ?_
  refine lv_aload_n hx hb dX4_numberOfDraft_19 rfl (lv_at hl 2 rfl) ?_
  refine k_get hM hE hX hR.1.1 hR.1.2.2 rfl 4 (by decide) inX4 k_102 (fun _ h => h) rfl dX4_numberOfDraft_20 ?_
  refine lv_iload_n hx hb dX4_numberOfDraft_23 rfl (lv_at hl 0 rfl) ?_
  refine k_goi (k_V (n := 1) (As := [.int 1]) (rest := [.int (0 * 10)]) hM hE hX hl (c_dChar l hR hI 1 1 rfl (by omega)) msb fsb rfl k_772 k_773 k_774 k_6 k_775 ⟨rfl, by decide, by decide, by decide +kernel⟩ (by decide) rfl rfl (Nat.le_of_ble_eq_true rfl) dX4_numberOfDraft_24 (by decide)) hE hX (fun r L1 F1 H locs hp hX => ?_)
  obtain ⟨rfl, rfl, rfl⟩ := hp
  refine lv_bipush (v := 48) hx hb dX4_numberOfDraft_27 (by decide) ?_
  refine lv_isub hx hb dX4_numberOfDraft_29 ?_
  refine lv_iadd hx hb dX4_numberOfDraft_30 ?_
  refine lv_istore_n (lv' := [(1, .int ((0 * 10) + ((M 23 1) - 48))), (2, .int 1), (0, .ref o)]) hx hb dX4_numberOfDraft_31 rfl hl (by decide) rfl (fun ls hl => ?_)
  refine lv_iinc (v := 2) (lv' := [(2, .int 2), (1, .int ((0 * 10) + ((M 23 1) - 48))), (0, .ref o)]) hx hb dX4_numberOfDraft_32 hl (k := 1) rfl (by decide) (by decide) rfl (fun ls hl => ?_)
  refine lv_goto (tgt := 4) hx hb dX4_numberOfDraft_35 (by decide) ?_
  refine lv_iload_n hx hb dX4_numberOfDraft_4 rfl (lv_at hl 0 rfl) ?_
  refine lv_aload_n hx hb dX4_numberOfDraft_5 rfl (lv_at hl 2 rfl) ?_
  refine k_get hM hE hX hR.1.1 hR.1.2.2 rfl 4 (by decide) inX4 k_102 (fun _ h => h) rfl dX4_numberOfDraft_6 ?_
  refine k_goi (k_V (n := 0) (As := []) (rest := [.int 2]) hM hE hX hl (by rw [show (3 : Int32) = nI (dd M) by rw [hdd]; rfl]; exact c_dLen l hR hI : kC l yJ4_length_8abf5 cJ4_length_8abf5 1 (some .int) (kRm 1 0 0) γ L F [.ref (ad 8 0 0)] (kI fun r L1 F1 => L = L1 ∧ F = F1 ∧ r = 3)) msb fsb rfl k_678 k_679 k_680 k_6 k_681 ⟨rfl, by decide, by decide, by decide +kernel⟩ (by decide) rfl rfl (Nat.le_of_ble_eq_true rfl) dX4_numberOfDraft_9 (by decide)) hE hX (fun r L1 F1 H locs hp hX => ?_)
  obtain ⟨rfl, rfl, rfl⟩ := hp
  refine lv_icmp_ge (tgt := 38) hx hb dX4_numberOfDraft_12 (by decide) (fun c_2 => absurd (show (3 : Int32) ≤ 2 from c_2) (by decide)) (fun _ => ?_)
  refine lv_iload_n hx hb dX4_numberOfDraft_15 rfl (lv_at hl 1 rfl) ?_
  refine lv_bipush (v := 10) hx hb dX4_numberOfDraft_16 (by decide) ?_
  refine lv_imul hx hb dX4_numberOfDraft_18 ?_
  refine lv_aload_n hx hb dX4_numberOfDraft_19 rfl (lv_at hl 2 rfl) ?_
  refine k_get hM hE hX hR.1.1 hR.1.2.2 rfl 4 (by decide) inX4 k_102 (fun _ h => h) rfl dX4_numberOfDraft_20 ?_
  refine lv_iload_n hx hb dX4_numberOfDraft_23 rfl (lv_at hl 0 rfl) ?_
  refine k_goi (k_V (n := 1) (As := [.int 2]) (rest := [.int (((0 * 10) + ((M 23 1) - 48)) * 10)]) hM hE hX hl (c_dChar l hR hI 2 2 rfl (by omega)) msb fsb rfl k_772 k_773 k_774 k_6 k_775 ⟨rfl, by decide, by decide, by decide +kernel⟩ (by decide) rfl rfl (Nat.le_of_ble_eq_true rfl) dX4_numberOfDraft_24 (by decide)) hE hX (fun r L1 F1 H locs hp hX => ?_)
  obtain ⟨rfl, rfl, rfl⟩ := hp
  refine lv_bipush (v := 48) hx hb dX4_numberOfDraft_27 (by decide) ?_
  refine lv_isub hx hb dX4_numberOfDraft_29 ?_
  refine lv_iadd hx hb dX4_numberOfDraft_30 ?_
  refine lv_istore_n (lv' := [(1, .int ((((0 * 10) + ((M 23 1) - 48)) * 10) + ((M 23 2) - 48))), (2, .int 2), (0, .ref o)]) hx hb dX4_numberOfDraft_31 rfl hl (by decide) rfl (fun ls hl => ?_)
  refine lv_iinc (v := 3) (lv' := [(2, .int 3), (1, .int ((((0 * 10) + ((M 23 1) - 48)) * 10) + ((M 23 2) - 48))), (0, .ref o)]) hx hb dX4_numberOfDraft_32 hl (k := 1) rfl (by decide) (by decide) rfl (fun ls hl => ?_)
  refine lv_goto (tgt := 4) hx hb dX4_numberOfDraft_35 (by decide) ?_
  refine lv_iload_n hx hb dX4_numberOfDraft_4 rfl (lv_at hl 0 rfl) ?_
  refine lv_aload_n hx hb dX4_numberOfDraft_5 rfl (lv_at hl 2 rfl) ?_
  refine k_get hM hE hX hR.1.1 hR.1.2.2 rfl 4 (by decide) inX4 k_102 (fun _ h => h) rfl dX4_numberOfDraft_6 ?_
  refine k_goi (k_V (n := 0) (As := []) (rest := [.int 3]) hM hE hX hl (by rw [show (3 : Int32) = nI (dd M) by rw [hdd]; rfl]; exact c_dLen l hR hI : kC l yJ4_length_8abf5 cJ4_length_8abf5 1 (some .int) (kRm 1 0 0) γ L F [.ref (ad 8 0 0)] (kI fun r L1 F1 => L = L1 ∧ F = F1 ∧ r = 3)) msb fsb rfl k_678 k_679 k_680 k_6 k_681 ⟨rfl, by decide, by decide, by decide +kernel⟩ (by decide) rfl rfl (Nat.le_of_ble_eq_true rfl) dX4_numberOfDraft_9 (by decide)) hE hX (fun r L1 F1 H locs hp hX => ?_)
  obtain ⟨rfl, rfl, rfl⟩ := hp
  refine lv_icmp_ge (tgt := 38) hx hb dX4_numberOfDraft_12 (by decide) (fun _ => ?_) (fun c_3 => absurd (show ¬ (3 : Int32) ≤ 3 from c_3) (by decide))
  refine lv_iload_n hx hb dX4_numberOfDraft_38 rfl (lv_at hl 1 rfl) ?_
  exact k_iret hM hsz hX ⟨_, rfl, rfl, rfl, rfl⟩ (by decide) (by decide) dX4_numberOfDraft_39
set_option maxHeartbeats 4000000 in
set_option maxRecDepth 100000 in
theorem c_X4_taxOfMonth (l : Launch) (γ : kG) (L : List Nat) (F : kF) (o : Nat) (ad : cAd) (tg : cTg) (M : mM) (nd : Nat) (D : cD) (hR : RepC γ L F o ad tg M nd D) (hI : Inv M nd D) (a b : Int32) : kC l yX4_taxOfMonth cX4_taxOfMonth 5 (some .int) (kRm 5 0 0) γ L F [.ref o, .int a, .int b] (kI fun r L1 F1 => L = L1 ∧ F = F1 ∧ r = taxIn M a b) := by
  refine kC_of (by decide +kernel) (Nat.le_of_ble_eq_true rfl) ?_
  intro p e s m args below meth c sz ls hargs hsz hM hin hE hX hl
  have hx := hM.1
  have hb := hM.2.1
  have hl : lv_has ls 5 [(0, .ref o), (1, .int a), (2, .int b)] := hl
  obtain ⟨mli, mci, ei, eli⟩ := Lst.recv hR.2.2.2.2.2.1
  obtain ⟨mlc, mcc, ec, elc⟩ := Lst.recv hR.2.2.2.2.2.2.1
  have hn2 := hI.1.2
  have hc2 := hI.2.2.1.2
  have hloop2 : ∀ (n j : Nat) (x : Int32), cc M < j + n → j ≤ cc M → x = l_fold (tin2 M a b) (l_fold (tin1 M a b) 0 (nn M)) j → ∀ (H : Heap) (locs : List Loc) (ls : Array Slot), kX γ (kA L sz) s L F H locs → lv_has ls 5 [(3, .int x), (4, .int (nI j)), (0, .ref o), (1, .int a), (2, .int b)] → W p l e (kRm 5 0 0) s m args below meth c H locs 0 0 (MQ below (kQ γ L sz (kI fun r L1 F1 => L = L1 ∧ F = F1 ∧ r = taxIn M a b)) args s (kRm 5 0 0).cells (kRm 5 0 0).slots (kA L sz)) (F0 m 46 ls []) := by
    intro n
    induction n with
    | zero => intro j x h1 h2; exact absurd h1 (by omega)
    | succ n ih =>
      intro j x h1 h2 hxj H locs ls hX hl
      refine lv_iload hx hb dX4_taxOfMonth_46 (lv_at hl 1 rfl) ?_
      refine lv_aload_n hx hb dX4_taxOfMonth_48 rfl (lv_at hl 2 rfl) ?_
      refine k_get hM hE hX hR.1.1 hR.1.2.2 rfl 1 (by decide) inX4 k_99 (fun _ h => h) rfl dX4_taxOfMonth_49 ?_
      refine k_goi (k_V (n := 0) (As := []) (rest := [.int (nI j)]) hM hE hX hl (c_size l hR.2.2.2.2.2.2.1) mlc elc rfl k_220 k_221 k_222 k_4 k_223 ⟨rfl, by decide, by decide, by decide +kernel⟩ (by decide) rfl rfl (Nat.le_of_ble_eq_true rfl) dX4_taxOfMonth_52 (by decide)) hE hX (fun r L1 F1 H locs hp hX => ?_)
      obtain ⟨rfl, rfl, rfl⟩ := hp
      refine lv_icmp_ge (tgt := 84) hx hb dX4_taxOfMonth_55 (by decide) (fun c_1 => ?_) (fun c_1 => ?_)
      · have ej : j = cc M := by
          have h9 := lp_out (a := j) (b := cc M) (by omega) (by omega) c_1
          omega
        refine lv_iload_n hx hb dX4_taxOfMonth_84 rfl (lv_at hl 0 rfl) ?_
        exact k_iret hM hsz hX ⟨_, rfl, rfl, rfl, by rw [hxj, ej]; rfl⟩ (by decide) (by decide) dX4_taxOfMonth_85
      · have hj : j < cc M := by
          have h9 := lp_in (a := j) (b := cc M) (by omega) (by omega) c_1
          omega
        refine lv_iload_n hx hb dX4_taxOfMonth_58 rfl (lv_at hl 0 rfl) ?_
        refine lv_aload_n hx hb dX4_taxOfMonth_59 rfl (lv_at hl 2 rfl) ?_
        refine k_get hM hE hX hR.1.1 hR.1.2.2 rfl 1 (by decide) inX4 k_99 (fun _ h => h) rfl dX4_taxOfMonth_60 ?_
        refine lv_iload hx hb dX4_taxOfMonth_63 (lv_at hl 1 rfl) ?_
        refine k_gor (k_V (n := 1) (As := [.int (nI j)]) (rest := [.int x]) hM hE hX hl (c_get l hR.2.2.2.2.2.2.1 j hj) mlc elc rfl k_224 k_225 k_226 k_4 k_227 ⟨rfl, by decide, by decide, by decide +kernel⟩ (by decide) rfl rfl (Nat.le_of_ble_eq_true rfl) dX4_taxOfMonth_65 (by decide)) hE hX (fun r L1 F1 H locs hp hX => ?_)
        obtain ⟨rfl, rfl, rfl⟩ := hp
        refine k_cast hM hE hX (hR.2.2.2.1 j hj).1 (hR.2.2.2.1 j hj).2.2 rfl k_459 dX4_taxOfMonth_68 ?_
        refine lv_iload_n hx hb dX4_taxOfMonth_71 rfl (lv_at hl 3 rfl) ?_
        refine lv_iload_n hx hb dX4_taxOfMonth_72 rfl (lv_at hl 4 rfl) ?_
        refine k_goi (k_V (n := 2) (As := [.int a, .int b]) (rest := [.int x]) hM hE hX hl (c_X0_taxFor l γ L F o ad tg M nd D hR hI j hj a b) (hR.2.2.2.1 j hj).1 (hR.2.2.2.1 j hj).2.2 rfl k_460 k_461 k_462 k_23 k_463 ⟨rfl, by decide, by decide, by decide +kernel⟩ (by decide) rfl rfl (Nat.le_of_ble_eq_true rfl) dX4_taxOfMonth_73 (by decide)) hE hX (fun r L1 F1 H locs hp hX => ?_)
        obtain ⟨rfl, rfl, rfl⟩ := hp
        refine lv_iadd hx hb dX4_taxOfMonth_76 ?_
        refine lv_istore_n (lv' := [(3, .int (x + (ctaxC M j a b))), (4, .int (nI j)), (0, .ref o), (1, .int a), (2, .int b)]) hx hb dX4_taxOfMonth_77 rfl hl (by decide) rfl (fun ls hl => ?_)
        refine lv_iinc (v := (nI (j + 1))) (lv' := [(4, .int (nI (j + 1))), (3, .int (x + (ctaxC M j a b))), (0, .ref o), (1, .int a), (2, .int b)]) hx hb dX4_taxOfMonth_78 hl (k := 1) rfl (nI_1 _) (by decide) rfl (fun ls hl => ?_)
        refine lv_goto (tgt := 46) hx hb dX4_taxOfMonth_81 (by decide) ?_
        exact ih (j + 1) _ (by omega) (by omega) (show (x + (ctaxC M j a b)) = l_fold (tin2 M a b) (l_fold (tin1 M a b) 0 (nn M)) (j + 1) from by rw [l_fold, ← hxj]; exact (tinC x (hI.2.2.2.2.2.1 _ (hI.2.2.2.2.1 j hj).2).2.2.2).symm) _ _ _ hX (lv_sub hl [1, 0, 2, 3, 4] rfl)
  have hloop1 : ∀ (n j : Nat) (x : Int32), nn M < j + n → j ≤ nn M → x = l_fold (tin1 M a b) 0 j → ∀ (H : Heap) (locs : List Loc) (ls : Array Slot), kX γ (kA L sz) s L F H locs → lv_has ls 5 [(3, .int x), (4, .int (nI j)), (0, .ref o), (1, .int a), (2, .int b)] → W p l e (kRm 5 0 0) s m args below meth c H locs 0 0 (MQ below (kQ γ L sz (kI fun r L1 F1 => L = L1 ∧ F = F1 ∧ r = taxIn M a b)) args s (kRm 5 0 0).cells (kRm 5 0 0).slots (kA L sz)) (F0 m 5 ls []) := by
    intro n
    induction n with
    | zero => intro j x h1 h2; exact absurd h1 (by omega)
    | succ n ih =>
      intro j x h1 h2 hxj H locs ls hX hl
      refine lv_iload hx hb dX4_taxOfMonth_5 (lv_at hl 1 rfl) ?_
      refine lv_aload_n hx hb dX4_taxOfMonth_7 rfl (lv_at hl 2 rfl) ?_
      refine k_get hM hE hX hR.1.1 hR.1.2.2 rfl 0 (by decide) inX4 k_98 (fun _ h => h) rfl dX4_taxOfMonth_8 ?_
      refine k_goi (k_V (n := 0) (As := []) (rest := [.int (nI j)]) hM hE hX hl (c_size l hR.2.2.2.2.2.1) mli eli rfl k_220 k_221 k_222 k_4 k_223 ⟨rfl, by decide, by decide, by decide +kernel⟩ (by decide) rfl rfl (Nat.le_of_ble_eq_true rfl) dX4_taxOfMonth_11 (by decide)) hE hX (fun r L1 F1 H locs hp hX => ?_)
      obtain ⟨rfl, rfl, rfl⟩ := hp
      refine lv_icmp_ge (tgt := 43) hx hb dX4_taxOfMonth_14 (by decide) (fun c_1 => ?_) (fun c_1 => ?_)
      · have ej : j = nn M := by
          have h9 := lp_out (a := j) (b := nn M) (by omega) (by omega) c_1
          omega
        refine lv_iconst (v := 0) hx hb dX4_taxOfMonth_43 (by decide) ?_
        refine lv_istore (lv' := [(4, .int 0), (3, .int x), (0, .ref o), (1, .int a), (2, .int b)]) hx hb dX4_taxOfMonth_44 hl (by decide) rfl (fun ls hl => ?_)
        exact hloop2 (cc M + 1) 0 _ (by omega) (Nat.zero_le _) (by rw [hxj, ej]; rfl) _ _ _ hX (lv_sub hl [1, 0, 2, 3, 4] rfl)
      · have hj : j < nn M := by
          have h9 := lp_in (a := j) (b := nn M) (by omega) (by omega) c_1
          omega
        refine lv_iload_n hx hb dX4_taxOfMonth_17 rfl (lv_at hl 0 rfl) ?_
        refine lv_aload_n hx hb dX4_taxOfMonth_18 rfl (lv_at hl 2 rfl) ?_
        refine k_get hM hE hX hR.1.1 hR.1.2.2 rfl 0 (by decide) inX4 k_98 (fun _ h => h) rfl dX4_taxOfMonth_19 ?_
        refine lv_iload hx hb dX4_taxOfMonth_22 (lv_at hl 1 rfl) ?_
        refine k_gor (k_V (n := 1) (As := [.int (nI j)]) (rest := [.int x]) hM hE hX hl (c_get l hR.2.2.2.2.2.1 j hj) mli eli rfl k_224 k_225 k_226 k_4 k_227 ⟨rfl, by decide, by decide, by decide +kernel⟩ (by decide) rfl rfl (Nat.le_of_ble_eq_true rfl) dX4_taxOfMonth_24 (by decide)) hE hX (fun r L1 F1 H locs hp hX => ?_)
        obtain ⟨rfl, rfl, rfl⟩ := hp
        refine k_cast hM hE hX (hR.2.1 j hj).1 (hR.2.1 j hj).2.2 rfl k_238 dX4_taxOfMonth_27 ?_
        refine lv_iload_n hx hb dX4_taxOfMonth_30 rfl (lv_at hl 3 rfl) ?_
        refine lv_iload_n hx hb dX4_taxOfMonth_31 rfl (lv_at hl 4 rfl) ?_
        refine k_goi (k_V (n := 2) (As := [.int a, .int b]) (rest := [.int x]) hM hE hX hl (c_X2_taxFor l γ L F o ad tg M nd D hR hI j hj a b) (hR.2.1 j hj).1 (hR.2.1 j hj).2.2 rfl k_446 k_447 k_448 k_18 k_449 ⟨rfl, by decide, by decide, by decide +kernel⟩ (by decide) rfl rfl (Nat.le_of_ble_eq_true rfl) dX4_taxOfMonth_32 (by decide)) hE hX (fun r L1 F1 H locs hp hX => ?_)
        obtain ⟨rfl, rfl, rfl⟩ := hp
        refine lv_iadd hx hb dX4_taxOfMonth_35 ?_
        refine lv_istore_n (lv' := [(3, .int (x + (ctaxI M j a b))), (4, .int (nI j)), (0, .ref o), (1, .int a), (2, .int b)]) hx hb dX4_taxOfMonth_36 rfl hl (by decide) rfl (fun ls hl => ?_)
        refine lv_iinc (v := (nI (j + 1))) (lv' := [(4, .int (nI (j + 1))), (3, .int (x + (ctaxI M j a b))), (0, .ref o), (1, .int a), (2, .int b)]) hx hb dX4_taxOfMonth_37 hl (k := 1) rfl (nI_1 _) (by decide) rfl (fun ls hl => ?_)
        refine lv_goto (tgt := 5) hx hb dX4_taxOfMonth_40 (by decide) ?_
        exact ih (j + 1) _ (by omega) (by omega) (show (x + (ctaxI M j a b)) = l_fold (tin1 M a b) 0 (j + 1) from by rw [l_fold, ← hxj]; exact (tinI x (hI.2.2.2.2.2.1 j hj).2.2.2).symm) _ _ _ hX (lv_sub hl [1, 0, 2, 3, 4] rfl)
  refine lv_iconst (v := 0) hx hb dX4_taxOfMonth_0 (by decide) ?_
  refine lv_istore_n (lv' := [(3, .int 0), (0, .ref o), (1, .int a), (2, .int b)]) hx hb dX4_taxOfMonth_1 rfl hl (by decide) rfl (fun ls hl => ?_)
  refine lv_iconst (v := 0) hx hb dX4_taxOfMonth_2 (by decide) ?_
  refine lv_istore (lv' := [(4, .int 0), (3, .int 0), (0, .ref o), (1, .int a), (2, .int b)]) hx hb dX4_taxOfMonth_3 hl (by decide) rfl (fun ls hl => ?_)
  exact hloop1 (nn M + 1) 0 _ (by omega) (Nat.zero_le _) rfl _ _ _ hX (lv_sub hl [1, 0, 2, 3, 4] rfl)
set_option maxHeartbeats 4000000 in
set_option maxRecDepth 100000 in
theorem c_X4_taxWithCarried (l : Launch) (γ : kG) (L : List Nat) (F : kF) (o : Nat) (ad : cAd) (tg : cTg) (M : mM) (nd : Nat) (D : cD) (hR : RepC γ L F o ad tg M nd D) (hI : Inv M nd D) (a b : Int32) (t : Nat) (hb2 : b = nI t) (ht : t < 1000000) : kC l yX4_taxWithCarried cX4_taxWithCarried 5 (some .int) (kRm 6 0 0) γ L F [.ref o, .int a, .int b] (kI fun r L1 F1 => L = L1 ∧ F = F1 ∧ r = taxTo M a t) := by
  subst hb2
  refine kC_of (by decide +kernel) (Nat.le_of_ble_eq_true rfl) ?_
  intro p e s m args below meth c sz ls hargs hsz hM hin hE hX hl
  have hx := hM.1
  have hb := hM.2.1
  have hl : lv_has ls 5 [(0, .ref o), (1, .int a), (2, .int (nI t))] := hl
  have hloop : ∀ (n j : Nat) (x : Int32), t + 1 < j + n → j ≤ t + 1 → x = l_fold (taxTo_st M a t) 0 j → ∀ (H : Heap) (locs : List Loc) (ls : Array Slot), kX γ (kA L sz) s L F H locs → lv_has ls 5 [(3, .int x), (4, .int (nI j)), (0, .ref o), (1, .int a), (2, .int (nI t))] → W p l e (kRm 6 0 0) s m args below meth c H locs 0 0 (MQ below (kQ γ L sz (kI fun r L1 F1 => L = L1 ∧ F = F1 ∧ r = taxTo M a t)) args s (kRm 6 0 0).cells (kRm 6 0 0).slots (kA L sz)) (F0 m 5 ls []) := by
    intro n
    induction n with
    | zero => intro j x h1 h2; exact absurd h1 (by omega)
    | succ n ih =>
      intro j x h1 h2 hxj H locs ls hX hl
      refine lv_iload hx hb dX4_taxWithCarried_5 (lv_at hl 1 rfl) ?_
      refine lv_iload_n hx hb dX4_taxWithCarried_7 rfl (lv_at hl 4 rfl) ?_
      refine lv_icmp_gt (tgt := 31) hx hb dX4_taxWithCarried_8 (by decide) (fun c_1 => ?_) (fun c_1 => ?_)
      · have ej : j = t + 1 := by
          have h9 := (nI_ltI (a := t) (b := j) (by omega) (by omega)).mp c_1
          omega
        refine lv_iload_n hx hb dX4_taxWithCarried_31 rfl (lv_at hl 0 rfl) ?_
        exact k_iret hM hsz hX ⟨_, rfl, rfl, rfl, by rw [hxj, ej]; rfl⟩ (by decide) (by decide) dX4_taxWithCarried_32
      · have hj : j < t + 1 := by
          have h9 : ¬ t < j := fun q => absurd (nI_lt (a := t) (b := j) q (by omega)) c_1
          omega
        refine lv_iload_n hx hb dX4_taxWithCarried_11 rfl (lv_at hl 0 rfl) ?_
        refine lv_iconst (v := 0) hx hb dX4_taxWithCarried_12 (by decide) ?_
        refine k_min hM hl k_441 k_358 k_15 k_359 ⟨by decide, Nat.le_of_ble_eq_true rfl⟩ (by decide) dX4_taxWithCarried_13 ?_
        refine lv_aload_n hx hb dX4_taxWithCarried_16 rfl (lv_at hl 2 rfl) ?_
        refine lv_iload_n hx hb dX4_taxWithCarried_17 rfl (lv_at hl 3 rfl) ?_
        refine lv_iload hx hb dX4_taxWithCarried_18 (lv_at hl 1 rfl) ?_
        refine k_goi (k_V (n := 2) (As := [.int a, .int (nI j)]) (rest := [.int (if 0 < x then 0 else x)]) hM hE hX hl (c_X4_taxOfMonth l γ L F o ad tg M nd D hR hI a (nI j)) hR.1.1 hR.1.2.2 rfl k_442 k_444 kp_16 k_1 k_445 ⟨rfl, by decide, by decide, by decide +kernel⟩ (by decide) rfl rfl (Nat.le_of_ble_eq_true rfl) dX4_taxWithCarried_20 (by decide)) hE hX (fun r L1 F1 H locs hp hX => ?_)
        obtain ⟨rfl, rfl, rfl⟩ := hp
        refine lv_iadd hx hb dX4_taxWithCarried_23 ?_
        refine lv_istore_n (lv' := [(3, .int ((if 0 < x then 0 else x) + (taxIn M a (nI j)))), (4, .int (nI j)), (0, .ref o), (1, .int a), (2, .int (nI t))]) hx hb dX4_taxWithCarried_24 rfl hl (by decide) rfl (fun ls hl => ?_)
        refine lv_iinc (v := (nI (j + 1))) (lv' := [(4, .int (nI (j + 1))), (3, .int ((if 0 < x then 0 else x) + (taxIn M a (nI j)))), (0, .ref o), (1, .int a), (2, .int (nI t))]) hx hb dX4_taxWithCarried_25 hl (k := 1) rfl (nI_1 _) (by decide) rfl (fun ls hl => ?_)
        refine lv_goto (tgt := 5) hx hb dX4_taxWithCarried_28 (by decide) ?_
        exact ih (j + 1) _ (by omega) (by omega) (show ((if 0 < x then 0 else x) + (taxIn M a (nI j))) = l_fold (taxTo_st M a t) 0 (j + 1) from by rw [l_fold, ← hxj]; exact (cmin0 x (taxIn M a (nI j))).symm) _ _ _ hX (lv_sub hl [1, 0, 2, 3, 4] rfl)
  refine lv_iconst (v := 0) hx hb dX4_taxWithCarried_0 (by decide) ?_
  refine lv_istore_n (lv' := [(3, .int 0), (0, .ref o), (1, .int a), (2, .int (nI t))]) hx hb dX4_taxWithCarried_1 rfl hl (by decide) rfl (fun ls hl => ?_)
  refine lv_iconst (v := 0) hx hb dX4_taxWithCarried_2 (by decide) ?_
  refine lv_istore (lv' := [(4, .int 0), (3, .int 0), (0, .ref o), (1, .int a), (2, .int (nI t))]) hx hb dX4_taxWithCarried_3 hl (by decide) rfl (fun ls hl => ?_)
  exact hloop (t + 2) 0 _ (by omega) (Nat.zero_le _) rfl _ _ _ hX (lv_sub hl [1, 0, 2, 3, 4] rfl)
set_option maxHeartbeats 4000000 in
set_option maxRecDepth 100000 in
theorem c_X4_greatestTaxAhead (l : Launch) (γ : kG) (L : List Nat) (F : kF) (o : Nat) (ad : cAd) (tg : cTg) (M : mM) (nd : Nat) (D : cD) (hR : RepC γ L F o ad tg M nd D) (hI : Inv M nd D) (t : Nat) (ht : t < nn M) : kC l yX4_greatestTaxAhead cX4_greatestTaxAhead 6 (some .int) (kRm 4 0 0) γ L F [.ref o, .int (nI t), .ref (ad 1 t 0)] (kI fun r L1 F1 => L = L1 ∧ F = F1 ∧ r = l_fold (chI M (M 5 t) t) 0 t) := by
  refine kC_of (by decide +kernel) (Nat.le_of_ble_eq_true rfl) ?_
  intro p e s m args below meth c sz ls hargs hsz hM hin hE hX hl
  have hx := hM.1
  have hb := hM.2.1
  have hl : lv_has ls 6 [(0, .ref o), (1, .int (nI t)), (2, .ref (ad 1 t 0))] := hl
  obtain ⟨mli, mci, ei, eli⟩ := Lst.recv hR.2.2.2.2.2.1
  have hn2 := hI.1.2
  have hloop : ∀ (n j : Nat) (x : Int32), t < j + n → j ≤ t → x = l_fold (chI M (M 5 t) t) 0 j → ∀ (H : Heap) (locs : List Loc) (ls : Array Slot), kX γ (kA L sz) s L F H locs → lv_has ls 6 [(3, .int x), (4, .int (nI j)), (0, .ref o), (1, .int (nI t)), (2, .ref (ad 1 t 0))] → W p l e (kRm 4 0 0) s m args below meth c H locs 0 0 (MQ below (kQ γ L sz (kI fun r L1 F1 => L = L1 ∧ F = F1 ∧ r = l_fold (chI M (M 5 t) t) 0 t)) args s (kRm 4 0 0).cells (kRm 4 0 0).slots (kA L sz)) (F0 m 5 ls []) := by
    intro n
    induction n with
    | zero => intro j x h1 h2; exact absurd h1 (by omega)
    | succ n ih =>
      intro j x h1 h2 hxj H locs ls hX hl
      refine lv_iload hx hb dX4_greatestTaxAhead_5 (lv_at hl 1 rfl) ?_
      refine lv_iload_n hx hb dX4_greatestTaxAhead_7 rfl (lv_at hl 3 rfl) ?_
      refine lv_icmp_ge (tgt := 77) hx hb dX4_greatestTaxAhead_8 (by decide) (fun c_1 => ?_) (fun c_1 => ?_)
      · have ej : j = t := by
          have h9 := lp_out (a := j) (b := t) (by omega) (by omega) c_1
          omega
        refine lv_iload_n hx hb dX4_greatestTaxAhead_77 rfl (lv_at hl 0 rfl) ?_
        exact k_iret hM hsz hX ⟨_, rfl, rfl, rfl, by rw [hxj, ej]⟩ (by decide) (by decide) dX4_greatestTaxAhead_78
      · have hj : j < t := by
          have h9 := lp_in (a := j) (b := t) (by omega) (by omega) c_1
          omega
        refine lv_iload hx hb dX4_greatestTaxAhead_11 (lv_at hl 1 rfl) ?_
        refine lv_aload_n hx hb dX4_greatestTaxAhead_13 rfl (lv_at hl 2 rfl) ?_
        refine k_get hM hE hX hR.1.1 hR.1.2.2 rfl 0 (by decide) inX4 k_98 (fun _ h => h) rfl dX4_greatestTaxAhead_14 ?_
        refine k_goi (k_V (n := 0) (As := []) (rest := [.int (nI j)]) hM hE hX hl (c_size l hR.2.2.2.2.2.1) mli eli rfl k_220 k_221 k_222 k_4 k_223 ⟨rfl, by decide, by decide, by decide +kernel⟩ (by decide) rfl rfl (Nat.le_of_ble_eq_true rfl) dX4_greatestTaxAhead_17 (by decide)) hE hX (fun r L1 F1 H locs hp hX => ?_)
        obtain ⟨rfl, rfl, rfl⟩ := hp
        refine lv_icmp_ge (tgt := 77) hx hb dX4_greatestTaxAhead_20 (by decide) (fun c_2 => absurd c_2 (nI_ge (a := j) (b := nn M) (by omega) (by omega))) (fun _ => ?_)
        refine lv_aload_n hx hb dX4_greatestTaxAhead_23 rfl (lv_at hl 2 rfl) ?_
        refine k_get hM hE hX hR.1.1 hR.1.2.2 rfl 0 (by decide) inX4 k_98 (fun _ h => h) rfl dX4_greatestTaxAhead_24 ?_
        refine lv_iload hx hb dX4_greatestTaxAhead_27 (lv_at hl 1 rfl) ?_
        refine k_gor (k_V (n := 1) (As := [.int (nI j)]) (rest := []) hM hE hX hl (c_get l hR.2.2.2.2.2.1 j (by omega)) mli eli rfl k_224 k_225 k_226 k_4 k_227 ⟨rfl, by decide, by decide, by decide +kernel⟩ (by decide) rfl rfl (Nat.le_of_ble_eq_true rfl) dX4_greatestTaxAhead_29 (by decide)) hE hX (fun r L1 F1 H locs hp hX => ?_)
        obtain ⟨rfl, rfl, rfl⟩ := hp
        refine k_cast hM hE hX (hR.2.1 j (by omega)).1 (hR.2.1 j (by omega)).2.2 rfl k_238 dX4_greatestTaxAhead_32 ?_
        refine lv_astore (lv' := [(5, .ref (ad 1 j 0)), (3, .int x), (4, .int (nI j)), (0, .ref o), (1, .int (nI t)), (2, .ref (ad 1 t 0))]) hx hb dX4_greatestTaxAhead_35 hl (by decide) rfl (fun ls hl => ?_)
        refine lv_aload hx hb dX4_greatestTaxAhead_37 (lv_at hl 0 rfl) ?_
        refine lv_aload_n hx hb dX4_greatestTaxAhead_39 rfl (lv_at hl 5 rfl) ?_
        refine k_get hM hE hX (hR.2.1 t ht).1 (hR.2.1 t ht).2.2 rfl 2 (by decide) inX2 k_525 (fun _ h => h) rfl dX4_greatestTaxAhead_40 ?_
        refine k_goi (k_V (n := 1) (As := [.int (M 5 t)]) (rest := []) hM hE hX hl (c_X2_isAcceptedOf l γ L F o ad tg M nd D hR hI j (by omega) (M 5 t)) (hR.2.1 j (by omega)).1 (hR.2.1 j (by omega)).2.2 rfl k_478 k_479 k_480 k_18 k_481 ⟨rfl, by decide, by decide, by decide +kernel⟩ (by decide) rfl rfl (Nat.le_of_ble_eq_true rfl) dX4_greatestTaxAhead_43 (by decide)) hE hX (fun r L1 F1 H locs hp hX => ?_)
        obtain ⟨rfl, rfl, ⟨rfl, h_3⟩ | ⟨rfl, h_3⟩⟩ := hp
        · refine lv_if_eq (tgt := 71) hx hb dX4_greatestTaxAhead_46 (by decide) (fun c_4 => absurd (show (1 : Int32) = 0 from c_4) (by decide)) (fun _ => ?_)
          refine lv_aload hx hb dX4_greatestTaxAhead_49 (lv_at hl 0 rfl) ?_
          refine k_get hM hE hX (hR.2.1 j (by omega)).1 (hR.2.1 j (by omega)).2.2 rfl 1 (by decide) inX2 k_523 (fun _ h => h) rfl dX4_greatestTaxAhead_51 ?_
          refine lv_aload_n hx hb dX4_greatestTaxAhead_54 rfl (lv_at hl 5 rfl) ?_
          refine k_get hM hE hX (hR.2.1 t ht).1 (hR.2.1 t ht).2.2 rfl 0 (by decide) inX2 k_520 (fun _ h => h) rfl dX4_greatestTaxAhead_55 ?_
          refine lv_icmp_ne (tgt := 71) hx hb dX4_greatestTaxAhead_58 (by decide) (fun c_5 => ?_) (fun c_5 => ?_)
          · refine lv_iinc (v := (nI (j + 1))) (lv' := [(4, .int (nI (j + 1))), (5, .ref (ad 1 j 0)), (3, .int x), (0, .ref o), (1, .int (nI t)), (2, .ref (ad 1 t 0))]) hx hb dX4_greatestTaxAhead_71 hl (k := 2) rfl (nI_1 _) (by decide) rfl (fun ls hl => ?_)
            refine lv_goto (tgt := 5) hx hb dX4_greatestTaxAhead_74 (by decide) ?_
            exact ih (j + 1) _ (by omega) (by omega) (show x = l_fold (chI M (M 5 t) t) 0 (j + 1) from by rw [l_fold, ← hxj]; exact (chI_n2 h_3 c_5)) _ _ _ hX (lv_sub hl [2, 0, 3, 4, 5] rfl)
          · refine lv_iload_n hx hb dX4_greatestTaxAhead_61 rfl (lv_at hl 1 rfl) ?_
            refine lv_aload hx hb dX4_greatestTaxAhead_62 (lv_at hl 0 rfl) ?_
            refine k_goi (k_V (n := 0) (As := []) (rest := [.int x]) hM hE hX hl (c_X2_taxNow l γ L F o ad tg M nd D hR hI j (by omega)) (hR.2.1 j (by omega)).1 (hR.2.1 j (by omega)).2.2 rfl k_395 k_396 k_397 k_18 k_398 ⟨rfl, by decide, by decide, by decide +kernel⟩ (by decide) rfl rfl (Nat.le_of_ble_eq_true rfl) dX4_greatestTaxAhead_64 (by decide)) hE hX (fun r L1 F1 H locs hp hX => ?_)
            obtain ⟨rfl, rfl, rfl⟩ := hp
            refine k_max hM hl k_464 k_258 k_15 k_259 ⟨by decide, Nat.le_of_ble_eq_true rfl⟩ (by decide) dX4_greatestTaxAhead_67 ?_
            refine lv_istore_n (lv' := [(3, .int (if x < (taxAll M j 0) then (taxAll M j 0) else x)), (5, .ref (ad 1 j 0)), (4, .int (nI j)), (0, .ref o), (1, .int (nI t)), (2, .ref (ad 1 t 0))]) hx hb dX4_greatestTaxAhead_70 rfl hl (by decide) rfl (fun ls hl => ?_)
            refine lv_iinc (v := (nI (j + 1))) (lv' := [(4, .int (nI (j + 1))), (3, .int (if x < (taxAll M j 0) then (taxAll M j 0) else x)), (5, .ref (ad 1 j 0)), (0, .ref o), (1, .int (nI t)), (2, .ref (ad 1 t 0))]) hx hb dX4_greatestTaxAhead_71 hl (k := 2) rfl (nI_1 _) (by decide) rfl (fun ls hl => ?_)
            refine lv_goto (tgt := 5) hx hb dX4_greatestTaxAhead_74 (by decide) ?_
            exact ih (j + 1) _ (by omega) (by omega) (show (if x < (taxAll M j 0) then (taxAll M j 0) else x) = l_fold (chI M (M 5 t) t) 0 (j + 1) from by rw [l_fold, ← hxj]; exact (chI_p h_3 c_5)) _ _ _ hX (lv_sub hl [1, 0, 3, 4, 5] rfl)
        · refine lv_if_eq (tgt := 71) hx hb dX4_greatestTaxAhead_46 (by decide) (fun _ => ?_) (fun c_6 => absurd (show ¬ (0 : Int32) = 0 from c_6) (by decide))
          refine lv_iinc (v := (nI (j + 1))) (lv' := [(4, .int (nI (j + 1))), (5, .ref (ad 1 j 0)), (3, .int x), (0, .ref o), (1, .int (nI t)), (2, .ref (ad 1 t 0))]) hx hb dX4_greatestTaxAhead_71 hl (k := 2) rfl (nI_1 _) (by decide) rfl (fun ls hl => ?_)
          refine lv_goto (tgt := 5) hx hb dX4_greatestTaxAhead_74 (by decide) ?_
          exact ih (j + 1) _ (by omega) (by omega) (show x = l_fold (chI M (M 5 t) t) 0 (j + 1) from by rw [l_fold, ← hxj]; exact (chI_n1 h_3)) _ _ _ hX (lv_sub hl [2, 0, 3, 4, 5] rfl)
  refine lv_iconst (v := 0) hx hb dX4_greatestTaxAhead_0 (by decide) ?_
  refine lv_istore_n (lv' := [(3, .int 0), (0, .ref o), (1, .int (nI t)), (2, .ref (ad 1 t 0))]) hx hb dX4_greatestTaxAhead_1 rfl hl (by decide) rfl (fun ls hl => ?_)
  refine lv_iconst (v := 0) hx hb dX4_greatestTaxAhead_2 (by decide) ?_
  refine lv_istore (lv' := [(4, .int 0), (3, .int 0), (0, .ref o), (1, .int (nI t)), (2, .ref (ad 1 t 0))]) hx hb dX4_greatestTaxAhead_3 hl (by decide) rfl (fun ls hl => ?_)
  exact hloop (t + 1) 0 _ (by omega) (Nat.zero_le _) rfl _ _ _ hX (lv_sub hl [1, 0, 2, 3, 4] rfl)
