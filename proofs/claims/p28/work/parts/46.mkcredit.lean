set_option maxHeartbeats 4000000 in
set_option maxRecDepth 100000 in
theorem c_X4_makeCredit (l : Launch) (γ : kG) (L : List Nat) (F : kF) (o : Nat) (ad : cAd) (tg : cTg) (M : mM) (nd : Nat) (D : cD) (hR : RepC γ L F o ad tg M nd D) (hI : Inv M nd D) (i j : Nat) (hi : i < nn M) (hj : j < kk M i) (x : Int32) (hc2 : cc M < 24) : kC l yX4_makeCredit cX4_makeCredit 5 none (kRm 6 2 1003) γ L F [.ref o, .ref (ad 1 i 0), .ref (ad 2 i j), .int x] (kU fun L1 F1 => (∀ b ∈ L, b ∈ L1) ∧ ∃ (q : Nat) (tg1 : cTg), RepC γ L1 F1 o (adD ad 3 (cc M) q) tg1 (lessM M i j x) nd D) := by
  refine kC_of (by decide +kernel) (Nat.le_of_ble_eq_true rfl) ?_
  intro p e s m args below meth c sz ls hargs hsz hM hin hE hX hl
  have hx := hM.1
  have hb := hM.2.1
  have hl : lv_has ls 5 [(0, .ref o), (1, .ref (ad 1 i 0)), (2, .ref (ad 2 i j)), (3, .int x)] := hl
  have fo : F o = .inr (9, [.ref (ad 5 0 0), .ref (ad 5 1 0), .ref (ad 5 2 0), .ref (ad 7 0 0), .ref (ad 8 0 0), .int (M 0 0)]) := hR.1.2.2
  have fi : F (ad 1 i 0) = .inr (7, [.int (M 3 i), .int (M 4 i), .int (M 5 i), .int (M 7 i), .ref (ad 5 (3 + i) 0), .int (M 6 i), .int (aDay M i), .int (hasC M (nI i)), .int (M 12 i), .int (M 9 i), .int (M 10 i), .int (M 11 i)]) := (hR.2.1 i hi).2.2
  have fl : F (ad 2 i j) = .inr (8, [.int (M 15 (3 * i + j)), .int (M 16 (3 * i + j)), .int (M 14 (3 * i + j)), .int (M 17 (3 * i + j))]) := (hR.2.2.1 i hi j hj).2.2
  refine lv_aload_n hx hb dX4_makeCredit_0 rfl (lv_at hl 2 rfl) ?_
  refine k_goi (k_V (n := 0) (As := []) (rest := []) hM hE hX hl (cq_X3_taxNow l γ L F (ad 2 i j) _ _ _ _ (hR.2.2.1 i hi j hj).1 fl) (hR.2.2.1 i hi j hj).1 fl rfl k_411 k_251 k_252 k_19 k_253 ⟨rfl, by decide, by decide, by decide +kernel⟩ (by decide) rfl rfl (Nat.le_of_ble_eq_true rfl) dX4_makeCredit_1 (by decide)) hE hX (fun r L1 F1 H locs hp hX => ?_)
  obtain ⟨rfl, rfl, rfl⟩ := hp
  refine lv_istore (lv' := [(4, .int (tx (M 14 (3 * i + j)) (M 16 (3 * i + j)))), (0, .ref o), (1, .ref (ad 1 i 0)), (2, .ref (ad 2 i j)), (3, .int x)]) hx hb dX4_makeCredit_4 hl (by decide) rfl (fun ls hl => ?_)
  refine lv_aload_n hx hb dX4_makeCredit_6 rfl (lv_at hl 3 rfl) ?_
  refine lv_dup hx hb dX4_makeCredit_7 rfl ?_
  refine k_get hM hE hX (hR.2.2.1 i hi j hj).1 fl rfl 2 (by decide) inX3 k_580 (fun _ h => h) rfl dX4_makeCredit_8 ?_
  refine lv_iload_n hx hb dX4_makeCredit_11 rfl (lv_at hl 4 rfl) ?_
  refine lv_isub hx hb dX4_makeCredit_12 ?_
  refine k_put hM hE hX (hR.2.2.1 i hi j hj).1 fl rfl 2 (by decide) inX3 tyX3 tyX3_ok nmX3 k_580 (fun _ h => h) (Or.inl rfl) rfl rfl (Nat.le_of_ble_eq_true rfl) dX4_makeCredit_13 (fun H locs hX => ?_)
  obtain ⟨F1, hX, eF1⟩ : ∃ F9 : kF, kX γ _ s _ F9 H locs ∧ F9 = va_up F (ad 2 i j) (.inr (8, [.int (M 15 (3 * i + j)), .int (M 16 (3 * i + j)), .int ((M 14 (3 * i + j)) - x), .int (M 17 (3 * i + j))])) := ⟨_, hX, rfl⟩
  have f1_o : F1 o = .inr (9, [.ref (ad 5 0 0), .ref (ad 5 1 0), .ref (ad 5 2 0), .ref (ad 7 0 0), .ref (ad 8 0 0), .int (M 0 0)]) := by rw [eF1, va_up_ne _ _ (fun h9 => by have h8 := fo; rw [h9, fl] at h8; cases h8)]; exact fo
  have f1__ad_1_i_0_ : F1 (ad 1 i 0) = .inr (7, [.int (M 3 i), .int (M 4 i), .int (M 5 i), .int (M 7 i), .ref (ad 5 (3 + i) 0), .int (M 6 i), .int (aDay M i), .int (hasC M (nI i)), .int (M 12 i), .int (M 9 i), .int (M 10 i), .int (M 11 i)]) := by rw [eF1, va_up_ne _ _ (fun h9 => by have h8 := fi; rw [h9, fl] at h8; cases h8)]; exact fi
  have f1__ad_2_i_j_ : F1 (ad 2 i j) = .inr (8, [.int (M 15 (3 * i + j)), .int (M 16 (3 * i + j)), .int ((M 14 (3 * i + j)) - x), .int (M 17 (3 * i + j))]) := by rw [eF1]; exact va_up_self _ _ _
  refine lv_aload_n hx hb dX4_makeCredit_16 rfl (lv_at hl 2 rfl) ?_
  refine lv_iconst (v := 1) hx hb dX4_makeCredit_17 (by decide) ?_
  refine k_put hM hE hX (hR.2.1 i hi).1 f1__ad_1_i_0_ rfl 7 (by decide) inX2 tyX2 tyX2_ok nmX2 k_536 (fun _ h => h) (Or.inl rfl) rfl rfl (Nat.le_of_ble_eq_true rfl) dX4_makeCredit_18 (fun H locs hX => ?_)
  obtain ⟨F2, hX, eF2⟩ : ∃ F9 : kF, kX γ _ s _ F9 H locs ∧ F9 = va_up F1 (ad 1 i 0) (.inr (7, [.int (M 3 i), .int (M 4 i), .int (M 5 i), .int (M 7 i), .ref (ad 5 (3 + i) 0), .int (M 6 i), .int (aDay M i), .int 1, .int (M 12 i), .int (M 9 i), .int (M 10 i), .int (M 11 i)])) := ⟨_, hX, rfl⟩
  have f2_o : F2 o = .inr (9, [.ref (ad 5 0 0), .ref (ad 5 1 0), .ref (ad 5 2 0), .ref (ad 7 0 0), .ref (ad 8 0 0), .int (M 0 0)]) := by rw [eF2, va_up_ne _ _ (fun h9 => by have h8 := f1_o; rw [h9, f1__ad_1_i_0_] at h8; cases h8)]; exact f1_o
  have f2__ad_1_i_0_ : F2 (ad 1 i 0) = .inr (7, [.int (M 3 i), .int (M 4 i), .int (M 5 i), .int (M 7 i), .ref (ad 5 (3 + i) 0), .int (M 6 i), .int (aDay M i), .int 1, .int (M 12 i), .int (M 9 i), .int (M 10 i), .int (M 11 i)]) := by rw [eF2]; exact va_up_self _ _ _
  have f2__ad_2_i_j_ : F2 (ad 2 i j) = .inr (8, [.int (M 15 (3 * i + j)), .int (M 16 (3 * i + j)), .int ((M 14 (3 * i + j)) - x), .int (M 17 (3 * i + j))]) := by rw [eF2, va_up_ne _ _ (fun h9 => by have h8 := f1__ad_2_i_j_; rw [h9, f1__ad_1_i_0_] at h8; cases h8)]; exact f1__ad_2_i_j_
  refine lv_aload_n hx hb dX4_makeCredit_21 rfl (lv_at hl 1 rfl) ?_
  refine k_get hM hE hX hR.1.1 f2_o rfl 1 (by decide) inX4 k_99 (fun _ h => h) rfl dX4_makeCredit_22 ?_
  refine k_new (ci := 5) (fs := [.null, .int 0, .int 0]) hM hE hX rfl inX0 tyX0 tyX0_ok k_459 k_628 k_23 dfX0 (by decide) (by decide) dX4_makeCredit_25 (fun q H hq hX => ?_)
  obtain ⟨L3, F3, hX, eL3, eF3⟩ : ∃ (L9 : List Nat) (F9 : kF), kX γ _ s L9 F9 H _ ∧ L9 = L ++ [q] ∧ F9 = va_up F2 q (.inr (5, [.null, .int 0, .int 0])) := ⟨_, _, hX, rfl, rfl⟩
  have f3_o : F3 o = .inr (9, [.ref (ad 5 0 0), .ref (ad 5 1 0), .ref (ad 5 2 0), .ref (ad 7 0 0), .ref (ad 8 0 0), .int (M 0 0)]) := by rw [eF3, va_up_ne _ _ (show o ≠ q from fun h9 => hq (h9 ▸ hR.1.1))]; exact f2_o
  have m3_o : o ∈ L3 := by rw [eL3]; exact List.mem_append_left _ hR.1.1
  have f3__ad_1_i_0_ : F3 (ad 1 i 0) = .inr (7, [.int (M 3 i), .int (M 4 i), .int (M 5 i), .int (M 7 i), .ref (ad 5 (3 + i) 0), .int (M 6 i), .int (aDay M i), .int 1, .int (M 12 i), .int (M 9 i), .int (M 10 i), .int (M 11 i)]) := by rw [eF3, va_up_ne _ _ (show (ad 1 i 0) ≠ q from fun h9 => hq (h9 ▸ (hR.2.1 i hi).1))]; exact f2__ad_1_i_0_
  have m3__ad_1_i_0_ : (ad 1 i 0) ∈ L3 := by rw [eL3]; exact List.mem_append_left _ (hR.2.1 i hi).1
  have f3__ad_2_i_j_ : F3 (ad 2 i j) = .inr (8, [.int (M 15 (3 * i + j)), .int (M 16 (3 * i + j)), .int ((M 14 (3 * i + j)) - x), .int (M 17 (3 * i + j))]) := by rw [eF3, va_up_ne _ _ (show (ad 2 i j) ≠ q from fun h9 => hq (h9 ▸ (hR.2.2.1 i hi j hj).1))]; exact f2__ad_2_i_j_
  have m3__ad_2_i_j_ : (ad 2 i j) ∈ L3 := by rw [eL3]; exact List.mem_append_left _ (hR.2.2.1 i hi j hj).1
  have f3_q : F3 q = .inr (5, [.null, .int 0, .int 0]) := by rw [eF3]; exact va_up_self _ _ _
  have m3_q : q ∈ L3 := by rw [eL3]; simp
  refine lv_dup hx hb dX4_makeCredit_28 rfl ?_
  refine lv_aload_n hx hb dX4_makeCredit_29 rfl (lv_at hl 2 rfl) ?_
  refine lv_aload_n hx hb dX4_makeCredit_30 rfl (lv_at hl 1 rfl) ?_
  refine k_get hM hE hX m3_o f3_o rfl 5 (by decide) inX4 k_103 (fun _ h => h) rfl dX4_makeCredit_31 ?_
  refine k_goi (k_S (n := 1) (As := [.int (M 0 0)]) (rest := [.ref (ad 1 i 0), .ref q, .ref q, .ref (ad 5 1 0)]) hM hE hX hl (c_X4_monthOf l γ L3 F3 (M 0 0)) k_376 k_377 k_1 k_378 ⟨by decide, by decide, by decide +kernel⟩ (by decide) rfl rfl (Nat.le_of_ble_eq_true rfl) dX4_makeCredit_34 (by decide)) hE hX (fun r L1 F1 H locs hp hX => ?_)
  obtain ⟨rfl, rfl, rfl⟩ := hp
  refine lv_iload hx hb dX4_makeCredit_37 (lv_at hl 0 rfl) ?_
  refine lv_aload_n hx hb dX4_makeCredit_39 rfl (lv_at hl 3 rfl) ?_
  refine k_goi (k_V (n := 0) (As := []) (rest := [.int (tx (M 14 (3 * i + j)) (M 16 (3 * i + j))), .int (M 0 0 / 30), .ref (ad 1 i 0), .ref q, .ref q, .ref (ad 5 1 0)]) hM hE hX hl (cq_X3_taxNow l γ L3 F3 (ad 2 i j) _ _ _ _ m3__ad_2_i_j_ f3__ad_2_i_j_) m3__ad_2_i_j_ f3__ad_2_i_j_ rfl k_411 k_251 k_252 k_19 k_253 ⟨rfl, by decide, by decide, by decide +kernel⟩ (by decide) rfl rfl (Nat.le_of_ble_eq_true rfl) dX4_makeCredit_40 (by decide)) hE hX (fun r L1 F1 H locs hp hX => ?_)
  obtain ⟨rfl, rfl, rfl⟩ := hp
  refine lv_isub hx hb dX4_makeCredit_43 ?_
  refine k_gou (k_I (n := 3) (As := [.ref (ad 1 i 0), .int (M 0 0 / 30), .int ((tx (M 14 (3 * i + j)) (M 16 (3 * i + j))) - (tx ((M 14 (3 * i + j)) - x) (M 16 (3 * i + j))))]) (rest := [.ref q, .ref (ad 5 1 0)]) hM hE hX hl (c_X0_init l γ L3 F3 q (ad 1 i 0) (M 0 0 / 30) ((tx (M 14 (3 * i + j)) (M 16 (3 * i + j))) - (tx ((M 14 (3 * i + j)) - x) (M 16 (3 * i + j)))) m3_q f3_q) k_629 k_630 k_23 k_631 rfl ⟨by decide, by decide, by decide +kernel⟩ (by decide) rfl rfl (Nat.le_of_ble_eq_true rfl) dX4_makeCredit_44 (by decide)) hE hX (fun L4 Fi H locs hp hX => ?_)
  obtain ⟨rfl, eFi⟩ := hp
  have hm : More L F2 tg L3 Fi (tup tg q (3, cc M, 0)) := by rw [eL3, eFi, eF3, bx_uu]; exact More.new hq
  have tl := (hR.2.2.1 i hi j hj).2.1
  have ti := (hR.2.1 i hi).2.1
  have l3 : Lst γ L3 Fi (tup tg q (3, cc M, 0)) (ad 5 1 0) 1 (cc M) (fun k => ad 3 k 0) := by
    have l0 := hR.2.2.2.2.2.2.1
    have l1 : Lst γ L F1 tg (ad 5 1 0) 1 (cc M) (fun k => ad 3 k 0) := by rw [eF1]; exact l0.other tl (tg_ne (by omega)) (tg_ne (by omega))
    have l2 : Lst γ L F2 tg (ad 5 1 0) 1 (cc M) (fun k => ad 3 k 0) := by rw [eF2]; exact l1.other ti (tg_ne (by omega)) (tg_ne (by omega))
    exact l2.more hm
  have hcr : ∀ k, k < cc M → has L3 Fi (tup tg q (3, cc M, 0)) (ad 3 k 0) (3, k, 0) (rC ad M k) := fun k hk => by
    have a0 := hR.2.2.2.1 k hk
    have a1 : has L F1 tg (ad 3 k 0) (3, k, 0) (rC ad M k) := by rw [eF1]; exact a0.other tl (tg_ne (by omega))
    have a2 : has L F2 tg (ad 3 k 0) (3, k, 0) (rC ad M k) := by rw [eF2]; exact a1.other ti (tg_ne (by omega))
    exact a2.more hm
  have hqd : has L3 Fi (tup tg q (3, cc M, 0)) q (3, cc M, 0) (.inr (5, [.ref (ad 1 i 0), .int (M 0 0 / 30), .int ((tx (M 14 (3 * i + j)) (M 16 (3 * i + j))) - (tx ((M 14 (3 * i + j)) - x) (M 16 (3 * i + j))))])) := ⟨m3_q, tup_s _ _ _, by rw [eFi, va_up_self]⟩
  obtain ⟨mcd, ed, fd, q1, q2, q3, q4, q5, q6⟩ := Lst.toArr l3 (fun k hk => (hcr k hk).toEl (by decide) (by decide))
  refine k_goi (k_V (n := 1) (As := [.ref q]) (rest := []) hM hE hX hl (c_Jx4a65c_add_9ea2d l γ L3 Fi (ad 5 1 0) ed (cc M) q mcd q1 q3 (hqd.toEl (by decide) (by decide)) fd q4 (by omega)) q1 q3 rfl k_307 k_308 k_309 k_4 k_310 ⟨rfl, by decide, by decide, by decide +kernel⟩ (by decide) rfl rfl (Nat.le_of_ble_eq_true rfl) dX4_makeCredit_47 (by decide)) hE hX (fun r L5 F5 H locs hp hX => ?_)
  obtain ⟨rfl, hadd⟩ := hp
  have hsub : ∀ b ∈ L, b ∈ L5 := fun b hb => by obtain ⟨_, _, _, g1, -⟩ := hadd; exact g1 b (hm b hb).1
  obtain ⟨tg2, hl2, hb2⟩ := added (g' := fun j => adD ad 3 (cc M) q 3 j 0) hadd q1 q2 q5 q6 (fun j hj => if_neg (fun h => by omega)) (if_pos ⟨rfl, rfl⟩)
  have hKp : Kp (xCr i) L F1 tg L5 F5 tg2 := fun b hb hx9 => by
    obtain ⟨a1, a2, a3⟩ := hm b hb
    obtain ⟨b1, b2, b3⟩ := hb2 b a1 (by rw [a3]; exact fun e => hx9 (Or.inr (Or.inl e))) (by rw [a3]; exact fun e => hx9 (Or.inr (Or.inr e)))
    exact ⟨b1, b2.trans (a2.trans (by rw [eF2]; exact va_up_ne _ _ (fun e => hx9 (Or.inl (by rw [e]; exact ti))))), b3.trans a3⟩
  have hRA : RepC γ L F1 o ad tg (mset M 14 (3 * i + j) ((M 14 (3 * i + j)) - x)) nd D := by
    rw [eF1]
    exact hR.wline hi hj (by unfold lC; rw [mset_s]; rfl) rfl (fun _ => rfl) rfl rfl (fun _ => rfl) (fun i' j' hi' hj' hne => by unfold lC; rw [show (mset M 14 (3 * i + j) ((M 14 (3 * i + j)) - x)) 14 (3 * i' + j') = M 14 (3 * i' + j') from if_neg (fun e9 => hne (by have := (hI.2.1 i' hi').2; have := (hI.2.1 _ hi).2; constructor <;> omega))]; rfl) (fun _ => rfl) rfl rfl rfl
  have hv9 : has L5 F5 tg2 (ad 1 i 0) (1, i, 0) (.inr (7, [.int (M 3 i), .int (M 4 i), .int (M 5 i), .int (M 7 i), .ref (ad 5 (3 + i) 0), .int (M 6 i), .int (aDay M i), .int 1, .int (M 12 i), .int (M 9 i), .int (M 10 i), .int (M 11 i)])) := by
    have a2 : has L F2 tg (ad 1 i 0) (1, i, 0) (.inr (7, [.int (M 3 i), .int (M 4 i), .int (M 5 i), .int (M 7 i), .ref (ad 5 (3 + i) 0), .int (M 6 i), .int (aDay M i), .int 1, .int (M 12 i), .int (M 9 i), .int (M 10 i), .int (M 11 i)])) := by rw [eF2]; exact has.at (hR.2.1 i hi).1 ti
    exact (a2.more hm).but hb2 (tg_ne (by omega)) (tg_ne (by omega))
  have hok := hI.2.2.1
  have hin2 := hI.1.2
  have hR5 : RepC γ L5 F5 o (adD ad 3 (cc M) q) tg2 (lessM M i j x) nd D :=
    hRA.cred hKp hv9 (by unfold iC; rw [hasC_less hok hc2, if_pos rfl]; rfl) (hqd.but hb2 (tg_ne (by omega)) (tg_ne (by omega)))
      (show rC ad (lessM M i j x) (cc M) = _ from by unfold rC; rw [show (lessM M i j x) 19 (cc M) = nI i from if_pos rfl, show kj (nI i) = i from nI_clamp (by omega), show (lessM M i j x) 20 (cc M) = M 0 0 from if_pos rfl, show (lessM M i j x) 21 (cc M) = ((tx (M 14 (3 * i + j)) (M 16 (3 * i + j))) - (tx ((M 14 (3 * i + j)) - x) (M 16 (3 * i + j)))) from if_pos rfl]) hl2 rfl (fun _ => rfl) (cc_less hok hc2 i j x) rfl
      (fun i' hne hi' => by have : i' < nn M := hi'; unfold iC; rw [hasC_less hok hc2, if_neg (fun e => hne ((nI_eq (by omega) (by omega)).mp e).symm)]; rfl) (fun _ _ => rfl)
      (fun k hk => by have : k < cc M := hk; unfold rC; rw [show (lessM M i j x) 19 k = M 19 k from if_neg (by omega), show (lessM M i j x) 20 k = M 20 k from if_neg (by omega), show (lessM M i j x) 21 k = M 21 k from if_neg (by omega)]; rfl) rfl rfl rfl
  refine lv_pop hx hb dX4_makeCredit_50 rfl ?_
  exact k_vret hM hsz hX ⟨rfl, hsub, q, tg2, hR5⟩ (by decide) (by decide) dX4_makeCredit_51
