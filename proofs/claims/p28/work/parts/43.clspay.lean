def pm (M : mM) (a b x : Int32) (k : Nat) : Prop := M 4 k = a ∧ M 9 k = b ∧ owed M k = x
theorem psM_p {M : mM} {a b x : Int32} {k : Nat} (y : Int32) (h : pm M a b x k) : psM M a b x k y = nI (k + 1) - 1 := by
  unfold psM; rw [if_pos h.1, if_pos h.2.1, if_pos h.2.2]
theorem psM_n {M : mM} {a b x : Int32} {k : Nat} (y : Int32) (h : ¬ pm M a b x k) : psM M a b x k y = y := by
  unfold psM
  by_cases h1 : M 4 k = a
  · rw [if_pos h1]
    by_cases h2 : M 9 k = b
    · rw [if_pos h2, if_neg (fun h3 => h ⟨h1, h2, h3⟩)]
    · rw [if_neg h2]
  · rw [if_neg h1]
theorem ps_none {M : mM} {a b x : Int32} : ∀ (n : Nat) (s : Int32), (∀ k, k < n → ¬ pm M a b x k) → l_down (psM M a b x) n s = s
  | 0, s, _ => rfl
  | n + 1, s, h => by
    show l_down (psM M a b x) n (psM M a b x n s) = s
    rw [psM_n s (h n (by omega))]
    exact ps_none n s (fun k hk => h k (by omega))
theorem ps_at {M : mM} {a b x : Int32} {j : Nat} (h : ∀ k, k < j → ¬ pm M a b x k) (hj : pm M a b x j) : ∀ (n : Nat) (s : Int32), j < n → l_down (psM M a b x) n s = nI j
  | 0, s, hn => absurd hn (by omega)
  | n + 1, s, hn => by
    show l_down (psM M a b x) n (psM M a b x n s) = nI j
    by_cases e : j = n
    · subst e
      rw [psM_p s hj, ps_none j _ h]
      exact nI_pred j
    · exact ps_at h hj n _ (by omega)
theorem pays0 {a b x : Int32} (h : (0 ≤ a ∧ a ≤ 5) ∧ (0 ≤ b ∧ b ≤ 5) ∧ (1 ≤ x ∧ x ≤ 99999) ∧ ¬ a = b) : paysC a b x = 0 := by
  unfold paysC; rw [if_pos h.1, if_pos h.2.1, if_pos h.2.2.1, if_neg h.2.2.2]
theorem paySum_thr {M : mM} {a b x : Int32} {k : Int32} (h : paysC a b x = k) (hk : ¬ k ≤ 0) : paySumM M a b x = (0, mset M 24 0 k) := by
  unfold paySumM; rw [h]; exact if_neg hk
theorem payText_thr {M : mM} {a b x : Int32} {k : Int32} (h : paysC a b x = k) (hk : ¬ k ≤ 0) : payTextM M a b x = (0, mset M 24 0 k) := by
  unfold payTextM; rw [h]; exact if_neg hk
theorem paySum_no {M : mM} {a b x : Int32} (h : (0 ≤ a ∧ a ≤ 5) ∧ (0 ≤ b ∧ b ≤ 5) ∧ (1 ≤ x ∧ x ≤ 99999) ∧ ¬ a = b) (hn : ∀ k, k < nn M → ¬ pm M a b x k) : paySumM M a b x = (0, mset (mset M 24 0 0) 24 0 3) := by
  have e : l_down (psM (mset M 24 0 0) a b x) (nn (mset M 24 0 0)) (-1) = -1 := ps_none (M := mset M 24 0 0) _ _ (fun k hk hp => hn k hk hp)
  unfold paySumM; rw [pays0 h, if_pos (by decide), e]; rfl
theorem paySum_at {M : mM} {a b x : Int32} (h : (0 ≤ a ∧ a ≤ 5) ∧ (0 ≤ b ∧ b ≤ 5) ∧ (1 ≤ x ∧ x ≤ 99999) ∧ ¬ a = b) {j : Nat} (hn : ∀ k, k < j → ¬ pm M a b x k) (hj : pm M a b x j) (hjn : j < nn M) (h2 : nn M ≤ 20) : paySumM M a b x = (nI j, movesM (mset (mset (mset M 24 0 0) 24 0 0) 12 j ((M 12 j) + x)) (kj a) (kj b) x) := by
  have e : l_down (psM (mset M 24 0 0) a b x) (nn (mset M 24 0 0)) (-1) = nI j := ps_at (M := mset M 24 0 0) (fun k hk hp => hn k hk hp) hj _ _ hjn
  have hk : kj (nI j) = j := nI_clamp (by omega)
  have hne : ¬ nI j = -1 := fun e9 => absurd (nI_pos' (n := j) (by omega)) (by rw [e9]; decide)
  unfold paySumM; rw [pays0 h, if_pos (by decide), e]
  unfold psTail
  rw [if_neg hne, hk]; rfl
theorem pm_step {M : mM} {a b x : Int32} {j : Nat} (h : ∀ k, k < j → ¬ pm M a b x k) (hj : ¬ pm M a b x j) : ∀ k, k < j + 1 → ¬ pm M a b x k := by
  intro k hk
  by_cases e : k = j
  · subst e; exact hj
  · exact h k (by omega)
theorem Inv.paid {M : mM} {nd : Nat} {D : cD} (hI : Inv M nd D) {i : Nat} (hi : i < nn M) {a b x : Int32} (ha : okI a 6) (hb : okI b 6) (hne : ¬ a = b) (M1 : mM) (hM : M1 = mset (mset M 24 0 0) 24 0 0) : Inv (movesM (mset M1 12 i ((M 12 i) + x)) (kj a) (kj b) x) (nd + 1) (dput D nd (a, b, x)) := by
  subst hM
  exact ((((hI.s24 0).s24 0).s12 hi _).move ha.2 hb.2 (fun e => hne (by rw [ha.1, hb.1, e])) (fun d hd => dput_n D _ hd) (by rw [dput_s, ← ha.1, ← hb.1]))
theorem RepC.s24m {γ : kG} {L : List Nat} {F : kF} {o : Nat} {ad : cAd} {tg : cTg} {M : mM} {nd : Nat} {D : cD} {i f g : Nat} {y x : Int32} (h : RepC γ L F o ad tg (movesM (mset M 12 i y) f g x) nd D) : RepC γ L F o ad tg (movesM (mset (mset (mset M 24 0 0) 24 0 0) 12 i y) f g x) nd D :=
  h.same rfl (fun _ => rfl) rfl rfl (fun _ => rfl) (fun _ _ => rfl) (fun _ => rfl) rfl rfl rfl
set_option maxHeartbeats 4000000 in
set_option maxRecDepth 100000 in
theorem c_X4_payBySum (l : Launch) (hfl : l.stackTraces = false) (γ : kG) (L : List Nat) (F : kF) (o : Nat) (ad : cAd) (tg : cTg) (M : mM) (nd : Nat) (D : cD) (hR : RepC γ L F o ad tg M nd D) (hI : Inv M nd D) (hnd : nd < 512) (a b x : Int32) : kD l yX4_payBySum cX4_payBySum 6 (some .int) (kRm 8 7 1100) γ L F [.ref o, .int a, .int b, .int x] (kI fun r L1 F1 => After γ L o nd (paySumM M a b x) r L1 F1) (fun E => (E = kIO ∧ Thr M (paySumM M a b x).2 1) ∨ (E = kIA ∧ Thr M (paySumM M a b x).2 2) ∨ (E = kIS ∧ Thr M (paySumM M a b x).2 3)) := by
  refine kD_of (by decide +kernel) (Nat.le_of_ble_eq_true rfl) ?_
  intro p e s m args below meth c sz ls hargs hsz hM htab hE hX hl
  have hx := hM.1
  have hb := hM.2.1
  have hl : lv_has ls 6 [(0, .ref o), (1, .int a), (2, .int b), (3, .int x)] := hl
  obtain ⟨mli, mci, ei, eli⟩ := Lst.recv hR.2.2.2.2.2.1
  have hn2 := hI.1.2
  have hloop : ∀ (hpa : (0 ≤ a ∧ a ≤ 5) ∧ (0 ≤ b ∧ b ≤ 5) ∧ (1 ≤ x ∧ x ≤ 99999) ∧ ¬ a = b) (n j : Nat), nn M < j + n → j ≤ nn M → (∀ k, k < j → ¬ pm M a b x k) → ∀ (H : Heap) (locs : List Loc) (ls : Array Slot), kX γ (kA L sz) s L F H locs → lv_has ls 6 [(4, .int (nI j)), (0, .ref o), (1, .int a), (2, .int b), (3, .int x)] → W p l e (kRm 8 7 1100) s m args below meth c H locs (0 + (kRm 1 4 24).cells) (0 + (kRm 1 4 24).slots) (vx_MQ below (kQ γ L sz (kI fun r L1 F1 => After γ L o nd (paySumM M a b x) r L1 F1)) (kXC γ L F sz (fun E => (E = kIO ∧ Thr M (paySumM M a b x).2 1) ∨ (E = kIA ∧ Thr M (paySumM M a b x).2 2) ∨ (E = kIS ∧ Thr M (paySumM M a b x).2 3))) args s (kRm 8 7 1100).cells (kRm 8 7 1100).slots (kA L sz)) (F0 m 10 ls []) := by
    intro hpa n
    induction n with
    | zero => intro j h1 h2; exact absurd h1 (by omega)
    | succ n ih =>
      intro j h1 h2 hno H locs ls hX hl
      refine lv_iload hx hb dX4_payBySum_10 (lv_at hl 0 rfl) ?_
      refine lv_aload_n hx hb dX4_payBySum_12 rfl (lv_at hl 1 rfl) ?_
      refine k_get hM hE hX hR.1.1 hR.1.2.2 rfl 0 (by decide) inX4 k_98 (fun _ h => h) rfl dX4_payBySum_13 ?_
      refine k_goi (k_V (n := 0) (As := []) (rest := [.int (nI j)]) hM hE hX hl (c_size l hR.2.2.2.2.2.1) mli eli rfl k_220 k_221 k_222 k_4 k_223 ⟨rfl, by decide, by decide, by decide +kernel⟩ (by decide) rfl rfl (Nat.le_of_ble_eq_true rfl) dX4_payBySum_16 (by decide)) hE hX (fun r L1 F1 H locs hp hX => ?_)
      obtain ⟨rfl, rfl, rfl⟩ := hp
      refine lv_icmp_ge (tgt := 83) hx hb dX4_payBySum_19 (by decide) (fun c_1 => ?_) (fun c_1 => ?_)
      · have ej : j = nn M := by
          have h9 := lp_out (a := j) (b := nn M) (by omega) (by omega) c_1
          omega
        exact x_throw0 (text := "there is no such invoice") hM hE hX hl htab hfl kat_IS hE.2.1.2.2.2.2.2.2.2.2.2.2.1.2.2 (by decide +kernel) k_264 k_17 ⟨rfl, rfl⟩ (by decide) (Or.inr (Or.inr ⟨rfl, by rw [paySum_no hpa (ej ▸ hno)]; exact Thr2 M 0 3⟩)) dX4_payBySum_83 dX4_payBySum_86 (Or.inl ⟨dX4_payBySum_87, dX4_payBySum_89, dX4_payBySum_92⟩) (by decide) (by decide) (by decide)
      · have hj : j < nn M := by
          have h9 := lp_in (a := j) (b := nn M) (by omega) (by omega) c_1
          omega
        refine lv_aload_n hx hb dX4_payBySum_22 rfl (lv_at hl 1 rfl) ?_
        refine k_get hM hE hX hR.1.1 hR.1.2.2 rfl 0 (by decide) inX4 k_98 (fun _ h => h) rfl dX4_payBySum_23 ?_
        refine lv_iload hx hb dX4_payBySum_26 (lv_at hl 0 rfl) ?_
        refine k_gor (k_V (n := 1) (As := [.int (nI j)]) (rest := []) hM hE hX hl (c_get l hR.2.2.2.2.2.1 j hj) mli eli rfl k_224 k_225 k_226 k_4 k_227 ⟨rfl, by decide, by decide, by decide +kernel⟩ (by decide) rfl rfl (Nat.le_of_ble_eq_true rfl) dX4_payBySum_28 (by decide)) hE hX (fun r L1 F1 H locs hp hX => ?_)
        obtain ⟨rfl, rfl, rfl⟩ := hp
        refine k_cast hM hE hX (hR.2.1 j hj).1 (hR.2.1 j hj).2.2 rfl k_238 dX4_payBySum_31 ?_
        refine lv_astore (lv' := [(5, .ref (ad 1 j 0)), (4, .int (nI j)), (0, .ref o), (1, .int a), (2, .int b), (3, .int x)]) hx hb dX4_payBySum_34 hl (by decide) rfl (fun ls hl => ?_)
        refine lv_aload hx hb dX4_payBySum_36 (lv_at hl 0 rfl) ?_
        refine k_get hM hE hX (hR.2.1 j hj).1 (hR.2.1 j hj).2.2 rfl 1 (by decide) inX2 k_523 (fun _ h => h) rfl dX4_payBySum_38 ?_
        refine lv_iload_n hx hb dX4_payBySum_41 rfl (lv_at hl 3 rfl) ?_
        refine lv_icmp_ne (tgt := 77) hx hb dX4_payBySum_42 (by decide) (fun c_2 => ?_) (fun c_2 => ?_)
        · refine lv_iinc (v := (nI (j + 1))) (lv' := [(4, .int (nI (j + 1))), (5, .ref (ad 1 j 0)), (0, .ref o), (1, .int a), (2, .int b), (3, .int x)]) hx hb dX4_payBySum_77 hl (k := 1) rfl (nI_1 _) (by decide) rfl (fun ls hl => ?_)
          refine lv_goto (tgt := 10) hx hb dX4_payBySum_80 (by decide) ?_
          exact ih (j + 1) (by omega) (by omega) (pm_step hno (fun h => c_2 h.1)) _ _ _ hX (lv_sub hl [0, 2, 3, 4, 5] rfl)
        · refine lv_aload hx hb dX4_payBySum_45 (lv_at hl 0 rfl) ?_
          refine k_get hM hE hX (hR.2.1 j hj).1 (hR.2.1 j hj).2.2 rfl 9 (by decide) inX2 k_540 (fun _ h => h) rfl dX4_payBySum_47 ?_
          refine lv_iload_n hx hb dX4_payBySum_50 rfl (lv_at hl 4 rfl) ?_
          refine lv_icmp_ne (tgt := 77) hx hb dX4_payBySum_51 (by decide) (fun c_3 => ?_) (fun c_3 => ?_)
          · refine lv_iinc (v := (nI (j + 1))) (lv' := [(4, .int (nI (j + 1))), (5, .ref (ad 1 j 0)), (0, .ref o), (1, .int a), (2, .int b), (3, .int x)]) hx hb dX4_payBySum_77 hl (k := 1) rfl (nI_1 _) (by decide) rfl (fun ls hl => ?_)
            refine lv_goto (tgt := 10) hx hb dX4_payBySum_80 (by decide) ?_
            exact ih (j + 1) (by omega) (by omega) (pm_step hno (fun h => c_3 h.2.1)) _ _ _ hX (lv_sub hl [0, 2, 3, 4, 5] rfl)
          · refine lv_aload hx hb dX4_payBySum_54 (lv_at hl 0 rfl) ?_
            refine k_goi (k_V (n := 0) (As := []) (rest := []) hM hE hX hl (c_X2_owedNow l γ L F o ad tg M nd D hR hI j hj) (hR.2.1 j hj).1 (hR.2.1 j hj).2.2 rfl k_239 k_240 k_241 k_18 k_242 ⟨rfl, by decide, by decide, by decide +kernel⟩ (by decide) rfl rfl (Nat.le_of_ble_eq_true rfl) dX4_payBySum_56 (by decide)) hE hX (fun r L1 F1 H locs hp hX => ?_)
            obtain ⟨rfl, rfl, rfl⟩ := hp
            refine lv_iload_n hx hb dX4_payBySum_59 rfl (lv_at hl 5 rfl) ?_
            refine lv_icmp_ne (tgt := 77) hx hb dX4_payBySum_60 (by decide) (fun c_4 => ?_) (fun c_4 => ?_)
            · refine lv_iinc (v := (nI (j + 1))) (lv' := [(4, .int (nI (j + 1))), (5, .ref (ad 1 j 0)), (0, .ref o), (1, .int a), (2, .int b), (3, .int x)]) hx hb dX4_payBySum_77 hl (k := 1) rfl (nI_1 _) (by decide) rfl (fun ls hl => ?_)
              refine lv_goto (tgt := 10) hx hb dX4_payBySum_80 (by decide) ?_
              exact ih (j + 1) (by omega) (by omega) (pm_step hno (fun h => c_4 h.2.2)) _ _ _ hX (lv_sub hl [0, 2, 3, 4, 5] rfl)
            · refine lv_aload_n hx hb dX4_payBySum_63 rfl (lv_at hl 2 rfl) ?_
              refine k_gou (k_V (n := 0) (As := []) (rest := []) hM hE hX hl (c_X4_checkRoomForDocument l γ L F o ad tg M nd D hR hI hnd) hR.1.1 hR.1.2.2 rfl k_260 k_262 kp_4 k_1 k_263 ⟨rfl, by decide, by decide, by decide +kernel⟩ (by decide) rfl rfl (Nat.le_of_ble_eq_true rfl) dX4_payBySum_64 (by decide)) hE hX (fun L1 F1 H locs hp hX => ?_)
              obtain ⟨rfl, rfl⟩ := hp
              refine lv_aload_n hx hb dX4_payBySum_67 rfl (lv_at hl 2 rfl) ?_
              refine lv_aload hx hb dX4_payBySum_68 (lv_at hl 0 rfl) ?_
              refine lv_iload_n hx hb dX4_payBySum_70 rfl (lv_at hl 5 rfl) ?_
              refine k_gou (k_V (n := 2) (As := [.ref (ad 1 j 0), .int x]) (rest := []) hM hE hX hl (c_X4_takePayment l γ L F o ad tg M nd D hR j hj hnd x (hI.2.2.2.2.2.1 j hj).2.1 (hI.2.2.2.2.2.1 j hj).2.2.1) hR.1.1 hR.1.2.2 rfl k_280 k_282 kp_5 k_1 k_283 ⟨rfl, by decide, by decide, by decide +kernel⟩ (by decide) rfl rfl (Nat.le_of_ble_eq_true rfl) dX4_payBySum_71 (by decide)) hE hX (fun L2 F2 H locs hp hX => ?_)
              obtain ⟨hsub, q, tg1, hR3⟩ := hp
              refine lv_iload hx hb dX4_payBySum_74 (lv_at hl 1 rfl) ?_
              have hpm : pm M a b x j := ⟨c_2, c_3, c_4⟩
              rw [hpm.1, hpm.2.1] at hR3
              exact vx_ret (k_iret hM hsz hX ⟨_, rfl, _, adD ad 4 nd q, tg1, nd + 1, _, paySum_at hpa hno hpm hj hI.1.2, rfl, hsub, hR3.s24m, hI.paid hj (okI_5 hpa.1) (okI_5 hpa.2.1) hpa.2.2.2 _ rfl, Nat.le_refl _⟩ (by decide) (by decide) dX4_payBySum_76)
  refine lv_aload_n hx hb dX4_payBySum_0 rfl (lv_at hl 0 rfl) ?_
  refine lv_iload_n hx hb dX4_payBySum_1 rfl (lv_at hl 1 rfl) ?_
  refine lv_iload_n hx hb dX4_payBySum_2 rfl (lv_at hl 2 rfl) ?_
  refine lv_iload_n hx hb dX4_payBySum_3 rfl (lv_at hl 3 rfl) ?_
  refine x_gou (x_V (n := 3) (As := [.int a, .int b, .int x]) (rest := []) hM hE hX hl (c_X4_checkPayment l hfl γ L F o _ hR.1.1 hR.1.2.2 a b x) hR.1.1 hR.1.2.2 rfl k_121 k_123 kp_0 k_1 k_124 ⟨rfl, by decide, by decide, by decide +kernel⟩ (by decide) rfl rfl (Nat.le_of_ble_eq_true rfl) dX4_payBySum_4 (by decide)) hM hE hX htab ⟨rfl, rfl⟩ (fun E h => h.elim (fun h => Or.inl ⟨h.1, by rw [paySum_thr h.2 (by decide)]; exact Thr1 M 1⟩) (fun h => Or.inr (Or.inl ⟨h.1, by rw [paySum_thr h.2 (by decide)]; exact Thr1 M 2⟩))) (by decide) (by decide) (fun L1 F1 H locs hp hX => ?_)
  obtain ⟨rfl, rfl, hpa⟩ := hp
  refine lv_iconst (v := 0) hx hb dX4_payBySum_7 (by decide) ?_
  refine lv_istore (lv' := [(4, .int 0), (0, .ref o), (1, .int a), (2, .int b), (3, .int x)]) hx hb dX4_payBySum_8 hl (by decide) rfl (fun ls hl => ?_)
  exact hloop hpa (nn M + 1) 0 (by omega) (Nat.zero_le _) (fun k hk => absurd hk (Nat.not_lt_zero k)) _ _ _ hX (lv_sub hl [0, 1, 2, 3, 4] rfl)
