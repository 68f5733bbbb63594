def Kp (X : Nat × Nat × Nat → Prop) (L : List Nat) (F : kF) (tg : cTg) (L1 : List Nat) (F1 : kF) (tg1 : cTg) : Prop := ∀ b ∈ L, ¬ X (tg b) → b ∈ L1 ∧ F1 b = F b ∧ tg1 b = tg b
section KP
variable {γ : kG} {L L1 : List Nat} {F F1 : kF} {o : Nat} {ad : cAd} {tg tg1 : cTg} {M M' : mM} {nd : Nat} {D : cD} {X : Nat × Nat × Nat → Prop}
theorem has.kp {b : Nat} {t : Nat × Nat × Nat} {w : va_E} (h : has L F tg b t w) (hm : Kp X L F tg L1 F1 tg1) (hx : ¬ X t) : has L1 F1 tg1 b t w := by
  obtain ⟨h1, h2, h3⟩ := h
  obtain ⟨g1, g2, g3⟩ := hm b h1 (by rw [h2]; exact hx)
  exact ⟨g1, g3.trans h2, g2.trans h3⟩
theorem Lst.kp {a k n : Nat} {g : Nat → Nat} (h : Lst γ L F tg a k n g) (hm : Kp X L F tg L1 F1 tg1) (h5 : ¬ X (5, k, 0)) (h6 : ¬ X (6, k, 0)) : Lst γ L1 F1 tg1 a k n g := by
  obtain ⟨mc, e, f, h1, h2, h3⟩ := h
  refine ⟨mc, e, f, h1.kp hm h5, ?_, h3⟩
  rcases h2 with h2 | ⟨cap, h2, h4⟩
  · exact Or.inl h2
  · exact Or.inr ⟨cap, h2.kp hm h6, h4⟩
def xCr (i : Nat) (t : Nat × Nat × Nat) : Prop := t = (1, i, 0) ∨ t = (5, 1, 0) ∨ t = (6, 1, 0)
theorem xCr_n {i a b c : Nat} (h : ¬ (a = 1 ∧ b = i ∧ c = 0) ∧ ¬ (a = 5 ∧ b = 1 ∧ c = 0) ∧ ¬ (a = 6 ∧ b = 1 ∧ c = 0)) : ¬ xCr i (a, b, c) := fun e => e.elim (fun e => tg_ne h.1 e) (fun e => e.elim (fun e => tg_ne h.2.1 e) (fun e => tg_ne h.2.2 e))
theorem RepC.cred (h : RepC γ L F o ad tg M nd D) {i q : Nat} {v w : va_E} (hm : Kp (xCr i) L F tg L1 F1 tg1) (hv : has L1 F1 tg1 (ad 1 i 0) (1, i, 0) v) (hvi : iC ad M' i = v) (hq : has L1 F1 tg1 q (3, cc M, 0) w) (hw : rC ad M' (cc M) = w)
    (hl : Lst γ L1 F1 tg1 (ad 5 1 0) 1 (cc M + 1) (fun j => adD ad 3 (cc M) q 3 j 0)) (hn : nn M' = nn M) (hk : ∀ i, kk M' i = kk M i) (hc : cc M' = cc M + 1) (h0 : M' 0 0 = M 0 0) (ho : ∀ i', i' ≠ i → i' < nn M → iC ad M' i' = iC ad M i') (hlC : ∀ i j, lC M' i j = lC M i j) (hr : ∀ k, k < cc M → rC ad M' k = rC ad M k) (h1 : M' 1 = M 1) (h22 : M' 22 0 = M 22 0) (h23 : M' 23 = M 23) : RepC γ L1 F1 o (adD ad 3 (cc M) q) tg1 M' nd D := by
  obtain ⟨g0, g1, g2, g3, g4, l1, l2, l3, l4, g7, ⟨ml, g8⟩, g9⟩ := h
  refine ⟨?_, fun i' hi' => ?_, fun i' hi' j hj => ?_, fun k hk9 => ?_, fun d hd => (g4 d hd).kp hm (xCr_n (by omega)), ?_, ?_, l3.kp hm (xCr_n (by omega)) (xCr_n (by omega)), fun i' hi' => ?_, ?_, ⟨ml, ?_⟩, ?_⟩
  · have := g0.kp hm (xCr_n (by omega))
    show has L1 F1 tg1 o (0, 0, 0) (oC ad M')
    unfold oC; rw [h0]; exact this
  · show has L1 F1 tg1 (ad 1 i' 0) (1, i', 0) (iC ad M' i')
    rw [hn] at hi'
    by_cases e : i' = i
    · subst e; rw [hvi]; exact hv
    · rw [ho i' e hi']; exact (g1 i' hi').kp hm (xCr_n (by omega))
  · show has L1 F1 tg1 (ad 2 i' j) (2, i', j) (lC M' i' j)
    rw [hn] at hi'; rw [hk] at hj
    rw [hlC]; exact (g2 i' hi' j hj).kp hm (xCr_n (by omega))
  · rw [hc] at hk9
    show has L1 F1 tg1 (adD ad 3 (cc M) q 3 k 0) (3, k, 0) (rC ad M' k)
    by_cases e : k = cc M
    · subst e
      rw [show adD ad 3 (cc M) q 3 (cc M) 0 = q from if_pos ⟨rfl, rfl⟩, hw]; exact hq
    · rw [show adD ad 3 (cc M) q 3 k 0 = ad 3 k 0 from if_neg (fun h => e h.2), hr k (by omega)]
      exact (g3 k (by omega)).kp hm (xCr_n (by omega))
  · rw [hn]; exact l1.kp hm (xCr_n (by omega)) (xCr_n (by omega))
  · rw [hc]; exact hl
  · rw [hn] at hi'; rw [hk]
    exact (l4 i' hi').kp hm (xCr_n (by omega)) (xCr_n (by omega))
  · show has L1 F1 tg1 (ad 7 0 0) (7, 0, 0) (.inl (γ.2.1 1, 6, .inl (M' 1)))
    rw [h1]; exact g7.kp hm (xCr_n (by omega))
  · show has L1 F1 tg1 (ad 8 0 0) (8, 0, 0) (.inr (1, [.ref (ad 9 0 0), .int 0, .int ml, .int (M' 22 0)]))
    rw [h22]; exact g8.kp hm (xCr_n (by omega))
  · show has L1 F1 tg1 (ad 9 0 0) (9, 0, 0) (.inl (γ.2.1 0, 16, .inl (M' 23)))
    rw [h23]; exact g9.kp hm (xCr_n (by omega))
end KP
theorem l_fold_congr {f g : Nat → Int32 → Int32} (s : Int32) : ∀ n, (∀ j, j < n → f j = g j) → l_fold f s n = l_fold g s n
  | 0, _ => rfl
  | n + 1, h => by
    rw [l_fold, l_fold, h n (by omega), l_fold_congr s n (fun j hj => h j (by omega))]
theorem cc_less {M : mM} (hc : okC M) (hc2 : cc M < 24) (i q : Nat) (x : Int32) : cc (lessM M i q x) = cc M + 1 := by
  show (M 18 0 + 1).toNatClampNeg = _
  rw [hc.1, nI_1]
  exact nI_clamp (by omega)
theorem hasC_less {M : mM} (hc : okC M) (hc2 : cc M < 24) (i q : Nat) (x a : Int32) : hasC (lessM M i q x) a = (if nI i = a then 1 else hasC M a) := by
  have e1 : l_fold (hasC_st (lessM M i q x) a) 0 (cc M) = hasC M a := by
    refine l_fold_congr 0 (cc M) (fun j hj => ?_)
    funext y
    show (if upd (M 19) (cc M) (nI i) j = a then y ||| 1 else y ||| 0) = (if M 19 j = a then y ||| 1 else y ||| 0)
    rw [show upd (M 19) (cc M) (nI i) j = M 19 j from if_neg (by omega)]
  have e2 : hasC (lessM M i q x) a = hasC_st (lessM M i q x) a (cc M) (hasC M a) := by
    show l_fold (hasC_st (lessM M i q x) a) 0 (cc (lessM M i q x)) = _
    rw [cc_less hc hc2, l_fold, e1]
  rw [e2]
  show (if upd (M 19) (cc M) (nI i) (cc M) = a then hasC M a ||| 1 else hasC M a ||| 0) = _
  rw [show upd (M 19) (cc M) (nI i) (cc M) = nI i from if_pos rfl]
  have h01 : hasC M a = 0 ∨ hasC M a = 1 := hasC_01 M a (cc M)
  split
  · rcases h01 with h | h <;> rw [h] <;> rfl
  · rcases h01 with h | h <;> rw [h] <;> rfl
theorem Inv.less {M : mM} {nd : Nat} {D : cD} (hI : Inv M nd D) {i j : Nat} (hi : i < nn M) (hj : j < kk M i) (hc2 : cc M < 24) {x : Int32} (hx : okI (M 14 (3 * i + j) - x) 10000) : Inv (lessM M i j x) nd D := by
  obtain ⟨h1, h2, h3, h4, h5, h6, h7, h8, h9, h10, h11, h12, h13, h14, h15⟩ := hI
  have e := cc_less h3 hc2 i j x
  refine ⟨h1, h2, ⟨?_, by rw [e]; omega⟩, h4, fun k hk => ?_, h6, h7, fun i' hi' j' hj' => ?_, h9, h10, h11, h12, h13, h14, h15⟩
  · rw [e]
    show M 18 0 + 1 = _
    rw [h3.1, nI_1]
  · rw [e] at hk
    show okI (upd (M 19) (cc M) (nI i) k) (nn M)
    by_cases ek : k = cc M
    · rw [show upd (M 19) (cc M) (nI i) k = nI i from if_pos ek]
      have e9 : kj (nI i) = i := nI_clamp (by have := h1.2; omega)
      exact ⟨by rw [e9], by rw [e9]; exact hi⟩
    · rw [show upd (M 19) (cc M) (nI i) k = M 19 k from if_neg ek]; exact h5 k (by omega)
  · refine ⟨?_, (h8 i' hi' j' hj').2⟩
    show okI (upd (M 14) (3 * i + j) (M 14 (3 * i + j) - x) (3 * i' + j')) 10000
    by_cases ek : 3 * i' + j' = 3 * i + j
    · rw [show upd (M 14) (3 * i + j) (M 14 (3 * i + j) - x) (3 * i' + j') = M 14 (3 * i + j) - x from if_pos ek]; exact hx
    · rw [show upd (M 14) (3 * i + j) (M 14 (3 * i + j) - x) (3 * i' + j') = M 14 (3 * i' + j') from if_neg ek]; exact (h8 i' hi' j' hj').1
set_option maxHeartbeats 4000000 in
set_option maxRecDepth 100000 in
theorem cq_X3_taxNow (l : Launch) (γ : kG) (L : List Nat) (F : kF) (r : Nat) (u y x z : Int32) (hr : r ∈ L) (hFr : F r = .inr (8, [.int u, .int y, .int x, .int z])) : kC l yX3_taxNow cX3_taxNow 1 (some .int) (kRm 1 0 0) γ L F [.ref r] (kI fun r L1 F1 => L = L1 ∧ F = F1 ∧ r = tx x y) := by
  refine kC_of (by decide +kernel) (Nat.le_of_ble_eq_true rfl) ?_
  intro p e s m args below meth c sz ls hargs hsz hM hin hE hX hl
  have hx := hM.1
  have hb := hM.2.1
  have hl : lv_has ls 1 [(0, .ref r)] := hl
  refine lv_aload_n hx hb dX3_taxNow_0 rfl (lv_at hl 0 rfl) ?_
  refine k_get hM hE hX hr hFr rfl 2 (by decide) inX3 k_579 (fun _ h => h) rfl dX3_taxNow_1 ?_
  refine lv_aload_n hx hb dX3_taxNow_4 rfl (lv_at hl 0 rfl) ?_
  refine k_get hM hE hX hr hFr rfl 1 (by decide) inX3 k_577 (fun _ h => h) rfl dX3_taxNow_5 ?_
  refine k_goi (k_SN (n := 2) (As := [.int x, .int y]) (rest := []) hM hE hX hl (c_X4_taxOf l γ L F x y) hE.2.1.2.2.2.1 k_255 k_1 k_256 ⟨by decide, by decide, by decide +kernel⟩ (by decide) rfl rfl (Nat.le_of_ble_eq_true rfl) dX3_taxNow_8 (by decide)) hE hX (fun r L1 F1 H locs hp hX => ?_)
  obtain ⟨rfl, rfl, rfl⟩ := hp
  exact k_iret hM hsz hX ⟨_, rfl, rfl, rfl, rfl⟩ (by decide) (by decide) dX3_taxNow_11
set_option maxHeartbeats 4000000 in
set_option maxRecDepth 100000 in
theorem c_X0_init (l : Launch) (γ : kG) (L : List Nat) (F : kF) (q r : Nat) (b x : Int32) (hq : q ∈ L) (hFq : F q = .inr (5, [.null, .int 0, .int 0])) : kC l yX0_init cX0_init 4 none (kRm 0 0 0) γ L F [.ref q, .ref r, .int b, .int x] (kU fun L1 F1 => L = L1 ∧ F1 = va_up F q (.inr (5, [.ref r, .int b, .int x]))) := by
  refine kC_of (by decide +kernel) (Nat.le_of_ble_eq_true rfl) ?_
  intro p e s m args below meth c sz ls hargs hsz hM hin hE hX hl
  have hx := hM.1
  have hb := hM.2.1
  have hl : lv_has ls 4 [(0, .ref q), (1, .ref r), (2, .int b), (3, .int x)] := hl
  refine lv_aload_n hx hb dX0_init_0 rfl (lv_at hl 0 rfl) ?_
  refine k_obj hM hl k_632 dX0_init_1 ⟨by decide, Nat.le_of_ble_eq_true rfl⟩ ?_
  refine lv_aload_n hx hb dX0_init_4 rfl (lv_at hl 0 rfl) ?_
  refine lv_aload_n hx hb dX0_init_5 rfl (lv_at hl 1 rfl) ?_
  refine k_put hM hE hX hq hFq rfl 0 (by decide) inX0 tyX0 tyX0_ok nmX0 k_633 (fun _ h => h) (Or.inr ⟨hin rfl, rfl⟩) rfl rfl (Nat.le_of_ble_eq_true rfl) dX0_init_6 (fun H locs hX => ?_)
  obtain ⟨F1, hX, eF1⟩ : ∃ F9 : kF, kX γ _ s _ F9 H locs ∧ F9 = va_up F q (.inr (5, [.ref r, .int 0, .int 0])) := ⟨_, hX, rfl⟩
  have f1_q : F1 q = .inr (5, [.ref r, .int 0, .int 0]) := by rw [eF1]; exact va_up_self _ _ _
  refine lv_aload_n hx hb dX0_init_9 rfl (lv_at hl 0 rfl) ?_
  refine lv_iload_n hx hb dX0_init_10 rfl (lv_at hl 2 rfl) ?_
  refine k_put hM hE hX hq f1_q rfl 1 (by decide) inX0 tyX0 tyX0_ok nmX0 k_634 (fun _ h => h) (Or.inr ⟨hin rfl, rfl⟩) rfl rfl (Nat.le_of_ble_eq_true rfl) dX0_init_11 (fun H locs hX => ?_)
  obtain ⟨F2, hX, eF2⟩ : ∃ F9 : kF, kX γ _ s _ F9 H locs ∧ F9 = va_up F1 q (.inr (5, [.ref r, .int b, .int 0])) := ⟨_, hX, rfl⟩
  have f2_q : F2 q = .inr (5, [.ref r, .int b, .int 0]) := by rw [eF2]; exact va_up_self _ _ _
  refine lv_aload_n hx hb dX0_init_14 rfl (lv_at hl 0 rfl) ?_
  refine lv_iload_n hx hb dX0_init_15 rfl (lv_at hl 3 rfl) ?_
  refine k_put hM hE hX hq f2_q rfl 2 (by decide) inX0 tyX0 tyX0_ok nmX0 k_635 (fun _ h => h) (Or.inr ⟨hin rfl, rfl⟩) rfl rfl (Nat.le_of_ble_eq_true rfl) dX0_init_16 (fun H locs hX => ?_)
  obtain ⟨F3, hX, eF3⟩ : ∃ F9 : kF, kX γ _ s _ F9 H locs ∧ F9 = va_up F2 q (.inr (5, [.ref r, .int b, .int x])) := ⟨_, hX, rfl⟩
  have f3_q : F3 q = .inr (5, [.ref r, .int b, .int x]) := by rw [eF3]; exact va_up_self _ _ _
  exact k_vret hM hsz hX ⟨rfl, rfl, by rw [eF3, eF2, eF1, bx_uu, bx_uu]⟩ (by decide) (by decide) dX0_init_19
