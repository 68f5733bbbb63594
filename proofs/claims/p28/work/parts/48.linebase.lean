def adL (ad : cAd) (i k q : Nat) : cAd := fun c a b => if c = 2 ∧ a = i ∧ b = k then q else ad c a b
section LN
variable {γ : kG} {L L1 : List Nat} {F F1 : kF} {o : Nat} {ad : cAd} {tg tg1 : cTg} {M M' : mM} {nd : Nat} {D : cD}
theorem RepC.ln (h : RepC γ L F o ad tg M nd D) {i q : Nat} {w : va_E} (hi : i < nn M) (hm : But L F tg L1 F1 tg1 (3 + i)) (hq : has L1 F1 tg1 q (2, i, kk M i) w) (hw : lC M' i (kk M i) = w)
    (hl : Lst γ L1 F1 tg1 (ad 5 (3 + i) 0) (3 + i) (kk M i + 1) (fun j => adL ad i (kk M i) q 2 i j)) (hn : nn M' = nn M) (hki : kk M' i = kk M i + 1) (hk : ∀ i', i' ≠ i → kk M' i' = kk M i') (hc : cc M' = cc M) (h0 : M' 0 0 = M 0 0) (ho : ∀ i', iC ad M' i' = iC ad M i') (hlC : ∀ i' j, i' < nn M → j < kk M i' → lC M' i' j = lC M i' j) (hr : ∀ k, rC ad M' k = rC ad M k) (h1 : M' 1 = M 1) (h22 : M' 22 0 = M 22 0) (h23 : M' 23 = M 23) : RepC γ L1 F1 o (adL ad i (kk M i) q) tg1 M' nd D := by
  obtain ⟨g0, g1, g2, g3, g4, l1, l2, l3, l4, g7, ⟨ml, g8⟩, g9⟩ := h
  refine ⟨?_, fun i' hi' => ?_, fun i' hi' j hj => ?_, fun k hk9 => ?_, fun d hd => (g4 d hd).but hm (tg_ne (by omega)) (tg_ne (by omega)), ?_, ?_, l3.but hm (by omega), fun i' hi' => ?_, ?_, ⟨ml, ?_⟩, ?_⟩
  · show has L1 F1 tg1 o (0, 0, 0) (oC ad M')
    unfold oC; rw [h0]; exact g0.but hm (tg_ne (by omega)) (tg_ne (by omega))
  · show has L1 F1 tg1 (ad 1 i' 0) (1, i', 0) (iC ad M' i')
    rw [hn] at hi'
    rw [ho i']; exact (g1 i' hi').but hm (tg_ne (by omega)) (tg_ne (by omega))
  · rw [hn] at hi'
    show has L1 F1 tg1 (adL ad i (kk M i) q 2 i' j) (2, i', j) (lC M' i' j)
    by_cases e : i' = i ∧ j = kk M i
    · obtain ⟨rfl, rfl⟩ := e
      rw [show adL ad i' (kk M i') q 2 i' (kk M i') = q from if_pos ⟨rfl, rfl, rfl⟩, hw]; exact hq
    · have hj2 : j < kk M i' := by
        by_cases e2 : i' = i
        · subst e2; rw [hki] at hj; omega
        · rw [hk i' e2] at hj; exact hj
      rw [show adL ad i (kk M i) q 2 i' j = ad 2 i' j from if_neg (fun h => e h.2), hlC i' j hi' hj2]
      exact (g2 i' hi' j hj2).but hm (tg_ne (by omega)) (tg_ne (by omega))
  · rw [hc] at hk9
    show has L1 F1 tg1 (ad 3 k 0) (3, k, 0) (rC ad M' k)
    rw [hr k]; exact (g3 k hk9).but hm (tg_ne (by omega)) (tg_ne (by omega))
  · rw [hn]; exact l1.but hm (by omega)
  · rw [hc]; exact l2.but hm (by omega)
  · rw [hn] at hi'
    show Lst γ L1 F1 tg1 (ad 5 (3 + i') 0) (3 + i') (kk M' i') (fun j => adL ad i (kk M i) q 2 i' j)
    by_cases e : i' = i
    · subst e; rw [hki]; exact hl
    · rw [hk i' e, show (fun j => adL ad i (kk M i) q 2 i' j) = (fun j => ad 2 i' j) from funext fun j => if_neg (fun h => e h.2.1)]
      exact (l4 i' hi').but hm (by omega)
  · show has L1 F1 tg1 (ad 7 0 0) (7, 0, 0) (.inl (γ.2.1 1, 6, .inl (M' 1)))
    rw [h1]; exact g7.but hm (tg_ne (by omega)) (tg_ne (by omega))
  · show has L1 F1 tg1 (ad 8 0 0) (8, 0, 0) (.inr (1, [.ref (ad 9 0 0), .int 0, .int ml, .int (M' 22 0)]))
    rw [h22]; exact g8.but hm (tg_ne (by omega)) (tg_ne (by omega))
  · show has L1 F1 tg1 (ad 9 0 0) (9, 0, 0) (.inl (γ.2.1 0, 16, .inl (M' 23)))
    rw [h23]; exact g9.but hm (tg_ne (by omega)) (tg_ne (by omega))
end LN
theorem kk_adds {M : mM} {i : Nat} (hk : okL M i) (x z : Int32) : kk (addsM M i x z) i = kk M i + 1 := by
  show (upd (M 13) i (M 13 i + 1) i).toNatClampNeg = _
  rw [show upd (M 13) i (M 13 i + 1) i = M 13 i + 1 from if_pos rfl, hk.1, nI_1]
  exact nI_clamp (by have := hk.2; omega)
theorem kk_adds_n {M : mM} {i i' : Nat} (h : i' ≠ i) (x z : Int32) : kk (addsM M i x z) i' = kk M i' := by
  show (upd (M 13) i (M 13 i + 1) i').toNatClampNeg = _
  rw [show upd (M 13) i (M 13 i + 1) i' = M 13 i' from if_neg h]; rfl
theorem Inv.adds {M : mM} {nd : Nat} {D : cD} (hI : Inv M nd D) {i : Nat} (hi : i < nn M) (h3 : kk M i < 3) {x z : Int32} (hx : okI x 10000) (hz : okI z 20) : Inv (addsM M i x z) nd D := by
  obtain ⟨h1, h2, h3', h4, h5, h6, h7, h8, h9, h10, h11, h12, h13, h14, h15⟩ := hI
  have ke := kk_adds (h2 i hi) x z
  have kn : ∀ i', i' ≠ i → kk (addsM M i x z) i' = kk M i' := fun i' h => kk_adds_n h x z
  refine ⟨h1, fun i' hi' => ?_, h3', h4, h5, h6, h7, fun i' hi' j' hj' => ?_, h9, fun k hk => ⟨(h10 k hk).1, (h10 k hk).2.1, (h10 k hk).2.2.1, ?_⟩, fun i' j' hk' hj' => ?_, h12, h13, fun i' hi' => ?_, h15⟩
  · by_cases e : i' = i
    · subst e
      refine ⟨?_, by rw [ke]; omega⟩
      rw [ke]
      show upd (M 13) i' (M 13 i' + 1) i' = _
      rw [show upd (M 13) i' (M 13 i' + 1) i' = M 13 i' + 1 from if_pos rfl, (h2 i' hi').1, nI_1]
    · refine ⟨?_, by rw [kn i' e]; exact (h2 i' hi').2⟩
      rw [kn i' e]
      show upd (M 13) i (M 13 i + 1) i' = _
      rw [show upd (M 13) i (M 13 i + 1) i' = M 13 i' from if_neg e]; exact (h2 i' hi').1
  · show okI (upd (M 14) (3 * i + kk M i) x (3 * i' + j')) 10000 ∧ okI (upd (M 15) (3 * i + kk M i) x (3 * i' + j')) 10000 ∧ okI (upd (M 16) (3 * i + kk M i) z (3 * i' + j')) 20
    by_cases e : 3 * i' + j' = 3 * i + kk M i
    · rw [show upd (M 14) (3 * i + kk M i) x (3 * i' + j') = x from if_pos e, show upd (M 15) (3 * i + kk M i) x (3 * i' + j') = x from if_pos e, show upd (M 16) (3 * i + kk M i) z (3 * i' + j') = z from if_pos e]
      exact ⟨hx, hx, hz⟩
    · rw [show upd (M 14) (3 * i + kk M i) x (3 * i' + j') = M 14 (3 * i' + j') from if_neg e, show upd (M 15) (3 * i + kk M i) x (3 * i' + j') = M 15 (3 * i' + j') from if_neg e, show upd (M 16) (3 * i + kk M i) z (3 * i' + j') = M 16 (3 * i' + j') from if_neg e]
      refine h8 i' hi' j' ?_
      by_cases e2 : i' = i
      · subst e2; rw [ke] at hj'; omega
      · rw [kn i' e2] at hj'; exact hj'
  · show upd (M 13) i (M 13 i + 1) k = 0
    rw [show upd (M 13) i (M 13 i + 1) k = M 13 k from if_neg (by have : nn M ≤ k := hk; omega)]; exact (h10 k hk).2.2.2
  · refine h11 i' j' ?_ hj'
    by_cases e2 : i' = i
    · subst e2; rw [ke] at hk'; omega
    · rw [kn i' e2] at hk'; exact hk'
  · by_cases e2 : i' = i
    · subst e2; rw [ke]; omega
    · rw [kn i' e2]; exact h14 i' hi'
theorem rate_ok {z : Int32} (h : z = 0 ∨ z = 7 ∨ z = 19) : okI z 20 := by rcases h with rfl | rfl | rfl <;> exact ⟨by decide, by decide⟩
set_option maxHeartbeats 4000000 in
set_option maxRecDepth 100000 in
theorem c_X3_init (l : Launch) (γ : kG) (L : List Nat) (F : kF) (q : Nat) (x y : Int32) (hq : q ∈ L) (hFq : F q = .inr (8, [.int 0, .int 0, .int 0, .int 0])) : kC l yX3_init cX3_init 3 none (kRm 0 0 0) γ L F [.ref q, .int x, .int y] (kU fun L1 F1 => L = L1 ∧ F1 = va_up F q (.inr (8, [.int x, .int y, .int x, .int 0]))) := by
  refine kC_of (by decide +kernel) (Nat.le_of_ble_eq_true rfl) ?_
  intro p e s m args below meth c sz ls hargs hsz hM hin hE hX hl
  have hx := hM.1
  have hb := hM.2.1
  have hl : lv_has ls 3 [(0, .ref q), (1, .int x), (2, .int y)] := hl
  refine lv_aload_n hx hb dX3_init_0 rfl (lv_at hl 0 rfl) ?_
  refine k_obj hM hl k_574 dX3_init_1 ⟨by decide, Nat.le_of_ble_eq_true rfl⟩ ?_
  refine lv_aload_n hx hb dX3_init_4 rfl (lv_at hl 0 rfl) ?_
  refine lv_iconst (v := 0) hx hb dX3_init_5 (by decide) ?_
  refine k_put hM hE hX hq hFq rfl 3 (by decide) inX3 tyX3 tyX3_ok nmX3 k_581 (fun _ h => h) (Or.inr ⟨hin rfl, rfl⟩) rfl rfl (Nat.le_of_ble_eq_true rfl) dX3_init_6 (fun H locs hX => ?_)
  obtain ⟨F1, hX, eF1⟩ : ∃ F9 : kF, kX γ _ s _ F9 H locs ∧ F9 = va_up F q (.inr (8, [.int 0, .int 0, .int 0, .int 0])) := ⟨_, hX, rfl⟩
  have f1_q : F1 q = .inr (8, [.int 0, .int 0, .int 0, .int 0]) := by rw [eF1]; exact va_up_self _ _ _
  refine lv_aload_n hx hb dX3_init_9 rfl (lv_at hl 0 rfl) ?_
  refine lv_iload_n hx hb dX3_init_10 rfl (lv_at hl 1 rfl) ?_
  refine k_put hM hE hX hq f1_q rfl 0 (by decide) inX3 tyX3 tyX3_ok nmX3 k_575 (fun _ h => h) (Or.inr ⟨hin rfl, rfl⟩) rfl rfl (Nat.le_of_ble_eq_true rfl) dX3_init_11 (fun H locs hX => ?_)
  obtain ⟨F2, hX, eF2⟩ : ∃ F9 : kF, kX γ _ s _ F9 H locs ∧ F9 = va_up F1 q (.inr (8, [.int x, .int 0, .int 0, .int 0])) := ⟨_, hX, rfl⟩
  have f2_q : F2 q = .inr (8, [.int x, .int 0, .int 0, .int 0]) := by rw [eF2]; exact va_up_self _ _ _
  refine lv_aload_n hx hb dX3_init_14 rfl (lv_at hl 0 rfl) ?_
  refine lv_iload_n hx hb dX3_init_15 rfl (lv_at hl 2 rfl) ?_
  refine k_put hM hE hX hq f2_q rfl 1 (by decide) inX3 tyX3 tyX3_ok nmX3 k_577 (fun _ h => h) (Or.inr ⟨hin rfl, rfl⟩) rfl rfl (Nat.le_of_ble_eq_true rfl) dX3_init_16 (fun H locs hX => ?_)
  obtain ⟨F3, hX, eF3⟩ : ∃ F9 : kF, kX γ _ s _ F9 H locs ∧ F9 = va_up F2 q (.inr (8, [.int x, .int y, .int 0, .int 0])) := ⟨_, hX, rfl⟩
  have f3_q : F3 q = .inr (8, [.int x, .int y, .int 0, .int 0]) := by rw [eF3]; exact va_up_self _ _ _
  refine lv_aload_n hx hb dX3_init_19 rfl (lv_at hl 0 rfl) ?_
  refine lv_iload_n hx hb dX3_init_20 rfl (lv_at hl 1 rfl) ?_
  refine k_put hM hE hX hq f3_q rfl 2 (by decide) inX3 tyX3 tyX3_ok nmX3 k_579 (fun _ h => h) (Or.inr ⟨hin rfl, rfl⟩) rfl rfl (Nat.le_of_ble_eq_true rfl) dX3_init_21 (fun H locs hX => ?_)
  obtain ⟨F4, hX, eF4⟩ : ∃ F9 : kF, kX γ _ s _ F9 H locs ∧ F9 = va_up F3 q (.inr (8, [.int x, .int y, .int x, .int 0])) := ⟨_, hX, rfl⟩
  have f4_q : F4 q = .inr (8, [.int x, .int y, .int x, .int 0]) := by rw [eF4]; exact va_up_self _ _ _
  exact k_vret hM hsz hX ⟨rfl, rfl, by rw [eF4, eF3, eF2, eF1, bx_uu, bx_uu, bx_uu]⟩ (by decide) (by decide) dX3_init_24
