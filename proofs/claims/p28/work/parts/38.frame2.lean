/-! writes of one object, told by the table -/
section F2
variable {γ : kG} {L L1 : List Nat} {F F1 : kF} {o : Nat} {ad : cAd} {tg tg1 : cTg} {M M' : mM} {nd : Nat} {D : cD}
theorem RepC.wtoday (h : RepC γ L F o ad tg M nd D) {v : va_E} (hv : oC ad M' = v) (hn : nn M' = nn M) (hk : ∀ i, kk M' i = kk M i) (hc : cc M' = cc M) (ho : ∀ i, iC ad M' i = iC ad M i) (hl : ∀ i j, lC M' i j = lC M i j) (hr : ∀ k, rC ad M' k = rC ad M k) (h1 : M' 1 = M 1) (h22 : M' 22 0 = M 22 0) (h23 : M' 23 = M 23) : RepC γ L (va_up F o v) o ad tg M' nd D :=
  h.write h.1.1 h.1.2.1 (fun _ => tg_ne (by omega)) (fun _ => tg_ne (by omega)) hn (fun i _ => hk i) hc (Or.inl ⟨rfl, hv⟩) (fun i _ => Or.inr ⟨tg_ne (by omega), ho i⟩) (fun i _ j _ => Or.inr ⟨tg_ne (by omega), hl i j⟩) (fun k _ => ⟨tg_ne (by omega), hr k⟩) (fun d _ => tg_ne (by omega)) (Or.inr ⟨tg_ne (by omega), h1⟩) (Or.inr ⟨tg_ne (by omega), h22⟩) (Or.inr ⟨tg_ne (by omega), h23⟩)
theorem RepC.winv (h : RepC γ L F o ad tg M nd D) {i : Nat} (hi : i < nn M) {v : va_E} (hv : iC ad M' i = v) (hn : nn M' = nn M) (hk : ∀ i, kk M' i = kk M i) (hc : cc M' = cc M) (h0 : M' 0 0 = M 0 0) (ho : ∀ i', i' ≠ i → iC ad M' i' = iC ad M i') (hl : ∀ i j, lC M' i j = lC M i j) (hr : ∀ k, rC ad M' k = rC ad M k) (h1 : M' 1 = M 1) (h22 : M' 22 0 = M 22 0) (h23 : M' 23 = M 23) : RepC γ L (va_up F (ad 1 i 0) v) o ad tg M' nd D := by
  have h9 := h.2.1 i hi
  refine h.write h9.1 h9.2.1 (fun _ => tg_ne (by omega)) (fun _ => tg_ne (by omega)) hn (fun i _ => hk i) hc (Or.inr ⟨tg_ne (by omega), by unfold oC; rw [h0]⟩) (fun i' _ => ?_) (fun i _ j _ => Or.inr ⟨tg_ne (by omega), hl i j⟩) (fun k _ => ⟨tg_ne (by omega), hr k⟩) (fun d _ => tg_ne (by omega)) (Or.inr ⟨tg_ne (by omega), h1⟩) (Or.inr ⟨tg_ne (by omega), h22⟩) (Or.inr ⟨tg_ne (by omega), h23⟩)
  by_cases e : i' = i
  · subst e; exact Or.inl ⟨rfl, hv⟩
  · exact Or.inr ⟨tg_ne (by omega), ho i' e⟩
theorem RepC.wline (h : RepC γ L F o ad tg M nd D) {i j : Nat} (hi : i < nn M) (hj : j < kk M i) {v : va_E} (hv : lC M' i j = v) (hn : nn M' = nn M) (hk : ∀ i, kk M' i = kk M i) (hc : cc M' = cc M) (h0 : M' 0 0 = M 0 0) (ho : ∀ i', iC ad M' i' = iC ad M i') (hl : ∀ i' j', i' < nn M → j' < kk M i' → ¬ (i' = i ∧ j' = j) → lC M' i' j' = lC M i' j') (hr : ∀ k, rC ad M' k = rC ad M k) (h1 : M' 1 = M 1) (h22 : M' 22 0 = M 22 0) (h23 : M' 23 = M 23) : RepC γ L (va_up F (ad 2 i j) v) o ad tg M' nd D := by
  have h9 := h.2.2.1 i hi j hj
  refine h.write h9.1 h9.2.1 (fun _ => tg_ne (by omega)) (fun _ => tg_ne (by omega)) hn (fun i _ => hk i) hc (Or.inr ⟨tg_ne (by omega), by unfold oC; rw [h0]⟩) (fun i' _ => Or.inr ⟨tg_ne (by omega), ho i'⟩) (fun i' hi' j' hj' => ?_) (fun k _ => ⟨tg_ne (by omega), hr k⟩) (fun d _ => tg_ne (by omega)) (Or.inr ⟨tg_ne (by omega), h1⟩) (Or.inr ⟨tg_ne (by omega), h22⟩) (Or.inr ⟨tg_ne (by omega), h23⟩)
  by_cases e : i' = i ∧ j' = j
  · obtain ⟨rfl, rfl⟩ := e; exact Or.inl ⟨rfl, hv⟩
  · exact Or.inr ⟨tg_ne (by omega), hl i' j' hi' hj' e⟩
theorem RepC.wcash (h : RepC γ L F o ad tg M nd D) {v : va_E} (hv : .inl (γ.2.1 1, 6, .inl (M' 1)) = v) (hn : nn M' = nn M) (hk : ∀ i, kk M' i = kk M i) (hc : cc M' = cc M) (h0 : M' 0 0 = M 0 0) (ho : ∀ i, iC ad M' i = iC ad M i) (hl : ∀ i j, lC M' i j = lC M i j) (hr : ∀ k, rC ad M' k = rC ad M k) (h22 : M' 22 0 = M 22 0) (h23 : M' 23 = M 23) : RepC γ L (va_up F (ad 7 0 0) v) o ad tg M' nd D := by
  have h9 := h.2.2.2.2.2.2.2.2.2.1
  exact h.write h9.1 h9.2.1 (fun _ => tg_ne (by omega)) (fun _ => tg_ne (by omega)) hn (fun i _ => hk i) hc (Or.inr ⟨tg_ne (by omega), by unfold oC; rw [h0]⟩) (fun i _ => Or.inr ⟨tg_ne (by omega), ho i⟩) (fun i _ j _ => Or.inr ⟨tg_ne (by omega), hl i j⟩) (fun k _ => ⟨tg_ne (by omega), hr k⟩) (fun d _ => tg_ne (by omega)) (Or.inl ⟨rfl, hv⟩) (Or.inr ⟨tg_ne (by omega), h22⟩) (Or.inr ⟨tg_ne (by omega), h23⟩)
theorem RepC.wsb (h : RepC γ L F o ad tg M nd D) {ml x : Int32} (hx : M' 22 0 = x) (hn : nn M' = nn M) (hk : ∀ i, kk M' i = kk M i) (hc : cc M' = cc M) (h0 : M' 0 0 = M 0 0) (ho : ∀ i, iC ad M' i = iC ad M i) (hl : ∀ i j, lC M' i j = lC M i j) (hr : ∀ k, rC ad M' k = rC ad M k) (h1 : M' 1 = M 1) (h23 : M' 23 = M 23) : RepC γ L (va_up F (ad 8 0 0) (.inr (1, [.ref (ad 9 0 0), .int 0, .int ml, .int x]))) o ad tg M' nd D := by
  obtain ⟨ml0, h9⟩ := h.2.2.2.2.2.2.2.2.2.2.1
  exact h.write h9.1 h9.2.1 (fun _ => tg_ne (by omega)) (fun _ => tg_ne (by omega)) hn (fun i _ => hk i) hc (Or.inr ⟨tg_ne (by omega), by unfold oC; rw [h0]⟩) (fun i _ => Or.inr ⟨tg_ne (by omega), ho i⟩) (fun i _ j _ => Or.inr ⟨tg_ne (by omega), hl i j⟩) (fun k _ => ⟨tg_ne (by omega), hr k⟩) (fun d _ => tg_ne (by omega)) (Or.inr ⟨tg_ne (by omega), h1⟩) (Or.inl ⟨rfl, ml, by rw [hx]⟩) (Or.inr ⟨tg_ne (by omega), h23⟩)
theorem RepC.wby (h : RepC γ L F o ad tg M nd D) {v : va_E} (hv : .inl (γ.2.1 0, 16, .inl (M' 23)) = v) (hn : nn M' = nn M) (hk : ∀ i, kk M' i = kk M i) (hc : cc M' = cc M) (h0 : M' 0 0 = M 0 0) (ho : ∀ i, iC ad M' i = iC ad M i) (hl : ∀ i j, lC M' i j = lC M i j) (hr : ∀ k, rC ad M' k = rC ad M k) (h1 : M' 1 = M 1) (h22 : M' 22 0 = M 22 0) : RepC γ L (va_up F (ad 9 0 0) v) o ad tg M' nd D := by
  have h9 := h.2.2.2.2.2.2.2.2.2.2.2
  exact h.write h9.1 h9.2.1 (fun _ => tg_ne (by omega)) (fun _ => tg_ne (by omega)) hn (fun i _ => hk i) hc (Or.inr ⟨tg_ne (by omega), by unfold oC; rw [h0]⟩) (fun i _ => Or.inr ⟨tg_ne (by omega), ho i⟩) (fun i _ j _ => Or.inr ⟨tg_ne (by omega), hl i j⟩) (fun k _ => ⟨tg_ne (by omega), hr k⟩) (fun d _ => tg_ne (by omega)) (Or.inr ⟨tg_ne (by omega), h1⟩) (Or.inr ⟨tg_ne (by omega), h22⟩) (Or.inl ⟨rfl, hv⟩)
/-- what a writer's answer says of the world behind it -/
def After (γ : kG) (L : List Nat) (o : Nat) (nd : Nat) (MC : Int32 × mM) (r : Int32) (L1 : List Nat) (F1 : kF) : Prop :=
  ∃ (M1 : mM) (ad1 : cAd) (tg1 : cTg) (nd1 : Nat) (D1 : cD), MC = (r, M1) ∧ M1 24 0 = 0 ∧ (∀ b ∈ L, b ∈ L1) ∧ RepC γ L1 F1 o ad1 tg1 M1 nd1 D1 ∧ Inv M1 nd1 D1 ∧ nd1 ≤ nd + 1
theorem Inv.s17 (hI : Inv M nd D) {i j : Nat} (hi : i < nn M) (hj : j < kk M i) {x : Int32} (hx : x = 0 ∨ x = 1) : Inv (mset (mset M 24 0 0) 17 (3 * i + j) x) nd D := by
  obtain ⟨h1, h2, h3, h4, h5, h6, h7, h8, h9, h10, h11, h12, h13, h14, h15⟩ := hI
  refine ⟨h1, h2, h3, h4, h5, h6, h7, h8, h9, h10, fun i' j' hk' hj' => ?_, h12, fun i' => ?_, h14, h15⟩
  · have hk3 := (h2 i hi).2
    have hne : ¬ (17 = 17 ∧ 3 * i' + j' = 3 * i + j) := by
      rintro ⟨-, e⟩
      have e1 : i' = i := by omega
      subst e1
      have : kk M i' ≤ j' := hk'
      omega
    rw [mset_n _ _ hne]
    exact h11 i' j' hk' hj'
  · by_cases e : i' = 3 * i + j
    · subst e; rw [mset_s]; exact hx
    · rw [mset_n _ _ (fun h => e h.2)]; exact h13 i'
theorem Inv.day (hI : Inv M nd D) {x : Int32} (hx : okI x 1000) : Inv (mset (mset M 24 0 0) 0 0 x) nd D := by
  obtain ⟨h1, h2, h3, h4, h5, h6, h7, h8, h9, h10, h11, h12, h13, h14, h15⟩ := hI
  exact ⟨h1, h2, h3, h4, h5, h6, by rw [mset_s]; exact hx, h8, h9, h10, h11, h12, h13, h14, h15⟩
theorem Inv.clr (hI : Inv M nd D) : Inv (mset (mset M 24 0 0) 22 0 0) nd D := by
  obtain ⟨h1, h2, h3, h4, h5, h6, h7, h8, h9, h10, h11, h12, h13, h14, h15⟩ := hI
  have e : dd (mset (mset M 24 0 0) 22 0 0) = 0 := rfl
  exact ⟨h1, h2, h3, ⟨by rw [e, mset_s]; rfl, by rw [e]; decide⟩, h5, h6, h7, h8, fun j hj => absurd hj (by rw [e]; omega), h10, h11, h12, h13, h14, h15⟩
theorem Inv.typ (hI : Inv M nd D) {a : Int32} (ha : okI a 127) (hd : dd M < 10) : Inv (mset (mset (mset M 24 0 0) 23 (dd M) a) 22 0 (M 22 0 + 1)) nd D := by
  obtain ⟨h1, h2, h3, h4, h5, h6, h7, h8, h9, h10, h11, h12, h13, h14, h15⟩ := hI
  have e0 : M 22 0 + 1 = nI (dd M + 1) := by rw [h4.1, nI_1]
  have e : dd (mset (mset (mset M 24 0 0) 23 (dd M) a) 22 0 (M 22 0 + 1)) = dd M + 1 := by
    show (M 22 0 + 1).toNatClampNeg = _
    rw [e0]; exact nI_clamp (by omega)
  refine ⟨h1, h2, h3, ⟨by rw [e, mset_s]; exact e0, by rw [e]; omega⟩, h5, h6, h7, h8, fun j hj => ?_, h10, h11, h12, h13, h14, h15⟩
  rw [e] at hj
  show okI ((mset (mset M 24 0 0) 23 (dd M) a) 23 j) 127
  by_cases ej : j = dd M
  · subst ej; rw [mset_s]; exact ha
  · rw [mset_n _ _ (fun h => ej h.2)]; exact h9 j (by omega)
end F2
