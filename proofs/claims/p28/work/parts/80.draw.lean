/-! the drawn loop: what the class's invariant lacks, and that every call keeps it -/
def sum6 (M : mM) : Int32 := (((((0 + M 1 0) + M 1 1) + M 1 2) + M 1 3) + M 1 4) + M 1 5
def Xt (M : mM) : Prop := sum6 M = 0 ∧ (∀ i, i < nn M → M 6 i = 0 → M 12 i = 0 ∧ ∀ j, j < 3 → M 17 (3 * i + j) = 0) ∧ (∀ i, i < nn M → M 9 i ≠ M 4 i) ∧ (∀ i, okI (M 12 i) 35695)
theorem kjn {i : Nat} (h : i < 2 ^ 31) : kj (nI i) = i := nI_clamp h
theorem in_lo {x : Int32} {n i : Nat} (hx : x = nI n) (hn : n < 1000) (hi : i < n) : 0 ≤ nI i ∧ nI i ≤ x - 1 := by
  refine ⟨nI_pos' (by omega), ?_⟩
  rw [hx, show (1 : Int32) = nI 1 from rfl, pk_sub (by omega)]
  exact nI_le (by omega) (by omega)
theorem in_co {a b : Nat} (h : a ≤ b) (hb : b < 2 ^ 31) : 0 ≤ nI a ∧ nI a ≤ nI b := ⟨nI_pos' (by omega), nI_le h hb⟩
theorem c05 {a : Nat} (h : a < 6) : 0 ≤ nI a ∧ nI a ≤ 5 := in_co (b := 5) (by omega) (by decide)
theorem c07 {a : Nat} (h : a < 8) : 0 ≤ nI a ∧ nI a ≤ 7 := in_co (b := 7) (by omega) (by decide)
theorem c99 {x : Nat} (h : 1 ≤ x ∧ x < 1001) : 1 ≤ nI x ∧ nI x ≤ 9999 := ⟨nI_le (a := 1) h.1 (by omega), nI_le (b := 9999) (by omega) (by decide)⟩
theorem lf_congr {f g : Nat → Int32 → Int32} {s : Int32} : ∀ {n : Nat}, (∀ j x, j < n → f j x = g j x) → l_fold f s n = l_fold g s n
  | 0, _ => rfl
  | k + 1, h => by
    rw [l_fold, l_fold, h k _ (Nat.lt_succ_self k), lf_congr (fun j x hj => h j x (Nat.lt_succ_of_lt hj))]
theorem sub_clip {c q : Nat} (hc : c < 2 ^ 30) (hq : q < 2 ^ 30) : (if nI c - nI q ≤ 0 then 0 else nI c - nI q) = nI (c - q) := by
  by_cases h : c ≤ q
  · rw [if_pos (by rw [Int32.le_iff_toInt_le, pk_sub_toInt hc hq]; show _ ≤ (0 : Int); omega), show c - q = 0 by omega]
    rfl
  · rw [if_neg (by rw [Int32.le_iff_toInt_le, pk_sub_toInt hc hq]; show ¬ _ ≤ (0 : Int); omega), pk_sub (by omega)]
theorem sum6_up {M M' : mM} {f : Nat} {x : Int32} (hf : f < 6) (h : M' 1 = upd (M 1) f (M 1 f + x)) : sum6 M' = sum6 M + x := by
  unfold sum6
  rw [h]
  have e : ∀ j, upd (M 1) f (M 1 f + x) j = if j = f then M 1 f + x else M 1 j := fun j => rfl
  simp only [e]
  match f, hf with
  | 0, _ => simp only [if_true, if_false, Nat.reduceEqDiff, reduceIte]; grind
  | 1, _ => simp only [if_true, if_false, Nat.reduceEqDiff, reduceIte]; grind
  | 2, _ => simp only [if_true, if_false, Nat.reduceEqDiff, reduceIte]; grind
  | 3, _ => simp only [if_true, if_false, Nat.reduceEqDiff, reduceIte]; grind
  | 4, _ => simp only [if_true, if_false, Nat.reduceEqDiff, reduceIte]; grind
  | 5, _ => simp only [if_true, if_false, Nat.reduceEqDiff, reduceIte]; grind
theorem sum6_of {M M' : mM} (h : M' 1 = M 1) : sum6 M' = sum6 M := by unfold sum6; rw [h]
theorem sum6_moves {M : mM} {f g : Nat} {x : Int32} (hf : f < 6) (hg : g < 6) : sum6 (movesM M f g x) = sum6 M := by
  have h1 : sum6 (mset M 1 f (M 1 f - x)) = sum6 M + (-x) := sum6_up hf (by show upd (M 1) f _ = _; rw [Int32.sub_eq_add_neg])
  have h2 : sum6 (movesM M f g x) = sum6 (mset M 1 f (M 1 f - x)) + x := sum6_up hg rfl
  rw [h2, h1]
  grind
section DR
variable {M : mM} {nd : Nat} {D : cD} {i j : Nat}
theorem ixn (hI : Inv M nd D) (hi : i < nn M) : 0 ≤ nI i ∧ nI i ≤ M 2 0 - 1 := in_lo hI.1.1 (by have := hI.1.2; omega) hi
theorem lxn (hI : Inv M nd D) (hj : j < kk M i) : 0 ≤ nI j ∧ nI j ≤ M 13 i - 1 := in_lo (hI.k3 i).1 (by have := (hI.k3 i).2; omega) hj
theorem i31 (hI : Inv M nd D) (hi : i < nn M) : i < 2 ^ 31 := by have := hI.1.2; omega
theorem j31 (hI : Inv M nd D) (hj : j < kk M i) : j < 2 ^ 31 := by have := (hI.k3 i).2; omega
theorem iln (hI : Inv M nd D) (hi : i < nn M) (hj : j < kk M i) : (0 ≤ nI i ∧ nI i ≤ M 2 0 - 1) ∧ 0 ≤ nI j ∧ nI j ≤ M 13 (kj (nI i)) - 1 := by
  rw [kjn (i31 hI hi)]
  exact ⟨ixn hI hi, lxn hI hj⟩
theorem okI_costs (hI : Inv M nd D) (hi : i < nn M) (w : Int32) : okI (costs M i w) 35695 := by
  have hk := hI.2.1 i hi
  have key : ∀ j, j ≤ kk M i → okI (l_fold (costs_st M i w) 0 j) (11898 * j + 1) := by
    intro j
    induction j with
    | zero => intro _; exact ⟨rfl, by show kj 0 < 11898 * 0 + 1; decide⟩
    | succ j ih =>
      intro hj
      have h1 := ih (by omega)
      have h2 := hI.2.2.2.2.2.2.2.1 i hi j (by omega)
      have h3 := okI_add (m := 9999) (n := 1899) h2.1 (okI_tx h2.1 h2.2.2) (by decide)
      have h4 := okI_add (m := 11898 * j) (n := 11898) h1 h3 (by have := hk.2; omega)
      rw [l_fold]
      generalize l_fold (costs_st M i w) 0 j = y at h1 h4
      unfold costs_st
      split
      · split
        · exact okI_mono h4 (by omega)
        · rw [Int32.add_zero]; exact okI_mono h1 (by omega)
      · exact okI_mono h4 (by omega)
  exact okI_mono (key _ (Nat.le_refl _)) (by have := hk.2; omega)
theorem costs_nd (hI : Inv M nd D) (hi : i < nn M) (h : ∀ j, j < 3 → M 17 (3 * i + j) = 0) : costs M i 0 = costs M i 1 := by
  have hk := (hI.2.1 i hi).2
  unfold costs
  refine lf_congr fun j x hj => ?_
  unfold costs_st
  rw [if_pos rfl, if_pos (h j (by omega)), if_neg (by decide)]
theorem owed_eq (hI : Inv M nd D) (hX : Xt M) (hi : i < nn M) : owed M i = if M 6 i = 1 then nI (kj (costs M i 0) - kj (M 12 i)) else 0 := by
  have h1 := okI_costs hI hi 0
  have h2 := hX.2.2.2 i
  unfold owed
  split
  · conv => lhs; rw [h1.1, h2.1]
    exact sub_clip (by have := h1.2; omega) (by have := h2.2; omega)
  · rfl
theorem okI_owed (hI : Inv M nd D) (hX : Xt M) (hi : i < nn M) : okI (owed M i) 35695 := by
  have h1 := okI_costs hI hi 0
  have h3 := h1.2
  rw [owed_eq hI hX hi]
  split
  · exact ⟨by rw [kjn (by omega)], by rw [kjn (by omega)]; omega⟩
  · exact ⟨rfl, by show kj 0 < 35695; decide⟩
/-- about, as it is told -/
theorem ab_t (hI : Inv M nd D) (hz : M 24 0 = 0) (hi : i < nn M) : ((aboutM M (nI i) 0).1 = M 6 i ∧ (aboutM M (nI i) 0).2 24 0 = 0) ∧ ((aboutM M (nI i) 1).1 = M 3 i ∧ (aboutM M (nI i) 1).2 24 0 = 0) ∧ ((aboutM M (nI i) 2).1 = M 4 i ∧ (aboutM M (nI i) 2).2 24 0 = 0) ∧ ((aboutM M (nI i) 3).1 = M 9 i ∧ (aboutM M (nI i) 3).2 24 0 = 0) ∧ ((aboutM M (nI i) 4).1 = costs M i 1 ∧ (aboutM M (nI i) 4).2 24 0 = 0) ∧ ((aboutM M (nI i) 5).1 = owed M i ∧ (aboutM M (nI i) 5).2 24 0 = 0) ∧ ((aboutM M (nI i) 7).1 = M 13 i ∧ (aboutM M (nI i) 7).2 24 0 = 0) := by
  have h := ixn hI hi
  have e := kjn (i31 hI hi)
  simp only [aboutM, if_pos h, e, mset_24 hz]
  refine ⟨?_, ?_, ?_, ?_, ?_, ?_, ?_⟩ <;> simp (decide := true) [hz]
theorem ln_t (hI : Inv M nd D) (hz : M 24 0 = 0) (hi : i < nn M) (hj : j < kk M i) : (lineOfM M (nI i) (nI j) 0).1 = M 14 (3 * i + j) ∧ (lineOfM M (nI i) (nI j) 0).2 24 0 = 0 := by
  rw [lineOfM, if_pos (iln hI hi hj), kjn (i31 hI hi), kjn (j31 hI hj), if_pos (show (0 : Int32) ≤ 0 ∧ (0 : Int32) ≤ 4 from by decide), if_pos rfl, mset_24 hz]
  exact ⟨rfl, hz⟩
theorem x_send (hI : Inv M nd D) (hX : Xt M) (hz : M 24 0 = 0) {a b g x : Nat} {r : Int32} (ha : a < 6) (hb : b < 6) (hg : g < 8) (hx : 1 ≤ x ∧ x < 1001) (hr : r = 0 ∨ r = 7 ∨ r = 19) (hab : a ≠ b) (hn : nn M < 20) : ∃ M1, sendM M (nI a) (nI b) (nI g) (nI x) r = (nI (nn M), M1) ∧ M1 24 0 = 0 ∧ Xt M1 ∧ M1 2 0 = nI (nn M + 1) := by
  have c5 : ¬ nI a = nI b := fun e => hab ((nI_eq (by omega) (by omega)).mp e)
  have c6 : ¬ M 2 0 = 20 := fun e => by
    rw [hI.1.1] at e
    have := (nI_eq (a := nn M) (b := 20) (by omega) (by decide)).mp e
    omega
  have h13 : M 13 (nn M) = 0 := (hI.2.2.2.2.2.2.2.2.2.1 (nn M) (Nat.le_refl _)).2.2.2
  have hk0 : kk M (nn M) = 0 := by unfold kk; rw [h13]; rfl
  rw [sendM, if_pos (c05 ha), if_pos (c05 hb), if_pos (c07 hg), if_pos ⟨c99 hx, hr⟩, if_neg c5, if_neg c6]
  refine ⟨_, Prod.ext ?_ rfl, ?_, ⟨hX.1, fun i hi h6 => ?_, fun i hi => ?_, hX.2.2.2⟩, ?_⟩
  · show M 2 0 + 1 - 1 = _
    rw [hI.1.1, nI_1, nI_pred]
  · exact mset_s M 24 0 0
  · have hn1 : i < nn M + 1 := by
      have : (M 2 0 + 1).toNatClampNeg = nn M + 1 := by rw [hI.1.1, nI_1]; exact nI_clamp (by omega)
      rw [← this]; exact hi
    show M 12 i = 0 ∧ ∀ j, j < 3 → M 17 (3 * i + j) = 0
    by_cases e : i = nn M
    · subst e
      exact ⟨(hI.2.2.2.2.2.2.2.2.2.1 (nn M) (Nat.le_refl _)).2.2.1, fun j hj => hI.2.2.2.2.2.2.2.2.2.2.1 _ j (by omega) hj⟩
    · have h6' : M 6 i = 0 := (show (if i = nn M then (0 : Int32) else M 6 i) = 0 from h6) ▸ (if_neg e).symm
      exact hX.2.1 i (by omega) h6'
  · have hn1 : i < nn M + 1 := by
      have : (M 2 0 + 1).toNatClampNeg = nn M + 1 := by rw [hI.1.1, nI_1]; exact nI_clamp (by omega)
      rw [← this]; exact hi
    show (if i = nn M then nI a else M 9 i) ≠ (if i = nn M then nI b else M 4 i)
    by_cases e : i = nn M
    · rw [if_pos e, if_pos e]; exact c5
    · rw [if_neg e, if_neg e]; exact hX.2.2.1 i (by omega)
  · show M 2 0 + 1 = _
    rw [hI.1.1, nI_1]
theorem x_sendF (hI : Inv M nd D) {a b g x : Nat} {r : Int32} (ha : a < 6) (hb : b < 6) (hg : g < 8) (hx : 1 ≤ x ∧ x < 1001) (hr : r = 0 ∨ r = 7 ∨ r = 19) (hab : a ≠ b) (hn : ¬ nn M < 20) : (sendM M (nI a) (nI b) (nI g) (nI x) r).2 24 0 = 3 := by
  have c5 : ¬ nI a = nI b := fun e => hab ((nI_eq (by omega) (by omega)).mp e)
  have hn2 := hI.1.2
  have c6 : M 2 0 = 20 := by rw [hI.1.1, show nn M = 20 by omega]; rfl
  rw [sendM, if_pos (c05 ha), if_pos (c05 hb), if_pos (c07 hg), if_pos ⟨c99 hx, hr⟩, if_neg c5, if_pos c6]
  exact mset_s M 24 0 3
theorem x_sendE {a b g x : Nat} {r : Int32} (ha : a < 6) (hb : b < 6) (hg : g < 8) (hx : 1 ≤ x ∧ x < 1001) (hr : r = 0 ∨ r = 7 ∨ r = 19) (hab : a = b) : (sendM M (nI a) (nI b) (nI g) (nI x) r).2 24 0 = 2 :=
  tw_send_e (c05 ha) (c05 hb) (c07 hg) ⟨c99 hx, hr⟩ (by rw [hab])
theorem x_addLine (hI : Inv M nd D) (hX : Xt M) (hi : i < nn M) {x : Nat} (hx : 1 ≤ x ∧ x < 1001) : (∃ M1, addLineM M (nI i) (nI x) 7 = (M 13 i, M1) ∧ M1 24 0 = 0 ∧ Xt M1 ∧ M1 2 0 = M 2 0 ∧ M1 13 i = M 13 i + 1) ∨ (addLineM M (nI i) (nI x) 7).2 24 0 = 3 := by
  rw [addLineM, if_pos (ixn hI hi), if_pos ⟨c99 hx, Or.inr (Or.inl rfl)⟩, kjn (i31 hI hi)]
  by_cases c1 : M 6 i = 0
  · rw [if_pos c1]
    by_cases c2 : M 7 i = M 0 0
    · rw [if_pos c2]
      by_cases c3 : M 13 i = 3
      · rw [if_pos c3]; exact Or.inr (mset_s (mset M 24 0 0) 24 0 3)
      · rw [if_neg c3]
        by_cases c4 : hasC (mset M 24 0 0) (nI i) = 0
        · rw [if_pos c4]
          refine Or.inl ⟨_, Prod.ext ?_ rfl, mset_s (mset M 24 0 0) 24 0 0, ⟨hX.1, hX.2.1, hX.2.2.1, hX.2.2.2⟩, rfl, ?_⟩
          · show addsM _ i _ _ 13 i - 1 = M 13 i
            rw [show addsM (mset (mset M 24 0 0) 24 0 0) i (nI x) 7 13 i = M 13 i + 1 from mset_s _ 13 i _, (hI.k3 i).1, nI_1, nI_pred]
          · exact mset_s _ 13 i _
        · rw [if_neg c4]; exact Or.inr (mset_s (mset M 24 0 0) 24 0 3)
    · rw [if_neg c2]; exact Or.inr (mset_s (mset M 24 0 0) 24 0 3)
  · rw [if_neg c1]; exact Or.inr (mset_s (mset M 24 0 0) 24 0 3)
theorem x_accept (hI : Inv M nd D) (hX : Xt M) (hi : i < nn M) : (M 6 i = 0 ∧ ∃ M1, acceptM M (nI i) = (costs M i 1, M1) ∧ M1 24 0 = 0 ∧ Xt M1 ∧ M1 2 0 = M 2 0 ∧ costs M1 i 1 = costs M i 1) ∨ (M 6 i ≠ 0 ∧ (acceptM M (nI i)).2 24 0 = 2) := by
  rw [acceptM, if_pos (ixn hI hi), kjn (i31 hI hi)]
  by_cases c1 : M 6 i = 0
  · rw [if_pos c1]
    obtain ⟨h12, h17⟩ := hX.2.1 i hi c1
    have hc := okI_costs hI hi 0
    refine Or.inl ⟨c1, _, Prod.ext ?_ rfl, mset_s M 24 0 0, ⟨hX.1, fun i' hi' h6 => ?_, hX.2.2.1, hX.2.2.2⟩, rfl, rfl⟩
    · show (if (if i = i then (1 : Int32) else M 6 i) = 1 then (if costs M i 0 - M 12 i ≤ 0 then 0 else costs M i 0 - M 12 i) else 0) = costs M i 1
      rw [if_pos rfl, if_pos rfl, h12, ← costs_nd hI hi h17]
      conv => lhs; rw [hc.1]
      refine (sub_clip (c := kj (costs M i 0)) (q := 0) (by have := hc.2; omega) (by decide)).trans ?_
      rw [Nat.sub_zero]
      exact hc.1.symm
    · show M 12 i' = 0 ∧ ∀ j, j < 3 → M 17 (3 * i' + j) = 0
      by_cases e : i' = i
      · subst e; exact ⟨h12, h17⟩
      · have h6' : M 6 i' = 0 := (show (if i' = i then (1 : Int32) else M 6 i') = 0 from h6) ▸ (if_neg e).symm
        exact hX.2.1 i' hi' h6'
  · rw [if_neg c1]; exact Or.inr ⟨c1, mset_s M 24 0 2⟩
theorem x_refuse (hI : Inv M nd D) (hX : Xt M) (hi : i < nn M) : (M 6 i = 0 ∧ ∃ M1, refuseM M (nI i) = (costs M i 1, M1) ∧ M1 24 0 = 0 ∧ Xt M1 ∧ M1 2 0 = M 2 0 ∧ costs M1 i 1 = costs M i 1) ∨ (M 6 i ≠ 0 ∧ (refuseM M (nI i)).2 24 0 = 2) := by
  rw [refuseM, if_pos (ixn hI hi), kjn (i31 hI hi)]
  by_cases c1 : M 6 i = 0
  · rw [if_pos c1]
    obtain ⟨h12, h17⟩ := hX.2.1 i hi c1
    refine Or.inl ⟨c1, _, Prod.ext rfl rfl, mset_s M 24 0 0, ⟨hX.1, fun i' hi' h6 => ?_, hX.2.2.1, hX.2.2.2⟩, rfl, rfl⟩
    show M 12 i' = 0 ∧ ∀ j, j < 3 → M 17 (3 * i' + j) = 0
    by_cases e : i' = i
    · subst e; exact ⟨h12, h17⟩
    · have h6' : M 6 i' = 0 := (show (if i' = i then (2 : Int32) else M 6 i') = 0 from h6) ▸ (if_neg e).symm
      exact hX.2.1 i' hi' h6'
  · rw [if_neg c1]; exact Or.inr ⟨c1, mset_s M 24 0 2⟩
theorem x_credit (hI : Inv M nd D) (hX : Xt M) (hi : i < nn M) (hj : j < kk M i) {x : Nat} (hx : 1 ≤ x ∧ x < 1001) : (∃ M1, creditM M (nI i) (nI j) (nI x) = (M 14 (3 * i + j) - nI x, M1) ∧ M1 24 0 = 0 ∧ Xt M1 ∧ M1 2 0 = M 2 0 ∧ 0 ≤ M 14 (3 * i + j) - nI x) ∨ (creditM M (nI i) (nI j) (nI x)).2 24 0 = 2 ∨ (creditM M (nI i) (nI j) (nI x)).2 24 0 = 3 := by
  have hl := (hI.2.2.2.2.2.2.2.1 i hi j hj).1
  rw [creditM, if_pos (iln hI hi hj), kjn (i31 hI hi), kjn (j31 hI hj), if_pos (c99 hx)]
  by_cases c1 : nI x ≤ M 14 (3 * i + j)
  · rw [if_pos c1]
    by_cases c2 : M 6 i = 2
    · rw [if_pos c2]; exact Or.inr (Or.inr (mset_s M 24 0 3))
    · rw [if_neg c2]
      by_cases c3 : M 18 0 = 24
      · rw [if_pos c3]; exact Or.inr (Or.inr (mset_s M 24 0 3))
      · rw [if_neg c3]
        refine Or.inl ⟨_, Prod.ext ?_ rfl, mset_s M 24 0 0, ⟨hX.1, hX.2.1, hX.2.2.1, hX.2.2.2⟩, rfl, ?_⟩
        · exact mset_s _ 14 (3 * i + j) _
        · have hlt := hl.2
          rw [hl.1] at c1 ⊢
          rw [pk_sub ((nI_leI (by omega) (by omega)).mp c1)]
          exact nI_pos' (by omega)
  · rw [if_neg c1]; exact Or.inr (Or.inl (mset_s M 24 0 2))
theorem idx3 {i i' j j' : Nat} (hj : j < 3) (hj' : j' < 3) (h : 3 * i' + j' = 3 * i + j) : i' = i := by omega
theorem x_dispute (hI : Inv M nd D) (hX : Xt M) (hi : i < nn M) (hj : j < kk M i) : (∃ M1, disputeM M (nI i) (nI j) = (owed M1 i, M1) ∧ M1 24 0 = 0 ∧ Xt M1 ∧ M1 2 0 = M 2 0) ∨ (disputeM M (nI i) (nI j)).2 24 0 = 2 := by
  have hk := (hI.k3 i).2
  rw [disputeM, if_pos (iln hI hi hj), kjn (i31 hI hi), kjn (j31 hI hj)]
  by_cases c1 : M 6 i = 1
  · rw [if_pos c1]
    by_cases c2 : M 17 (3 * i + j) = 0
    · rw [if_pos c2]
      by_cases c3 : M 14 (3 * i + j) = 0
      · rw [if_pos c3]; exact Or.inr (mset_s M 24 0 2)
      · rw [if_neg c3]
        refine Or.inl ⟨_, Prod.ext rfl rfl, mset_s M 24 0 0, ⟨hX.1, fun i' hi' h6 => ?_, hX.2.2.1, hX.2.2.2⟩, rfl⟩
        have h6' : M 6 i' = 0 := h6
        refine ⟨(hX.2.1 i' hi' h6').1, fun j' hj' => ?_⟩
        show (if 3 * i' + j' = 3 * i + j then (1 : Int32) else M 17 (3 * i' + j')) = 0
        rw [if_neg (fun e => by have := idx3 (by omega) hj' e; subst this; rw [c1] at h6'; exact absurd h6' (by decide))]
        exact (hX.2.1 i' hi' h6').2 j' hj'
    · rw [if_neg c2]; exact Or.inr (mset_s M 24 0 2)
  · rw [if_neg c1]; exact Or.inr (mset_s M 24 0 2)
theorem x_settle (hI : Inv M nd D) (hX : Xt M) (hi : i < nn M) (hj : j < kk M i) {z : Int32} : (∃ M1, settleM M (nI i) (nI j) z = (owed M1 i, M1) ∧ M1 24 0 = 0 ∧ Xt M1 ∧ M1 2 0 = M 2 0) ∨ (settleM M (nI i) (nI j) z).2 24 0 = 2 := by
  have hk := (hI.k3 i).2
  have key : ∀ M9 : mM, M9 1 = M 1 → M9 6 = M 6 → M9 2 = M 2 → M9 12 = M 12 → M9 9 = M 9 → M9 4 = M 4 → M9 17 = upd (M 17) (3 * i + j) 0 → Xt M9 := by
    intro M9 e1 e6 e2 e12 e9 e4 e17
    have hn : nn M9 = nn M := by unfold nn; rw [e2]
    refine ⟨by unfold sum6; rw [e1]; exact hX.1, fun i' hi' h6 => ?_, fun i' hi' => ?_, fun i' => by rw [e12]; exact hX.2.2.2 i'⟩
    · rw [hn] at hi'
      rw [e6] at h6
      rw [e12, e17]
      refine ⟨(hX.2.1 i' hi' h6).1, fun j' hj' => ?_⟩
      show (if 3 * i' + j' = 3 * i + j then (0 : Int32) else M 17 (3 * i' + j')) = 0
      split
      · rfl
      · exact (hX.2.1 i' hi' h6).2 j' hj'
    · rw [hn] at hi'
      rw [e9, e4]
      exact hX.2.2.1 i' hi'
  rw [settleM, if_pos (iln hI hi hj), kjn (i31 hI hi), kjn (j31 hI hj)]
  by_cases c1 : M 17 (3 * i + j) = 0
  · rw [if_pos c1]; exact Or.inr (mset_s M 24 0 2)
  · rw [if_neg c1]
    by_cases c2 : z = 0
    · rw [if_pos c2]
      exact Or.inl ⟨_, Prod.ext rfl rfl, mset_s M 24 0 0, key _ rfl rfl rfl rfl rfl rfl rfl, rfl⟩
    · rw [if_neg c2]
      by_cases c3 : M 18 0 = 24
      · rw [if_pos c3]; exact Or.inr (mset_s M 24 0 2)
      · rw [if_neg c3]
        exact Or.inl ⟨_, Prod.ext rfl rfl, mset_s M 24 0 0, key _ rfl rfl rfl rfl rfl rfl rfl, rfl⟩
theorem x_sell (hI : Inv M nd D) (hX : Xt M) (hz : M 24 0 = 0) (hi : i < nn M) {b x : Nat} (hb : b < 6) (hx : 1 ≤ x ∧ x ≤ 100) {z : Int32} : (∃ M1, sellM M (nI i) (nI b) (nI x) z = (owed M i * nI x / 100, M1) ∧ M1 24 0 = 0 ∧ Xt M1 ∧ M1 2 0 = M 2 0 ∧ M1 9 i = nI b) ∨ (sellM M (nI i) (nI b) (nI x) z).2 24 0 = 2 ∨ (sellM M (nI i) (nI b) (nI x) z).2 24 0 = 3 := by
  have hb6 : kj (nI b) < 6 := by rw [kjn (by omega)]; exact hb
  have hs6 := (hI.2.2.2.2.2.1 i hi).1.2
  rw [sellM, if_pos (ixn hI hi), if_pos (c05 hb), if_pos (show 1 ≤ nI x ∧ nI x ≤ 100 from ⟨nI_le (a := 1) (by omega) (by omega), nI_le (b := 100) (by omega) (by decide)⟩), kjn (i31 hI hi)]
  by_cases c1 : nI b = M 3 i
  · rw [if_pos c1]; exact Or.inr (Or.inl (mset_s M 24 0 2))
  · rw [if_neg c1]
    by_cases c2 : nI b = M 4 i
    · rw [if_pos c2]; exact Or.inr (Or.inl (mset_s M 24 0 2))
    · rw [if_neg c2]
      by_cases c3 : owed M i = 0
      · rw [if_pos c3]; exact Or.inr (Or.inr (mset_s M 24 0 3))
      · rw [if_neg c3]
        by_cases c4 : M 9 i = M 3 i
        · rw [if_pos c4, mset_24 hz]
          refine Or.inl ⟨_, Prod.ext rfl rfl, hz, ⟨?_, hX.2.1, fun i' hi' => ?_, hX.2.2.2⟩, rfl, ?_⟩
          · rw [sum6_moves hb6 hs6]; exact hX.1
          · show (if i' = i then nI b else M 9 i') ≠ M 4 i'
            by_cases e : i' = i
            · rw [if_pos e, e]; exact c2
            · rw [if_neg e]; exact hX.2.2.1 i' hi'
          · exact mset_s _ 9 i _
        · rw [if_neg c4]; exact Or.inr (Or.inr (mset_s M 24 0 3))
theorem x_giveBack (hI : Inv M nd D) (hX : Xt M) (hz : M 24 0 = 0) (hi : i < nn M) : (∃ M1 r, giveBackM M (nI i) = (r, M1) ∧ M1 24 0 = 0 ∧ Xt M1 ∧ M1 2 0 = M 2 0 ∧ M1 9 i = M1 3 i) ∨ (giveBackM M (nI i)).2 24 0 = 2 := by
  have h6 := hI.2.2.2.2.2.1 i hi
  rw [giveBackM, if_pos (ixn hI hi), kjn (i31 hI hi)]
  by_cases c1 : M 9 i = M 3 i
  · rw [if_pos c1]; exact Or.inr (mset_s M 24 0 2)
  · rw [if_neg c1]
    by_cases c2 : M 11 i = 0
    · rw [if_pos c2]; exact Or.inr (mset_s M 24 0 2)
    · rw [if_neg c2]
      by_cases c3 : owed M i = 0
      · rw [if_pos c3]; exact Or.inr (mset_s M 24 0 2)
      · rw [if_neg c3, mset_24 hz]
        refine Or.inl ⟨_, _, Prod.ext rfl rfl, hz, ⟨?_, hX.2.1, fun i' hi' => ?_, hX.2.2.2⟩, rfl, ?_⟩
        · refine (sum6_of (M := movesM M (kj (M 3 i)) (kj (M 9 i)) (M 10 i)) (if_neg (by decide))).trans ?_
          rw [sum6_moves h6.1.2 h6.2.2.1.2]; exact hX.1
        · show (if i' = i then M 3 i else M 9 i') ≠ M 4 i'
          by_cases e : i' = i
          · rw [if_pos e, e]; exact h6.2.2.2
          · rw [if_neg e]; exact hX.2.2.1 i' hi'
        · show (if i = i then M 3 i else M 9 i) = M 3 i
          exact if_pos rfl
theorem pass_lo {d : Int32} (h0 : okI d 1000) (hd : d < 900) {x : Nat} (hx : x ≤ 40) : d + nI x ≤ 999 := by
  have h1 := h0.2
  have e := h0.1
  generalize kj d = k at e h1
  subst e
  have hk : k < 900 := (nI_ltI (a := k) (b := 900) (by omega) (by decide)).mp hd
  rw [nI_add]
  exact nI_le (a := k + x) (b := 999) (by omega) (by decide)
theorem x_pass (hI : Inv M nd D) (hX : Xt M) {x : Nat} (hd : M 0 0 < 900) (hx : 1 ≤ x ∧ x ≤ 40) : ∃ M1, passM M (nI x) = (M1 0 0 / 30, M1) ∧ M1 24 0 = 0 ∧ Xt M1 ∧ M1 2 0 = M 2 0 := by
  have h9 : M 0 0 + nI x ≤ 999 := pass_lo hI.2.2.2.2.2.2.1 hd hx.2
  have h8 : 1 ≤ nI x ∧ nI x ≤ 60 := ⟨nI_le (a := 1) (by omega) (by omega), nI_le (b := 60) (by omega) (by decide)⟩
  rw [passM, if_pos h8, if_pos h9]
  generalize hd9 : M 0 0 + nI x = d
  refine ⟨mset (mset M 24 0 0) 0 0 d, ?_, mset_s M 24 0 0, ⟨hX.1, hX.2.1, hX.2.2.1, hX.2.2.2⟩, rfl⟩
  rw [mset_s]
end DR
