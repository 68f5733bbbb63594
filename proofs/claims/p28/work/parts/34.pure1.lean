/-! what is thrown aside, the tables are alike -/
def Thr (M M' : mM) (k : Int32) : Prop := (∀ q, q ≠ 24 → M' q = M q) ∧ M' 24 0 = k
theorem Thr1 (M : mM) (k : Int32) : Thr M (mset M 24 0 k) k := ⟨fun q hq => if_neg hq, mset_s M 24 0 k⟩
theorem Thr2 (M : mM) (k0 k : Int32) : Thr M (mset (mset M 24 0 k0) 24 0 k) k := ⟨fun q hq => (if_neg hq).trans (if_neg hq), mset_s _ 24 0 k⟩
theorem off_costs (M : mM) (z : Int32) (i : Nat) (w : Int32) : costs (mset M 24 0 z) i w = costs M i w := rfl
theorem off_taxAll (M : mM) (z : Int32) (i : Nat) (w : Int32) : taxAll (mset M 24 0 z) i w = taxAll M i w := rfl
theorem off_owed (M : mM) (z : Int32) (i : Nat) : owed (mset M 24 0 z) i = owed M i := rfl
theorem off_hasC (M : mM) (z : Int32) (a : Int32) : hasC (mset M 24 0 z) a = hasC M a := rfl
theorem off_sumsM (M : mM) (z : Int32) (a w : Int32) : sumsM (mset M 24 0 z) a w = sumsM M a w := rfl
theorem off_taxIn (M : mM) (z : Int32) (a b : Int32) : taxIn (mset M 24 0 z) a b = taxIn M a b := rfl
theorem off_taxTo (M : mM) (z : Int32) (a : Int32) (t : Nat) : taxTo (mset M 24 0 z) a t = taxTo M a t := by
  unfold taxTo
  congr 1
theorem mn0 (x : Int32) : (if 0 < x then 0 else x) = (if 0 ≤ x then 0 else x) := by
  by_cases h : 0 < x
  · rw [if_pos h, if_pos (Int32.le_of_lt h)]
  · rw [if_neg h]
    split
    · rename_i h2
      exact Int32.le_antisymm (Int32.not_lt.mp h) h2
    · rfl
theorem okI_add {x y : Int32} {m n : Nat} (hx : okI x (m + 1)) (hy : okI y (n + 1)) (hmn : m + n < 1000000) : okI (x + y) (m + n + 1) := by
  obtain ⟨e1, l1⟩ := hx
  obtain ⟨e2, l2⟩ := hy
  have e : x + y = nI (kj x + kj y) := by rw [← nI_add, ← e1, ← e2]
  have e3 : kj (x + y) = kj x + kj y := by rw [e]; exact nI_clamp (by omega)
  exact ⟨by rw [e3]; exact e, by rw [e3]; omega⟩
theorem okI_tx {a r : Int32} (ha : okI a 10000) (hr : okI r 20) : okI (tx a r) 1900 := by
  obtain ⟨e1, l1⟩ := ha
  obtain ⟨e2, l2⟩ := hr
  have h3 : kj a * kj r ≤ 9999 * 19 := Nat.mul_le_mul (by omega) (by omega)
  have e : tx a r = nI (kj a * kj r / 100) := by
    unfold tx
    conv => lhs; rw [e1, e2, pk_mul]
    exact pk_div (a := kj a * kj r) (d := 100) (by omega) (by decide) (by decide)
  have e3 : kj (tx a r) = kj a * kj r / 100 := by rw [e]; exact nI_clamp (by omega)
  exact ⟨by rw [e3]; exact e, by rw [e3]; omega⟩
theorem okI_mono {x : Int32} {m n : Nat} (h : okI x m) (hmn : m ≤ n) : okI x n := ⟨h.1, Nat.lt_of_lt_of_le h.2 hmn⟩
theorem okI_tax {M : mM} {nd : Nat} {D : cD} (hI : Inv M nd D) {i : Nat} (hi : i < nn M) : okI (taxAll M i 0) 6000 := by
  have hk := hI.2.1 i hi
  have key : ∀ j, j ≤ kk M i → okI (l_fold (taxAll_st M i 0) 0 j) (1900 * j + 1) := by
    intro j
    induction j with
    | zero => intro _; exact ⟨rfl, by show kj 0 < 1900 * 0 + 1; decide⟩
    | succ j ih =>
      intro hj
      have h1 := ih (by omega)
      have h2 := hI.2.2.2.2.2.2.2.1 i hi j (by omega)
      have h3 := okI_tx h2.1 h2.2.2
      have h4 := okI_add (m := 1900 * j) (n := 1899) h1 h3 (by have := hk.2; omega)
      rw [l_fold]
      exact okI_mono (x := taxAll_st M i 0 j _) h4 (by omega)
  exact okI_mono (key _ (Nat.le_refl _)) (by have := hk.2; omega)
theorem okI_chI {M : mM} {nd : Nat} {D : cD} (hI : Inv M nd D) {a : Int32} {t : Nat} (ht : t < nn M) : okI (l_fold (chI M a t) 0 t) 6000 := by
  have key : ∀ j, j ≤ t → okI (l_fold (chI M a t) 0 j) 6000 := by
    intro j
    induction j with
    | zero => intro _; exact ⟨rfl, by show kj 0 < 6000; decide⟩
    | succ j ih =>
      intro hj
      have h1 := ih (by omega)
      have h2 := okI_tax hI (i := j) (by omega)
      rw [l_fold]
      generalize l_fold (chI M a t) 0 j = y at h1
      unfold chI
      split
      · split
        · split
          · split <;> assumption
          · exact h1
        · exact h1
      · exact h1
  exact key t (Nat.le_refl _)
theorem ch_step {T G : Int32} (x : Int32) (hT : okI T 6000) (hG : okI G 6000) : x + (if T - G < 0 then 0 else T - G) = (if T ≤ G then (x + 0) else (x + (T - G))) := by
  obtain ⟨e1, l1⟩ := hT
  obtain ⟨e2, l2⟩ := hG
  have e : (T - G).toInt = (kj T : Int) - kj G := by
    conv => lhs; rw [e1, e2]
    exact pk_sub_toInt (by omega) (by omega)
  have t1 : T.toInt = kj T := by conv => lhs; rw [e1]
                                 exact nI_toInt (by omega)
  have t2 : G.toInt = kj G := by conv => lhs; rw [e2]
                                 exact nI_toInt (by omega)
  have c1 : (T - G < 0) ↔ (kj T < kj G) := by
    rw [Int32.lt_iff_toInt_lt, e, show (0 : Int32).toInt = 0 by decide]
    omega
  have c2 : (T ≤ G) ↔ (kj T ≤ kj G) := by
    rw [Int32.le_iff_toInt_le, t1, t2]
    omega
  by_cases h : kj T < kj G
  · rw [if_pos (c1.mpr h), if_pos (c2.mpr (by omega))]
  · rw [if_neg (fun h9 => h (c1.mp h9))]
    by_cases h2 : kj T ≤ kj G
    · rw [if_pos (c2.mpr h2)]
      have h3 : kj T = kj G := by omega
      rw [show T - G = 0 from by rw [e1, e2, h3, Int32.sub_self]]
    · rw [if_neg (fun h9 => h2 (c2.mp h9))]
theorem fault_eq {M : mM} (hd : okD M) : cfault M = faultM M := by
  obtain ⟨e, l⟩ := hd
  unfold faultM cfault
  generalize hn : dd M = n at e l
  have nlt : ∀ {a b : Nat}, b ≤ a → a < 100 → ¬ nI a < nI b := fun h1 h2 => nI_nlt h1 (by omega)
  match n, l with
  | 0, _ => rw [if_pos (show nI 0 < 1 by decide)]; unfold frun; rw [e]; rfl
  | 1, _ =>
    rw [if_neg (show ¬ nI 1 < 1 by decide), if_pos (show nI 1 < 2 by decide)]
    unfold frun; rw [e, if_neg (show ¬ nI 1 ≤ nI 0 by decide), if_pos (show nI 0 = 0 by decide)]
    by_cases h : M 23 0 = 82
    · rw [if_pos h, if_pos h]; unfold frun; rw [e]; rfl
    · rw [if_neg h, if_neg h]; rfl
  | 2, _ =>
    rw [if_neg (show ¬ nI 2 < 1 by decide), if_neg (show ¬ nI 2 < 2 by decide), if_neg (show ¬ 3 ≤ nI 2 by decide)]
    unfold frun; rw [e, if_neg (show ¬ nI 2 ≤ nI 0 by decide), if_pos (show nI 0 = 0 by decide)]
    by_cases h : M 23 0 = 82
    · rw [if_pos h, if_pos h]; unfold frun; rw [e, if_neg (show ¬ nI 2 ≤ nI (0 + 1) by decide), if_neg (show ¬ nI (0 + 1) = 0 by decide), if_neg (show ¬ 3 ≤ nI (0 + 1) by decide)]
      by_cases h2 : 48 ≤ M 23 (0 + 1) ∧ M 23 (0 + 1) ≤ 57
      · rw [if_pos h2, if_pos (show 48 ≤ M 23 1 ∧ M 23 1 ≤ 57 from h2)]; unfold frun; rw [e]; rfl
      · rw [if_neg h2, if_neg (show ¬ (48 ≤ M 23 1 ∧ M 23 1 ≤ 57) from h2)]; rfl
    · rw [if_neg h, if_neg h]; rfl
  | n + 3, hl => 
    have a1 : ¬ nI (n + 3) < 1 := nI_nlt (a := n + 3) (b := 1) (by omega) (by omega)
    have a2 : ¬ nI (n + 3) < 2 := nI_nlt (a := n + 3) (b := 2) (by omega) (by omega)
    have a3 : 3 ≤ nI (n + 3) := nI_le (a := 3) (b := n + 3) (by omega) (by omega)
    have a4 : 2 ≤ nI (n + 3) := nI_le (a := 2) (b := n + 3) (by omega) (by omega)
    rw [if_neg a1, if_neg a2, if_pos a3]
    unfold frun; rw [e, if_neg (nI_ge (a := 0) (b := n + 3) (by omega) (by omega)), if_pos (show nI 0 = 0 by decide)]
    by_cases h : M 23 0 = 82
    · rw [if_pos h, if_pos h]; unfold frun; rw [e, if_neg (nI_ge (a := 0 + 1) (b := n + 3) (by omega) (by omega)), if_neg (show ¬ nI (0 + 1) = 0 by decide), if_neg (show ¬ 3 ≤ nI (0 + 1) by decide)]
      by_cases h2 : 48 ≤ M 23 (0 + 1) ∧ M 23 (0 + 1) ≤ 57
      · rw [if_pos h2, if_pos (show 48 ≤ M 23 1 ∧ M 23 1 ≤ 57 from h2)]; unfold frun; rw [e, if_neg (nI_ge (a := 0 + 1 + 1) (b := n + 3) (by omega) (by omega)), if_neg (show ¬ nI (0 + 1 + 1) = 0 by decide), if_neg (show ¬ 3 ≤ nI (0 + 1 + 1) by decide)]
        by_cases h3 : 48 ≤ M 23 (0 + 1 + 1) ∧ M 23 (0 + 1 + 1) ≤ 57
        · rw [if_pos h3, if_pos (show 48 ≤ M 23 2 ∧ M 23 2 ≤ 57 from h3)]; unfold frun; rw [e]
          by_cases h4 : n = 0
          · subst h4; rfl
          · rw [if_neg (nI_ge (a := 0 + 1 + 1 + 1) (b := n + 3) (by omega) (by omega)), if_neg (show ¬ nI (0 + 1 + 1 + 1) = 0 by decide), if_pos (show 3 ≤ nI (0 + 1 + 1 + 1) by decide), if_neg (show ¬ nI (n + 3) = 3 from fun h9 => absurd ((nI_eq (a := n + 3) (b := 3) (by omega) (by decide)).mp h9) (by omega))]
            rfl
        · rw [if_neg h3, if_neg (show ¬ (48 ≤ M 23 2 ∧ M 23 2 ≤ 57) from h3)]; rfl
      · rw [if_neg h2, if_neg (show ¬ (48 ≤ M 23 1 ∧ M 23 1 ≤ 57) from h2)]; rfl
    · rw [if_neg h, if_neg h]; rfl
def dst (D : cD) (a : Int32) (k : Nat) (x : Int32) : Int32 := if (D k).1 = a then (if (D k).2.1 = a then x + (D k).2.2 else x) - (D k).2.2 else (if (D k).2.1 = a then x + (D k).2.2 else x)
theorem dSum_fold (D : cD) (a : Int32) : ∀ n, dSum D a n = l_fold (dst D a) 0 n
  | 0 => rfl
  | k + 1 => by
    rw [l_fold, ← dSum_fold D a k]
    rfl
theorem swo9 {b : Int32} (h : ¬ (0 ≤ b ∧ b ≤ 9)) : b.toInt < 0 ∨ 9 < b.toInt := by
  rw [Int32.le_iff_toInt_le, Int32.le_iff_toInt_le, show (0 : Int32).toInt = 0 by decide, show (9 : Int32).toInt = 9 by decide] at h
  omega
theorem swo4 {b : Int32} (h : ¬ (0 ≤ b ∧ b ≤ 4)) : b.toInt < 0 ∨ 4 < b.toInt := by
  rw [Int32.le_iff_toInt_le, Int32.le_iff_toInt_le, show (0 : Int32).toInt = 0 by decide, show (4 : Int32).toInt = 4 by decide] at h
  omega
