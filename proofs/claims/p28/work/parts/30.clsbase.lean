/-! the class's objects, against the reference's table -/
abbrev cD : Type := Nat → Int32 × Int32 × Int32
abbrev cAd : Type := Nat → Nat → Nat → Nat
abbrev cTg : Type := Nat → Nat × Nat × Nat
def aDay (M : mM) (i : Nat) : Int32 := if M 6 i = 1 then M 8 i else -1
def oC (ad : cAd) (M : mM) : va_E := .inr (9, [.ref (ad 5 0 0), .ref (ad 5 1 0), .ref (ad 5 2 0), .ref (ad 7 0 0), .ref (ad 8 0 0), .int (M 0 0)])
def iC (ad : cAd) (M : mM) (i : Nat) : va_E := .inr (7, [.int (M 3 i), .int (M 4 i), .int (M 5 i), .int (M 7 i), .ref (ad 5 (3 + i) 0), .int (M 6 i), .int (aDay M i), .int (hasC M (nI i)), .int (M 12 i), .int (M 9 i), .int (M 10 i), .int (M 11 i)])
def lC (M : mM) (i j : Nat) : va_E := .inr (8, [.int (M 15 (3 * i + j)), .int (M 16 (3 * i + j)), .int (M 14 (3 * i + j)), .int (M 17 (3 * i + j))])
def rC (ad : cAd) (M : mM) (c : Nat) : va_E := .inr (5, [.ref (ad 1 (kj (M 19 c)) 0), .int (M 20 c / 30), .int (M 21 c)])
def dC (D : cD) (d : Nat) : va_E := .inr (6, [.int (D d).1, .int (D d).2.1, .int (D d).2.2])
def has (L : List Nat) (F : kF) (tg : cTg) (a : Nat) (t : Nat × Nat × Nat) (v : va_E) : Prop := a ∈ L ∧ tg a = t ∧ F a = v
def lC0 (mc : Int32) (e n : Nat) : va_E := .inr (4, [.int mc, .ref e, .int (nI n)])
def qC (γ : kG) (cap : Nat) (f : Nat → Option Nat) : va_E := .inl (γ.2.1 4, cap, .inr (.inr (.inr (.inr f))))
def LsA (γ : kG) (L : List Nat) (F : kF) (tg : cTg) (k n e : Nat) (f : Nat → Option Nat) : Prop :=
  (n = 0 ∧ e = γ.2.2 ∧ f = fun _ => none) ∨ ∃ cap : Nat, has L F tg e (6, k, 0) (qC γ cap f) ∧ 1 ≤ n ∧ n ≤ cap ∧ cap ≤ 1000
def Lst (γ : kG) (L : List Nat) (F : kF) (tg : cTg) (a k n : Nat) (g : Nat → Nat) : Prop := ∃ (mc : Int32) (e : Nat) (f : Nat → Option Nat),
  has L F tg a (5, k, 0) (lC0 mc e n) ∧ LsA γ L F tg k n e f ∧ ∀ j : Nat, j < n → f j = some (g j)
def RepC (γ : kG) (L : List Nat) (F : kF) (o : Nat) (ad : cAd) (tg : cTg) (M : mM) (nd : Nat) (D : cD) : Prop :=
  has L F tg o (0, 0, 0) (oC ad M) ∧
  (∀ i, i < nn M → has L F tg (ad 1 i 0) (1, i, 0) (iC ad M i)) ∧
  (∀ i, i < nn M → ∀ j, j < kk M i → has L F tg (ad 2 i j) (2, i, j) (lC M i j)) ∧
  (∀ k, k < cc M → has L F tg (ad 3 k 0) (3, k, 0) (rC ad M k)) ∧
  (∀ d, d < nd → has L F tg (ad 4 d 0) (4, d, 0) (dC D d)) ∧
  Lst γ L F tg (ad 5 0 0) 0 (nn M) (fun j => ad 1 j 0) ∧ Lst γ L F tg (ad 5 1 0) 1 (cc M) (fun j => ad 3 j 0) ∧ Lst γ L F tg (ad 5 2 0) 2 nd (fun j => ad 4 j 0) ∧
  (∀ i, i < nn M → Lst γ L F tg (ad 5 (3 + i) 0) (3 + i) (kk M i) (fun j => ad 2 i j)) ∧
  has L F tg (ad 7 0 0) (7, 0, 0) (.inl (γ.2.1 1, 6, .inl (M 1))) ∧
  (∃ ml : Int32, has L F tg (ad 8 0 0) (8, 0, 0) (.inr (1, [.ref (ad 9 0 0), .int 0, .int ml, .int (M 22 0)]))) ∧
  has L F tg (ad 9 0 0) (9, 0, 0) (.inl (γ.2.1 0, 16, .inl (M 23)))
/-- what the documents tell of a company -/
def dSum (D : cD) (a : Int32) : Nat → Int32
  | 0 => 0
  | k + 1 => (if (D k).1 = a then (if (D k).2.1 = a then dSum D a k + (D k).2.2 else dSum D a k) - (D k).2.2 else (if (D k).2.1 = a then dSum D a k + (D k).2.2 else dSum D a k))
def Inv (M : mM) (nd : Nat) (D : cD) : Prop :=
  okN M ∧ (∀ i, i < nn M → okL M i) ∧ okC M ∧ okD M ∧ (∀ k, k < cc M → okI (M 19 k) (nn M)) ∧
  (∀ i, i < nn M → okI (M 3 i) 6 ∧ okI (M 4 i) 6 ∧ okI (M 9 i) 6 ∧ M 3 i ≠ M 4 i) ∧ okI (M 0 0) 1000 ∧
  (∀ i, i < nn M → ∀ j, j < kk M i → okI (M 14 (3 * i + j)) 10000 ∧ okI (M 15 (3 * i + j)) 10000 ∧ okI (M 16 (3 * i + j)) 20) ∧
  (∀ j, j < dd M → okI (M 23 j) 127) ∧
  (∀ i, nn M ≤ i → M 10 i = 0 ∧ M 11 i = 0 ∧ M 12 i = 0 ∧ M 13 i = 0) ∧ (∀ i j, kk M i ≤ j → j < 3 → M 17 (3 * i + j) = 0) ∧
  (∀ i, M 11 i = 0 ∨ M 11 i = 1) ∧ (∀ i, M 17 i = 0 ∨ M 17 i = 1) ∧ (∀ i, i < nn M → 1 ≤ kk M i) ∧
  (∀ c, c < 6 → M 1 c = dSum D (nI c) nd)
section CB
variable {γ : kG} {L : List Nat} {F : kF} {o : Nat} {ad : cAd} {tg : cTg} {M : mM} {nd : Nat} {D : cD}
theorem has.toEl {a : Nat} {t : Nat × Nat × Nat} {ci : Nat} {fs : List Value} (h : has L F tg a t (.inr (ci, fs))) (h1 : 5 ≤ ci) (h2 : ci ≤ 8) : kEl L F a := ⟨h.1, ci, fs, h.2.2, h1, h2⟩
theorem Lst.toArr {a k n : Nat} {g : Nat → Nat} (h : Lst γ L F tg a k n g) (hg : ∀ j, j < n → kEl L F (g j)) : ∃ (mc : Int32) (e : Nat) (f : Nat → Option Nat), a ∈ L ∧ tg a = (5, k, 0) ∧ F a = .inr (4, [.int mc, .ref e, .int (nI n)]) ∧ kArr γ L F e n f ∧ (∀ j, j < n → f j = some (g j)) ∧ (n = 0 ∨ tg e = (6, k, 0)) := by
  obtain ⟨mc, e, f, ⟨h1, h2, h3⟩, h4, h5⟩ := h
  refine ⟨mc, e, f, h1, h2, h3, ?_, h5, ?_⟩
  · rcases h4 with h4 | ⟨cap, ⟨g1, g2, g3⟩, h6, h7, h8⟩
    · exact Or.inl h4
    · refine Or.inr ⟨g1, cap, g3, h7, by omega, h8, fun i hi y hy => ?_⟩
      rw [h5 i hi] at hy
      cases hy
      exact hg i hi
  · rcases h4 with h4 | ⟨cap, ⟨g1, g2, g3⟩, h6, h7, h8⟩
    · exact Or.inl h4.1
    · exact Or.inr g2
theorem Lst.recv {a k n : Nat} {g : Nat → Nat} (h : Lst γ L F tg a k n g) : a ∈ L ∧ ∃ mc e, F a = .inr (4, [.int mc, .ref e, .int (nI n)]) := by
  obtain ⟨mc, e, f, h1, -⟩ := h
  exact ⟨h1.1, mc, e, h1.2.2⟩
theorem c_size (l : Launch) {a k n : Nat} {g : Nat → Nat} (h : Lst γ L F tg a k n g) : kC l yJx4a65c_size_8abf5 cJx4a65c_size_8abf5 1 (some .int) (kRm 0 0 0) γ L F [.ref a] (kI fun r L1 F1 => L = L1 ∧ F = F1 ∧ r = nI n) := by
  obtain ⟨mc, e, f, h1, -⟩ := h
  exact c_Jx4a65c_size_8abf5 l γ L F a e n mc h1.1 h1.2.2
theorem c_get (l : Launch) {a k n : Nat} {g : Nat → Nat} (h : Lst γ L F tg a k n g) (j : Nat) (hj : j < n) : kC l yJx4a65c_get_915e3 cJx4a65c_get_915e3 2 (some (.object "java/lang/Object")) (kRm 2 0 0) γ L F [.ref a, .int (nI j)] (kR fun r L1 F1 => L = L1 ∧ F = F1 ∧ r = g j) := by
  obtain ⟨mc, e, f, h1, h2, h3⟩ := h
  rcases h2 with h2 | ⟨cap, ⟨g1, g2, g3⟩, h6, h7, h8⟩
  · omega
  · exact c_Jx4a65c_get_915e3 l γ L F a e n mc h1.1 h1.2.2 g1 cap f g3 h7 (by omega) j (g j) hj (h3 j hj)
end CB
theorem mx0 (x : Int32) : (if x < 0 then 0 else x) = (if x ≤ 0 then 0 else x) := by
  by_cases h : x ≤ 0
  · rw [if_pos h]
    split
    · rfl
    · rename_i h2
      exact Int32.le_antisymm h (Int32.not_lt.mp h2)
  · rw [if_neg h, if_neg (fun h2 => h (Int32.le_of_lt h2))]
