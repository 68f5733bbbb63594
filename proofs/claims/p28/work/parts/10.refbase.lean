/-! the reference: its state is a table M of ints, field by field (0 day, 1 cash, 2 invoices, 3 seller .. 13 lines, 14 amount, 15 made, 16 rate, 17 isDisputed, 18 credits, 19 creditOf, 20 creditOn, 21 creditTax, 22 drafted, 23 draft, 24 thrown) -/
abbrev kRm (d c z : Nat) : Room := { frames := 10 * d + 10, cells := c, slots := z, locals := 120 * d + 120 }
abbrev mM : Type := Nat → Nat → Int32
def mset (M : mM) (k j : Nat) (x : Int32) : mM := fun k' => if k' = k then upd (M k) j x else M k'
theorem in_u {C : String} {T : u_T} {N : Nat} (h : ∀ k, k < N → u_lay C T k ∈ W0) : ∀ w ∈ u_ws C T N, w ∈ W0 := by
  intro w hw
  obtain ⟨k, hk, rfl⟩ := List.mem_map.mp hw
  exact h k (List.mem_range.mp hk)
theorem u_all {C : String} {T : u_T} {N : Nat} (h : (u_ws C T N).all (fun w => decide (w ∈ lw_tbl) && goodWord w) = true) : ∀ w ∈ u_ws C T N, w ∈ W0 := by
  intro w hw
  have h1 := List.all_eq_true.mp h w hw
  simp only [Bool.and_eq_true, decide_eq_true_eq] at h1
  exact W0_of h1
theorem inX0 : ∀ w ∈ u_ws RX0 TX0 3, w ∈ W0 := u_all (by decide +kernel)
theorem inX1 : ∀ w ∈ u_ws RX1 TX1 3, w ∈ W0 := u_all (by decide +kernel)
theorem inX2 : ∀ w ∈ u_ws RX2 TX2 12, w ∈ W0 := u_all (by decide +kernel)
theorem inX3 : ∀ w ∈ u_ws RX3 TX3 4, w ∈ W0 := u_all (by decide +kernel)
theorem inX4 : ∀ w ∈ u_ws RX4 TX4 6, w ∈ W0 := u_all (by decide +kernel)
theorem inAL : ∀ w ∈ u_ws RJx4a65c TJx4a65c 3, w ∈ W0 := u_all (by decide +kernel)
theorem inSB : ∀ w ∈ u_ws RJ4 TJ4 4, w ∈ W0 := u_all (by decide +kernel)
section MR
variable {p : Program} {l : Launch} {e : Env} {R : Room} {s : State} {m : MethodId} {args : Array Value} {below : List Frame} {meth : Method} {c : Code} {H : Heap} {locs : List Loc} {cells slots : Nat} {Q : State → Prop}
variable {cc : ByteArray} {nL : Nat} {ret : Option FieldType} {γ : kG} {A : Nat → Prop} {L : List Nat} {F : kF} {pc : Nat} {ls : Array Slot} {rest : List Value} {o : Nat} {ad : Nat → Nat} {M : mM}
end MR
/-! folds; the words for what is told come with the contracts -/
def l_fold (f : Nat → Int32 → Int32) (s : Int32) : Nat → Int32
  | 0 => s
  | k + 1 => f k (l_fold f s k)
def tx (a r : Int32) : Int32 := a * r / 100
def kk (M : mM) (i : Nat) : Nat := (M 13 i).toNatClampNeg
def nn (M : mM) : Nat := (M 2 0).toNatClampNeg
def cc (M : mM) : Nat := (M 18 0).toNatClampNeg
def dd (M : mM) : Nat := (M 22 0).toNatClampNeg
theorem k3 (j : Nat) : (3 : Int32) * nI j = nI (3 * j) := pk_mul 3 j
/-- the numbers of lines, invoices, credits, signs are small naturals -/
def okL (M : mM) (i : Nat) : Prop := M 13 i = nI (kk M i) ∧ kk M i ≤ 3
def okN (M : mM) : Prop := M 2 0 = nI (nn M) ∧ nn M ≤ 20
def okC (M : mM) : Prop := M 18 0 = nI (cc M) ∧ cc M ≤ 24
def okD (M : mM) : Prop := M 22 0 = nI (dd M) ∧ dd M ≤ 10
def kj (x : Int32) : Nat := x.toNatClampNeg
def okI (x : Int32) (n : Nat) : Prop := x = nI (kj x) ∧ kj x < n
theorem okI_of {x : Int32} {n : Nat} (hn : n < 2 ^ 30) (h1 : 0 ≤ x) (h2 : x ≤ nI n - 1) : okI x n := by
  obtain ⟨j, hj, rfl⟩ := nI_of (x := x) (Int32.not_lt.mpr h1)
  have e : kj (nI j) = j := nI_clamp hj
  refine ⟨by rw [e], ?_⟩
  rw [e]
  rw [Int32.le_iff_toInt_le, nI_toInt hj, show (1 : Int32) = nI 1 from rfl, pk_sub_toInt hn (by decide)] at h2
  omega
theorem okI_5 {x : Int32} (h : 0 ≤ x ∧ x ≤ 5) : okI x 6 := okI_of (n := 6) (by decide) h.1 h.2
theorem ixM {M : mM} (hn : okN M) {a : Int32} (h : 0 ≤ a ∧ a ≤ M 2 0 - 1) : okI a (nn M) := okI_of (by have := hn.2; omega) h.1 (hn.1 ▸ h.2)
theorem ixL {M : mM} {i : Nat} (hk : okL M i) {b : Int32} (h : 0 ≤ b ∧ b ≤ M 13 i - 1) : okI b (kk M i) := okI_of (by have := hk.2; omega) h.1 (hk.1 ▸ h.2)
theorem lp_in {a b : Nat} (ha : a < 2 ^ 31) (_hb : b < 2 ^ 31) (h : ¬ nI b ≤ nI a) : a < b := by
  rcases Nat.lt_or_ge a b with q | q
  · exact q
  · exact absurd (nI_le q ha) h
theorem lp_out {a b : Nat} (ha : a < 2 ^ 31) (hb : b < 2 ^ 31) (h : nI b ≤ nI a) : b ≤ a := (nI_leI hb ha).mp h
theorem okL0 {M : mM} {i : Nat} (h : M 13 i = 0) : okL M i ∧ kk M i < 3 := by
  have e : kk M i = 0 := by unfold kk; rw [h]; rfl
  exact ⟨⟨by rw [e, h]; rfl, by rw [e]; decide⟩, by rw [e]; decide⟩
theorem lt_of_ne {x : Int32} {n b : Nat} {c : Int32} (h : x = nI n ∧ n ≤ b) (hc : c = nI b) (hx : ¬ x = c) : n < b := by
  rcases Nat.lt_or_ge n b with q | q
  · exact q
  · exact absurd (by rw [h.1, hc, Nat.le_antisymm h.2 q]) hx
theorem k3ab {a b : Int32} {i q : Nat} (ha : a = nI i) (hb : b = nI q) : 3 * a + b = nI (3 * i + q) := by
  rw [ha, hb, k3, nI_add]
theorem vpz {z : Int32} (h : z = 0 ∨ z = 1) : vp_nar .boolean z = z := by rcases h with rfl | rfl <;> rfl
theorem okI_lit {x : Int32} {n : Nat} (hn : n + 1 < 2 ^ 30) (h1 : 0 ≤ x) (h2 : x ≤ nI n) : okI x (n + 1) := by
  refine okI_of (n := n + 1) hn h1 ?_
  rw [show nI (n + 1) - 1 = nI n from nI_pred n]
  exact h2
theorem moOk {x b : Int32} (hday : okI x 1000) (h : 0 ≤ b ∧ b ≤ x / 30) : okI b 34 := by
  have hx2 := hday.2
  have e : x / 30 = nI (kj x / 30) := by
    conv => lhs; rw [hday.1]
    exact pk_div (a := kj x) (d := 30) (by omega) (by decide) (by decide)
  have h3 := okI_lit (n := kj x / 30) (by have := hday.2; omega) h.1 (e ▸ h.2)
  exact ⟨h3.1, by have := h3.2; have := hday.2; omega⟩
theorem sw9 {b : Int32} (h : 0 ≤ b ∧ b ≤ 9) : b = 0 ∨ b = 1 ∨ b = 2 ∨ b = 3 ∨ b = 4 ∨ b = 5 ∨ b = 6 ∨ b = 7 ∨ b = 8 ∨ b = 9 := by
  have h3 := okI_lit (n := 9) (by decide) h.1 h.2
  obtain ⟨e, hlt⟩ := h3
  generalize kj b = k at e hlt
  match k, hlt with
  | 0, _ => exact Or.inl e
  | 1, _ => exact Or.inr (Or.inl e)
  | 2, _ => exact Or.inr (Or.inr (Or.inl e))
  | 3, _ => exact Or.inr (Or.inr (Or.inr (Or.inl e)))
  | 4, _ => exact Or.inr (Or.inr (Or.inr (Or.inr (Or.inl e))))
  | 5, _ => exact Or.inr (Or.inr (Or.inr (Or.inr (Or.inr (Or.inl e)))))
  | 6, _ => exact Or.inr (Or.inr (Or.inr (Or.inr (Or.inr (Or.inr (Or.inl e))))))
  | 7, _ => exact Or.inr (Or.inr (Or.inr (Or.inr (Or.inr (Or.inr (Or.inr (Or.inl e)))))))
  | 8, _ => exact Or.inr (Or.inr (Or.inr (Or.inr (Or.inr (Or.inr (Or.inr (Or.inr (Or.inl e))))))))
  | 9, _ => exact Or.inr (Or.inr (Or.inr (Or.inr (Or.inr (Or.inr (Or.inr (Or.inr (Or.inr e))))))))
  | k + 10, h => exact absurd h (by omega)
/-- a loop that counts down -/
def l_down (f : Nat → Int32 → Int32) : Nat → Int32 → Int32
  | 0, s => s
  | k + 1, s => l_down f k (f k s)
theorem mset_s (M : mM) (k j : Nat) (x : Int32) : mset M k j x k j = x := by simp [mset, upd]
