/-! frames: what a write, a new object leave as it was -/
def tup (tg : cTg) (q : Nat) (t : Nat × Nat × Nat) : cTg := fun b => if b = q then t else tg b
theorem tup_s (tg : cTg) (q : Nat) (t : Nat × Nat × Nat) : tup tg q t q = t := if_pos rfl
theorem tup_n (tg : cTg) {q b : Nat} (t : Nat × Nat × Nat) (h : b ≠ q) : tup tg q t b = tg b := if_neg h
section FR
variable {γ : kG} {L L1 : List Nat} {F F1 : kF} {o : Nat} {ad : cAd} {tg tg1 : cTg} {M M' : mM} {nd : Nat} {D : cD}
theorem has.ne {a b : Nat} {t t' : Nat × Nat × Nat} {w : va_E} (h : has L F tg b t' w) (ht : tg a = t) (hne : t ≠ t') : b ≠ a := fun e => hne (by rw [← ht, ← e, h.2.1])
theorem has.other {a b : Nat} {t t' : Nat × Nat × Nat} {v w : va_E} (h : has L F tg b t' w) (ht : tg a = t) (hne : t ≠ t') : has L (va_up F a v) tg b t' w :=
  ⟨h.1, h.2.1, by rw [va_up_ne _ _ (h.ne ht hne)]; exact h.2.2⟩
theorem has.at {a : Nat} {t : Nat × Nat × Nat} {v : va_E} (ha : a ∈ L) (ht : tg a = t) : has L (va_up F a v) tg a t v := ⟨ha, ht, va_up_self _ _ _⟩
/-- a world that has all that was there -/
def More (L : List Nat) (F : kF) (tg : cTg) (L1 : List Nat) (F1 : kF) (tg1 : cTg) : Prop := ∀ b ∈ L, b ∈ L1 ∧ F1 b = F b ∧ tg1 b = tg b
theorem has.more {b : Nat} {t : Nat × Nat × Nat} {w : va_E} (h : has L F tg b t w) (hm : More L F tg L1 F1 tg1) : has L1 F1 tg1 b t w := by
  obtain ⟨h1, h2, h3⟩ := h
  obtain ⟨g1, g2, g3⟩ := hm b h1
  exact ⟨g1, g3.trans h2, g2.trans h3⟩
theorem Lst.more {a k n : Nat} {g : Nat → Nat} (h : Lst γ L F tg a k n g) (hm : More L F tg L1 F1 tg1) : Lst γ L1 F1 tg1 a k n g := by
  obtain ⟨mc, e, f, h1, h2, h3⟩ := h
  refine ⟨mc, e, f, h1.more hm, ?_, h3⟩
  rcases h2 with h2 | ⟨cap, h2, h4⟩
  · exact Or.inl h2
  · exact Or.inr ⟨cap, h2.more hm, h4⟩
theorem RepC.more (h : RepC γ L F o ad tg M nd D) (hm : More L F tg L1 F1 tg1) : RepC γ L1 F1 o ad tg1 M nd D := by
  obtain ⟨h0, h1, h2, h3, h4, h5, h6, h7, h8, h9, ⟨ml, h10⟩, h11⟩ := h
  exact ⟨h0.more hm, fun i hi => (h1 i hi).more hm, fun i hi j hj => (h2 i hi j hj).more hm, fun k hk => (h3 k hk).more hm, fun d hd => (h4 d hd).more hm, h5.more hm, h6.more hm, h7.more hm, fun i hi => (h8 i hi).more hm, h9.more hm, ⟨ml, h10.more hm⟩, h11.more hm⟩
theorem More.refl : More L F tg L F tg := fun b hb => ⟨hb, rfl, rfl⟩
theorem More.trans {L2 : List Nat} {F2 : kF} {tg2 : cTg} (h : More L F tg L1 F1 tg1) (h2 : More L1 F1 tg1 L2 F2 tg2) : More L F tg L2 F2 tg2 := fun b hb => by
  obtain ⟨a1, a2, a3⟩ := h b hb
  obtain ⟨b1, b2, b3⟩ := h2 b a1
  exact ⟨b1, b2.trans a2, b3.trans a3⟩
theorem More.new {q : Nat} {v : va_E} {t : Nat × Nat × Nat} (hq : q ∉ L) : More L F tg (L ++ [q]) (va_up F q v) (tup tg q t) := fun b hb => by
  have hne : b ≠ q := fun e => hq (e ▸ hb)
  exact ⟨List.mem_append_left _ hb, va_up_ne _ _ hne, tup_n tg t hne⟩
theorem Lst.other {a b k n : Nat} {g : Nat → Nat} {t : Nat × Nat × Nat} {v : va_E} (h : Lst γ L F tg b k n g) (ht : tg a = t) (h5 : t ≠ (5, k, 0)) (h6 : t ≠ (6, k, 0)) : Lst γ L (va_up F a v) tg b k n g := by
  obtain ⟨mc, e, f, h1, h2, h3⟩ := h
  refine ⟨mc, e, f, h1.other ht h5, ?_, h3⟩
  rcases h2 with h2 | ⟨cap, h2, h4⟩
  · exact Or.inl h2
  · exact Or.inr ⟨cap, h2.other ht h6, h4⟩
theorem RepC.write (h : RepC γ L F o ad tg M nd D) {a : Nat} {t : Nat × Nat × Nat} {v : va_E} (ha : a ∈ L) (ht : tg a = t) (h5 : ∀ k, t ≠ (5, k, 0)) (h6 : ∀ k, t ≠ (6, k, 0))
    (hn : nn M' = nn M) (hk : ∀ i, i < nn M → kk M' i = kk M i) (hc : cc M' = cc M)
    (e0 : (o = a ∧ oC ad M' = v) ∨ (t ≠ (0, 0, 0) ∧ oC ad M' = oC ad M))
    (e1 : ∀ i, i < nn M → (ad 1 i 0 = a ∧ iC ad M' i = v) ∨ (t ≠ (1, i, 0) ∧ iC ad M' i = iC ad M i))
    (e2 : ∀ i, i < nn M → ∀ j, j < kk M i → (ad 2 i j = a ∧ lC M' i j = v) ∨ (t ≠ (2, i, j) ∧ lC M' i j = lC M i j))
    (e3 : ∀ k, k < cc M → t ≠ (3, k, 0) ∧ rC ad M' k = rC ad M k)
    (e4 : ∀ d, d < nd → t ≠ (4, d, 0))
    (e7 : (ad 7 0 0 = a ∧ .inl (γ.2.1 1, 6, .inl (M' 1)) = v) ∨ (t ≠ (7, 0, 0) ∧ M' 1 = M 1))
    (e8 : (ad 8 0 0 = a ∧ ∃ ml : Int32, .inr (1, [.ref (ad 9 0 0), .int 0, .int ml, .int (M' 22 0)]) = v) ∨ (t ≠ (8, 0, 0) ∧ M' 22 0 = M 22 0))
    (e9 : (ad 9 0 0 = a ∧ .inl (γ.2.1 0, 16, .inl (M' 23)) = v) ∨ (t ≠ (9, 0, 0) ∧ M' 23 = M 23)) : RepC γ L (va_up F a v) o ad tg M' nd D := by
  obtain ⟨g0, g1, g2, g3, g4, l1, l2, l3, l4, g7, ⟨ml, g8⟩, g9⟩ := h
  have atv : ∀ {b : Nat} {t' : Nat × Nat × Nat} {w w' : va_E}, has L F tg b t' w → b = a → w' = v → has L (va_up F a v) tg b t' w' := by
    intro b t' w w' hb e ew
    subst e; subst ew
    exact ⟨hb.1, hb.2.1, va_up_self _ _ _⟩
  refine ⟨?_, fun i hi => ?_, fun i hi j hj => ?_, fun k hk9 => ?_, fun d hd => ?_, ?_, ?_, ?_, fun i hi => ?_, ?_, ?_, ?_⟩
  · rcases e0 with ⟨p1, p2⟩ | ⟨p1, p2⟩
    · exact atv g0 p1 p2
    · rw [p2]; exact g0.other ht p1
  · rw [hn] at hi
    rcases e1 i hi with ⟨p1, p2⟩ | ⟨p1, p2⟩
    · exact atv (g1 i hi) p1 p2
    · rw [p2]; exact (g1 i hi).other ht p1
  · rw [hn] at hi
    rw [hk i hi] at hj
    rcases e2 i hi j hj with ⟨p1, p2⟩ | ⟨p1, p2⟩
    · exact atv (g2 i hi j hj) p1 p2
    · rw [p2]; exact (g2 i hi j hj).other ht p1
  · rw [hc] at hk9
    obtain ⟨p1, p2⟩ := e3 k hk9
    rw [p2]; exact (g3 k hk9).other ht p1
  · exact (g4 d hd).other ht (e4 d hd)
  · rw [hn]; exact l1.other ht (h5 _) (h6 _)
  · rw [hc]; exact l2.other ht (h5 _) (h6 _)
  · exact l3.other ht (h5 _) (h6 _)
  · rw [hn] at hi
    rw [hk i hi]; exact (l4 i hi).other ht (h5 _) (h6 _)
  · rcases e7 with ⟨p1, p2⟩ | ⟨p1, p2⟩
    · exact atv g7 p1 p2
    · rw [p2]; exact g7.other ht p1
  · rcases e8 with ⟨p1, ml1, p2⟩ | ⟨p1, p2⟩
    · exact ⟨ml1, atv g8 p1 p2⟩
    · rw [p2]; exact ⟨ml, g8.other ht p1⟩
  · rcases e9 with ⟨p1, p2⟩ | ⟨p1, p2⟩
    · exact atv g9 p1 p2
    · rw [p2]; exact g9.other ht p1
end FR
theorem mset_n (M : mM) {k j k' j' : Nat} (x : Int32) (h : ¬ (k' = k ∧ j' = j)) : mset M k j x k' j' = M k' j' := by
  unfold mset
  by_cases h1 : k' = k
  · subst h1
    rw [if_pos rfl]
    exact if_neg (fun h2 => h ⟨rfl, h2⟩)
  · rw [if_neg h1]
theorem mset_k (M : mM) {k j k' : Nat} (x : Int32) (h : k' ≠ k) : mset M k j x k' = M k' := if_neg h
theorem tg_ne {a b c a' b' c' : Nat} (h : ¬ (a = a' ∧ b = b' ∧ c = c')) : (a, b, c) ≠ (a', b', c') := fun e => h (by cases e; exact ⟨rfl, rfl, rfl⟩)
