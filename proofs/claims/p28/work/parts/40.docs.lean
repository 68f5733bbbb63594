/-! lists that grow; documents -/
def But (L : List Nat) (F : kF) (tg : cTg) (L1 : List Nat) (F1 : kF) (tg1 : cTg) (k : Nat) : Prop := ∀ b ∈ L, tg b ≠ (5, k, 0) → tg b ≠ (6, k, 0) → b ∈ L1 ∧ F1 b = F b ∧ tg1 b = tg b
section DO
variable {γ : kG} {L L1 : List Nat} {F F1 : kF} {o : Nat} {ad : cAd} {tg tg1 : cTg} {M M' : mM} {nd : Nat} {D D1 : cD}
theorem added {a e0 n x k : Nat} {mc : Int32} {f : Nat → Option Nat} {g g' : Nat → Nat} (h : kAdded γ L F a e0 n x mc f L1 F1) (ha : a ∈ L) (hta : tg a = (5, k, 0)) (hfj : ∀ j, j < n → f j = some (g j)) (ht : n = 0 ∨ tg e0 = (6, k, 0)) (hg : ∀ j, j < n → g' j = g j) (hgn : g' n = x) : ∃ tg1, Lst γ L1 F1 tg1 a k (n + 1) g' ∧ But L F tg L1 F1 tg1 k := by
  obtain ⟨e1, cap1, f1, g1, g2, g3, g4, g5, g6, g7, g8, g9, g10, g11⟩ := h
  have hfs : ∀ j, j < n + 1 → f1 j = some (g' j) := by
    intro j hj
    by_cases e : j = n
    · subst e; rw [hgn]; exact g7
    · rw [g8 j (by omega), hfj j (by omega), hg j (by omega)]
  have hfr : ∀ b ∈ L, tg b ≠ (5, k, 0) → tg b ≠ (6, k, 0) → F1 b = F b := by
    intro b hb h5 h6
    refine g11 b hb (fun e => h5 (by rw [e, hta])) ?_
    rcases ht with h | h
    · exact Or.inr h
    · exact Or.inl (fun e => h6 (by rw [e, h]))
  by_cases he : e1 ∈ L
  · have hee := g3.resolve_right (fun h => h he)
    have hte : tg e1 = (6, k, 0) := by rw [hee.1]; exact ht.resolve_left hee.2
    exact ⟨tg, ⟨mc, e1, f1, ⟨g9, hta, g10⟩, Or.inr ⟨cap1, ⟨g2, hte, g6⟩, by omega, g4, g5⟩, hfs⟩, fun b hb h5 h6 => ⟨g1 b hb, hfr b hb h5 h6, rfl⟩⟩
  · have hae : a ≠ e1 := fun e => he (e ▸ ha)
    exact ⟨tup tg e1 (6, k, 0), ⟨mc, e1, f1, ⟨g9, by rw [tup_n tg _ hae]; exact hta, g10⟩, Or.inr ⟨cap1, ⟨g2, tup_s _ _ _, g6⟩, by omega, g4, g5⟩, hfs⟩, fun b hb h5 h6 => ⟨g1 b hb, hfr b hb h5 h6, tup_n tg _ (fun e => he (e ▸ hb))⟩⟩
theorem has.but {b k : Nat} {t : Nat × Nat × Nat} {w : va_E} (h : has L F tg b t w) (hm : But L F tg L1 F1 tg1 k) (h5 : t ≠ (5, k, 0)) (h6 : t ≠ (6, k, 0)) : has L1 F1 tg1 b t w := by
  obtain ⟨h1, h2, h3⟩ := h
  obtain ⟨g1, g2, g3⟩ := hm b h1 (by rw [h2]; exact h5) (by rw [h2]; exact h6)
  exact ⟨g1, g3.trans h2, g2.trans h3⟩
theorem Lst.but {a k k' n : Nat} {g : Nat → Nat} (h : Lst γ L F tg a k' n g) (hm : But L F tg L1 F1 tg1 k) (hk : k' ≠ k) : Lst γ L1 F1 tg1 a k' n g := by
  obtain ⟨mc, e, f, h1, h2, h3⟩ := h
  refine ⟨mc, e, f, h1.but hm (tg_ne (by omega)) (tg_ne (by omega)), ?_, h3⟩
  rcases h2 with h2 | ⟨cap, h2, h4⟩
  · exact Or.inl h2
  · exact Or.inr ⟨cap, h2.but hm (tg_ne (by omega)) (tg_ne (by omega)), h4⟩
def adD (ad : cAd) (κ n q : Nat) : cAd := fun c i j => if c = κ ∧ i = n then q else ad c i j
theorem RepC.doc (h : RepC γ L F o ad tg M nd D) {q : Nat} (hq : has L F tg q (4, nd, 0) (dC D1 nd)) (hD : ∀ d, d < nd → D1 d = D d) (hl : Lst γ L1 F1 tg1 (ad 5 2 0) 2 (nd + 1) (fun j => adD ad 4 nd q 4 j 0)) (hb : But L F tg L1 F1 tg1 2) : RepC γ L1 F1 o (adD ad 4 nd q) tg1 M (nd + 1) D1 := by
  obtain ⟨g0, g1, g2, g3, g4, l1, l2, l3, l4, g7, ⟨ml, g8⟩, g9⟩ := h
  refine ⟨g0.but hb (tg_ne (by omega)) (tg_ne (by omega)), fun i hi => (g1 i hi).but hb (tg_ne (by omega)) (tg_ne (by omega)), fun i hi j hj => (g2 i hi j hj).but hb (tg_ne (by omega)) (tg_ne (by omega)), fun k hk => (g3 k hk).but hb (tg_ne (by omega)) (tg_ne (by omega)), fun d hd => ?_, l1.but hb (by omega), l2.but hb (by omega), hl, fun i hi => (l4 i hi).but hb (by omega), g7.but hb (tg_ne (by omega)) (tg_ne (by omega)), ⟨ml, g8.but hb (tg_ne (by omega)) (tg_ne (by omega))⟩, g9.but hb (tg_ne (by omega)) (tg_ne (by omega))⟩
  by_cases e : d = nd
  · subst e
    rw [show adD ad 4 d q 4 d 0 = q from if_pos ⟨rfl, rfl⟩]
    exact hq.but hb (tg_ne (by omega)) (tg_ne (by omega))
  · rw [show adD ad 4 nd q 4 d 0 = ad 4 d 0 from if_neg (fun h => e h.2), show dC D1 d = dC D d by unfold dC; rw [hD d (by omega)]]
    exact (g4 d (by omega)).but hb (tg_ne (by omega)) (tg_ne (by omega))
theorem dSum_congr {D D1 : cD} (a : Int32) : ∀ n, (∀ d, d < n → D1 d = D d) → dSum D1 a n = dSum D a n
  | 0, _ => rfl
  | k + 1, h => by
    unfold dSum
    rw [dSum_congr a k (fun d hd => h d (by omega)), h k (by omega)]
theorem Inv.move (hI : Inv M nd D) {f g : Nat} (hf : f < 6) (hg : g < 6) (hne : f ≠ g) {x : Int32} (hD : ∀ d, d < nd → D1 d = D d) (hDn : D1 nd = (nI f, nI g, x)) : Inv (movesM M f g x) (nd + 1) D1 := by
  obtain ⟨h1, h2, h3, h4, h5, h6, h7, h8, h9, h10, h11, h12, h13, h14, h15⟩ := hI
  refine ⟨h1, h2, h3, h4, h5, h6, h7, h8, h9, h10, h11, h12, h13, h14, fun c hc => ?_⟩
  have e0 := h15 c hc
  have eN : ∀ {p q : Nat}, p < 6 → q < 6 → (nI p = nI q ↔ p = q) := fun hp hq => nI_eq (by omega) (by omega)
  unfold dSum
  rw [dSum_congr (nI c) nd hD, hDn, ← e0]
  show movesM M f g x 1 c = (if nI f = nI c then (if nI g = nI c then M 1 c + x else M 1 c) - x else (if nI g = nI c then M 1 c + x else M 1 c))
  unfold movesM
  by_cases hcg : c = g
  · subst hcg
    rw [if_neg (fun e => hne ((eN hf hc).mp e)), if_pos rfl, mset_s, mset_n _ _ (fun h => hne h.2.symm)]
  · rw [mset_n _ _ (fun h => hcg h.2)]
    by_cases hcf : c = f
    · subst hcf
      rw [if_pos rfl, if_neg (fun e => hne ((eN hg hc).mp e).symm), mset_s]
    · rw [if_neg (fun e => hcf ((eN hf hc).mp e).symm), if_neg (fun e => hcg ((eN hg hc).mp e).symm), mset_n _ _ (fun h => hcf h.2)]
end DO
