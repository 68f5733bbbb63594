/-! send: the table behind it -/
def sT (M : mM) (n : Nat) (a b z x y : Int32) : mM := mset (mset (mset (mset (mset (mset (mset (mset (mset (mset (mset (mset M 24 0 0) 3 n a) 4 n b) 5 n z) 6 n 0) 7 n (M 0 0)) 9 n a) 14 (3 * n) x) 15 (3 * n) x) 16 (3 * n) y) 13 n 1) 2 0 (nI (n + 1))
theorem sT_eq {M : mM} {nd : Nat} {D : cD} (hI : Inv M nd D) (a b z x y : Int32) : mset (addsM (mset (mset (mset (mset (mset (mset (mset M 24 0 0) 3 (nn M) a) 4 (nn M) b) 5 (nn M) z) 6 (nn M) 0) 7 (nn M) (M 0 0)) 9 (nn M) a) (nn M) x y) 2 0 ((M 2 0) + 1) = sT M (nn M) a b z x y := by
  have h13 : M 13 (nn M) = 0 := (hI.2.2.2.2.2.2.2.2.2.1 (nn M) (Nat.le_refl _)).2.2.2
  have e2 : M 2 0 + 1 = nI (nn M + 1) := by rw [hI.1.1, nI_1]
  generalize hS : mset (mset (mset (mset (mset (mset (mset M 24 0 0) 3 (nn M) a) 4 (nn M) b) 5 (nn M) z) 6 (nn M) 0) 7 (nn M) (M 0 0)) 9 (nn M) a = S
  have hS13 : S 13 (nn M) = 0 := by rw [← hS]; exact h13
  have hk : kk S (nn M) = 0 := by unfold kk; rw [hS13]; rfl
  unfold addsM sT
  rw [hk, hS, hS13, e2]
  rfl
theorem sT_nn {M : mM} {n : Nat} (hn : n < 20) (a b z x y : Int32) : nn (sT M n a b z x y) = n + 1 := by
  show (nI (n + 1)).toNatClampNeg = n + 1
  exact nI_clamp (by omega)
theorem sT_kn (M : mM) (n : Nat) (a b z x y : Int32) : kk (sT M n a b z x y) n = 1 := by
  show (upd (M 13) n 1 n).toNatClampNeg = 1
  rw [show upd (M 13) n 1 n = 1 from if_pos rfl]; rfl
theorem sT_k {M : mM} {n i : Nat} (h : i ≠ n) (a b z x y : Int32) : kk (sT M n a b z x y) i = kk M i := by
  show (upd (M 13) n 1 i).toNatClampNeg = _
  rw [show upd (M 13) n 1 i = M 13 i from if_neg h]; rfl
theorem Inv.snd {M : mM} {nd : Nat} {D : cD} (hI : Inv M nd D) (hn : nn M < 20) {a b z x y : Int32} (ha : okI a 6) (hb : okI b 6) (hne : ¬ a = b) (hx : okI x 10000) (hy : okI y 20) : Inv (sT M (nn M) a b z x y) nd D := by
  obtain ⟨h1, h2, h3, h4, h5, h6, h7, h8, h9, h10, h11, h12, h13, h14, h15⟩ := hI
  have en := sT_nn (M := M) hn a b z x y
  have ekn := sT_kn M (nn M) a b z x y
  have ek : ∀ i, i ≠ nn M → kk (sT M (nn M) a b z x y) i = kk M i := fun i h => sT_k h a b z x y
  refine ⟨⟨by rw [en]; rfl, by rw [en]; omega⟩, fun i hi => ?_, h3, h4, fun k hk => ?_, fun i hi => ?_, h7, fun i hi j hj => ?_, h9, fun i hi => ?_, fun i j hk hj => ?_, h12, h13, fun i hi => ?_, h15⟩
  · rw [en] at hi
    by_cases e : i = nn M
    · rw [e]
      refine ⟨?_, by rw [ekn]; omega⟩
      rw [ekn]
      show upd (M 13) (nn M) 1 (nn M) = nI 1
      exact if_pos rfl
    · refine ⟨?_, by rw [ek i e]; exact (h2 i (by omega)).2⟩
      rw [ek i e]
      show upd (M 13) (nn M) 1 i = _
      rw [show upd (M 13) (nn M) 1 i = M 13 i from if_neg e]; exact (h2 i (by omega)).1
  · rw [en]; exact okI_mono (h5 k hk) (by omega)
  · rw [en] at hi
    show okI (upd (M 3) (nn M) a i) 6 ∧ okI (upd (M 4) (nn M) b i) 6 ∧ okI (upd (M 9) (nn M) a i) 6 ∧ upd (M 3) (nn M) a i ≠ upd (M 4) (nn M) b i
    by_cases e : i = nn M
    · rw [show upd (M 3) (nn M) a i = a from if_pos e, show upd (M 4) (nn M) b i = b from if_pos e, show upd (M 9) (nn M) a i = a from if_pos e]
      exact ⟨ha, hb, ha, hne⟩
    · rw [show upd (M 3) (nn M) a i = M 3 i from if_neg e, show upd (M 4) (nn M) b i = M 4 i from if_neg e, show upd (M 9) (nn M) a i = M 9 i from if_neg e]
      exact h6 i (by omega)
  · rw [en] at hi
    show okI (upd (M 14) (3 * nn M) x (3 * i + j)) 10000 ∧ okI (upd (M 15) (3 * nn M) x (3 * i + j)) 10000 ∧ okI (upd (M 16) (3 * nn M) y (3 * i + j)) 20
    by_cases e : i = nn M
    · rw [e, ekn] at hj
      have e2 : 3 * i + j = 3 * nn M := by omega
      rw [show upd (M 14) (3 * nn M) x (3 * i + j) = x from if_pos e2, show upd (M 15) (3 * nn M) x (3 * i + j) = x from if_pos e2, show upd (M 16) (3 * nn M) y (3 * i + j) = y from if_pos e2]
      exact ⟨hx, hx, hy⟩
    · rw [ek i e] at hj
      have := (h2 i (by omega)).2
      have e2 : ¬ 3 * i + j = 3 * nn M := by omega
      rw [show upd (M 14) (3 * nn M) x (3 * i + j) = M 14 (3 * i + j) from if_neg e2, show upd (M 15) (3 * nn M) x (3 * i + j) = M 15 (3 * i + j) from if_neg e2, show upd (M 16) (3 * nn M) y (3 * i + j) = M 16 (3 * i + j) from if_neg e2]
      exact h8 i (by omega) j hj
  · rw [en] at hi
    have h := h10 i (by omega)
    refine ⟨h.1, h.2.1, h.2.2.1, ?_⟩
    show upd (M 13) (nn M) 1 i = 0
    rw [show upd (M 13) (nn M) 1 i = M 13 i from if_neg (by omega)]; exact h.2.2.2
  · refine h11 i j ?_ hj
    by_cases e : i = nn M
    · have h13' := (h10 (nn M) (Nat.le_refl _)).2.2.2
      have : kk M i = 0 := by rw [e]; unfold kk; rw [h13']; rfl
      omega
    · rw [ek i e] at hk; exact hk
  · rw [en] at hi
    by_cases e : i = nn M
    · rw [e, ekn]; exact Nat.le_refl _
    · rw [ek i e]; exact h14 i (by omega)
theorem hasC_new {M : mM} {nd : Nat} {D : cD} (hI : Inv M nd D) : hasC M (nI (nn M)) = 0 := by
  have key : ∀ j, j ≤ cc M → l_fold (hasC_st M (nI (nn M))) 0 j = 0 := by
    intro j
    induction j with
    | zero => intro _; rfl
    | succ j ih =>
      intro hj
      rw [l_fold, ih (by omega)]
      have h5 := hI.2.2.2.2.1 j (by omega)
      have hn := hI.1.2
      show (if M 19 j = nI (nn M) then (0 : Int32) ||| 1 else 0 ||| 0) = 0
      rw [if_neg (fun e => by
        rw [h5.1] at e
        have := (nI_eq (a := kj (M 19 j)) (b := nn M) (by have := h5.2; omega) (by omega)).mp e
        have := h5.2; omega)]
      rfl
  exact key _ (Nat.le_refl _)
section SB
variable {γ : kG} {L L1 : List Nat} {F F1 : kF} {o : Nat} {ad : cAd} {tg tg1 : cTg} {M M' : mM} {nd : Nat} {D : cD}
theorem RepC.butf (h : RepC γ L F o ad tg M nd D) {k : Nat} (hb : But L F tg L1 F1 tg1 k) (hk : 3 + nn M ≤ k) : RepC γ L1 F1 o ad tg1 M nd D := by
  obtain ⟨g0, g1, g2, g3, g4, l1, l2, l3, l4, g7, ⟨ml, g8⟩, g9⟩ := h
  exact ⟨g0.but hb (tg_ne (by omega)) (tg_ne (by omega)), fun i hi => (g1 i hi).but hb (tg_ne (by omega)) (tg_ne (by omega)), fun i hi j hj => (g2 i hi j hj).but hb (tg_ne (by omega)) (tg_ne (by omega)), fun c hc => (g3 c hc).but hb (tg_ne (by omega)) (tg_ne (by omega)), fun d hd => (g4 d hd).but hb (tg_ne (by omega)) (tg_ne (by omega)), l1.but hb (by omega), l2.but hb (by omega), l3.but hb (by omega), fun i hi => (l4 i hi).but hb (by omega), g7.but hb (tg_ne (by omega)) (tg_ne (by omega)), ⟨ml, g8.but hb (tg_ne (by omega)) (tg_ne (by omega))⟩, g9.but hb (tg_ne (by omega)) (tg_ne (by omega))⟩
theorem RepC.sndT (h : RepC γ L F o ad tg M nd D) (hI : Inv M nd D) (hn : nn M < 20) {q r s : Nat} {a b z x y : Int32} (hq : has L F tg q (1, nn M, 0) (.inr (7, [.int a, .int b, .int z, .int (M 0 0), .ref r, .int 0, .int (-1), .int 0, .int 0, .int a, .int 0, .int 0]))) (hs : has L F tg s (2, nn M, 0) (.inr (8, [.int x, .int y, .int x, .int 0]))) (hr : Lst γ L F tg r (3 + nn M) 1 (fun j => adS ad (nn M) q r s 2 (nn M) j)) (hb : But L F tg L1 F1 tg1 0) (hl : Lst γ L1 F1 tg1 (ad 5 0 0) 0 (nn M + 1) (fun j => adS ad (nn M) q r s 1 j 0)) : RepC γ L1 F1 o (adS ad (nn M) q r s) tg1 (sT M (nn M) a b z x y) nd D := by
  have hz := hI.2.2.2.2.2.2.2.2.2.1 (nn M) (Nat.le_refl _)
  have h17 : M 17 (3 * nn M + 0) = 0 := hI.2.2.2.2.2.2.2.2.2.2.1 (nn M) 0 (by unfold kk; rw [hz.2.2.2]; decide) (by decide)
  refine h.snd hq hs hr hb hl ?_ ?_ (sT_nn hn a b z x y) (fun i hi => sT_k (by omega) a b z x y) (sT_kn M (nn M) a b z x y) rfl rfl (fun i hi => ?_) (fun i j hi hj => ?_) (fun _ => rfl) (fun k hk => (hI.2.2.2.2.1 k hk).2) rfl rfl rfl
  · unfold iC aDay
    rw [show sT M (nn M) a b z x y 3 (nn M) = a from if_pos rfl, show sT M (nn M) a b z x y 4 (nn M) = b from if_pos rfl, show sT M (nn M) a b z x y 5 (nn M) = z from if_pos rfl, show sT M (nn M) a b z x y 7 (nn M) = M 0 0 from if_pos rfl, show sT M (nn M) a b z x y 6 (nn M) = 0 from if_pos rfl, show sT M (nn M) a b z x y 9 (nn M) = a from if_pos rfl, show sT M (nn M) a b z x y 10 (nn M) = 0 from hz.1, show sT M (nn M) a b z x y 11 (nn M) = 0 from hz.2.1, show sT M (nn M) a b z x y 12 (nn M) = 0 from hz.2.2.1, show hasC (sT M (nn M) a b z x y) (nI (nn M)) = 0 from hasC_new hI, if_neg (by decide), show adS ad (nn M) q r s 5 (3 + nn M) 0 = r from by unfold adS; rw [if_neg (by omega), if_pos ⟨rfl, rfl⟩]]
  · unfold lC
    rw [show sT M (nn M) a b z x y 15 (3 * nn M + 0) = x from if_pos rfl, show sT M (nn M) a b z x y 16 (3 * nn M + 0) = y from if_pos rfl, show sT M (nn M) a b z x y 14 (3 * nn M + 0) = x from if_pos rfl, show sT M (nn M) a b z x y 17 (3 * nn M + 0) = 0 from h17]
  · have e : ¬ i = nn M := by omega
    unfold iC aDay
    rw [show sT M (nn M) a b z x y 3 i = M 3 i from if_neg e, show sT M (nn M) a b z x y 4 i = M 4 i from if_neg e, show sT M (nn M) a b z x y 5 i = M 5 i from if_neg e, show sT M (nn M) a b z x y 7 i = M 7 i from if_neg e, show sT M (nn M) a b z x y 6 i = M 6 i from if_neg e, show sT M (nn M) a b z x y 9 i = M 9 i from if_neg e]; rfl
  · have := (hI.2.1 i hi).2
    have e : ¬ 3 * i + j = 3 * nn M := by omega
    unfold lC
    rw [show sT M (nn M) a b z x y 15 (3 * i + j) = M 15 (3 * i + j) from if_neg e, show sT M (nn M) a b z x y 16 (3 * i + j) = M 16 (3 * i + j) from if_neg e, show sT M (nn M) a b z x y 14 (3 * i + j) = M 14 (3 * i + j) from if_neg e]; rfl
end SB
