/-! the drawn loop: payments, texts, sums over companies, taxes, chains -/
theorem least {P : Nat → Prop} : ∀ {i : Nat}, P i → ∃ j, j ≤ i ∧ P j ∧ ∀ k, k < j → ¬ P k := by
  intro i
  induction i using Nat.strongRecOn with
  | ind i ih =>
    intro h
    by_cases e : ∃ k, k < i ∧ P k
    · obtain ⟨k, hk, hp⟩ := e
      obtain ⟨j, h1, h2, h3⟩ := ih k hk hp
      exact ⟨j, by omega, h2, h3⟩
    · exact ⟨i, Nat.le_refl _, h, fun k hk hp => e ⟨k, hk, hp⟩⟩
theorem Xt.of {M M1 : mM} (hX : Xt M) (h2 : M1 2 = M 2) (h6 : M1 6 = M 6) (h9 : M1 9 = M 9) (h4 : M1 4 = M 4) (h17 : M1 17 = M 17) (hs : sum6 M1 = sum6 M) (h12 : ∀ i', M1 12 i' = M 12 i' ∨ (M 6 i' ≠ 0 ∧ okI (M1 12 i') 35695)) : Xt M1 := by
  have hn : nn M1 = nn M := by unfold nn; rw [h2]
  refine ⟨hs.trans hX.1, fun i' hi' e => ?_, fun i' hi' => ?_, fun i' => ?_⟩
  · rw [hn] at hi'
    rw [h6] at e
    rw [h17]
    rcases h12 i' with h | ⟨h, -⟩
    · rw [h]; exact hX.2.1 i' hi' e
    · exact absurd e h
  · rw [hn] at hi'
    rw [h9, h4]
    exact hX.2.2.1 i' hi'
  · rcases h12 i' with h | ⟨-, h⟩
    · rw [h]; exact hX.2.2.2 i'
    · exact h
section D2
variable {M : mM} {nd : Nat} {D : cD} {i j : Nat}
theorem pays_i (hI : Inv M nd D) (hX : Xt M) (hi : i < nn M) {x : Int32} (hx : 1 ≤ x ∧ x ≤ 99999) : paysC (M 4 i) (M 9 i) x = 0 := by
  have h := hI.2.2.2.2.2.1 i hi
  unfold paysC
  rw [if_pos (okI_le5 h.2.1), if_pos (okI_le5 h.2.2.1), if_pos hx, if_neg (fun e => hX.2.2.1 i hi e.symm)]
theorem owed_in (hI : Inv M nd D) (hX : Xt M) (hi : i < nn M) (h : ¬ owed M i ≤ 0) : 1 ≤ owed M i ∧ owed M i ≤ 99999 := by
  have ho := okI_owed hI hX hi
  have h1 := ho.2
  have e := ho.1
  generalize kj (owed M i) = k at e h1
  rw [e] at h ⊢
  have hk : k ≠ 0 := fun e => h (by rw [e]; decide)
  exact ⟨nI_le (a := 1) (by omega) (by omega), nI_le (b := 99999) (by omega) (by decide)⟩
/-- one who is owed something is accepted; paying less than that, or just that -/
theorem pay_12 (hI : Inv M nd D) (hX : Xt M) (hi : i < nn M) {x : Nat} (hx : 1 ≤ x ∧ x < 100000) (hle : ¬ owed M i < nI x) : M 6 i = 1 ∧ okI (M 12 i + nI x) 35695 ∧ ∀ M1 : mM, M1 6 i = M 6 i → costs M1 i 0 = costs M i 0 → M1 12 i = M 12 i + nI x → owed M1 i = owed M i - nI x := by
  have hc := okI_costs hI hi 0
  have hp := hX.2.2.2 i
  have he := owed_eq hI hX hi
  by_cases h6 : M 6 i = 1
  · rw [if_pos h6] at he
    rw [he] at hle
    have hc2 := hc.2
    have hp2 := hp.2
    have hxle : x ≤ kj (costs M i 0) - kj (M 12 i) := by
      rcases Nat.lt_or_ge (kj (costs M i 0) - kj (M 12 i)) x with h | h
      · exact absurd (nI_lt h (by omega)) hle
      · exact h
    have e1 : M 12 i + nI x = nI (kj (M 12 i) + x) := by rw [← nI_add, ← hp.1]
    have e2 : kj (M 12 i + nI x) = kj (M 12 i) + x := by rw [e1]; exact kjn (by omega)
    refine ⟨h6, ⟨by rw [e2]; exact e1, by rw [e2]; omega⟩, fun M1 g6 gc g12 => ?_⟩
    rw [he]
    unfold owed
    rw [g6, if_pos h6, gc, g12, e1]
    conv => lhs; rw [hc.1]
    refine (sub_clip (c := kj (costs M i 0)) (q := kj (M 12 i) + x) (by omega) (by omega)).trans ?_
    rw [pk_sub hxle]
    congr 1
    omega
  · rw [if_neg h6] at he
    rw [he] at hle
    exact absurd (nI_lt (a := 0) (b := x) (by omega) (by omega)) hle
theorem x_paySum (hI : Inv M nd D) (hX : Xt M) (hz : M 24 0 = 0) (hi : i < nn M) (ho : ¬ owed M i ≤ 0) : ∃ M1 q, paySumM M (M 4 i) (M 9 i) (owed M i) = (nI q, M1) ∧ q ≤ i ∧ M1 24 0 = 0 ∧ Xt M1 ∧ M1 2 0 = M 2 0 := by
  have hin := owed_in hI hX hi ho
  have hp := pays_i hI hX hi hin
  obtain ⟨q, hq, hq1, hq2⟩ := least (P := pm M (M 4 i) (M 9 i) (owed M i)) (i := i) ⟨rfl, rfl, rfl⟩
  have hqn : q < nn M := by omega
  have e : l_down (psM M (M 4 i) (M 9 i) (owed M i)) (nn M) (-1) = nI q := ps_at hq2 hq1 _ _ hqn
  have ho2 := okI_owed hI hX hi
  have h20 := hI.1.2
  have h6 := hI.2.2.2.2.2.1 i hi
  have hx0 : kj (owed M i) ≠ 0 := fun e => ho (by rw [ho2.1, e]; decide)
  have hle : ¬ owed M q < nI (kj (owed M i)) := by
    rw [← ho2.1, hq1.2.2]
    exact Int32.lt_irrefl
  obtain ⟨g6, g12, -⟩ := pay_12 hI hX hqn (x := kj (owed M i)) (by have := ho2.2; omega) hle
  rw [← ho2.1] at g12
  rw [paySumM, hp, if_pos (Int32.le_refl 0), mset_24 hz, e, psTail, if_neg (show ¬ nI q = -1 from fun h => by
    have h1 := congrArg Int32.toInt h
    rw [nI_toInt (by omega), show (-1 : Int32).toInt = -1 by decide] at h1
    omega), mset_24 hz, kjn (by omega)]
  refine ⟨_, q, Prod.ext rfl rfl, hq, hz, hX.of rfl rfl rfl rfl rfl ?_ (fun i' => ?_), rfl⟩
  · rw [sum6_moves h6.2.1.2 h6.2.2.1.2]
    exact sum6_of rfl
  · show (if i' = q then M 12 q + owed M i else M 12 i') = M 12 i' ∨ (M 6 i' ≠ 0 ∧ okI (if i' = q then M 12 q + owed M i else M 12 i') 35695)
    by_cases e9 : i' = q
    · subst e9
      rw [if_pos rfl]
      exact Or.inr ⟨by rw [g6]; decide, g12⟩
    · rw [if_neg e9]; exact Or.inl rfl
theorem x_payText (hI : Inv M nd D) (hX : Xt M) (hz : M 24 0 = 0) (hi : i < nn M) (hit : itsM M = nI i) {x : Nat} (hx : 1 ≤ x ∧ x ≤ 700) : (¬ owed M i < nI x ∧ ∃ M1, payTextM M (M 4 i) (M 9 i) (nI x) = (nI i, M1) ∧ M1 24 0 = 0 ∧ Xt M1 ∧ M1 2 0 = M 2 0 ∧ owed M1 i = owed M i - nI x) ∨ (owed M i < nI x ∧ (payTextM M (M 4 i) (M 9 i) (nI x)).2 24 0 = 3) := by
  have hp := pays_i hI hX hi (x := nI x) ⟨nI_le (a := 1) (by omega) (by omega), nI_le (b := 99999) (by omega) (by decide)⟩
  have h6 := hI.2.2.2.2.2.1 i hi
  rw [payTextM, hp, if_pos (Int32.le_refl 0), mset_24 hz, hit, ptail, if_pos (ixn hI hi), kjn (i31 hI hi), if_pos rfl, if_pos rfl, hp, mset_24 hz]
  by_cases c : owed M i < nI x
  · rw [if_pos c]; exact Or.inr ⟨c, mset_s M 24 0 3⟩
  · obtain ⟨g6, g12, g3⟩ := pay_12 hI hX hi (x := x) (by omega) c
    rw [if_neg c, mset_24 hz]
    refine Or.inl ⟨c, _, Prod.ext rfl rfl, hz, hX.of rfl rfl rfl rfl rfl ?_ (fun i' => ?_), rfl, ?_⟩
    · refine (sum6_of (M := movesM (mset M 12 i (M 12 i + nI x)) (kj (M 4 i)) (kj (M 9 i)) (nI x)) (if_neg (by decide))).trans ?_
      rw [sum6_moves h6.2.1.2 h6.2.2.1.2]
      exact sum6_of rfl
    · show (if i' = i then M 12 i + nI x else M 12 i') = M 12 i' ∨ (M 6 i' ≠ 0 ∧ okI (if i' = i then M 12 i + nI x else M 12 i') 35695)
      by_cases e9 : i' = i
      · subst e9
        rw [if_pos rfl]
        exact Or.inr ⟨by rw [g6]; decide, g12⟩
      · rw [if_neg e9]; exact Or.inl rfl
    · refine g3 _ rfl rfl ?_
      show (if i = i then M 12 i + nI x else M 12 i) = _
      exact if_pos rfl
theorem tyS_f (M : mM) (told : Int64) {q : Nat} (h1 : q ≠ 22) (h2 : q ≠ 23) : ∀ k, tyS M told k q = M q
  | 0 => if_neg h1
  | k + 1 => ((if_neg h1).trans (if_neg h2)).trans (tyS_f M told h1 h2 k)
theorem x_types (hX : Xt M) (told : Int64) (k : Nat) : Xt (tyS M told k) ∧ tyS M told k 2 0 = M 2 0 ∧ owed (tyS M told k) = owed M ∧ tyS M told k 4 = M 4 ∧ tyS M told k 9 = M 9 := by
  have f : ∀ q, q ≠ 22 → q ≠ 23 → tyS M told k q = M q := fun q h1 h2 => tyS_f M told h1 h2 k
  have f2 := f 2 (by decide) (by decide)
  have f4 := f 4 (by decide) (by decide)
  have f6 := f 6 (by decide) (by decide)
  have f9 := f 9 (by decide) (by decide)
  have f12 := f 12 (by decide) (by decide)
  have f13 := f 13 (by decide) (by decide)
  have f14 := f 14 (by decide) (by decide)
  have f16 := f 16 (by decide) (by decide)
  have f17 := f 17 (by decide) (by decide)
  refine ⟨hX.of f2 f6 f9 f4 f17 (sum6_of (f 1 (by decide) (by decide))) (fun i' => Or.inl (by rw [f12])), by rw [f2], ?_, f4, f9⟩
  funext i
  unfold owed costs costs_st kk
  rw [f6, f12, f13, f14, f16, f17]
theorem fr2 (h22 : M 22 0 = nI 2) (h0 : M 23 0 = 82) (h1 : 48 ≤ M 23 1 ∧ M 23 1 ≤ 57) : faultM M = -1 ∧ itsM M = M 23 1 - 48 := by
  have hd : dd M = 2 := by unfold dd; rw [h22]; rfl
  have hf : faultM M = -1 := by
    unfold faultM
    rw [hd]
    unfold frun
    rw [h22, if_neg (show ¬ nI 2 ≤ nI 0 by decide), if_pos (show nI 0 = 0 by decide), if_pos h0]
    unfold frun
    rw [h22, if_neg (show ¬ nI 2 ≤ nI (0 + 1) by decide), if_neg (show ¬ nI (0 + 1) = 0 by decide), if_neg (show ¬ 3 ≤ nI (0 + 1) by decide), if_pos (show 48 ≤ M 23 (0 + 1) ∧ M 23 (0 + 1) ≤ 57 from h1)]
    unfold frun
    rw [h22, if_pos (show nI 2 ≤ nI (0 + 1 + 1) by decide), if_pos (show 2 ≤ nI 2 by decide)]
  exact ⟨hf, by rw [itsM, if_pos hf, h22, if_pos (show nI 2 = 2 by decide)]⟩
theorem fr3 (h22 : M 22 0 = nI 3) (h0 : M 23 0 = 82) (h1 : 48 ≤ M 23 1 ∧ M 23 1 ≤ 57) (h2 : 48 ≤ M 23 2 ∧ M 23 2 ≤ 57) : faultM M = -1 ∧ itsM M = 10 * (M 23 1 - 48) + M 23 2 - 48 := by
  have hd : dd M = 3 := by unfold dd; rw [h22]; rfl
  have hf : faultM M = -1 := by
    unfold faultM
    rw [hd]
    unfold frun
    rw [h22, if_neg (show ¬ nI 3 ≤ nI 0 by decide), if_pos (show nI 0 = 0 by decide), if_pos h0]
    unfold frun
    rw [h22, if_neg (show ¬ nI 3 ≤ nI (0 + 1) by decide), if_neg (show ¬ nI (0 + 1) = 0 by decide), if_neg (show ¬ 3 ≤ nI (0 + 1) by decide), if_pos (show 48 ≤ M 23 (0 + 1) ∧ M 23 (0 + 1) ≤ 57 from h1)]
    unfold frun
    rw [h22, if_neg (show ¬ nI 3 ≤ nI (0 + 1 + 1) by decide), if_neg (show ¬ nI (0 + 1 + 1) = 0 by decide), if_neg (show ¬ 3 ≤ nI (0 + 1 + 1) by decide), if_pos (show 48 ≤ M 23 (0 + 1 + 1) ∧ M 23 (0 + 1 + 1) ≤ 57 from h2)]
    unfold frun
    rw [h22, if_pos (show nI 3 ≤ nI (0 + 1 + 1 + 1) by decide), if_pos (show 2 ≤ nI 3 by decide)]
  exact ⟨hf, by rw [itsM, if_pos hf, h22, if_neg (show ¬ nI 3 = 2 by decide)]⟩
def told1 (i : Nat) : Int64 := 82 ||| (nI (48 + i)).toInt64 <<< ((8 : Int32).toInt64 &&& 63)
def told2 (i : Nat) : Int64 := 12626 ||| (nI (38 + i)).toInt64 <<< ((16 : Int32).toInt64 &&& 63)
theorem told1_s : ∀ i, i < 10 → sgn (told1 i) 0 = 82 ∧ sgn (told1 i) 1 = nI (48 + i) := by decide +kernel
theorem told2_s : ∀ i, i < 20 → 10 ≤ i → sgn (told2 i) 0 = 82 ∧ sgn (told2 i) 1 = 49 ∧ sgn (told2 i) 2 = nI (38 + i) := by decide +kernel
theorem dg2 {a : Nat} (h1 : 48 ≤ a) (h2 : a ≤ 57) : 48 ≤ nI a ∧ nI a ≤ 57 := ⟨nI_le (a := 48) h1 (by omega), nI_le (b := 57) h2 (by decide)⟩
theorem sg_in {v : Int32} {a : Nat} (e : v = nI a) (h1 : 32 ≤ a) (h2 : a ≤ 126) : 32 ≤ v ∧ v ≤ 126 := by
  rw [e]
  exact ⟨nI_le (a := 32) h1 (by omega), nI_le (b := 126) h2 (by decide)⟩
theorem tyS_s (M : mM) (told : Int64) (k : Nat) : tyS M told (k + 1) 23 k = sgn told k :=
  (congrFun (show tyS M told (k + 1) 23 = upd (tyS M told k 23) k (sgn told k) from rfl) k).trans (if_pos rfl)
theorem tyS_p (M : mM) (told : Int64) {j k : Nat} (h : j < k) : tyS M told (k + 1) 23 j = tyS M told k 23 j :=
  (congrFun (show tyS M told (k + 1) 23 = upd (tyS M told k 23) k (sgn told k) from rfl) j).trans (if_neg (by omega))
theorem x_told1 (hz : M 24 0 = 0) (hi : i < 10) : (∀ k, k < 2 → 32 ≤ sgn (told1 i) k ∧ sgn (told1 i) k ≤ 126) ∧ faultM (mset (tyS M (told1 i) 2) 24 0 0) = -1 ∧ itsM (tyS M (told1 i) 2) = nI i := by
  obtain ⟨s0, s1⟩ := told1_s i hi
  have h : ∀ z : mM, z 22 0 = nI 2 → z 23 0 = 82 → z 23 1 = nI (48 + i) → faultM z = -1 ∧ itsM z = nI i := fun z a b c => by
    obtain ⟨q1, q2⟩ := fr2 a b (by rw [c]; exact dg2 (by omega) (by omega))
    refine ⟨q1, q2.trans ?_⟩
    rw [c, show (48 : Int32) = nI 48 from rfl, pk_sub (by omega)]
    congr 1
    omega
  have e0 : tyS M (told1 i) (1 + 1) 23 0 = 82 := ((tyS_p M (told1 i) (by decide)).trans (tyS_s M (told1 i) 0)).trans s0
  have e1 : tyS M (told1 i) (1 + 1) 23 1 = nI (48 + i) := (tyS_s M (told1 i) 1).trans s1
  rw [mset_24 (tyS_z hz 2)]
  refine ⟨fun k hk => ?_, (h _ (tyS_n M (told1 i) 2) e0 e1).1, (h _ (tyS_n M (told1 i) 2) e0 e1).2⟩
  match k, hk with
  | 0, _ => rw [s0]; decide
  | 1, _ => exact sg_in s1 (by omega) (by omega)
theorem x_told2 (hz : M 24 0 = 0) (hi : i < 20) (h10 : 10 ≤ i) : (∀ k, k < 3 → 32 ≤ sgn (told2 i) k ∧ sgn (told2 i) k ≤ 126) ∧ faultM (mset (tyS M (told2 i) 3) 24 0 0) = -1 ∧ itsM (tyS M (told2 i) 3) = nI i := by
  obtain ⟨s0, s1, s2⟩ := told2_s i hi h10
  have h : ∀ z : mM, z 22 0 = nI 3 → z 23 0 = 82 → z 23 1 = 49 → z 23 2 = nI (38 + i) → faultM z = -1 ∧ itsM z = nI i := fun z a b c d => by
    obtain ⟨q1, q2⟩ := fr3 a b (by rw [c]; decide) (by rw [d]; exact dg2 (by omega) (by omega))
    refine ⟨q1, q2.trans ?_⟩
    rw [c, d, show (10 : Int32) * (49 - 48) = nI 10 from by decide, nI_add, show (48 : Int32) = nI 48 from rfl, pk_sub (by omega)]
    congr 1
    omega
  have e0 : tyS M (told2 i) (2 + 1) 23 0 = 82 := ((tyS_p M (told2 i) (by decide)).trans ((tyS_p M (told2 i) (k := 1) (by decide)).trans (tyS_s M (told2 i) 0))).trans s0
  have e1 : tyS M (told2 i) (2 + 1) 23 1 = 49 := ((tyS_p M (told2 i) (by decide)).trans (tyS_s M (told2 i) 1)).trans s1
  have e2 : tyS M (told2 i) (2 + 1) 23 2 = nI (38 + i) := (tyS_s M (told2 i) 2).trans s2
  rw [mset_24 (tyS_z hz 3)]
  refine ⟨fun k hk => ?_, (h _ (tyS_n M (told2 i) 3) e0 e1 e2).1, (h _ (tyS_n M (told2 i) 3) e0 e1 e2).2⟩
  match k, hk with
  | 0, _ => rw [s0]; decide
  | 1, _ => rw [s1]; decide
  | 2, _ => exact sg_in s2 (by omega) (by omega)
/-! sums over the companies -/
theorem six {v : Int32} (h : okI v 6) : v = 0 ∨ v = 1 ∨ v = 2 ∨ v = 3 ∨ v = 4 ∨ v = 5 := by
  obtain ⟨e, hlt⟩ := h
  generalize kj v = k at e hlt
  match k, hlt with
  | 0, _ => exact Or.inl e
  | 1, _ => exact Or.inr (Or.inl e)
  | 2, _ => exact Or.inr (Or.inr (Or.inl e))
  | 3, _ => exact Or.inr (Or.inr (Or.inr (Or.inl e)))
  | 4, _ => exact Or.inr (Or.inr (Or.inr (Or.inr (Or.inl e))))
  | 5, _ => exact Or.inr (Or.inr (Or.inr (Or.inr (Or.inr e))))
def f6 (f : Int32 → Int32) : Int32 := f 0 + f 1 + f 2 + f 3 + f 4 + f 5
theorem f6_st {v o : Int32} (h : okI v 6) (f : Int32 → Int32) : f6 (fun c => if v = c then f c + o else f c + 0) = f6 f + o := by
  unfold f6
  rcases six h with rfl | rfl | rfl | rfl | rfl | rfl <;> (simp (decide := true) only [if_true, if_false]; grind)
theorem sums_eq (hI : Inv M nd D) : ∀ n, n ≤ nn M → f6 (fun c => l_fold (sumsM_st M c 1) 0 n) = f6 (fun c => l_fold (sumsM_st M c 0) 0 n)
  | 0, _ => rfl
  | n + 1, h => by
    have ih := sums_eq hI n (by omega)
    have h6 := hI.2.2.2.2.2.1 n (by omega)
    have e1 : f6 (fun c => l_fold (sumsM_st M c 1) 0 (n + 1)) = f6 (fun c => l_fold (sumsM_st M c 1) 0 n) + owed M n := f6_st h6.2.2.1 _
    have e0 : f6 (fun c => l_fold (sumsM_st M c 0) 0 (n + 1)) = f6 (fun c => l_fold (sumsM_st M c 0) 0 n) + owed M n := f6_st h6.2.1 _
    rw [e1, e0, ih]
theorem sums_0 (hI : Inv M nd D) : (((((0 + (sumsM M 0 1 - sumsM M 0 0)) + (sumsM M 1 1 - sumsM M 1 0)) + (sumsM M 2 1 - sumsM M 2 0)) + (sumsM M 3 1 - sumsM M 3 0)) + (sumsM M 4 1 - sumsM M 4 0)) + (sumsM M 5 1 - sumsM M 5 0) = 0 := by
  have h : f6 (fun c => sumsM M c 1) = f6 (fun c => sumsM M c 0) := sums_eq hI (nn M) (Nat.le_refl _)
  unfold f6 at h
  simp only at h
  grind
theorem ok_owedTo {a : Int32} (hz : M 24 0 = 0) (h : 0 ≤ a ∧ a ≤ 5) : (owedToM M a).1 = sumsM M a 1 ∧ (owedToM M a).2 24 0 = 0 := by rw [owedToM, if_pos h, mset_24 hz]; exact ⟨rfl, hz⟩
theorem ok_owes2 {a : Int32} (hz : M 24 0 = 0) (h : 0 ≤ a ∧ a ≤ 5) : (owesM M a).1 = sumsM M a 0 ∧ (owesM M a).2 24 0 = 0 := by rw [owesM, if_pos h, mset_24 hz]; exact ⟨rfl, hz⟩
theorem ok_cashAnew {a : Int32} (h : 0 ≤ a ∧ a ≤ 5) : (cashAnewM M a).1 = M 1 (kj a) ∧ (cashAnewM M a).2 24 0 = 0 := by rw [cashAnewM, if_pos h]; exact ⟨rfl, mset_s M 24 0 0⟩
theorem mon_in (hI : Inv M nd D) : 0 ≤ M 0 0 / 30 ∧ M 0 0 / 30 ≤ M 0 0 / 30 := by
  have h := hI.2.2.2.2.2.2.1
  have h2 := h.2
  have e : M 0 0 / 30 = nI (kj (M 0 0) / 30) := by
    conv => lhs; rw [h.1]
    exact pk_div (a := kj (M 0 0)) (d := 30) (by omega) (by decide) (by decide)
  rw [e]
  exact ⟨nI_pos' (by omega), Int32.le_refl _⟩
theorem ok_tax {a : Int32} (hI : Inv M nd D) (h : 0 ≤ a ∧ a ≤ 5) : (taxTo M a (kj (M 0 0 / 30)) ≤ 0 ∧ (taxM M a (M 0 0 / 30)).1 = 0 ∧ (taxM M a (M 0 0 / 30)).2 24 0 = 0) ∨ (∃ v, ¬ v ≤ 0 ∧ (taxM M a (M 0 0 / 30)).1 = v ∧ (taxM M a (M 0 0 / 30)).2 24 0 = 0 ∧ (carriedM M a (M 0 0 / 30)).1 = 0 ∧ (carriedM M a (M 0 0 / 30)).2 24 0 = 0) := by
  rw [taxM, if_pos h, if_pos (mon_in hI), carriedM, if_pos h, if_pos (mon_in hI), off_taxTo]
  generalize taxTo M a (kj (M 0 0 / 30)) = T
  by_cases c : T ≤ 0
  · rw [if_pos c]
    exact Or.inl ⟨c, rfl, mset_s M 24 0 0⟩
  · rw [if_neg c, if_pos (Int32.le_of_lt (Int32.not_le.mp c))]
    exact Or.inr ⟨T, c, rfl, mset_s M 24 0 0, rfl, mset_s M 24 0 0⟩
theorem ok_chain (hI : Inv M nd D) (hz : M 24 0 = 0) {g : Nat} (hg : g < 8) : ∃ v, 0 ≤ v ∧ (chainM M (nI g)).1 = v ∧ (chainM M (nI g)).2 24 0 = 0 := by
  have h20 := hI.1.2
  have key : ∀ n, n ≤ nn M → okI (l_fold (chO M (nI g)) 0 n) (6000 * n + 1) := by
    intro n
    induction n with
    | zero => intro _; exact ⟨rfl, by show kj 0 < 6000 * 0 + 1; decide⟩
    | succ n ih =>
      intro hn
      have h1 := ih (by omega)
      have hT := okI_tax hI (i := n) (by omega)
      have hG := okI_chI hI (a := nI g) (t := n) (by omega)
      rw [l_fold]
      generalize l_fold (chO M (nI g)) 0 n = x at h1
      unfold chO
      generalize taxAll M n 0 = T at hT
      generalize l_fold (chI M (nI g) n) 0 n = G at hG
      split
      · split
        · split
          · rw [Int32.add_zero]; exact okI_mono h1 (by omega)
          · rename_i c
            have hT2 := hT.2
            have hG2 := hG.2
            have e : T - G = nI (kj T - kj G) := by
              have hlt : kj G ≤ kj T := by
                rcases Nat.lt_or_ge (kj T) (kj G) with q | q
                · exact absurd (by rw [hT.1, hG.1]; exact nI_le (by omega) (by omega)) c
                · exact q
              conv => lhs; rw [hT.1, hG.1]
              exact pk_sub hlt
            have h4 : okI (T - G) 6000 := ⟨by rw [e, kjn (by omega)], by rw [e, kjn (by omega)]; omega⟩
            exact okI_mono (okI_add (m := 6000 * n) (n := 5999) h1 h4 (by omega)) (by omega)
        · exact okI_mono h1 (by omega)
      · exact okI_mono h1 (by omega)
  have h := key (nn M) (Nat.le_refl _)
  rw [chainM, if_pos (c07 hg), mset_24 hz]
  refine ⟨_, ?_, rfl, hz⟩
  rw [h.1]
  exact nI_pos' (by have := h.2; omega)
end D2
