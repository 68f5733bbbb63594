/-! the law's loop -/
theorem Lw.mono {γ : kG} {A : Nat → Prop} {s : State} {o om q : Nat} {adm : Nat → Nat} {n n1 : Nat} {H : Heap} {locs : List Loc} (h : Lw γ A s o om q adm n H locs) (hn : n ≤ n1) : Lw γ A s o om q adm n1 H locs := by
  obtain ⟨Lc, Lr, F, ad, tg, M, D, nd0, f, h1, h2, h3, h4, h5⟩ := h
  exact ⟨Lc, Lr, F, ad, tg, M, D, nd0, f, h1, h2, h3, Nat.le_trans h4 hn, h5⟩
theorem and31 (x : Int32) : 0 ≤ (x &&& 31).toInt ∧ (x &&& 31).toInt ≤ 31 := by
  have h : ∀ y : BitVec 32, 0 ≤ (y &&& 31#32).toInt ∧ (y &&& 31#32).toInt ≤ 31 := by
    intro y
    have h1 : (y &&& 31#32).toNat ≤ 31 := by
      rw [BitVec.toNat_and]
      exact Nat.and_le_right
    rw [BitVec.toInt_eq_toNat_cond]
    split
    · omega
    · omega
  exact h x.toBitVec
section LO
variable {p : Program} {l : Launch} {e : Env} {s : State} {m : MethodId} {args : Array Value} {below : List Frame} {meth : Method} {c : Code} {Q : State → Prop}
variable {ret : Option FieldType} {γ : kG} {A : Nat → Prop}
set_option maxHeartbeats 4000000 in
set_option maxRecDepth 100000 in
theorem L_loop (hfl : l.stackTraces = false) (hM : kM p s m args meth c cL_law 7 ret "InvoicebridgeLaw") (hE : kE γ A s) {b N : Nat} {xs : Nat → Int32} (hS : lX b N xs A s) {o om q : Nat} {adm : Nat → Nat}
    (fin : ∀ (H : Heap) (locs : List Loc) (ls : Array Slot) (cells slots : Nat), (∀ z ∈ locs, A z.base) → cells ≤ 601024 → slots ≤ 7293034 → W p l e room_1 s m args below meth c H locs cells slots Q (F0 m 1741 ls [])) :
    ∀ (k n : Nat) (H : Heap) (locs : List Loc) (ls : Array Slot) (cells slots : Nat), N ≤ 6 * n + k → 6 * n ≤ N + 5 → Lw γ A s o om q adm n H locs → cells ≤ 100 + 30 * n → slots ≤ 1000 + 4000 * n → lv_has ls 7 [(0, .ref b), (1, .ref o), (2, .ref om), (3, .ref q), (4, .int (nI (6 * n)))] → W p l e room_1 s m args below meth c H locs cells slots Q (F0 m 23 ls []) := by
  have hx := hM.1
  have hb := hM.2.1

  have hN := hS.2.2.2
  have head : ∀ (n : Nat) (H : Heap) (locs : List Loc) (ls : Array Slot) (cells slots : Nat), 6 * n ≤ N + 5 → Lw γ A s o om q adm n H locs → cells ≤ 100 + 30 * n → slots ≤ 1000 + 4000 * n → lv_has ls 7 [(0, .ref b), (1, .ref o), (2, .ref om), (3, .ref q), (4, .int (nI (6 * n)))] →
      (6 * n + 6 ≤ N → (∀ (H1 : Heap) (locs1 : List Loc) (ls1 : Array Slot), Lw γ A s o om q adm (n + 1) H1 locs1 → lv_has ls1 7 [(0, .ref b), (1, .ref o), (2, .ref om), (3, .ref q), (4, .int (nI (6 * (n + 1))))] → W p l e room_1 s m args below meth c H1 locs1 (cells + 30) (slots + 4000) Q (F0 m 23 ls1 []))) → W p l e room_1 s m args below meth c H locs cells slots Q (F0 m 23 ls []) := by
    intro n H locs ls cells slots hn h hc hs hl go
    have hX : ∃ (L : List Nat) (F : kF), kX γ A s L F H locs := by
      obtain ⟨Lc, Lr, F, ad, tg, M, D, nd0, f, h1, -⟩ := id h
      exact ⟨_, F, h1⟩
    obtain ⟨LL, FF, hX⟩ := hX
    refine lv_iload hx hb dL_law_23 (lv_at hl 4 rfl) ?_
    refine lv_aload_n hx hb dL_law_25 rfl (lv_at hl 0 rfl) ?_
    refine va_slen hx hb hS.1 hS.2.1 hS.2.2.1 hX.2.2 dL_law_26 ?_
    refine lv_bipush (v := 6) hx hb dL_law_27 (by decide) ?_
    refine lv_isub hx hb dL_law_29 ?_
    have ei : (Int32.ofNat N - 6).toInt = (N : Int) - 6 := pk_sub_toInt (a := N) (b := 6) (by omega) (by decide)
    have en : (nI (6 * n)).toInt = ((6 * n : Nat) : Int) := nI_toInt (by omega)
    refine lv_icmp_gt (tgt := 1741) hx hb dL_law_30 (by decide) (fun _ => ?_) (fun hg => ?_)
    · exact fin H locs ls cells slots (fun z hz => hX.2.2.2.2 z hz) (by omega) (by omega)
    · have hi : 6 * n + 6 ≤ N := by
        have h9 := Int32.not_lt.mp hg
        rw [Int32.le_iff_toInt_le, ei, en] at h9
        omega
      have next : ∀ (H1 : Heap) (locs1 : List Loc) (ls1 : Array Slot), Lw γ A s o om q adm (n + 1) H1 locs1 → lv_has ls1 7 [(0, .ref b), (1, .ref o), (2, .ref om), (3, .ref q), (4, .int (nI (6 * n)))] → W p l e room_1 s m args below meth c H1 locs1 (cells + 30) (slots + 4000) Q (F0 m 1735 ls1 []) := by
        intro H1 locs1 ls1 h1 hl1
        refine lv_iinc (v := nI (6 * (n + 1))) (lv' := [(4, .int (nI (6 * (n + 1)))), (0, .ref b), (1, .ref o), (2, .ref om), (3, .ref q)]) hx hb dL_law_1735 hl1 (k := 4) rfl ((congrArg (nI (6 * n) + ·) (show Int32.ofInt 6 = nI 6 from by decide)).trans ((nI_add (6 * n) 6).trans (congrArg nI (show 6 * n + 6 = 6 * (n + 1) by omega)))) (by decide) rfl (fun ls hl => ?_)
        refine lv_goto (tgt := 23) hx hb dL_law_1738 (by decide) ?_
        exact go hi H1 locs1 ls h1 (lv_sub hl [1, 2, 3, 4, 0] rfl)
      refine lv_aload_n hx hb dL_law_33 rfl (lv_at hl 0 rfl) ?_
      refine lv_iload hx hb dL_law_34 (lv_at hl 4 rfl) ?_
      refine va_sld hx hb hS.1 hS.2.1 hS.2.2.1 hX.2.2 (vp_in_nI (show 6 * n < N by omega) (by omega)) dL_law_36 ?_
      refine lv_bipush (v := 31) hx hb dL_law_37 (by decide) ?_
      refine lv_iand hx hb dL_law_39 ?_
      obtain ⟨z1, z2⟩ := and31 (xs (nI (6 * n)).toNatClampNeg)
      generalize xs (nI (6 * n)).toNatClampNeg &&& 31 = v at z1 z2 ⊢
      by_cases hv : v.toInt < 0 ∨ 24 < v.toInt
      · refine lv_tableOut (tgt := 1735) hx hb dL_law_40 hv (by decide) ?_
        refine W.widen (k := cells + 30) (n := slots + 4000) (by omega) (by omega) ?_
        exact next H locs ls (h.mono (Nat.le_succ n)) hl
      · have hv2 : v.toInt = 0 ∨ v.toInt = 1 ∨ v.toInt = 2 ∨ v.toInt = 3 ∨ v.toInt = 4 ∨ v.toInt = 5 ∨ v.toInt = 6 ∨ v.toInt = 7 ∨ v.toInt = 8 ∨ v.toInt = 9 ∨ v.toInt = 10 ∨ v.toInt = 11 ∨ v.toInt = 12 ∨ v.toInt = 13 ∨ v.toInt = 14 ∨ v.toInt = 15 ∨ v.toInt = 16 ∨ v.toInt = 17 ∨ v.toInt = 18 ∨ v.toInt = 19 ∨ v.toInt = 20 ∨ v.toInt = 21 ∨ v.toInt = 22 ∨ v.toInt = 23 ∨ v.toInt = 24 := by omega
        rcases hv2 with h9 | h9 | h9 | h9 | h9 | h9 | h9 | h9 | h9 | h9 | h9 | h9 | h9 | h9 | h9 | h9 | h9 | h9 | h9 | h9 | h9 | h9 | h9 | h9 | h9
        · exact lv_tableIn (off := 116) (tgt := 156) hx hb dL_law_40 (by rw [h9]; decide) (by rw [h9]; decide) (by rw [h9]; rfl) (by decide) (L_case_0 hfl hM hE hS h (by omega) hi (by omega) (by omega) hl next)
        · exact lv_tableIn (off := 220) (tgt := 260) hx hb dL_law_40 (by rw [h9]; decide) (by rw [h9]; decide) (by rw [h9]; rfl) (by decide) (L_case_1 hfl hM hE hS h (by omega) hi (by omega) (by omega) hl next)
        · exact lv_tableIn (off := 300) (tgt := 340) hx hb dL_law_40 (by rw [h9]; decide) (by rw [h9]; decide) (by rw [h9]; rfl) (by decide) (L_case_2 hfl hM hE hS h (by omega) hi (by omega) (by omega) hl next)
        · exact lv_tableIn (off := 356) (tgt := 396) hx hb dL_law_40 (by rw [h9]; decide) (by rw [h9]; decide) (by rw [h9]; rfl) (by decide) (L_case_3 hfl hM hE hS h (by omega) hi (by omega) (by omega) hl next)
        · exact lv_tableIn (off := 412) (tgt := 452) hx hb dL_law_40 (by rw [h9]; decide) (by rw [h9]; decide) (by rw [h9]; rfl) (by decide) (L_case_4 hfl hM hE hS h (by omega) hi (by omega) (by omega) hl next)
        · exact lv_tableIn (off := 492) (tgt := 532) hx hb dL_law_40 (by rw [h9]; decide) (by rw [h9]; decide) (by rw [h9]; rfl) (by decide) (L_case_5 hfl hM hE hS h (by omega) hi (by omega) (by omega) hl next)
        · exact lv_tableIn (off := 560) (tgt := 600) hx hb dL_law_40 (by rw [h9]; decide) (by rw [h9]; decide) (by rw [h9]; rfl) (by decide) (L_case_6 hfl hM hE hS h (by omega) hi (by omega) (by omega) hl next)
        · exact lv_tableIn (off := 656) (tgt := 696) hx hb dL_law_40 (by rw [h9]; decide) (by rw [h9]; decide) (by rw [h9]; rfl) (by decide) (L_case_7 hfl hM hE hS h (by omega) hi (by omega) (by omega) hl next)
        · exact lv_tableIn (off := 764) (tgt := 804) hx hb dL_law_40 (by rw [h9]; decide) (by rw [h9]; decide) (by rw [h9]; rfl) (by decide) (L_case_8 hfl hM hE hS h (by omega) hi (by omega) (by omega) hl next)
        · exact lv_tableIn (off := 820) (tgt := 860) hx hb dL_law_40 (by rw [h9]; decide) (by rw [h9]; decide) (by rw [h9]; rfl) (by decide) (L_case_9 hfl hM hE hS h (by omega) hi (by omega) (by omega) hl next)
        · exact lv_tableIn (off := 876) (tgt := 916) hx hb dL_law_40 (by rw [h9]; decide) (by rw [h9]; decide) (by rw [h9]; rfl) (by decide) (L_case_10 hfl hM hE hS h (by omega) hi (by omega) (by omega) hl next)
        · exact lv_tableIn (off := 889) (tgt := 929) hx hb dL_law_40 (by rw [h9]; decide) (by rw [h9]; decide) (by rw [h9]; rfl) (by decide) (L_case_11 hfl hM hE hS h (by omega) hi (by omega) (by omega) hl next)
        · exact lv_tableIn (off := 902) (tgt := 942) hx hb dL_law_40 (by rw [h9]; decide) (by rw [h9]; decide) (by rw [h9]; rfl) (by decide) (L_case_12 hfl hM hE hS h (by omega) hi (by omega) (by omega) hl next)
        · exact lv_tableIn (off := 982) (tgt := 1022) hx hb dL_law_40 (by rw [h9]; decide) (by rw [h9]; decide) (by rw [h9]; rfl) (by decide) (L_case_13 hfl hM hE hS h (by omega) hi (by omega) (by omega) hl next)
        · exact lv_tableIn (off := 1062) (tgt := 1102) hx hb dL_law_40 (by rw [h9]; decide) (by rw [h9]; decide) (by rw [h9]; rfl) (by decide) (L_case_14 hfl hM hE hS h (by omega) hi (by omega) (by omega) hl next)
        · exact lv_tableIn (off := 1118) (tgt := 1158) hx hb dL_law_40 (by rw [h9]; decide) (by rw [h9]; decide) (by rw [h9]; rfl) (by decide) (L_case_15 hfl hM hE hS h (by omega) hi (by omega) (by omega) hl next)
        · exact lv_tableIn (off := 1186) (tgt := 1226) hx hb dL_law_40 (by rw [h9]; decide) (by rw [h9]; decide) (by rw [h9]; rfl) (by decide) (L_case_16 hfl hM hE hS h (by omega) hi (by omega) (by omega) hl next)
        · exact lv_tableIn (off := 1266) (tgt := 1306) hx hb dL_law_40 (by rw [h9]; decide) (by rw [h9]; decide) (by rw [h9]; rfl) (by decide) (L_case_17 hfl hM hE hS h (by omega) hi (by omega) (by omega) hl next)
        · exact lv_tableIn (off := 1322) (tgt := 1362) hx hb dL_law_40 (by rw [h9]; decide) (by rw [h9]; decide) (by rw [h9]; rfl) (by decide) (L_case_18 hfl hM hE hS h (by omega) hi (by omega) (by omega) hl next)
        · exact lv_tableIn (off := 1378) (tgt := 1418) hx hb dL_law_40 (by rw [h9]; decide) (by rw [h9]; decide) (by rw [h9]; rfl) (by decide) (L_case_19 hfl hM hE hS h (by omega) hi (by omega) (by omega) hl next)
        · exact lv_tableIn (off := 1434) (tgt := 1474) hx hb dL_law_40 (by rw [h9]; decide) (by rw [h9]; decide) (by rw [h9]; rfl) (by decide) (L_case_20 hfl hM hE hS h (by omega) hi (by omega) (by omega) hl next)
        · exact lv_tableIn (off := 1490) (tgt := 1530) hx hb dL_law_40 (by rw [h9]; decide) (by rw [h9]; decide) (by rw [h9]; rfl) (by decide) (L_case_21 hfl hM hE hS h (by omega) hi (by omega) (by omega) hl next)
        · exact lv_tableIn (off := 1558) (tgt := 1598) hx hb dL_law_40 (by rw [h9]; decide) (by rw [h9]; decide) (by rw [h9]; rfl) (by decide) (L_case_22 hfl hM hE hS h (by omega) hi (by omega) (by omega) hl next)
        · exact lv_tableIn (off := 1626) (tgt := 1666) hx hb dL_law_40 (by rw [h9]; decide) (by rw [h9]; decide) (by rw [h9]; rfl) (by decide) (L_case_23 hfl hM hE hS h (by omega) hi (by omega) (by omega) hl next)
        · exact lv_tableIn (off := 1682) (tgt := 1722) hx hb dL_law_40 (by rw [h9]; decide) (by rw [h9]; decide) (by rw [h9]; rfl) (by decide) (L_case_24 hfl hM hE hS h (by omega) hi (by omega) (by omega) hl next)
  intro k
  induction k with
  | zero =>
    intro n H locs ls cells slots h1 h2 h hc hs hl
    exact head n H locs ls cells slots h2 h hc hs hl (fun h9 => absurd h9 (by omega))
  | succ k ih =>
    intro n H locs ls cells slots h1 h2 h hc hs hl
    exact head n H locs ls cells slots h2 h hc hs hl (fun h9 H1 locs1 ls1 hw hl1 => ih (n + 1) H1 locs1 ls1 _ _ (by omega) (by omega) hw (by omega) (by omega) hl1)
end LO
