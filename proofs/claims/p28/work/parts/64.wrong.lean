/-! what is refused: at any table that keeps the class's invariant -/
theorem bad_hi {x b : Int32} {n : Nat} (hx : x = nI n) (hn : n < 1000) (hb : (n : Int) ≤ b.toInt) : ¬ (0 ≤ b ∧ b ≤ x - 1) := by
  rintro ⟨-, h⟩
  rw [Int32.le_iff_toInt_le, hx, show (1 : Int32) = nI 1 from rfl, pk_sub_toInt (by omega) (by decide)] at h
  have : ((1 : Nat) : Int) = 1 := rfl
  omega
theorem bad_neg {b x : Int32} (h : ¬ 0 ≤ b) : ¬ (0 ≤ b ∧ b ≤ x) := fun h9 => h h9.1
theorem Inv.k3 {M : mM} {nd : Nat} {D : cD} (hI : Inv M nd D) (i : Nat) : M 13 i = nI (kk M i) ∧ kk M i ≤ 3 := by
  by_cases h : i < nn M
  · exact hI.2.1 i h
  · exact (okL0 (hI.xz i (by omega))).1
section WR
variable {M : mM} {nd : Nat} {D : cD} {a b z x y : Int32}
theorem ib_max (hI : Inv M nd D) : ¬ (0 ≤ (2147483647 : Int32) ∧ 2147483647 ≤ M 2 0 - 1) := bad_hi hI.1.1 (by have := hI.1.2; omega) (by have := hI.1.2; show _ ≤ (2147483647 : Int); omega)
theorem ib_inv (hI : Inv M nd D) : ¬ (0 ≤ M 2 0 ∧ M 2 0 ≤ M 2 0 - 1) := bad_hi hI.1.1 (by have := hI.1.2; omega) (by
  have := hI.1.2
  rw [hI.1.1, nI_toInt (by omega)]
  exact Int.le_refl _)
theorem lb_max (hI : Inv M nd D) (i : Nat) : ¬ (0 ≤ (2147483647 : Int32) ∧ 2147483647 ≤ M 13 i - 1) := bad_hi (hI.k3 i).1 (by have := (hI.k3 i).2; omega) (by have := (hI.k3 i).2; show _ ≤ (2147483647 : Int); omega)
theorem lb_3 (hI : Inv M nd D) (i : Nat) : ¬ (0 ≤ (3 : Int32) ∧ 3 ≤ M 13 i - 1) := bad_hi (hI.k3 i).1 (by have := (hI.k3 i).2; omega) (by have := (hI.k3 i).2; show _ ≤ (3 : Int); omega)
theorem mb_inv (hI : Inv M nd D) : ¬ (0 ≤ M 0 0 / 30 + 1 ∧ M 0 0 / 30 + 1 ≤ M 0 0 / 30) := by
  have h := hI.2.2.2.2.2.2.1
  have h2 := h.2
  have e : M 0 0 / 30 = nI (kj (M 0 0) / 30) := by
    conv => lhs; rw [h.1]
    exact pk_div (a := kj (M 0 0)) (d := 30) (by omega) (by decide) (by decide)
  rw [e, nI_1]
  rintro ⟨-, h9⟩
  exact absurd h9 (nI_ge (by omega) (by omega))
theorem mb_max (hI : Inv M nd D) : ¬ (0 ≤ (2147483647 : Int32) ∧ 2147483647 ≤ M 0 0 / 30) := by
  have h := hI.2.2.2.2.2.2.1
  have h2 := h.2
  have e : M 0 0 / 30 = nI (kj (M 0 0) / 30) := by
    conv => lhs; rw [h.1]
    exact pk_div (a := kj (M 0 0)) (d := 30) (by omega) (by decide) (by decide)
  rw [e]
  rintro ⟨-, h9⟩
  exact absurd h9 (nI_ge (a := kj (M 0 0) / 30) (b := 2147483647) (by omega) (by decide))
theorem i0_ok (hI : Inv M nd D) (h : ¬ M 2 0 = 0) : (0 : Int32) ≤ 0 ∧ 0 ≤ M 2 0 - 1 := by
  refine ⟨by decide, ?_⟩
  have h1 := hI.1.1
  have h2 := hI.1.2
  have h3 : nn M ≠ 0 := fun e => h (by rw [h1, e]; rfl)
  rw [Int32.le_iff_toInt_le, h1, show (1 : Int32) = nI 1 from rfl, pk_sub_toInt (by omega) (by decide)]
  show (0 : Int) ≤ _
  have : ((1 : Nat) : Int) = 1 := rfl
  omega
theorem l0_ok (hI : Inv M nd D) (h : ¬ M 2 0 = 0) : ((0 : Int32) ≤ 0 ∧ 0 ≤ M 2 0 - 1) ∧ (0 : Int32) ≤ 0 ∧ 0 ≤ M 13 (kj 0) - 1 := by
  refine ⟨i0_ok hI h, by decide, ?_⟩
  have h1 := hI.1.1
  have h2 := hI.1.2
  have h3 : nn M ≠ 0 := fun e => h (by rw [h1, e]; rfl)
  have h4 := hI.2.1 0 (by omega)
  have h5 := hI.2.2.2.2.2.2.2.2.2.2.2.2.2.1 0 (by omega)
  have h6 := h4.2
  show (0 : Int32) ≤ M 13 0 - 1
  rw [Int32.le_iff_toInt_le, h4.1, show (1 : Int32) = nI 1 from rfl, pk_sub_toInt (by omega) (by decide)]
  show (0 : Int) ≤ _
  have : ((1 : Nat) : Int) = 1 := rfl
  omega
theorem tw_send_a (h : ¬ (0 ≤ a ∧ a ≤ 5)) : (sendM M a b z x y).2 24 0 = 1 := by rw [sendM, if_neg h]; exact mset_s M 24 0 1
theorem tw_send_b (ha : 0 ≤ a ∧ a ≤ 5) (h : ¬ (0 ≤ b ∧ b ≤ 5)) : (sendM M a b z x y).2 24 0 = 1 := by rw [sendM, if_pos ha, if_neg h]; exact mset_s M 24 0 1
theorem tw_send_z (ha : 0 ≤ a ∧ a ≤ 5) (hb : 0 ≤ b ∧ b ≤ 5) (h : ¬ (0 ≤ z ∧ z ≤ 7)) : (sendM M a b z x y).2 24 0 = 1 := by rw [sendM, if_pos ha, if_pos hb, if_neg h]; exact mset_s M 24 0 1
theorem tw_send_q (ha : 0 ≤ a ∧ a ≤ 5) (hb : 0 ≤ b ∧ b ≤ 5) (hz : 0 ≤ z ∧ z ≤ 7) (h : ¬ ((1 ≤ x ∧ x ≤ 9999) ∧ (y = 0 ∨ y = 7 ∨ y = 19))) : (sendM M a b z x y).2 24 0 = 2 := by rw [sendM, if_pos ha, if_pos hb, if_pos hz, if_neg h]; exact mset_s M 24 0 2
theorem tw_send_e (ha : 0 ≤ a ∧ a ≤ 5) (hb : 0 ≤ b ∧ b ≤ 5) (hz : 0 ≤ z ∧ z ≤ 7) (hq : (1 ≤ x ∧ x ≤ 9999) ∧ (y = 0 ∨ y = 7 ∨ y = 19)) (h : a = b) : (sendM M a b z x y).2 24 0 = 2 := by rw [sendM, if_pos ha, if_pos hb, if_pos hz, if_pos hq, if_pos h]; exact mset_s M 24 0 2
theorem tw_addLine_i (h : ¬ (0 ≤ a ∧ a ≤ M 2 0 - 1)) : (addLineM M a x y).2 24 0 = 1 := by rw [addLineM, if_neg h]; exact mset_s M 24 0 1
theorem tw_addLine_q (hi : 0 ≤ a ∧ a ≤ M 2 0 - 1) (h : ¬ ((1 ≤ x ∧ x ≤ 9999) ∧ (y = 0 ∨ y = 7 ∨ y = 19))) : (addLineM M a x y).2 24 0 = 2 := by rw [addLineM, if_pos hi, if_neg h]; exact mset_s M 24 0 2
theorem tw_accept_i (h : ¬ (0 ≤ a ∧ a ≤ M 2 0 - 1)) : (acceptM M a).2 24 0 = 1 := by rw [acceptM, if_neg h]; exact mset_s M 24 0 1
theorem tw_refuse_i (h : ¬ (0 ≤ a ∧ a ≤ M 2 0 - 1)) : (refuseM M a).2 24 0 = 1 := by rw [refuseM, if_neg h]; exact mset_s M 24 0 1
theorem tw_credit_i (h : ¬ ((0 ≤ a ∧ a ≤ M 2 0 - 1) ∧ 0 ≤ b ∧ b ≤ M 13 (kj a) - 1)) : (creditM M a b x).2 24 0 = 1 := by rw [creditM, if_neg h]; exact mset_s M 24 0 1
theorem tw_credit_q (hi : (0 ≤ a ∧ a ≤ M 2 0 - 1) ∧ 0 ≤ b ∧ b ≤ M 13 (kj a) - 1) (h : ¬ (1 ≤ x ∧ x ≤ 9999)) : (creditM M a b x).2 24 0 = 2 := by rw [creditM, if_pos hi, if_neg h]; exact mset_s M 24 0 2
theorem tw_dispute_i (h : ¬ ((0 ≤ a ∧ a ≤ M 2 0 - 1) ∧ 0 ≤ b ∧ b ≤ M 13 (kj a) - 1)) : (disputeM M a b).2 24 0 = 1 := by rw [disputeM, if_neg h]; exact mset_s M 24 0 1
theorem tw_settle_i (h : ¬ ((0 ≤ a ∧ a ≤ M 2 0 - 1) ∧ 0 ≤ b ∧ b ≤ M 13 (kj a) - 1)) : (settleM M a b z).2 24 0 = 1 := by rw [settleM, if_neg h]; exact mset_s M 24 0 1
theorem tw_sell_i (h : ¬ (0 ≤ a ∧ a ≤ M 2 0 - 1)) : (sellM M a b x z).2 24 0 = 1 := by rw [sellM, if_neg h]; exact mset_s M 24 0 1
theorem tw_sell_c (h : ¬ (0 ≤ b ∧ b ≤ 5)) : (sellM M a b x z).2 24 0 = 1 := by
  by_cases hi : 0 ≤ a ∧ a ≤ M 2 0 - 1
  · rw [sellM, if_pos hi, if_neg h]; exact mset_s M 24 0 1
  · rw [sellM, if_neg hi]; exact mset_s M 24 0 1
theorem tw_sell_q (hi : 0 ≤ a ∧ a ≤ M 2 0 - 1) (hb : 0 ≤ b ∧ b ≤ 5) (h : ¬ (1 ≤ x ∧ x ≤ 100)) : (sellM M a b x z).2 24 0 = 2 := by rw [sellM, if_pos hi, if_pos hb, if_neg h]; exact mset_s M 24 0 2
theorem tw_sell_s (hi : 0 ≤ a ∧ a ≤ M 2 0 - 1) (hb : 0 ≤ b ∧ b ≤ 5) (hx : 1 ≤ x ∧ x ≤ 100) (h : b = M 3 (kj a)) : (sellM M a b x z).2 24 0 = 2 := by rw [sellM, if_pos hi, if_pos hb, if_pos hx, if_pos h]; exact mset_s M 24 0 2
theorem tw_sell_b (hi : 0 ≤ a ∧ a ≤ M 2 0 - 1) (hb : 0 ≤ b ∧ b ≤ 5) (hx : 1 ≤ x ∧ x ≤ 100) (h : b = M 4 (kj a)) : (sellM M a b x z).2 24 0 = 2 := by
  by_cases h3 : b = M 3 (kj a)
  · rw [sellM, if_pos hi, if_pos hb, if_pos hx, if_pos h3]; exact mset_s M 24 0 2
  · rw [sellM, if_pos hi, if_pos hb, if_pos hx, if_neg h3, if_pos h]; exact mset_s M 24 0 2
theorem tw_giveBack_i (h : ¬ (0 ≤ a ∧ a ≤ M 2 0 - 1)) : (giveBackM M a).2 24 0 = 1 := by rw [giveBackM, if_neg h]; exact mset_s M 24 0 1
theorem tw_type (h : ¬ (32 ≤ a ∧ a ≤ 126)) : (typeM M a).2 24 0 = 1 := by rw [typeM, if_neg h]; exact mset_s M 24 0 1
theorem tw_payText {k : Int32} (h : paysC a b x = k) (hk : ¬ k ≤ 0) : (payTextM M a b x).2 24 0 = k := by rw [payTextM, h, if_neg hk]; exact mset_s M 24 0 k
theorem tw_paySum {k : Int32} (h : paysC a b x = k) (hk : ¬ k ≤ 0) : (paySumM M a b x).2 24 0 = k := by rw [paySumM, h, if_neg hk]; exact mset_s M 24 0 k
theorem tw_pass (h : ¬ (1 ≤ a ∧ a ≤ 60)) : (passM M a).2 24 0 = 1 := by rw [passM, if_neg h]; exact mset_s M 24 0 1
theorem tw_about_i (h : ¬ (0 ≤ a ∧ a ≤ M 2 0 - 1)) : (aboutM M a b).2 24 0 = 1 := by rw [aboutM, if_neg h]; exact mset_s M 24 0 1
theorem tw_about_q (hi : 0 ≤ a ∧ a ≤ M 2 0 - 1) (h : ¬ (0 ≤ b ∧ b ≤ 9)) : (aboutM M a b).2 24 0 = 2 := by rw [aboutM, if_pos hi, if_neg h]; exact mset_s M 24 0 2
theorem tw_lineOf_i (h : ¬ ((0 ≤ a ∧ a ≤ M 2 0 - 1) ∧ 0 ≤ b ∧ b ≤ M 13 (kj a) - 1)) : (lineOfM M a b x).2 24 0 = 1 := by rw [lineOfM, if_neg h]; exact mset_s M 24 0 1
theorem tw_lineOf_q (hi : (0 ≤ a ∧ a ≤ M 2 0 - 1) ∧ 0 ≤ b ∧ b ≤ M 13 (kj a) - 1) (h : ¬ (0 ≤ x ∧ x ≤ 4)) : (lineOfM M a b x).2 24 0 = 2 := by rw [lineOfM, if_pos hi, if_neg h]; exact mset_s M 24 0 2
theorem tw_cash (h : ¬ (0 ≤ a ∧ a ≤ 5)) : (cashM M a).2 24 0 = 1 := by rw [cashM, if_neg h]; exact mset_s M 24 0 1
theorem tw_cashAnew (h : ¬ (0 ≤ a ∧ a ≤ 5)) : (cashAnewM M a).2 24 0 = 1 := by rw [cashAnewM, if_neg h]; exact mset_s M 24 0 1
theorem tw_owedTo (h : ¬ (0 ≤ a ∧ a ≤ 5)) : (owedToM M a).2 24 0 = 1 := by rw [owedToM, if_neg h]; exact mset_s M 24 0 1
theorem tw_owes (h : ¬ (0 ≤ a ∧ a ≤ 5)) : (owesM M a).2 24 0 = 1 := by rw [owesM, if_neg h]; exact mset_s M 24 0 1
theorem tw_tax (h : ¬ (0 ≤ a ∧ a ≤ 5)) : (taxM M a b).2 24 0 = 1 := by rw [taxM, if_neg h]; exact mset_s M 24 0 1
theorem tw_tax_m (ha : 0 ≤ a ∧ a ≤ 5) (h : ¬ (0 ≤ b ∧ b ≤ M 0 0 / 30)) : (taxM M a b).2 24 0 = 1 := by rw [taxM, if_pos ha, if_neg h]; exact mset_s M 24 0 1
theorem tw_carried (h : ¬ (0 ≤ a ∧ a ≤ 5)) : (carriedM M a b).2 24 0 = 1 := by rw [carriedM, if_neg h]; exact mset_s M 24 0 1
theorem tw_carried_m (ha : 0 ≤ a ∧ a ≤ 5) (h : ¬ (0 ≤ b ∧ b ≤ M 0 0 / 30)) : (carriedM M a b).2 24 0 = 1 := by rw [carriedM, if_pos ha, if_neg h]; exact mset_s M 24 0 1
theorem tw_chain (h : ¬ (0 ≤ a ∧ a ≤ 7)) : (chainM M a).2 24 0 = 1 := by rw [chainM, if_neg h]; exact mset_s M 24 0 1
/-- what is told where it is there -/
theorem ok_cash (h : 0 ≤ a ∧ a ≤ 5) : (cashM M a).1 = M 1 (kj a) ∧ (cashM M a).2 24 0 = 0 := by rw [cashM, if_pos h]; exact ⟨rfl, mset_s M 24 0 0⟩
theorem ok_owes (h : 0 ≤ a ∧ a ≤ 5) : (owesM M a).1 = sumsM (mset M 24 0 0) a 0 ∧ (owesM M a).2 24 0 = 0 := by rw [owesM, if_pos h]; exact ⟨rfl, mset_s M 24 0 0⟩
theorem ok_about1 (hi : 0 ≤ a ∧ a ≤ M 2 0 - 1) : (aboutM M a 1).1 = M 3 (kj a) ∧ (aboutM M a 1).2 24 0 = 0 := by rw [aboutM, if_pos hi, if_pos (show (0 : Int32) ≤ 1 ∧ (1 : Int32) ≤ 9 from by decide), if_neg (show ¬ (1 : Int32) = 0 from by decide), if_pos (show (1 : Int32) = 1 from rfl)]; exact ⟨rfl, mset_s M 24 0 0⟩
theorem ok_about2 (hi : 0 ≤ a ∧ a ≤ M 2 0 - 1) : (aboutM M a 2).1 = M 4 (kj a) ∧ (aboutM M a 2).2 24 0 = 0 := by rw [aboutM, if_pos hi, if_pos (show (0 : Int32) ≤ 2 ∧ (2 : Int32) ≤ 9 from by decide), if_neg (show ¬ (2 : Int32) = 0 from by decide), if_neg (show ¬ (2 : Int32) = 1 from by decide), if_pos (show (2 : Int32) = 2 from rfl)]; exact ⟨rfl, mset_s M 24 0 0⟩
theorem okI_le5 {v : Int32} (h : okI v 6) : 0 ≤ v ∧ v ≤ 5 := by
  rw [h.1]
  have h2 := h.2
  exact ⟨nI_pos' (by omega), nI_le (b := 5) (by omega) (by decide)⟩
end WR
