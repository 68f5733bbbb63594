/-! tables as numbers: the state of a fixed run, 32 bits a cell (24 * j + k) -/
def rd (N p : Nat) : Nat := (N >>> (32 * p)) % 4294967296
def wr (N p : Nat) (v : Int32) : Nat := (N >>> (32 * (p + 1))) <<< (32 * (p + 1)) + v.toBitVec.toNat <<< (32 * p) + N % 2 ^ (32 * p)
theorem p32 (p : Nat) : 2 ^ (32 * (p + 1)) = 2 ^ (32 * p) * 4294967296 := by rw [Nat.mul_add, Nat.pow_add]
theorem wr_eq (N p : Nat) (v : Int32) : wr N p v = 2 ^ (32 * p) * (N / 2 ^ (32 * (p + 1)) * 4294967296 + v.toBitVec.toNat) + N % 2 ^ (32 * p) := by
  have e1 : ∀ h B v r c : Nat, h * (B * c) + v * B + r = B * (h * c + v) + r := fun h B v r c => by rw [Nat.mul_add, Nat.mul_left_comm, Nat.mul_comm v B]
  unfold wr
  rw [Nat.shiftRight_eq_div_pow, Nat.shiftLeft_eq, Nat.shiftLeft_eq, p32]
  exact e1 _ _ _ _ _
theorem rd_eq (N p : Nat) : rd N p = N / 2 ^ (32 * p) % 4294967296 := by unfold rd; rw [Nat.shiftRight_eq_div_pow]
theorem rd_low {N p q : Nat} (h : q < p) : rd N q = rd (N % 2 ^ (32 * p)) q := by
  obtain ⟨d, rfl⟩ : ∃ d, p = q + 1 + d := ⟨p - (q + 1), by omega⟩
  rw [rd_eq, rd_eq]
  have e : 2 ^ (32 * (q + 1 + d)) = 2 ^ (32 * q) * (4294967296 * 2 ^ (32 * d)) := by
    rw [Nat.mul_add, Nat.pow_add, p32, Nat.mul_assoc]
  rw [e, Nat.mod_mul_right_div_self, Nat.mod_mod_of_dvd _ (Nat.dvd_mul_right _ _)]
theorem rd_high {N p q : Nat} (h : p < q) : rd N q = N / 2 ^ (32 * (p + 1)) / 2 ^ (32 * (q - (p + 1))) % 4294967296 := by
  rw [rd_eq, Nat.div_div_eq_div_mul, ← Nat.pow_add]
  congr 3
  omega
theorem rd_wr (N p q : Nat) (v : Int32) : rd (wr N p v) q = if q = p then v.toBitVec.toNat else rd N q := by
  have hB : 0 < 2 ^ (32 * p) := Nat.two_pow_pos _
  have hL : N % 2 ^ (32 * p) < 2 ^ (32 * p) := Nat.mod_lt _ hB
  have hv : v.toBitVec.toNat < 4294967296 := v.toBitVec.isLt
  rcases Nat.lt_trichotomy q p with h | h | h
  · rw [if_neg (by omega), rd_low h, wr_eq, Nat.mul_add_mod, Nat.mod_mod, ← rd_low h]
  · subst h
    rw [if_pos rfl, rd_eq, wr_eq, Nat.mul_add_div hB, Nat.div_eq_of_lt hL, Nat.add_zero, Nat.mul_comm, Nat.mul_add_mod, Nat.mod_eq_of_lt hv]
  · rw [if_neg (by omega), rd_high h, rd_high h]
    congr 2
    rw [wr_eq, p32, ← Nat.div_div_eq_div_mul, Nat.mul_add_div hB, Nat.div_eq_of_lt hL, Nat.add_zero, Nat.mul_comm (N / _), Nat.mul_add_div (by decide), Nat.div_eq_of_lt hv, Nat.add_zero]
def mk (N : Nat) : mM := fun k j => if k < 24 then Int32.ofBitVec (BitVec.ofNat 32 (rd N (24 * j + k))) else 0
theorem mk_24 (N j : Nat) : mk N 24 j = 0 := rfl
theorem mset_24k (N : Nat) : mset (mk N) 24 0 0 = mk N := mset_24 rfl
theorem mset_mk {N k j : Nat} {v : Int32} (hk : k < 24) : mset (mk N) k j v = mk (wr N (24 * j + k) v) := by
  funext k' j'
  show (if k' = k then upd (mk N k) j v else mk N k') j' = mk (wr N (24 * j + k) v) k' j'
  unfold mk
  by_cases h24 : k' < 24
  · simp only [if_pos h24]
    rw [rd_wr]
    by_cases e : k' = k
    · subst e
      rw [if_pos rfl]
      show (if j' = j then v else _) = _
      by_cases ej : j' = j
      · subst ej
        rw [if_pos rfl, if_pos rfl, BitVec.ofNat_toNat, BitVec.setWidth_eq]
        rfl
      · rw [if_neg ej, if_neg (by omega)]
        show (if k' < 24 then _ else 0) = _
        rw [if_pos h24]
    · rw [if_neg e, if_neg (by omega)]
  · rw [if_neg (show ¬ k' = k by omega)]
    simp only [if_neg h24]
theorem mk_0 {N j : Nat} {v : Int32} : mset (mk N) 0 j v = mk (wr N (24 * j + 0) v) := mset_mk (by decide)
theorem mk_1 {N j : Nat} {v : Int32} : mset (mk N) 1 j v = mk (wr N (24 * j + 1) v) := mset_mk (by decide)
theorem mk_2 {N j : Nat} {v : Int32} : mset (mk N) 2 j v = mk (wr N (24 * j + 2) v) := mset_mk (by decide)
theorem mk_3 {N j : Nat} {v : Int32} : mset (mk N) 3 j v = mk (wr N (24 * j + 3) v) := mset_mk (by decide)
theorem mk_4 {N j : Nat} {v : Int32} : mset (mk N) 4 j v = mk (wr N (24 * j + 4) v) := mset_mk (by decide)
theorem mk_5 {N j : Nat} {v : Int32} : mset (mk N) 5 j v = mk (wr N (24 * j + 5) v) := mset_mk (by decide)
theorem mk_6 {N j : Nat} {v : Int32} : mset (mk N) 6 j v = mk (wr N (24 * j + 6) v) := mset_mk (by decide)
theorem mk_7 {N j : Nat} {v : Int32} : mset (mk N) 7 j v = mk (wr N (24 * j + 7) v) := mset_mk (by decide)
theorem mk_8 {N j : Nat} {v : Int32} : mset (mk N) 8 j v = mk (wr N (24 * j + 8) v) := mset_mk (by decide)
theorem mk_9 {N j : Nat} {v : Int32} : mset (mk N) 9 j v = mk (wr N (24 * j + 9) v) := mset_mk (by decide)
theorem mk_10 {N j : Nat} {v : Int32} : mset (mk N) 10 j v = mk (wr N (24 * j + 10) v) := mset_mk (by decide)
theorem mk_11 {N j : Nat} {v : Int32} : mset (mk N) 11 j v = mk (wr N (24 * j + 11) v) := mset_mk (by decide)
theorem mk_12 {N j : Nat} {v : Int32} : mset (mk N) 12 j v = mk (wr N (24 * j + 12) v) := mset_mk (by decide)
theorem mk_13 {N j : Nat} {v : Int32} : mset (mk N) 13 j v = mk (wr N (24 * j + 13) v) := mset_mk (by decide)
theorem mk_14 {N j : Nat} {v : Int32} : mset (mk N) 14 j v = mk (wr N (24 * j + 14) v) := mset_mk (by decide)
theorem mk_15 {N j : Nat} {v : Int32} : mset (mk N) 15 j v = mk (wr N (24 * j + 15) v) := mset_mk (by decide)
theorem mk_16 {N j : Nat} {v : Int32} : mset (mk N) 16 j v = mk (wr N (24 * j + 16) v) := mset_mk (by decide)
theorem mk_17 {N j : Nat} {v : Int32} : mset (mk N) 17 j v = mk (wr N (24 * j + 17) v) := mset_mk (by decide)
theorem mk_18 {N j : Nat} {v : Int32} : mset (mk N) 18 j v = mk (wr N (24 * j + 18) v) := mset_mk (by decide)
theorem mk_19 {N j : Nat} {v : Int32} : mset (mk N) 19 j v = mk (wr N (24 * j + 19) v) := mset_mk (by decide)
theorem mk_20 {N j : Nat} {v : Int32} : mset (mk N) 20 j v = mk (wr N (24 * j + 20) v) := mset_mk (by decide)
theorem mk_21 {N j : Nat} {v : Int32} : mset (mk N) 21 j v = mk (wr N (24 * j + 21) v) := mset_mk (by decide)
theorem mk_22 {N j : Nat} {v : Int32} : mset (mk N) 22 j v = mk (wr N (24 * j + 22) v) := mset_mk (by decide)
theorem mk_23 {N j : Nat} {v : Int32} : mset (mk N) 23 j v = mk (wr N (24 * j + 23) v) := mset_mk (by decide)
/-! the writers, over numbers -/
def addsN (N i : Nat) (x z : Int32) : Nat := wr (wr (wr (wr N (24 * (3 * i + kk (mk N) i) + 14) x) (24 * (3 * i + kk (mk N) i) + 15) x) (24 * (3 * i + kk (mk N) i) + 16) z) (24 * i + 13) (mk N 13 i + 1)
theorem adds_mk (N i : Nat) (x z : Int32) : addsM (mk N) i x z = mk (addsN N i x z) := by unfold addsM addsN; rw [mk_14, mk_15, mk_16, mk_13]
def lessN (N i q : Nat) (x : Int32) : Nat := wr (wr (wr (wr (wr N (24 * (cc (mk N)) + 19) (nI i)) (24 * (cc (mk N)) + 20) (mk N 0 0)) (24 * (cc (mk N)) + 21) (tx (mk N 14 (3 * i + q)) (mk N 16 (3 * i + q)) - tx (mk N 14 (3 * i + q) - x) (mk N 16 (3 * i + q)))) (24 * (3 * i + q) + 14) (mk N 14 (3 * i + q) - x)) (24 * 0 + 18) (mk N 18 0 + 1)
theorem less_mk (N i q : Nat) (x : Int32) : lessM (mk N) i q x = mk (lessN N i q x) := by unfold lessM lessN; rw [mk_19, mk_20, mk_21, mk_14, mk_18]
def movesN (N f g : Nat) (x : Int32) : Nat := wr (wr N (24 * f + 1) (mk N 1 f - x)) (24 * g + 1) (mk (wr N (24 * f + 1) (mk N 1 f - x)) 1 g + x)
theorem moves_mk (N f g : Nat) (x : Int32) : movesM (mk N) f g x = mk (movesN N f g x) := by unfold movesM movesN; rw [mk_1, mk_1]
def sendN (N : Nat) (a b z x y : Int32) : Nat := wr (addsN (wr (wr (wr (wr (wr (wr N (24 * (nn (mk N)) + 3) a) (24 * (nn (mk N)) + 4) b) (24 * (nn (mk N)) + 5) z) (24 * (nn (mk N)) + 6) 0) (24 * (nn (mk N)) + 7) (mk N 0 0)) (24 * (nn (mk N)) + 9) a) (nn (mk N)) x y) (24 * 0 + 2) (mk N 2 0 + 1)
def addLineN (N : Nat) (a x y : Int32) : Nat := addsN N (kj a) x y
def acceptN (N : Nat) (a : Int32) : Nat := wr (wr N (24 * (kj a) + 6) 1) (24 * (kj a) + 8) (mk N 0 0)
def refuseN (N : Nat) (a : Int32) : Nat := wr N (24 * (kj a) + 6) 2
def creditN (N : Nat) (a b x : Int32) : Nat := lessN N (kj a) (kj b) x
def disputeN (N : Nat) (a b : Int32) : Nat := wr N (24 * (3 * kj a + kj b) + 17) 1
def settleN (N : Nat) (a b z : Int32) : Nat := if z = 0 then wr N (24 * (3 * kj a + kj b) + 17) 0 else lessN (wr N (24 * (3 * kj a + kj b) + 17) 0) (kj a) (kj b) (mk N 14 (3 * kj a + kj b))
def sellN (N : Nat) (a b x z : Int32) : Nat := movesN (wr (wr (wr N (24 * (kj a) + 10) (owed (mk N) (kj a) * x / 100)) (24 * (kj a) + 11) z) (24 * (kj a) + 9) b) (kj b) (kj (mk N 3 (kj a))) (owed (mk N) (kj a) * x / 100)
def giveBackN (N : Nat) (a : Int32) : Nat := wr (movesN N (kj (mk N 3 (kj a))) (kj (mk N 9 (kj a))) (mk N 10 (kj a))) (24 * (kj a) + 9) (mk N 3 (kj a))
def typeN (N : Nat) (a : Int32) : Nat := wr (wr N (24 * (dd (mk N)) + 23) a) (24 * 0 + 22) (mk N 22 0 + 1)
def clearN (N : Nat) : Nat := wr N (24 * 0 + 22) 0
def passN (N : Nat) (a : Int32) : Nat := wr N (24 * 0 + 0) (mk N 0 0 + a)
def payTextN (N : Nat) (a b x : Int32) : Nat := wr (movesN (wr N (24 * (kj (itsM (mk N))) + 12) (mk N 12 (kj (itsM (mk N))) + x)) (kj a) (kj b) x) (24 * 0 + 22) 0
def psN (N : Nat) (a b x : Int32) : Int32 := l_down (psM (mk N) a b x) (nn (mk N)) (-1)
def paySumN (N : Nat) (a b x : Int32) : Nat := movesN (wr N (24 * (kj (psN N a b x)) + 12) (mk N 12 (kj (psN N a b x)) + x)) (kj a) (kj b) x
section TN
variable {N : Nat} {a b z x y r : Int32}
theorem f_send (h : (sendM (mk N) a b z x y).2 24 0 = 0 ∧ (sendM (mk N) a b z x y).1 = r) : sendM (mk N) a b z x y = (r, mk (sendN N a b z x y)) := by
  obtain ⟨h0, rfl⟩ := h
  refine Prod.ext rfl ?_
  revert h0
  unfold sendM
  (repeat' split) <;> intro h0 <;> first | (dsimp only at h0; exact o_absurd (mset_s _ _ _ _) h0) | (show _ = mk (sendN N a b z x y); simp only [sendN, mset_24k, mk_2, mk_3, mk_4, mk_5, mk_6, mk_7, mk_9, adds_mk])
theorem f_addLine (h : (addLineM (mk N) a x y).2 24 0 = 0 ∧ (addLineM (mk N) a x y).1 = r) : addLineM (mk N) a x y = (r, mk (addLineN N a x y)) := by
  obtain ⟨h0, rfl⟩ := h
  refine Prod.ext rfl ?_
  revert h0
  unfold addLineM
  (repeat' split) <;> intro h0 <;> first | (dsimp only at h0; exact o_absurd (mset_s _ _ _ _) h0) | (show _ = mk (addLineN N a x y); simp only [addLineN, mset_24k, adds_mk])
theorem f_accept (h : (acceptM (mk N) a).2 24 0 = 0 ∧ (acceptM (mk N) a).1 = r) : acceptM (mk N) a = (r, mk (acceptN N a)) := by
  obtain ⟨h0, rfl⟩ := h
  refine Prod.ext rfl ?_
  revert h0
  unfold acceptM
  (repeat' split) <;> intro h0 <;> first | (dsimp only at h0; exact o_absurd (mset_s _ _ _ _) h0) | (show _ = mk (acceptN N a); simp only [acceptN, mset_24k, mk_6, mk_8])
theorem f_refuse (h : (refuseM (mk N) a).2 24 0 = 0 ∧ (refuseM (mk N) a).1 = r) : refuseM (mk N) a = (r, mk (refuseN N a)) := by
  obtain ⟨h0, rfl⟩ := h
  refine Prod.ext rfl ?_
  revert h0
  unfold refuseM
  (repeat' split) <;> intro h0 <;> first | (dsimp only at h0; exact o_absurd (mset_s _ _ _ _) h0) | (show _ = mk (refuseN N a); simp only [refuseN, mset_24k, mk_6])
theorem f_credit (h : (creditM (mk N) a b x).2 24 0 = 0 ∧ (creditM (mk N) a b x).1 = r) : creditM (mk N) a b x = (r, mk (creditN N a b x)) := by
  obtain ⟨h0, rfl⟩ := h
  refine Prod.ext rfl ?_
  revert h0
  unfold creditM
  (repeat' split) <;> intro h0 <;> first | (dsimp only at h0; exact o_absurd (mset_s _ _ _ _) h0) | (show _ = mk (creditN N a b x); simp only [creditN, mset_24k, less_mk])
theorem f_dispute (h : (disputeM (mk N) a b).2 24 0 = 0 ∧ (disputeM (mk N) a b).1 = r) : disputeM (mk N) a b = (r, mk (disputeN N a b)) := by
  obtain ⟨h0, rfl⟩ := h
  refine Prod.ext rfl ?_
  revert h0
  unfold disputeM
  (repeat' split) <;> intro h0 <;> first | (dsimp only at h0; exact o_absurd (mset_s _ _ _ _) h0) | (show _ = mk (disputeN N a b); simp only [disputeN, mset_24k, mk_17])
theorem f_settle (h : (settleM (mk N) a b z).2 24 0 = 0 ∧ (settleM (mk N) a b z).1 = r) : settleM (mk N) a b z = (r, mk (settleN N a b z)) := by
  obtain ⟨h0, rfl⟩ := h
  refine Prod.ext rfl ?_
  revert h0
  unfold settleM settleN
  rcases Decidable.em (z = 0) with hz | hz
  · simp only [if_pos hz]
    (repeat' split) <;> intro h0 <;> first | (dsimp only at h0; exact o_absurd (mset_s _ _ _ _) h0) | (simp only [mset_24k, mk_17])
  · simp only [if_neg hz]
    (repeat' split) <;> intro h0 <;> first | (dsimp only at h0; exact o_absurd (mset_s _ _ _ _) h0) | (simp only [mset_24k, mk_17, less_mk])
theorem f_sell (h : (sellM (mk N) a b x z).2 24 0 = 0 ∧ (sellM (mk N) a b x z).1 = r) : sellM (mk N) a b x z = (r, mk (sellN N a b x z)) := by
  obtain ⟨h0, rfl⟩ := h
  refine Prod.ext rfl ?_
  revert h0
  unfold sellM
  (repeat' split) <;> intro h0 <;> first | (dsimp only at h0; exact o_absurd (mset_s _ _ _ _) h0) | (show _ = mk (sellN N a b x z); simp only [sellN, mset_24k, mk_9, mk_10, mk_11, moves_mk])
theorem f_giveBack (h : (giveBackM (mk N) a).2 24 0 = 0 ∧ (giveBackM (mk N) a).1 = r) : giveBackM (mk N) a = (r, mk (giveBackN N a)) := by
  obtain ⟨h0, rfl⟩ := h
  refine Prod.ext rfl ?_
  revert h0
  unfold giveBackM
  (repeat' split) <;> intro h0 <;> first | (dsimp only at h0; exact o_absurd (mset_s _ _ _ _) h0) | (show _ = mk (giveBackN N a); simp only [giveBackN, mset_24k, mk_9, moves_mk])
theorem f_type (h : (typeM (mk N) a).2 24 0 = 0 ∧ (typeM (mk N) a).1 = r) : typeM (mk N) a = (r, mk (typeN N a)) := by
  obtain ⟨h0, rfl⟩ := h
  refine Prod.ext rfl ?_
  revert h0
  unfold typeM
  (repeat' split) <;> intro h0 <;> first | (dsimp only at h0; exact o_absurd (mset_s _ _ _ _) h0) | (show _ = mk (typeN N a); simp only [typeN, mset_24k, mk_23, mk_22])
theorem f_clear (h : (clearM (mk N)).1 = r) : clearM (mk N) = (r, mk (clearN N)) := by
  subst h
  refine Prod.ext rfl ?_
  show mset (mset (mk N) 24 0 0) 22 0 0 = mk (clearN N)
  rw [mset_24k, mk_22]
  rfl
theorem f_pass (h : (passM (mk N) a).2 24 0 = 0 ∧ (passM (mk N) a).1 = r) : passM (mk N) a = (r, mk (passN N a)) := by
  obtain ⟨h0, rfl⟩ := h
  refine Prod.ext rfl ?_
  revert h0
  unfold passM
  (repeat' split) <;> intro h0 <;> first | (dsimp only at h0; exact o_absurd (mset_s _ _ _ _) h0) | (show _ = mk (passN N a); simp only [passN, mset_24k, mk_0])
theorem f_payText (h : paysC a b x = 0 ∧ (payTextM (mk N) a b x).2 24 0 = 0 ∧ (payTextM (mk N) a b x).1 = r) : payTextM (mk N) a b x = (r, mk (payTextN N a b x)) := by
  obtain ⟨hp, h0, rfl⟩ := h
  refine Prod.ext rfl ?_
  revert h0
  unfold payTextM
  rw [hp, if_pos (Int32.le_refl 0)]
  unfold ptail
  rw [hp]
  (repeat' split) <;> intro h0 <;> first | (dsimp only at h0; exact o_absurd (mset_s _ _ _ _) h0) | (show _ = mk (payTextN N a b x); simp only [payTextN, mset_24k, mk_12, mk_22, moves_mk])
theorem f_paySum (h : paysC a b x = 0 ∧ (paySumM (mk N) a b x).2 24 0 = 0 ∧ (paySumM (mk N) a b x).1 = r) : paySumM (mk N) a b x = (r, mk (paySumN N a b x)) := by
  obtain ⟨hp, h0, rfl⟩ := h
  refine Prod.ext rfl ?_
  revert h0
  unfold paySumM
  rw [hp, if_pos (Int32.le_refl 0), mset_24k]
  unfold psTail
  (repeat' split) <;> intro h0 <;> first | (dsimp only at h0; exact o_absurd (mset_s _ _ _ _) h0) | (show _ = mk (paySumN N a b x); simp only [paySumN, psN, mset_24k, mk_12, moves_mk])
/-- signs out of a long, over numbers -/
def tyN (N : Nat) (told : Int64) : Nat → Nat
  | 0 => wr N (24 * 0 + 22) 0
  | k + 1 => wr (wr (tyN N told k) (24 * k + 23) (sgn told k)) (24 * 0 + 22) (nI (k + 1))
theorem ty_mk (N : Nat) (told : Int64) : ∀ k, tyS (mk N) told k = mk (tyN N told k)
  | 0 => mk_22
  | k + 1 => by
    show mset (mset (tyS (mk N) told k) 23 k (sgn told k)) 22 0 (nI (k + 1)) = _
    rw [ty_mk N told k, mk_23, mk_22]
    rfl
end TN
