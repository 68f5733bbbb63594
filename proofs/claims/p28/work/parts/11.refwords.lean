def costs_st (M : mM) (i : Nat) (w : Int32) (j : Nat) (x : Int32) : Int32 := (if w = 0 then (if (M 17 (3 * i + j)) = 0 then (x + ((M 14 (3 * i + j)) + (tx (M 14 (3 * i + j)) (M 16 (3 * i + j))))) else (x + 0)) else (x + ((M 14 (3 * i + j)) + (tx (M 14 (3 * i + j)) (M 16 (3 * i + j))))))
def costs (M : mM) (i : Nat) (w : Int32) : Int32 := l_fold (costs_st M i w) 0 (kk M i)
def taxAll_st (M : mM) (i : Nat) (w : Int32) (j : Nat) (x : Int32) : Int32 := (if w = 0 then (x + (tx (M 14 (3 * i + j)) (M 16 (3 * i + j)))) else (x + (tx (M 15 (3 * i + j)) (M 16 (3 * i + j)))))
def taxAll (M : mM) (i : Nat) (w : Int32) : Int32 := l_fold (taxAll_st M i w) 0 (kk M i)
def owed (M : mM) (i : Nat) : Int32 := (if (M 6 i) = 1 then (if ((costs M i 0) - (M 12 i)) ≤ 0 then 0 else ((costs M i 0) - (M 12 i))) else 0)
def hasC_st (M : mM) (a : Int32) (j : Nat) (x : Int32) : Int32 := (if (M 19 j) = a then (x ||| 1) else (x ||| 0))
def hasC (M : mM) (a : Int32) : Int32 := l_fold (hasC_st M a) 0 (cc M)
theorem hasC_01 (M : mM) (a : Int32) : ∀ j, l_fold (hasC_st M a) 0 j = 0 ∨ l_fold (hasC_st M a) 0 j = 1 := by
  intro j
  induction j with
  | zero => exact Or.inl rfl
  | succ k ih =>
    rw [l_fold]
    generalize l_fold (hasC_st M a) 0 k = y at ih
    unfold hasC_st
    split <;> rcases ih with rfl | rfl <;> decide
theorem hasC_z (M : mM) (a : Int32) (j : Nat) : narrow .boolean (.int (l_fold (hasC_st M a) 0 j)) = .int (l_fold (hasC_st M a) 0 j) := by
  rcases hasC_01 M a j with h | h <;> rw [h] <;> rfl
def addsM (M : mM) (i : Nat) (x z : Int32) : mM := (mset (mset (mset (mset M 14 (3 * i + kk M i) x) 15 (3 * i + kk M i) x) 16 (3 * i + kk M i) z) 13 i ((M 13 i) + 1))
def lessM (M : mM) (i q : Nat) (x : Int32) : mM := (mset (mset (mset (mset (mset M 19 (cc M) (nI i)) 20 (cc M) (M 0 0)) 21 (cc M) ((tx (M 14 (3 * i + q)) (M 16 (3 * i + q))) - (tx ((M 14 (3 * i + q)) - x) (M 16 (3 * i + q))))) 14 (3 * i + q) ((M 14 (3 * i + q)) - x)) 18 0 ((M 18 0) + 1))
def movesM (M : mM) (f g : Nat) (x : Int32) : mM := (mset (mset M 1 f ((M 1 f) - x)) 1 g (((mset M 1 f ((M 1 f) - x)) 1 g) + x))
def frun (M : mM) : Nat → Nat → Int32
  | 0, _ => 0
  | n + 1, j => (if (M 22 0) ≤ (nI j) then (if 2 ≤ (M 22 0) then (-1) else (M 22 0)) else (if (nI j) = 0 then (if (M 23 0) = 82 then (frun M n (j + 1)) else (nI j)) else (if 3 ≤ (nI j) then (nI j) else (if 48 ≤ (M 23 j) ∧ (M 23 j) ≤ 57 then (frun M n (j + 1)) else (nI j)))))
def faultM (M : mM) : Int32 := frun M (dd M + 1) 0
def paysC (a b x : Int32) : Int32 := (if 0 ≤ a ∧ a ≤ 5 then (if 0 ≤ b ∧ b ≤ 5 then (if 1 ≤ x ∧ x ≤ 99999 then (if a = b then 2 else 0) else 2) else 1) else 1)
def sumsM_st (M : mM) (a w : Int32) (j : Nat) (x : Int32) : Int32 := (if w = 0 then (if (M 4 j) = a then (x + (owed M j)) else (x + 0)) else (if (M 9 j) = a then (x + (owed M j)) else (x + 0)))
def sumsM (M : mM) (a w : Int32) : Int32 := l_fold (sumsM_st M a w) 0 (nn M)
def tin1 (M : mM) (a b : Int32) (j : Nat) (x : Int32) : Int32 := (if (M 3 j) = a then (if ((M 7 j) / 30) = b then (if (M 6 j) = 2 then (if (M 4 j) = a then (if (M 6 j) = 1 then (if ((M 8 j) / 30) = b then ((x + 0) - (taxAll M j 1)) else ((x + 0) - 0)) else ((x + 0) - 0)) else ((x + 0) - 0)) else (if (M 4 j) = a then (if (M 6 j) = 1 then (if ((M 8 j) / 30) = b then ((x + (taxAll M j 1)) - (taxAll M j 1)) else ((x + (taxAll M j 1)) - 0)) else ((x + (taxAll M j 1)) - 0)) else ((x + (taxAll M j 1)) - 0))) else (if (M 4 j) = a then (if (M 6 j) = 1 then (if ((M 8 j) / 30) = b then ((x + 0) - (taxAll M j 1)) else ((x + 0) - 0)) else ((x + 0) - 0)) else ((x + 0) - 0))) else (if (M 4 j) = a then (if (M 6 j) = 1 then (if ((M 8 j) / 30) = b then ((x + 0) - (taxAll M j 1)) else ((x + 0) - 0)) else ((x + 0) - 0)) else ((x + 0) - 0)))
def tin2 (M : mM) (a b : Int32) (j : Nat) (x : Int32) : Int32 := (if ((M 20 j) / 30) = b then (if (M 3 (kj (M 19 j))) = a then (if (M 6 (kj (M 19 j))) = 2 then (if (M 4 (kj (M 19 j))) = a then (if (M 6 (kj (M 19 j))) = 1 then ((x - 0) + (M 21 j)) else ((x - 0) + 0)) else ((x - 0) + 0)) else (if (M 4 (kj (M 19 j))) = a then (if (M 6 (kj (M 19 j))) = 1 then ((x - (M 21 j)) + (M 21 j)) else ((x - (M 21 j)) + 0)) else ((x - (M 21 j)) + 0))) else (if (M 4 (kj (M 19 j))) = a then (if (M 6 (kj (M 19 j))) = 1 then ((x - 0) + (M 21 j)) else ((x - 0) + 0)) else ((x - 0) + 0))) else ((x - 0) + 0))
def taxIn (M : mM) (a b : Int32) : Int32 := l_fold (tin2 M a b) (l_fold (tin1 M a b) 0 (nn M)) (cc M)
def taxTo_st (M : mM) (a : Int32) (t : Nat) (j : Nat) (x : Int32) : Int32 := (if 0 ≤ x then (0 + (taxIn M a (nI j))) else (x + (taxIn M a (nI j))))
def taxTo (M : mM) (a : Int32) (t : Nat) : Int32 := l_fold (taxTo_st M a t) 0 (t + 1)
def chI (M1 : mM) (a : Int32) (j i : Nat) (y : Int32) : Int32 := (if (M1 5 i) = a then (if (M1 6 i) = 1 then (if (M1 4 i) = (M1 3 j) then (if (taxAll M1 i 0) ≤ y then y else (taxAll M1 i 0)) else y) else y) else y)
def chO (M1 : mM) (a : Int32) (j : Nat) (x : Int32) : Int32 := (if (M1 5 j) = a then (if (M1 6 j) = 1 then (if (taxAll M1 j 0) ≤ (l_fold (chI M1 a j) 0 j) then (x + 0) else (x + ((taxAll M1 j 0) - (l_fold (chI M1 a j) 0 j)))) else x) else x)
def chainM (M : mM) (a : Int32) : Int32 × mM := if 0 ≤ a ∧ a ≤ 7 then (l_fold (chO (mset M 24 0 0) a) 0 (nn (mset M 24 0 0)), mset M 24 0 0) else (0, mset M 24 0 1)
