/-! the drawn loop -/
theorem ushr8 (x : Int32) : ∃ q : Nat, q < 16777216 ∧ (x.toUInt32 >>> ((8 : Int32).toUInt32 &&& Int32.toUInt32 31)).toInt32 = nI q := by
  have h := pk_ushr x 8 8 (by decide)
  have hl : x.toBitVec.toNat < 4294967296 := x.toBitVec.isLt
  refine ⟨x.toBitVec.toNat / 2 ^ 8, by omega, Int32.toBitVec_inj.mp (BitVec.eq_of_toNat_eq ?_)⟩
  rw [h, pk_tn (by omega)]
def lX28 (b N : Nat) (xs : Nat → Int32) (A : Nat → Prop) (s : State) : Prop := va_X b N xs s s.heap ∧ b < s.heap.size ∧ ¬ A b ∧ N ≤ 260
section LE
variable {p : Program} {l : Launch} {e : Env} {s : State} {m : MethodId} {args : Array Value} {below : List Frame} {meth : Method} {c : Code} {H : Heap} {locs : List Loc} {cells slots : Nat} {Q : State → Prop}
variable {ret : Option FieldType} {γ : kG} {A : Nat → Prop} {L : List Nat} {F : kF} {ls : Array Slot} {o n : Nat} {M : mM}
set_option maxHeartbeats 4000000 in
theorem law_x {b N k : Nat} {xs : Nat → Int32} (hM : kM p s m args meth c cL_law 15 ret "InvoicebridgeLaw") (hS : lX28 b N xs A s) (hX : kX γ A s L F H locs) (hk : k < 70) {lv : List (Nat × Value)} (h0 : ls[0]? = some (.val (.ref b))) (h3 : ls[3]? = some (.val (.int (nI k))))
    (kq : ∀ q : Nat, q < 16777216 → W p l e room_1 s m args below meth c H locs cells slots Q (F0 m 47 ls [.int (nI q)])) : W p l e room_1 s m args below meth c H locs cells slots Q (F0 m 26 ls []) := by
  have hx := hM.1
  have hb := hM.2.1
  have hN := hS.2.2.2
  refine lv_aload_n hx hb dL_law_26 rfl h0 ?_
  refine va_slen hx hb hS.1 hS.2.1 hS.2.2.1 hX.2.2 dL_law_27 ?_
  by_cases hN0 : N = 0
  · subst hN0
    refine lv_if_ne (tgt := 38) hx hb dL_law_28 (by decide) (fun h9 => absurd rfl h9) (fun _ => ?_)
    refine lv_bipush (v := 101) hx hb dL_law_31 (by decide) ?_
    refine lv_iload_n hx hb dL_law_33 rfl h3 ?_
    refine lv_imul hx hb dL_law_34 ?_
    refine lv_is (y := nI (101 * k)) (pk_mul 101 k) ?_
    exact lv_goto (tgt := 47) hx hb dL_law_35 (by decide) (kq _ (by omega))
  · have hne : ¬ (Int32.ofNat N) = 0 := nI_ne0 (n := N) (by omega) (by omega)
    refine lv_if_ne (tgt := 38) hx hb dL_law_28 (by decide) (fun _ => ?_) (fun h9 => absurd h9 hne)
    refine lv_aload_n hx hb dL_law_38 rfl h0 ?_
    refine lv_iload_n hx hb dL_law_39 rfl h3 ?_
    refine lv_aload_n hx hb dL_law_40 rfl h0 ?_
    refine va_slen hx hb hS.1 hS.2.1 hS.2.2.1 hX.2.2 dL_law_41 ?_
    refine lv_irem hx hb dL_law_42 hne ?_
    refine lv_is (y := nI (k % N)) (pk_rem (a := k) (d := N) (by omega) (by omega) (by omega)) ?_
    refine va_sld hx hb hS.1 hS.2.1 hS.2.2.1 hX.2.2 (vp_in_nI (Nat.mod_lt k (by omega)) (by omega)) dL_law_43 ?_
    refine lv_bipush (v := 8) hx hb dL_law_44 (by decide) ?_
    obtain ⟨q, hq, eq9⟩ := ushr8 (xs (nI (k % N)).toNatClampNeg)
    refine lv_iushr (v := nI q) hx hb dL_law_46 eq9 ?_
    exact kq q hq
set_option maxHeartbeats 8000000 in
set_option maxRecDepth 100000 in
theorem law_disp (hfl : l.stackTraces = false) (hM : kM p s m args meth c cL_law 15 ret "InvoicebridgeLaw") (hE : kE γ A s) (hX : kX γ A s L F H locs) (hO : Ob γ o M n L F) (hT : Xt M) (hn : n + 8 < 512) {b k y z w : Nat} (hy : y < 2097152) (hz9 : z < 2097152) (hw : w < 14) (hc : cells + 120 ≤ 600086) (hs : slots + 4700 ≤ 7301442) (hl : lv_has ls 15 [(7, .int (nI z)), (6, .int (nI y)), (5, .int (nI w)), (3, .int (nI k)), (2, .int (nI (nn M))), (1, .ref o), (0, .ref b)])
    (kq : ∀ (M : mM) (L : List Nat) (F : kF) (H : Heap) (locs : List Loc) (ls : Array Slot), kX γ A s L F H locs → Ob γ o M (n + 7) L F → Xt M → lv_has ls 15 [(3, .int (nI k)), (2, .int (nI (nn M))), (1, .ref o), (0, .ref b)] → W p l e room_1 s m args below meth c H locs (cells + 50) (slots + 4150) Q (F0 m 910 ls [])) : W p l e room_1 s m args below meth c H locs cells slots Q (F0 m 70 ls []) := by
  have hx := hM.1
  have hb := hM.2.1
  obtain ⟨nd, D, hI⟩ := hO.inv
  have hn20 := hI.1.2
  refine lv_iload hx hb dL_law_70 (lv_at hl 2 rfl) ?_
  refine lv_iconst (v := 3) hx hb dL_law_72 (by decide) ?_
  by_cases h3 : w < 3
  · refine lv_icmp_lt (tgt := 80) hx hb dL_law_73 (by decide) (fun _ => ?_) (fun h9 => absurd (show ((nI w) : Int32) < 3 from nI_lt (a := w) (b := 3) h3 (by decide)) h9)
    exact lc_send hfl hM hE hX hO hT hn hy hz9 hc hs (lv_sub hl [0, 1, 3, 4, 5, 6] rfl) kq
  · refine lv_icmp_lt (tgt := 80) hx hb dL_law_73 (by decide) (fun h9 => absurd h9 (show ¬ ((nI w) : Int32) < 3 from nI_nlt (a := w) (b := 3) (Nat.not_lt.mp h3) (by omega))) (fun _ => ?_)
    refine lv_iload_n hx hb dL_law_76 rfl (lv_at hl 4 rfl) ?_
    by_cases h00 : nn M = 0
    · refine lv_if_ne (tgt := 189) hx hb dL_law_77 (by decide) (fun h9 => absurd (show ((nI (nn M)) : Int32) = 0 from congrArg nI h00) h9) (fun _ => ?_)
      exact lc_send hfl hM hE hX hO hT hn hy hz9 hc hs (lv_sub hl [0, 1, 3, 4, 5, 6] rfl) kq
    · have ht : 0 < nn M := by omega
      refine lv_if_ne (tgt := 189) hx hb dL_law_77 (by decide) (fun _ => ?_) (fun h9 => absurd h9 (show ¬ ((nI (nn M)) : Int32) = 0 from fun h8 => h00 ((nI_eq (a := nn M) (b := 0) (by omega) (by decide)).mp h8)))
      refine lv_iload hx hb dL_law_189 (lv_at hl 2 rfl) ?_
      refine lv_iconst (v := 3) hx hb dL_law_191 (by decide) ?_
      by_cases h33 : w = 3
      · refine lv_icmp_ne (tgt := 266) hx hb dL_law_192 (by decide) (fun h9 => absurd (show ((nI w) : Int32) = 3 from congrArg nI h33) h9) (fun _ => ?_)
        exact lc_add hfl hM hE hX hO hT hn hy hz9 ht hc hs (lv_sub hl [0, 1, 3, 4, 5, 6] rfl) kq
      · refine lv_icmp_ne (tgt := 266) hx hb dL_law_192 (by decide) (fun _ => ?_) (fun h9 => absurd h9 (show ¬ ((nI w) : Int32) = 3 from fun h8 => h33 ((nI_eq (a := w) (b := 3) (by omega) (by decide)).mp h8)))
        refine lv_iload hx hb dL_law_266 (lv_at hl 2 rfl) ?_
        refine lv_bipush (v := 6) hx hb dL_law_268 (by decide) ?_
        by_cases h6 : w < 6
        · refine lv_icmp_ge (tgt := 358) hx hb dL_law_270 (by decide) (fun h9 => absurd h9 (show ¬ (6 : Int32) ≤ (nI w) from nI_ge (a := w) (b := 6) h6 (by decide))) (fun _ => ?_)
          exact lc_acc hfl hM hE hX hO hT hn hy hz9 ht hc hs (lv_sub hl [0, 1, 3, 4, 5, 6] rfl) kq
        · refine lv_icmp_ge (tgt := 358) hx hb dL_law_270 (by decide) (fun _ => ?_) (fun h9 => absurd (show (6 : Int32) ≤ (nI w) from nI_le (a := 6) (b := w) (Nat.not_lt.mp h6) (by omega)) h9)
          refine lv_iload hx hb dL_law_358 (lv_at hl 2 rfl) ?_
          refine lv_bipush (v := 6) hx hb dL_law_360 (by decide) ?_
          by_cases h66 : w = 6
          · refine lv_icmp_ne (tgt := 461) hx hb dL_law_362 (by decide) (fun h9 => absurd (show ((nI w) : Int32) = 6 from congrArg nI h66) h9) (fun _ => ?_)
            exact lc_cred hfl hM hE hX hO hT hn hy hz9 ht hc hs (lv_sub hl [0, 1, 3, 4, 5, 6] rfl) kq
          · refine lv_icmp_ne (tgt := 461) hx hb dL_law_362 (by decide) (fun _ => ?_) (fun h9 => absurd h9 (show ¬ ((nI w) : Int32) = 6 from fun h8 => h66 ((nI_eq (a := w) (b := 6) (by omega) (by decide)).mp h8)))
            refine lv_iload hx hb dL_law_461 (lv_at hl 2 rfl) ?_
            refine lv_bipush (v := 7) hx hb dL_law_463 (by decide) ?_
            by_cases h7 : w = 7
            · refine lv_icmp_ne (tgt := 549) hx hb dL_law_465 (by decide) (fun h9 => absurd (show ((nI w) : Int32) = 7 from congrArg nI h7) h9) (fun _ => ?_)
              exact lc_disp hfl hM hE hX hO hT hn hy hz9 ht hc hs (lv_sub hl [0, 1, 3, 4, 5, 6] rfl) kq
            · refine lv_icmp_ne (tgt := 549) hx hb dL_law_465 (by decide) (fun _ => ?_) (fun h9 => absurd h9 (show ¬ ((nI w) : Int32) = 7 from fun h8 => h7 ((nI_eq (a := w) (b := 7) (by omega) (by decide)).mp h8)))
              refine lv_iload hx hb dL_law_549 (lv_at hl 2 rfl) ?_
              refine lv_bipush (v := 10) hx hb dL_law_551 (by decide) ?_
              by_cases h10 : w < 10
              · refine lv_icmp_ge (tgt := 682) hx hb dL_law_553 (by decide) (fun h9 => absurd h9 (show ¬ (10 : Int32) ≤ (nI w) from nI_ge (a := w) (b := 10) h10 (by decide))) (fun _ => ?_)
                exact lc_sell hfl hM hE hX hO hT hn hy hz9 ht hc hs (lv_sub hl [0, 1, 3, 4, 5, 6] rfl) kq
              · refine lv_icmp_ge (tgt := 682) hx hb dL_law_553 (by decide) (fun _ => ?_) (fun h9 => absurd (show (10 : Int32) ≤ (nI w) from nI_le (a := 10) (b := w) (Nat.not_lt.mp h10) (by omega)) h9)
                refine lv_iload hx hb dL_law_682 (lv_at hl 2 rfl) ?_
                refine lv_bipush (v := 13) hx hb dL_law_684 (by decide) ?_
                by_cases h13 : w < 13
                · refine lv_icmp_ge (tgt := 877) hx hb dL_law_686 (by decide) (fun h9 => absurd h9 (show ¬ (13 : Int32) ≤ (nI w) from nI_ge (a := w) (b := 13) h13 (by decide))) (fun _ => ?_)
                  exact lc_pay hfl hM hE hX hO hT hn hy hz9 ht hc hs (lv_sub hl [0, 1, 2, 3, 4, 5, 6] rfl) kq
                · refine lv_icmp_ge (tgt := 877) hx hb dL_law_686 (by decide) (fun _ => ?_) (fun h9 => absurd (show (13 : Int32) ≤ (nI w) from nI_le (a := 13) (b := w) (Nat.not_lt.mp h13) (by omega)) h9)
                  exact lc_pass hfl hM hE hX hO hT hn hy hz9 ht hc hs (lv_sub hl [0, 1, 3, 4, 5, 6] rfl) kq
set_option maxHeartbeats 8000000 in
set_option maxRecDepth 100000 in
theorem law_loop (hfl : l.stackTraces = false) (hM : kM p s m args meth c cL_law 15 ret "InvoicebridgeLaw") (hE : kE γ A s) {b N : Nat} {xs : Nat → Int32} (hS : lX28 b N xs A s)
    (fin : ∀ (H : Heap) (locs : List Loc) (ls : Array Slot) (cells slots : Nat), (∀ z ∈ locs, A z.base) → cells ≤ 600086 → slots ≤ 7301442 → W p l e room_1 s m args below meth c H locs cells slots Q (F0 m 1054 ls [])) :
    ∀ (j k : Nat), k + j = 70 → ∀ (M : mM) (n : Nat) (L : List Nat) (F : kF) (H : Heap) (locs : List Loc) (ls : Array Slot) (cells slots : Nat), kX γ A s L F H locs → Ob γ o M n L F → Xt M → n ≤ 7 * k → lv_has ls 15 [(3, .int (nI k)), (2, .int (nI (nn M))), (1, .ref o), (0, .ref b)] → cells ≤ 9901 + 130 * k + 1242 * ((k + 15) / 16) → slots ≤ 1299688 + 4650 * k + 169940 * ((k + 15) / 16) → W p l e room_1 s m args below meth c H locs cells slots Q (F0 m 20 ls []) := by
  have hx := hM.1
  have hb := hM.2.1
  intro j
  induction j with
  | zero =>
    intro k hk M n L F H locs ls cells slots hX hO hT hn hl hc hs
    have e : k = 70 := by omega
    subst e
    refine lv_iload_n hx hb dL_law_20 rfl (lv_at hl 0 rfl) ?_
    refine lv_bipush (v := 70) hx hb dL_law_21 (by decide) ?_
    refine lv_icmp_ge (tgt := 1054) hx hb dL_law_23 (by decide) (fun _ => ?_) (fun h9 => absurd (show (70 : Int32) ≤ nI 70 from by decide) h9)
    exact fin H locs ls cells slots (fun z hz => hX.2.2.2.2 z hz) (by omega) (by omega)
  | succ j ih =>
    intro k hk M n L F H locs ls cells slots hX hO hT hn hl hc hs
    refine lv_iload_n hx hb dL_law_20 rfl (lv_at hl 0 rfl) ?_
    refine lv_bipush (v := 70) hx hb dL_law_21 (by decide) ?_
    refine lv_icmp_ge (tgt := 1054) hx hb dL_law_23 (by decide) (fun h9 => absurd h9 (nI_ge (a := k) (b := 70) (by omega) (by decide))) (fun _ => ?_)
    refine law_x (lv := []) hM hS hX (by omega) (lv_at hl 3 rfl) (lv_at hl 0 rfl) (fun q hq => ?_)
    refine lv_istore (lv' := [(4, .int (nI q)), (3, .int (nI k)), (2, .int (nI (nn M))), (1, .ref o), (0, .ref b)]) hx hb dL_law_47 hl (by decide) rfl (fun ls hl => ?_)
    refine lv_iload hx hb dL_law_49 (lv_at hl 0 rfl) ?_
    refine lv_bipush (v := 14) hx hb dL_law_51 (by decide) ?_
    refine lv_irem hx hb dL_law_53 (by decide) ?_
    refine lv_is (y := (nI (q % 14))) (pk_rem (a := q) (d := 14) (by omega) (by decide) (by decide)) ?_
    refine lv_istore (lv' := [(5, .int (nI (q % 14))), (4, .int (nI q)), (3, .int (nI k)), (2, .int (nI (nn M))), (1, .ref o), (0, .ref b)]) hx hb dL_law_54 hl (by decide) rfl (fun ls hl => ?_)
    refine lv_iload hx hb dL_law_56 (lv_at hl 1 rfl) ?_
    refine lv_bipush (v := 14) hx hb dL_law_58 (by decide) ?_
    refine lv_idiv hx hb dL_law_60 (by decide) ?_
    refine lv_is (y := (nI (q / 14))) (pk_div (a := q) (d := 14) (by omega) (by decide) (by decide)) ?_
    refine lv_istore (lv' := [(6, .int (nI (q / 14))), (5, .int (nI (q % 14))), (4, .int (nI q)), (3, .int (nI k)), (2, .int (nI (nn M))), (1, .ref o), (0, .ref b)]) hx hb dL_law_61 hl (by decide) rfl (fun ls hl => ?_)
    refine lv_iload hx hb dL_law_63 (lv_at hl 0 rfl) ?_
    refine lv_bipush (v := 20) hx hb dL_law_65 (by decide) ?_
    refine lv_idiv hx hb dL_law_67 (by decide) ?_
    refine lv_is (y := (nI ((q / 14) / 20))) (pk_div (a := (q / 14)) (d := 20) (by omega) (by decide) (by decide)) ?_
    refine lv_istore (lv' := [(7, .int (nI ((q / 14) / 20))), (6, .int (nI (q / 14))), (5, .int (nI (q % 14))), (4, .int (nI q)), (3, .int (nI k)), (2, .int (nI (nn M))), (1, .ref o), (0, .ref b)]) hx hb dL_law_68 hl (by decide) rfl (fun ls hl => ?_)
    refine law_disp hfl hM hE hX hO hT (by omega) (y := q / 14) (z := q / 14 / 20) (w := q % 14) (b := b) (k := k) (by omega) (by omega) (by omega) (by omega) (by omega) (lv_sub hl [0, 1, 2, 4, 5, 6, 7] rfl) (fun M L F H locs ls hX hO hT hl => ?_)
    refine lt_all hfl hM hE hX hO hT (by omega) (by omega) (by split <;> omega) (by split <;> omega) hl (fun L F H locs ls hX hO hl => ?_)
    refine lv_iinc (v := nI (k + 1)) (lv' := [(3, .int (nI (k + 1))), (2, .int (nI (nn M))), (1, .ref o), (0, .ref b)]) hx hb dL_law_1048 hl (k := 0) rfl (nI_1 k) (by decide) rfl (fun ls hl => ?_)
    refine lv_goto (tgt := 20) hx hb dL_law_1051 (by decide) ?_
    exact ih (k + 1) (by omega) M (n + 7) L F H locs ls _ _ hX hO hT (by omega) hl (by split <;> omega) (by split <;> omega)
end LE
