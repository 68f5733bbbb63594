/-! about, taxes, cash: all that they compare is so -/
set_option maxHeartbeats 4000000 in
set_option maxRecDepth 100000 in
theorem c_L_about (l : Launch) (hfl : l.stackTraces = false) (γ : kG) (L : List Nat) (F : kF) (o n : Nat) (M : mM) (hO : Ob γ o M n L F) (i1 st ho co ow pa : Int32) (hh : ((aboutM M i1 0).1 = st ∧ (aboutM M i1 0).2 24 0 = 0) ∧ ((aboutM M i1 3).1 = ho ∧ (aboutM M i1 3).2 24 0 = 0) ∧ ((aboutM M i1 4).1 = co ∧ (aboutM M i1 4).2 24 0 = 0) ∧ ((aboutM M i1 5).1 = ow ∧ (aboutM M i1 5).2 24 0 = 0) ∧ ((aboutM M i1 6).1 = pa ∧ (aboutM M i1 6).2 24 0 = 0)) : kC l yL_about cL_about 7 (some .boolean) (kRm 6 10 60) γ L F [.ref o, .int i1, .int st, .int ho, .int co, .int ow, .int pa] (kI fun r L1 F1 => r = 1 ∧ Ob γ o M n L1 F1) := by
  refine kC_of (by decide +kernel) (Nat.le_of_ble_eq_true rfl) ?_
  intro p e s m args below meth c sz ls hargs hsz hM hin hE hX hl
  have hx := hM.1
  have hb := hM.2.1
  have hl : lv_has ls 7 [(0, .ref o), (1, .int i1), (2, .int st), (3, .int ho), (4, .int co), (5, .int ow), (6, .int pa)] := hl
  refine lv_aload_n hx hb dL_about_0 rfl (lv_at hl 0 rfl) ?_
  refine lv_iload_n hx hb dL_about_1 rfl (lv_at hl 1 rfl) ?_
  refine lv_iconst (v := 0) hx hb dL_about_2 (by decide) ?_
  refine O_about hfl hM hE hX hO hl hh.1.1 hh.1.2 (by decide) (by decide) ⟨Nat.le_of_ble_eq_true rfl, Nat.le_of_ble_eq_true rfl⟩ dL_about_3 (fun L F H locs hX hO => ?_)
  refine lv_iload_n hx hb dL_about_6 rfl (lv_at hl 2 rfl) ?_
  refine lv_icmp_ne (tgt := 58) hx hb dL_about_7 (by decide) (fun h9 => absurd (show (st : Int32) = st from rfl) h9) (fun _ => ?_)
  refine lv_aload_n hx hb dL_about_10 rfl (lv_at hl 0 rfl) ?_
  refine lv_iload_n hx hb dL_about_11 rfl (lv_at hl 1 rfl) ?_
  refine lv_iconst (v := 3) hx hb dL_about_12 (by decide) ?_
  refine O_about hfl hM hE hX hO hl hh.2.1.1 hh.2.1.2 (by decide) (by decide) ⟨Nat.le_of_ble_eq_true rfl, Nat.le_of_ble_eq_true rfl⟩ dL_about_13 (fun L F H locs hX hO => ?_)
  refine lv_iload_n hx hb dL_about_16 rfl (lv_at hl 3 rfl) ?_
  refine lv_icmp_ne (tgt := 58) hx hb dL_about_17 (by decide) (fun h9 => absurd (show (ho : Int32) = ho from rfl) h9) (fun _ => ?_)
  refine lv_aload_n hx hb dL_about_20 rfl (lv_at hl 0 rfl) ?_
  refine lv_iload_n hx hb dL_about_21 rfl (lv_at hl 1 rfl) ?_
  refine lv_iconst (v := 4) hx hb dL_about_22 (by decide) ?_
  refine O_about hfl hM hE hX hO hl hh.2.2.1.1 hh.2.2.1.2 (by decide) (by decide) ⟨Nat.le_of_ble_eq_true rfl, Nat.le_of_ble_eq_true rfl⟩ dL_about_23 (fun L F H locs hX hO => ?_)
  refine lv_iload hx hb dL_about_26 (lv_at hl 4 rfl) ?_
  refine lv_icmp_ne (tgt := 58) hx hb dL_about_28 (by decide) (fun h9 => absurd (show (co : Int32) = co from rfl) h9) (fun _ => ?_)
  refine lv_aload_n hx hb dL_about_31 rfl (lv_at hl 0 rfl) ?_
  refine lv_iload_n hx hb dL_about_32 rfl (lv_at hl 1 rfl) ?_
  refine lv_iconst (v := 5) hx hb dL_about_33 (by decide) ?_
  refine O_about hfl hM hE hX hO hl hh.2.2.2.1.1 hh.2.2.2.1.2 (by decide) (by decide) ⟨Nat.le_of_ble_eq_true rfl, Nat.le_of_ble_eq_true rfl⟩ dL_about_34 (fun L F H locs hX hO => ?_)
  refine lv_iload hx hb dL_about_37 (lv_at hl 5 rfl) ?_
  refine lv_icmp_ne (tgt := 58) hx hb dL_about_39 (by decide) (fun h9 => absurd (show (ow : Int32) = ow from rfl) h9) (fun _ => ?_)
  refine lv_aload_n hx hb dL_about_42 rfl (lv_at hl 0 rfl) ?_
  refine lv_iload_n hx hb dL_about_43 rfl (lv_at hl 1 rfl) ?_
  refine lv_bipush (v := 6) hx hb dL_about_44 (by decide) ?_
  refine O_about hfl hM hE hX hO hl hh.2.2.2.2.1 hh.2.2.2.2.2 (by decide) (by decide) ⟨Nat.le_of_ble_eq_true rfl, Nat.le_of_ble_eq_true rfl⟩ dL_about_46 (fun L F H locs hX hO => ?_)
  refine lv_iload hx hb dL_about_49 (lv_at hl 6 rfl) ?_
  refine lv_icmp_ne (tgt := 58) hx hb dL_about_51 (by decide) (fun h9 => absurd (show (pa : Int32) = pa from rfl) h9) (fun _ => ?_)
  refine lv_iconst (v := 1) hx hb dL_about_54 (by decide) ?_
  refine lv_goto (tgt := 59) hx hb dL_about_55 (by decide) ?_
  exact k_zret hM rfl hsz hX ⟨1, rfl, rfl, hO⟩ (Nat.le_of_ble_eq_true rfl) (Nat.le_of_ble_eq_true rfl) dL_about_59
set_option maxHeartbeats 4000000 in
set_option maxRecDepth 100000 in
theorem c_L_taxes (l : Launch) (hfl : l.stackTraces = false) (γ : kG) (L : List Nat) (F : kF) (o n : Nat) (M : mM) (hO : Ob γ o M n L F) (i1 m1 du ca : Int32) (hh : ((taxM M i1 m1).1 = du ∧ (taxM M i1 m1).2 24 0 = 0) ∧ ((carriedM M i1 m1).1 = ca ∧ (carriedM M i1 m1).2 24 0 = 0)) : kC l yL_taxes cL_taxes 5 (some .boolean) (kRm 8 6 36) γ L F [.ref o, .int i1, .int m1, .int du, .int ca] (kI fun r L1 F1 => r = 1 ∧ Ob γ o M n L1 F1) := by
  refine kC_of (by decide +kernel) (Nat.le_of_ble_eq_true rfl) ?_
  intro p e s m args below meth c sz ls hargs hsz hM hin hE hX hl
  have hx := hM.1
  have hb := hM.2.1
  have hl : lv_has ls 5 [(0, .ref o), (1, .int i1), (2, .int m1), (3, .int du), (4, .int ca)] := hl
  refine lv_aload_n hx hb dL_taxes_0 rfl (lv_at hl 0 rfl) ?_
  refine lv_iload_n hx hb dL_taxes_1 rfl (lv_at hl 1 rfl) ?_
  refine lv_iload_n hx hb dL_taxes_2 rfl (lv_at hl 2 rfl) ?_
  refine O_tax hfl hM hE hX hO hl hh.1.1 hh.1.2 (by decide) (by decide) ⟨Nat.le_of_ble_eq_true rfl, Nat.le_of_ble_eq_true rfl⟩ dL_taxes_3 (fun L F H locs hX hO => ?_)
  refine lv_iload_n hx hb dL_taxes_6 rfl (lv_at hl 3 rfl) ?_
  refine lv_icmp_ne (tgt := 25) hx hb dL_taxes_7 (by decide) (fun h9 => absurd (show (du : Int32) = du from rfl) h9) (fun _ => ?_)
  refine lv_aload_n hx hb dL_taxes_10 rfl (lv_at hl 0 rfl) ?_
  refine lv_iload_n hx hb dL_taxes_11 rfl (lv_at hl 1 rfl) ?_
  refine lv_iload_n hx hb dL_taxes_12 rfl (lv_at hl 2 rfl) ?_
  refine O_carried hfl hM hE hX hO hl hh.2.1 hh.2.2 (by decide) (by decide) ⟨Nat.le_of_ble_eq_true rfl, Nat.le_of_ble_eq_true rfl⟩ dL_taxes_13 (fun L F H locs hX hO => ?_)
  refine lv_iload hx hb dL_taxes_16 (lv_at hl 4 rfl) ?_
  refine lv_icmp_ne (tgt := 25) hx hb dL_taxes_18 (by decide) (fun h9 => absurd (show (ca : Int32) = ca from rfl) h9) (fun _ => ?_)
  refine lv_iconst (v := 1) hx hb dL_taxes_21 (by decide) ?_
  refine lv_goto (tgt := 26) hx hb dL_taxes_22 (by decide) ?_
  exact k_zret hM rfl hsz hX ⟨1, rfl, rfl, hO⟩ (Nat.le_of_ble_eq_true rfl) (Nat.le_of_ble_eq_true rfl) dL_taxes_26
set_option maxHeartbeats 4000000 in
set_option maxRecDepth 100000 in
theorem c_L_cash (l : Launch) (hfl : l.stackTraces = false) (γ : kG) (L : List Nat) (F : kF) (o n : Nat) (M : mM) (hO : Ob γ o M n L F) (i1 du : Int32) (hh : ((cashM M i1).1 = du ∧ (cashM M i1).2 24 0 = 0) ∧ ((cashAnewM M i1).1 = du ∧ (cashAnewM M i1).2 24 0 = 0) ∧ n < 512) : kC l yL_cash cL_cash 3 (some .boolean) (kRm 5 2 12) γ L F [.ref o, .int i1, .int du] (kI fun r L1 F1 => r = 1 ∧ Ob γ o M n L1 F1) := by
  refine kC_of (by decide +kernel) (Nat.le_of_ble_eq_true rfl) ?_
  intro p e s m args below meth c sz ls hargs hsz hM hin hE hX hl
  have hx := hM.1
  have hb := hM.2.1
  have hl : lv_has ls 3 [(0, .ref o), (1, .int i1), (2, .int du)] := hl
  refine lv_aload_n hx hb dL_cash_0 rfl (lv_at hl 0 rfl) ?_
  refine lv_iload_n hx hb dL_cash_1 rfl (lv_at hl 1 rfl) ?_
  refine O_cash hfl hM hE hX hO hl hh.1.1 hh.1.2 (by decide) (by decide) ⟨Nat.le_of_ble_eq_true rfl, Nat.le_of_ble_eq_true rfl⟩ dL_cash_2 (fun L F H locs hX hO => ?_)
  refine lv_iload_n hx hb dL_cash_5 rfl (lv_at hl 2 rfl) ?_
  refine lv_icmp_ne (tgt := 22) hx hb dL_cash_6 (by decide) (fun h9 => absurd (show (du : Int32) = du from rfl) h9) (fun _ => ?_)
  refine lv_aload_n hx hb dL_cash_9 rfl (lv_at hl 0 rfl) ?_
  refine lv_iload_n hx hb dL_cash_10 rfl (lv_at hl 1 rfl) ?_
  refine O_cashAnew hfl hM hE hX hO hl hh.2.2 hh.2.1.1 hh.2.1.2 (by decide) (by decide) ⟨Nat.le_of_ble_eq_true rfl, Nat.le_of_ble_eq_true rfl⟩ dL_cash_11 (fun L F H locs hX hO => ?_)
  refine lv_iload_n hx hb dL_cash_14 rfl (lv_at hl 2 rfl) ?_
  refine lv_icmp_ne (tgt := 22) hx hb dL_cash_15 (by decide) (fun h9 => absurd (show (du : Int32) = du from rfl) h9) (fun _ => ?_)
  refine lv_iconst (v := 1) hx hb dL_cash_18 (by decide) ?_
  refine lv_goto (tgt := 23) hx hb dL_cash_19 (by decide) ?_
  exact k_zret hM rfl hsz hX ⟨1, rfl, rfl, hO⟩ (Nat.le_of_ble_eq_true rfl) (Nat.le_of_ble_eq_true rfl) dL_cash_23
/-! types: signs out of a long -/
def sgn (told : Int64) (k : Nat) : Int32 := ((told.toUInt64 >>> ((nI (8 * k)).toInt64.toUInt64 &&& Int64.toUInt64 63)).toInt64 &&& 255).toInt32
def tyS (M : mM) (told : Int64) : Nat → mM
  | 0 => mset M 22 0 0
  | k + 1 => mset (mset (tyS M told k) 23 k (sgn told k)) 22 0 (nI (k + 1))
theorem tyS_z {M : mM} {told : Int64} (h : M 24 0 = 0) : ∀ k, tyS M told k 24 0 = 0
  | 0 => h
  | k + 1 => tyS_z h k
theorem tyS_n (M : mM) (told : Int64) : ∀ k, tyS M told k 22 0 = nI k
  | 0 => mset_s _ _ _ _
  | _ + 1 => mset_s _ _ _ _
theorem ty_step {M : mM} {told : Int64} {k : Nat} (h : M 24 0 = 0) (hk : k < 10) (hs : 32 ≤ sgn told k ∧ sgn told k ≤ 126) : typeM (tyS M told k) (sgn told k) = (nI (k + 1), tyS M told (k + 1)) := by
  have hn := tyS_n M told k
  have hd : dd (tyS M told k) = k := by
    unfold dd
    rw [hn]
    exact nI_clamp (by omega)
  rw [typeM, if_pos hs, if_neg (show ¬ tyS M told k 22 0 = 10 from fun e => by
    rw [hn] at e
    have := (nI_eq (a := k) (b := 10) (by omega) (by decide)).mp e
    omega), hd, hn, mset_24 (tyS_z h k), nI_1]
  rfl
section TY
variable {p : Program} {l : Launch} {e : Env} {s : State} {m : MethodId} {args : Array Value} {below : List Frame} {meth : Method} {c : Code} {Q : State → Prop}
variable {ret : Option FieldType} {γ : kG} {A : Nat → Prop} {o n : Nat} {M : mM} {told : Int64} {n9 : Nat}
set_option maxHeartbeats 4000000 in
theorem types_loop (hfl : l.stackTraces = false) (hM : kM p s m args meth c cL_types 5 ret "InvoicebridgeLaw") (hE : kE γ A s) (hz : M 24 0 = 0) (h9 : n9 ≤ 10) (hs : ∀ k, k < n9 → 32 ≤ sgn told k ∧ sgn told k ≤ 126)
    (kk : ∀ (L : List Nat) (F : kF) (H : Heap) (locs : List Loc) (ls : Array Slot), kX γ A s L F H locs → Ob γ o (tyS M told n9) (n + n9 + 1) L F → lv_has ls 5 [(4, .int (nI n9)), (0, .ref o), (1, .long told), (3, .int (nI n9))] → W p l e (kRm 6 10 60) s m args below meth c H locs 10 60 Q (F0 m 46 ls [])) :
    ∀ (j k : Nat), k + j = n9 → ∀ (L : List Nat) (F : kF) (H : Heap) (locs : List Loc) (ls : Array Slot) (cells slots : Nat), kX γ A s L F H locs → Ob γ o (tyS M told k) (n + k + 1) L F → lv_has ls 5 [(4, .int (nI k)), (0, .ref o), (1, .long told), (3, .int (nI n9))] → cells + j ≤ 10 → slots + 6 * j ≤ 60 → W p l e (kRm 6 10 60) s m args below meth c H locs cells slots Q (F0 m 8 ls []) := by
  have hx := hM.1
  have hb := hM.2.1
  intro j
  induction j with
  | zero =>
    intro k hk L F H locs ls cells slots hX hO hl hc hc2
    have e : k = n9 := by omega
    subst e
    refine lv_iload hx hb dL_types_8 (lv_at hl 0 rfl) ?_
    refine lv_iload_n hx hb dL_types_10 rfl (lv_at hl 3 rfl) ?_
    refine lv_icmp_ge (tgt := 46) hx hb dL_types_11 (by decide) (fun _ => ?_) (fun h => absurd (Int32.le_refl _) h)
    exact W.widen (k := 10) (n := 60) (by omega) (by omega) (kk L F H locs ls hX hO hl)
  | succ j ih =>
    intro k hk L F H locs ls cells slots hX hO hl hc hc2
    refine lv_iload hx hb dL_types_8 (lv_at hl 0 rfl) ?_
    refine lv_iload_n hx hb dL_types_10 rfl (lv_at hl 3 rfl) ?_
    refine lv_icmp_ge (tgt := 46) hx hb dL_types_11 (by decide) (fun h => absurd h (nI_ge (by omega) (by omega))) (fun _ => ?_)
    refine lv_aload_n hx hb dL_types_14 rfl (lv_at hl 1 rfl) ?_
    refine lv_lload_n hx hb dL_types_15 rfl (lv_at hl 2 rfl) ?_
    refine lv_bipush (v := nI 8) hx hb dL_types_16 (by decide) ?_
    refine lv_iload hx hb dL_types_18 (lv_at hl 0 rfl) ?_
    refine lv_imul hx hb dL_types_20 ?_
    rw [pk_mul]
    refine lv_lushr hx hb dL_types_21 rfl ?_
    refine lv_ldc2 hx hb hM.2.2.2.1 (hM.2.2.2.2.1 _ k_1007) dL_types_22 ?_
    refine lv_land hx hb dL_types_25 ?_
    refine lv_l2i (v := sgn told k) hx hb dL_types_26 rfl ?_
    refine O_type hfl hM hE hX hO hl (ty_step hz (by omega) (hs k (by omega))) (tyS_z hz (k + 1)) (by decide) (by decide) ⟨by show cells + 1 ≤ 10; omega, by show slots + 6 ≤ 60; omega⟩ dL_types_27 (fun L F H locs hX hO => ?_)
    refine lv_iload hx hb dL_types_30 (lv_at hl 0 rfl) ?_
    refine lv_iconst (v := 1) hx hb dL_types_32 (by decide) ?_
    refine lv_iadd hx hb dL_types_33 ?_
    rw [nI_1]
    refine lv_icmp_eq (tgt := 40) hx hb dL_types_34 (by decide) (fun _ => ?_) (fun h => absurd rfl h)
    refine lv_iinc (v := nI (k + 1)) (lv' := [(4, .int (nI (k + 1))), (0, .ref o), (1, .long told), (3, .int (nI n9))]) hx hb dL_types_40 hl (k := 0) rfl (nI_1 k) (by decide) rfl (fun ls hl => ?_)
    refine lv_goto (tgt := 8) hx hb dL_types_43 (by decide) ?_
    exact ih (k + 1) (by omega) L F H locs ls _ _ hX (hO.up (by omega)) hl (by omega) (by omega)
end TY
set_option maxHeartbeats 4000000 in
theorem c_L_types (l : Launch) (hfl : l.stackTraces = false) (γ : kG) (L : List Nat) (F : kF) (o n : Nat) (M : mM) (hO : Ob γ o M n L F) (told : Int64) (n9 : Nat) (h9 : n9 ≤ 10) (hs : ∀ k, k < n9 → 32 ≤ sgn told k ∧ sgn told k ≤ 126) : kC l yL_types cL_types 5 (some .int) (kRm 6 10 60) γ L F [.ref o, .long told, .int (nI n9)] (kI fun r L1 F1 => r = faultM (mset (tyS M told n9) 24 0 0) ∧ Ob γ o (tyS M told n9) (n + n9 + 1) L1 F1) := by
  refine kC_of (by decide +kernel) (Nat.le_of_ble_eq_true rfl) ?_
  intro p e s m args below meth c sz ls hargs hsz hM hin hE hX hl
  have hx := hM.1
  have hb := hM.2.1
  have hz := hO.z
  have hl : lv_has ls 5 [(0, .ref o), (1, .long told), (3, .int (nI n9))] := hl
  refine lv_aload_n hx hb dL_types_0 rfl (lv_at hl 0 rfl) ?_
  refine O_clear hM hE hX hO hl (show clearM M = (M 22 0, tyS M told 0) by rw [clearM, mset_24 hz]; rfl) (by decide) (by decide) (by decide) dL_types_1 (fun L F H locs hX hO => ?_)
  refine lv_pop hx hb dL_types_4 rfl ?_
  refine lv_iconst (v := nI 0) hx hb dL_types_5 (by decide) ?_
  refine lv_istore (lv' := [(4, .int (nI 0)), (0, .ref o), (1, .long told), (3, .int (nI n9))]) hx hb dL_types_6 hl (by decide) rfl (fun ls hl => ?_)
  refine types_loop hfl hM hE hz h9 hs (fun L F H locs ls hX hO hl => ?_) n9 0 (by omega) L F H locs ls _ _ hX hO hl (by omega) (by omega)
  refine lv_aload_n hx hb dL_types_46 rfl (lv_at hl 1 rfl) ?_
  refine O_fault hM hE hX hO hl rfl (by decide) (by decide) (by decide) dL_types_47 (fun L F H locs hX hO => ?_)
  exact k_iret hM hsz hX ⟨_, rfl, rfl, hO⟩ (by decide) (by decide) dL_types_50
