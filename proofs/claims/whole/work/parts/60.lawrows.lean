/-! the law's body: rows for its script, its calls, its comparisons -/
def b01 (v : Int32) : Int32 := if v = 0 then 0 else 1
theorem b01_or (v : Int32) : b01 v = 0 ∨ b01 v = 1 := by
  unfold b01
  split
  · exact Or.inl rfl
  · exact Or.inr rfl
def lX (b N : Nat) (xs : Nat → Int32) (A : Nat → Prop) (s : State) : Prop := va_X b N xs s s.heap ∧ b < s.heap.size ∧ ¬ A b ∧ N ≤ 3072
theorem lg_cmp_self (x : Int64) : lg_cmp x x = 0 := by
  unfold lg_cmp
  rw [if_neg (fun h => by rw [gt_iff_lt, Int64.lt_iff_toInt_lt] at h; exact absurd h (Int.lt_irrefl _)), if_pos rfl]
section LR
variable {p : Program} {l : Launch} {e : Env} {s : State} {m : MethodId} {args : Array Value} {below : List Frame} {meth : Method} {c : Code} {H : Heap} {locs : List Loc} {cells slots : Nat} {Q : State → Prop} {R : Room}
variable {ret : Option FieldType} {γ : kG} {A : Nat → Prop} {L : List Nat} {F : kF} {pc : Nat} {ls : Array Slot} {rest st0 : List Value} {own : String} {mc ms : Nat} {a0 : Array Value}
theorem L_arg (hM : kM p s m args meth c cL_law 7 ret own) {b N : Nat} {xs : Nat → Int32} (hS : lX b N xs A s) (hX : kX γ A s L F H locs) {i j : Nat} {n : Int} (hn : Int32.ofInt n = nI j) (hij : i + j < N) (h0 : ls[0]? = some (.val (.ref b))) (h4 : ls[4]? = some (.val (.int (nI i))))
    (d0 : decode cL_law pc = .ok (.aload_n 0, 1)) (d1 : decode cL_law (pc + 1) = .ok (.iload 4, 2)) (d3 : decode cL_law (pc + 3) = .ok (.iconst n, 1)) (d4 : decode cL_law (pc + 4) = .ok (.iadd, 1)) (d5 : decode cL_law (pc + 5) = .ok (.iaload, 1))
    (kk : W p l e R s m args below meth c H locs cells slots Q (F0 m (pc + 6) ls (.int (xs (i + j)) :: rest))) : W p l e R s m args below meth c H locs cells slots Q (F0 m pc ls rest) := by
  have hx := hM.1
  have hb := hM.2.1
  have hN := hS.2.2.2
  refine lv_aload_n hx hb d0 rfl h0 ?_
  refine lv_iload hx hb d1 h4 ?_
  refine lv_iconst (v := nI j) hx hb d3 hn ?_
  refine lv_iadd hx hb d4 ?_
  rw [nI_add]
  refine va_sld hx hb hS.1 hS.2.1 hS.2.2.1 hX.2.2 (vp_in_nI hij (by omega)) d5 ?_
  rw [nI_clamp (by omega)]
  exact kk
theorem L_bool (hM : kM p s m args meth c cL_law 7 ret own) {v : Int32} (d0 : decode cL_law pc = .ok (.ifCond .eq 7, 3)) (d3 : decode cL_law (pc + 3) = .ok (.iconst 1, 1)) (d4 : decode cL_law (pc + 4) = .ok (.goto 4, 3)) (d7 : decode cL_law (pc + 7) = .ok (.iconst 0, 1))
    (kk : W p l e R s m args below meth c H locs cells slots Q (F0 m (pc + 8) ls (.int (b01 v) :: rest))) : W p l e R s m args below meth c H locs cells slots Q (F0 m pc ls (.int v :: rest)) := by
  have hx := hM.1
  have hb := hM.2.1
  refine lv_if_eq (tgt := pc + 7) hx hb d0 (by omega) (fun h => ?_) (fun h => ?_)
  · refine lv_iconst (v := 0) hx hb d7 (by decide) ?_
    rw [show b01 v = 0 from if_pos h] at kk
    exact kk
  · refine lv_iconst (v := 1) hx hb d3 (by decide) ?_
    refine lv_goto (tgt := pc + 8) hx hb d4 (by omega) ?_
    rw [show b01 v = 1 from if_neg h] at kk
    exact kk
theorem kX_w {Lc Lr : List Nat} {q : Nat} (hX : kX γ A s (Lc ++ (Lr ++ [q])) F H locs) : kX γ A s ((Lc ++ [q]) ++ Lr) F H locs :=
  kX_perm hX (by rw [List.append_assoc]; exact List.Perm.append_left Lc List.perm_append_comm)
theorem kX_w' {Lc Lr : List Nat} {q : Nat} (hX : kX γ A s ((Lc ++ [q]) ++ Lr) F H locs) : kX γ A s (Lc ++ (Lr ++ [q])) F H locs :=
  kX_perm hX (by rw [List.append_assoc]; exact List.Perm.append_left Lc List.perm_append_comm)
theorem kX_r {Lc Lr : List Nat} {q : Nat} (hX : kX γ A s (Lc ++ (Lr ++ [q])) F H locs) : kX γ A s (Lr ++ (Lc ++ [q])) F H locs :=
  kX_perm hX (by rw [← List.append_assoc, ← List.append_assoc]; exact List.Perm.append_right [q] List.perm_append_comm)
/-- a wrapper is called -/
theorem L_wrap {Lc Lr : List Nat} {o q om nd : Nat} {MC : Int32 × mM} {adm : Nat → Nat} {M : mM} (hr : va_Run p l e R s m args below meth c H locs cells slots mc ms (F0 m pc ls st0) rest (kQ γ (Lc ++ [q]) H.size (kI fun k L1 F1 => Wo γ o q nd MC k L1 F1) a0) (kA (Lc ++ [q]) H.size)) (hE : kE γ A s) (hX : kX γ A s (Lc ++ (Lr ++ [q])) F H locs) (hRm : RepM γ Lr F om adm M)
    (kk : ∀ (k : Int32) (Lc1 : List Nat) (F1 : kF) (H1 : Heap) (locs1 : List Loc) (ad1 : cAd) (tg1 : cTg) (nd1 : Nat) (D1 : cD) (f1 : Nat → Int64), kX γ A s (Lc1 ++ (Lr ++ [q])) F1 H1 locs1 → RepC γ Lc1 F1 o ad1 tg1 MC.2 nd1 D1 → Inv MC.2 nd1 D1 → nd1 ≤ nd + 1 → MC.2 24 0 = k → F1 q = oL γ f1 → (k = 0 → f1 0 = MC.1.toInt64) → RepM γ Lr F1 om adm M → W p l e R s m args below meth c H1 locs1 (cells + mc) (slots + ms) Q (F0 m (pc + 3) ls (.int k :: rest))) : W p l e R s m args below meth c H locs cells slots Q (F0 m pc ls st0) := by
  refine k_goF hr hE (kX_w hX) (fun v L1 F1 H1 locs1 hv hX1 => ?_)
  obtain ⟨k, rfl, Lc1, ad1, tg1, nd1, D1, f1, rfl, hq, hR, hI, hn, hk, hf⟩ := hv
  have hap : ∀ b ∈ Lc1 ++ [q], b ∉ Lr := fun b hb => kX_apart hX1 hb
  refine kk k Lc1 (kMix Lr F F1) H1 locs1 ad1 tg1 nd1 D1 f1 (kX_w' hX1) (hR.mix fun b hb => hap b (List.mem_append_left _ hb)) hI hn hk ?_ hf (hRm.eqF fun b hb => kMix_in hb)
  rw [kMix_out (hap q (List.mem_append_right _ (List.mem_singleton.mpr rfl)))]
  exact hq
/-- the reference is called -/
theorem L_ref {Lc Lr : List Nat} {o q om nd : Nat} {MC : Int32 × mM} {adm : Nat → Nat} {M : mM} {ad : cAd} {tg : cTg} {D : cD} {f : Nat → Int64} (hr : va_Run p l e R s m args below meth c H locs cells slots mc ms (F0 m pc ls st0) rest (kQ γ Lr H.size (kI fun r L1 F1 => Lr = L1 ∧ ∃ M1, RepM γ L1 F1 om adm M1 ∧ (r, M1) = MC) a0) (kA Lr H.size)) (hE : kE γ A s) (hX : kX γ A s (Lc ++ (Lr ++ [q])) F H locs) (hR : RepC γ Lc F o ad tg M nd D) (hq : F q = oL γ f)
    (kk : ∀ (F1 : kF) (H1 : Heap) (locs1 : List Loc), kX γ A s (Lc ++ (Lr ++ [q])) F1 H1 locs1 → RepC γ Lc F1 o ad tg M nd D → F1 q = oL γ f → RepM γ Lr F1 om adm MC.2 → W p l e R s m args below meth c H1 locs1 (cells + mc) (slots + ms) Q (F0 m (pc + 3) ls (.int MC.1 :: rest))) : W p l e R s m args below meth c H locs cells slots Q (F0 m pc ls st0) := by
  refine k_goF hr hE (kX_r hX) (fun v L1 F1 H1 locs1 hv hX1 => ?_)
  obtain ⟨r, rfl, rfl, M1, hRm, rfl⟩ := hv
  have hap : ∀ b ∈ Lr, b ∉ Lc ++ [q] := fun b hb => kX_apart hX1 hb
  refine kk (kMix (Lc ++ [q]) F F1) H1 locs1 ?_ (hR.eqF fun b hb => kMix_in (List.mem_append_left _ hb)) ((kMix_in (List.mem_append_right _ (List.mem_singleton.mpr rfl))).trans hq) (hRm.eqF fun b hb => kMix_out (hap b hb))
  exact kX_perm hX1 (by rw [← List.append_assoc, ← List.append_assoc]; exact List.Perm.append_right [q] List.perm_append_comm)
/-- the class is called without a wrapper -/
theorem L_cls {P : Int32 → List Nat → kF → Prop} {Lc Lr : List Nat} {o q om nd : Nat} {MC : Int32 × mM} {adm : Nat → Nat} {M : mM} {f : Nat → Int64} (hr : va_Run p l e R s m args below meth c H locs cells slots mc ms (F0 m pc ls st0) rest (kQ γ Lc H.size (kI P) a0) (kA Lc H.size)) (hE : kE γ A s) (hX : kX γ A s (Lc ++ (Lr ++ [q])) F H locs) (hP : ∀ r L1 F1, P r L1 F1 → After γ Lc o nd MC r L1 F1) (hRm : RepM γ Lr F om adm M) (hq : F q = oL γ f)
    (kk : ∀ (Lc1 : List Nat) (F1 : kF) (H1 : Heap) (locs1 : List Loc) (ad1 : cAd) (tg1 : cTg) (nd1 : Nat) (D1 : cD), kX γ A s (Lc1 ++ (Lr ++ [q])) F1 H1 locs1 → RepC γ Lc1 F1 o ad1 tg1 MC.2 nd1 D1 → Inv MC.2 nd1 D1 → nd1 ≤ nd + 1 → F1 q = oL γ f → RepM γ Lr F1 om adm M → W p l e R s m args below meth c H1 locs1 (cells + mc) (slots + ms) Q (F0 m (pc + 3) ls (.int MC.1 :: rest))) : W p l e R s m args below meth c H locs cells slots Q (F0 m pc ls st0) := by
  refine k_goF hr hE hX (fun v L1 F1 H1 locs1 hv hX1 => ?_)
  obtain ⟨r, rfl, hp⟩ := hv
  obtain ⟨M1, ad1, tg1, nd1, D1, rfl, -, -, hR, hI, hn⟩ := hP r L1 F1 hp
  have hap : ∀ b ∈ L1, b ∉ Lr ++ [q] := fun b hb => kX_apart hX1 hb
  exact kk L1 (kMix (Lr ++ [q]) F F1) H1 locs1 ad1 tg1 nd1 D1 hX1 (hR.mix hap) hI hn ((kMix_in (List.mem_append_right _ (List.mem_singleton.mpr rfl))).trans hq) (hRm.eqF fun b hb => kMix_in (List.mem_append_left _ hb))
/-- where the law's loop stands -/
def Lw (γ : kG) (A : Nat → Prop) (s : State) (o om q : Nat) (adm : Nat → Nat) (nd : Nat) (H : Heap) (locs : List Loc) : Prop :=
  ∃ (Lc Lr : List Nat) (F : kF) (ad : cAd) (tg : cTg) (M : mM) (D : cD) (nd0 : Nat) (f : Nat → Int64), kX γ A s (Lc ++ (Lr ++ [q])) F H locs ∧ RepC γ Lc F o ad tg M nd0 D ∧ Inv M nd0 D ∧ nd0 ≤ nd ∧ RepM γ Lr F om adm M ∧ F q = oL γ f
/-- both answers are compared -/
theorem L_tail (hM : kM p s m args meth c cL_law 7 ret own) (hown : own = "InvoicebridgeLaw") (hE : kE γ A s) {Lc Lr : List Nat} {q om : Nat} {adm : Nat → Nat} {M : mM} {f : Nat → Int64} {k r : Int32} {b0 b1 b3 : Value} (hX : kX γ A s (Lc ++ (Lr ++ [q])) F H locs) (hRm : RepM γ Lr F om adm M) (hq : F q = oL γ f) (hk : M 24 0 = k) (hf : k = 0 → f 0 = r.toInt64)
    (hl : lv_has ls 7 [(6, .int r), (5, .int k), (0, b0), (1, b1), (2, .ref om), (3, .ref q), (4, b3)]) (hc : cells ≤ 601024 ∧ slots ≤ 7293034) {off : Int}
    (d0 : decode cL_law pc = .ok (.aload_n 2, 1)) (d1 : decode cL_law (pc + 1) = .ok (.invokevirtual 97, 3)) (d4 : decode cL_law (pc + 4) = .ok (.iload 5, 2)) (d6 : decode cL_law (pc + 6) = .ok (.if_icmp .eq 5, 3)) (d11 : decode cL_law (pc + 11) = .ok (.iload 5, 2)) (d13 : decode cL_law (pc + 13) = .ok (.ifCond .ne 15, 3)) (d16 : decode cL_law (pc + 16) = .ok (.aload_n 3, 1)) (d17 : decode cL_law (pc + 17) = .ok (.iconst 0, 1)) (d18 : decode cL_law (pc + 18) = .ok (.laload, 1)) (d19 : decode cL_law (pc + 19) = .ok (.iload 6, 2)) (d21 : decode cL_law (pc + 21) = .ok (.i2l, 1)) (d22 : decode cL_law (pc + 22) = .ok (.lcmp, 1)) (d23 : decode cL_law (pc + 23) = .ok (.ifCond .eq 5, 3)) (d28 : decode cL_law (pc + 28) = .ok (.goto off, 3)) (hoff : ((pc + 28 : Nat) : Int) + off = ((1735 : Nat) : Int))
    (kk : ∀ (H1 : Heap) (locs1 : List Loc), kX γ A s (Lc ++ (Lr ++ [q])) F H1 locs1 → W p l e room_1 s m args below meth c H1 locs1 cells slots Q (F0 m 1735 ls [])) : W p l e room_1 s m args below meth c H locs cells slots Q (F0 m pc ls []) := by
  subst hown
  have hx := hM.1
  have hb := hM.2.1
  have hXr := kX_r hX
  refine lv_aload_n hx hb d0 rfl (lv_at hl 4 rfl) ?_
  refine k_goF (k_V (n := 0) (As := []) (rest := []) hM hE (kX_left hXr) hl (c_X5_thrown l γ Lr F om adm M hRm) hRm.1 hRm.2.1 rfl kw_law_thrown k_1145 k_1146 k_9 k_1147 ⟨rfl, by decide, by decide, by decide +kernel⟩ ⟨Nat.le_of_ble_eq_true rfl, Nat.le_of_ble_eq_true rfl⟩ rfl rfl (Nat.le_of_ble_eq_true rfl) d1 ⟨hc.1, hc.2⟩) hE hXr (fun v L1 F1 H1 locs1 hv hX1 => ?_)
  obtain ⟨r1, rfl, rfl, rfl, rfl⟩ := hv
  rw [kMix_same] at hX1
  have hX2 : kX γ A s (Lc ++ (Lr ++ [q])) F H1 locs1 := kX_perm hX1 (by rw [← List.append_assoc, ← List.append_assoc]; exact List.Perm.append_right [q] List.perm_append_comm)
  have hqm : q ∈ Lc ++ (Lr ++ [q]) := List.mem_append_right _ (List.mem_append_right _ (List.mem_singleton.mpr rfl))
  refine W.widen (k := cells) (n := slots) (Nat.le_refl _) (Nat.le_refl _) ?_
  refine lv_iload hx hb d4 (lv_at hl 1 rfl) ?_
  refine lv_icmp_eq (tgt := pc + 11) hx hb d6 (by omega) (fun _ => ?_) (fun h => absurd hk h)
  refine lv_iload hx hb d11 (lv_at hl 1 rfl) ?_
  by_cases hk0 : k = 0
  · refine lv_if_ne (tgt := pc + 28) hx hb d13 (by omega) (fun h => absurd hk0 h) (fun _ => ?_)
    refine lv_aload_n hx hb d16 rfl (lv_at hl 5 rfl) ?_
    refine lv_iconst (v := 0) hx hb d17 (by decide) ?_
    refine k_lald (n := 1) (f := f) hM hE hX2 hqm hq (show vp_in (nI 0) 1 from vp_in_nI (by decide) (by decide)) d18 ?_
    refine lv_iload hx hb d19 (lv_at hl 0 rfl) ?_
    refine lv_i2l hx hb d21 rfl ?_
    refine W.lcmp hx hb d22 ?_
    rw [show f (0 : Int32).toNatClampNeg = r.toInt64 from hf hk0, lg_cmp_self]
    refine lv_if_eq (tgt := pc + 28) hx hb d23 (by omega) (fun _ => ?_) (fun h => absurd rfl h)
    exact lv_goto (tgt := 1735) hx hb d28 hoff (kk H1 locs1 hX2)
  · refine lv_if_ne (tgt := pc + 28) hx hb d13 (by omega) (fun _ => ?_) (fun h => absurd h hk0)
    exact lv_goto (tgt := 1735) hx hb d28 hoff (kk H1 locs1 hX2)
end LR
