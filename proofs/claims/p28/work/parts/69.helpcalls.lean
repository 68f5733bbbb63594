/-! the law's own helpers, called -/
section HC
variable {p : Program} {l : Launch} {e : Env} {R : Room} {s : State} {m : MethodId} {args : Array Value} {below : List Frame} {meth : Method} {c : Code} {H : Heap} {locs : List Loc} {cells slots : Nat} {Q : State → Prop}
variable {cc : ByteArray} {nL : Nat} {ret : Option FieldType} {γ : kG} {A : Nat → Prop} {L : List Nat} {F : kF} {pc : Nat} {ls : Array Slot} {rest : List Value} {o n : Nat} {M M1 : mM} {lv : List (Nat × Value)} {r : Int32}
set_option maxHeartbeats 4000000 in
theorem H_about {i1 st ho co ow pa : Int32} (hfl : l.stackTraces = false) (hM : kM p s m args meth c cc nL ret "InvoicebridgeLaw") (hE : kE γ A s) (hX : kX γ A s L F H locs) (hO : Ob γ o M n L F) (hl : lv_has ls nL lv) (hh : ((aboutM M i1 0).1 = st ∧ (aboutM M i1 0).2 24 0 = 0) ∧ ((aboutM M i1 3).1 = ho ∧ (aboutM M i1 3).2 24 0 = 0) ∧ ((aboutM M i1 4).1 = co ∧ (aboutM M i1 4).2 24 0 = 0) ∧ ((aboutM M i1 5).1 = ow ∧ (aboutM M i1 5).2 24 0 = 0) ∧ ((aboutM M i1 6).1 = pa ∧ (aboutM M i1 6).2 24 0 = 0)) (hR : (kRm 6 10 60).frames + 1 ≤ R.frames ∧ 8 + (7 + 11) + (kRm 6 10 60).locals ≤ R.locals) (hW : (rest.map fun v => v.category).sum ≤ 8) (hf : cells + 10 ≤ R.cells ∧ slots + 60 ≤ R.slots) (hdg : decode cc pc = .ok (.invokestatic 115, 3))
    (kk : ∀ (L : List Nat) (F : kF) (H : Heap) (locs : List Loc), kX γ A s L F H locs → Ob γ o M n L F → W p l e R s m args below meth c H locs (cells + 10) (slots + 60) Q (F0 m (pc + 3) ls (.int 1 :: rest))) : W p l e R s m args below meth c H locs cells slots Q (F0 m pc ls (.int pa :: .int ow :: .int co :: .int ho :: .int st :: .int i1 :: .ref o :: rest)) := by
  refine k_goi (k_S (n := 7) (As := [.ref o, .int i1, .int st, .int ho, .int co, .int ow, .int pa]) (rest := rest) hM hE hX hl (c_L_about l hfl γ L F o n M hO i1 st ho co ow pa hh) k_1011 k_1012 k_0 k_1013 ⟨by decide, by decide, by decide +kernel⟩ hR rfl rfl hW hdg hf) hE hX (fun r9 L1 F1 H1 locs1 hp hX1 => ?_)
  obtain ⟨rfl, hO1⟩ := hp
  exact kk L1 F1 H1 locs1 hX1 hO1
set_option maxHeartbeats 4000000 in
theorem H_taxes {i1 m1 du ca : Int32} (hfl : l.stackTraces = false) (hM : kM p s m args meth c cc nL ret "InvoicebridgeLaw") (hE : kE γ A s) (hX : kX γ A s L F H locs) (hO : Ob γ o M n L F) (hl : lv_has ls nL lv) (hh : ((taxM M i1 m1).1 = du ∧ (taxM M i1 m1).2 24 0 = 0) ∧ ((carriedM M i1 m1).1 = ca ∧ (carriedM M i1 m1).2 24 0 = 0)) (hR : (kRm 8 6 36).frames + 1 ≤ R.frames ∧ 8 + (5 + 11) + (kRm 8 6 36).locals ≤ R.locals) (hW : (rest.map fun v => v.category).sum ≤ 8) (hf : cells + 6 ≤ R.cells ∧ slots + 36 ≤ R.slots) (hdg : decode cc pc = .ok (.invokestatic 127, 3))
    (kk : ∀ (L : List Nat) (F : kF) (H : Heap) (locs : List Loc), kX γ A s L F H locs → Ob γ o M n L F → W p l e R s m args below meth c H locs (cells + 6) (slots + 36) Q (F0 m (pc + 3) ls (.int 1 :: rest))) : W p l e R s m args below meth c H locs cells slots Q (F0 m pc ls (.int ca :: .int du :: .int m1 :: .int i1 :: .ref o :: rest)) := by
  refine k_goi (k_S (n := 5) (As := [.ref o, .int i1, .int m1, .int du, .int ca]) (rest := rest) hM hE hX hl (c_L_taxes l hfl γ L F o n M hO i1 m1 du ca hh) k_1018 k_1019 k_0 k_1020 ⟨by decide, by decide, by decide +kernel⟩ hR rfl rfl hW hdg hf) hE hX (fun r9 L1 F1 H1 locs1 hp hX1 => ?_)
  obtain ⟨rfl, hO1⟩ := hp
  exact kk L1 F1 H1 locs1 hX1 hO1
set_option maxHeartbeats 4000000 in
theorem H_cash {i1 du : Int32} (hfl : l.stackTraces = false) (hM : kM p s m args meth c cc nL ret "InvoicebridgeLaw") (hE : kE γ A s) (hX : kX γ A s L F H locs) (hO : Ob γ o M n L F) (hl : lv_has ls nL lv) (hh : ((cashM M i1).1 = du ∧ (cashM M i1).2 24 0 = 0) ∧ ((cashAnewM M i1).1 = du ∧ (cashAnewM M i1).2 24 0 = 0) ∧ n < 512) (hR : (kRm 5 2 12).frames + 1 ≤ R.frames ∧ 8 + (3 + 11) + (kRm 5 2 12).locals ≤ R.locals) (hW : (rest.map fun v => v.category).sum ≤ 8) (hf : cells + 2 ≤ R.cells ∧ slots + 12 ≤ R.slots) (hdg : decode cc pc = .ok (.invokestatic 118, 3))
    (kk : ∀ (L : List Nat) (F : kF) (H : Heap) (locs : List Loc), kX γ A s L F H locs → Ob γ o M n L F → W p l e R s m args below meth c H locs (cells + 2) (slots + 12) Q (F0 m (pc + 3) ls (.int 1 :: rest))) : W p l e R s m args below meth c H locs cells slots Q (F0 m pc ls (.int du :: .int i1 :: .ref o :: rest)) := by
  refine k_goi (k_S (n := 3) (As := [.ref o, .int i1, .int du]) (rest := rest) hM hE hX hl (c_L_cash l hfl γ L F o n M hO i1 du hh) k_1014 k_1015 k_0 k_1016 ⟨by decide, by decide, by decide +kernel⟩ hR rfl rfl hW hdg hf) hE hX (fun r9 L1 F1 H1 locs1 hp hX1 => ?_)
  obtain ⟨rfl, hO1⟩ := hp
  exact kk L1 F1 H1 locs1 hX1 hO1
set_option maxHeartbeats 4000000 in
theorem H_types {told : Int64} {n9 : Nat} {v : Int32} (hfl : l.stackTraces = false) (hM : kM p s m args meth c cc nL ret "InvoicebridgeLaw") (hE : kE γ A s) (hX : kX γ A s L F H locs) (hO : Ob γ o M n L F) (hl : lv_has ls nL lv) (h9 : n9 ≤ 10) (hv : v = nI n9) (hs : ∀ k, k < n9 → 32 ≤ sgn told k ∧ sgn told k ≤ 126) (e1 : tyS M told n9 = M1) (h : faultM (mset M1 24 0 0) = r) (hR : (kRm 6 10 60).frames + 1 ≤ R.frames ∧ 8 + (5 + 11) + (kRm 6 10 60).locals ≤ R.locals) (hW : (rest.map fun v => v.category).sum ≤ 8) (hf : cells + 10 ≤ R.cells ∧ slots + 60 ≤ R.slots) (hdg : decode cc pc = .ok (.invokestatic 123, 3))
    (kk : ∀ (L : List Nat) (F : kF) (H : Heap) (locs : List Loc), kX γ A s L F H locs → Ob γ o M1 (n + n9 + 1) L F → W p l e R s m args below meth c H locs (cells + 10) (slots + 60) Q (F0 m (pc + 3) ls (.int r :: rest))) : W p l e R s m args below meth c H locs cells slots Q (F0 m pc ls (.int v :: .long told :: .ref o :: rest)) := by
  subst hv
  subst e1
  subst h
  refine k_goi (k_S (n := 3) (As := [.ref o, .long told, .int (nI n9)]) (rest := rest) hM hE hX hl (c_L_types l hfl γ L F o n M hO told n9 h9 hs) k_1000 k_1001 k_0 k_1002 ⟨by decide, by decide, by decide +kernel⟩ hR rfl rfl hW hdg hf) hE hX (fun r9 L1 F1 H1 locs1 hp hX1 => ?_)
  obtain ⟨rfl, hO1⟩ := hp
  exact kk L1 F1 H1 locs1 hX1 hO1
set_option maxHeartbeats 4000000 in
theorem H_refuses (hfl : l.stackTraces = false) (hM : kM p s m args meth c cc nL ret "InvoicebridgeLaw") (hE : kE γ A s) (hX : kX γ A s L F H locs) (hO : Ob γ o M n L F) (hl : lv_has ls nL lv) (hn : n < 512) {v : Int32} (hv : M 2 0 = v) (hR : (kRm 10 1242 169940).frames + 1 ≤ R.frames ∧ 8 + (15 + 11) + (kRm 10 1242 169940).locals ≤ R.locals) (hW : (rest.map fun v => v.category).sum ≤ 8) (hf : cells + 1242 ≤ R.cells ∧ slots + 169940 ≤ R.slots) (hdg : decode cc pc = .ok (.invokestatic 111, 3))
    (kk : ∀ (L : List Nat) (F : kF) (H : Heap) (locs : List Loc), kX γ A s L F H locs → Ob γ o M n L F → W p l e R s m args below meth c H locs (cells + 1242) (slots + 169940) Q (F0 m (pc + 3) ls (.int 1 :: rest))) : W p l e R s m args below meth c H locs cells slots Q (F0 m pc ls (.int v :: .ref o :: rest)) := by
  subst hv
  refine k_goi (k_S (n := 2) (As := [.ref o, .int (M 2 0)]) (rest := rest) hM hE hX hl (c_L_refuses l hfl γ L F o n M hO hn) k_991 k_992 k_0 k_993 ⟨by decide, by decide, by decide +kernel⟩ hR rfl rfl hW hdg hf) hE hX (fun r9 L1 F1 H1 locs1 hp hX1 => ?_)
  obtain ⟨rfl, hO1⟩ := hp
  exact kk L1 F1 H1 locs1 hX1 hO1
end HC
theorem mk_nil : mk 0 = fun _ _ => 0 := by
  funext k j
  show (if k < 24 then Int32.ofBitVec (BitVec.ofNat 32 (rd 0 (24 * j + k))) else 0) = 0
  have e : rd 0 (24 * j + k) = 0 := by rw [rd_eq]; simp
  rw [e]
  split <;> rfl
theorem dfX4 : ∀ j, j < 6 → defaultValue (tyX4 j) = vp_V [.null, .null, .null, .null, .null, .int 0] j := by
  intro j hj
  match j, hj with
  | 0, _ => rfl
  | 1, _ => rfl
  | 2, _ => rfl
  | 3, _ => rfl
  | 4, _ => rfl
  | 5, _ => rfl
section FX
variable {p : Program} {l : Launch} {e : Env} {R : Room} {s : State} {m : MethodId} {args : Array Value} {below : List Frame} {meth : Method} {c : Code} {H : Heap} {locs : List Loc} {cells slots : Nat} {Q : State → Prop}
variable {cc : ByteArray} {nL : Nat} {ret : Option FieldType} {γ : kG} {A : Nat → Prop} {L : List Nat} {F : kF} {pc : Nat} {ls : Array Slot} {rest st0 : List Value} {o n : Nat} {M : mM} {lv : List (Nat × Value)} {mc ms : Nat} {a0 : Array Value}
theorem kX_nil (hX : kX γ A s L F H locs) : kX γ A s [] F H locs := kX_in hX List.nodup_nil (fun _ h => nomatch h)
/-- a method that makes worlds of its own, called beside an object's world -/
theorem o_goX {P : Int32 → List Nat → kF → Prop} (hr : va_Run p l e R s m args below meth c H locs cells slots mc ms (F0 m pc ls st0) rest (kQ γ [] H.size (kI P) a0) (kA [] H.size)) (hE : kE γ A s) (hX : kX γ A s L F H locs) (hO : Ob γ o M n L F)
    (kk : ∀ (r : Int32) (F1 : kF) (H1 : Heap) (locs1 : List Loc), (∃ L9 F9, P r L9 F9) → kX γ A s L F1 H1 locs1 → Ob γ o M n L F1 → W p l e R s m args below meth c H1 locs1 (cells + mc) (slots + ms) Q (F0 m (pc + 3) ls (.int r :: rest))) : W p l e R s m args below meth c H locs cells slots Q (F0 m pc ls st0) :=
  k_goF (L := []) (X := L) hr hE hX fun v L1 F1 H1 locs1 ⟨r, hv, hp⟩ hX1 => by
    subst hv
    exact kk r (kMix L F F1) H1 locs1 ⟨L1, F1, hp⟩ (kX_in hX1 hX.2.1.1 (fun _ h => List.mem_append_right _ h)) hO.mixIn
set_option maxHeartbeats 4000000 in
/-- a new object -/
theorem o_new (hM : kM p s m args meth c cc nL ret "InvoicebridgeLaw") (hE : kE γ A s) (hX : kX γ A s [] F H locs) (hl : lv_has ls nL lv) (hR : (kRm 3 10 100).frames + 1 ≤ R.frames ∧ 8 + (1 + 11) + (kRm 3 10 100).locals ≤ R.locals) (hW : (rest.map fun v => v.category).sum ≤ 7) (hc : cells + 11 ≤ R.cells) (hs : slots + 106 ≤ R.slots)
    (d0 : decode cc pc = .ok (.new 8, 3)) (d3 : decode cc (pc + 3) = .ok (.dup, 1)) (d4 : decode cc (pc + 4) = .ok (.invokespecial 110, 3))
    (kk : ∀ (o : Nat) (L : List Nat) (F : kF) (H : Heap) (locs : List Loc), kX γ A s L F H locs → Ob γ o (mk 0) 0 L F → W p l e R s m args below meth c H locs (cells + 11) (slots + 106) Q (F0 m (pc + 7) ls (.ref o :: rest))) : W p l e R s m args below meth c H locs cells slots Q (F0 m pc ls rest) := by
  have hx := hM.1
  have hb := hM.2.1
  refine k_new (ci := 9) (fs := [.null, .null, .null, .null, .null, .int 0]) hM hE hX rfl inX4 tyX4 tyX4_ok k_30 k_31 k_1 dfX4 (by omega) (by omega) d0 (fun o H1 ho hX => ?_)
  refine lv_dup hx hb d3 rfl ?_
  refine k_gou (k_I (As := []) (rest := .ref o :: rest) hM hE hX hl (c_X4_init l γ _ _ o (fun _ => (0, 0, 0)) (by simp) (va_up_self _ _ _)) k_32 k_33 k_1 k_34 rfl ⟨by decide, by decide, by decide +kernel⟩ hR rfl rfl (by have h9 : (Value.ref o).category = 1 := rfl; simp only [List.map_cons, List.sum_cons, h9]; omega) d4 ⟨by show cells + 1 + 10 ≤ _; omega, by show slots + 6 + 100 ≤ _; omega⟩) hE hX (fun L1 F1 H2 locs2 hp hX => ?_)
  obtain ⟨hoL, ad, tg, hRc⟩ := hp
  rw [← mk_nil] at hRc
  exact kk o L1 F1 H2 locs2 hX ⟨ad, tg, 0, _, hRc, by rw [mk_nil]; exact Inv.nil _, Nat.le_refl 0, rfl⟩
end FX

