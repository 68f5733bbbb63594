/-! rows for the JDK's lists: arrays of references, statics, class objects -/
def kEl (L : List Nat) (F : kF) (y : Nat) : Prop := y ∈ L ∧ ∃ (ci : Nat) (fs : List Value), F y = .inr (ci, fs) ∧ 5 ≤ ci ∧ ci ≤ 8
section JR
variable {p : Program} {l : Launch} {e : Env} {R : Room} {s : State} {m : MethodId} {args : Array Value} {below : List Frame} {meth : Method} {c : Code} {H : Heap} {locs : List Loc} {cells slots : Nat} {Q : State → Prop}
variable {cc : ByteArray} {nL : Nat} {ret : Option FieldType} {own : String} {γ : kG} {A : Nat → Prop} {L : List Nat} {F : kF} {pc : Nat} {ls : Array Slot} {rest : List Value} {lv : List (Nat × Value)}
theorem kEl.any (hE : kE γ A s) (hX : kX γ A s L F H locs) {y : Nat} (h : kEl L F y) : va_Any "java/lang/Object" s H y := by
  obtain ⟨h1, ci, fs, h2, h3, h4⟩ := h
  obtain ⟨k0, hk0⟩ := kX_get hX h1 h2
  obtain ⟨-, -, -, -, -, -, -, -, -, -, -, -, -, -, ⟨a1, a2, a3, a4⟩, -⟩ := hE.2.1
  have key : ∀ {C : String}, va_Nw (.castable C "java/lang/Object") s → ∀ comp c0 : ClassId, s.vm.findClass "java/lang/Object" = some comp → s.vm.findClass C = some c0 → s.vm.assignable c0 comp = true := by
    intro C hw comp c0 e1 e2
    obtain ⟨c1, c2, f1, f2, f3⟩ := Cond.castable_spec (args := #[]) (hw.use rfl)
    cases Option.some.inj (f1.symm.trans e2)
    cases Option.some.inj (f2.symm.trans e1)
    exact f3
  rcases (show ci = 5 ∨ ci = 6 ∨ ci = 7 ∨ ci = 8 by omega) with rfl | rfl | rfl | rfl
  · exact va_rAny hE.1 hX.1 hk0 (r := (RX0, TX0, 3)) rfl (key a3)
  · exact va_rAny hE.1 hX.1 hk0 (r := (RX1, TX1, 3)) rfl (key a4)
  · exact va_rAny hE.1 hX.1 hk0 (r := (RX2, TX2, 12)) rfl (key a1)
  · exact va_rAny hE.1 hX.1 hk0 (r := (RX3, TX3, 4)) rfl (key a2)
theorem k_aast (hM : kM p s m args meth c cc nL ret own) (hE : kE γ A s) (hX : kX γ A s L F H locs) {a n v : Nat} {f : Nat → Option Nat} (ha : a ∈ L) (hF : F a = .inl (γ.2.1 4, n, .inr (.inr (.inr (.inr f))))) (hv : kEl L F v) {i : Int32} {j : Nat} (hi : i = nI j) (hj : j < n) (hn : n < 2 ^ 31) (hdg : decode cc pc = .ok (.aastore, 1))
    (kk : ∀ (H1 : Heap) (locs1 : List Loc), kX γ A s L (va_up F a (.inl (γ.2.1 4, n, .inr (.inr (.inr (.inr (va_up f j (some v)))))))) H1 locs1 → W p l e R s m args below meth c H1 locs1 cells slots Q (F0 m (pc + 1) ls rest)) : W p l e R s m args below meth c H locs cells slots Q (F0 m pc ls (.ref v :: .int i :: .ref a :: rest)) := by
  subst hi
  obtain ⟨k0, hk0⟩ := kX_get hX ha hF
  refine va_astqM hM.1 hM.2.1 hE.1 hX.1 (kN_D hX.2.1) hX.2.2 k0 4 hk0 rfl (hv.any  hE hX) (vp_in_nI hj hn) hdg fun H1 locs1 hP hD hS => kk H1 locs1 ?_
  have h := kX_set hX ha hF hk0 hP hS
  rw [nI_clamp (by omega)] at h
  exact h
theorem k_aald2 (hM : kM p s m args meth c cc nL ret own) (hE : kE γ A s) (hX : kX γ A s L F H locs) {a n v : Nat} {f : Nat → Option Nat} (ha : a ∈ L) (hF : F a = .inl (γ.2.1 4, n, .inr (.inr (.inr (.inr f))))) {i : Int32} {j : Nat} (hi : i = nI j) (hj : j < n) (hn : n < 2 ^ 31) (hv : f j = some v) (hdg : decode cc pc = .ok (.aaload, 1))
    (kk : W p l e R s m args below meth c H locs cells slots Q (F0 m (pc + 1) ls (.ref v :: rest))) : W p l e R s m args below meth c H locs cells slots Q (F0 m pc ls (.int i :: .ref a :: rest)) := by
  subst hi
  refine k_aald hM hE hX ha hF (vp_in_nI hj hn) hdg ?_
  rw [nI_clamp (by omega), hv]
  exact kk
theorem k_copyq (hM : kM p s m args meth c cc nL ret own) (hE : kE γ A s) (hX : kX γ A s L F H locs) (hl : lv_has ls nL lv) {a0 a1 n0 n1 n : Nat} {f g : Nat → Option Nat} (ha0 : a0 ∈ L) (hF0 : F a0 = .inl (γ.2.1 4, n0, .inr (.inr (.inr (.inr f))))) (ha1 : a1 ∈ L) (hF1 : F a1 = .inl (γ.2.1 4, n1, .inr (.inr (.inr (.inr g))))) (h4 : n ≤ n0) (h5 : n ≤ n1) (hn : n < 2 ^ 31) (hel : ∀ i : Nat, i < n → ∀ y : Nat, f i = some y → kEl L F y)
    {index : Nat} (w1 : Cond.methodLink own index arraycopyName ∈ W0) (w2 : Cond.native arraycopyName ∈ W0) (w3 : Cond.static arraycopyName ∈ W0) (w4 : Cond.initialized "java/lang/System" ∈ W0) (hR : 1 ≤ R.frames ∧ (rest.map fun v => v.category).sum + (nativeFrameWords "java/lang/System" "arraycopy" 5 + 11) ≤ R.locals) (hdg : decode cc pc = .ok (.invokestatic index, 3))
    (kk : ∀ (H1 : Heap) (locs1 : List Loc), kX γ A s L (va_up F a1 (.inl (γ.2.1 4, n1, .inr (.inr (.inr (.inr (va_cpy f g 0 0 n))))))) H1 locs1 → W p l e R s m args below meth c H1 locs1 cells slots Q (F0 m (pc + 3) ls rest)) : W p l e R s m args below meth c H locs cells slots Q (F0 m pc ls (.int (nI n) :: .int 0 :: .ref a1 :: .int 0 :: .ref a0 :: rest)) := by
  obtain ⟨k0, hk0⟩ := kX_get hX ha0 hF0
  obtain ⟨k1, hk1⟩ := kX_get hX ha1 hF1
  have hc0 : (0 : Int32).toNatClampNeg = 0 := by decide
  have hcn : (nI n).toNatClampNeg = n := nI_clamp hn
  refine va_copyM hM.1 hM.2.1 (hM.2.2.1.trans hl.1.symm) hM.2.2.2.1 (hM.2.2.2.2.1 _ w1) (hM.2.2.2.2.1 _ w2) (hM.2.2.2.2.1 _ w3) (hM.2.2.2.2.1 _ w4) hE.1 hX.1 (kN_D hX.2.1) hX.2.2 k0 k1 4 4 (E1 := "java/lang/Object") hk0 hk1 rfl rfl (by decide) (by decide) (nI_pos hn) (by rw [hc0, hcn]; omega) (by rw [hc0, hcn]; omega) (fun i hi y hy => (hel i (by rw [hcn] at hi; exact hi) y (by rw [hc0] at hy; rw [Nat.zero_add] at hy; exact hy)).any  hE hX) hR.1 hR.2 hdg fun H1 locs1 hP hD hS => kk H1 locs1 ?_
  have h := kX_set hX ha1 hF1 hk1 hP hS
  rw [hc0, hcn] at h
  exact h
theorem k_gets (hM : kM p s m args meth c cc nL ret own) (hX : kX γ A s L F H locs) {C n d : String} {v : Value} {index : Nat} (hZ : va_Z C n d v A s s.heap) (hlink : Cond.fieldLink own index C n d ∈ W0) (hdg : decode cc pc = .ok (.getstatic index, 3))
    (kk : W p l e R s m args below meth c H locs cells slots Q (F0 m (pc + 3) ls (v :: rest))) : W p l e R s m args below meth c H locs cells slots Q (F0 m pc ls rest) :=
  va_gets hM.1 hM.2.1 hZ hX.2.2 hM.2.2.2.1 (hM.2.2.2.2.1 _ hlink) (fun _ h => h) hdg kk
theorem k_tlen (hM : kM p s m args meth c cc nL ret own) (hX : kX γ A s L F H locs) {ty : FieldType} {t N : Nat} {f : Nat → Value} (hT : va_T ty t N f A s s.heap) {v : Int32} (hv : Int32.ofNat N = v) (hdg : decode cc pc = .ok (.arraylength, 1))
    (kk : W p l e R s m args below meth c H locs cells slots Q (F0 m (pc + 1) ls (.int v :: rest))) : W p l e R s m args below meth c H locs cells slots Q (F0 m pc ls (.ref t :: rest)) :=
  va_tlen hM.1 hM.2.1 hT hX.2.2 hv hdg kk
theorem k_getC (hM : kM p s m args meth c cc nL ret own) (hE : kE γ A s) (hX : kX γ A s L F H locs) (hl : lv_has ls nL lv) {a n : Nat} {f : Nat → Option Nat} (ha : a ∈ L) (hF : F a = .inl (γ.2.1 4, n, .inr (.inr (.inr (.inr f))))) {index mi : Nat} (hmi : va_Mi "[Ljava/lang/Object;" mi s) (w1 : Cond.methodLink own index ⟨"java/lang/Object", "getClass", "()Ljava/lang/Class;"⟩ ∈ W0) (w2 : Cond.selects "[Ljava/lang/Object;" ⟨"java/lang/Object", "getClass", "()Ljava/lang/Class;"⟩ ⟨"java/lang/Object", "getClass", "()Ljava/lang/Class;"⟩ ∈ W0) (w3 : Cond.instanceMethod ⟨"java/lang/Object", "getClass", "()Ljava/lang/Class;"⟩ ∈ W0) (w4 : Cond.native ⟨"java/lang/Object", "getClass", "()Ljava/lang/Class;"⟩ ∈ W0) (hR : 1 ≤ R.frames ∧ (rest.map fun v => v.category).sum + 14 ≤ R.locals) (hdg : decode cc pc = .ok (.invokevirtual index, 3))
    (kk : W p l e R s m args below meth c H locs cells slots Q (F0 m (pc + 3) ls (.ref mi :: rest))) : W p l e R s m args below meth c H locs cells slots Q (F0 m pc ls (.ref a :: rest)) := by
  obtain ⟨k0, hk0⟩ := kX_get hX ha hF
  have hcell : H[a]? = some (vp_cell (γ.2.1 4) (n, .inr (.inr (.inr (.inr f))))) := hX.1 k0 _ hk0
  refine va_getC hM.1 hM.2.1 (hM.2.2.1.trans hl.1.symm) hM.2.2.2.1 (hM.2.2.2.2.1 _ w1) (hE.2.1.2.2.2.2.2.2.2.2.2.2.2.2.2.1.use) (hM.2.2.2.2.1 _ w2) (hM.2.2.2.2.1 _ w3) (hM.2.2.2.2.1 _ w4) hmi ⟨_, hcell, rfl, va_nmO (hE.1.2 4 _ rfl).2 rfl⟩ hR.1 hR.2 hdg kk
end JR
