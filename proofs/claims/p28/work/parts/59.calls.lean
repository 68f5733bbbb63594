/-! a method of the class, called where it does not throw -/
section OC
variable {p : Program} {l : Launch} {e : Env} {R : Room} {s : State} {m : MethodId} {args : Array Value} {below : List Frame} {meth : Method} {c : Code} {H : Heap} {locs : List Loc} {cells slots : Nat} {Q : State → Prop}
variable {cc : ByteArray} {nL : Nat} {ret : Option FieldType} {γ : kG} {A : Nat → Prop} {L : List Nat} {F : kF} {pc : Nat} {ls : Array Slot} {rest : List Value} {o n : Nat} {M M1 : mM} {lv : List (Nat × Value)} {r : Int32}
set_option maxHeartbeats 4000000 in
theorem O_day (hM : kM p s m args meth c cc nL ret "InvoicebridgeLaw") (hE : kE γ A s) (hX : kX γ A s L F H locs) (hO : Ob γ o M n L F) (hl : lv_has ls nL lv) (h : (dayM M).1 = r) (hR : (kRm 0 0 0).frames + 1 ≤ R.frames ∧ 8 + (1 + 11) + (kRm 0 0 0).locals ≤ R.locals) (hW : (rest.map fun v => v.category).sum ≤ 8) (hf : cells + 0 ≤ R.cells ∧ slots + 0 ≤ R.slots) (hdg : decode cc pc = .ok (.invokevirtual 91, 3))
    (kk : ∀ (L : List Nat) (F : kF) (H : Heap) (locs : List Loc), kX γ A s L F H locs → Ob γ o M n L F → W p l e R s m args below meth c H locs (cells + 0) (slots + 0) Q (F0 m (pc + 3) ls (.int r :: rest))) : W p l e R s m args below meth c H locs cells slots Q (F0 m pc ls (.ref o :: rest)) := by
  obtain ⟨ad, tg, nd, D, hRc, hI, hnd, hz⟩ := hO
  refine k_goi (k_V (n := 0) (As := []) (rest := rest) hM hE hX hl (c_X4_day l γ L F o ad tg M nd D hRc hI) hRc.1.1 hRc.1.2.2 rfl k_486 k_487 k_488 k_1 k_489 ⟨rfl, by decide, by decide, by decide +kernel⟩ hR rfl rfl hW hdg hf) hE hX (fun r9 L1 F1 H1 locs1 hp hX1 => ?_)
  obtain ⟨rfl, rfl, e9⟩ := hp
  rw [e9] at h
  cases h
  exact kk _ _ H1 locs1 hX1 ⟨ad, tg, nd, D, hRc, hI, hnd, hz⟩
set_option maxHeartbeats 4000000 in
theorem O_fault (hM : kM p s m args meth c cc nL ret "InvoicebridgeLaw") (hE : kE γ A s) (hX : kX γ A s L F H locs) (hO : Ob γ o M n L F) (hl : lv_has ls nL lv) (h : (faultC M).1 = r) (hR : (kRm 5 0 0).frames + 1 ≤ R.frames ∧ 8 + (1 + 11) + (kRm 5 0 0).locals ≤ R.locals) (hW : (rest.map fun v => v.category).sum ≤ 8) (hf : cells + 0 ≤ R.cells ∧ slots + 0 ≤ R.slots) (hdg : decode cc pc = .ok (.invokevirtual 95, 3))
    (kk : ∀ (L : List Nat) (F : kF) (H : Heap) (locs : List Loc), kX γ A s L F H locs → Ob γ o M n L F → W p l e R s m args below meth c H locs (cells + 0) (slots + 0) Q (F0 m (pc + 3) ls (.int r :: rest))) : W p l e R s m args below meth c H locs cells slots Q (F0 m pc ls (.ref o :: rest)) := by
  obtain ⟨ad, tg, nd, D, hRc, hI, hnd, hz⟩ := hO
  refine k_goi (k_V (n := 0) (As := []) (rest := rest) hM hE hX hl (c_X4_fault l γ L F o ad tg M nd D hRc hI) hRc.1.1 hRc.1.2.2 rfl k_995 k_996 k_997 k_1 k_998 ⟨rfl, by decide, by decide, by decide +kernel⟩ hR rfl rfl hW hdg hf) hE hX (fun r9 L1 F1 H1 locs1 hp hX1 => ?_)
  obtain ⟨rfl, rfl, e9⟩ := hp
  rw [e9] at h
  cases h
  exact kk _ _ H1 locs1 hX1 ⟨ad, tg, nd, D, hRc, hI, hnd, hz⟩
set_option maxHeartbeats 4000000 in
theorem O_cash {a : Int32} (hfl : l.stackTraces = false) (hM : kM p s m args meth c cc nL ret "InvoicebridgeLaw") (hE : kE γ A s) (hX : kX γ A s L F H locs) (hO : Ob γ o M n L F) (hl : lv_has ls nL lv) (h : (cashM M a).1 = r) (h0 : (cashM M a).2 24 0 = 0) (hR : (kRm 0 1 6).frames + 1 ≤ R.frames ∧ 8 + (2 + 11) + (kRm 0 1 6).locals ≤ R.locals) (hW : (rest.map fun v => v.category).sum ≤ 8) (hf : cells + 1 ≤ R.cells ∧ slots + 6 ≤ R.slots) (hdg : decode cc pc = .ok (.invokevirtual 60, 3))
    (kk : ∀ (L : List Nat) (F : kF) (H : Heap) (locs : List Loc), kX γ A s L F H locs → Ob γ o M n L F → W p l e R s m args below meth c H locs (cells + 1) (slots + 6) Q (F0 m (pc + 3) ls (.int r :: rest))) : W p l e R s m args below meth c H locs cells slots Q (F0 m pc ls (.int a :: .ref o :: rest)) := by
  obtain ⟨ad, tg, nd, D, hRc, hI, hnd, hz⟩ := hO
  refine o_goi (x_V (n := 1) (As := [.int a]) (rest := rest) hM hE hX hl (c_X4_cash l hfl γ L F o ad tg M nd D hRc hI a) hRc.1.1 hRc.1.2.2 rfl k_412 k_413 k_414 k_1 k_415 ⟨rfl, by decide, by decide, by decide +kernel⟩ hR rfl rfl hW hdg hf) hE hX (fun E hno => ?_) (fun r9 L1 F1 H1 locs1 hp hX1 => ?_)
  · obtain ⟨-, ht⟩ := hno
    exact o_absurd ht.2 h0
  · obtain ⟨rfl, rfl, e9⟩ := hp
    rw [e9] at h
    cases h
    exact kk _ _ H1 locs1 hX1 ⟨ad, tg, nd, D, hRc, hI, hnd, hz⟩
set_option maxHeartbeats 4000000 in
theorem O_about {a b : Int32} (hfl : l.stackTraces = false) (hM : kM p s m args meth c cc nL ret "InvoicebridgeLaw") (hE : kE γ A s) (hX : kX γ A s L F H locs) (hO : Ob γ o M n L F) (hl : lv_has ls nL lv) (h : (aboutM M a b).1 = r) (h0 : (aboutM M a b).2 24 0 = 0) (hR : (kRm 4 2 12).frames + 1 ≤ R.frames ∧ 8 + (4 + 11) + (kRm 4 2 12).locals ≤ R.locals) (hW : (rest.map fun v => v.category).sum ≤ 8) (hf : cells + 2 ≤ R.cells ∧ slots + 12 ≤ R.slots) (hdg : decode cc pc = .ok (.invokevirtual 54, 3))
    (kk : ∀ (L : List Nat) (F : kF) (H : Heap) (locs : List Loc), kX γ A s L F H locs → Ob γ o M n L F → W p l e R s m args below meth c H locs (cells + 2) (slots + 12) Q (F0 m (pc + 3) ls (.int r :: rest))) : W p l e R s m args below meth c H locs cells slots Q (F0 m pc ls (.int b :: .int a :: .ref o :: rest)) := by
  obtain ⟨ad, tg, nd, D, hRc, hI, hnd, hz⟩ := hO
  refine o_goi (x_V (n := 2) (As := [.int a, .int b]) (rest := rest) hM hE hX hl (c_X4_about l hfl γ L F o ad tg M nd D hRc hI a b) hRc.1.1 hRc.1.2.2 rfl k_379 k_380 k_381 k_1 k_382 ⟨rfl, by decide, by decide, by decide +kernel⟩ hR rfl rfl hW hdg hf) hE hX (fun E hno => ?_) (fun r9 L1 F1 H1 locs1 hp hX1 => ?_)
  · rcases hno with ⟨-, ht⟩ | ⟨-, ht⟩
    · exact o_absurd ht.2 h0
    · exact o_absurd ht.2 h0
  · obtain ⟨rfl, rfl, e9⟩ := hp
    rw [e9] at h
    cases h
    exact kk _ _ H1 locs1 hX1 ⟨ad, tg, nd, D, hRc, hI, hnd, hz⟩
set_option maxHeartbeats 4000000 in
theorem O_lineOf {a b x : Int32} (hfl : l.stackTraces = false) (hM : kM p s m args meth c cc nL ret "InvoicebridgeLaw") (hE : kE γ A s) (hX : kX γ A s L F H locs) (hO : Ob γ o M n L F) (hl : lv_has ls nL lv) (h : (lineOfM M a b x).1 = r) (h0 : (lineOfM M a b x).2 24 0 = 0) (hR : (kRm 4 3 18).frames + 1 ≤ R.frames ∧ 8 + (5 + 11) + (kRm 4 3 18).locals ≤ R.locals) (hW : (rest.map fun v => v.category).sum ≤ 8) (hf : cells + 3 ≤ R.cells ∧ slots + 18 ≤ R.slots) (hdg : decode cc pc = .ok (.invokevirtual 57, 3))
    (kk : ∀ (L : List Nat) (F : kF) (H : Heap) (locs : List Loc), kX γ A s L F H locs → Ob γ o M n L F → W p l e R s m args below meth c H locs (cells + 3) (slots + 18) Q (F0 m (pc + 3) ls (.int r :: rest))) : W p l e R s m args below meth c H locs cells slots Q (F0 m pc ls (.int x :: .int b :: .int a :: .ref o :: rest)) := by
  obtain ⟨ad, tg, nd, D, hRc, hI, hnd, hz⟩ := hO
  refine o_goi (x_V (n := 3) (As := [.int a, .int b, .int x]) (rest := rest) hM hE hX hl (c_X4_lineOf l hfl γ L F o ad tg M nd D hRc hI a b x) hRc.1.1 hRc.1.2.2 rfl k_401 k_402 k_403 k_1 k_404 ⟨rfl, by decide, by decide, by decide +kernel⟩ hR rfl rfl hW hdg hf) hE hX (fun E hno => ?_) (fun r9 L1 F1 H1 locs1 hp hX1 => ?_)
  · rcases hno with ⟨-, ht⟩ | ⟨-, ht⟩
    · exact o_absurd ht.2 h0
    · exact o_absurd ht.2 h0
  · obtain ⟨rfl, rfl, e9⟩ := hp
    rw [e9] at h
    cases h
    exact kk _ _ H1 locs1 hX1 ⟨ad, tg, nd, D, hRc, hI, hnd, hz⟩
set_option maxHeartbeats 4000000 in
theorem O_tax {a b : Int32} (hfl : l.stackTraces = false) (hM : kM p s m args meth c cc nL ret "InvoicebridgeLaw") (hE : kE γ A s) (hX : kX γ A s L F H locs) (hO : Ob γ o M n L F) (hl : lv_has ls nL lv) (h : (taxM M a b).1 = r) (h0 : (taxM M a b).2 24 0 = 0) (hR : (kRm 7 3 18).frames + 1 ≤ R.frames ∧ 8 + (3 + 11) + (kRm 7 3 18).locals ≤ R.locals) (hW : (rest.map fun v => v.category).sum ≤ 8) (hf : cells + 3 ≤ R.cells ∧ slots + 18 ≤ R.slots) (hdg : decode cc pc = .ok (.invokevirtual 72, 3))
    (kk : ∀ (L : List Nat) (F : kF) (H : Heap) (locs : List Loc), kX γ A s L F H locs → Ob γ o M n L F → W p l e R s m args below meth c H locs (cells + 3) (slots + 18) Q (F0 m (pc + 3) ls (.int r :: rest))) : W p l e R s m args below meth c H locs cells slots Q (F0 m pc ls (.int b :: .int a :: .ref o :: rest)) := by
  obtain ⟨ad, tg, nd, D, hRc, hI, hnd, hz⟩ := hO
  refine o_goi (x_V (n := 2) (As := [.int a, .int b]) (rest := rest) hM hE hX hl (c_X4_tax l hfl γ L F o ad tg M nd D hRc hI a b) hRc.1.1 hRc.1.2.2 rfl k_428 k_429 k_430 k_1 k_431 ⟨rfl, by decide, by decide, by decide +kernel⟩ hR rfl rfl hW hdg hf) hE hX (fun E hno => ?_) (fun r9 L1 F1 H1 locs1 hp hX1 => ?_)
  · obtain ⟨-, ht⟩ := hno
    exact o_absurd ht.2 h0
  · obtain ⟨rfl, rfl, e9⟩ := hp
    rw [e9] at h
    cases h
    exact kk _ _ H1 locs1 hX1 ⟨ad, tg, nd, D, hRc, hI, hnd, hz⟩
set_option maxHeartbeats 4000000 in
theorem O_carried {a b : Int32} (hfl : l.stackTraces = false) (hM : kM p s m args meth c cc nL ret "InvoicebridgeLaw") (hE : kE γ A s) (hX : kX γ A s L F H locs) (hO : Ob γ o M n L F) (hl : lv_has ls nL lv) (h : (carriedM M a b).1 = r) (h0 : (carriedM M a b).2 24 0 = 0) (hR : (kRm 7 3 18).frames + 1 ≤ R.frames ∧ 8 + (3 + 11) + (kRm 7 3 18).locals ≤ R.locals) (hW : (rest.map fun v => v.category).sum ≤ 8) (hf : cells + 3 ≤ R.cells ∧ slots + 18 ≤ R.slots) (hdg : decode cc pc = .ok (.invokevirtual 75, 3))
    (kk : ∀ (L : List Nat) (F : kF) (H : Heap) (locs : List Loc), kX γ A s L F H locs → Ob γ o M n L F → W p l e R s m args below meth c H locs (cells + 3) (slots + 18) Q (F0 m (pc + 3) ls (.int r :: rest))) : W p l e R s m args below meth c H locs cells slots Q (F0 m pc ls (.int b :: .int a :: .ref o :: rest)) := by
  obtain ⟨ad, tg, nd, D, hRc, hI, hnd, hz⟩ := hO
  refine o_goi (x_V (n := 2) (As := [.int a, .int b]) (rest := rest) hM hE hX hl (c_X4_carried l hfl γ L F o ad tg M nd D hRc hI a b) hRc.1.1 hRc.1.2.2 rfl k_465 k_466 k_467 k_1 k_468 ⟨rfl, by decide, by decide, by decide +kernel⟩ hR rfl rfl hW hdg hf) hE hX (fun E hno => ?_) (fun r9 L1 F1 H1 locs1 hp hX1 => ?_)
  · obtain ⟨-, ht⟩ := hno
    exact o_absurd ht.2 h0
  · obtain ⟨rfl, rfl, e9⟩ := hp
    rw [e9] at h
    cases h
    exact kk _ _ H1 locs1 hX1 ⟨ad, tg, nd, D, hRc, hI, hnd, hz⟩
set_option maxHeartbeats 4000000 in
theorem O_owedTo {a : Int32} (hfl : l.stackTraces = false) (hM : kM p s m args meth c cc nL ret "InvoicebridgeLaw") (hE : kE γ A s) (hX : kX γ A s L F H locs) (hO : Ob γ o M n L F) (hl : lv_has ls nL lv) (h : (owedToM M a).1 = r) (h0 : (owedToM M a).2 24 0 = 0) (hR : (kRm 4 1 6).frames + 1 ≤ R.frames ∧ 8 + (5 + 11) + (kRm 4 1 6).locals ≤ R.locals) (hW : (rest.map fun v => v.category).sum ≤ 8) (hf : cells + 1 ≤ R.cells ∧ slots + 6 ≤ R.slots) (hdg : decode cc pc = .ok (.invokevirtual 66, 3))
    (kk : ∀ (L : List Nat) (F : kF) (H : Heap) (locs : List Loc), kX γ A s L F H locs → Ob γ o M n L F → W p l e R s m args below meth c H locs (cells + 1) (slots + 6) Q (F0 m (pc + 3) ls (.int r :: rest))) : W p l e R s m args below meth c H locs cells slots Q (F0 m pc ls (.int a :: .ref o :: rest)) := by
  obtain ⟨ad, tg, nd, D, hRc, hI, hnd, hz⟩ := hO
  refine o_goi (x_V (n := 1) (As := [.int a]) (rest := rest) hM hE hX hl (c_X4_owedTo l hfl γ L F o ad tg M nd D hRc hI a) hRc.1.1 hRc.1.2.2 rfl k_420 k_421 k_422 k_1 k_423 ⟨rfl, by decide, by decide, by decide +kernel⟩ hR rfl rfl hW hdg hf) hE hX (fun E hno => ?_) (fun r9 L1 F1 H1 locs1 hp hX1 => ?_)
  · obtain ⟨-, ht⟩ := hno
    exact o_absurd ht.2 h0
  · obtain ⟨rfl, rfl, e9⟩ := hp
    rw [e9] at h
    cases h
    exact kk _ _ H1 locs1 hX1 ⟨ad, tg, nd, D, hRc, hI, hnd, hz⟩
set_option maxHeartbeats 4000000 in
theorem O_owes {a : Int32} (hfl : l.stackTraces = false) (hM : kM p s m args meth c cc nL ret "InvoicebridgeLaw") (hE : kE γ A s) (hX : kX γ A s L F H locs) (hO : Ob γ o M n L F) (hl : lv_has ls nL lv) (h : (owesM M a).1 = r) (h0 : (owesM M a).2 24 0 = 0) (hR : (kRm 4 1 6).frames + 1 ≤ R.frames ∧ 8 + (5 + 11) + (kRm 4 1 6).locals ≤ R.locals) (hW : (rest.map fun v => v.category).sum ≤ 8) (hf : cells + 1 ≤ R.cells ∧ slots + 6 ≤ R.slots) (hdg : decode cc pc = .ok (.invokevirtual 69, 3))
    (kk : ∀ (L : List Nat) (F : kF) (H : Heap) (locs : List Loc), kX γ A s L F H locs → Ob γ o M n L F → W p l e R s m args below meth c H locs (cells + 1) (slots + 6) Q (F0 m (pc + 3) ls (.int r :: rest))) : W p l e R s m args below meth c H locs cells slots Q (F0 m pc ls (.int a :: .ref o :: rest)) := by
  obtain ⟨ad, tg, nd, D, hRc, hI, hnd, hz⟩ := hO
  refine o_goi (x_V (n := 1) (As := [.int a]) (rest := rest) hM hE hX hl (c_X4_owes l hfl γ L F o ad tg M nd D hRc hI a) hRc.1.1 hRc.1.2.2 rfl k_424 k_425 k_426 k_1 k_427 ⟨rfl, by decide, by decide, by decide +kernel⟩ hR rfl rfl hW hdg hf) hE hX (fun E hno => ?_) (fun r9 L1 F1 H1 locs1 hp hX1 => ?_)
  · obtain ⟨-, ht⟩ := hno
    exact o_absurd ht.2 h0
  · obtain ⟨rfl, rfl, e9⟩ := hp
    rw [e9] at h
    cases h
    exact kk _ _ H1 locs1 hX1 ⟨ad, tg, nd, D, hRc, hI, hnd, hz⟩
set_option maxHeartbeats 4000000 in
theorem O_cashAnew {a : Int32} (hfl : l.stackTraces = false) (hM : kM p s m args meth c cc nL ret "InvoicebridgeLaw") (hE : kE γ A s) (hX : kX γ A s L F H locs) (hO : Ob γ o M n L F) (hl : lv_has ls nL lv) (hn : n < 512) (h : (cashAnewM M a).1 = r) (h0 : (cashAnewM M a).2 24 0 = 0) (hR : (kRm 4 1 6).frames + 1 ≤ R.frames ∧ 8 + (5 + 11) + (kRm 4 1 6).locals ≤ R.locals) (hW : (rest.map fun v => v.category).sum ≤ 8) (hf : cells + 1 ≤ R.cells ∧ slots + 6 ≤ R.slots) (hdg : decode cc pc = .ok (.invokevirtual 63, 3))
    (kk : ∀ (L : List Nat) (F : kF) (H : Heap) (locs : List Loc), kX γ A s L F H locs → Ob γ o M n L F → W p l e R s m args below meth c H locs (cells + 1) (slots + 6) Q (F0 m (pc + 3) ls (.int r :: rest))) : W p l e R s m args below meth c H locs cells slots Q (F0 m pc ls (.int a :: .ref o :: rest)) := by
  obtain ⟨ad, tg, nd, D, hRc, hI, hnd, hz⟩ := hO
  refine o_goi (x_V (n := 1) (As := [.int a]) (rest := rest) hM hE hX hl (c_X4_cashAnew l hfl γ L F o ad tg M nd D hRc hI a (by omega)) hRc.1.1 hRc.1.2.2 rfl k_416 k_417 k_418 k_1 k_419 ⟨rfl, by decide, by decide, by decide +kernel⟩ hR rfl rfl hW hdg hf) hE hX (fun E hno => ?_) (fun r9 L1 F1 H1 locs1 hp hX1 => ?_)
  · obtain ⟨-, ht⟩ := hno
    exact o_absurd ht.2 h0
  · obtain ⟨rfl, rfl, e9⟩ := hp
    rw [e9] at h
    cases h
    exact kk _ _ H1 locs1 hX1 ⟨ad, tg, nd, D, hRc, hI, hnd, hz⟩
set_option maxHeartbeats 4000000 in
theorem O_chain {a : Int32} (hfl : l.stackTraces = false) (hM : kM p s m args meth c cc nL ret "InvoicebridgeLaw") (hE : kE γ A s) (hX : kX γ A s L F H locs) (hO : Ob γ o M n L F) (hl : lv_has ls nL lv) (h : (chainM M a).1 = r) (h0 : (chainM M a).2 24 0 = 0) (hR : (kRm 5 1 6).frames + 1 ≤ R.frames ∧ 8 + (5 + 11) + (kRm 5 1 6).locals ≤ R.locals) (hW : (rest.map fun v => v.category).sum ≤ 8) (hf : cells + 1 ≤ R.cells ∧ slots + 6 ≤ R.slots) (hdg : decode cc pc = .ok (.invokevirtual 78, 3))
    (kk : ∀ (L : List Nat) (F : kF) (H : Heap) (locs : List Loc), kX γ A s L F H locs → Ob γ o M n L F → W p l e R s m args below meth c H locs (cells + 1) (slots + 6) Q (F0 m (pc + 3) ls (.int r :: rest))) : W p l e R s m args below meth c H locs cells slots Q (F0 m pc ls (.int a :: .ref o :: rest)) := by
  obtain ⟨ad, tg, nd, D, hRc, hI, hnd, hz⟩ := hO
  refine o_goi (x_V (n := 1) (As := [.int a]) (rest := rest) hM hE hX hl (c_X4_chain l hfl γ L F o ad tg M nd D hRc hI a) hRc.1.1 hRc.1.2.2 rfl k_469 k_470 k_471 k_1 k_472 ⟨rfl, by decide, by decide, by decide +kernel⟩ hR rfl rfl hW hdg hf) hE hX (fun E hno => ?_) (fun r9 L1 F1 H1 locs1 hp hX1 => ?_)
  · obtain ⟨-, ht⟩ := hno
    exact o_absurd ht.2 h0
  · obtain ⟨rfl, rfl, e9⟩ := hp
    rw [e9] at h
    cases h
    exact kk _ _ H1 locs1 hX1 ⟨ad, tg, nd, D, hRc, hI, hnd, hz⟩
set_option maxHeartbeats 4000000 in
theorem O_accept {a : Int32} (hfl : l.stackTraces = false) (hM : kM p s m args meth c cc nL ret "InvoicebridgeLaw") (hE : kE γ A s) (hX : kX γ A s L F H locs) (hO : Ob γ o M n L F) (hl : lv_has ls nL lv) (h : acceptM M a = (r, M1)) (h0 : M1 24 0 = 0) (hR : (kRm 4 2 12).frames + 1 ≤ R.frames ∧ 8 + (3 + 11) + (kRm 4 2 12).locals ≤ R.locals) (hW : (rest.map fun v => v.category).sum ≤ 8) (hf : cells + 2 ≤ R.cells ∧ slots + 12 ≤ R.slots) (hdg : decode cc pc = .ok (.invokevirtual 17, 3))
    (kk : ∀ (L : List Nat) (F : kF) (H : Heap) (locs : List Loc), kX γ A s L F H locs → Ob γ o M1 (n + 1) L F → W p l e R s m args below meth c H locs (cells + 2) (slots + 12) Q (F0 m (pc + 3) ls (.int r :: rest))) : W p l e R s m args below meth c H locs cells slots Q (F0 m pc ls (.int a :: .ref o :: rest)) := by
  obtain ⟨ad, tg, nd, D, hRc, hI, hnd, hz⟩ := hO
  refine o_goi (x_V (n := 1) (As := [.int a]) (rest := rest) hM hE hX hl (c_X4_accept l hfl γ L F o ad tg M nd D hRc hI a) hRc.1.1 hRc.1.2.2 rfl k_605 k_606 k_607 k_1 k_608 ⟨rfl, by decide, by decide, by decide +kernel⟩ hR rfl rfl hW hdg hf) hE hX (fun E hno => ?_) (fun r9 L1 F1 H1 locs1 hp hX1 => ?_)
  · rcases hno with ⟨-, ht⟩ | ⟨-, ht⟩
    · exact o_absurd ht.2 (by rw [h]; exact h0)
    · exact o_absurd ht.2 (by rw [h]; exact h0)
  · obtain ⟨M9, ad1, tg1, nd1, D1, e9, z9, -, hR1, hI1, hn1⟩ := hp
    rw [h] at e9
    cases e9
    exact kk L1 F1 H1 locs1 hX1 ⟨ad1, tg1, nd1, D1, hR1, hI1, by omega, z9⟩
set_option maxHeartbeats 4000000 in
theorem O_refuse {a : Int32} (hfl : l.stackTraces = false) (hM : kM p s m args meth c cc nL ret "InvoicebridgeLaw") (hE : kE γ A s) (hX : kX γ A s L F H locs) (hO : Ob γ o M n L F) (hl : lv_has ls nL lv) (h : refuseM M a = (r, M1)) (h0 : M1 24 0 = 0) (hR : (kRm 4 2 12).frames + 1 ≤ R.frames ∧ 8 + (3 + 11) + (kRm 4 2 12).locals ≤ R.locals) (hW : (rest.map fun v => v.category).sum ≤ 8) (hf : cells + 2 ≤ R.cells ∧ slots + 12 ≤ R.slots) (hdg : decode cc pc = .ok (.invokevirtual 21, 3))
    (kk : ∀ (L : List Nat) (F : kF) (H : Heap) (locs : List Loc), kX γ A s L F H locs → Ob γ o M1 (n + 1) L F → W p l e R s m args below meth c H locs (cells + 2) (slots + 12) Q (F0 m (pc + 3) ls (.int r :: rest))) : W p l e R s m args below meth c H locs cells slots Q (F0 m pc ls (.int a :: .ref o :: rest)) := by
  obtain ⟨ad, tg, nd, D, hRc, hI, hnd, hz⟩ := hO
  refine o_goi (x_V (n := 1) (As := [.int a]) (rest := rest) hM hE hX hl (c_X4_refuse l hfl γ L F o ad tg M nd D hRc hI a) hRc.1.1 hRc.1.2.2 rfl k_609 k_610 k_611 k_1 k_612 ⟨rfl, by decide, by decide, by decide +kernel⟩ hR rfl rfl hW hdg hf) hE hX (fun E hno => ?_) (fun r9 L1 F1 H1 locs1 hp hX1 => ?_)
  · rcases hno with ⟨-, ht⟩ | ⟨-, ht⟩
    · exact o_absurd ht.2 (by rw [h]; exact h0)
    · exact o_absurd ht.2 (by rw [h]; exact h0)
  · obtain ⟨M9, ad1, tg1, nd1, D1, e9, z9, -, hR1, hI1, hn1⟩ := hp
    rw [h] at e9
    cases e9
    exact kk L1 F1 H1 locs1 hX1 ⟨ad1, tg1, nd1, D1, hR1, hI1, by omega, z9⟩
set_option maxHeartbeats 4000000 in
theorem O_dispute {a b : Int32} (hfl : l.stackTraces = false) (hM : kM p s m args meth c cc nL ret "InvoicebridgeLaw") (hE : kE γ A s) (hX : kX γ A s L F H locs) (hO : Ob γ o M n L F) (hl : lv_has ls nL lv) (h : disputeM M a b = (r, M1)) (h0 : M1 24 0 = 0) (hR : (kRm 4 3 18).frames + 1 ≤ R.frames ∧ 8 + (5 + 11) + (kRm 4 3 18).locals ≤ R.locals) (hW : (rest.map fun v => v.category).sum ≤ 8) (hf : cells + 3 ≤ R.cells ∧ slots + 18 ≤ R.slots) (hdg : decode cc pc = .ok (.invokevirtual 27, 3))
    (kk : ∀ (L : List Nat) (F : kF) (H : Heap) (locs : List Loc), kX γ A s L F H locs → Ob γ o M1 (n + 1) L F → W p l e R s m args below meth c H locs (cells + 3) (slots + 18) Q (F0 m (pc + 3) ls (.int r :: rest))) : W p l e R s m args below meth c H locs cells slots Q (F0 m pc ls (.int b :: .int a :: .ref o :: rest)) := by
  obtain ⟨ad, tg, nd, D, hRc, hI, hnd, hz⟩ := hO
  refine o_goi (x_V (n := 2) (As := [.int a, .int b]) (rest := rest) hM hE hX hl (c_X4_dispute l hfl γ L F o ad tg M nd D hRc hI a b) hRc.1.1 hRc.1.2.2 rfl k_643 k_644 k_645 k_1 k_646 ⟨rfl, by decide, by decide, by decide +kernel⟩ hR rfl rfl hW hdg hf) hE hX (fun E hno => ?_) (fun r9 L1 F1 H1 locs1 hp hX1 => ?_)
  · rcases hno with ⟨-, ht⟩ | ⟨-, ht⟩
    · exact o_absurd ht.2 (by rw [h]; exact h0)
    · exact o_absurd ht.2 (by rw [h]; exact h0)
  · obtain ⟨M9, ad1, tg1, nd1, D1, e9, z9, -, hR1, hI1, hn1⟩ := hp
    rw [h] at e9
    cases e9
    exact kk L1 F1 H1 locs1 hX1 ⟨ad1, tg1, nd1, D1, hR1, hI1, by omega, z9⟩
set_option maxHeartbeats 4000000 in
theorem O_pass {a : Int32} (hfl : l.stackTraces = false) (hM : kM p s m args meth c cc nL ret "InvoicebridgeLaw") (hE : kE γ A s) (hX : kX γ A s L F H locs) (hO : Ob γ o M n L F) (hl : lv_has ls nL lv) (h : passM M a = (r, M1)) (h0 : M1 24 0 = 0) (hR : (kRm 1 1 6).frames + 1 ≤ R.frames ∧ 8 + (2 + 11) + (kRm 1 1 6).locals ≤ R.locals) (hW : (rest.map fun v => v.category).sum ≤ 8) (hf : cells + 1 ≤ R.cells ∧ slots + 6 ≤ R.slots) (hdg : decode cc pc = .ok (.invokevirtual 51, 3))
    (kk : ∀ (L : List Nat) (F : kF) (H : Heap) (locs : List Loc), kX γ A s L F H locs → Ob γ o M1 (n + 1) L F → W p l e R s m args below meth c H locs (cells + 1) (slots + 6) Q (F0 m (pc + 3) ls (.int r :: rest))) : W p l e R s m args below meth c H locs cells slots Q (F0 m pc ls (.int a :: .ref o :: rest)) := by
  obtain ⟨ad, tg, nd, D, hRc, hI, hnd, hz⟩ := hO
  refine o_goi (x_V (n := 1) (As := [.int a]) (rest := rest) hM hE hX hl (c_X4_pass l hfl γ L F o ad tg M nd D hRc hI a) hRc.1.1 hRc.1.2.2 rfl k_370 k_371 k_372 k_1 k_373 ⟨rfl, by decide, by decide, by decide +kernel⟩ hR rfl rfl hW hdg hf) hE hX (fun E hno => ?_) (fun r9 L1 F1 H1 locs1 hp hX1 => ?_)
  · rcases hno with ⟨-, ht⟩ | ⟨-, ht⟩
    · exact o_absurd ht.2 (by rw [h]; exact h0)
    · exact o_absurd ht.2 (by rw [h]; exact h0)
  · obtain ⟨M9, ad1, tg1, nd1, D1, e9, z9, -, hR1, hI1, hn1⟩ := hp
    rw [h] at e9
    cases e9
    exact kk L1 F1 H1 locs1 hX1 ⟨ad1, tg1, nd1, D1, hR1, hI1, by omega, z9⟩
set_option maxHeartbeats 4000000 in
theorem O_type {a : Int32} (hfl : l.stackTraces = false) (hM : kM p s m args meth c cc nL ret "InvoicebridgeLaw") (hE : kE γ A s) (hX : kX γ A s L F H locs) (hO : Ob γ o M n L F) (hl : lv_has ls nL lv) (h : typeM M a = (r, M1)) (h0 : M1 24 0 = 0) (hR : (kRm 3 1 6).frames + 1 ≤ R.frames ∧ 8 + (2 + 11) + (kRm 3 1 6).locals ≤ R.locals) (hW : (rest.map fun v => v.category).sum ≤ 8) (hf : cells + 1 ≤ R.cells ∧ slots + 6 ≤ R.slots) (hdg : decode cc pc = .ok (.invokevirtual 42, 3))
    (kk : ∀ (L : List Nat) (F : kF) (H : Heap) (locs : List Loc), kX γ A s L F H locs → Ob γ o M1 (n + 1) L F → W p l e R s m args below meth c H locs (cells + 1) (slots + 6) Q (F0 m (pc + 3) ls (.int r :: rest))) : W p l e R s m args below meth c H locs cells slots Q (F0 m pc ls (.int a :: .ref o :: rest)) := by
  obtain ⟨ad, tg, nd, D, hRc, hI, hnd, hz⟩ := hO
  refine o_goi (x_V (n := 1) (As := [.int a]) (rest := rest) hM hE hX hl (c_X4_type l hfl γ L F o ad tg M nd D hRc hI a) hRc.1.1 hRc.1.2.2 rfl k_673 k_674 k_675 k_1 k_676 ⟨rfl, by decide, by decide, by decide +kernel⟩ hR rfl rfl hW hdg hf) hE hX (fun E hno => ?_) (fun r9 L1 F1 H1 locs1 hp hX1 => ?_)
  · rcases hno with ⟨-, ht⟩ | ⟨-, ht⟩
    · exact o_absurd ht.2 (by rw [h]; exact h0)
    · exact o_absurd ht.2 (by rw [h]; exact h0)
  · obtain ⟨M9, ad1, tg1, nd1, D1, e9, z9, -, hR1, hI1, hn1⟩ := hp
    rw [h] at e9
    cases e9
    exact kk L1 F1 H1 locs1 hX1 ⟨ad1, tg1, nd1, D1, hR1, hI1, by omega, z9⟩
set_option maxHeartbeats 4000000 in
theorem O_clear (hM : kM p s m args meth c cc nL ret "InvoicebridgeLaw") (hE : kE γ A s) (hX : kX γ A s L F H locs) (hO : Ob γ o M n L F) (hl : lv_has ls nL lv) (h : clearM M = (r, M1)) (hR : (kRm 3 0 0).frames + 1 ≤ R.frames ∧ 8 + (2 + 11) + (kRm 3 0 0).locals ≤ R.locals) (hW : (rest.map fun v => v.category).sum ≤ 8) (hf : cells + 0 ≤ R.cells ∧ slots + 0 ≤ R.slots) (hdg : decode cc pc = .ok (.invokevirtual 105, 3))
    (kk : ∀ (L : List Nat) (F : kF) (H : Heap) (locs : List Loc), kX γ A s L F H locs → Ob γ o M1 (n + 1) L F → W p l e R s m args below meth c H locs (cells + 0) (slots + 0) Q (F0 m (pc + 3) ls (.int r :: rest))) : W p l e R s m args below meth c H locs cells slots Q (F0 m pc ls (.ref o :: rest)) := by
  obtain ⟨ad, tg, nd, D, hRc, hI, hnd, hz⟩ := hO
  refine k_goi (k_V (n := 0) (As := []) (rest := rest) hM hE hX hl (c_X4_clear l γ L F o ad tg M nd D hRc hI) hRc.1.1 hRc.1.2.2 rfl k_1003 k_1004 k_1005 k_1 k_1006 ⟨rfl, by decide, by decide, by decide +kernel⟩ hR rfl rfl hW hdg hf) hE hX (fun r9 L1 F1 H1 locs1 hp hX1 => ?_)
  obtain ⟨M9, ad1, tg1, nd1, D1, e9, z9, -, hR1, hI1, hn1⟩ := hp
  rw [h] at e9
  cases e9
  exact kk L1 F1 H1 locs1 hX1 ⟨ad1, tg1, nd1, D1, hR1, hI1, by omega, z9⟩
set_option maxHeartbeats 4000000 in
theorem O_sell {a b x z : Int32} (hfl : l.stackTraces = false) (hM : kM p s m args meth c cc nL ret "InvoicebridgeLaw") (hE : kE γ A s) (hX : kX γ A s L F H locs) (hO : Ob γ o M n L F) (hl : lv_has ls nL lv) (hn : n < 512) (hz01 : z = 0 ∨ z = 1) (h : sellM M a b x z = (r, M1)) (h0 : M1 24 0 = 0) (hR : (kRm 7 6 1100).frames + 1 ≤ R.frames ∧ 8 + (6 + 11) + (kRm 7 6 1100).locals ≤ R.locals) (hW : (rest.map fun v => v.category).sum ≤ 8) (hf : cells + 6 ≤ R.cells ∧ slots + 1100 ≤ R.slots) (hdg : decode cc pc = .ok (.invokevirtual 35, 3))
    (kk : ∀ (L : List Nat) (F : kF) (H : Heap) (locs : List Loc), kX γ A s L F H locs → Ob γ o M1 (n + 1) L F → W p l e R s m args below meth c H locs (cells + 6) (slots + 1100) Q (F0 m (pc + 3) ls (.int r :: rest))) : W p l e R s m args below meth c H locs cells slots Q (F0 m pc ls (.int z :: .int x :: .int b :: .int a :: .ref o :: rest)) := by
  obtain ⟨ad, tg, nd, D, hRc, hI, hnd, hz⟩ := hO
  refine o_goi (x_V (n := 4) (As := [.int a, .int b, .int x, .int z]) (rest := rest) hM hE hX hl (c_X4_sell l hfl γ L F o ad tg M nd D hRc hI (by omega) a b x z hz01) hRc.1.1 hRc.1.2.2 rfl k_655 k_656 k_657 k_1 k_658 ⟨rfl, by decide, by decide, by decide +kernel⟩ hR rfl rfl hW hdg hf) hE hX (fun E hno => ?_) (fun r9 L1 F1 H1 locs1 hp hX1 => ?_)
  · rcases hno with ⟨-, ht⟩ | ⟨-, ht⟩ | ⟨-, ht⟩
    · exact o_absurd ht.2 (by rw [h]; exact h0)
    · exact o_absurd ht.2 (by rw [h]; exact h0)
    · exact o_absurd ht.2 (by rw [h]; exact h0)
  · obtain ⟨M9, ad1, tg1, nd1, D1, e9, z9, -, hR1, hI1, hn1⟩ := hp
    rw [h] at e9
    cases e9
    exact kk L1 F1 H1 locs1 hX1 ⟨ad1, tg1, nd1, D1, hR1, hI1, by omega, z9⟩
set_option maxHeartbeats 4000000 in
theorem O_giveBack {a : Int32} (hfl : l.stackTraces = false) (hM : kM p s m args meth c cc nL ret "InvoicebridgeLaw") (hE : kE γ A s) (hX : kX γ A s L F H locs) (hO : Ob γ o M n L F) (hl : lv_has ls nL lv) (hn : n < 512) (h : giveBackM M a = (r, M1)) (h0 : M1 24 0 = 0) (hR : (kRm 7 6 1100).frames + 1 ≤ R.frames ∧ 8 + (3 + 11) + (kRm 7 6 1100).locals ≤ R.locals) (hW : (rest.map fun v => v.category).sum ≤ 8) (hf : cells + 6 ≤ R.cells ∧ slots + 1100 ≤ R.slots) (hdg : decode cc pc = .ok (.invokevirtual 39, 3))
    (kk : ∀ (L : List Nat) (F : kF) (H : Heap) (locs : List Loc), kX γ A s L F H locs → Ob γ o M1 (n + 1) L F → W p l e R s m args below meth c H locs (cells + 6) (slots + 1100) Q (F0 m (pc + 3) ls (.int r :: rest))) : W p l e R s m args below meth c H locs cells slots Q (F0 m pc ls (.int a :: .ref o :: rest)) := by
  obtain ⟨ad, tg, nd, D, hRc, hI, hnd, hz⟩ := hO
  refine o_goi (x_V (n := 1) (As := [.int a]) (rest := rest) hM hE hX hl (c_X4_giveBack l hfl γ L F o ad tg M nd D hRc hI (by omega) a) hRc.1.1 hRc.1.2.2 rfl k_667 k_668 k_669 k_1 k_670 ⟨rfl, by decide, by decide, by decide +kernel⟩ hR rfl rfl hW hdg hf) hE hX (fun E hno => ?_) (fun r9 L1 F1 H1 locs1 hp hX1 => ?_)
  · rcases hno with ⟨-, ht⟩ | ⟨-, ht⟩
    · exact o_absurd ht.2 (by rw [h]; exact h0)
    · exact o_absurd ht.2 (by rw [h]; exact h0)
  · obtain ⟨M9, ad1, tg1, nd1, D1, e9, z9, -, hR1, hI1, hn1⟩ := hp
    rw [h] at e9
    cases e9
    exact kk L1 F1 H1 locs1 hX1 ⟨ad1, tg1, nd1, D1, hR1, hI1, by omega, z9⟩
set_option maxHeartbeats 4000000 in
theorem O_payBySum {a b x : Int32} (hfl : l.stackTraces = false) (hM : kM p s m args meth c cc nL ret "InvoicebridgeLaw") (hE : kE γ A s) (hX : kX γ A s L F H locs) (hO : Ob γ o M n L F) (hl : lv_has ls nL lv) (hn : n < 512) (h : paySumM M a b x = (r, M1)) (h0 : M1 24 0 = 0) (hR : (kRm 8 7 1100).frames + 1 ≤ R.frames ∧ 8 + (6 + 11) + (kRm 8 7 1100).locals ≤ R.locals) (hW : (rest.map fun v => v.category).sum ≤ 8) (hf : cells + 7 ≤ R.cells ∧ slots + 1100 ≤ R.slots) (hdg : decode cc pc = .ok (.invokevirtual 48, 3))
    (kk : ∀ (L : List Nat) (F : kF) (H : Heap) (locs : List Loc), kX γ A s L F H locs → Ob γ o M1 (n + 1) L F → W p l e R s m args below meth c H locs (cells + 7) (slots + 1100) Q (F0 m (pc + 3) ls (.int r :: rest))) : W p l e R s m args below meth c H locs cells slots Q (F0 m pc ls (.int x :: .int b :: .int a :: .ref o :: rest)) := by
  obtain ⟨ad, tg, nd, D, hRc, hI, hnd, hz⟩ := hO
  refine o_goi (x_V (n := 3) (As := [.int a, .int b, .int x]) (rest := rest) hM hE hX hl (c_X4_payBySum l hfl γ L F o ad tg M nd D hRc hI (by omega) a b x) hRc.1.1 hRc.1.2.2 rfl k_117 k_118 k_119 k_1 k_120 ⟨rfl, by decide, by decide, by decide +kernel⟩ hR rfl rfl hW hdg hf) hE hX (fun E hno => ?_) (fun r9 L1 F1 H1 locs1 hp hX1 => ?_)
  · rcases hno with ⟨-, ht⟩ | ⟨-, ht⟩ | ⟨-, ht⟩
    · exact o_absurd ht.2 (by rw [h]; exact h0)
    · exact o_absurd ht.2 (by rw [h]; exact h0)
    · exact o_absurd ht.2 (by rw [h]; exact h0)
  · obtain ⟨M9, ad1, tg1, nd1, D1, e9, z9, -, hR1, hI1, hn1⟩ := hp
    rw [h] at e9
    cases e9
    exact kk L1 F1 H1 locs1 hX1 ⟨ad1, tg1, nd1, D1, hR1, hI1, by omega, z9⟩
set_option maxHeartbeats 4000000 in
theorem O_payByText {a b x : Int32} (hfl : l.stackTraces = false) (hM : kM p s m args meth c cc nL ret "InvoicebridgeLaw") (hE : kE γ A s) (hX : kX γ A s L F H locs) (hO : Ob γ o M n L F) (hl : lv_has ls nL lv) (hn : n < 512) (h : payTextM M a b x = (r, M1)) (h0 : M1 24 0 = 0) (hR : (kRm 8 7 1100).frames + 1 ≤ R.frames ∧ 8 + (6 + 11) + (kRm 8 7 1100).locals ≤ R.locals) (hW : (rest.map fun v => v.category).sum ≤ 8) (hf : cells + 7 ≤ R.cells ∧ slots + 1100 ≤ R.slots) (hdg : decode cc pc = .ok (.invokevirtual 45, 3))
    (kk : ∀ (L : List Nat) (F : kF) (H : Heap) (locs : List Loc), kX γ A s L F H locs → Ob γ o M1 (n + 1) L F → W p l e R s m args below meth c H locs (cells + 7) (slots + 1100) Q (F0 m (pc + 3) ls (.int r :: rest))) : W p l e R s m args below meth c H locs cells slots Q (F0 m pc ls (.int x :: .int b :: .int a :: .ref o :: rest)) := by
  obtain ⟨ad, tg, nd, D, hRc, hI, hnd, hz⟩ := hO
  refine o_goi (x_V (n := 3) (As := [.int a, .int b, .int x]) (rest := rest) hM hE hX hl (c_X4_payByText l hfl γ L F o ad tg M nd D hRc hI (by omega) a b x) hRc.1.1 hRc.1.2.2 rfl k_764 k_765 k_766 k_1 k_767 ⟨rfl, by decide, by decide, by decide +kernel⟩ hR rfl rfl hW hdg hf) hE hX (fun E hno => ?_) (fun r9 L1 F1 H1 locs1 hp hX1 => ?_)
  · rcases hno with ⟨-, ht⟩ | ⟨-, ht⟩ | ⟨-, ht⟩
    · exact o_absurd ht.2 (by rw [h]; exact h0)
    · exact o_absurd ht.2 (by rw [h]; exact h0)
    · exact o_absurd ht.2 (by rw [h]; exact h0)
  · obtain ⟨M9, ad1, tg1, nd1, D1, e9, z9, -, hR1, hI1, hn1⟩ := hp
    rw [h] at e9
    cases e9
    exact kk L1 F1 H1 locs1 hX1 ⟨ad1, tg1, nd1, D1, hR1, hI1, by omega, z9⟩
set_option maxHeartbeats 4000000 in
theorem O_credit {a b x : Int32} (hfl : l.stackTraces = false) (hM : kM p s m args meth c cc nL ret "InvoicebridgeLaw") (hE : kE γ A s) (hX : kX γ A s L F H locs) (hO : Ob γ o M n L F) (hl : lv_has ls nL lv) (h : creditM M a b x = (r, M1)) (h0 : M1 24 0 = 0) (hR : (kRm 7 6 1100).frames + 1 ≤ R.frames ∧ 8 + (6 + 11) + (kRm 7 6 1100).locals ≤ R.locals) (hW : (rest.map fun v => v.category).sum ≤ 8) (hf : cells + 6 ≤ R.cells ∧ slots + 1100 ≤ R.slots) (hdg : decode cc pc = .ok (.invokevirtual 24, 3))
    (kk : ∀ (L : List Nat) (F : kF) (H : Heap) (locs : List Loc), kX γ A s L F H locs → Ob γ o M1 (n + 1) L F → W p l e R s m args below meth c H locs (cells + 6) (slots + 1100) Q (F0 m (pc + 3) ls (.int r :: rest))) : W p l e R s m args below meth c H locs cells slots Q (F0 m pc ls (.int x :: .int b :: .int a :: .ref o :: rest)) := by
  obtain ⟨ad, tg, nd, D, hRc, hI, hnd, hz⟩ := hO
  refine o_goi (x_V (n := 3) (As := [.int a, .int b, .int x]) (rest := rest) hM hE hX hl (c_X4_credit l hfl γ L F o ad tg M nd D hRc hI a b x) hRc.1.1 hRc.1.2.2 rfl k_613 k_614 k_615 k_1 k_616 ⟨rfl, by decide, by decide, by decide +kernel⟩ hR rfl rfl hW hdg hf) hE hX (fun E hno => ?_) (fun r9 L1 F1 H1 locs1 hp hX1 => ?_)
  · rcases hno with ⟨-, ht⟩ | ⟨-, ht⟩ | ⟨-, ht⟩
    · exact o_absurd ht.2 (by rw [h]; exact h0)
    · exact o_absurd ht.2 (by rw [h]; exact h0)
    · exact o_absurd ht.2 (by rw [h]; exact h0)
  · obtain ⟨M9, ad1, tg1, nd1, D1, e9, z9, -, hR1, hI1, hn1⟩ := hp
    rw [h] at e9
    cases e9
    exact kk L1 F1 H1 locs1 hX1 ⟨ad1, tg1, nd1, D1, hR1, hI1, by omega, z9⟩
set_option maxHeartbeats 4000000 in
theorem O_settle {a b z : Int32} (hfl : l.stackTraces = false) (hM : kM p s m args meth c cc nL ret "InvoicebridgeLaw") (hE : kE γ A s) (hX : kX γ A s L F H locs) (hO : Ob γ o M n L F) (hl : lv_has ls nL lv) (h : settleM M a b z = (r, M1)) (h0 : M1 24 0 = 0) (hR : (kRm 7 6 1100).frames + 1 ≤ R.frames ∧ 8 + (6 + 11) + (kRm 7 6 1100).locals ≤ R.locals) (hW : (rest.map fun v => v.category).sum ≤ 8) (hf : cells + 6 ≤ R.cells ∧ slots + 1100 ≤ R.slots) (hdg : decode cc pc = .ok (.invokevirtual 31, 3))
    (kk : ∀ (L : List Nat) (F : kF) (H : Heap) (locs : List Loc), kX γ A s L F H locs → Ob γ o M1 (n + 1) L F → W p l e R s m args below meth c H locs (cells + 6) (slots + 1100) Q (F0 m (pc + 3) ls (.int r :: rest))) : W p l e R s m args below meth c H locs cells slots Q (F0 m pc ls (.int z :: .int b :: .int a :: .ref o :: rest)) := by
  obtain ⟨ad, tg, nd, D, hRc, hI, hnd, hz⟩ := hO
  refine o_goi (x_V (n := 3) (As := [.int a, .int b, .int z]) (rest := rest) hM hE hX hl (c_X4_settle l hfl γ L F o ad tg M nd D hRc hI a b z) hRc.1.1 hRc.1.2.2 rfl k_650 k_651 k_652 k_1 k_653 ⟨rfl, by decide, by decide, by decide +kernel⟩ hR rfl rfl hW hdg hf) hE hX (fun E hno => ?_) (fun r9 L1 F1 H1 locs1 hp hX1 => ?_)
  · rcases hno with ⟨-, ht⟩ | ⟨-, ht⟩
    · exact o_absurd ht.2 (by rw [h]; exact h0)
    · exact o_absurd ht.2 (by rw [h]; exact h0)
  · obtain ⟨M9, ad1, tg1, nd1, D1, e9, z9, -, hR1, hI1, hn1⟩ := hp
    rw [h] at e9
    cases e9
    exact kk L1 F1 H1 locs1 hX1 ⟨ad1, tg1, nd1, D1, hR1, hI1, by omega, z9⟩
set_option maxHeartbeats 4000000 in
theorem O_addLine {a x y : Int32} (hfl : l.stackTraces = false) (hM : kM p s m args meth c cc nL ret "InvoicebridgeLaw") (hE : kE γ A s) (hX : kX γ A s L F H locs) (hO : Ob γ o M n L F) (hl : lv_has ls nL lv) (h : addLineM M a x y = (r, M1)) (h0 : M1 24 0 = 0) (hR : (kRm 7 7 1100).frames + 1 ≤ R.frames ∧ 8 + (5 + 11) + (kRm 7 7 1100).locals ≤ R.locals) (hW : (rest.map fun v => v.category).sum ≤ 8) (hf : cells + 7 ≤ R.cells ∧ slots + 1100 ≤ R.slots) (hdg : decode cc pc = .ok (.invokevirtual 13, 3))
    (kk : ∀ (L : List Nat) (F : kF) (H : Heap) (locs : List Loc), kX γ A s L F H locs → Ob γ o M1 (n + 1) L F → W p l e R s m args below meth c H locs (cells + 7) (slots + 1100) Q (F0 m (pc + 3) ls (.int r :: rest))) : W p l e R s m args below meth c H locs cells slots Q (F0 m pc ls (.int y :: .int x :: .int a :: .ref o :: rest)) := by
  obtain ⟨ad, tg, nd, D, hRc, hI, hnd, hz⟩ := hO
  refine o_goi (x_V (n := 3) (As := [.int a, .int x, .int y]) (rest := rest) hM hE hX hl (c_X4_addLine l hfl γ L F o ad tg M nd D hRc hI a x y) hRc.1.1 hRc.1.2.2 rfl k_593 k_594 k_595 k_1 k_596 ⟨rfl, by decide, by decide, by decide +kernel⟩ hR rfl rfl hW hdg hf) hE hX (fun E hno => ?_) (fun r9 L1 F1 H1 locs1 hp hX1 => ?_)
  · rcases hno with ⟨-, ht⟩ | ⟨-, ht⟩ | ⟨-, ht⟩
    · exact o_absurd ht.2 (by rw [h]; exact h0)
    · exact o_absurd ht.2 (by rw [h]; exact h0)
    · exact o_absurd ht.2 (by rw [h]; exact h0)
  · obtain ⟨M9, ad1, tg1, nd1, D1, e9, z9, -, hR1, hI1, hn1⟩ := hp
    rw [h] at e9
    cases e9
    exact kk L1 F1 H1 locs1 hX1 ⟨ad1, tg1, nd1, D1, hR1, hI1, by omega, z9⟩
set_option maxHeartbeats 4000000 in
theorem O_send {a b z x y : Int32} (hfl : l.stackTraces = false) (hM : kM p s m args meth c cc nL ret "InvoicebridgeLaw") (hE : kE γ A s) (hX : kX γ A s L F H locs) (hO : Ob γ o M n L F) (hl : lv_has ls nL lv) (h : sendM M a b z x y = (r, M1)) (h0 : M1 24 0 = 0) (hR : (kRm 7 20 3000).frames + 1 ≤ R.frames ∧ 8 + (7 + 11) + (kRm 7 20 3000).locals ≤ R.locals) (hW : (rest.map fun v => v.category).sum ≤ 8) (hf : cells + 20 ≤ R.cells ∧ slots + 3000 ≤ R.slots) (hdg : decode cc pc = .ok (.invokevirtual 7, 3))
    (kk : ∀ (L : List Nat) (F : kF) (H : Heap) (locs : List Loc), kX γ A s L F H locs → Ob γ o M1 (n + 1) L F → W p l e R s m args below meth c H locs (cells + 20) (slots + 3000) Q (F0 m (pc + 3) ls (.int r :: rest))) : W p l e R s m args below meth c H locs cells slots Q (F0 m pc ls (.int y :: .int x :: .int z :: .int b :: .int a :: .ref o :: rest)) := by
  obtain ⟨ad, tg, nd, D, hRc, hI, hnd, hz⟩ := hO
  refine o_goi (x_V (n := 5) (As := [.int a, .int b, .int z, .int x, .int y]) (rest := rest) hM hE hX hl (c_X4_send l hfl γ L F o ad tg M nd D hRc hI a b z x y) hRc.1.1 hRc.1.2.2 rfl k_496 k_497 k_498 k_1 k_499 ⟨rfl, by decide, by decide, by decide +kernel⟩ hR rfl rfl hW hdg hf) hE hX (fun E hno => ?_) (fun r9 L1 F1 H1 locs1 hp hX1 => ?_)
  · rcases hno with ⟨-, ht⟩ | ⟨-, ht⟩ | ⟨-, ht⟩
    · exact o_absurd ht.2 (by rw [h]; exact h0)
    · exact o_absurd ht.2 (by rw [h]; exact h0)
    · exact o_absurd ht.2 (by rw [h]; exact h0)
  · obtain ⟨M9, ad1, tg1, nd1, D1, e9, z9, -, hR1, hI1, hn1⟩ := hp
    rw [h] at e9
    cases e9
    exact kk L1 F1 H1 locs1 hX1 ⟨ad1, tg1, nd1, D1, hR1, hI1, by omega, z9⟩
end OC
