/-! calls, throws -/
def kI (P : Int32 → List Nat → kF → Prop) : kOk := fun v L F => ∃ r : Int32, v = some (.int r) ∧ P r L F
def kU (P : List Nat → kF → Prop) : kOk := fun v L F => v = none ∧ P L F
def kR (P : Nat → List Nat → kF → Prop) : kOk := fun v L F => ∃ a : Nat, v = some (.ref a) ∧ P a L F
theorem W0_good {w : Cond} (h : w ∈ W0) : w ∈ W0 ∧ ((w.onTables && w.keeps) = true ∨ ∃ ty, w = .arrayClass ty) := ⟨h, good_of_word (W0_gw h)⟩
theorem kG_0 {y : MethodName} {b : ByteArray} {n : Nat} {ret : Option FieldType} (w5 : Cond.code y b n ret ∈ W0) : GoodIn W0 (kWs y b n ret) := by
  intro w hw
  rcases List.mem_cons.mp hw with rfl | hw
  · exact W0_good w5
  · exact W0_good hw
theorem kG_V {own C : String} {idx : Nat} {y : MethodName} {b : ByteArray} {n : Nat} {ret : Option FieldType} (w1 : Cond.methodLink own idx y ∈ W0) (w2 : Cond.instanceMethod y ∈ W0) (w3 : Cond.selects C y y ∈ W0) (w4 : Cond.initialized C ∈ W0) (w5 : Cond.code y b n ret ∈ W0) : GoodIn W0 (wsV own idx C y (kWs y b n ret)) := by
  intro w hw
  rcases List.mem_append.mp hw with hw | hw
  · simp only [List.mem_cons, List.not_mem_nil, or_false] at hw
    rcases hw with rfl | rfl | rfl | rfl <;> exact W0_good (by assumption)
  · exact kG_0 w5 w hw
theorem kG_S {own : String} {idx : Nat} {y : MethodName} {b : ByteArray} {n : Nat} {ret : Option FieldType} (w1 : Cond.methodLink own idx y ∈ W0) (w2 : Cond.static y ∈ W0) (w4 : Cond.initialized y.cls ∈ W0) (w5 : Cond.code y b n ret ∈ W0) : GoodIn W0 (va_wsS own idx y (kWs y b n ret)) := by
  intro w hw
  rcases List.mem_append.mp hw with hw | hw
  · simp only [List.mem_cons, List.not_mem_nil, or_false] at hw
    rcases hw with rfl | rfl | rfl <;> exact W0_good (by assumption)
  · exact kG_0 w5 w hw
theorem kG_U {own C owner : String} {idx : Nat} {x y : MethodName} {b : ByteArray} {n : Nat} {ret : Option FieldType} (w1 : Cond.methodLink own idx x ∈ W0) (w2 : Cond.sameMethod x.cls owner x.name x.desc ∈ W0) (w3 : Cond.selects C x y ∈ W0) (w4 : Cond.instanceMethod y ∈ W0) (w6 : Cond.initialized y.cls ∈ W0) (w5 : Cond.code y b n ret ∈ W0) : GoodIn W0 (va_wsU own idx C owner x y (kWs y b n ret)) := by
  intro w hw
  rcases List.mem_append.mp hw with hw | hw
  · simp only [List.mem_cons, List.not_mem_nil, or_false] at hw
    rcases hw with rfl | rfl | rfl | rfl | rfl <;> exact W0_good (by assumption)
  · exact kG_0 w5 w hw
theorem kG_SU {own : String} {idx : Nat} {y : MethodName} {b : ByteArray} {n : Nat} {ret : Option FieldType} (w1 : Cond.methodLink own idx y ∈ W0) (w2 : Cond.sameMethod y.cls y.cls y.name y.desc ∈ W0) (w3 : Cond.superclass own y.cls ∈ W0) (w4 : Cond.instanceMethod y ∈ W0) (w6 : Cond.initialized y.cls ∈ W0) (w5 : Cond.code y b n ret ∈ W0) : GoodIn W0 (va_wsSU own idx y (kWs y b n ret)) := by
  intro w hw
  rcases List.mem_append.mp hw with hw | hw
  · simp only [List.mem_cons, List.not_mem_nil, or_false] at hw
    rcases hw with rfl | rfl | rfl | rfl | rfl <;> exact W0_good (by assumption)
  · exact kG_0 w5 w hw
section KC
variable {p : Program} {l : Launch} {e : Env} {R : Room} {s : State} {m : MethodId} {args : Array Value} {below : List Frame} {meth : Method} {c : Code} {H : Heap} {locs : List Loc} {cells slots : Nat} {Q : State → Prop}
variable {cc : ByteArray} {nL : Nat} {ret : Option FieldType} {own : String} {γ : kG} {A : Nat → Prop} {L : List Nat} {F : kF} {pc : Nat} {ls : Array Slot} {rest st0 : List Value}
variable {y : MethodName} {bytes : ByteArray} {maxL n index : Nat} {rt : Option FieldType} {rm : Room} {As : List Value} {ok : kOk} {no : String → Prop} {lv : List (Nat × Value)}
/-- invokevirtual of the receiver's own class -/
theorem k_V (hM : kM p s m args meth c cc nL ret own) (hE : kE γ A s) (hX : kX γ A s L F H locs) (hl : lv_has ls nL lv) {ci N a : Nat} {C : String} {T : u_T} {fs : List Value} (hC : kC l y bytes maxL rt rm γ L F (.ref a :: As) ok) (ha : a ∈ L) (hF : F a = .inr (ci, fs)) (hc : vwCl[ci]? = some (C, T, N)) (w1 : Cond.methodLink own index y ∈ W0) (w2 : Cond.instanceMethod y ∈ W0) (w3 : Cond.selects C y y ∈ W0) (w4 : Cond.initialized C ∈ W0) (w5 : Cond.code y bytes maxL rt ∈ W0)
    (hd : y.cls = C ∧ y.cls ≠ "java/lang/invoke/MethodHandle" ∧ y.cls ≠ "java/lang/invoke/VarHandle" ∧ (parseMethodDescriptor y.desc).map (fun d => d.parameters.length) = some n) (hR : rm.frames + 1 ≤ R.frames ∧ 8 + (maxL + 11) + rm.locals ≤ R.locals) (hn : As.length = n) (hst : st0 = As.reverse ++ .ref a :: rest) (hW : (rest.map fun v => v.category).sum ≤ 8) (hdg : decode cc pc = .ok (.invokevirtual index, 3)) (hf : cells + rm.cells ≤ R.cells ∧ slots + rm.slots ≤ R.slots) :
    va_Run p l e R s m args below meth c H locs cells slots rm.cells rm.slots (F0 m pc ls st0) rest (kQ γ L H.size ok (Value.ref a :: As).toArray) (kA L H.size) :=
  va_runV (As := As) (rest := rest) ⟨hM.1, hM.2.1, hM.2.2.1, hM.2.2.2.1, hM.2.2.2.2.1⟩ (hC H.size) (cwV n hM.2.2.2.2.1 (kG_V w1 w2 w3 w4 w5) rfl rfl rfl hd hR) ⟨kIn_blind, k_recv hE hX ha hF hc, fun U hU hW => k_in hE hX _ U hU hW⟩ rfl hn hl.1 hst (lv_room hW) hdg hf
/-- invokestatic -/
theorem k_S (hM : kM p s m args meth c cc nL ret own) (hE : kE γ A s) (hX : kX γ A s L F H locs) (hl : lv_has ls nL lv) (hC : kC l y bytes maxL rt rm γ L F As ok) (w1 : Cond.methodLink own index y ∈ W0) (w2 : Cond.static y ∈ W0) (w4 : Cond.initialized y.cls ∈ W0) (w5 : Cond.code y bytes maxL rt ∈ W0)
    (hd : y.cls ≠ "java/lang/invoke/MethodHandle" ∧ y.cls ≠ "java/lang/invoke/VarHandle" ∧ (parseMethodDescriptor y.desc).map (fun d => d.parameters.length) = some n) (hR : rm.frames + 1 ≤ R.frames ∧ 8 + (maxL + 11) + rm.locals ≤ R.locals) (hn : As.length = n) (hst : st0 = As.reverse ++ rest) (hW : (rest.map fun v => v.category).sum ≤ 8) (hdg : decode cc pc = .ok (.invokestatic index, 3)) (hf : cells + rm.cells ≤ R.cells ∧ slots + rm.slots ≤ R.slots) :
    va_Run p l e R s m args below meth c H locs cells slots rm.cells rm.slots (F0 m pc ls st0) rest (kQ γ L H.size ok As.toArray) (kA L H.size) :=
  va_runS (As := As) (rest := rest) ⟨hM.1, hM.2.1, hM.2.2.1, hM.2.2.2.1, hM.2.2.2.2.1⟩ (hC H.size) (va_cwS n hM.2.2.2.2.1 (kG_S w1 w2 w4 w5) rfl rfl rfl hd hR) ⟨kIn_blind, fun U hU hW => k_in hE hX _ U hU hW⟩ rfl hn hl.1 hst (lv_room hW) hdg hf
/-- invokespecial of a constructor -/
theorem k_I (hM : kM p s m args meth c cc nL ret own) (hE : kE γ A s) (hX : kX γ A s L F H locs) (hl : lv_has ls nL lv) {a : Nat} (hC : kC l y bytes maxL none rm γ L F (.ref a :: As) ok) (w1 : Cond.methodLink own index y ∈ W0) (w2 : Cond.instanceMethod y ∈ W0) (w4 : Cond.initialized y.cls ∈ W0) (w5 : Cond.code y bytes maxL none ∈ W0)
    (hi : y.name = "<init>") (hd : y.cls ≠ "java/lang/invoke/MethodHandle" ∧ y.cls ≠ "java/lang/invoke/VarHandle" ∧ (parseMethodDescriptor y.desc).map (fun d => d.parameters.length) = some n) (hR : rm.frames + 1 ≤ R.frames ∧ 8 + (maxL + 11) + rm.locals ≤ R.locals) (hn : As.length = n) (hst : st0 = As.reverse ++ .ref a :: rest) (hW : (rest.map fun v => v.category).sum ≤ 8) (hdg : decode cc pc = .ok (.invokespecial index, 3)) (hf : cells + rm.cells ≤ R.cells ∧ slots + rm.slots ≤ R.slots) :
    va_Run p l e R s m args below meth c H locs cells slots rm.cells rm.slots (F0 m pc ls st0) rest (kQ γ L H.size ok (Value.ref a :: As).toArray) (kA L H.size) :=
  va_runI (As := As) (rest := rest) ⟨hM.1, hM.2.1, hM.2.2.1, hM.2.2.2.1, hM.2.2.2.2.1⟩ (hC H.size) (cwI n hM.2.2.2.2.1 (kG_0 w5) rfl rfl rfl (hM.2.2.2.2.1 _ w4) (hM.2.2.2.2.1 _ w1) (hM.2.2.2.2.1 _ w2) hi hd hR) ⟨kIn_blind, fun U hU hW => k_in hE hX _ U hU hW⟩ rfl hn hl.1 hst (lv_room hW) hdg hf
/-- a private static of the nest's host -/
theorem k_SN (hM : kM p s m args meth c cc nL ret own) (hE : kE γ A s) (hX : kX γ A s L F H locs) (hl : lv_has ls nL lv) {host : String} (hC : kC l y bytes maxL rt rm γ L F As ok) (w1 : va_Nw (.methodLinkNest own index y host) s) (w2 : Cond.static y ∈ W0) (w4 : Cond.initialized y.cls ∈ W0) (w5 : Cond.code y bytes maxL rt ∈ W0)
    (hd : y.cls ≠ "java/lang/invoke/MethodHandle" ∧ y.cls ≠ "java/lang/invoke/VarHandle" ∧ (parseMethodDescriptor y.desc).map (fun d => d.parameters.length) = some n) (hR : rm.frames + 1 ≤ R.frames ∧ 8 + (maxL + 11) + rm.locals ≤ R.locals) (hn : As.length = n) (hst : st0 = As.reverse ++ rest) (hW : (rest.map fun v => v.category).sum ≤ 8) (hdg : decode cc pc = .ok (.invokestatic index, 3)) (hf : cells + rm.cells ≤ R.cells ∧ slots + rm.slots ≤ R.slots) :
    va_Run p l e R s m args below meth c H locs cells slots rm.cells rm.slots (F0 m pc ls st0) rest (kQ γ L H.size ok As.toArray) (kA L H.size) :=
  va_runSN (As := As) (rest := rest) ⟨hM.1, hM.2.1, hM.2.2.1, hM.2.2.2.1, hM.2.2.2.2.1⟩ (hC H.size) ⟨va_cnB n hM.2.2.2.2.1 (kG_0 w5) rfl rfl rfl w1 (hM.2.2.2.2.1 _ w4) hd hR, hM.2.2.2.2.1 _ w2, trivial⟩ ⟨kIn_blind, fun U hU hW => k_in hE hX _ U hU hW⟩ rfl hn hl.1 hst (lv_room hW) hdg hf
/-- a method of a class above -/
theorem k_UU (hM : kM p s m args meth c cc nL ret own) (hE : kE γ A s) (hX : kX γ A s L F H locs) (hl : lv_has ls nL lv) {ci N a : Nat} {C owner : String} {T : u_T} {x : MethodName} {fs : List Value} (hC : kC l y bytes maxL rt rm γ L F (.ref a :: As) ok) (ha : a ∈ L) (hF : F a = .inr (ci, fs)) (hc : vwCl[ci]? = some (C, T, N)) (w1 : Cond.methodLink own index x ∈ W0) (w2 : Cond.sameMethod x.cls owner x.name x.desc ∈ W0) (w3 : Cond.selects C x y ∈ W0) (w4 : Cond.instanceMethod y ∈ W0) (w6 : Cond.initialized y.cls ∈ W0) (w5 : Cond.code y bytes maxL rt ∈ W0) (hyx : y = ⟨owner, x.name, x.desc⟩)
    (hd : owner ≠ "java/lang/invoke/MethodHandle" ∧ owner ≠ "java/lang/invoke/VarHandle" ∧ (parseMethodDescriptor x.desc).map (fun d => d.parameters.length) = some n) (hR : rm.frames + 1 ≤ R.frames ∧ 8 + (maxL + 11) + rm.locals ≤ R.locals) (hn : As.length = n) (hst : st0 = As.reverse ++ .ref a :: rest) (hW : (rest.map fun v => v.category).sum ≤ 8) (hdg : decode cc pc = .ok (.invokevirtual index, 3)) (hf : cells + rm.cells ≤ R.cells ∧ slots + rm.slots ≤ R.slots) :
    va_Run p l e R s m args below meth c H locs cells slots rm.cells rm.slots (F0 m pc ls st0) rest (kQ γ L H.size ok (Value.ref a :: As).toArray) (kA L H.size) :=
  va_runU (As := As) (rest := rest) ⟨hM.1, hM.2.1, hM.2.2.1, hM.2.2.2.1, hM.2.2.2.2.1⟩ (hC H.size) (va_cwU n hM.2.2.2.2.1 (kG_U w1 w2 w3 w4 w6 w5) rfl rfl rfl hyx hd hR) ⟨kIn_blind, k_recv hE hX ha hF hc, fun U hU hW => k_in hE hX _ U hU hW⟩ rfl hn hl.1 hst (lv_room hW) hdg hf
/-- super.m(..) -/
theorem k_SU (hM : kM p s m args meth c cc nL ret own) (hE : kE γ A s) (hX : kX γ A s L F H locs) (hl : lv_has ls nL lv) {ci N a : Nat} {C : String} {T : u_T} {fs : List Value} (hC : kC l y bytes maxL rt rm γ L F (.ref a :: As) ok) (ha : a ∈ L) (hF : F a = .inr (ci, fs)) (hc : vwCl[ci]? = some (C, T, N)) (w1 : Cond.methodLink own index y ∈ W0) (w2 : Cond.sameMethod y.cls y.cls y.name y.desc ∈ W0) (w3 : Cond.superclass own y.cls ∈ W0) (w4 : Cond.instanceMethod y ∈ W0) (w6 : Cond.initialized y.cls ∈ W0) (w5 : Cond.code y bytes maxL rt ∈ W0)
    (hd : y.name ≠ "<init>" ∧ (parseMethodDescriptor y.desc).map (fun d => d.parameters.length) = some n) (hR : rm.frames + 1 ≤ R.frames ∧ 8 + (maxL + 11) + rm.locals ≤ R.locals) (hn : As.length = n) (hst : st0 = As.reverse ++ .ref a :: rest) (hW : (rest.map fun v => v.category).sum ≤ 8) (hdg : decode cc pc = .ok (.invokespecial index, 3)) (hf : cells + rm.cells ≤ R.cells ∧ slots + rm.slots ≤ R.slots) :
    va_Run p l e R s m args below meth c H locs cells slots rm.cells rm.slots (F0 m pc ls st0) rest (kQ γ L H.size ok (Value.ref a :: As).toArray) (kA L H.size) :=
  va_runSU (As := As) (rest := rest) (hE.1.1 ci _ hc).2 ⟨hM.1, hM.2.1, hM.2.2.1, hM.2.2.2.1, hM.2.2.2.2.1⟩ (hC H.size) (va_cwSU n hM.2.2.2.2.1 (kG_SU w1 w2 w3 w4 w6 w5) rfl rfl rfl hd hR) ⟨kIn_blind, k_recv hE hX ha hF hc, fun U hU hW => k_in hE hX _ U hU hW⟩ rfl hn hl.1 hst (lv_room hW) hdg hf
variable {mc ms : Nat} {a0 : Array Value}
theorem k_goi {P : Int32 → List Nat → kF → Prop} (hr : va_Run p l e R s m args below meth c H locs cells slots mc ms (F0 m pc ls st0) rest (kQ γ L H.size (kI P) a0) (kA L H.size)) (hE : kE γ A s) (hX : kX γ A s L F H locs)
    (kk : ∀ (r : Int32) (L1 : List Nat) (F1 : kF) (H1 : Heap) (locs1 : List Loc), P r L1 F1 → kX γ A s L1 F1 H1 locs1 → W p l e R s m args below meth c H1 locs1 (cells + mc) (slots + ms) Q (F0 m (pc + 3) ls (.int r :: rest))) : W p l e R s m args below meth c H locs cells slots Q (F0 m pc ls st0) :=
  k_go hr hE hX fun v L1 F1 H1 locs1 ⟨r, hv, hp⟩ hX1 => by subst hv; exact kk r L1 F1 H1 locs1 hp hX1
theorem k_gou {P : List Nat → kF → Prop} (hr : va_Run p l e R s m args below meth c H locs cells slots mc ms (F0 m pc ls st0) rest (kQ γ L H.size (kU P) a0) (kA L H.size)) (hE : kE γ A s) (hX : kX γ A s L F H locs)
    (kk : ∀ (L1 : List Nat) (F1 : kF) (H1 : Heap) (locs1 : List Loc), P L1 F1 → kX γ A s L1 F1 H1 locs1 → W p l e R s m args below meth c H1 locs1 (cells + mc) (slots + ms) Q (F0 m (pc + 3) ls rest)) : W p l e R s m args below meth c H locs cells slots Q (F0 m pc ls st0) :=
  k_go hr hE hX fun v L1 F1 H1 locs1 ⟨hv, hp⟩ hX1 => by subst hv; exact kk L1 F1 H1 locs1 hp hX1
theorem k_gor {P : Nat → List Nat → kF → Prop} (hr : va_Run p l e R s m args below meth c H locs cells slots mc ms (F0 m pc ls st0) rest (kQ γ L H.size (kR P) a0) (kA L H.size)) (hE : kE γ A s) (hX : kX γ A s L F H locs)
    (kk : ∀ (r : Nat) (L1 : List Nat) (F1 : kF) (H1 : Heap) (locs1 : List Loc), P r L1 F1 → kX γ A s L1 F1 H1 locs1 → W p l e R s m args below meth c H1 locs1 (cells + mc) (slots + ms) Q (F0 m (pc + 3) ls (.ref r :: rest))) : W p l e R s m args below meth c H locs cells slots Q (F0 m pc ls st0) :=
  k_go hr hE hX fun v L1 F1 H1 locs1 ⟨r, hv, hp⟩ hX1 => by subst hv; exact kk r L1 F1 H1 locs1 hp hX1
/-- an object that comes from a list is of the class that the cast asks -/
theorem k_cast (hM : kM p s m args meth c cc nL ret own) (hE : kE γ A s) (hX : kX γ A s L F H locs) {ci N a : Nat} {C : String} {T : u_T} {fs : List Value} (ha : a ∈ L) (hF : F a = .inr (ci, fs)) (hc : vwCl[ci]? = some (C, T, N)) (hlink : Cond.classLink own index C ∈ W0) (hdg : decode cc pc = .ok (.checkcast index, 3))
    (kk : W p l e R s m args below meth c H locs cells slots Q (F0 m (pc + 3) ls (.ref a :: rest))) : W p l e R s m args below meth c H locs cells slots Q (F0 m pc ls (.ref a :: rest)) :=
  va_castS hM.1 hM.2.1 hM.2.2.2.1 (hM.2.2.2.2.1 _ hlink) (hE.1.1 ci _ hc).2 (k_recv hE hX ha hF hc) hdg kk
/-- Math.max, Math.min -/
theorem k_max (hM : kM p s m args meth c cc nL ret own) (hl : lv_has ls nL lv) (w1 : Cond.methodLink own index Lib.Math.max.name ∈ W0) (w2 : Cond.static Lib.Math.max.name ∈ W0) (w3 : Cond.initialized "java/lang/Math" ∈ W0) (w4 : Cond.code Lib.Math.max.name Lib.Math.max.code 2 (some .int) ∈ W0) (hR : 1 ≤ R.frames ∧ (rest.map fun v => v.category).sum + 13 ≤ R.locals) (hc : cells ≤ R.cells ∧ slots ≤ R.slots) {x z : Int32} (hdg : decode cc pc = .ok (.invokestatic index, 3))
    (kk : W p l e R s m args below meth c H locs cells slots Q (F0 m (pc + 3) ls (.int (if x < z then z else x) :: rest))) : W p l e R s m args below meth c H locs cells slots Q (F0 m pc ls (.int z :: .int x :: rest)) :=
  va_mmax hM.1 hM.2.1 (hM.2.2.1.trans hl.1.symm) hM.2.2.2.1 (hM.2.2.2.2.1 _ w1) (hM.2.2.2.2.1 _ w2) (hM.2.2.2.2.1 _ w3) (hM.2.2.2.2.1 _ w4) hR.1 hR.2 hc.1 hc.2 hdg kk
theorem k_min (hM : kM p s m args meth c cc nL ret own) (hl : lv_has ls nL lv) (w1 : Cond.methodLink own index Lib.Math.min.name ∈ W0) (w2 : Cond.static Lib.Math.min.name ∈ W0) (w3 : Cond.initialized "java/lang/Math" ∈ W0) (w4 : Cond.code Lib.Math.min.name Lib.Math.min.code 2 (some .int) ∈ W0) (hR : 1 ≤ R.frames ∧ (rest.map fun v => v.category).sum + 13 ≤ R.locals) (hc : cells ≤ R.cells ∧ slots ≤ R.slots) {x z : Int32} (hdg : decode cc pc = .ok (.invokestatic index, 3))
    (kk : W p l e R s m args below meth c H locs cells slots Q (F0 m (pc + 3) ls (.int (if z < x then z else x) :: rest))) : W p l e R s m args below meth c H locs cells slots Q (F0 m pc ls (.int z :: .int x :: rest)) :=
  va_mmin hM.1 hM.2.1 (hM.2.2.1.trans hl.1.symm) hM.2.2.2.1 (hM.2.2.2.2.1 _ w1) (hM.2.2.2.2.1 _ w2) (hM.2.2.2.2.1 _ w3) (hM.2.2.2.2.1 _ w4) hR.1 hR.2 hc.1 hc.2 hdg kk
/-- a throwing callee -/
theorem x_V (hM : kM p s m args meth c cc nL ret own) (hE : kE γ A s) (hX : kX γ A s L F H locs) (hl : lv_has ls nL lv) {ci N a : Nat} {C : String} {T : u_T} {fs : List Value} (hC : kD l y bytes maxL rt rm γ L F (.ref a :: As) ok no) (ha : a ∈ L) (hF : F a = .inr (ci, fs)) (hc : vwCl[ci]? = some (C, T, N)) (w1 : Cond.methodLink own index y ∈ W0) (w2 : Cond.instanceMethod y ∈ W0) (w3 : Cond.selects C y y ∈ W0) (w4 : Cond.initialized C ∈ W0) (w5 : Cond.code y bytes maxL rt ∈ W0)
    (hd : y.cls = C ∧ y.cls ≠ "java/lang/invoke/MethodHandle" ∧ y.cls ≠ "java/lang/invoke/VarHandle" ∧ (parseMethodDescriptor y.desc).map (fun d => d.parameters.length) = some n) (hR : rm.frames + 1 ≤ R.frames ∧ 8 + (maxL + 11) + rm.locals ≤ R.locals) (hn : As.length = n) (hst : st0 = As.reverse ++ .ref a :: rest) (hW : (rest.map fun v => v.category).sum ≤ 8) (hdg : decode cc pc = .ok (.invokevirtual index, 3)) (hf : cells + rm.cells ≤ R.cells ∧ slots + rm.slots ≤ R.slots) :
    vx_Run p l e R s m args below meth c H locs cells slots rm.cells rm.slots (F0 m pc ls st0) rest (kQ γ L H.size ok (Value.ref a :: As).toArray) (kXC γ L F H.size no) (kA L H.size) :=
  vx_runV (As := As) (rest := rest) ⟨hM.1, hM.2.1, hM.2.2.1, hM.2.2.2.1, hM.2.2.2.2.1⟩ (hC H.size) (cwV n hM.2.2.2.2.1 (kG_V w1 w2 w3 w4 w5) rfl rfl rfl hd hR) ⟨kIn_blind, k_recv hE hX ha hF hc, fun U hU hW => k_in hE hX _ U hU hW⟩ rfl hn hl.1 hst (lv_room hW) hdg hf
/-- .. in a method without a table: what it throws goes on to the caller -/
theorem x_go {L0 : List Nat} {F9 : kF} {sz mc0 ms0 : Nat} {ok0 : kOk} {no0 : String → Prop} (hr : vx_Run p l e R s m args below meth c H locs cells slots mc ms (F0 m pc ls st0) rest (kQ γ L H.size ok a0) (kXC γ L F H.size no) (kA L H.size)) (hM : kM p s m args meth c cc nL ret own) (hE : kE γ (kA L0 sz) s) (hX : kX γ (kA L0 sz) s L F H locs) (htab : ∀ x ∈ c.exceptionTable.toList, False) (h0 : L = L0 ∧ F = F9) (hno : ∀ E, no E → no0 E) (hmc : cells + mc ≤ mc0) (hms : slots + ms ≤ ms0)
    (kk : ∀ (v : Option Value) (L1 : List Nat) (F1 : kF) (H1 : Heap) (locs1 : List Loc), ok v L1 F1 → kX γ (kA L0 sz) s L1 F1 H1 locs1 → W p l e R s m args below meth c H1 locs1 (cells + mc) (slots + ms) (vx_MQ below (kQ γ L0 sz ok0) (kXC γ L0 F9 sz no0) args s mc0 ms0 (kA L0 sz)) (F0 m (pc + 3) ls (v.toList ++ rest))) : W p l e R s m args below meth c H locs cells slots (vx_MQ below (kQ γ L0 sz ok0) (kXC γ L0 F9 sz no0) args s mc0 ms0 (kA L0 sz)) (F0 m pc ls st0) := by
  obtain ⟨rfl, rfl⟩ := h0
  intro T hT X
  rcases hr T hT X with ⟨v, st₀, t, T', L9, h0, X', hL, e1, e2, ⟨⟨v', u, hv, hok, hB⟩, hF⟩, st⟩ | ⟨q, st₀, t, T', L9, E, ce, h0, X', hL, e1, e2, ⟨hn, hB, hF⟩, hce, hcv, hcl, st⟩
  · cases hv
    obtain ⟨k1, k2, k3⟩ := vx_keep h0 e1 hX.2.2 (fun q _ h => kX_sub hX hE.2.2 q h) (kX_sub hX hE.2.2) hL hF
    obtain ⟨t2, a1, b1⟩ := kk v u.1 u.2 T'.heap (locs ++ L9) hok (k_back hE hX e1.symm hB k3) T' rfl X'
    exact ⟨t2, st t2 a1, b1⟩
  · obtain ⟨k1, k2, k3⟩ := vx_keep h0 e1 hX.2.2 (fun q _ h => kX_sub hX hE.2.2 q h) (kX_sub hX hE.2.2) hL hF
    have hX1 := k_back hE hX (t := t) (H1 := T'.heap) e1.symm hB k3
    obtain ⟨t2, a1, b1⟩ := vx_out (E := E) (XC := kXC γ L F sz no0) (Qc := kQ γ L sz ok0) (free := kA L sz) (mc := mc0) (ms := ms0) (pc := pc) (ls := ls) (rest := rest) (H := T'.heap) (locs := locs ++ L9) (fun x hx => (htab x hx).elim) hM.2.2.2.2.2.2.1 (by rw [e1]; exact hce) hcv hcl (fun t3 h3 _ => ⟨hno E hn, ⟨by rw [h3]; exact hX1.1, hX1.2.1.1, hX1.2.1.2⟩, hX1.2.2.F h3⟩) hX1.2.2.2.2 hmc hms T' rfl X'
    exact ⟨t2, st.trans a1, b1⟩
theorem x_goi {P : Int32 → List Nat → kF → Prop} {L0 : List Nat} {F9 : kF} {sz mc0 ms0 : Nat} {ok0 : kOk} {no0 : String → Prop} (hr : vx_Run p l e R s m args below meth c H locs cells slots mc ms (F0 m pc ls st0) rest (kQ γ L H.size (kI P) a0) (kXC γ L F H.size no) (kA L H.size)) (hM : kM p s m args meth c cc nL ret own) (hE : kE γ (kA L0 sz) s) (hX : kX γ (kA L0 sz) s L F H locs) (htab : ∀ x ∈ c.exceptionTable.toList, False) (h0 : L = L0 ∧ F = F9) (hno : ∀ E, no E → no0 E) (hmc : cells + mc ≤ mc0) (hms : slots + ms ≤ ms0)
    (kk : ∀ (r : Int32) (L1 : List Nat) (F1 : kF) (H1 : Heap) (locs1 : List Loc), P r L1 F1 → kX γ (kA L0 sz) s L1 F1 H1 locs1 → W p l e R s m args below meth c H1 locs1 (cells + mc) (slots + ms) (vx_MQ below (kQ γ L0 sz ok0) (kXC γ L0 F9 sz no0) args s mc0 ms0 (kA L0 sz)) (F0 m (pc + 3) ls (.int r :: rest))) : W p l e R s m args below meth c H locs cells slots (vx_MQ below (kQ γ L0 sz ok0) (kXC γ L0 F9 sz no0) args s mc0 ms0 (kA L0 sz)) (F0 m pc ls st0) :=
  x_go hr hM hE hX htab h0 hno hmc hms fun v L1 F1 H1 locs1 ⟨r, hv, hp⟩ hX1 => by subst hv; exact kk r L1 F1 H1 locs1 hp hX1
theorem x_gou {P : List Nat → kF → Prop} {L0 : List Nat} {F9 : kF} {sz mc0 ms0 : Nat} {ok0 : kOk} {no0 : String → Prop} (hr : vx_Run p l e R s m args below meth c H locs cells slots mc ms (F0 m pc ls st0) rest (kQ γ L H.size (kU P) a0) (kXC γ L F H.size no) (kA L H.size)) (hM : kM p s m args meth c cc nL ret own) (hE : kE γ (kA L0 sz) s) (hX : kX γ (kA L0 sz) s L F H locs) (htab : ∀ x ∈ c.exceptionTable.toList, False) (h0 : L = L0 ∧ F = F9) (hno : ∀ E, no E → no0 E) (hmc : cells + mc ≤ mc0) (hms : slots + ms ≤ ms0)
    (kk : ∀ (L1 : List Nat) (F1 : kF) (H1 : Heap) (locs1 : List Loc), P L1 F1 → kX γ (kA L0 sz) s L1 F1 H1 locs1 → W p l e R s m args below meth c H1 locs1 (cells + mc) (slots + ms) (vx_MQ below (kQ γ L0 sz ok0) (kXC γ L0 F9 sz no0) args s mc0 ms0 (kA L0 sz)) (F0 m (pc + 3) ls rest)) : W p l e R s m args below meth c H locs cells slots (vx_MQ below (kQ γ L0 sz ok0) (kXC γ L0 F9 sz no0) args s mc0 ms0 (kA L0 sz)) (F0 m pc ls st0) :=
  x_go hr hM hE hX htab h0 hno hmc hms fun v L1 F1 H1 locs1 ⟨hv, hp⟩ hX1 => by subst hv; exact kk L1 F1 H1 locs1 hp hX1
theorem x_gor {P : Nat → List Nat → kF → Prop} {L0 : List Nat} {F9 : kF} {sz mc0 ms0 : Nat} {ok0 : kOk} {no0 : String → Prop} (hr : vx_Run p l e R s m args below meth c H locs cells slots mc ms (F0 m pc ls st0) rest (kQ γ L H.size (kR P) a0) (kXC γ L F H.size no) (kA L H.size)) (hM : kM p s m args meth c cc nL ret own) (hE : kE γ (kA L0 sz) s) (hX : kX γ (kA L0 sz) s L F H locs) (htab : ∀ x ∈ c.exceptionTable.toList, False) (h0 : L = L0 ∧ F = F9) (hno : ∀ E, no E → no0 E) (hmc : cells + mc ≤ mc0) (hms : slots + ms ≤ ms0)
    (kk : ∀ (r : Nat) (L1 : List Nat) (F1 : kF) (H1 : Heap) (locs1 : List Loc), P r L1 F1 → kX γ (kA L0 sz) s L1 F1 H1 locs1 → W p l e R s m args below meth c H1 locs1 (cells + mc) (slots + ms) (vx_MQ below (kQ γ L0 sz ok0) (kXC γ L0 F9 sz no0) args s mc0 ms0 (kA L0 sz)) (F0 m (pc + 3) ls (.ref r :: rest))) : W p l e R s m args below meth c H locs cells slots (vx_MQ below (kQ γ L0 sz ok0) (kXC γ L0 F9 sz no0) args s mc0 ms0 (kA L0 sz)) (F0 m pc ls st0) :=
  x_go hr hM hE hX htab h0 hno hmc hms fun v L1 F1 H1 locs1 ⟨r, hv, hp⟩ hX1 => by subst hv; exact kk r L1 F1 H1 locs1 hp hX1
end KC
theorem kat_IO : ∀ w ∈ vx_atS "Invoicebridge" 253 kIO ["java/lang/RuntimeException", "java/lang/Exception"], (w ∈ lw_tbl ∧ goodWord w = true) ∨ w = Cond.castable kIO kIO ∨ w ∈ kDcs.map Cond.declares := by decide +kernel
theorem kat_IA : ∀ w ∈ vx_atS "Invoicebridge" 125 kIA ["java/lang/RuntimeException", "java/lang/Exception"], (w ∈ lw_tbl ∧ goodWord w = true) ∨ w = Cond.castable kIA kIA ∨ w ∈ kDcs.map Cond.declares := by decide +kernel
theorem kat_IS : ∀ w ∈ vx_atS "Invoicebridge" 62 kIS ["java/lang/RuntimeException", "java/lang/Exception"], (w ∈ lw_tbl ∧ goodWord w = true) ∨ w = Cond.castable kIS kIS ∨ w ∈ kDcs.map Cond.declares := by decide +kernel
section KX
variable {p : Program} {l : Launch} {e : Env} {R : Room} {s : State} {m : MethodId} {args : Array Value} {below : List Frame} {meth : Method} {c : Code} {H : Heap} {locs : List Loc} {cells slots : Nat}
variable {cc : ByteArray} {nL : Nat} {ret : Option FieldType} {γ : kG} {L : List Nat} {F : kF} {pc : Nat} {ls : Array Slot} {rest : List Value} {ok : kOk} {no : String → Prop} {lv : List (Nat × Value)} {sz mc ms ik ic is : Nat} {cls text : String}
theorem x_throw0 (hM : kM p s m args meth c cc nL ret "Invoicebridge") (hE : kE γ (kA L sz) s) (hX : kX γ (kA L sz) s L F H locs) (hl : lv_has ls nL lv) (htab : ∀ x ∈ c.exceptionTable.toList, False) (hfl : l.stackTraces = false)
    (hat : ∀ w ∈ vx_atS "Invoicebridge" ic cls ["java/lang/RuntimeException", "java/lang/Exception"], (w ∈ lw_tbl ∧ goodWord w = true) ∨ w = Cond.castable cls cls ∨ w ∈ kDcs.map Cond.declares) (hcs : va_Nw (.castable cls cls) s) (hcls : Bundle.fit cls = true) (hk : Cond.classLink "Invoicebridge" ik cls ∈ W0) (hini : Cond.initialized cls ∈ W0) (hg : vx_ot (Cond.classLink "Invoicebridge" ik cls) = true ∧ vx_ot (Cond.initialized cls) = true) (hstr : ("Invoicebridge", is, text) ∈ kStr) (hno : no cls)
    (d0 : decode cc pc = .ok (.new ik, 3)) (d3 : decode cc (pc + 3) = .ok (.dup, 1)) (d4 : (decode cc (pc + 4) = .ok (.ldc is, 2) ∧ decode cc (pc + 6) = .ok (.invokespecial ic, 3) ∧ decode cc (pc + 9) = .ok (.athrow, 1)) ∨ (decode cc (pc + 4) = .ok (.ldc_w is, 3) ∧ decode cc (pc + 7) = .ok (.invokespecial ic, 3) ∧ decode cc (pc + 10) = .ok (.athrow, 1)))
    (hR : 5 < R.frames ∧ (rest.map fun v => v.category).sum + 82 ≤ R.locals ∧ cells + 1 ≤ R.cells ∧ slots + 6 ≤ R.slots) (hc : cells + 1 ≤ mc) (hs : slots + 6 ≤ ms) :
    W p l e R s m args below meth c H locs cells slots (vx_MQ below (kQ γ L sz ok) (kXC γ L F sz no) args s mc ms (kA L sz)) (F0 m pc ls rest) := by
  obtain ⟨hx, hb, hml, hown, hts, -, hlk, -⟩ := hM
  obtain ⟨hU, hN, hst, -, -, -, -, -, -, -, -, -, -, -, -, hdc⟩ := id hE.2.1
  obtain ⟨sa, hsa⟩ := hst _ hstr
  have hat' : ∀ w ∈ vx_atS "Invoicebridge" ic cls ["java/lang/RuntimeException", "java/lang/Exception"], w.before args s = true := fun w hw => (hat w hw).elim (fun h => hts w (W0_of h)) (fun h => h.elim (fun h => by rw [h]; exact hcs.use rfl) (fun h => by
    obtain ⟨y, hy, rfl⟩ := List.mem_map.mp h
    exact (hdc y hy).use rfl))
  have hgood : ∀ w ∈ Cond.classLink "Invoicebridge" ik cls :: Cond.initialized cls :: vx_atS "Invoicebridge" ic cls ["java/lang/RuntimeException", "java/lang/Exception"], vx_ot w = true := by
    intro w hw
    rcases List.mem_cons.mp hw with rfl | hw
    · exact hg.1
    · rcases List.mem_cons.mp hw with rfl | hw
      · exact hg.2
      · rcases hat w hw with h | h
        · simp [vx_ot, h.2]
        · rcases h with h | h
          · rw [h]; rfl
          · obtain ⟨y, hy, rfl⟩ := List.mem_map.mp h
            rfl
  have hnames : ∀ n ∈ (["java/lang/RuntimeException", "java/lang/Exception"] : List String), Bundle.fit n = true := by decide +kernel
  have hxx : ∀ t : State, s.vm.Alike t.vm → H.size ≤ t.heap.size → (∀ q : Nat, q < H.size → t.heap[q]? = H[q]?) → kXC γ L F sz no cls s t := fun t _ h1 h2 =>
    ⟨hno, ⟨va_P.kept hX.1 (fun k q hq => h2 q.1 (va_at.lt (hX.1 k q hq))), hX.2.1.1, hX.2.1.2⟩, Nat.le_trans hX.2.2.1 h1, fun q hq hA => (h2 q (Nat.lt_of_lt_of_le hq hX.2.2.1)).trans (hX.2.2.2.1 q hq hA)⟩
  rcases d4 with ⟨d4, d6, d9⟩ | ⟨d4, d6, d9⟩
  · exact vx_throwS hx hb hfl hown hcls hnames (hts _ hk) (hts _ hini) hsa hat' hgood hU hN hX.2.2 (hl.1.trans hml.symm) d0 d3 d4 d6 d9 (fun x hx => (htab x hx).elim) hR.1 hR.2.1 hR.2.2.1 hR.2.2.2 hlk hxx hX.2.2.2.2 hc hs
  · exact vx_throwSW hx hb hfl hown hcls hnames (hts _ hk) (hts _ hini) hsa hat' hgood hU hN hX.2.2 (hl.1.trans hml.symm) d0 d3 d4 d6 d9 (fun x hx => (htab x hx).elim) hR.1 hR.2.1 hR.2.2.1 hR.2.2.2 hlk hxx hX.2.2.2.2 hc hs
end KX
