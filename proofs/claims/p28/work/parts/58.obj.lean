/-! the law: a part of the world, methods with a table, what a wrapper leaves -/
theorem kP_iff {D : va_G} {cl : List vw_C} {L : List Nat} {F : kF} {H : Heap} : va_P D cl (va_pl L F) H ↔ ∀ a ∈ L, va_at D cl (a, F a) H := by
  constructor
  · intro h a ha
    obtain ⟨k, hk⟩ := va_pl_get (X := []) (f := F) ha
    exact h k _ (by simpa using hk)
  · intro h k q hq
    simp only [va_pl, List.getElem?_map] at hq
    obtain ⟨a, ha, rfl⟩ := Option.map_eq_some_iff.mp hq
    exact h a (List.mem_of_getElem? ha)
def kMix (X : List Nat) (F F1 : kF) : kF := fun a => if a ∈ X then F a else F1 a
theorem kMix_in {X : List Nat} {F F1 : kF} {a : Nat} (h : a ∈ X) : kMix X F F1 a = F a := if_pos h
theorem kMix_out {X : List Nat} {F F1 : kF} {a : Nat} (h : a ∉ X) : kMix X F F1 a = F1 a := if_neg h
theorem kMix_same (X : List Nat) (F : kF) : kMix X F F = F := funext fun a => ite_self _
section LB
variable {p : Program} {l : Launch} {e : Env} {R : Room} {s : State} {m : MethodId} {args : Array Value} {below : List Frame} {meth : Method} {c : Code} {H : Heap} {locs : List Loc} {cells slots : Nat} {Q : State → Prop}
variable {cc : ByteArray} {nL : Nat} {ret : Option FieldType} {own : String} {γ : kG} {A : Nat → Prop} {L X : List Nat} {F : kF} {pc : Nat} {ls : Array Slot} {rest st0 : List Value}
variable {y : MethodName} {bytes : ByteArray} {maxL n index : Nat} {rt : Option FieldType} {rm : Room} {As av : List Value} {ok : kOk} {no : String → Prop} {lv : List (Nat × Value)} {mc ms : Nat} {a0 : Array Value}
theorem kX_in (h : kX γ A s L F H locs) {L' : List Nat} (hn : L'.Nodup) (hs : ∀ a ∈ L', a ∈ L) : kX γ A s L' F H locs :=
  ⟨kP_iff.mpr fun a ha => kP_iff.mp h.1 a (hs a ha), ⟨hn, fun a ha => h.2.1.2 a (hs a ha)⟩, h.2.2⟩
theorem kX_perm (h : kX γ A s L F H locs) {L' : List Nat} (hp : List.Perm L L') : kX γ A s L' F H locs := kX_in h (hp.nodup_iff.mp h.2.1.1) fun _ ha => hp.mem_iff.mpr ha
theorem kX_left (h : kX γ A s (L ++ X) F H locs) : kX γ A s L F H locs := kX_in h (List.nodup_append.mp h.2.1.1).1 fun _ ha => List.mem_append_left _ ha
theorem kX_apart (h : kX γ A s (L ++ X) F H locs) {a : Nat} (ha : a ∈ L) : a ∉ X := fun hb => (List.nodup_append.mp h.2.1.1).2.2 a ha a hb rfl
theorem kX_join (hE : kE γ A s) (hX : kX γ A s (L ++ X) F H locs) {u : List Nat × kF} {st t : State} {H1 : Heap} {locs1 : List Loc} (h0 : st.heap = H) (ht : t.heap = H1) (hB : kOut γ L H.size u t) (hF : va_F (kA L H.size) st t) (hS : va_S A s.heap H1 locs1) : kX γ A s (u.1 ++ X) (kMix X F u.2) H1 locs1 := by
  have hap : ∀ a ∈ X, ¬ kA L H.size a := fun a ha hq => hq.elim (fun h => kX_apart hX h ha) (fun h => absurd (kX_lt hX (List.mem_append_right _ ha)) (Nat.not_lt.mpr h))
  refine ⟨kP_iff.mpr fun a ha => ?_, ⟨?_, ?_⟩, hS⟩
  · by_cases hx : a ∈ X
    · rw [kMix_in hx]
      refine va_at.kept (kP_iff.mp hX.1 a (List.mem_append_right _ hx)) ?_
      have h1 := hF.2 a (by rw [h0]; exact kX_lt hX (List.mem_append_right _ hx)) (hap a hx)
      rw [h0, ht] at h1
      exact h1
    · rw [kMix_out hx, ← ht]
      exact kP_iff.mp hB.1 a ((List.mem_append.mp ha).elim id (fun h => absurd h hx))
  · rw [List.nodup_append]
    exact ⟨hB.2.1, (List.nodup_append.mp hX.2.1.1).2.1, fun a ha b hb e => hap b hb (e ▸ hB.2.2 a ha)⟩
  · intro a ha
    rcases List.mem_append.mp ha with ha | ha
    · exact kX_sub (kX_left hX) hE.2.2 a (hB.2.2 a ha)
    · exact hX.2.1.2 a (List.mem_append_right _ ha)
/-- a call on a part of the world -/
theorem k_goF (hr : va_Run p l e R s m args below meth c H locs cells slots mc ms (F0 m pc ls st0) rest (kQ γ L H.size ok a0) (kA L H.size)) (hE : kE γ A s) (hX : kX γ A s (L ++ X) F H locs)
    (kk : ∀ (v : Option Value) (L1 : List Nat) (F1 : kF) (H1 : Heap) (locs1 : List Loc), ok v L1 F1 → kX γ A s (L1 ++ X) (kMix X F F1) H1 locs1 → W p l e R s m args below meth c H1 locs1 (cells + mc) (slots + ms) Q (F0 m (pc + 3) ls (v.toList ++ rest))) : W p l e R s m args below meth c H locs cells slots Q (F0 m pc ls st0) := by
  intro T hT X9
  have hXs := kX_left hX
  obtain ⟨v, st₀, t, T', L9, h0, X', hL, e1, e2, ⟨⟨v', u, hv, hok, hB⟩, hF⟩, st⟩ := hr T hT X9
  cases hv
  obtain ⟨k1, k2, k3⟩ := vx_keep h0 e1 hXs.2.2 (fun q _ h => kX_sub hXs hE.2.2 q h) (kX_sub hXs hE.2.2) hL hF
  obtain ⟨t2, a1, b1⟩ := kk v u.1 u.2 T'.heap (locs ++ L9) hok (kX_join hE hX h0 e1.symm hB hF k3) T' rfl X'
  exact ⟨t2, st t2 a1, b1⟩
/-- .. that may throw: what it throws is looked at here -/
theorem x_goF (hr : vx_Run p l e R s m args below meth c H locs cells slots mc ms (F0 m pc ls st0) rest (kQ γ L H.size ok a0) (kXC γ L F H.size no) (kA L H.size)) (hE : kE γ A s) (hX : kX γ A s (L ++ X) F H locs)
    (kk : ∀ (v : Option Value) (L1 : List Nat) (F1 : kF) (H1 : Heap) (locs1 : List Loc), ok v L1 F1 → kX γ A s (L1 ++ X) (kMix X F F1) H1 locs1 → W p l e R s m args below meth c H1 locs1 (cells + mc) (slots + ms) Q (F0 m (pc + 3) ls (v.toList ++ rest)))
    (kx : ∀ (E : String) (ce : Cell) (q : Addr) (H1 : Heap) (locs1 : List Loc), no E → kX γ A s (L ++ X) F H1 locs1 → H1[q]? = some ce → ce.vm = .none → s.vm.findClass E = some ce.cls → vx_W p l e R s m args below meth c H1 locs1 (cells + mc) (slots + ms) Q (F0 m pc ls rest) q) : W p l e R s m args below meth c H locs cells slots Q (F0 m pc ls st0) := by
  intro T hT X9
  have hXs := kX_left hX
  rcases hr T hT X9 with ⟨v, st₀, t, T', L9, h0, X', hL, e1, e2, ⟨⟨v', u, hv, hok, hB⟩, hF⟩, st⟩ | ⟨q, st₀, t, T', L9, E, ce, h0, X', hL, e1, e2, ⟨hn, hB, hF⟩, hce, hcv, hcl, st⟩
  · cases hv
    obtain ⟨k1, k2, k3⟩ := vx_keep h0 e1 hXs.2.2 (fun q _ h => kX_sub hXs hE.2.2 q h) (kX_sub hXs hE.2.2) hL hF
    obtain ⟨t2, a1, b1⟩ := kk v u.1 u.2 T'.heap (locs ++ L9) hok (kX_join hE hX h0 e1.symm hB hF k3) T' rfl X'
    exact ⟨t2, st t2 a1, b1⟩
  · obtain ⟨k1, k2, k3⟩ := vx_keep h0 e1 hXs.2.2 (fun q _ h => kX_sub hXs hE.2.2 q h) (kX_sub hXs hE.2.2) hL hF
    have hX1 := kX_join hE hX h0 (H1 := T'.heap) e1.symm hB hF k3
    rw [kMix_same] at hX1
    obtain ⟨t2, a1, b1⟩ := kx E ce q T'.heap (locs ++ L9) hn hX1 (by rw [e1]; exact hce) hcv hcl T' rfl X'
    exact ⟨t2, st.trans a1, b1⟩
/-- the contract of a method with a table of its own, that returns -/
def kCW (l : Launch) (y : MethodName) (b : ByteArray) (n : Nat) (ret : Option FieldType) (hh : List (Nat × Nat × Nat × Nat)) (rm : Room) (γ : kG) (L : List Nat) (F : kF) (av : List Value) (ok : kOk) : Prop :=
  ∀ sz, Met l y (Cond.codeWith y b n ret hh :: W0) rm (va_Pc av (kIn γ L F sz)) (kQ γ L sz ok) rm.cells rm.slots (kA L sz)
theorem kCW_of {b : ByteArray} {hh : List (Nat × Nat × Nat × Nat)} (hy : plainName y.cls = true) (hn : (lg_sl av).length ≤ n) (body : ∀ p e s m args below meth c sz ls, args = av.toArray → s.heap.size = sz → kM p s m args meth c b n ret y.cls → c.exceptionTable.toList = tableOf hh → kE γ (kA L sz) s → kX γ (kA L sz) s L F s.heap [] → lv_has ls n (lv_args 0 av) → W p l e rm s m args below meth c s.heap [] 0 0 (MQ below (kQ γ L sz ok) args s rm.cells rm.slots (kA L sz)) (F0 m 0 ls [])) : kCW l y b n ret hh rm γ L F av ok := by
  intro sz
  refine MetFree.of_bodyS (code := b) (maxLocals := n) (ret := ret) hy ?_ ?_
  · intro args s m h hn1
    obtain ⟨m9, meth, c, hn9, h1, h2, h3, h4, -, h5, h6, -⟩ := Cond.codeWith_spec (atoms_spec (ws := Cond.codeWith y b n ret hh :: W0) h _ List.mem_cons_self)
    cases hn1.symm.trans hn9
    exact ⟨meth, c, h1, h2, h3, h4, h5, h6⟩
  · intro p e s m args below meth c s₁ B hml hv _
    have hh0 : s₁.heap = s.heap := by rw [B.state]; rfl
    obtain ⟨h0, h1, h2, h3, h4, h5⟩ := hv
    have ht : c.exceptionTable.toList = tableOf hh := vx_table (x := y) B (atoms_spec (ws := Cond.codeWith y b n ret hh :: W0) B.pre _ List.mem_cons_self)
    have hl := lv_entry av hn
    subst h0
    have K : W p l e rm s m av.toArray below meth c s.heap [] 0 0 (MQ below (kQ γ L sz ok) av.toArray s rm.cells rm.slots (kA L sz)) (entryFrame m av.toArray n) := by
      rw [lg_entry_eq]
      exact body p e s m _ below meth c sz _ rfl h1 ⟨B.exec, B.bytes, hml, findClass_of_methodNamed B.named, fun w hw => atoms_spec (ws := Cond.codeWith y b n ret hh :: W0) B.pre w (List.mem_cons_of_mem _ hw), B.returns, B.notSynchronized, rfl⟩ ht ⟨h3, h5, fun q hq => Or.inr (h1 ▸ hq)⟩ ⟨h2, ⟨h4, fun a ha => Or.inl ha⟩, va_S.rf⟩ hl
    obtain ⟨t, a1, o, b1, b2, b3⟩ := K s₁ hh0 (Stand.of_body B)
    exact ⟨t, o, a1, b1, b2, ⟨b3.1, b3.2⟩⟩
theorem kG_SW {own : String} {idx : Nat} {y : MethodName} {b : ByteArray} {n : Nat} {ret : Option FieldType} {hh : List (Nat × Nat × Nat × Nat)} (w1 : Cond.methodLink own idx y ∈ W0) (w2 : Cond.static y ∈ W0) (w4 : Cond.initialized y.cls ∈ W0) (w5 : Cond.codeWith y b n ret hh ∈ W0) : GoodIn W0 (va_wsS own idx y (Cond.codeWith y b n ret hh :: W0)) := by
  intro w hw
  rcases List.mem_append.mp hw with hw | hw
  · simp only [List.mem_cons, List.not_mem_nil, or_false] at hw
    rcases hw with rfl | rfl | rfl <;> exact W0_good (by assumption)
  · rcases List.mem_cons.mp hw with rfl | hw
    · exact W0_good w5
    · exact W0_good hw
theorem k_SW (hM : kM p s m args meth c cc nL ret own) (hE : kE γ A s) (hX : kX γ A s L F H locs) (hl : lv_has ls nL lv) {hh : List (Nat × Nat × Nat × Nat)} (hC : kCW l y bytes maxL rt hh rm γ L F As ok) (w1 : Cond.methodLink own index y ∈ W0) (w2 : Cond.static y ∈ W0) (w4 : Cond.initialized y.cls ∈ W0) (w5 : Cond.codeWith y bytes maxL rt hh ∈ W0)
    (hd : y.cls ≠ "java/lang/invoke/MethodHandle" ∧ y.cls ≠ "java/lang/invoke/VarHandle" ∧ (parseMethodDescriptor y.desc).map (fun d => d.parameters.length) = some n) (hR : rm.frames + 1 ≤ R.frames ∧ 8 + (maxL + 11) + rm.locals ≤ R.locals) (hn : As.length = n) (hst : st0 = As.reverse ++ rest) (hW : (rest.map fun v => v.category).sum ≤ 8) (hdg : decode cc pc = .ok (.invokestatic index, 3)) (hf : cells + rm.cells ≤ R.cells ∧ slots + rm.slots ≤ R.slots) :
    va_Run p l e R s m args below meth c H locs cells slots rm.cells rm.slots (F0 m pc ls st0) rest (kQ γ L H.size ok As.toArray) (kA L H.size) :=
  vx_runSW (As := As) (rest := rest) ⟨hM.1, hM.2.1, hM.2.2.1, hM.2.2.2.1, hM.2.2.2.2.1⟩ (hC H.size) (vx_cwSW n hM.2.2.2.2.1 (kG_SW w1 w2 w4 w5) rfl rfl rfl hd hR) ⟨kIn_blind, fun U hU hW => k_in hE hX _ U hU hW⟩ rfl hn hl.1 hst (lv_room hW) hdg hf
/-- the handlers of a table, by their places -/
theorem x_h1 {E : String} {ce : Cell} {q : Addr} {a1 b1 h1 c1 : Nat} {hs : List (Nat × Nat × Nat × Nat)} (hM : kM p s m args meth c cc nL ret own) (htab : c.exceptionTable.toList = tableOf ((a1, b1, h1, c1) :: hs)) (hcov : covers ⟨a1, b1, h1, c1⟩ pc = true) (h0 : c1 ≠ 0) (hlk : Cond.classLink own c1 E ∈ W0) (hcast : va_Nw (.castable E E) s) (hce : H[q]? = some ce) (hv : ce.vm = .none) (hcl : s.vm.findClass E = some ce.cls)
    (kk : W p l e R s m args below meth c H locs cells slots Q (F0 m h1 ls [.ref q])) : vx_W p l e R s m args below meth c H locs cells slots Q (F0 m pc ls rest) q :=
  vx_catch hM.2.2.2.1 [] ⟨a1, b1, h1, c1⟩ (tableOf hs) htab (fun z hz => nomatch hz) hcov h0 (hM.2.2.2.2.1 _ hlk) (hcast.use rfl) hce hv hcl kk
theorem x_h2 {E E1 : String} {ce : Cell} {q : Addr} {a1 b1 h1 c1 a2 b2 h2 c2 : Nat} {hs : List (Nat × Nat × Nat × Nat)} (hM : kM p s m args meth c cc nL ret own) (htab : c.exceptionTable.toList = tableOf ((a1, b1, h1, c1) :: (a2, b2, h2, c2) :: hs)) (h01 : c1 ≠ 0) (hlk1 : Cond.classLink own c1 E1 ∈ W0) (hno1 : va_Nc E E1 s) (hcov : covers ⟨a2, b2, h2, c2⟩ pc = true) (h0 : c2 ≠ 0) (hlk : Cond.classLink own c2 E ∈ W0) (hcast : va_Nw (.castable E E) s) (hce : H[q]? = some ce) (hv : ce.vm = .none) (hcl : s.vm.findClass E = some ce.cls)
    (kk : W p l e R s m args below meth c H locs cells slots Q (F0 m h2 ls [.ref q])) : vx_W p l e R s m args below meth c H locs cells slots Q (F0 m pc ls rest) q :=
  vx_catch hM.2.2.2.1 [⟨a1, b1, h1, c1⟩] ⟨a2, b2, h2, c2⟩ (tableOf hs) htab (fun z hz => by
    cases List.mem_singleton.mp hz
    exact Or.inr ⟨h01, E1, hM.2.2.2.2.1 _ hlk1, hno1⟩) hcov h0 (hM.2.2.2.2.1 _ hlk) (hcast.use rfl) hce hv hcl kk
theorem x_h3 {E E1 E2 : String} {ce : Cell} {q : Addr} {a1 b1 h1 c1 a2 b2 h2 c2 a3 b3 h3 c3 : Nat} {hs : List (Nat × Nat × Nat × Nat)} (hM : kM p s m args meth c cc nL ret own) (htab : c.exceptionTable.toList = tableOf ((a1, b1, h1, c1) :: (a2, b2, h2, c2) :: (a3, b3, h3, c3) :: hs)) (h01 : c1 ≠ 0) (hlk1 : Cond.classLink own c1 E1 ∈ W0) (hno1 : va_Nc E E1 s) (h02 : c2 ≠ 0) (hlk2 : Cond.classLink own c2 E2 ∈ W0) (hno2 : va_Nc E E2 s) (hcov : covers ⟨a3, b3, h3, c3⟩ pc = true) (h0 : c3 ≠ 0) (hlk : Cond.classLink own c3 E ∈ W0) (hcast : va_Nw (.castable E E) s) (hce : H[q]? = some ce) (hv : ce.vm = .none) (hcl : s.vm.findClass E = some ce.cls)
    (kk : W p l e R s m args below meth c H locs cells slots Q (F0 m h3 ls [.ref q])) : vx_W p l e R s m args below meth c H locs cells slots Q (F0 m pc ls rest) q :=
  vx_catch hM.2.2.2.1 [⟨a1, b1, h1, c1⟩, ⟨a2, b2, h2, c2⟩] ⟨a3, b3, h3, c3⟩ (tableOf hs) htab (fun z hz => by
    rcases List.mem_cons.mp hz with rfl | hz
    · exact Or.inr ⟨h01, E1, hM.2.2.2.2.1 _ hlk1, hno1⟩
    · cases List.mem_singleton.mp hz
      exact Or.inr ⟨h02, E2, hM.2.2.2.2.1 _ hlk2, hno2⟩) hcov h0 (hM.2.2.2.2.1 _ hlk) (hcast.use rfl) hce hv hcl kk
end LB
theorem RepC.eqF {γ : kG} {L : List Nat} {F F1 : kF} {o : Nat} {ad : cAd} {tg : cTg} {M : mM} {nd : Nat} {D : cD} (h : RepC γ L F o ad tg M nd D) (hF : ∀ b ∈ L, F1 b = F b) : RepC γ L F1 o ad tg M nd D := h.more fun b hb => ⟨hb, hF b hb, rfl⟩
theorem RepC.mix {γ : kG} {L X : List Nat} {F : kF} {o : Nat} {ad : cAd} {tg : cTg} {M : mM} {nd : Nat} {D : cD} {F0 : kF} (h : RepC γ L F o ad tg M nd D) (hX : ∀ b ∈ L, b ∉ X) : RepC γ L (kMix X F0 F) o ad tg M nd D := h.eqF fun b hb => kMix_out (hX b hb)
/-! an object of the class in a world: its table M, at most n documents -/
def Ob (γ : kG) (o : Nat) (M : mM) (n : Nat) (L : List Nat) (F : kF) : Prop := ∃ (ad : cAd) (tg : cTg) (nd : Nat) (D : cD), RepC γ L F o ad tg M nd D ∧ Inv M nd D ∧ nd ≤ n ∧ M 24 0 = 0
theorem mset_24 {M : mM} (h : M 24 0 = 0) : mset M 24 0 0 = M := by
  funext k j
  show (if k = 24 then upd (M 24) 0 0 else M k) j = M k j
  by_cases e : k = 24
  · subst e
    rw [if_pos rfl]
    show (if j = 0 then 0 else M 24 j) = M 24 j
    by_cases ej : j = 0
    · subst ej; rw [if_pos rfl, h]
    · rw [if_neg ej]
  · rw [if_neg e]
theorem Ob.up {γ : kG} {o n n1 : Nat} {M : mM} {L : List Nat} {F : kF} (h : Ob γ o M n L F) (hn : n ≤ n1) : Ob γ o M n1 L F := by
  obtain ⟨ad, tg, nd, D, h1, h2, h3, h4⟩ := h
  exact ⟨ad, tg, nd, D, h1, h2, by omega, h4⟩
theorem Ob.inv {γ : kG} {o n : Nat} {M : mM} {L : List Nat} {F : kF} (h : Ob γ o M n L F) : ∃ (nd : Nat) (D : cD), Inv M nd D := by
  obtain ⟨ad, tg, nd, D, h1, h2, h3, h4⟩ := h
  exact ⟨nd, D, h2⟩
theorem Ob.z {γ : kG} {o n : Nat} {M : mM} {L : List Nat} {F : kF} (h : Ob γ o M n L F) : M 24 0 = 0 := by
  obtain ⟨ad, tg, nd, D, h1, h2, h3, h4⟩ := h
  exact h4
theorem Ob.mix {γ : kG} {o n : Nat} {M : mM} {L X : List Nat} {F F0 : kF} (h : Ob γ o M n L F) (hX : ∀ b ∈ L, b ∉ X) : Ob γ o M n L (kMix X F0 F) := by
  obtain ⟨ad, tg, nd, D, h1, h2, h3, h4⟩ := h
  exact ⟨ad, tg, nd, D, h1.mix hX, h2, h3, h4⟩
theorem Ob.mixIn {γ : kG} {o n : Nat} {M : mM} {L : List Nat} {F F0 : kF} (h : Ob γ o M n L F) : Ob γ o M n L (kMix L F F0) := by
  obtain ⟨ad, tg, nd, D, h1, h2, h3, h4⟩ := h
  exact ⟨ad, tg, nd, D, h1.eqF fun b hb => kMix_in hb, h2, h3, h4⟩
theorem o_absurd {x k : Int32} {P : Prop} (h : x = k) (h0 : x = 0) (hk : k ≠ 0 := by decide) : P := absurd (h.symm.trans h0) hk
/-- what act leaves: the answer and the table behind it, or a number that tells what was thrown, and nothing changed -/
def Ac (γ : kG) (o n : Nat) (M : mM) (MC : Int32 × mM) (cs : List (Int32 × Int32)) (r : Int32) (L1 : List Nat) (F1 : kF) : Prop :=
  (MC.2 24 0 = 0 ∧ r = MC.1 ∧ Ob γ o MC.2 (n + 1) L1 F1) ∨ ∃ q ∈ cs, MC.2 24 0 = q.1 ∧ q.1 ≠ 0 ∧ r = q.2 ∧ Ob γ o M n L1 F1
def bz (x : Int32) : Int32 := if x = 1 then 1 else 0
theorem bz_01 (x : Int32) : bz x = 0 ∨ bz x = 1 := by
  unfold bz
  split
  · exact Or.inr rfl
  · exact Or.inl rfl
section OB
variable {γ : kG} {L L1 : List Nat} {F F1 : kF} {o n : Nat} {ad : cAd} {tg : cTg} {M : mM} {nd : Nat} {D : cD} {MC : Int32 × mM} {r : Int32} {cs : List (Int32 × Int32)}
theorem Ac.rd (hR : RepC γ L F o ad tg M nd D) (hI : Inv M nd D) (hnd : nd ≤ n) (hz : M 24 0 = 0) (h : L = L1 ∧ F = F1 ∧ MC = (r, mset M 24 0 0)) : Ac γ o n M MC cs r L1 F1 := by
  obtain ⟨rfl, rfl, rfl⟩ := h
  refine Or.inl ⟨mset_s M 24 0 0, rfl, ?_⟩
  show Ob γ o (mset M 24 0 0) (n + 1) L F
  rw [mset_24 hz]
  exact ⟨ad, tg, nd, D, hR, hI, by omega, hz⟩
theorem Ac.wr (hnd : nd ≤ n) (h : After γ L o nd MC r L1 F1) : Ac γ o n M MC cs r L1 F1 := by
  obtain ⟨M9, ad1, tg1, nd1, D1, rfl, z9, -, hR1, hI1, hn1⟩ := h
  exact Or.inl ⟨z9, rfl, ad1, tg1, nd1, D1, hR1, hI1, by omega, z9⟩
theorem Ac.no {q : Int32 × Int32} (hR : RepC γ L F o ad tg M nd D) (hI : Inv M nd D) (hnd : nd ≤ n) (hz : M 24 0 = 0) (ht : Thr M MC.2 q.1) (hq : q ∈ cs) (h0 : q.1 ≠ 0 := by decide) : Ac γ o n M MC cs q.2 L F :=
  Or.inr ⟨q, hq, ht.2, h0, rfl, ad, tg, nd, D, hR, hI, hnd, hz⟩
theorem Ac.ok {M1 : mM} {r1 : Int32} (h : Ac γ o n M MC cs r L1 F1) (e : MC = (r1, M1)) (h0 : M1 24 0 = 0) : r = r1 ∧ Ob γ o M1 (n + 1) L1 F1 := by
  subst e
  rcases h with ⟨-, h1, h2⟩ | ⟨q, -, h1, h2, -⟩
  · exact ⟨h1, h2⟩
  · exact absurd (h1.symm.trans h0) h2
theorem Ac.not {k v : Int32} (h : Ac γ o n M MC cs r L1 F1) (e : MC.2 24 0 = k) (hu : (cs.map Prod.fst).Nodup ∧ 0 ∉ cs.map Prod.fst) (hk : (k, v) ∈ cs) : r = v ∧ Ob γ o M n L1 F1 := by
  rcases h with ⟨h1, -⟩ | ⟨q, hq, h1, h2, h3, h4⟩
  · exact absurd (List.mem_map.mpr ⟨(k, v), hk, e.symm.trans h1⟩) hu.2
  · have e1 : q.1 = k := h1.symm.trans e
    refine ⟨?_, h4⟩
    rw [h3]
    have hn := hu.1
    clear h1 h2 h3 hu e
    induction cs with
    | nil => nomatch hq
    | cons z r9 ih =>
      simp only [List.map_cons, List.nodup_cons] at hn
      rcases List.mem_cons.mp hq with rfl | hq
      · rcases List.mem_cons.mp hk with e2 | hk
        · rw [← e2]
        · exact absurd (List.mem_map.mpr ⟨(k, v), hk, e1.symm⟩) hn.1
      · rcases List.mem_cons.mp hk with e2 | hk
        · exact absurd (List.mem_map.mpr ⟨q, hq, by rw [← e2]; exact e1⟩) hn.1
        · exact ih hk hq hn.2
end OB
section OG
variable {p : Program} {l : Launch} {e : Env} {R : Room} {s : State} {m : MethodId} {args : Array Value} {below : List Frame} {meth : Method} {c : Code} {H : Heap} {locs : List Loc} {cells slots : Nat} {Q : State → Prop}
variable {cc : ByteArray} {nL : Nat} {ret : Option FieldType} {own : String} {γ : kG} {A : Nat → Prop} {L : List Nat} {F : kF} {pc : Nat} {ls : Array Slot} {rest st0 : List Value} {ok : kOk} {no : String → Prop} {mc ms : Nat} {a0 : Array Value}
/-- a call that may throw: both ends are looked at -/
theorem o_gox (hr : vx_Run p l e R s m args below meth c H locs cells slots mc ms (F0 m pc ls st0) rest (kQ γ L H.size ok a0) (kXC γ L F H.size no) (kA L H.size)) (hE : kE γ A s) (hX : kX γ A s L F H locs)
    (kk : ∀ (v : Option Value) (L1 : List Nat) (F1 : kF) (H1 : Heap) (locs1 : List Loc), ok v L1 F1 → kX γ A s L1 F1 H1 locs1 → W p l e R s m args below meth c H1 locs1 (cells + mc) (slots + ms) Q (F0 m (pc + 3) ls (v.toList ++ rest)))
    (kx : ∀ (E : String) (ce : Cell) (q : Addr) (H1 : Heap) (locs1 : List Loc), no E → kX γ A s L F H1 locs1 → H1[q]? = some ce → ce.vm = .none → s.vm.findClass E = some ce.cls → vx_W p l e R s m args below meth c H1 locs1 (cells + mc) (slots + ms) Q (F0 m pc ls rest) q) : W p l e R s m args below meth c H locs cells slots Q (F0 m pc ls st0) := by
  intro T hT X9
  rcases hr T hT X9 with ⟨v, st₀, t, T', L9, h0, X', hL, e1, e2, ⟨⟨v', u, hv, hok, hB⟩, hF⟩, st⟩ | ⟨q, st₀, t, T', L9, E, ce, h0, X', hL, e1, e2, ⟨hn, hB, hF⟩, hce, hcv, hcl, st⟩
  · cases hv
    obtain ⟨k1, k2, k3⟩ := vx_keep h0 e1 hX.2.2 (fun q _ h => kX_sub hX hE.2.2 q h) (kX_sub hX hE.2.2) hL hF
    obtain ⟨t2, a1, b1⟩ := kk v u.1 u.2 T'.heap (locs ++ L9) hok (k_back hE hX e1.symm hB k3) T' rfl X'
    exact ⟨t2, st t2 a1, b1⟩
  · obtain ⟨k1, k2, k3⟩ := vx_keep h0 e1 hX.2.2 (fun q _ h => kX_sub hX hE.2.2 q h) (kX_sub hX hE.2.2) hL hF
    obtain ⟨t2, a1, b1⟩ := kx E ce q T'.heap (locs ++ L9) hn (k_back hE hX (t := t) (H1 := T'.heap) e1.symm hB k3) (by rw [e1]; exact hce) hcv hcl T' rfl X'
    exact ⟨t2, st.trans a1, b1⟩
/-- .. that does not throw here -/
theorem o_goi {P : Int32 → List Nat → kF → Prop} (hr : vx_Run p l e R s m args below meth c H locs cells slots mc ms (F0 m pc ls st0) rest (kQ γ L H.size (kI P) a0) (kXC γ L F H.size no) (kA L H.size)) (hE : kE γ A s) (hX : kX γ A s L F H locs) (hno : ∀ E, no E → False)
    (kk : ∀ (r : Int32) (L1 : List Nat) (F1 : kF) (H1 : Heap) (locs1 : List Loc), P r L1 F1 → kX γ A s L1 F1 H1 locs1 → W p l e R s m args below meth c H1 locs1 (cells + mc) (slots + ms) Q (F0 m (pc + 3) ls (.int r :: rest))) : W p l e R s m args below meth c H locs cells slots Q (F0 m pc ls st0) :=
  o_gox hr hE hX (fun v L1 F1 H1 locs1 ⟨r, hv, hp⟩ hX1 => by subst hv; exact kk r L1 F1 H1 locs1 hp hX1) (fun E _ _ _ _ h _ _ _ _ => (hno E h).elim)
/-- a boolean out of an int -/
theorem act_bool (hM : kM p s m args meth c cc nL ret own) {x : Int32} (d0 : decode cc pc = .ok (.if_icmp .ne 7, 3)) (d3 : decode cc (pc + 3) = .ok (.iconst 1, 1)) (d4 : decode cc (pc + 4) = .ok (.goto 4, 3)) (d7 : decode cc (pc + 7) = .ok (.iconst 0, 1))
    (kk : ∀ z : Int32, z = bz x → W p l e R s m args below meth c H locs cells slots Q (F0 m (pc + 8) ls (.int z :: rest))) : W p l e R s m args below meth c H locs cells slots Q (F0 m pc ls (.int 1 :: .int x :: rest)) := by
  have hx := hM.1
  have hb := hM.2.1
  refine lv_icmp_ne (tgt := pc + 7) hx hb d0 (by omega) (fun h => ?_) (fun h => ?_)
  · refine lv_iconst (v := 0) hx hb d7 (by decide) ?_
    exact kk 0 (if_neg h).symm
  · refine lv_iconst (v := 1) hx hb d3 (by decide) ?_
    refine lv_goto (tgt := pc + 8) hx hb d4 (by omega) ?_
    exact kk 1 (if_pos h).symm
theorem lv_is {x y : Int32} (h : x = y) (kk : W p l e R s m args below meth c H locs cells slots Q (F0 m pc ls (.int y :: rest))) : W p l e R s m args below meth c H locs cells slots Q (F0 m pc ls (.int x :: rest)) := h ▸ kk
end OG
