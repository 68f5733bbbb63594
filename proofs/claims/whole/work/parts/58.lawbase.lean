/-! the law: a part of the world, methods with a table, what a wrapper leaves -/
theorem kP_iff {D : va_G} {cl : List vw_C} {L : List Nat} {F : kF} {H : Heap} : va_P D cl (va_pl L F) H ↔ ∀ a ∈ L, va_at D cl (a, F a) H := by
  constructor
  · intro h a ha
    obtain ⟨k, hk⟩ := va_pl_get (X := []) (f := F) ha
    exact h k _ (by simpa using hk)
  · intro h k q hq
    simp only [va_pl, List.getElem?_map] at hq
    obtain ⟨a, ha, rfl⟩ := Option.map_eq_some_iff.mp hq
    exact h a (List.mem_of_getElem? ha)
def kMix (X : List Nat) (F F1 : kF) : kF := fun a => if a ∈ X then F a else F1 a
theorem kMix_in {X : List Nat} {F F1 : kF} {a : Nat} (h : a ∈ X) : kMix X F F1 a = F a := if_pos h
theorem kMix_out {X : List Nat} {F F1 : kF} {a : Nat} (h : a ∉ X) : kMix X F F1 a = F1 a := if_neg h
theorem kMix_same (X : List Nat) (F : kF) : kMix X F F = F := funext fun a => ite_self _
section LB
variable {p : Program} {l : Launch} {e : Env} {R : Room} {s : State} {m : MethodId} {args : Array Value} {below : List Frame} {meth : Method} {c : Code} {H : Heap} {locs : List Loc} {cells slots : Nat} {Q : State → Prop}
variable {cc : ByteArray} {nL : Nat} {ret : Option FieldType} {own : String} {γ : kG} {A : Nat → Prop} {L X : List Nat} {F : kF} {pc : Nat} {ls : Array Slot} {rest st0 : List Value}
variable {y : MethodName} {bytes : ByteArray} {maxL n index : Nat} {rt : Option FieldType} {rm : Room} {As av : List Value} {ok : kOk} {no : String → Prop} {lv : List (Nat × Value)} {mc ms : Nat} {a0 : Array Value}
theorem kX_in (h : kX γ A s L F H locs) {L' : List Nat} (hn : L'.Nodup) (hs : ∀ a ∈ L', a ∈ L) : kX γ A s L' F H locs :=
  ⟨kP_iff.mpr fun a ha => kP_iff.mp h.1 a (hs a ha), ⟨hn, fun a ha => h.2.1.2 a (hs a ha)⟩, h.2.2⟩
theorem kX_perm (h : kX γ A s L F H locs) {L' : List Nat} (hp : List.Perm L L') : kX γ A s L' F H locs := kX_in h (hp.nodup_iff.mp h.2.1.1) fun _ ha => hp.mem_iff.mpr ha
theorem kX_left (h : kX γ A s (L ++ X) F H locs) : kX γ A s L F H locs := kX_in h (List.nodup_append.mp h.2.1.1).1 fun _ ha => List.mem_append_left _ ha
theorem kX_apart (h : kX γ A s (L ++ X) F H locs) {a : Nat} (ha : a ∈ L) : a ∉ X := fun hb => (List.nodup_append.mp h.2.1.1).2.2 a ha a hb rfl
theorem kX_join (hE : kE γ A s) (hX : kX γ A s (L ++ X) F H locs) {u : List Nat × kF} {st t : State} {H1 : Heap} {locs1 : List Loc} (h0 : st.heap = H) (ht : t.heap = H1) (hB : kOut γ L H.size u t) (hF : va_F (kA L H.size) st t) (hS : va_S A s.heap H1 locs1) : kX γ A s (u.1 ++ X) (kMix X F u.2) H1 locs1 := by
  have hap : ∀ a ∈ X, ¬ kA L H.size a := fun a ha hq => hq.elim (fun h => kX_apart hX h ha) (fun h => absurd (kX_lt hX (List.mem_append_right _ ha)) (Nat.not_lt.mpr h))
  refine ⟨kP_iff.mpr fun a ha => ?_, ⟨?_, ?_⟩, hS⟩
  · by_cases hx : a ∈ X
    · rw [kMix_in hx]
      refine va_at.kept (kP_iff.mp hX.1 a (List.mem_append_right _ hx)) ?_
      have h1 := hF.2 a (by rw [h0]; exact kX_lt hX (List.mem_append_right _ hx)) (hap a hx)
      rw [h0, ht] at h1
      exact h1
    · rw [kMix_out hx, ← ht]
      exact kP_iff.mp hB.1 a ((List.mem_append.mp ha).elim id (fun h => absurd h hx))
  · rw [List.nodup_append]
    exact ⟨hB.2.1, (List.nodup_append.mp hX.2.1.1).2.1, fun a ha b hb e => hap b hb (e ▸ hB.2.2 a ha)⟩
  · intro a ha
    rcases List.mem_append.mp ha with ha | ha
    · exact kX_sub (kX_left hX) hE.2.2 a (hB.2.2 a ha)
    · exact hX.2.1.2 a (List.mem_append_right _ ha)
/-- a call on a part of the world -/
theorem k_goF (hr : va_Run p l e R s m args below meth c H locs cells slots mc ms (F0 m pc ls st0) rest (kQ γ L H.size ok a0) (kA L H.size)) (hE : kE γ A s) (hX : kX γ A s (L ++ X) F H locs)
    (kk : ∀ (v : Option Value) (L1 : List Nat) (F1 : kF) (H1 : Heap) (locs1 : List Loc), ok v L1 F1 → kX γ A s (L1 ++ X) (kMix X F F1) H1 locs1 → W p l e R s m args below meth c H1 locs1 (cells + mc) (slots + ms) Q (F0 m (pc + 3) ls (v.toList ++ rest))) : W p l e R s m args below meth c H locs cells slots Q (F0 m pc ls st0) := by
  intro T hT X9
  have hXs := kX_left hX
  obtain ⟨v, st₀, t, T', L9, h0, X', hL, e1, e2, ⟨⟨v', u, hv, hok, hB⟩, hF⟩, st⟩ := hr T hT X9
  cases hv
  obtain ⟨k1, k2, k3⟩ := vx_keep h0 e1 hXs.2.2 (fun q _ h => kX_sub hXs hE.2.2 q h) (kX_sub hXs hE.2.2) hL hF
  obtain ⟨t2, a1, b1⟩ := kk v u.1 u.2 T'.heap (locs ++ L9) hok (kX_join hE hX h0 e1.symm hB hF k3) T' rfl X'
  exact ⟨t2, st t2 a1, b1⟩
/-- .. that may throw: what it throws is looked at here -/
theorem x_goF (hr : vx_Run p l e R s m args below meth c H locs cells slots mc ms (F0 m pc ls st0) rest (kQ γ L H.size ok a0) (kXC γ L F H.size no) (kA L H.size)) (hE : kE γ A s) (hX : kX γ A s (L ++ X) F H locs)
    (kk : ∀ (v : Option Value) (L1 : List Nat) (F1 : kF) (H1 : Heap) (locs1 : List Loc), ok v L1 F1 → kX γ A s (L1 ++ X) (kMix X F F1) H1 locs1 → W p l e R s m args below meth c H1 locs1 (cells + mc) (slots + ms) Q (F0 m (pc + 3) ls (v.toList ++ rest)))
    (kx : ∀ (E : String) (ce : Cell) (q : Addr) (H1 : Heap) (locs1 : List Loc), no E → kX γ A s (L ++ X) F H1 locs1 → H1[q]? = some ce → ce.vm = .none → s.vm.findClass E = some ce.cls → vx_W p l e R s m args below meth c H1 locs1 (cells + mc) (slots + ms) Q (F0 m pc ls rest) q) : W p l e R s m args below meth c H locs cells slots Q (F0 m pc ls st0) := by
  intro T hT X9
  have hXs := kX_left hX
  rcases hr T hT X9 with ⟨v, st₀, t, T', L9, h0, X', hL, e1, e2, ⟨⟨v', u, hv, hok, hB⟩, hF⟩, st⟩ | ⟨q, st₀, t, T', L9, E, ce, h0, X', hL, e1, e2, ⟨hn, hB, hF⟩, hce, hcv, hcl, st⟩
  · cases hv
    obtain ⟨k1, k2, k3⟩ := vx_keep h0 e1 hXs.2.2 (fun q _ h => kX_sub hXs hE.2.2 q h) (kX_sub hXs hE.2.2) hL hF
    obtain ⟨t2, a1, b1⟩ := kk v u.1 u.2 T'.heap (locs ++ L9) hok (kX_join hE hX h0 e1.symm hB hF k3) T' rfl X'
    exact ⟨t2, st t2 a1, b1⟩
  · obtain ⟨k1, k2, k3⟩ := vx_keep h0 e1 hXs.2.2 (fun q _ h => kX_sub hXs hE.2.2 q h) (kX_sub hXs hE.2.2) hL hF
    have hX1 := kX_join hE hX h0 (H1 := T'.heap) e1.symm hB hF k3
    rw [kMix_same] at hX1
    obtain ⟨t2, a1, b1⟩ := kx E ce q T'.heap (locs ++ L9) hn hX1 (by rw [e1]; exact hce) hcv hcl T' rfl X'
    exact ⟨t2, st.trans a1, b1⟩
/-- the contract of a method with a table of its own, that returns -/
def kCW (l : Launch) (y : MethodName) (b : ByteArray) (n : Nat) (ret : Option FieldType) (hh : List (Nat × Nat × Nat × Nat)) (rm : Room) (γ : kG) (L : List Nat) (F : kF) (av : List Value) (ok : kOk) : Prop :=
  ∀ sz, Met l y (Cond.codeWith y b n ret hh :: W0) rm (va_Pc av (kIn γ L F sz)) (kQ γ L sz ok) rm.cells rm.slots (kA L sz)
theorem kCW_of {b : ByteArray} {hh : List (Nat × Nat × Nat × Nat)} (hy : plainName y.cls = true) (hn : (lg_sl av).length ≤ n) (body : ∀ p e s m args below meth c sz ls, args = av.toArray → s.heap.size = sz → kM p s m args meth c b n ret y.cls → c.exceptionTable.toList = tableOf hh → kE γ (kA L sz) s → kX γ (kA L sz) s L F s.heap [] → lv_has ls n (lv_args 0 av) → W p l e rm s m args below meth c s.heap [] 0 0 (MQ below (kQ γ L sz ok) args s rm.cells rm.slots (kA L sz)) (F0 m 0 ls [])) : kCW l y b n ret hh rm γ L F av ok := by
  intro sz
  refine MetFree.of_bodyS (code := b) (maxLocals := n) (ret := ret) hy ?_ ?_
  · intro args s m h hn1
    obtain ⟨m9, meth, c, hn9, h1, h2, h3, h4, -, h5, h6, -⟩ := Cond.codeWith_spec (atoms_spec (ws := Cond.codeWith y b n ret hh :: W0) h _ List.mem_cons_self)
    cases hn1.symm.trans hn9
    exact ⟨meth, c, h1, h2, h3, h4, h5, h6⟩
  · intro p e s m args below meth c s₁ B hml hv _
    have hh0 : s₁.heap = s.heap := by rw [B.state]; rfl
    obtain ⟨h0, h1, h2, h3, h4, h5⟩ := hv
    have ht : c.exceptionTable.toList = tableOf hh := vx_table (x := y) B (atoms_spec (ws := Cond.codeWith y b n ret hh :: W0) B.pre _ List.mem_cons_self)
    have hl := lv_entry av hn
    subst h0
    have K : W p l e rm s m av.toArray below meth c s.heap [] 0 0 (MQ below (kQ γ L sz ok) av.toArray s rm.cells rm.slots (kA L sz)) (entryFrame m av.toArray n) := by
      rw [lg_entry_eq]
      exact body p e s m _ below meth c sz _ rfl h1 ⟨B.exec, B.bytes, hml, findClass_of_methodNamed B.named, fun w hw => atoms_spec (ws := Cond.codeWith y b n ret hh :: W0) B.pre w (List.mem_cons_of_mem _ hw), B.returns, B.notSynchronized, rfl⟩ ht ⟨h3, h5, fun q hq => Or.inr (h1 ▸ hq)⟩ ⟨h2, ⟨h4, fun a ha => Or.inl ha⟩, va_S.rf⟩ hl
    obtain ⟨t, a1, o, b1, b2, b3⟩ := K s₁ hh0 (Stand.of_body B)
    exact ⟨t, o, a1, b1, b2, ⟨b3.1, b3.2⟩⟩
theorem kG_SW {own : String} {idx : Nat} {y : MethodName} {b : ByteArray} {n : Nat} {ret : Option FieldType} {hh : List (Nat × Nat × Nat × Nat)} (w1 : Cond.methodLink own idx y ∈ W0) (w2 : Cond.static y ∈ W0) (w4 : Cond.initialized y.cls ∈ W0) (w5 : Cond.codeWith y b n ret hh ∈ W0) : GoodIn W0 (va_wsS own idx y (Cond.codeWith y b n ret hh :: W0)) := by
  intro w hw
  rcases List.mem_append.mp hw with hw | hw
  · simp only [List.mem_cons, List.not_mem_nil, or_false] at hw
    rcases hw with rfl | rfl | rfl <;> exact W0_good (by assumption)
  · rcases List.mem_cons.mp hw with rfl | hw
    · exact W0_good w5
    · exact W0_good hw
theorem k_SW (hM : kM p s m args meth c cc nL ret own) (hE : kE γ A s) (hX : kX γ A s L F H locs) (hl : lv_has ls nL lv) {hh : List (Nat × Nat × Nat × Nat)} (hC : kCW l y bytes maxL rt hh rm γ L F As ok) (w1 : Cond.methodLink own index y ∈ W0) (w2 : Cond.static y ∈ W0) (w4 : Cond.initialized y.cls ∈ W0) (w5 : Cond.codeWith y bytes maxL rt hh ∈ W0)
    (hd : y.cls ≠ "java/lang/invoke/MethodHandle" ∧ y.cls ≠ "java/lang/invoke/VarHandle" ∧ (parseMethodDescriptor y.desc).map (fun d => d.parameters.length) = some n) (hR : rm.frames + 1 ≤ R.frames ∧ 8 + (maxL + 11) + rm.locals ≤ R.locals) (hn : As.length = n) (hst : st0 = As.reverse ++ rest) (hW : (rest.map fun v => v.category).sum ≤ 8) (hdg : decode cc pc = .ok (.invokestatic index, 3)) (hf : cells + rm.cells ≤ R.cells ∧ slots + rm.slots ≤ R.slots) :
    va_Run p l e R s m args below meth c H locs cells slots rm.cells rm.slots (F0 m pc ls st0) rest (kQ γ L H.size ok As.toArray) (kA L H.size) :=
  vx_runSW (As := As) (rest := rest) ⟨hM.1, hM.2.1, hM.2.2.1, hM.2.2.2.1, hM.2.2.2.2.1⟩ (hC H.size) (vx_cwSW n hM.2.2.2.2.1 (kG_SW w1 w2 w4 w5) rfl rfl rfl hd hR) ⟨kIn_blind, fun U hU hW => k_in hE hX _ U hU hW⟩ rfl hn hl.1 hst (lv_room hW) hdg hf
/-- the handlers of a table, by their places -/
theorem x_h1 {E : String} {ce : Cell} {q : Addr} {a1 b1 h1 c1 : Nat} {hs : List (Nat × Nat × Nat × Nat)} (hM : kM p s m args meth c cc nL ret own) (htab : c.exceptionTable.toList = tableOf ((a1, b1, h1, c1) :: hs)) (hcov : covers ⟨a1, b1, h1, c1⟩ pc = true) (h0 : c1 ≠ 0) (hlk : Cond.classLink own c1 E ∈ W0) (hcast : va_Nw (.castable E E) s) (hce : H[q]? = some ce) (hv : ce.vm = .none) (hcl : s.vm.findClass E = some ce.cls)
    (kk : W p l e R s m args below meth c H locs cells slots Q (F0 m h1 ls [.ref q])) : vx_W p l e R s m args below meth c H locs cells slots Q (F0 m pc ls rest) q :=
  vx_catch hM.2.2.2.1 [] ⟨a1, b1, h1, c1⟩ (tableOf hs) htab (fun z hz => nomatch hz) hcov h0 (hM.2.2.2.2.1 _ hlk) (hcast.use rfl) hce hv hcl kk
theorem x_h2 {E E1 : String} {ce : Cell} {q : Addr} {a1 b1 h1 c1 a2 b2 h2 c2 : Nat} {hs : List (Nat × Nat × Nat × Nat)} (hM : kM p s m args meth c cc nL ret own) (htab : c.exceptionTable.toList = tableOf ((a1, b1, h1, c1) :: (a2, b2, h2, c2) :: hs)) (h01 : c1 ≠ 0) (hlk1 : Cond.classLink own c1 E1 ∈ W0) (hno1 : va_Nc E E1 s) (hcov : covers ⟨a2, b2, h2, c2⟩ pc = true) (h0 : c2 ≠ 0) (hlk : Cond.classLink own c2 E ∈ W0) (hcast : va_Nw (.castable E E) s) (hce : H[q]? = some ce) (hv : ce.vm = .none) (hcl : s.vm.findClass E = some ce.cls)
    (kk : W p l e R s m args below meth c H locs cells slots Q (F0 m h2 ls [.ref q])) : vx_W p l e R s m args below meth c H locs cells slots Q (F0 m pc ls rest) q :=
  vx_catch hM.2.2.2.1 [⟨a1, b1, h1, c1⟩] ⟨a2, b2, h2, c2⟩ (tableOf hs) htab (fun z hz => by
    cases List.mem_singleton.mp hz
    exact Or.inr ⟨h01, E1, hM.2.2.2.2.1 _ hlk1, hno1⟩) hcov h0 (hM.2.2.2.2.1 _ hlk) (hcast.use rfl) hce hv hcl kk
theorem x_h3 {E E1 E2 : String} {ce : Cell} {q : Addr} {a1 b1 h1 c1 a2 b2 h2 c2 a3 b3 h3 c3 : Nat} {hs : List (Nat × Nat × Nat × Nat)} (hM : kM p s m args meth c cc nL ret own) (htab : c.exceptionTable.toList = tableOf ((a1, b1, h1, c1) :: (a2, b2, h2, c2) :: (a3, b3, h3, c3) :: hs)) (h01 : c1 ≠ 0) (hlk1 : Cond.classLink own c1 E1 ∈ W0) (hno1 : va_Nc E E1 s) (h02 : c2 ≠ 0) (hlk2 : Cond.classLink own c2 E2 ∈ W0) (hno2 : va_Nc E E2 s) (hcov : covers ⟨a3, b3, h3, c3⟩ pc = true) (h0 : c3 ≠ 0) (hlk : Cond.classLink own c3 E ∈ W0) (hcast : va_Nw (.castable E E) s) (hce : H[q]? = some ce) (hv : ce.vm = .none) (hcl : s.vm.findClass E = some ce.cls)
    (kk : W p l e R s m args below meth c H locs cells slots Q (F0 m h3 ls [.ref q])) : vx_W p l e R s m args below meth c H locs cells slots Q (F0 m pc ls rest) q :=
  vx_catch hM.2.2.2.1 [⟨a1, b1, h1, c1⟩, ⟨a2, b2, h2, c2⟩] ⟨a3, b3, h3, c3⟩ (tableOf hs) htab (fun z hz => by
    rcases List.mem_cons.mp hz with rfl | hz
    · exact Or.inr ⟨h01, E1, hM.2.2.2.2.1 _ hlk1, hno1⟩
    · cases List.mem_singleton.mp hz
      exact Or.inr ⟨h02, E2, hM.2.2.2.2.1 _ hlk2, hno2⟩) hcov h0 (hM.2.2.2.2.1 _ hlk) (hcast.use rfl) hce hv hcl kk
end LB
/-! the worlds of class, reference, out -/
abbrev oL (γ : kG) (f : Nat → Int64) : va_E := .inl (γ.2.1 3, 1, .inr (.inl f))
/-- what a wrapper leaves: the class at the reference's table, out with the answer where nothing was thrown -/
def Wo (γ : kG) (o q nd : Nat) (MC : Int32 × mM) (k : Int32) (L1 : List Nat) (F1 : kF) : Prop :=
  ∃ (Lc : List Nat) (ad1 : cAd) (tg1 : cTg) (nd1 : Nat) (D1 : cD) (f : Nat → Int64), L1 = Lc ++ [q] ∧ F1 q = oL γ f ∧ RepC γ Lc F1 o ad1 tg1 MC.2 nd1 D1 ∧ Inv MC.2 nd1 D1 ∧ nd1 ≤ nd + 1 ∧ MC.2 24 0 = k ∧ (k = 0 → f 0 = MC.1.toInt64)
section WO
variable {γ : kG} {L : List Nat} {F F1 : kF} {o q : Nat} {ad : cAd} {tg : cTg} {M : mM} {nd : Nat} {D : cD} {MC : Int32 × mM} {r k : Int32} {L1 X : List Nat} {f : Nat → Int64}
/-- a reader's answer, told as a writer's -/
theorem After.rd (hR : RepC γ L F o ad tg M nd D) (hI : Inv M nd D) (h : L = L1 ∧ F = F1 ∧ MC = (r, mset M 24 0 0)) : After γ L o nd MC r L1 F1 := by
  obtain ⟨rfl, rfl, h⟩ := h
  exact ⟨mset M 24 0 0, ad, tg, nd, D, h, mset_s M 24 0 0, fun _ hb => hb, hR.s24 0, hI, Nat.le_succ nd⟩
theorem RepC.eqF (h : RepC γ L F o ad tg M nd D) (hF : ∀ b ∈ L, F1 b = F b) : RepC γ L F1 o ad tg M nd D := h.more fun b hb => ⟨hb, hF b hb, rfl⟩
theorem RepC.mix {F0 : kF} (h : RepC γ L F o ad tg M nd D) (hX : ∀ b ∈ L, b ∉ X) : RepC γ L (kMix X F0 F) o ad tg M nd D := h.eqF fun b hb => kMix_out (hX b hb)
theorem RepM.eqF {om : Nat} {adm : Nat → Nat} (h : RepM γ L F om adm M) (hF : ∀ b ∈ L, F1 b = F b) : RepM γ L F1 om adm M :=
  ⟨h.1, by rw [hF _ h.1]; exact h.2.1, fun k hk ha => ⟨(h.2.2.1 k hk ha).1, by rw [hF _ (h.2.2.1 k hk ha).1]; exact (h.2.2.1 k hk ha).2⟩, h.2.2.2⟩
theorem Wo.done {F0 : kF} (h : After γ L o nd MC r L1 F1) (hq : ∀ b ∈ L1, b ∉ [q]) : Wo γ o q nd MC 0 (L1 ++ [q]) (va_up (kMix [q] F0 F1) q (oL γ (vp_updL f (0 : Int32).toNatClampNeg r.toInt64))) := by
  obtain ⟨M1, ad1, tg1, nd1, D1, rfl, h0, -, hR, hI, hn⟩ := h
  refine ⟨L1, ad1, tg1, nd1, D1, _, rfl, va_up_self _ _ _, ?_, hI, hn, h0, fun _ => rfl⟩
  refine hR.eqF fun b hb => ?_
  rw [va_up_ne _ _ (show b ≠ q from fun e => hq b hb (List.mem_singleton.mpr e)), kMix_out (hq b hb)]
theorem Wo.thr (hR : RepC γ L F o ad tg M nd D) (hI : Inv M nd D) (hq : F q = oL γ f) (ht : Thr M MC.2 k) (hk : k ≠ 0) : Wo γ o q nd MC k (L ++ [q]) F :=
  ⟨L, ad, tg, nd, D, f, rfl, hq, hR.thr ht, hI.thr ht, Nat.le_succ nd, ht.2, fun h => absurd h hk⟩
end WO
