/-! the world is one pool: addresses L, what each holds F; class numbers, array classes, the empty default array: γ -/
abbrev kG : Type := va_G × (Nat → ClassId) × Nat
def kT (γ : kG) : List (ClassId × FieldType) := [(γ.2.1 0, .byte), (γ.2.1 1, .int), (γ.2.1 1, .int), (γ.2.1 1, .int), (γ.2.1 4, .object "java/lang/Object")]
abbrev kF : Type := Nat → va_E
def kK (γ : kG) (U : State) : Prop := va_K γ.1 vwCl (kT γ) U
def kA (L : List Nat) (sz : Nat) : Nat → Prop := fun q => q ∈ L ∨ sz ≤ q
def kStr : List (String × Nat × String) := [("Invoicebridge", 251, "there is no such company"), ("Invoicebridge", 298, "the cents are out of range"), ("Invoicebridge", 295, "both companies are the same"), ("Invoicebridge", 306, "there are 512 documents"), ("Invoicebridge", 210, "there is no such invoice"), ("Invoicebridge", 226, "the days are out of range"), ("Invoicebridge", 228, "it would be above the day 999"), ("Invoicebridge", 240, "what is out of range"), ("Invoicebridge", 308, "the invoice has no such line"), ("Invoicebridge", 289, "there is no such month"), ("Invoicebridge", 287, "there are no such goods"), ("Invoicebridge", 291, "the amount is out of range"), ("Invoicebridge", 293, "the rate is out of range"), ("Invoicebridge", 60, "there are 20 invoices"), ("Invoicebridge", 300, "the invoice is accepted or refused"), ("Invoicebridge", 92, "the invoice was sent on an earlier day"), ("Invoicebridge", 94, "the invoice has 3 lines"), ("Invoicebridge", 100, "the invoice has a credit"), ("Invoicebridge", 123, "the amount is above that of the line"), ("Invoicebridge", 126, "the invoice is refused"), ("Invoicebridge", 304, "there are 24 credits"), ("Invoicebridge", 135, "the invoice is not accepted"), ("Invoicebridge", 140, "the line is disputed"), ("Invoicebridge", 142, "the amount of the line is 0"), ("Invoicebridge", 144, "the line is not disputed"), ("Invoicebridge", 146, "the part is out of range"), ("Invoicebridge", 154, "the company is the seller or the buyer"), ("Invoicebridge", 302, "nothing is owed of the invoice"), ("Invoicebridge", 162, "the seller does not hold the invoice"), ("Invoicebridge", 177, "the seller holds the invoice"), ("Invoicebridge", 179, "the invoice was sold without recourse"), ("Invoicebridge", 181, "the sign is out of range"), ("Invoicebridge", 186, "the draft has 10 signs"), ("Invoicebridge", 201, "the draft has a fault"), ("Invoicebridge", 216, "the payer is not the buyer of the invoice"), ("Invoicebridge", 218, "the paid company does not hold the invoice"), ("Invoicebridge", 220, "less is owed of the invoice")]
def kN1 : Cond := .methodLinkNest "Invoicebridge$Line" 23 ⟨"Invoicebridge", "taxOf", "(II)I"⟩ "Invoicebridge"
def kN2 : Cond := .methodLinkNest "Invoicebridge$Invoice" 81 ⟨"Invoicebridge", "monthOf", "(I)I"⟩ "Invoicebridge"
def kIO : String := "java/lang/IndexOutOfBoundsException"
def kIA : String := "java/lang/IllegalArgumentException"
def kIS : String := "java/lang/IllegalStateException"
def kDcs : List MethodName := [⟨"java/lang/RuntimeException", "<init>", "(Ljava/lang/String;)V"⟩, ⟨"java/lang/Exception", "<init>", "(Ljava/lang/String;)V"⟩, ⟨"java/lang/Throwable", "<init>", "(Ljava/lang/String;)V"⟩]
theorem kDc_moved {y : MethodName} {u U : State} (hvm : u.vm.Alike U.vm) (h : va_Nw (.declares y) u) : va_Nw (.declares y) U := by
  have h1 : (Cond.declares y).before #[] (u.setVm U.vm) = true := by
    rw [Cond.declares_setVm hvm]
    exact h
  have e := Cond.onTables_vm (A := #[]) (A' := #[]) (U := u) (U' := U) U.vm (Cond.declares y) rfl
  have hU : U.setVm U.vm = U := rfl
  rw [hU] at e
  unfold va_Nw
  rw [← e]
  exact h1
/-- what was there before and nobody writes: statics, texts, links of the nest, castings, class objects -/
def kZ (γ : kG) (A : Nat → Prop) (U : State) (H : Heap) : Prop :=
  vx_Zq Bundle.tN "UNASSIGNED_STACK" Bundle.steD A U H ∧ vx_Zq Bundle.tN "SUPPRESSED_SENTINEL" Bundle.listD A U H ∧
  (∀ q ∈ kStr, ∃ a, vk_R q.1 q.2.1 q.2.2 a U) ∧ va_Nw kN1 U ∧ va_Nw kN2 U ∧
  va_Z "java/lang/String" "COMPACT_STRINGS" "Z" (.int 1) A U H ∧
  va_Zq "jdk/internal/util/Preconditions" "SIOOBE_FORMATTER" "Ljava/util/function/BiFunction;" A U H ∧
  va_Z "java/util/ArrayList" "DEFAULTCAPACITY_EMPTY_ELEMENTDATA" "[Ljava/lang/Object;" (.ref γ.2.2) A U H ∧
  va_T (.object "java/lang/Object") γ.2.2 0 (fun _ => .null) A U H ∧ va_AO "java/lang/Object" U ∧
  (va_Nw (.castable kIO kIO) U ∧ va_Nw (.castable kIA kIA) U ∧ va_Nw (.castable kIS kIS) U) ∧
  (va_Nc kIA kIO U ∧ va_Nc kIS kIO U ∧ va_Nc kIS kIA U) ∧ va_Mi "[Ljava/lang/Object;" (γ.2.1 5) U ∧ va_Dc U ∧
  (va_Nw (.castable "Invoicebridge$Invoice" "java/lang/Object") U ∧ va_Nw (.castable "Invoicebridge$Line" "java/lang/Object") U ∧ va_Nw (.castable "Invoicebridge$Credit" "java/lang/Object") U ∧ va_Nw (.castable "Invoicebridge$Document" "java/lang/Object") U) ∧ ∀ y ∈ kDcs, va_Nw (.declares y) U
theorem kZ.to {γ : kG} {A B : Nat → Prop} {s U : State} {H : Heap} {locs : List Loc} (h : kZ γ A s s.heap) (hS : va_S A s.heap H locs) (hU : U.heap = H) (hW : s.WarmedH U.vm) (hAB : ∀ q, B q → A q) : kZ γ B U U.heap := by
  subst hU
  obtain ⟨h1, h2, h3, h4, h5, h6, h7, h8, h9, h10, ⟨h11, h12, h13⟩, ⟨h14, h15, h16⟩, h17, h18, ⟨h19, h20, h21, h22⟩, h23⟩ := h
  exact ⟨((h1.kept hS.2.1).moved hW.alike).narrow hAB, ((h2.kept hS.2.1).moved hW.alike).narrow hAB, fun q hq => (h3 q hq).imp fun a ha => ha.warm hW, h4.warmM hW, h5.warmM hW,
    ((h6.kept hS.2.1).moved hW.alike).narrow hAB, ((h7.kept hS.2.1).moved hW.alike).narrow hAB, ((h8.kept hS.2.1).moved hW.alike).narrow hAB, ((h9.kept hS.2.1).moved hW.alike).narrow hAB, h10.moved hW.alike,
    ⟨h11.warmC hW, h12.warmC hW, h13.warmC hW⟩, ⟨h14.moved hW.alike, h15.moved hW.alike, h16.moved hW.alike⟩, h17.moved hW.alike, h18.moved hW.alike, ⟨h19.warmC hW, h20.warmC hW, h21.warmC hW, h22.warmC hW⟩, fun y hy => kDc_moved hW.alike (h23 y hy)⟩
theorem kZ.blind {γ : kG} {A : Nat → Prop} {U V : State} (hv : V.vm = U.vm) (hh : V.heap = U.heap) (h : kZ γ A U U.heap) : kZ γ A V V.heap := by
  have ha : U.vm.Alike V.vm := by rw [hv]; exact Vm.Alike.refl U.vm
  rw [hh]
  obtain ⟨h1, h2, h3, h4, h5, h6, h7, h8, h9, h10, ⟨h11, h12, h13⟩, ⟨h14, h15, h16⟩, h17, h18, ⟨h19, h20, h21, h22⟩, h23⟩ := h
  exact ⟨h1.moved ha, h2.moved ha, fun q hq => (h3 q hq).imp fun a h9 => h9.same hv, h4.same rfl hv.symm, h5.same rfl hv.symm,
    h6.moved ha, h7.moved ha, h8.moved ha, h9.moved ha, h10.moved ha, ⟨h11.same rfl hv.symm, h12.same rfl hv.symm, h13.same rfl hv.symm⟩, ⟨h14.moved ha, h15.moved ha, h16.moved ha⟩, h17.moved ha, h18.moved ha, ⟨h19.same rfl hv.symm, h20.same rfl hv.symm, h21.same rfl hv.symm, h22.same rfl hv.symm⟩, fun y hy => kDc_moved ha (h23 y hy)⟩
/-- at a method's entry -/
def kIn (γ : kG) (L : List Nat) (F : kF) (sz : Nat) (U : State) : Prop :=
  U.heap.size = sz ∧ va_P γ.1 vwCl (va_pl L F) U.heap ∧ kK γ U ∧ L.Nodup ∧ kZ γ (kA L sz) U U.heap
theorem kIn_blind {γ : kG} {L : List Nat} {F : kF} {sz : Nat} {av : List Value} : FrameBlind (va_Pc av (kIn γ L F sz)) := fun a U g mk ⟨h1, h2, h3, h4, h5, h6⟩ =>
  ⟨h1, h2, h3, va_K.moved (u := U) (U := U.calling g mk a) (Vm.Alike.refl U.vm) h4, h5, kZ.blind (U := U) (V := U.calling g mk a) rfl rfl h6⟩
/-- at its end -/
def kOut (γ : kG) (L : List Nat) (sz : Nat) (u : List Nat × kF) (t : State) : Prop :=
  va_P γ.1 vwCl (va_pl u.1 u.2) t.heap ∧ u.1.Nodup ∧ ∀ a ∈ u.1, kA L sz a
abbrev kOk : Type := Option Value → List Nat → kF → Prop
def kQ (γ : kG) (L : List Nat) (sz : Nat) (ok : kOk) : Array Value → State → Outcome → State → Prop := fun _ st oc t =>
  (∃ (v : Option Value) (u : List Nat × kF), oc = .returned v ∧ ok v u.1 u.2 ∧ kOut γ L sz u t) ∧ va_F (kA L sz) st t
/-- where it throws, the world is as it was -/
def kXC (γ : kG) (L : List Nat) (F : kF) (sz : Nat) (no : String → Prop) : String → State → State → Prop := fun E st t => no E ∧ kOut γ L sz (L, F) t ∧ va_F (kA L sz) st t
def kWs (y : MethodName) (b : ByteArray) (n : Nat) (ret : Option FieldType) : List Cond := Cond.code y b n ret :: W0
/-- the contract of a method that returns -/
def kC (l : Launch) (y : MethodName) (b : ByteArray) (n : Nat) (ret : Option FieldType) (rm : Room) (γ : kG) (L : List Nat) (F : kF) (av : List Value) (ok : kOk) : Prop :=
  ∀ sz, Met l y (kWs y b n ret) rm (va_Pc av (kIn γ L F sz)) (kQ γ L sz ok) rm.cells rm.slots (kA L sz)
/-- .. of one that returns or throws -/
def kD (l : Launch) (y : MethodName) (b : ByteArray) (n : Nat) (ret : Option FieldType) (rm : Room) (γ : kG) (L : List Nat) (F : kF) (av : List Value) (ok : kOk) (no : String → Prop) : Prop :=
  ∀ sz, vx_Met l y (kWs y b n ret) rm (va_Pc av (kIn γ L F sz)) (kQ γ L sz ok) (kXC γ L F sz no) rm.cells rm.slots (kA L sz)
/-- what a method's body knows all along -/
def kM (p : Program) (s : State) (m : MethodId) (args : Array Value) (meth : Method) (c : Code) (cc : ByteArray) (nL : Nat) (ret : Option FieldType) (own : String) : Prop :=
  p.tables.exec = Jvm.exec ∧ c.code = cc ∧ c.maxLocals = nL ∧ s.vm.findClass own = some m.cls ∧ (∀ w ∈ W0, w.before args s = true) ∧ meth.sig.returnType = ret ∧ meth.locks = false ∧ meth.name = meth.name
def kE (γ : kG) (A : Nat → Prop) (s : State) : Prop := kK γ s ∧ kZ γ A s s.heap ∧ ∀ q, s.heap.size ≤ q → A q
/-- the world now -/
def kX (γ : kG) (A : Nat → Prop) (s : State) (L : List Nat) (F : kF) (H : Heap) (locs : List Loc) : Prop :=
  va_P γ.1 vwCl (va_pl L F) H ∧ (L.Nodup ∧ ∀ a ∈ L, A a) ∧ va_S A s.heap H locs
theorem kN_D {A : Nat → Prop} {L : List Nat} {F : kF} (h : L.Nodup ∧ ∀ a ∈ L, A a) : va_D A (va_pl L F) := by
  refine ⟨fun i j p q hi hj e => ?_, fun k q hk => ?_⟩
  · simp only [va_pl, List.getElem?_map] at hi hj
    obtain ⟨a, ha, rfl⟩ := Option.map_eq_some_iff.mp hi
    obtain ⟨b, hb, rfl⟩ := Option.map_eq_some_iff.mp hj
    have e' : a = b := e
    subst e'
    obtain ⟨hi1, hi2⟩ := List.getElem?_eq_some_iff.mp ha
    obtain ⟨hj1, hj2⟩ := List.getElem?_eq_some_iff.mp hb
    have hp := List.pairwise_iff_getElem.mp h.1
    rcases Nat.lt_trichotomy i j with hlt | heq | hgt
    · exact absurd (hi2.trans hj2.symm) (hp i j hi1 hj1 hlt)
    · exact heq
    · exact absurd (hj2.trans hi2.symm) (hp j i hj1 hi1 hgt)
  · simp only [va_pl, List.getElem?_map] at hk
    obtain ⟨a, ha, rfl⟩ := Option.map_eq_some_iff.mp hk
    exact h.2 a (List.mem_of_getElem? ha)
theorem kX_get {γ : kG} {A : Nat → Prop} {s : State} {L : List Nat} {F : kF} {H : Heap} {locs : List Loc} (h : kX γ A s L F H locs) {a : Nat} {e : va_E} (ha : a ∈ L) (hF : F a = e) : ∃ k : Nat, (va_pl L F)[k]? = some (a, e) := by
  obtain ⟨k, hk⟩ := va_pl_get (X := []) (f := F) ha
  exact ⟨k, by rw [← hF]; simpa using hk⟩
theorem kX_lt {γ : kG} {A : Nat → Prop} {s : State} {L : List Nat} {F : kF} {H : Heap} {locs : List Loc} (h : kX γ A s L F H locs) {a : Nat} (ha : a ∈ L) : a < H.size := va_pl_lt (X := []) (L := L) (f := F) (H := H) (by simpa using h.1) ha
theorem kX_set {γ : kG} {A : Nat → Prop} {s : State} {L : List Nat} {F : kF} {H H1 : Heap} {locs locs1 : List Loc} (h : kX γ A s L F H locs) {a k : Nat} {e0 e : va_E} (ha : a ∈ L) (hF : F a = e0) (hk : (va_pl L F)[k]? = some (a, e0)) (hP : va_P γ.1 vwCl ((va_pl L F).set k (a, e)) H1) (hS : va_S A s.heap H1 locs1) : kX γ A s L (va_up F a e) H1 locs1 := by
  refine ⟨?_, h.2.1, hS⟩
  have h1 := va_pl_set (X := []) (e := e) (A := A) (by simpa using kN_D (F := F) h.2.1) ha (by simpa [hF] using hk)
  simp only [List.nil_append] at h1
  rw [← h1]; exact hP
theorem kX_push {γ : kG} {A : Nat → Prop} {s : State} {L : List Nat} {F : kF} {H H1 : Heap} {locs locs1 : List Loc} (h : kX γ A s L F H locs) {q : Nat} {e : va_E} (hP : va_P γ.1 vwCl (va_pl L F ++ [(q, e)]) H1) (hD : va_D A (va_pl L F ++ [(q, e)])) (hS : va_S A s.heap H1 locs1) : q ∉ L ∧ kX γ A s (L ++ [q]) (va_up F q e) H1 locs1 := by
  have hq : q ∉ L := va_pl_fresh2 (X := []) (L := L) (f := F) (q := q) (e := e) (A := A) (by simpa using hD)
  refine ⟨hq, ?_, ⟨?_, ?_⟩, hS⟩
  · rw [← va_pl_push hq]; exact hP
  · rw [List.nodup_append]
    exact ⟨h.2.1.1, by simp, fun a ha b hb => by rw [List.mem_singleton.mp hb]; exact fun e => hq (e ▸ ha)⟩
  · intro a ha
    rcases List.mem_append.mp ha with ha | ha
    · exact h.2.1.2 a ha
    · rw [List.mem_singleton.mp ha]
      exact hD.2 (va_pl L F).length (q, e) (by simp)
theorem kX_sub {γ : kG} {A : Nat → Prop} {s : State} {L : List Nat} {F : kF} {H : Heap} {locs : List Loc} (h : kX γ A s L F H locs) (hA : ∀ q, s.heap.size ≤ q → A q) : ∀ q, kA L H.size q → A q := fun q hq => hq.elim (fun h1 => h.2.1.2 q h1) (fun h1 => hA q (Nat.le_trans h.2.2.1 h1))
section KB
variable {l : Launch} {y : MethodName} {b : ByteArray} {n : Nat} {ret : Option FieldType} {rm : Room} {γ : kG} {L : List Nat} {F : kF} {av : List Value} {ok : kOk} {no : String → Prop}
theorem kBody {p : Program} {e : Env} {s : State} {m : MethodId} {args : Array Value} {below : List Frame} {meth : Method} {c : Code} {s₁ : State} {sz : Nat} (B : BodyLoose p l y (headSpec (kWs y b n ret) rm) b n ret e s m args below meth c s₁) (hml : c.maxLocals = n) (hv : va_Pc av (kIn γ L F sz) args s) :
    args = av.toArray ∧ s.heap.size = sz ∧ kM p s m args meth c b n ret y.cls ∧ kE γ (kA L sz) s ∧ kX γ (kA L sz) s L F s.heap [] := by
  obtain ⟨h0, h1, h2, h3, h4, h5⟩ := hv
  refine ⟨h0, h1, ⟨B.exec, B.bytes, hml, findClass_of_methodNamed B.named, fun w hw => atoms_spec (ws := kWs y b n ret) B.pre w (List.mem_cons_of_mem _ hw), B.returns, B.notSynchronized, rfl⟩, ⟨h3, h5, fun q hq => Or.inr (h1 ▸ hq)⟩, h2, ⟨h4, fun a ha => Or.inl ha⟩, va_S.rf⟩
theorem kC_of (hy : plainFor y = true) (hn : (lg_sl av).length ≤ n) (body : ∀ p e s m args below meth c sz ls, args = av.toArray → s.heap.size = sz → kM p s m args meth c b n ret y.cls → (y.name = "<init>" → meth.name = "<init>") → kE γ (kA L sz) s → kX γ (kA L sz) s L F s.heap [] → lv_has ls n (lv_args 0 av) → W p l e rm s m args below meth c s.heap [] 0 0 (MQ below (kQ γ L sz ok) args s rm.cells rm.slots (kA L sz)) (F0 m 0 ls [])) : kC l y b n ret rm γ L F av ok := by
  intro sz
  refine va_MetF (cc := b) (maxL := n) (ret := ret) hy rfl ?_
  intro p e s m args below meth c s₁ B hml hv
  obtain ⟨e0, e1, hM, hE, hX⟩ := kBody B hml hv
  have hl := lv_entry av hn
  subst e0
  rw [lg_entry_eq]
  exact body p e s m _ below meth c sz _ rfl e1 hM (fun hi => by rw [← hi]; exact (name_of_methodNamed B.named B.method).1) hE hX hl
theorem kD_of (hy : plainName y.cls = true) (hn : (lg_sl av).length ≤ n) (body : ∀ p e s m args below meth c sz ls, args = av.toArray → s.heap.size = sz → kM p s m args meth c b n ret y.cls → (∀ x ∈ c.exceptionTable.toList, False) → kE γ (kA L sz) s → kX γ (kA L sz) s L F s.heap [] → lv_has ls n (lv_args 0 av) → W p l e rm s m args below meth c s.heap [] 0 0 (vx_MQ below (kQ γ L sz ok) (kXC γ L F sz no) args s rm.cells rm.slots (kA L sz)) (F0 m 0 ls [])) : kD l y b n ret rm γ L F av ok no := by
  intro sz
  refine vx_ofW (cc := b) (maxL := n) (ret := ret) hy rfl ?_
  intro p e s m args below meth c s₁ B hml ht hv
  obtain ⟨e0, e1, hM, hE, hX⟩ := kBody B hml hv
  have hl := lv_entry av hn
  subst e0
  rw [lg_entry_eq]
  exact body p e s m _ below meth c sz _ rfl e1 hM ht hE hX hl
end KB
section KR
variable {p : Program} {l : Launch} {e : Env} {R : Room} {s : State} {m : MethodId} {args : Array Value} {below : List Frame} {meth : Method} {c : Code} {H : Heap} {locs : List Loc} {cells slots : Nat} {Q : State → Prop}
variable {cc : ByteArray} {nL : Nat} {ret : Option FieldType} {own : String} {γ : kG} {A : Nat → Prop} {L : List Nat} {F : kF} {pc : Nat} {ls : Array Slot} {rest : List Value}
/-- a field is read -/
theorem k_get (hM : kM p s m args meth c cc nL ret own) (hE : kE γ A s) (hX : kX γ A s L F H locs) {ci N : Nat} {C ref : String} {T : u_T} {a : Nat} {fs : List Value} (ha : a ∈ L) (hF : F a = .inr (ci, fs)) (hc : vwCl[ci]? = some (C, T, N)) (k : Nat) (hk : k < N) (hin : ∀ w ∈ u_ws C T N, w ∈ W0) {index : Nat} (hlink : Cond.fieldLink own index ref (T k).2.1 (T k).2.2.1 ∈ W0) (hsame : ∀ x, s.fieldFound? (T k).1 (T k).2.1 (T k).2.2.1 = some x → s.fieldFound? ref (T k).2.1 (T k).2.2.1 = some x) {v : Value} (hv : fs[k]? = some v) (hdg : decode cc pc = .ok (.getfield index, 3))
    (kk : W p l e R s m args below meth c H locs cells slots Q (F0 m (pc + 3) ls (v :: rest))) : W p l e R s m args below meth c H locs cells slots Q (F0 m pc ls (.ref a :: rest)) := by
  obtain ⟨hx, hb, hml, hown, hts, -⟩ := hM
  obtain ⟨k0, hk0⟩ := kX_get hX ha hF
  exact va_get hx hb hts hin hown hE.1 hX.1 k0 hk0 hc k hk (hts _ hlink) hsame hv hdg kk
/-- a field is written -/
theorem k_put (hM : kM p s m args meth c cc nL ret own) (hE : kE γ A s) (hX : kX γ A s L F H locs) {ci N : Nat} {C ref : String} {T : u_T} {a : Nat} {fs : List Value} (ha : a ∈ L) (hF : F a = .inr (ci, fs)) (hc : vwCl[ci]? = some (C, T, N)) (k : Nat) (hk : k < N) (hin : ∀ w ∈ u_ws C T N, w ∈ W0) (ty0 : Nat → FieldType) (hty : ∀ k, k < N → parseFieldDescriptor (T k).2.2.1 = some (ty0 k)) (hnm : ∀ a, a < N → ∀ b, b < N → a ≠ b → (T a).2.1 ≠ (T b).2.1) {index : Nat} (hlink : Cond.fieldLink own index ref (T k).2.1 (T k).2.2.1 ∈ W0) (hsame : ∀ x, s.fieldFound? (T k).1 (T k).2.1 (T k).2.2.1 = some x → s.fieldFound? ref (T k).2.1 (T k).2.2.1 = some x) (hfin : (T k).2.2.2 = false ∨ (meth.name = "<init>" ∧ (T k).1 = own)) {v : Value} (hn : narrow (ty0 k) v = v) (hfit : fits (ty0 k) v = true) (hl : k < fs.length) (hdg : decode cc pc = .ok (.putfield index, 3))
    (kk : ∀ (H1 : Heap) (locs1 : List Loc), kX γ A s L (va_up F a (.inr (ci, fs.set k v))) H1 locs1 → W p l e R s m args below meth c H1 locs1 cells slots Q (F0 m (pc + 3) ls rest)) : W p l e R s m args below meth c H locs cells slots Q (F0 m pc ls (v :: .ref a :: rest)) := by
  obtain ⟨hx, hb, hml, hown, hts, -⟩ := hM
  obtain ⟨k0, hk0⟩ := kX_get hX ha hF
  rcases hfin with hf | ⟨hi, ho⟩
  · exact va_put hx hb hts hin ty0 hty hnm hown hE.1 hX.1 (kN_D hX.2.1) hX.2.2 k0 hk0 hc k hk (hts _ hlink) hsame hf (hty k hk) hn hfit hl hdg fun H1 locs1 hP hD hS => kk H1 locs1 (kX_set hX ha hF hk0 hP hS)
  · by_cases hf : (T k).2.2.2 = true
    · exact va_putF hx hb hts hin ty0 hty hnm hown hE.1 hX.1 (kN_D hX.2.1) hX.2.2 k0 hk0 hc k hk (hts _ hlink) hsame hf hi ho (hty k hk) hn hfit hl hdg fun H1 locs1 hP hD hS => kk H1 locs1 (kX_set hX ha hF hk0 hP hS)
    · exact va_put hx hb hts hin ty0 hty hnm hown hE.1 hX.1 (kN_D hX.2.1) hX.2.2 k0 hk0 hc k hk (hts _ hlink) hsame (by simpa using hf) (hty k hk) hn hfit hl hdg fun H1 locs1 hP hD hS => kk H1 locs1 (kX_set hX ha hF hk0 hP hS)
theorem k_iald (hM : kM p s m args meth c cc nL ret own) (hE : kE γ A s) (hX : kX γ A s L F H locs) {a n : Nat} {f : Nat → Int32} (ha : a ∈ L) (hF : F a = .inl (γ.2.1 1, n, .inl f)) {i : Int32} (hin : vp_in i n) (hdg : decode cc pc = .ok (.iaload, 1))
    (kk : W p l e R s m args below meth c H locs cells slots Q (F0 m (pc + 1) ls (.int (f i.toNatClampNeg) :: rest))) : W p l e R s m args below meth c H locs cells slots Q (F0 m pc ls (.int i :: .ref a :: rest)) := by
  obtain ⟨k0, hk0⟩ := kX_get hX ha hF
  exact va_iald hM.1 hM.2.1 hE.1 hX.1 k0 1 hk0 rfl hin hdg kk
theorem k_bald (hM : kM p s m args meth c cc nL ret own) (hE : kE γ A s) (hX : kX γ A s L F H locs) {a n : Nat} {f : Nat → Int32} (ha : a ∈ L) (hF : F a = .inl (γ.2.1 0, n, .inl f)) {i : Int32} (hin : vp_in i n) (hdg : decode cc pc = .ok (.baload, 1))
    (kk : W p l e R s m args below meth c H locs cells slots Q (F0 m (pc + 1) ls (.int (f i.toNatClampNeg) :: rest))) : W p l e R s m args below meth c H locs cells slots Q (F0 m pc ls (.int i :: .ref a :: rest)) := by
  obtain ⟨k0, hk0⟩ := kX_get hX ha hF
  exact va_bald hM.1 hM.2.1 hE.1 hX.1 k0 0 hk0 rfl hin hdg kk
theorem k_aald (hM : kM p s m args meth c cc nL ret own) (hE : kE γ A s) (hX : kX γ A s L F H locs) {a n : Nat} {f : Nat → Option Nat} (ha : a ∈ L) (hF : F a = .inl (γ.2.1 4, n, .inr (.inr (.inr (.inr f))))) {i : Int32} (hin : vp_in i n) (hdg : decode cc pc = .ok (.aaload, 1))
    (kk : W p l e R s m args below meth c H locs cells slots Q (F0 m (pc + 1) ls (va_rf (f i.toNatClampNeg) :: rest))) : W p l e R s m args below meth c H locs cells slots Q (F0 m pc ls (.int i :: .ref a :: rest)) := by
  obtain ⟨k0, hk0⟩ := kX_get hX ha hF
  exact va_aldq hM.1 hM.2.1 hE.1 hX.1 k0 4 hk0 rfl hin hdg kk
theorem k_iast (hM : kM p s m args meth c cc nL ret own) (hE : kE γ A s) (hX : kX γ A s L F H locs) {a n : Nat} {f : Nat → Int32} (ha : a ∈ L) (hF : F a = .inl (γ.2.1 1, n, .inl f)) {i x : Int32} (hin : vp_in i n) (hdg : decode cc pc = .ok (.iastore, 1))
    (kk : ∀ (H1 : Heap) (locs1 : List Loc), kX γ A s L (va_up F a (.inl (γ.2.1 1, n, .inl (upd f i.toNatClampNeg x)))) H1 locs1 → W p l e R s m args below meth c H1 locs1 cells slots Q (F0 m (pc + 1) ls rest)) : W p l e R s m args below meth c H locs cells slots Q (F0 m pc ls (.int x :: .int i :: .ref a :: rest)) := by
  obtain ⟨k0, hk0⟩ := kX_get hX ha hF
  exact va_iast hM.1 hM.2.1 hE.1 hX.1 (kN_D hX.2.1) hX.2.2 k0 1 hk0 rfl hin hdg fun H1 locs1 hP hD hS => kk H1 locs1 (kX_set hX ha hF hk0 hP hS)
theorem k_bast (hM : kM p s m args meth c cc nL ret own) (hE : kE γ A s) (hX : kX γ A s L F H locs) {a n : Nat} {f : Nat → Int32} (ha : a ∈ L) (hF : F a = .inl (γ.2.1 0, n, .inl f)) {i x : Int32} (hin : vp_in i n) (hdg : decode cc pc = .ok (.bastore, 1))
    (kk : ∀ (H1 : Heap) (locs1 : List Loc), kX γ A s L (va_up F a (.inl (γ.2.1 0, n, .inl (upd f i.toNatClampNeg (vp_nar .byte x))))) H1 locs1 → W p l e R s m args below meth c H1 locs1 cells slots Q (F0 m (pc + 1) ls rest)) : W p l e R s m args below meth c H locs cells slots Q (F0 m pc ls (.int x :: .int i :: .ref a :: rest)) := by
  obtain ⟨k0, hk0⟩ := kX_get hX ha hF
  exact va_bast hM.1 hM.2.1 hE.1 hX.1 (kN_D hX.2.1) hX.2.2 k0 0 hk0 rfl hin hdg fun H1 locs1 hP hD hS => kk H1 locs1 (kX_set hX ha hF hk0 hP hS)
theorem k_alen (hM : kM p s m args meth c cc nL ret own) (hE : kE γ A s) (hX : kX γ A s L F H locs) {a t0 : Nat} {cA : ClassId} {x : vp_A} (ha : a ∈ L) (hF : F a = .inl (cA, x)) {ty : FieldType} (ht : (kT γ)[t0]? = some (cA, ty)) {v : Int32} (hv : nI x.1 = v) (hdg : decode cc pc = .ok (.arraylength, 1))
    (kk : W p l e R s m args below meth c H locs cells slots Q (F0 m (pc + 1) ls (.int v :: rest))) : W p l e R s m args below meth c H locs cells slots Q (F0 m pc ls (.ref a :: rest)) := by
  obtain ⟨k0, hk0⟩ := kX_get hX ha hF
  exact va_alen hM.1 hM.2.1 hE.1 hX.1 k0 t0 hk0 ht hv hdg kk
/-- a new object -/
theorem k_new (hM : kM p s m args meth c cc nL ret own) (hE : kE γ A s) (hX : kX γ A s L F H locs) {ci N : Nat} {C : String} {T : u_T} (hc : vwCl[ci]? = some (C, T, N)) (hin : ∀ w ∈ u_ws C T N, w ∈ W0) (ty : Nat → FieldType) (hty : ∀ k, k < N → parseFieldDescriptor (T k).2.2.1 = some (ty k)) {index : Nat} (hcl : Cond.classLink own index C ∈ W0) (hinst : Cond.instantiable C N ∈ W0) (hini : Cond.initialized C ∈ W0) {fs : List Value} (hfs : ∀ j, j < N → defaultValue (ty j) = vp_V fs j) (hcells : cells + 1 ≤ R.cells) (hslots : slots + N ≤ R.slots) (hdg : decode cc pc = .ok (.new index, 3))
    (kk : ∀ (q : Nat) (H1 : Heap), q ∉ L → kX γ A s (L ++ [q]) (va_up F q (.inr (ci, fs))) H1 locs → W p l e R s m args below meth c H1 locs (cells + 1) (slots + N) Q (F0 m (pc + 3) ls (.ref q :: rest))) : W p l e R s m args below meth c H locs cells slots Q (F0 m pc ls rest) := by
  obtain ⟨hx, hb, hml, hown, hts, -⟩ := hM
  exact va_new hx hb hts hin ty hty hown (hts _ hcl) (hts _ hinst) (hts _ hini) hE.1 hX.1 (kN_D hX.2.1) hX.2.2 hE.2.2 hc hfs hcells hslots hdg fun q H1 hP hD hS => kk q H1 (kX_push hX hP hD hS).1 (kX_push hX hP hD hS).2
/-- the class of a new array is the one that is known -/
theorem kK_arr {γ : kG} {s : State} (hK : kK γ s) {t0 : Nat} {c1 c2 : ClassId} {ty : FieldType} (h1 : (kT γ)[t0]? = some (c1, ty)) (hK2 : va_K γ.1 vwCl (kT γ ++ [(c2, ty)]) s) : c2 = c1 := by
  have a1 := (hK.2 t0 _ h1).2
  have a2 := (hK2.2 (kT γ).length (c2, ty) (by simp)).2
  cases ty
  case object C =>
    obtain ⟨-, -, -, -, -, e1⟩ := a1
    obtain ⟨-, -, -, -, -, e2⟩ := a2
    exact Option.some.inj (e2.symm.trans e1)
  all_goals
    have e1 : s.vm.findClass _ = some c1 := a1
    have e2 : s.vm.findClass _ = some c2 := a2
    exact Option.some.inj (e2.symm.trans e1)
theorem k_newa (hM : kM p s m args meth c cc nL ret own) (hE : kE γ A s) (hX : kX γ A s L F H locs) {t0 : Nat} {atype : ArrayType} {ty : FieldType} {cA : ClassId} (hty : newarray.typeOf atype = ty) (ht : (kT γ)[t0]? = some (cA, ty)) (harr : Cond.arrayClass ty ∈ W0) {n : Int32} {N' : Nat} {a0 : vp_A} (ha : ∀ cA : ClassId, vp_cell cA a0 = arrV cA N' (fun _ => defaultValue ty)) (hn : ¬ n < 0) (hN : n.toNatClampNeg = N') (hbytes : N' * componentBytes ty ≤ 536870912) (hcells : cells + 1 ≤ R.cells) (hslots : slots + N' ≤ R.slots) (hdg : decode cc pc = .ok (.newarray atype, 2))
    (kk : ∀ (q : Nat) (H1 : Heap), q ∉ L → kX γ A s (L ++ [q]) (va_up F q (.inl (cA, a0))) H1 locs → W p l e R s m args below meth c H1 locs (cells + 1) (slots + N') Q (F0 m (pc + 2) ls (.ref q :: rest))) : W p l e R s m args below meth c H locs cells slots Q (F0 m pc ls (.int n :: rest)) := by
  obtain ⟨hx, hb, hml, hown, hts, -⟩ := hM
  refine va_newa hx hb (by rw [hty]; exact hts _ harr) hty hE.1 hX.1 (kN_D hX.2.1) hX.2.2 hE.2.2 ha hn hN hbytes hcells hslots hdg fun q cA' H1 hK hP hD hS => ?_
  have e0 := kK_arr hE.1 ht hK
  subst e0
  exact kk q H1 (kX_push hX hP hD hS).1 (kX_push hX hP hD hS).2
theorem k_newq (hM : kM p s m args meth c cc nL ret own) (hE : kE γ A s) (hX : kX γ A s L F H locs) {index : Nat} (hcl : Cond.classLink own index "java/lang/Object" ∈ W0) {n : Int32} {N' : Nat} (hn : ¬ n < 0) (hN : n.toNatClampNeg = N') (hbytes : N' * 4 ≤ 536870912) (hcells : cells + 1 ≤ R.cells) (hslots : slots + N' ≤ R.slots) (hdg : decode cc pc = .ok (.anewarray index, 3))
    (kk : ∀ (q : Nat) (H1 : Heap), q ∉ L → kX γ A s (L ++ [q]) (va_up F q (.inl (γ.2.1 4, N', .inr (.inr (.inr (.inr (fun _ => none))))))) H1 locs → W p l e R s m args below meth c H1 locs (cells + 1) (slots + N') Q (F0 m (pc + 3) ls (.ref q :: rest))) : W p l e R s m args below meth c H locs cells slots Q (F0 m pc ls (.int n :: rest)) := by
  obtain ⟨hx, hb, hml, hown, hts, -⟩ := hM
  obtain ⟨-, -, -, -, -, -, -, -, -, hAO, -⟩ := hE.2.1
  refine va_newq hx hb hown (hts _ hcl) hAO hE.1 hX.1 (kN_D hX.2.1) hX.2.2 hE.2.2 hn hN hbytes hcells hslots hdg fun q cA' H1 hK hP hD hS => ?_
  have e0 := kK_arr (t0 := 4) hE.1 rfl hK
  subst e0
  exact kk q H1 (kX_push hX hP hD hS).1 (kX_push hX hP hD hS).2
/-- a method's end -/
theorem k_end {sz : Nat} {ok : kOk} {L0 : List Nat} {v : Option Value} (hsz : s.heap.size = sz) (hX : kX γ (kA L0 sz) s L F H locs) (hok : ok v L F) (t : State) (ht : t.heap = H) : kQ γ L0 sz ok args s (.returned v) t :=
  ⟨⟨v, (L, F), rfl, hok, by rw [ht]; exact hX.1, hX.2.1.1, hX.2.1.2⟩, hX.2.2.F ht⟩
theorem k_iret {sz mc ms : Nat} {ok : kOk} {L0 : List Nat} {x : Int32} (hM : kM p s m args meth c cc nL (some .int) own) (hsz : s.heap.size = sz) (hX : kX γ (kA L0 sz) s L F H locs) (hok : ok (some (.int x)) L F) (h1 : cells ≤ mc) (h2 : slots ≤ ms) (hdg : decode cc pc = .ok (.ireturn, 1)) : W p l e R s m args below meth c H locs cells slots (MQ below (kQ γ L0 sz ok) args s mc ms (kA L0 sz)) (F0 m pc ls [.int x]) :=
  W.widen h1 h2 (W.iret hM.1 hM.2.1 hM.2.2.2.2.2.1 (fun t ht _ => k_end hsz hX hok t ht) hX.2.2.2.2 hdg hM.2.2.2.2.2.2.1)
theorem k_zret {sz mc ms : Nat} {ok : kOk} {L0 : List Nat} {x : Int32} {ty : FieldType} (hM : kM p s m args meth c cc nL (some ty) own) (hn : narrow ty (.int x) = .int x) (hsz : s.heap.size = sz) (hX : kX γ (kA L0 sz) s L F H locs) (hok : ok (some (.int x)) L F) (h1 : cells ≤ mc) (h2 : slots ≤ ms) (hdg : decode cc pc = .ok (.ireturn, 1)) : W p l e R s m args below meth c H locs cells slots (MQ below (kQ γ L0 sz ok) args s mc ms (kA L0 sz)) (F0 m pc ls [.int x]) :=
  W.widen h1 h2 (W.zret hM.1 hM.2.1 hM.2.2.2.2.2.1 hn (fun t ht _ => k_end hsz hX hok t ht) hX.2.2.2.2 hdg hM.2.2.2.2.2.2.1)
theorem k_vret {sz mc ms : Nat} {ok : kOk} {L0 : List Nat} (hM : kM p s m args meth c cc nL none own) (hsz : s.heap.size = sz) (hX : kX γ (kA L0 sz) s L F H locs) (hok : ok none L F) (h1 : cells ≤ mc) (h2 : slots ≤ ms) (hdg : decode cc pc = .ok (.return_, 1)) : W p l e R s m args below meth c H locs cells slots (MQ below (kQ γ L0 sz ok) args s mc ms (kA L0 sz)) (F0 m pc ls []) :=
  W.widen h1 h2 (W.vret hM.1 hM.2.1 hM.2.2.2.2.2.1 (fun t ht _ => k_end hsz hX hok t ht) hX.2.2.2.2 hdg hM.2.2.2.2.2.2.1)
theorem k_aret {sz mc ms : Nat} {ok : kOk} {L0 : List Nat} {a : Nat} {ty : FieldType} (hM : kM p s m args meth c cc nL (some ty) own) (hty : (∃ n, ty = .object n) ∨ ∃ t, ty = .array t) (hsz : s.heap.size = sz) (hX : kX γ (kA L0 sz) s L F H locs) (hok : ok (some (.ref a)) L F) (h1 : cells ≤ mc) (h2 : slots ≤ ms) (hdg : decode cc pc = .ok (.areturn, 1)) : W p l e R s m args below meth c H locs cells slots (MQ below (kQ γ L0 sz ok) args s mc ms (kA L0 sz)) (F0 m pc ls [.ref a]) :=
  W.widen h1 h2 (W.aret hM.1 hM.2.1 hM.2.2.2.2.2.1 hty (Or.inr ⟨a, rfl⟩) (fun t ht _ => k_end hsz hX hok t ht) hX.2.2.2.2 hdg hM.2.2.2.2.2.2.1)
/-- a callee's entry, from here -/
theorem k_in (hE : kE γ A s) (hX : kX γ A s L F H locs) (av : List Value) (U : State) (hU : U.heap = H) (hW : s.WarmedH U.vm) : va_Pc av (kIn γ L F H.size) av.toArray U :=
  ⟨rfl, by rw [hU], by rw [hU]; exact hX.1, va_K.moved hW.alike hE.1, hX.2.1.1, hE.2.1.to hX.2.2 hU hW (kX_sub hX hE.2.2)⟩
theorem k_recv (hE : kE γ A s) (hX : kX γ A s L F H locs) {ci : Nat} {q : vw_C} {a : Nat} {fs : List Value} (ha : a ∈ L) (hF : F a = .inr (ci, fs)) (hc : vwCl[ci]? = some q) : ∃ cell : Cell, H[a]? = some cell ∧ cell.vm.isStatics = false ∧ s.vm.findClass q.1 = some cell.cls := by
  obtain ⟨k0, hk0⟩ := kX_get hX ha hF
  exact va_recv hE.1 hX.1 hc hk0
/-- behind a callee -/
theorem k_back (hE : kE γ A s) (hX : kX γ A s L F H locs) {u : List Nat × kF} {t : State} {H1 : Heap} {locs1 : List Loc} (ht : t.heap = H1) (hB : kOut γ L H.size u t) (hS : va_S A s.heap H1 locs1) : kX γ A s u.1 u.2 H1 locs1 :=
  ⟨by rw [← ht]; exact hB.1, ⟨hB.2.1, fun a ha => kX_sub hX hE.2.2 a (hB.2.2 a ha)⟩, hS⟩
theorem k_go {ok : kOk} {mc ms : Nat} {st0 : List Value} {a : Array Value} (hr : va_Run p l e R s m args below meth c H locs cells slots mc ms (F0 m pc ls st0) rest (kQ γ L H.size ok a) (kA L H.size)) (hE : kE γ A s) (hX : kX γ A s L F H locs)
    (kk : ∀ (v : Option Value) (L1 : List Nat) (F1 : kF) (H1 : Heap) (locs1 : List Loc), ok v L1 F1 → kX γ A s L1 F1 H1 locs1 → W p l e R s m args below meth c H1 locs1 (cells + mc) (slots + ms) Q (F0 m (pc + 3) ls (v.toList ++ rest))) : W p l e R s m args below meth c H locs cells slots Q (F0 m pc ls st0) := by
  intro T hT X
  obtain ⟨v, st₀, t, T', L9, h0, X', hL, e1, e2, ⟨⟨v', u, hv, hok, hB⟩, hF⟩, st⟩ := hr T hT X
  cases hv
  obtain ⟨k1, k2, k3⟩ := vx_keep h0 e1 hX.2.2 (fun q _ h => kX_sub hX hE.2.2 q h) (kX_sub hX hE.2.2) hL hF
  obtain ⟨t2, a1, b1⟩ := kk v u.1 u.2 T'.heap (locs ++ L9) hok (k_back hE hX e1.symm hB k3) T' rfl X'
  exact ⟨t2, st t2 a1, b1⟩
end KR
