/-! the start: what the Statement gives -/
theorem t_mk {w : Cond} (i : Nat) (h : lw_tbl[i]? = some w) : w ∈ lw_tbl := List.mem_of_getElem? h
theorem inJ0 : ∀ w ∈ u_ws RJ0 TJ0 4, w ∈ W0 := u_all (by decide +kernel)
theorem inJx0 : ∀ w ∈ u_ws RJx00060 TJx00060 6, w ∈ W0 := u_all (by decide +kernel)
theorem inJx7 : ∀ w ∈ u_ws RJx7c733 TJx7c733 6, w ∈ W0 := u_all (by decide +kernel)
theorem kSel_at {s : State} {args : Array Value} (hi : (Cond.instantiable "java/lang/StringBuilder" 4).before args s = true) (hp : (Cond.privateMethod ⟨"java/lang/AbstractStringBuilder", "ensureCapacityInternal", "(I)V"⟩).before args s = true) (hm : (Cond.instanceMethod ⟨"java/lang/AbstractStringBuilder", "ensureCapacityInternal", "(I)V"⟩).before args s = true) (hs : (Cond.sameMethod "java/lang/AbstractStringBuilder" "java/lang/AbstractStringBuilder" "ensureCapacityInternal" "(I)V").before args s = true) : kSel.before args s = true := by
  obtain ⟨c, k, hc, hk, -, -, -, -⟩ := Cond.instantiable_spec hi
  obtain ⟨mk, methM, hnamed, hmethM, -, -⟩ := Cond.instanceMethod_spec hm
  have hfound : s.methodFound? "java/lang/AbstractStringBuilder" "ensureCapacityInternal" "(I)V" = some mk := State.methodFound?_of_named hnamed ⟨by decide, by decide⟩
  have hsel : selectMethod {} s.vm c mk = .method mk := selectMethod_private hmethM (Cond.privateMethod_at hp mk methM hnamed hmethM)
  obtain ⟨-, k2, hk2, hni⟩ := Cond.sameMethod_spec (findClass_of_methodNamed hnamed) hfound hs
  simp only [kSel, Cond.before, Cond.holds, Cond.value, hc, hfound, hnamed, hsel, hk2]
  simp; exact hni
theorem W0_at {s : State} {args : Array Value} (hts : ∀ w ∈ lw_tbl, w.before args s = true) : ∀ w ∈ W0, w.before args s = true := by
  intro w hw
  rcases List.mem_cons.mp hw with rfl | hw
  · exact kSel_at (hts _ (t_mk 92 (by decide +kernel))) (hts _ (t_mk 721 (by decide +kernel))) (hts _ (t_mk 722 (by decide +kernel))) (hts _ (t_mk 1082 (by decide +kernel)))
  · exact hts w (List.mem_filter.mp hw).1
theorem arr_at {s : State} {args : Array Value} {ty : FieldType} (h : (Cond.arrayClass ty).before args s = true) : ∃ cA : ClassId, ArrOfT s cA ty ∧ s.vm.findClass ("[" ++ ty.toString) = some cA := by
  obtain ⟨cA, kA, comp, h1, h2, h3⟩ := Cond.arrayClass_spec h
  exact ⟨cA, fun n z => ⟨(fun k h => by cases h), kA, h2, comp, h3⟩, h1⟩
theorem arq_at {s : State} {args : Array Value} {C : String} (h : (Cond.arrayOver (.object C)).before args s = true) : ∃ cA : ClassId, ArrOfT s cA (.object C) ∧ va_RA s cA (.object C) := by
  obtain ⟨comp, cA, kA, h1, -, h3, h4, h5⟩ := Cond.arrayOver_spec h
  exact ⟨cA, fun n z => ⟨(fun k h => by cases h), kA, h3, comp, h4⟩, kA, comp, h3, h4, h1, h5⟩
/-- a text of the class is there -/
theorem str_at {s : State} {args : Array Value} {own : String} {cur : Nat} (hcur : s.vm.findClass own = some cur) {k : Nat} {tx : String} (h : (Cond.stringRef own k tx).before args s = true) : ∃ a, vk_R own k tx a s := by
  obtain ⟨-, -, -, a, -, -, -, -, -, hev⟩ := Cond.stringRef_spec hcur h
  exact ⟨a, vk_R.of h hev⟩
theorem kStr_in : ∀ q ∈ kStr, Cond.stringRef q.1 q.2.1 q.2.2 ∈ lw_tbl ∧ q.1 = "Invoicebridge" := by decide +kernel
set_option maxHeartbeats 4000000 in
set_option maxRecDepth 100000 in
theorem nar_st {args : Array Value} {s : State} (h : (Jvm.Cond.and given_1 narrow_1).before args s = true) :
    (Cond.arrayOf (.static "java/util/ArrayList" "DEFAULTCAPACITY_EMPTY_ELEMENTDATA" "[Ljava/lang/Object;") (.object "java/lang/Object") : Cond).before args s = true ∧ (Cond.eq (.length (.static "java/util/ArrayList" "DEFAULTCAPACITY_EMPTY_ELEMENTDATA" "[Ljava/lang/Object;")) (.int 0) : Cond).before args s = true ∧ (Cond.eq (.static "java/lang/String" "COMPACT_STRINGS" "Z") (.int 1) : Cond).before args s = true ∧ (Cond.isRef (.static "jdk/internal/util/Preconditions" "SIOOBE_FORMATTER" "Ljava/util/function/BiFunction;") : Cond).before args s = true ∧ (Cond.isRef (.static "java/lang/Throwable" "UNASSIGNED_STACK" "[Ljava/lang/StackTraceElement;") : Cond).before args s = true ∧ (Cond.isRef (.static "java/lang/Throwable" "SUPPRESSED_SENTINEL" "Ljava/util/List;") : Cond).before args s = true ∧ (Cond.isRef (.mirror "[Ljava/lang/Object;") : Cond).before args s = true ∧ (Cond.not (.castable "java/lang/IllegalArgumentException" "java/lang/IndexOutOfBoundsException") : Cond).before args s = true ∧ (Cond.not (.castable "java/lang/IllegalStateException" "java/lang/IndexOutOfBoundsException") : Cond).before args s = true ∧ (Cond.not (.castable "java/lang/IllegalStateException" "java/lang/IllegalArgumentException") : Cond).before args s = true := by
  have hs := flat_of_before _ h
  exact ⟨hs _ (by decide +kernel), hs _ (by decide +kernel), hs _ (by decide +kernel), hs _ (by decide +kernel), hs _ (by decide +kernel), hs _ (by decide +kernel), hs _ (by decide +kernel), hs _ (by decide +kernel), hs _ (by decide +kernel), hs _ (by decide +kernel)⟩
set_option maxHeartbeats 4000000 in
set_option maxRecDepth 100000 in
theorem w_start {args : Array Value} {s : State} (hts : ∀ w ∈ lw_tbl, w.before args s = true) (hgv : (Jvm.Cond.and given_1 narrow_1).before args s = true) : ∃ γ : kG, kE γ (kA [] s.heap.size) s := by
  have hA : ∀ a : Nat, a < s.heap.size → ¬ kA [] s.heap.size a := fun a ha h => h.elim (fun h => nomatch h) (fun h => absurd ha (Nat.not_lt.mpr h))
  have hW := W0_at hts
  obtain ⟨n1, n2, n3, n4, n5, n6, n7, n8, n9, n10⟩ := nar_st hgv
  obtain ⟨c0, i0, K0⟩ := u_known (C := RJ0) (T := TJ0) (N := 4) (n := 4) hW inJ0 (hW _ k_887)
  obtain ⟨c1, i1, K1⟩ := u_known (C := RJ4) (T := TJ4) (N := 4) (n := 4) hW inSB (hW _ k_65)
  obtain ⟨c2, i2, K2⟩ := u_known (C := RJx00060) (T := TJx00060) (N := 6) (n := 6) hW inJx0 (hW _ k_962)
  obtain ⟨c3, i3, K3⟩ := u_known (C := RJx7c733) (T := TJx7c733) (N := 6) (n := 6) hW inJx7 (hW _ k_803)
  obtain ⟨c4, i4, K4⟩ := u_known (C := RJx4a65c) (T := TJx4a65c) (N := 3) (n := 3) hW inAL (hW _ k_39)
  obtain ⟨c5, i5, K5⟩ := u_known (C := RX0) (T := TX0) (N := 3) (n := 3) hW inX0 (hW _ k_628)
  obtain ⟨c6, i6, K6⟩ := u_known (C := RX1) (T := TX1) (N := 3) (n := 3) hW inX1 (hW _ k_289)
  obtain ⟨c7, i7, K7⟩ := u_known (C := RX2) (T := TX2) (N := 12) (n := 12) hW inX2 (hW _ k_511)
  obtain ⟨c8, i8, K8⟩ := u_known (C := RX3) (T := TX3) (N := 4) (n := 4) hW inX3 (hW _ k_570)
  obtain ⟨c9, i9, K9⟩ := u_known (C := RX4) (T := TX4) (N := 6) (n := 6) hW inX4 (hW _ k_31)
  obtain ⟨a0, A0, B0⟩ := arr_at (hW _ k_97)
  obtain ⟨a1, A1, B1⟩ := arr_at (hW _ k_96)
  obtain ⟨a4, A4, B4⟩ := arq_at (C := "java/lang/Object") (hts _ (t_mk 382 (by decide +kernel)))
  obtain ⟨mi, hmi⟩ := va_Mi.of n7
  obtain ⟨t, ht, hT⟩ := va_Tof (N := 0) (f := fun _ => .null) (by decide) n1 (va_eqt n2) (fun j hj => absurd hj (Nat.not_lt_zero j)) hA
  refine ⟨(((fun k => match k with | 0 => c0 | 1 => c1 | 2 => c2 | 3 => c3 | 4 => c4 | 5 => c5 | 6 => c6 | 7 => c7 | 8 => c8 | _ => c9), (fun k => match k with | 0 => i0 | 1 => i1 | 2 => i2 | 3 => i3 | 4 => i4 | 5 => i5 | 6 => i6 | 7 => i7 | 8 => i8 | _ => i9)), (fun k => match k with | 0 => a0 | 1 => a1 | 2 => a1 | 3 => a1 | 4 => a4 | _ => mi), t), ⟨⟨fun k q hq => ?_, fun k q hq => ?_⟩, ?_, fun q hq => Or.inr hq⟩⟩
  · match k, hq with
    | 0, hq => have h9 : some (RJ0, TJ0, 4) = some q := hq; cases h9; exact K0
    | 1, hq => have h9 : some (RJ4, TJ4, 4) = some q := hq; cases h9; exact K1
    | 2, hq => have h9 : some (RJx00060, TJx00060, 6) = some q := hq; cases h9; exact K2
    | 3, hq => have h9 : some (RJx7c733, TJx7c733, 6) = some q := hq; cases h9; exact K3
    | 4, hq => have h9 : some (RJx4a65c, TJx4a65c, 3) = some q := hq; cases h9; exact K4
    | 5, hq => have h9 : some (RX0, TX0, 3) = some q := hq; cases h9; exact K5
    | 6, hq => have h9 : some (RX1, TX1, 3) = some q := hq; cases h9; exact K6
    | 7, hq => have h9 : some (RX2, TX2, 12) = some q := hq; cases h9; exact K7
    | 8, hq => have h9 : some (RX3, TX3, 4) = some q := hq; cases h9; exact K8
    | 9, hq => have h9 : some (RX4, TX4, 6) = some q := hq; cases h9; exact K9
    | k + 10, hq => simp [vwCl] at hq
  · match k, hq with
    | 0, hq => have h9 : some (a0, FieldType.byte) = some q := hq; cases h9; exact ⟨A0, B0⟩
    | 1, hq => have h9 : some (a1, FieldType.int) = some q := hq; cases h9; exact ⟨A1, B1⟩
    | 2, hq => have h9 : some (a1, FieldType.int) = some q := hq; cases h9; exact ⟨A1, B1⟩
    | 3, hq => have h9 : some (a1, FieldType.int) = some q := hq; cases h9; exact ⟨A1, B1⟩
    | 4, hq => have h9 : some (a4, FieldType.object "java/lang/Object") = some q := hq; cases h9; exact ⟨A4, B4⟩
    | k + 5, hq => simp [kT] at hq
  · refine ⟨vx_Zqof (hts _ (t_mk 183 (by decide +kernel))) (hW _ k_9) n5 hA, vx_Zqof (hts _ (t_mk 185 (by decide +kernel))) (hW _ k_9) n6 hA, fun q hq => ?_, va_Nw.of rfl (hts _ (t_mk 281 (by decide +kernel))), va_Nw.of rfl (hts _ (t_mk 477 (by decide +kernel))), va_Zof (hts _ (t_mk 101 (by decide +kernel))) (hW _ k_7) (va_eqt n3) hA, va_Zqof (hts _ (t_mk 768 (by decide +kernel))) (hW _ k_14) n4 hA, va_Zref (hts _ (t_mk 78 (by decide +kernel))) (hW _ k_4) ht hA, hT, va_AO.of (hts _ (t_mk 382 (by decide +kernel))), ⟨va_Nw.of rfl (hts _ (t_mk 158 (by decide +kernel))), va_Nw.of rfl (hts _ (t_mk 228 (by decide +kernel))), va_Nw.of rfl (hts _ (t_mk 293 (by decide +kernel)))⟩, ⟨va_Nc.of n8, va_Nc.of n9, va_Nc.of n10⟩, hmi, va_Dc.of (hts _ (t_mk 1111 (by decide +kernel))), ⟨va_Nw.of rfl (hts _ (t_mk 1101 (by decide +kernel))), va_Nw.of rfl (hts _ (t_mk 1102 (by decide +kernel))), va_Nw.of rfl (hts _ (t_mk 1103 (by decide +kernel))), va_Nw.of rfl (hts _ (t_mk 1104 (by decide +kernel)))⟩, fun y hy => ?_⟩
    · obtain ⟨h1, h2⟩ := kStr_in q hq
      exact str_at (by rw [h2]; exact K9.2.1) (hts _ h1)
    · have h9 : ∀ y ∈ kDcs, Cond.declares y ∈ lw_tbl := by decide +kernel
      exact va_Nw.of rfl (hts _ (h9 y hy))
