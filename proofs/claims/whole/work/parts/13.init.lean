theorem k_obj {p : Program} {l : Launch} {e : Env} {R : Room} {s : State} {m : MethodId} {args : Array Value} {below : List Frame} {meth : Method} {c : Code} {H : Heap} {locs : List Loc} {cells slots : Nat} {Q : State → Prop} {cc : ByteArray} {nL : Nat} {ret : Option FieldType} {own : String} {pc : Nat} {ls : Array Slot} {rest : List Value} {lv : List (Nat × Value)} {a idx : Nat}
    (hM : kM p s m args meth c cc nL ret own) (hl : lv_has ls nL lv) (w1 : Cond.methodLink own idx objectInit ∈ W0) (hdg : decode cc pc = .ok (.invokespecial idx, 3)) (hR : 1 ≤ R.frames ∧ (rest.map fun v => v.category).sum + 12 ≤ R.locals)
    (kk : W p l e R s m args below meth c H locs cells slots Q (F0 m (pc + 3) ls rest)) : W p l e R s m args below meth c H locs cells slots Q (F0 m pc ls (.ref a :: rest)) :=
  W.objInit hM.1 hM.2.1 hM.2.2.2.1 (hM.2.2.2.2.1 _ w1) (hM.2.2.2.2.1 _ kw_obj_inst) (hM.2.2.2.2.1 _ kw_obj_code) rfl (hl.1.trans hM.2.2.1.symm) rfl hdg hR.1 (by show 2 * 0 + _ + 12 ≤ _; have := hR.2; omega) kk
def IniM (γ : kG) (L : List Nat) (F : kF) (o : Nat) (fs : List Value) (qs : List (Nat × Nat)) : Prop := o ∈ L ∧ F o = .inr (10, fs) ∧ (∀ e ∈ qs, e.2 ∈ L ∧ F e.2 = .inl (γ.2.1 (mTy e.1), mLen e.1, .inl fun _ => 0)) ∧ (qs.map Prod.snd).Nodup
theorem IniM.new {γ : kG} {L : List Nat} {F : kF} {o : Nat} {fs : List Value} {qs : List (Nat × Nat)} (h : IniM γ L F o fs qs) (k : Nat) {q : Nat} (hq : q ∉ L) : IniM γ (L ++ [q]) (va_up F q (.inl (γ.2.1 (mTy k), mLen k, .inl fun _ => 0))) o fs ((k, q) :: qs) := by
  obtain ⟨h1, h2, h3, h4⟩ := h
  refine ⟨List.mem_append_left _ h1, by rw [va_up_ne _ _ (show o ≠ q from fun e => hq (e ▸ h1)), h2], fun e he => ?_, ?_⟩
  · rcases List.mem_cons.mp he with rfl | he
    · exact ⟨by simp, va_up_self _ _ _⟩
    · obtain ⟨h5, h6⟩ := h3 e he
      exact ⟨List.mem_append_left _ h5, by rw [va_up_ne _ _ (show e.2 ≠ q from fun e2 => hq (e2 ▸ h5)), h6]⟩
  · simp only [List.map_cons, List.nodup_cons]
    refine ⟨fun hm => ?_, h4⟩
    obtain ⟨e, he, e2⟩ := List.mem_map.mp hm
    exact hq (e2 ▸ (h3 e he).1)
theorem IniM.put {γ : kG} {L : List Nat} {F : kF} {o : Nat} {fs : List Value} {qs : List (Nat × Nat)} (h : IniM γ L F o fs qs) (fs' : List Value) : IniM γ L (va_up F o (.inr (10, fs'))) o fs' qs := by
  obtain ⟨h1, h2, h3, h4⟩ := h
  refine ⟨h1, va_up_self _ _ _, fun e he => ?_, h4⟩
  obtain ⟨h5, h6⟩ := h3 e he
  refine ⟨h5, ?_⟩
  rw [va_up_ne _ _ (fun e2 => by rw [e2, h2] at h6; cases h6), h6]
def adOf : List (Nat × Nat) → Nat → Nat
  | [], _ => 0
  | e :: r, k => if k = e.1 then e.2 else adOf r k
theorem adOf_mem : ∀ (qs : List (Nat × Nat)) (k : Nat), k ∈ qs.map Prod.fst → (k, adOf qs k) ∈ qs
  | [], k, h => by simp at h
  | e :: r, k, h => by
    by_cases hk : k = e.1
    · have : adOf (e :: r) k = e.2 := if_pos hk
      rw [this, hk]; exact List.mem_cons_self
    · have : adOf (e :: r) k = adOf r k := if_neg hk
      rw [this]
      simp only [List.map_cons, List.mem_cons] at h
      exact List.mem_cons_of_mem _ (adOf_mem r k (h.resolve_left hk))
theorem nd_inj : ∀ (l : List (Nat × Nat)), (l.map Prod.snd).Nodup → ∀ a b, a ∈ l → b ∈ l → a.2 = b.2 → a = b
  | [], _, a, b, h, _, _ => by simp at h
  | e :: r, hn, a, b, ha, hb, h => by
    simp only [List.map_cons, List.nodup_cons] at hn
    rcases List.mem_cons.mp ha with ha1 | ha1 <;> rcases List.mem_cons.mp hb with hb1 | hb1
    · rw [ha1, hb1]
    · exact absurd (List.mem_map.mpr ⟨b, hb1, by rw [← h, ha1]⟩) hn.1
    · exact absurd (List.mem_map.mpr ⟨a, ha1, by rw [h, hb1]⟩) hn.1
    · exact nd_inj r hn.2 a b ha1 hb1 h
theorem IniM.rep {γ : kG} {L : List Nat} {F : kF} {o : Nat} {qs : List (Nat × Nat)} (h : IniM γ L F o (mFs (adOf qs) fun _ _ => 0) qs) (hq : ∀ k, k < 25 → mArr k = true → k ∈ qs.map Prod.fst) : RepM γ L F o (adOf qs) (fun _ _ => 0) := by
  obtain ⟨h1, h2, h3, h4⟩ := h
  refine ⟨h1, h2, fun k hk ha => h3 _ (adOf_mem qs k (hq k hk ha)), fun k k' hk hk' ha ha' e => ?_⟩
  exact congrArg Prod.fst (nd_inj qs h4 _ _ (adOf_mem qs k (hq k hk ha)) (adOf_mem qs k' (hq k' hk' ha')) e)
set_option maxHeartbeats 4000000 in
set_option maxRecDepth 100000 in
theorem c_X5_init (l : Launch) (γ : kG) (L : List Nat) (F : kF) (o : Nat) (hL : L = [o]) (hF0 : F o = .inr (10, [.int 0, .null, .int 0, .null, .null, .null, .null, .null, .null, .null, .null, .null, .null, .null, .null, .null, .null, .null, .int 0, .null, .null, .null, .int 0, .null, .int 0])) : kC l yX5_init cX5_init 1 none (kRm 2 20 548) γ L F [.ref o] (kU fun L1 F1 => ∃ ad, RepM γ L1 F1 o ad (fun _ _ => 0)) := by
  subst hL
  refine kC_of (by decide +kernel) (Nat.le_of_ble_eq_true rfl) ?_
  intro p e s m args below meth c sz ls hargs hsz hM hin hE hX hl
  have hx := hM.1
  have hb := hM.2.1
  have hl : lv_has ls 1 [(0, .ref o)] := hl
  refine lv_aload_n hx hb dX5_init_0 rfl (lv_at hl 0 rfl) ?_
  refine k_obj hM hl kw_model_objinit dX5_init_1 (by decide) ?_
  have hI : IniM γ [o] F o [.int 0, .null, .int 0, .null, .null, .null, .null, .null, .null, .null, .null, .null, .null, .null, .null, .null, .null, .null, .int 0, .null, .null, .null, .int 0, .null, .int 0] [] := ⟨List.mem_singleton.mpr rfl, hF0, fun e h => (nomatch h), List.nodup_nil⟩
  refine lv_aload_n hx hb dX5_init_4 rfl (lv_at hl 0 rfl) ?_
  refine lv_bipush (v := 6) hx hb dX5_init_5 (by decide) ?_
  refine k_newa (atype := .int) (ty := .int) (t0 := 1) (N' := 6) (a0 := (6, .inl (fun _ => 0))) hM hE hX rfl rfl k_97 (fun _ => rfl) (by decide) rfl (by decide) (by decide) (by decide) dX5_init_7 (fun q1 H hq hX => ?_)
  obtain ⟨F, hX, hI⟩ : ∃ F9 : kF, kX γ _ s _ F9 H _ ∧ IniM γ _ F9 o _ _ := ⟨_, hX, hI.new 1 hq⟩
  refine k_put hM hE hX hI.1 hI.2.1 rfl 1 (by decide) inX5 tyX5 tyX5_ok nmX5 k_1068 (fun _ h => h) (Or.inr ⟨hin rfl, rfl⟩) rfl rfl (Nat.le_of_ble_eq_true rfl) dX5_init_9 (fun H locs hX => ?_)
  obtain ⟨F, hX, hI⟩ : ∃ F9 : kF, kX γ _ s _ F9 H locs ∧ IniM γ _ F9 o [.int 0, .ref q1, .int 0, .null, .null, .null, .null, .null, .null, .null, .null, .null, .null, .null, .null, .null, .null, .null, .int 0, .null, .null, .null, .int 0, .null, .int 0] _ := ⟨_, hX, hI.put [.int 0, .ref q1, .int 0, .null, .null, .null, .null, .null, .null, .null, .null, .null, .null, .null, .null, .null, .null, .null, .int 0, .null, .null, .null, .int 0, .null, .int 0]⟩
  refine lv_aload_n hx hb dX5_init_12 rfl (lv_at hl 0 rfl) ?_
  refine lv_bipush (v := 20) hx hb dX5_init_13 (by decide) ?_
  refine k_newa (atype := .int) (ty := .int) (t0 := 1) (N' := 20) (a0 := (20, .inl (fun _ => 0))) hM hE hX rfl rfl k_97 (fun _ => rfl) (by decide) rfl (by decide) (by decide) (by decide) dX5_init_15 (fun q2 H hq hX => ?_)
  obtain ⟨F, hX, hI⟩ : ∃ F9 : kF, kX γ _ s _ F9 H _ ∧ IniM γ _ F9 o _ _ := ⟨_, hX, hI.new 3 hq⟩
  refine k_put hM hE hX hI.1 hI.2.1 rfl 3 (by decide) inX5 tyX5 tyX5_ok nmX5 k_1070 (fun _ h => h) (Or.inr ⟨hin rfl, rfl⟩) rfl rfl (Nat.le_of_ble_eq_true rfl) dX5_init_17 (fun H locs hX => ?_)
  obtain ⟨F, hX, hI⟩ : ∃ F9 : kF, kX γ _ s _ F9 H locs ∧ IniM γ _ F9 o [.int 0, .ref q1, .int 0, .ref q2, .null, .null, .null, .null, .null, .null, .null, .null, .null, .null, .null, .null, .null, .null, .int 0, .null, .null, .null, .int 0, .null, .int 0] _ := ⟨_, hX, hI.put [.int 0, .ref q1, .int 0, .ref q2, .null, .null, .null, .null, .null, .null, .null, .null, .null, .null, .null, .null, .null, .null, .int 0, .null, .null, .null, .int 0, .null, .int 0]⟩
  refine lv_aload_n hx hb dX5_init_20 rfl (lv_at hl 0 rfl) ?_
  refine lv_bipush (v := 20) hx hb dX5_init_21 (by decide) ?_
  refine k_newa (atype := .int) (ty := .int) (t0 := 1) (N' := 20) (a0 := (20, .inl (fun _ => 0))) hM hE hX rfl rfl k_97 (fun _ => rfl) (by decide) rfl (by decide) (by decide) (by decide) dX5_init_23 (fun q3 H hq hX => ?_)
  obtain ⟨F, hX, hI⟩ : ∃ F9 : kF, kX γ _ s _ F9 H _ ∧ IniM γ _ F9 o _ _ := ⟨_, hX, hI.new 4 hq⟩
  refine k_put hM hE hX hI.1 hI.2.1 rfl 4 (by decide) inX5 tyX5 tyX5_ok nmX5 k_1071 (fun _ h => h) (Or.inr ⟨hin rfl, rfl⟩) rfl rfl (Nat.le_of_ble_eq_true rfl) dX5_init_25 (fun H locs hX => ?_)
  obtain ⟨F, hX, hI⟩ : ∃ F9 : kF, kX γ _ s _ F9 H locs ∧ IniM γ _ F9 o [.int 0, .ref q1, .int 0, .ref q2, .ref q3, .null, .null, .null, .null, .null, .null, .null, .null, .null, .null, .null, .null, .null, .int 0, .null, .null, .null, .int 0, .null, .int 0] _ := ⟨_, hX, hI.put [.int 0, .ref q1, .int 0, .ref q2, .ref q3, .null, .null, .null, .null, .null, .null, .null, .null, .null, .null, .null, .null, .null, .int 0, .null, .null, .null, .int 0, .null, .int 0]⟩
  refine lv_aload_n hx hb dX5_init_28 rfl (lv_at hl 0 rfl) ?_
  refine lv_bipush (v := 20) hx hb dX5_init_29 (by decide) ?_
  refine k_newa (atype := .int) (ty := .int) (t0 := 1) (N' := 20) (a0 := (20, .inl (fun _ => 0))) hM hE hX rfl rfl k_97 (fun _ => rfl) (by decide) rfl (by decide) (by decide) (by decide) dX5_init_31 (fun q4 H hq hX => ?_)
  obtain ⟨F, hX, hI⟩ : ∃ F9 : kF, kX γ _ s _ F9 H _ ∧ IniM γ _ F9 o _ _ := ⟨_, hX, hI.new 5 hq⟩
  refine k_put hM hE hX hI.1 hI.2.1 rfl 5 (by decide) inX5 tyX5 tyX5_ok nmX5 k_1072 (fun _ h => h) (Or.inr ⟨hin rfl, rfl⟩) rfl rfl (Nat.le_of_ble_eq_true rfl) dX5_init_33 (fun H locs hX => ?_)
  obtain ⟨F, hX, hI⟩ : ∃ F9 : kF, kX γ _ s _ F9 H locs ∧ IniM γ _ F9 o [.int 0, .ref q1, .int 0, .ref q2, .ref q3, .ref q4, .null, .null, .null, .null, .null, .null, .null, .null, .null, .null, .null, .null, .int 0, .null, .null, .null, .int 0, .null, .int 0] _ := ⟨_, hX, hI.put [.int 0, .ref q1, .int 0, .ref q2, .ref q3, .ref q4, .null, .null, .null, .null, .null, .null, .null, .null, .null, .null, .null, .null, .int 0, .null, .null, .null, .int 0, .null, .int 0]⟩
  refine lv_aload_n hx hb dX5_init_36 rfl (lv_at hl 0 rfl) ?_
  refine lv_bipush (v := 20) hx hb dX5_init_37 (by decide) ?_
  refine k_newa (atype := .int) (ty := .int) (t0 := 1) (N' := 20) (a0 := (20, .inl (fun _ => 0))) hM hE hX rfl rfl k_97 (fun _ => rfl) (by decide) rfl (by decide) (by decide) (by decide) dX5_init_39 (fun q5 H hq hX => ?_)
  obtain ⟨F, hX, hI⟩ : ∃ F9 : kF, kX γ _ s _ F9 H _ ∧ IniM γ _ F9 o _ _ := ⟨_, hX, hI.new 6 hq⟩
  refine k_put hM hE hX hI.1 hI.2.1 rfl 6 (by decide) inX5 tyX5 tyX5_ok nmX5 k_1073 (fun _ h => h) (Or.inr ⟨hin rfl, rfl⟩) rfl rfl (Nat.le_of_ble_eq_true rfl) dX5_init_41 (fun H locs hX => ?_)
  obtain ⟨F, hX, hI⟩ : ∃ F9 : kF, kX γ _ s _ F9 H locs ∧ IniM γ _ F9 o [.int 0, .ref q1, .int 0, .ref q2, .ref q3, .ref q4, .ref q5, .null, .null, .null, .null, .null, .null, .null, .null, .null, .null, .null, .int 0, .null, .null, .null, .int 0, .null, .int 0] _ := ⟨_, hX, hI.put [.int 0, .ref q1, .int 0, .ref q2, .ref q3, .ref q4, .ref q5, .null, .null, .null, .null, .null, .null, .null, .null, .null, .null, .null, .int 0, .null, .null, .null, .int 0, .null, .int 0]⟩
  refine lv_aload_n hx hb dX5_init_44 rfl (lv_at hl 0 rfl) ?_
  refine lv_bipush (v := 20) hx hb dX5_init_45 (by decide) ?_
  refine k_newa (atype := .int) (ty := .int) (t0 := 1) (N' := 20) (a0 := (20, .inl (fun _ => 0))) hM hE hX rfl rfl k_97 (fun _ => rfl) (by decide) rfl (by decide) (by decide) (by decide) dX5_init_47 (fun q6 H hq hX => ?_)
  obtain ⟨F, hX, hI⟩ : ∃ F9 : kF, kX γ _ s _ F9 H _ ∧ IniM γ _ F9 o _ _ := ⟨_, hX, hI.new 7 hq⟩
  refine k_put hM hE hX hI.1 hI.2.1 rfl 7 (by decide) inX5 tyX5 tyX5_ok nmX5 k_1074 (fun _ h => h) (Or.inr ⟨hin rfl, rfl⟩) rfl rfl (Nat.le_of_ble_eq_true rfl) dX5_init_49 (fun H locs hX => ?_)
  obtain ⟨F, hX, hI⟩ : ∃ F9 : kF, kX γ _ s _ F9 H locs ∧ IniM γ _ F9 o [.int 0, .ref q1, .int 0, .ref q2, .ref q3, .ref q4, .ref q5, .ref q6, .null, .null, .null, .null, .null, .null, .null, .null, .null, .null, .int 0, .null, .null, .null, .int 0, .null, .int 0] _ := ⟨_, hX, hI.put [.int 0, .ref q1, .int 0, .ref q2, .ref q3, .ref q4, .ref q5, .ref q6, .null, .null, .null, .null, .null, .null, .null, .null, .null, .null, .int 0, .null, .null, .null, .int 0, .null, .int 0]⟩
  refine lv_aload_n hx hb dX5_init_52 rfl (lv_at hl 0 rfl) ?_
  refine lv_bipush (v := 20) hx hb dX5_init_53 (by decide) ?_
  refine k_newa (atype := .int) (ty := .int) (t0 := 1) (N' := 20) (a0 := (20, .inl (fun _ => 0))) hM hE hX rfl rfl k_97 (fun _ => rfl) (by decide) rfl (by decide) (by decide) (by decide) dX5_init_55 (fun q7 H hq hX => ?_)
  obtain ⟨F, hX, hI⟩ : ∃ F9 : kF, kX γ _ s _ F9 H _ ∧ IniM γ _ F9 o _ _ := ⟨_, hX, hI.new 8 hq⟩
  refine k_put hM hE hX hI.1 hI.2.1 rfl 8 (by decide) inX5 tyX5 tyX5_ok nmX5 k_1075 (fun _ h => h) (Or.inr ⟨hin rfl, rfl⟩) rfl rfl (Nat.le_of_ble_eq_true rfl) dX5_init_57 (fun H locs hX => ?_)
  obtain ⟨F, hX, hI⟩ : ∃ F9 : kF, kX γ _ s _ F9 H locs ∧ IniM γ _ F9 o [.int 0, .ref q1, .int 0, .ref q2, .ref q3, .ref q4, .ref q5, .ref q6, .ref q7, .null, .null, .null, .null, .null, .null, .null, .null, .null, .int 0, .null, .null, .null, .int 0, .null, .int 0] _ := ⟨_, hX, hI.put [.int 0, .ref q1, .int 0, .ref q2, .ref q3, .ref q4, .ref q5, .ref q6, .ref q7, .null, .null, .null, .null, .null, .null, .null, .null, .null, .int 0, .null, .null, .null, .int 0, .null, .int 0]⟩
  refine lv_aload_n hx hb dX5_init_60 rfl (lv_at hl 0 rfl) ?_
  refine lv_bipush (v := 20) hx hb dX5_init_61 (by decide) ?_
  refine k_newa (atype := .int) (ty := .int) (t0 := 1) (N' := 20) (a0 := (20, .inl (fun _ => 0))) hM hE hX rfl rfl k_97 (fun _ => rfl) (by decide) rfl (by decide) (by decide) (by decide) dX5_init_63 (fun q8 H hq hX => ?_)
  obtain ⟨F, hX, hI⟩ : ∃ F9 : kF, kX γ _ s _ F9 H _ ∧ IniM γ _ F9 o _ _ := ⟨_, hX, hI.new 9 hq⟩
  refine k_put hM hE hX hI.1 hI.2.1 rfl 9 (by decide) inX5 tyX5 tyX5_ok nmX5 k_1076 (fun _ h => h) (Or.inr ⟨hin rfl, rfl⟩) rfl rfl (Nat.le_of_ble_eq_true rfl) dX5_init_65 (fun H locs hX => ?_)
  obtain ⟨F, hX, hI⟩ : ∃ F9 : kF, kX γ _ s _ F9 H locs ∧ IniM γ _ F9 o [.int 0, .ref q1, .int 0, .ref q2, .ref q3, .ref q4, .ref q5, .ref q6, .ref q7, .ref q8, .null, .null, .null, .null, .null, .null, .null, .null, .int 0, .null, .null, .null, .int 0, .null, .int 0] _ := ⟨_, hX, hI.put [.int 0, .ref q1, .int 0, .ref q2, .ref q3, .ref q4, .ref q5, .ref q6, .ref q7, .ref q8, .null, .null, .null, .null, .null, .null, .null, .null, .int 0, .null, .null, .null, .int 0, .null, .int 0]⟩
  refine lv_aload_n hx hb dX5_init_68 rfl (lv_at hl 0 rfl) ?_
  refine lv_bipush (v := 20) hx hb dX5_init_69 (by decide) ?_
  refine k_newa (atype := .int) (ty := .int) (t0 := 1) (N' := 20) (a0 := (20, .inl (fun _ => 0))) hM hE hX rfl rfl k_97 (fun _ => rfl) (by decide) rfl (by decide) (by decide) (by decide) dX5_init_71 (fun q9 H hq hX => ?_)
  obtain ⟨F, hX, hI⟩ : ∃ F9 : kF, kX γ _ s _ F9 H _ ∧ IniM γ _ F9 o _ _ := ⟨_, hX, hI.new 10 hq⟩
  refine k_put hM hE hX hI.1 hI.2.1 rfl 10 (by decide) inX5 tyX5 tyX5_ok nmX5 k_1077 (fun _ h => h) (Or.inr ⟨hin rfl, rfl⟩) rfl rfl (Nat.le_of_ble_eq_true rfl) dX5_init_73 (fun H locs hX => ?_)
  obtain ⟨F, hX, hI⟩ : ∃ F9 : kF, kX γ _ s _ F9 H locs ∧ IniM γ _ F9 o [.int 0, .ref q1, .int 0, .ref q2, .ref q3, .ref q4, .ref q5, .ref q6, .ref q7, .ref q8, .ref q9, .null, .null, .null, .null, .null, .null, .null, .int 0, .null, .null, .null, .int 0, .null, .int 0] _ := ⟨_, hX, hI.put [.int 0, .ref q1, .int 0, .ref q2, .ref q3, .ref q4, .ref q5, .ref q6, .ref q7, .ref q8, .ref q9, .null, .null, .null, .null, .null, .null, .null, .int 0, .null, .null, .null, .int 0, .null, .int 0]⟩
  refine lv_aload_n hx hb dX5_init_76 rfl (lv_at hl 0 rfl) ?_
  refine lv_bipush (v := 20) hx hb dX5_init_77 (by decide) ?_
  refine k_newa (atype := .boolean) (ty := .boolean) (t0 := 2) (N' := 20) (a0 := (20, .inl (fun _ => 0))) hM hE hX rfl rfl k_1143 (fun _ => rfl) (by decide) rfl (by decide) (by decide) (by decide) dX5_init_79 (fun q10 H hq hX => ?_)
  obtain ⟨F, hX, hI⟩ : ∃ F9 : kF, kX γ _ s _ F9 H _ ∧ IniM γ _ F9 o _ _ := ⟨_, hX, hI.new 11 hq⟩
  refine k_put hM hE hX hI.1 hI.2.1 rfl 11 (by decide) inX5 tyX5 tyX5_ok nmX5 k_1078 (fun _ h => h) (Or.inr ⟨hin rfl, rfl⟩) rfl rfl (Nat.le_of_ble_eq_true rfl) dX5_init_81 (fun H locs hX => ?_)
  obtain ⟨F, hX, hI⟩ : ∃ F9 : kF, kX γ _ s _ F9 H locs ∧ IniM γ _ F9 o [.int 0, .ref q1, .int 0, .ref q2, .ref q3, .ref q4, .ref q5, .ref q6, .ref q7, .ref q8, .ref q9, .ref q10, .null, .null, .null, .null, .null, .null, .int 0, .null, .null, .null, .int 0, .null, .int 0] _ := ⟨_, hX, hI.put [.int 0, .ref q1, .int 0, .ref q2, .ref q3, .ref q4, .ref q5, .ref q6, .ref q7, .ref q8, .ref q9, .ref q10, .null, .null, .null, .null, .null, .null, .int 0, .null, .null, .null, .int 0, .null, .int 0]⟩
  refine lv_aload_n hx hb dX5_init_84 rfl (lv_at hl 0 rfl) ?_
  refine lv_bipush (v := 20) hx hb dX5_init_85 (by decide) ?_
  refine k_newa (atype := .int) (ty := .int) (t0 := 1) (N' := 20) (a0 := (20, .inl (fun _ => 0))) hM hE hX rfl rfl k_97 (fun _ => rfl) (by decide) rfl (by decide) (by decide) (by decide) dX5_init_87 (fun q11 H hq hX => ?_)
  obtain ⟨F, hX, hI⟩ : ∃ F9 : kF, kX γ _ s _ F9 H _ ∧ IniM γ _ F9 o _ _ := ⟨_, hX, hI.new 12 hq⟩
  refine k_put hM hE hX hI.1 hI.2.1 rfl 12 (by decide) inX5 tyX5 tyX5_ok nmX5 k_1079 (fun _ h => h) (Or.inr ⟨hin rfl, rfl⟩) rfl rfl (Nat.le_of_ble_eq_true rfl) dX5_init_89 (fun H locs hX => ?_)
  obtain ⟨F, hX, hI⟩ : ∃ F9 : kF, kX γ _ s _ F9 H locs ∧ IniM γ _ F9 o [.int 0, .ref q1, .int 0, .ref q2, .ref q3, .ref q4, .ref q5, .ref q6, .ref q7, .ref q8, .ref q9, .ref q10, .ref q11, .null, .null, .null, .null, .null, .int 0, .null, .null, .null, .int 0, .null, .int 0] _ := ⟨_, hX, hI.put [.int 0, .ref q1, .int 0, .ref q2, .ref q3, .ref q4, .ref q5, .ref q6, .ref q7, .ref q8, .ref q9, .ref q10, .ref q11, .null, .null, .null, .null, .null, .int 0, .null, .null, .null, .int 0, .null, .int 0]⟩
  refine lv_aload_n hx hb dX5_init_92 rfl (lv_at hl 0 rfl) ?_
  refine lv_bipush (v := 20) hx hb dX5_init_93 (by decide) ?_
  refine k_newa (atype := .int) (ty := .int) (t0 := 1) (N' := 20) (a0 := (20, .inl (fun _ => 0))) hM hE hX rfl rfl k_97 (fun _ => rfl) (by decide) rfl (by decide) (by decide) (by decide) dX5_init_95 (fun q12 H hq hX => ?_)
  obtain ⟨F, hX, hI⟩ : ∃ F9 : kF, kX γ _ s _ F9 H _ ∧ IniM γ _ F9 o _ _ := ⟨_, hX, hI.new 13 hq⟩
  refine k_put hM hE hX hI.1 hI.2.1 rfl 13 (by decide) inX5 tyX5 tyX5_ok nmX5 k_1080 (fun _ h => h) (Or.inr ⟨hin rfl, rfl⟩) rfl rfl (Nat.le_of_ble_eq_true rfl) dX5_init_97 (fun H locs hX => ?_)
  obtain ⟨F, hX, hI⟩ : ∃ F9 : kF, kX γ _ s _ F9 H locs ∧ IniM γ _ F9 o [.int 0, .ref q1, .int 0, .ref q2, .ref q3, .ref q4, .ref q5, .ref q6, .ref q7, .ref q8, .ref q9, .ref q10, .ref q11, .ref q12, .null, .null, .null, .null, .int 0, .null, .null, .null, .int 0, .null, .int 0] _ := ⟨_, hX, hI.put [.int 0, .ref q1, .int 0, .ref q2, .ref q3, .ref q4, .ref q5, .ref q6, .ref q7, .ref q8, .ref q9, .ref q10, .ref q11, .ref q12, .null, .null, .null, .null, .int 0, .null, .null, .null, .int 0, .null, .int 0]⟩
  refine lv_aload_n hx hb dX5_init_100 rfl (lv_at hl 0 rfl) ?_
  refine lv_bipush (v := 60) hx hb dX5_init_101 (by decide) ?_
  refine k_newa (atype := .int) (ty := .int) (t0 := 1) (N' := 60) (a0 := (60, .inl (fun _ => 0))) hM hE hX rfl rfl k_97 (fun _ => rfl) (by decide) rfl (by decide) (by decide) (by decide) dX5_init_103 (fun q13 H hq hX => ?_)
  obtain ⟨F, hX, hI⟩ : ∃ F9 : kF, kX γ _ s _ F9 H _ ∧ IniM γ _ F9 o _ _ := ⟨_, hX, hI.new 14 hq⟩
  refine k_put hM hE hX hI.1 hI.2.1 rfl 14 (by decide) inX5 tyX5 tyX5_ok nmX5 k_1081 (fun _ h => h) (Or.inr ⟨hin rfl, rfl⟩) rfl rfl (Nat.le_of_ble_eq_true rfl) dX5_init_105 (fun H locs hX => ?_)
  obtain ⟨F, hX, hI⟩ : ∃ F9 : kF, kX γ _ s _ F9 H locs ∧ IniM γ _ F9 o [.int 0, .ref q1, .int 0, .ref q2, .ref q3, .ref q4, .ref q5, .ref q6, .ref q7, .ref q8, .ref q9, .ref q10, .ref q11, .ref q12, .ref q13, .null, .null, .null, .int 0, .null, .null, .null, .int 0, .null, .int 0] _ := ⟨_, hX, hI.put [.int 0, .ref q1, .int 0, .ref q2, .ref q3, .ref q4, .ref q5, .ref q6, .ref q7, .ref q8, .ref q9, .ref q10, .ref q11, .ref q12, .ref q13, .null, .null, .null, .int 0, .null, .null, .null, .int 0, .null, .int 0]⟩
  refine lv_aload_n hx hb dX5_init_108 rfl (lv_at hl 0 rfl) ?_
  refine lv_bipush (v := 60) hx hb dX5_init_109 (by decide) ?_
  refine k_newa (atype := .int) (ty := .int) (t0 := 1) (N' := 60) (a0 := (60, .inl (fun _ => 0))) hM hE hX rfl rfl k_97 (fun _ => rfl) (by decide) rfl (by decide) (by decide) (by decide) dX5_init_111 (fun q14 H hq hX => ?_)
  obtain ⟨F, hX, hI⟩ : ∃ F9 : kF, kX γ _ s _ F9 H _ ∧ IniM γ _ F9 o _ _ := ⟨_, hX, hI.new 15 hq⟩
  refine k_put hM hE hX hI.1 hI.2.1 rfl 15 (by decide) inX5 tyX5 tyX5_ok nmX5 k_1082 (fun _ h => h) (Or.inr ⟨hin rfl, rfl⟩) rfl rfl (Nat.le_of_ble_eq_true rfl) dX5_init_113 (fun H locs hX => ?_)
  obtain ⟨F, hX, hI⟩ : ∃ F9 : kF, kX γ _ s _ F9 H locs ∧ IniM γ _ F9 o [.int 0, .ref q1, .int 0, .ref q2, .ref q3, .ref q4, .ref q5, .ref q6, .ref q7, .ref q8, .ref q9, .ref q10, .ref q11, .ref q12, .ref q13, .ref q14, .null, .null, .int 0, .null, .null, .null, .int 0, .null, .int 0] _ := ⟨_, hX, hI.put [.int 0, .ref q1, .int 0, .ref q2, .ref q3, .ref q4, .ref q5, .ref q6, .ref q7, .ref q8, .ref q9, .ref q10, .ref q11, .ref q12, .ref q13, .ref q14, .null, .null, .int 0, .null, .null, .null, .int 0, .null, .int 0]⟩
  refine lv_aload_n hx hb dX5_init_116 rfl (lv_at hl 0 rfl) ?_
  refine lv_bipush (v := 60) hx hb dX5_init_117 (by decide) ?_
  refine k_newa (atype := .int) (ty := .int) (t0 := 1) (N' := 60) (a0 := (60, .inl (fun _ => 0))) hM hE hX rfl rfl k_97 (fun _ => rfl) (by decide) rfl (by decide) (by decide) (by decide) dX5_init_119 (fun q15 H hq hX => ?_)
  obtain ⟨F, hX, hI⟩ : ∃ F9 : kF, kX γ _ s _ F9 H _ ∧ IniM γ _ F9 o _ _ := ⟨_, hX, hI.new 16 hq⟩
  refine k_put hM hE hX hI.1 hI.2.1 rfl 16 (by decide) inX5 tyX5 tyX5_ok nmX5 k_1083 (fun _ h => h) (Or.inr ⟨hin rfl, rfl⟩) rfl rfl (Nat.le_of_ble_eq_true rfl) dX5_init_121 (fun H locs hX => ?_)
  obtain ⟨F, hX, hI⟩ : ∃ F9 : kF, kX γ _ s _ F9 H locs ∧ IniM γ _ F9 o [.int 0, .ref q1, .int 0, .ref q2, .ref q3, .ref q4, .ref q5, .ref q6, .ref q7, .ref q8, .ref q9, .ref q10, .ref q11, .ref q12, .ref q13, .ref q14, .ref q15, .null, .int 0, .null, .null, .null, .int 0, .null, .int 0] _ := ⟨_, hX, hI.put [.int 0, .ref q1, .int 0, .ref q2, .ref q3, .ref q4, .ref q5, .ref q6, .ref q7, .ref q8, .ref q9, .ref q10, .ref q11, .ref q12, .ref q13, .ref q14, .ref q15, .null, .int 0, .null, .null, .null, .int 0, .null, .int 0]⟩
  refine lv_aload_n hx hb dX5_init_124 rfl (lv_at hl 0 rfl) ?_
  refine lv_bipush (v := 60) hx hb dX5_init_125 (by decide) ?_
  refine k_newa (atype := .boolean) (ty := .boolean) (t0 := 2) (N' := 60) (a0 := (60, .inl (fun _ => 0))) hM hE hX rfl rfl k_1143 (fun _ => rfl) (by decide) rfl (by decide) (by decide) (by decide) dX5_init_127 (fun q16 H hq hX => ?_)
  obtain ⟨F, hX, hI⟩ : ∃ F9 : kF, kX γ _ s _ F9 H _ ∧ IniM γ _ F9 o _ _ := ⟨_, hX, hI.new 17 hq⟩
  refine k_put hM hE hX hI.1 hI.2.1 rfl 17 (by decide) inX5 tyX5 tyX5_ok nmX5 k_1084 (fun _ h => h) (Or.inr ⟨hin rfl, rfl⟩) rfl rfl (Nat.le_of_ble_eq_true rfl) dX5_init_129 (fun H locs hX => ?_)
  obtain ⟨F, hX, hI⟩ : ∃ F9 : kF, kX γ _ s _ F9 H locs ∧ IniM γ _ F9 o [.int 0, .ref q1, .int 0, .ref q2, .ref q3, .ref q4, .ref q5, .ref q6, .ref q7, .ref q8, .ref q9, .ref q10, .ref q11, .ref q12, .ref q13, .ref q14, .ref q15, .ref q16, .int 0, .null, .null, .null, .int 0, .null, .int 0] _ := ⟨_, hX, hI.put [.int 0, .ref q1, .int 0, .ref q2, .ref q3, .ref q4, .ref q5, .ref q6, .ref q7, .ref q8, .ref q9, .ref q10, .ref q11, .ref q12, .ref q13, .ref q14, .ref q15, .ref q16, .int 0, .null, .null, .null, .int 0, .null, .int 0]⟩
  refine lv_aload_n hx hb dX5_init_132 rfl (lv_at hl 0 rfl) ?_
  refine lv_bipush (v := 24) hx hb dX5_init_133 (by decide) ?_
  refine k_newa (atype := .int) (ty := .int) (t0 := 1) (N' := 24) (a0 := (24, .inl (fun _ => 0))) hM hE hX rfl rfl k_97 (fun _ => rfl) (by decide) rfl (by decide) (by decide) (by decide) dX5_init_135 (fun q17 H hq hX => ?_)
  obtain ⟨F, hX, hI⟩ : ∃ F9 : kF, kX γ _ s _ F9 H _ ∧ IniM γ _ F9 o _ _ := ⟨_, hX, hI.new 19 hq⟩
  refine k_put hM hE hX hI.1 hI.2.1 rfl 19 (by decide) inX5 tyX5 tyX5_ok nmX5 k_1086 (fun _ h => h) (Or.inr ⟨hin rfl, rfl⟩) rfl rfl (Nat.le_of_ble_eq_true rfl) dX5_init_137 (fun H locs hX => ?_)
  obtain ⟨F, hX, hI⟩ : ∃ F9 : kF, kX γ _ s _ F9 H locs ∧ IniM γ _ F9 o [.int 0, .ref q1, .int 0, .ref q2, .ref q3, .ref q4, .ref q5, .ref q6, .ref q7, .ref q8, .ref q9, .ref q10, .ref q11, .ref q12, .ref q13, .ref q14, .ref q15, .ref q16, .int 0, .ref q17, .null, .null, .int 0, .null, .int 0] _ := ⟨_, hX, hI.put [.int 0, .ref q1, .int 0, .ref q2, .ref q3, .ref q4, .ref q5, .ref q6, .ref q7, .ref q8, .ref q9, .ref q10, .ref q11, .ref q12, .ref q13, .ref q14, .ref q15, .ref q16, .int 0, .ref q17, .null, .null, .int 0, .null, .int 0]⟩
  refine lv_aload_n hx hb dX5_init_140 rfl (lv_at hl 0 rfl) ?_
  refine lv_bipush (v := 24) hx hb dX5_init_141 (by decide) ?_
  refine k_newa (atype := .int) (ty := .int) (t0 := 1) (N' := 24) (a0 := (24, .inl (fun _ => 0))) hM hE hX rfl rfl k_97 (fun _ => rfl) (by decide) rfl (by decide) (by decide) (by decide) dX5_init_143 (fun q18 H hq hX => ?_)
  obtain ⟨F, hX, hI⟩ : ∃ F9 : kF, kX γ _ s _ F9 H _ ∧ IniM γ _ F9 o _ _ := ⟨_, hX, hI.new 20 hq⟩
  refine k_put hM hE hX hI.1 hI.2.1 rfl 20 (by decide) inX5 tyX5 tyX5_ok nmX5 k_1087 (fun _ h => h) (Or.inr ⟨hin rfl, rfl⟩) rfl rfl (Nat.le_of_ble_eq_true rfl) dX5_init_145 (fun H locs hX => ?_)
  obtain ⟨F, hX, hI⟩ : ∃ F9 : kF, kX γ _ s _ F9 H locs ∧ IniM γ _ F9 o [.int 0, .ref q1, .int 0, .ref q2, .ref q3, .ref q4, .ref q5, .ref q6, .ref q7, .ref q8, .ref q9, .ref q10, .ref q11, .ref q12, .ref q13, .ref q14, .ref q15, .ref q16, .int 0, .ref q17, .ref q18, .null, .int 0, .null, .int 0] _ := ⟨_, hX, hI.put [.int 0, .ref q1, .int 0, .ref q2, .ref q3, .ref q4, .ref q5, .ref q6, .ref q7, .ref q8, .ref q9, .ref q10, .ref q11, .ref q12, .ref q13, .ref q14, .ref q15, .ref q16, .int 0, .ref q17, .ref q18, .null, .int 0, .null, .int 0]⟩
  refine lv_aload_n hx hb dX5_init_148 rfl (lv_at hl 0 rfl) ?_
  refine lv_bipush (v := 24) hx hb dX5_init_149 (by decide) ?_
  refine k_newa (atype := .int) (ty := .int) (t0 := 1) (N' := 24) (a0 := (24, .inl (fun _ => 0))) hM hE hX rfl rfl k_97 (fun _ => rfl) (by decide) rfl (by decide) (by decide) (by decide) dX5_init_151 (fun q19 H hq hX => ?_)
  obtain ⟨F, hX, hI⟩ : ∃ F9 : kF, kX γ _ s _ F9 H _ ∧ IniM γ _ F9 o _ _ := ⟨_, hX, hI.new 21 hq⟩
  refine k_put hM hE hX hI.1 hI.2.1 rfl 21 (by decide) inX5 tyX5 tyX5_ok nmX5 k_1088 (fun _ h => h) (Or.inr ⟨hin rfl, rfl⟩) rfl rfl (Nat.le_of_ble_eq_true rfl) dX5_init_153 (fun H locs hX => ?_)
  obtain ⟨F, hX, hI⟩ : ∃ F9 : kF, kX γ _ s _ F9 H locs ∧ IniM γ _ F9 o [.int 0, .ref q1, .int 0, .ref q2, .ref q3, .ref q4, .ref q5, .ref q6, .ref q7, .ref q8, .ref q9, .ref q10, .ref q11, .ref q12, .ref q13, .ref q14, .ref q15, .ref q16, .int 0, .ref q17, .ref q18, .ref q19, .int 0, .null, .int 0] _ := ⟨_, hX, hI.put [.int 0, .ref q1, .int 0, .ref q2, .ref q3, .ref q4, .ref q5, .ref q6, .ref q7, .ref q8, .ref q9, .ref q10, .ref q11, .ref q12, .ref q13, .ref q14, .ref q15, .ref q16, .int 0, .ref q17, .ref q18, .ref q19, .int 0, .null, .int 0]⟩
  refine lv_aload_n hx hb dX5_init_156 rfl (lv_at hl 0 rfl) ?_
  refine lv_bipush (v := 10) hx hb dX5_init_157 (by decide) ?_
  refine k_newa (atype := .int) (ty := .int) (t0 := 1) (N' := 10) (a0 := (10, .inl (fun _ => 0))) hM hE hX rfl rfl k_97 (fun _ => rfl) (by decide) rfl (by decide) (by decide) (by decide) dX5_init_159 (fun q20 H hq hX => ?_)
  obtain ⟨F, hX, hI⟩ : ∃ F9 : kF, kX γ _ s _ F9 H _ ∧ IniM γ _ F9 o _ _ := ⟨_, hX, hI.new 23 hq⟩
  refine k_put hM hE hX hI.1 hI.2.1 rfl 23 (by decide) inX5 tyX5 tyX5_ok nmX5 k_1090 (fun _ h => h) (Or.inr ⟨hin rfl, rfl⟩) rfl rfl (Nat.le_of_ble_eq_true rfl) dX5_init_161 (fun H locs hX => ?_)
  obtain ⟨F, hX, hI⟩ : ∃ F9 : kF, kX γ _ s _ F9 H locs ∧ IniM γ _ F9 o [.int 0, .ref q1, .int 0, .ref q2, .ref q3, .ref q4, .ref q5, .ref q6, .ref q7, .ref q8, .ref q9, .ref q10, .ref q11, .ref q12, .ref q13, .ref q14, .ref q15, .ref q16, .int 0, .ref q17, .ref q18, .ref q19, .int 0, .ref q20, .int 0] _ := ⟨_, hX, hI.put [.int 0, .ref q1, .int 0, .ref q2, .ref q3, .ref q4, .ref q5, .ref q6, .ref q7, .ref q8, .ref q9, .ref q10, .ref q11, .ref q12, .ref q13, .ref q14, .ref q15, .ref q16, .int 0, .ref q17, .ref q18, .ref q19, .int 0, .ref q20, .int 0]⟩
  exact k_vret hM hsz hX ⟨rfl, _, IniM.rep (qs := [(23, q20), (21, q19), (20, q18), (19, q17), (17, q16), (16, q15), (15, q14), (14, q13), (13, q12), (12, q11), (11, q10), (10, q9), (9, q8), (8, q7), (7, q6), (6, q5), (5, q4), (4, q3), (3, q2), (1, q1)]) hI (fun k hk ha => by show k ∈ [23, 21, 20, 19, 17, 16, 15, 14, 13, 12, 11, 10, 9, 8, 7, 6, 5, 4, 3, 1]; revert ha; revert hk; revert k; decide)⟩ (by decide) (by decide) dX5_init_164
