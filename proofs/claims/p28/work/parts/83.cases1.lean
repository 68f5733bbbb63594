/-! the drawn loop, case by case -/
section LC
variable {p : Program} {l : Launch} {e : Env} {s : State} {m : MethodId} {args : Array Value} {below : List Frame} {meth : Method} {c : Code} {H : Heap} {locs : List Loc} {cells slots : Nat} {Q : State → Prop}
variable {ret : Option FieldType} {γ : kG} {A : Nat → Prop} {L : List Nat} {F : kF} {ls : Array Slot} {o n : Nat} {M : mM}
set_option maxHeartbeats 4000000 in
theorem lc_rate {rest : List Value} {i6 : Nat} (hM : kM p s m args meth c cL_law 15 ret "InvoicebridgeLaw") {lv : List (Nat × Value)} (hl : lv_has ls 15 lv) {y : Nat} (hy : y < 2097152) (h6 : ls[6]? = some (.val (.int (nI y))))
    (kq : ∀ r : Int32, (r = 0 ∨ r = 7 ∨ r = 19) → W p l e room_1 s m args below meth c H locs cells slots Q (F0 m 131 ls (.int r :: rest))) : W p l e room_1 s m args below meth c H locs cells slots Q (F0 m 105 ls rest) := by
  have hx := hM.1
  have hb := hM.2.1
  refine lv_iload hx hb dL_law_105 h6 ?_
  refine lv_iconst (v := 3) hx hb dL_law_107 (by decide) ?_
  refine lv_irem hx hb dL_law_108 (by decide) ?_
  by_cases h0 : (nI y - nI y / 3 * 3 : Int32) = 0
  · refine lv_if_ne (tgt := 116) hx hb dL_law_109 (by decide) (fun h9 => absurd h0 h9) (fun _ => ?_)
    refine lv_iconst (v := 0) hx hb dL_law_112 (by decide) ?_
    exact lv_goto (tgt := 131) hx hb dL_law_113 (by decide) (kq 0 (Or.inl rfl))
  · refine lv_if_ne (tgt := 116) hx hb dL_law_109 (by decide) (fun _ => ?_) (fun h9 => absurd h9 h0)
    refine lv_iload hx hb dL_law_116 h6 ?_
    refine lv_iconst (v := 3) hx hb dL_law_118 (by decide) ?_
    refine lv_irem hx hb dL_law_119 (by decide) ?_
    refine lv_iconst (v := 1) hx hb dL_law_120 (by decide) ?_
    by_cases h1 : (nI y - nI y / 3 * 3 : Int32) = 1
    · refine lv_icmp_ne (tgt := 129) hx hb dL_law_121 (by decide) (fun h9 => absurd h1 h9) (fun _ => ?_)
      refine lv_bipush (v := 7) hx hb dL_law_124 (by decide) ?_
      exact lv_goto (tgt := 131) hx hb dL_law_126 (by decide) (kq 7 (Or.inr (Or.inl rfl)))
    · refine lv_icmp_ne (tgt := 129) hx hb dL_law_121 (by decide) (fun _ => ?_) (fun h9 => absurd h9 h1)
      refine lv_bipush (v := 19) hx hb dL_law_129 (by decide) ?_
      exact kq 19 (Or.inr (Or.inr rfl))
set_option maxHeartbeats 8000000 in
set_option maxRecDepth 100000 in
theorem lc_send (hfl : l.stackTraces = false) (hM : kM p s m args meth c cL_law 15 ret "InvoicebridgeLaw") (hE : kE γ A s) (hX : kX γ A s L F H locs) (hO : Ob γ o M n L F) (hT : Xt M) (hn : n + 8 < 512) {b k y z : Nat} (hy : y < 2097152) (hz9 : z < 2097152) (hc : cells + 120 ≤ 600086) (hs : slots + 4700 ≤ 7301442) (hl : lv_has ls 15 [(7, .int (nI z)), (6, .int (nI y)), (3, .int (nI k)), (2, .int (nI (nn M))), (1, .ref o), (0, .ref b)])
    (kq : ∀ (M : mM) (L : List Nat) (F : kF) (H : Heap) (locs : List Loc) (ls : Array Slot), kX γ A s L F H locs → Ob γ o M (n + 7) L F → Xt M → lv_has ls 15 [(3, .int (nI k)), (2, .int (nI (nn M))), (1, .ref o), (0, .ref b)] → W p l e room_1 s m args below meth c H locs (cells + 50) (slots + 4150) Q (F0 m 910 ls [])) : W p l e room_1 s m args below meth c H locs cells slots Q (F0 m 80 ls []) := by
  have hx := hM.1
  have hb := hM.2.1
  obtain ⟨nd, D, hI⟩ := hO.inv
  have hn20 := hI.1.2
  refine lv_aload_n hx hb dL_law_80 rfl (lv_at hl 4 rfl) ?_
  refine lv_iconst (v := 0) hx hb dL_law_81 (by decide) ?_
  refine lv_iload hx hb dL_law_82 (lv_at hl 1 rfl) ?_
  refine lv_bipush (v := 6) hx hb dL_law_84 (by decide) ?_
  refine lv_irem hx hb dL_law_86 (by decide) ?_
  refine lv_is (y := (nI (y % 6))) (pk_rem (a := y) (d := 6) (by omega) (by decide) (by decide)) ?_
  refine lv_iload hx hb dL_law_87 (lv_at hl 0 rfl) ?_
  refine lv_bipush (v := 6) hx hb dL_law_89 (by decide) ?_
  refine lv_irem hx hb dL_law_91 (by decide) ?_
  refine lv_is (y := (nI (z % 6))) (pk_rem (a := z) (d := 6) (by omega) (by decide) (by decide)) ?_
  refine lv_iload hx hb dL_law_92 (lv_at hl 1 rfl) ?_
  refine lv_bipush (v := 8) hx hb dL_law_94 (by decide) ?_
  refine lv_irem hx hb dL_law_96 (by decide) ?_
  refine lv_is (y := (nI (y % 8))) (pk_rem (a := y) (d := 8) (by omega) (by decide) (by decide)) ?_
  refine lv_iconst (v := 1) hx hb dL_law_97 (by decide) ?_
  refine lv_iload hx hb dL_law_98 (lv_at hl 0 rfl) ?_
  refine lv_sipush (v := 999) hx hb dL_law_100 (by decide) ?_
  refine lv_irem hx hb dL_law_103 (by decide) ?_
  refine lv_is (y := (nI (z % 999))) (pk_rem (a := z) (d := 999) (by omega) (by decide) (by decide)) ?_
  refine lv_iadd hx hb dL_law_104 ?_
  refine lv_is (y := (nI (1 + (z % 999)))) (nI_add 1 (z % 999)) ?_
  refine lc_rate (i6 := 0) hM hl hy (lv_at hl 1 rfl) (fun r hr => ?_)
  by_cases h1 : y % 6 = z % 6
  · refine A_no_0 (q := 2) (v := (-7000002)) hfl hM hE hX hO hl (by simp) (x_sendE (a := y % 6) (b := z % 6) (g := y % 8) (x := 1 + z % 999) (Nat.mod_lt _ (by decide)) (Nat.mod_lt _ (by decide)) (Nat.mod_lt _ (by decide)) (by omega) hr h1) (by decide) (by decide) ⟨by show cells + 20 ≤ 600086; omega, by show slots + 3000 ≤ 7301442; omega⟩ dL_law_131 (fun L F H locs hX hO => ?_)
    refine lv_istore (lv' := [(8, .int (-7000002)), (7, .int (nI z)), (6, .int (nI y)), (3, .int (nI k)), (2, .int (nI (nn M))), (1, .ref o), (0, .ref b)]) hx hb dL_law_134 hl (by decide) rfl (fun ls hl => ?_)
    refine lv_iload hx hb dL_law_136 (lv_at hl 0 rfl) ?_
    refine lv_iload hx hb dL_law_138 (lv_at hl 2 rfl) ?_
    refine lv_bipush (v := 6) hx hb dL_law_140 (by decide) ?_
    refine lv_irem hx hb dL_law_142 (by decide) ?_
    refine lv_is (y := (nI (y % 6))) (pk_rem (a := y) (d := 6) (by omega) (by decide) (by decide)) ?_
    refine lv_iload hx hb dL_law_143 (lv_at hl 1 rfl) ?_
    refine lv_bipush (v := 6) hx hb dL_law_145 (by decide) ?_
    refine lv_irem hx hb dL_law_147 (by decide) ?_
    refine lv_is (y := (nI (z % 6))) (pk_rem (a := z) (d := 6) (by omega) (by decide) (by decide)) ?_
    refine lv_icmp_ne (tgt := 156) hx hb dL_law_148 (by decide) (fun h9 => absurd (show ((nI (y % 6)) : Int32) = (nI (z % 6)) from congrArg nI h1) h9) (fun _ => ?_)
    refine lv_ldc hx hb hM.2.2.2.1 (hM.2.2.2.2.1 _ k_989) dL_law_151 ?_
    refine lv_goto (tgt := 168) hx hb dL_law_153 (by decide) ?_
    refine lv_icmp_eq (tgt := 173) hx hb dL_law_168 (by decide) (fun _ => ?_) (fun h9 => absurd (show ((-7000002) : Int32) = (-7000002) from (by decide)) h9)
    refine lv_iload_n hx hb dL_law_173 rfl (lv_at hl 4 rfl) ?_
    refine lv_iload hx hb dL_law_174 (lv_at hl 0 rfl) ?_
    refine lv_if_ge (tgt := 183) hx hb dL_law_176 (by decide) (fun h9 => absurd h9 (show ¬ (0 : Int32) ≤ (-7000002) from (by decide))) (fun _ => ?_)
    refine lv_iconst (v := 0) hx hb dL_law_179 (by decide) ?_
    refine lv_goto (tgt := 184) hx hb dL_law_180 (by decide) ?_
    refine lv_iadd hx hb dL_law_184 ?_
    refine lv_is (y := (nI ((nn M) + 0))) (nI_add (nn M) 0) ?_
    refine lv_is (y := (nI (nn M))) (by rw [Nat.add_zero]) ?_
    refine lv_istore_n (lv' := [(2, .int (nI (nn M))), (8, .int (-7000002)), (7, .int (nI z)), (6, .int (nI y)), (3, .int (nI k)), (1, .ref o), (0, .ref b)]) hx hb dL_law_185 rfl hl (by decide) rfl (fun ls hl => ?_)
    refine lv_goto (tgt := 910) hx hb dL_law_186 (by decide) ?_
    exact W.widen (k := cells + 50) (n := slots + 4150) (by omega) (by omega) (kq M L F H locs ls hX (hO.up (by omega)) hT (lv_sub hl [4, 0, 5, 6] rfl))
  · by_cases h20 : nn M < 20
    · obtain ⟨M1, h, h0, hT1, hn1⟩ := x_send (a := y % 6) (b := z % 6) (g := y % 8) (x := 1 + z % 999) hI hT hO.z (Nat.mod_lt _ (by decide)) (Nat.mod_lt _ (by decide)) (Nat.mod_lt _ (by decide)) (by omega) hr h1 h20
      refine A_ok_0 hfl hM hE hX hO hl h h0 (by decide) (by decide) ⟨by show cells + 20 ≤ 600086; omega, by show slots + 3000 ≤ 7301442; omega⟩ dL_law_131 (fun L F H locs hX hO => ?_)
      refine lv_istore (lv' := [(8, .int (nI (nn M))), (7, .int (nI z)), (6, .int (nI y)), (3, .int (nI k)), (2, .int (nI (nn M))), (1, .ref o), (0, .ref b)]) hx hb dL_law_134 hl (by decide) rfl (fun ls hl => ?_)
      refine lv_iload hx hb dL_law_136 (lv_at hl 0 rfl) ?_
      refine lv_iload hx hb dL_law_138 (lv_at hl 2 rfl) ?_
      refine lv_bipush (v := 6) hx hb dL_law_140 (by decide) ?_
      refine lv_irem hx hb dL_law_142 (by decide) ?_
      refine lv_is (y := (nI (y % 6))) (pk_rem (a := y) (d := 6) (by omega) (by decide) (by decide)) ?_
      refine lv_iload hx hb dL_law_143 (lv_at hl 1 rfl) ?_
      refine lv_bipush (v := 6) hx hb dL_law_145 (by decide) ?_
      refine lv_irem hx hb dL_law_147 (by decide) ?_
      refine lv_is (y := (nI (z % 6))) (pk_rem (a := z) (d := 6) (by omega) (by decide) (by decide)) ?_
      refine lv_icmp_ne (tgt := 156) hx hb dL_law_148 (by decide) (fun _ => ?_) (fun h9 => absurd h9 (show ¬ ((nI (y % 6)) : Int32) = (nI (z % 6)) from fun h9 => h1 ((nI_eq (by omega) (by omega)).mp h9)))
      refine lv_iload_n hx hb dL_law_156 rfl (lv_at hl 4 rfl) ?_
      refine lv_bipush (v := 20) hx hb dL_law_157 (by decide) ?_
      refine lv_icmp_ge (tgt := 166) hx hb dL_law_159 (by decide) (fun h9 => absurd h9 (show ¬ (20 : Int32) ≤ (nI (nn M)) from nI_ge (a := nn M) (b := 20) h20 (by decide))) (fun _ => ?_)
      refine lv_iload_n hx hb dL_law_162 rfl (lv_at hl 4 rfl) ?_
      refine lv_goto (tgt := 168) hx hb dL_law_163 (by decide) ?_
      refine lv_icmp_eq (tgt := 173) hx hb dL_law_168 (by decide) (fun _ => ?_) (fun h9 => absurd (show ((nI (nn M)) : Int32) = (nI (nn M)) from rfl) h9)
      refine lv_iload_n hx hb dL_law_173 rfl (lv_at hl 4 rfl) ?_
      refine lv_iload hx hb dL_law_174 (lv_at hl 0 rfl) ?_
      refine lv_if_ge (tgt := 183) hx hb dL_law_176 (by decide) (fun _ => ?_) (fun h9 => absurd (show (0 : Int32) ≤ (nI (nn M)) from nI_pos' (by omega)) h9)
      refine lv_iconst (v := 1) hx hb dL_law_183 (by decide) ?_
      refine lv_iadd hx hb dL_law_184 ?_
      refine lv_is (y := (nI ((nn M) + 1))) (nI_add (nn M) 1) ?_
      have hnn : nn M1 = nn M + 1 := by unfold nn; rw [hn1]; exact nI_clamp (by omega)
      refine lv_is (y := (nI (nn M1))) (by rw [hnn]) ?_
      refine lv_istore_n (lv' := [(2, .int (nI (nn M1))), (8, .int (nI (nn M))), (7, .int (nI z)), (6, .int (nI y)), (3, .int (nI k)), (1, .ref o), (0, .ref b)]) hx hb dL_law_185 rfl hl (by decide) rfl (fun ls hl => ?_)
      refine lv_goto (tgt := 910) hx hb dL_law_186 (by decide) ?_
      exact W.widen (k := cells + 50) (n := slots + 4150) (by omega) (by omega) (kq M1 L F H locs ls hX (hO.up (by omega)) hT1 (lv_sub hl [4, 0, 5, 6] rfl))
    · refine A_no_0 (q := 3) (v := (-7000003)) hfl hM hE hX hO hl (by simp) (x_sendF (a := y % 6) (b := z % 6) (g := y % 8) (x := 1 + z % 999) hI (Nat.mod_lt _ (by decide)) (Nat.mod_lt _ (by decide)) (Nat.mod_lt _ (by decide)) (by omega) hr h1 h20) (by decide) (by decide) ⟨by show cells + 20 ≤ 600086; omega, by show slots + 3000 ≤ 7301442; omega⟩ dL_law_131 (fun L F H locs hX hO => ?_)
      refine lv_istore (lv' := [(8, .int (-7000003)), (7, .int (nI z)), (6, .int (nI y)), (3, .int (nI k)), (2, .int (nI (nn M))), (1, .ref o), (0, .ref b)]) hx hb dL_law_134 hl (by decide) rfl (fun ls hl => ?_)
      refine lv_iload hx hb dL_law_136 (lv_at hl 0 rfl) ?_
      refine lv_iload hx hb dL_law_138 (lv_at hl 2 rfl) ?_
      refine lv_bipush (v := 6) hx hb dL_law_140 (by decide) ?_
      refine lv_irem hx hb dL_law_142 (by decide) ?_
      refine lv_is (y := (nI (y % 6))) (pk_rem (a := y) (d := 6) (by omega) (by decide) (by decide)) ?_
      refine lv_iload hx hb dL_law_143 (lv_at hl 1 rfl) ?_
      refine lv_bipush (v := 6) hx hb dL_law_145 (by decide) ?_
      refine lv_irem hx hb dL_law_147 (by decide) ?_
      refine lv_is (y := (nI (z % 6))) (pk_rem (a := z) (d := 6) (by omega) (by decide) (by decide)) ?_
      refine lv_icmp_ne (tgt := 156) hx hb dL_law_148 (by decide) (fun _ => ?_) (fun h9 => absurd h9 (show ¬ ((nI (y % 6)) : Int32) = (nI (z % 6)) from fun h9 => h1 ((nI_eq (by omega) (by omega)).mp h9)))
      refine lv_iload_n hx hb dL_law_156 rfl (lv_at hl 4 rfl) ?_
      refine lv_bipush (v := 20) hx hb dL_law_157 (by decide) ?_
      refine lv_icmp_ge (tgt := 166) hx hb dL_law_159 (by decide) (fun _ => ?_) (fun h9 => absurd (show (20 : Int32) ≤ (nI (nn M)) from nI_le (a := 20) (b := nn M) (by omega) (by omega)) h9)
      refine lv_ldc hx hb hM.2.2.2.1 (hM.2.2.2.2.1 _ k_990) dL_law_166 ?_
      refine lv_icmp_eq (tgt := 173) hx hb dL_law_168 (by decide) (fun _ => ?_) (fun h9 => absurd (show ((-7000003) : Int32) = (-7000003) from (by decide)) h9)
      refine lv_iload_n hx hb dL_law_173 rfl (lv_at hl 4 rfl) ?_
      refine lv_iload hx hb dL_law_174 (lv_at hl 0 rfl) ?_
      refine lv_if_ge (tgt := 183) hx hb dL_law_176 (by decide) (fun h9 => absurd h9 (show ¬ (0 : Int32) ≤ (-7000003) from (by decide))) (fun _ => ?_)
      refine lv_iconst (v := 0) hx hb dL_law_179 (by decide) ?_
      refine lv_goto (tgt := 184) hx hb dL_law_180 (by decide) ?_
      refine lv_iadd hx hb dL_law_184 ?_
      refine lv_is (y := (nI ((nn M) + 0))) (nI_add (nn M) 0) ?_
      refine lv_is (y := (nI (nn M))) (by rw [Nat.add_zero]) ?_
      refine lv_istore_n (lv' := [(2, .int (nI (nn M))), (8, .int (-7000003)), (7, .int (nI z)), (6, .int (nI y)), (3, .int (nI k)), (1, .ref o), (0, .ref b)]) hx hb dL_law_185 rfl hl (by decide) rfl (fun ls hl => ?_)
      refine lv_goto (tgt := 910) hx hb dL_law_186 (by decide) ?_
      exact W.widen (k := cells + 50) (n := slots + 4150) (by omega) (by omega) (kq M L F H locs ls hX (hO.up (by omega)) hT (lv_sub hl [4, 0, 5, 6] rfl))
set_option maxHeartbeats 8000000 in
set_option maxRecDepth 100000 in
theorem lc_add (hfl : l.stackTraces = false) (hM : kM p s m args meth c cL_law 15 ret "InvoicebridgeLaw") (hE : kE γ A s) (hX : kX γ A s L F H locs) (hO : Ob γ o M n L F) (hT : Xt M) (hn : n + 8 < 512) {b k y z : Nat} (hy : y < 2097152) (hz9 : z < 2097152) (ht : 0 < nn M) (hc : cells + 120 ≤ 600086) (hs : slots + 4700 ≤ 7301442) (hl : lv_has ls 15 [(7, .int (nI z)), (6, .int (nI y)), (3, .int (nI k)), (2, .int (nI (nn M))), (1, .ref o), (0, .ref b)])
    (kq : ∀ (M : mM) (L : List Nat) (F : kF) (H : Heap) (locs : List Loc) (ls : Array Slot), kX γ A s L F H locs → Ob γ o M (n + 7) L F → Xt M → lv_has ls 15 [(3, .int (nI k)), (2, .int (nI (nn M))), (1, .ref o), (0, .ref b)] → W p l e room_1 s m args below meth c H locs (cells + 50) (slots + 4150) Q (F0 m 910 ls [])) : W p l e room_1 s m args below meth c H locs cells slots Q (F0 m 195 ls []) := by
  have hx := hM.1
  have hb := hM.2.1
  obtain ⟨nd, D, hI⟩ := hO.inv
  have hn20 := hI.1.2
  obtain ⟨i, hi, ei⟩ : ∃ i, i < nn M ∧ y % nn M = i := ⟨_, Nat.mod_lt _ ht, rfl⟩
  refine lv_iload hx hb dL_law_195 (lv_at hl 1 rfl) ?_
  refine lv_iload_n hx hb dL_law_197 rfl (lv_at hl 3 rfl) ?_
  refine lv_irem hx hb dL_law_198 (nI_ne0 ht (by have := hI.1.2; omega)) ?_
  refine lv_is (y := (nI i)) ((pk_rem (a := y) (d := nn M) (by omega) ht (by have := hI.1.2; omega)).trans (congrArg nI ei)) ?_
  refine lv_istore (lv' := [(8, .int (nI i)), (7, .int (nI z)), (6, .int (nI y)), (3, .int (nI k)), (2, .int (nI (nn M))), (1, .ref o), (0, .ref b)]) hx hb dL_law_199 hl (by decide) rfl (fun ls hl => ?_)
  refine lv_aload_n hx hb dL_law_201 rfl (lv_at hl 5 rfl) ?_
  refine lv_iload hx hb dL_law_202 (lv_at hl 0 rfl) ?_
  refine lv_bipush (v := 7) hx hb dL_law_204 (by decide) ?_
  refine O_about hfl hM hE hX hO hl (ab_t hI hO.z hi).2.2.2.2.2.2.1 (ab_t hI hO.z hi).2.2.2.2.2.2.2 (by decide) (Nat.le_of_ble_eq_true rfl) ⟨by show cells + 2 ≤ 600086; omega, by show slots + 12 ≤ 7301442; omega⟩ dL_law_206 (fun L F H locs hX hO => ?_)
  refine lv_istore (lv' := [(9, .int (M 13 i)), (8, .int (nI i)), (7, .int (nI z)), (6, .int (nI y)), (3, .int (nI k)), (2, .int (nI (nn M))), (1, .ref o), (0, .ref b)]) hx hb dL_law_209 hl (by decide) rfl (fun ls hl => ?_)
  refine lv_aload_n hx hb dL_law_211 rfl (lv_at hl 6 rfl) ?_
  refine lv_iconst (v := 1) hx hb dL_law_212 (by decide) ?_
  refine lv_iload hx hb dL_law_213 (lv_at hl 1 rfl) ?_
  refine lv_iconst (v := 1) hx hb dL_law_215 (by decide) ?_
  refine lv_iload hx hb dL_law_216 (lv_at hl 2 rfl) ?_
  refine lv_sipush (v := 500) hx hb dL_law_218 (by decide) ?_
  refine lv_irem hx hb dL_law_221 (by decide) ?_
  refine lv_is (y := (nI (z % 500))) (pk_rem (a := z) (d := 500) (by omega) (by decide) (by decide)) ?_
  refine lv_iadd hx hb dL_law_222 ?_
  refine lv_is (y := (nI (1 + (z % 500)))) (nI_add 1 (z % 500)) ?_
  refine lv_bipush (v := 7) hx hb dL_law_223 (by decide) ?_
  refine lv_iconst (v := 0) hx hb dL_law_225 (by decide) ?_
  refine lv_iconst (v := 0) hx hb dL_law_226 (by decide) ?_
  rcases x_addLine hI hT hi (x := 1 + z % 500) (by omega) with ⟨M1, h, h0, hT1, hn1, h13⟩ | h3
  · refine A_ok_1 hfl hM hE hX hO hl h h0 (by decide) (by decide) ⟨by show cells + 2 + 7 ≤ 600086; omega, by show slots + 12 + 1100 ≤ 7301442; omega⟩ dL_law_227 (fun L F H locs hX hO => ?_)
    obtain ⟨nd1, D1, hI1⟩ := hO.inv
    have hnn : nn M1 = nn M := by unfold nn; rw [hn1]
    have hi1 : i < nn M1 := by rw [hnn]; exact hi
    refine lv_istore (lv' := [(10, .int (M 13 i)), (9, .int (M 13 i)), (8, .int (nI i)), (7, .int (nI z)), (6, .int (nI y)), (3, .int (nI k)), (2, .int (nI (nn M))), (1, .ref o), (0, .ref b)]) hx hb dL_law_230 hl (by decide) rfl (fun ls hl => ?_)
    refine lv_iload hx hb dL_law_232 (lv_at hl 0 rfl) ?_
    refine lv_ldc hx hb hM.2.2.2.1 (hM.2.2.2.2.1 _ k_990) dL_law_234 ?_
    have hne : ¬ M 13 i = -7000003 := fun h9 => by
      have hk := hI.k3 i
      rw [hk.1] at h9
      exact absurd (nI_pos' (n := kk M i) (by omega)) (by rw [h9]; decide)
    refine lv_icmp_eq (tgt := 263) hx hb dL_law_236 (by decide) (fun h9 => absurd h9 (show ¬ ((M 13 i) : Int32) = (-7000003) from hne)) (fun _ => ?_)
    refine lv_iload hx hb dL_law_239 (lv_at hl 0 rfl) ?_
    refine lv_iload hx hb dL_law_241 (lv_at hl 1 rfl) ?_
    refine lv_icmp_ne (tgt := 261) hx hb dL_law_243 (by decide) (fun h9 => absurd (show ((M 13 i) : Int32) = (M 13 i) from rfl) h9) (fun _ => ?_)
    refine lv_aload_n hx hb dL_law_246 rfl (lv_at hl 7 rfl) ?_
    refine lv_iload hx hb dL_law_247 (lv_at hl 2 rfl) ?_
    refine lv_bipush (v := 7) hx hb dL_law_249 (by decide) ?_
    refine O_about hfl hM hE hX hO hl (ab_t hI1 hO.z hi1).2.2.2.2.2.2.1 (ab_t hI1 hO.z hi1).2.2.2.2.2.2.2 (by decide) (Nat.le_of_ble_eq_true rfl) ⟨by show cells + 2 + 7 + 2 ≤ 600086; omega, by show slots + 12 + 1100 + 12 ≤ 7301442; omega⟩ dL_law_251 (fun L F H locs hX hO => ?_)
    refine lv_iload hx hb dL_law_254 (lv_at hl 1 rfl) ?_
    refine lv_iconst (v := 1) hx hb dL_law_256 (by decide) ?_
    refine lv_iadd hx hb dL_law_257 ?_
    refine lv_icmp_eq (tgt := 263) hx hb dL_law_258 (by decide) (fun _ => ?_) (fun h9 => absurd (show ((M1 13 i) : Int32) = ((M 13 i) + 1) from h13) h9)
    refine lv_goto (tgt := 910) hx hb dL_law_263 (by decide) ?_
    exact W.widen (k := cells + 50) (n := slots + 4150) (by omega) (by omega) (kq M1 L F H locs ls hX (hO.up (by omega)) hT1 (by rw [hnn]; exact lv_sub hl [5, 6, 7, 8] rfl))
  · refine A_no_1 (q := 3) (v := (-7000003)) hfl hM hE hX hO hl (by simp) h3 (by decide) (by decide) ⟨by show cells + 2 + 7 ≤ 600086; omega, by show slots + 12 + 1100 ≤ 7301442; omega⟩ dL_law_227 (fun L F H locs hX hO => ?_)
    refine lv_istore (lv' := [(10, .int (-7000003)), (9, .int (M 13 i)), (8, .int (nI i)), (7, .int (nI z)), (6, .int (nI y)), (3, .int (nI k)), (2, .int (nI (nn M))), (1, .ref o), (0, .ref b)]) hx hb dL_law_230 hl (by decide) rfl (fun ls hl => ?_)
    refine lv_iload hx hb dL_law_232 (lv_at hl 0 rfl) ?_
    refine lv_ldc hx hb hM.2.2.2.1 (hM.2.2.2.2.1 _ k_990) dL_law_234 ?_
    refine lv_icmp_eq (tgt := 263) hx hb dL_law_236 (by decide) (fun _ => ?_) (fun h9 => absurd (show ((-7000003) : Int32) = (-7000003) from (by decide)) h9)
    refine lv_goto (tgt := 910) hx hb dL_law_263 (by decide) ?_
    exact W.widen (k := cells + 50) (n := slots + 4150) (by omega) (by omega) (kq M L F H locs ls hX (hO.up (by omega)) hT (lv_sub hl [5, 6, 7, 8] rfl))
set_option maxHeartbeats 8000000 in
set_option maxRecDepth 100000 in
theorem lc_acc (hfl : l.stackTraces = false) (hM : kM p s m args meth c cL_law 15 ret "InvoicebridgeLaw") (hE : kE γ A s) (hX : kX γ A s L F H locs) (hO : Ob γ o M n L F) (hT : Xt M) (hn : n + 8 < 512) {b k y z : Nat} (hy : y < 2097152) (hz9 : z < 2097152) (ht : 0 < nn M) (hc : cells + 120 ≤ 600086) (hs : slots + 4700 ≤ 7301442) (hl : lv_has ls 15 [(7, .int (nI z)), (6, .int (nI y)), (3, .int (nI k)), (2, .int (nI (nn M))), (1, .ref o), (0, .ref b)])
    (kq : ∀ (M : mM) (L : List Nat) (F : kF) (H : Heap) (locs : List Loc) (ls : Array Slot), kX γ A s L F H locs → Ob γ o M (n + 7) L F → Xt M → lv_has ls 15 [(3, .int (nI k)), (2, .int (nI (nn M))), (1, .ref o), (0, .ref b)] → W p l e room_1 s m args below meth c H locs (cells + 50) (slots + 4150) Q (F0 m 910 ls [])) : W p l e room_1 s m args below meth c H locs cells slots Q (F0 m 273 ls []) := by
  have hx := hM.1
  have hb := hM.2.1
  obtain ⟨nd, D, hI⟩ := hO.inv
  have hn20 := hI.1.2
  obtain ⟨i, hi, ei⟩ : ∃ i, i < nn M ∧ y % nn M = i := ⟨_, Nat.mod_lt _ ht, rfl⟩
  refine lv_iload hx hb dL_law_273 (lv_at hl 1 rfl) ?_
  refine lv_iload_n hx hb dL_law_275 rfl (lv_at hl 3 rfl) ?_
  refine lv_irem hx hb dL_law_276 (nI_ne0 ht (by have := hI.1.2; omega)) ?_
  refine lv_is (y := (nI i)) ((pk_rem (a := y) (d := nn M) (by omega) ht (by have := hI.1.2; omega)).trans (congrArg nI ei)) ?_
  refine lv_istore (lv' := [(8, .int (nI i)), (7, .int (nI z)), (6, .int (nI y)), (3, .int (nI k)), (2, .int (nI (nn M))), (1, .ref o), (0, .ref b)]) hx hb dL_law_277 hl (by decide) rfl (fun ls hl => ?_)
  refine lv_aload_n hx hb dL_law_279 rfl (lv_at hl 5 rfl) ?_
  refine lv_iload hx hb dL_law_280 (lv_at hl 0 rfl) ?_
  refine lv_iconst (v := 0) hx hb dL_law_282 (by decide) ?_
  refine O_about hfl hM hE hX hO hl (ab_t hI hO.z hi).1.1 (ab_t hI hO.z hi).1.2 (by decide) (Nat.le_of_ble_eq_true rfl) ⟨by show cells + 2 ≤ 600086; omega, by show slots + 12 ≤ 7301442; omega⟩ dL_law_283 (fun L F H locs hX hO => ?_)
  by_cases h6 : M 6 i = 0
  · refine lv_if_ne (tgt := 293) hx hb dL_law_286 (by decide) (fun h9 => absurd (show ((M 6 i) : Int32) = 0 from h6) h9) (fun _ => ?_)
    refine lv_iconst (v := 1) hx hb dL_law_289 (by decide) ?_
    refine lv_goto (tgt := 294) hx hb dL_law_290 (by decide) ?_
    refine lv_istore (lv' := [(9, .int 1), (8, .int (nI i)), (7, .int (nI z)), (6, .int (nI y)), (3, .int (nI k)), (2, .int (nI (nn M))), (1, .ref o), (0, .ref b)]) hx hb dL_law_294 hl (by decide) rfl (fun ls hl => ?_)
    refine lv_aload_n hx hb dL_law_296 rfl (lv_at hl 6 rfl) ?_
    refine lv_iload hx hb dL_law_297 (lv_at hl 3 rfl) ?_
    refine lv_bipush (v := 9) hx hb dL_law_299 (by decide) ?_
    refine lv_irem hx hb dL_law_301 (by decide) ?_
    refine lv_is (y := (nI (y % 9))) (pk_rem (a := y) (d := 9) (by omega) (by decide) (by decide)) ?_
    by_cases h9y : (nI (y % 9) : Int32) = 0
    · refine lv_if_ne (tgt := 309) hx hb dL_law_302 (by decide) (fun h9 => absurd (show ((nI (y % 9)) : Int32) = 0 from h9y) h9) (fun _ => ?_)
      refine lv_iconst (v := 3) hx hb dL_law_305 (by decide) ?_
      refine lv_goto (tgt := 310) hx hb dL_law_306 (by decide) ?_
      refine lv_iload hx hb dL_law_310 (lv_at hl 1 rfl) ?_
      refine lv_iconst (v := 0) hx hb dL_law_312 (by decide) ?_
      refine lv_iconst (v := 0) hx hb dL_law_313 (by decide) ?_
      refine lv_iconst (v := 0) hx hb dL_law_314 (by decide) ?_
      refine lv_iconst (v := 0) hx hb dL_law_315 (by decide) ?_
      have hx9 := x_refuse hI hT hi
      obtain ⟨-, M1, h, h0, hT1, hn1, hc1⟩ := hx9.resolve_right (fun h9 => h9.1 h6)
      refine A_ok_3 hfl hM hE hX hO hl h h0 (by decide) (by decide) ⟨by show cells + 2 + 2 ≤ 600086; omega, by show slots + 12 + 12 ≤ 7301442; omega⟩ dL_law_316 (fun L F H locs hX hO => ?_)
      obtain ⟨nd1, D1, hI1⟩ := hO.inv
      have hnn : nn M1 = nn M := by unfold nn; rw [hn1]
      have hi1 : i < nn M1 := by rw [hnn]; exact hi
      refine lv_istore (lv' := [(10, .int (costs M i 1)), (9, .int 1), (8, .int (nI i)), (7, .int (nI z)), (6, .int (nI y)), (3, .int (nI k)), (2, .int (nI (nn M))), (1, .ref o), (0, .ref b)]) hx hb dL_law_319 hl (by decide) rfl (fun ls hl => ?_)
      refine lv_iload hx hb dL_law_321 (lv_at hl 0 rfl) ?_
      have hge : ¬ costs M i 1 < 0 := by
        have hk := okI_costs hI hi 1
        rw [hk.1]
        exact nI_pos (by have := hk.2; omega)
      refine lv_if_lt (tgt := 330) hx hb dL_law_323 (by decide) (fun h9 => absurd h9 (show ¬ ((costs M i 1) : Int32) < 0 from hge)) (fun _ => ?_)
      refine lv_iconst (v := 1) hx hb dL_law_326 (by decide) ?_
      refine lv_goto (tgt := 331) hx hb dL_law_327 (by decide) ?_
      refine lv_iload hx hb dL_law_331 (lv_at hl 1 rfl) ?_
      refine lv_icmp_ne (tgt := 353) hx hb dL_law_333 (by decide) (fun h9 => absurd (show (1 : Int32) = 1 from (by decide)) h9) (fun _ => ?_)
      refine lv_iload hx hb dL_law_336 (lv_at hl 1 rfl) ?_
      refine lv_if_eq (tgt := 355) hx hb dL_law_338 (by decide) (fun h9 => absurd h9 (show ¬ (1 : Int32) = 0 from (by decide))) (fun _ => ?_)
      refine lv_iload hx hb dL_law_341 (lv_at hl 0 rfl) ?_
      refine lv_aload_n hx hb dL_law_343 rfl (lv_at hl 7 rfl) ?_
      refine lv_iload hx hb dL_law_344 (lv_at hl 2 rfl) ?_
      refine lv_iconst (v := 4) hx hb dL_law_346 (by decide) ?_
      refine O_about hfl hM hE hX hO hl (ab_t hI1 hO.z hi1).2.2.2.2.1.1 (ab_t hI1 hO.z hi1).2.2.2.2.1.2 (by decide) (Nat.le_of_ble_eq_true rfl) ⟨by show cells + 2 + 2 + 2 ≤ 600086; omega, by show slots + 12 + 12 + 12 ≤ 7301442; omega⟩ dL_law_347 (fun L F H locs hX hO => ?_)
      refine lv_icmp_eq (tgt := 355) hx hb dL_law_350 (by decide) (fun _ => ?_) (fun h9 => absurd (show ((costs M i 1) : Int32) = (costs M1 i 1) from hc1.symm) h9)
      refine lv_goto (tgt := 910) hx hb dL_law_355 (by decide) ?_
      exact W.widen (k := cells + 50) (n := slots + 4150) (by omega) (by omega) (kq M1 L F H locs ls hX (hO.up (by omega)) hT1 (by rw [hnn]; exact lv_sub hl [5, 6, 7, 8] rfl))
    · refine lv_if_ne (tgt := 309) hx hb dL_law_302 (by decide) (fun _ => ?_) (fun h9 => absurd h9 (show ¬ ((nI (y % 9)) : Int32) = 0 from h9y))
      refine lv_iconst (v := 2) hx hb dL_law_309 (by decide) ?_
      refine lv_iload hx hb dL_law_310 (lv_at hl 1 rfl) ?_
      refine lv_iconst (v := 0) hx hb dL_law_312 (by decide) ?_
      refine lv_iconst (v := 0) hx hb dL_law_313 (by decide) ?_
      refine lv_iconst (v := 0) hx hb dL_law_314 (by decide) ?_
      refine lv_iconst (v := 0) hx hb dL_law_315 (by decide) ?_
      have hx9 := x_accept hI hT hi
      obtain ⟨-, M1, h, h0, hT1, hn1, hc1⟩ := hx9.resolve_right (fun h9 => h9.1 h6)
      refine A_ok_2 hfl hM hE hX hO hl h h0 (by decide) (by decide) ⟨by show cells + 2 + 2 ≤ 600086; omega, by show slots + 12 + 12 ≤ 7301442; omega⟩ dL_law_316 (fun L F H locs hX hO => ?_)
      obtain ⟨nd1, D1, hI1⟩ := hO.inv
      have hnn : nn M1 = nn M := by unfold nn; rw [hn1]
      have hi1 : i < nn M1 := by rw [hnn]; exact hi
      refine lv_istore (lv' := [(10, .int (costs M i 1)), (9, .int 1), (8, .int (nI i)), (7, .int (nI z)), (6, .int (nI y)), (3, .int (nI k)), (2, .int (nI (nn M))), (1, .ref o), (0, .ref b)]) hx hb dL_law_319 hl (by decide) rfl (fun ls hl => ?_)
      refine lv_iload hx hb dL_law_321 (lv_at hl 0 rfl) ?_
      have hge : ¬ costs M i 1 < 0 := by
        have hk := okI_costs hI hi 1
        rw [hk.1]
        exact nI_pos (by have := hk.2; omega)
      refine lv_if_lt (tgt := 330) hx hb dL_law_323 (by decide) (fun h9 => absurd h9 (show ¬ ((costs M i 1) : Int32) < 0 from hge)) (fun _ => ?_)
      refine lv_iconst (v := 1) hx hb dL_law_326 (by decide) ?_
      refine lv_goto (tgt := 331) hx hb dL_law_327 (by decide) ?_
      refine lv_iload hx hb dL_law_331 (lv_at hl 1 rfl) ?_
      refine lv_icmp_ne (tgt := 353) hx hb dL_law_333 (by decide) (fun h9 => absurd (show (1 : Int32) = 1 from (by decide)) h9) (fun _ => ?_)
      refine lv_iload hx hb dL_law_336 (lv_at hl 1 rfl) ?_
      refine lv_if_eq (tgt := 355) hx hb dL_law_338 (by decide) (fun h9 => absurd h9 (show ¬ (1 : Int32) = 0 from (by decide))) (fun _ => ?_)
      refine lv_iload hx hb dL_law_341 (lv_at hl 0 rfl) ?_
      refine lv_aload_n hx hb dL_law_343 rfl (lv_at hl 7 rfl) ?_
      refine lv_iload hx hb dL_law_344 (lv_at hl 2 rfl) ?_
      refine lv_iconst (v := 4) hx hb dL_law_346 (by decide) ?_
      refine O_about hfl hM hE hX hO hl (ab_t hI1 hO.z hi1).2.2.2.2.1.1 (ab_t hI1 hO.z hi1).2.2.2.2.1.2 (by decide) (Nat.le_of_ble_eq_true rfl) ⟨by show cells + 2 + 2 + 2 ≤ 600086; omega, by show slots + 12 + 12 + 12 ≤ 7301442; omega⟩ dL_law_347 (fun L F H locs hX hO => ?_)
      refine lv_icmp_eq (tgt := 355) hx hb dL_law_350 (by decide) (fun _ => ?_) (fun h9 => absurd (show ((costs M i 1) : Int32) = (costs M1 i 1) from hc1.symm) h9)
      refine lv_goto (tgt := 910) hx hb dL_law_355 (by decide) ?_
      exact W.widen (k := cells + 50) (n := slots + 4150) (by omega) (by omega) (kq M1 L F H locs ls hX (hO.up (by omega)) hT1 (by rw [hnn]; exact lv_sub hl [5, 6, 7, 8] rfl))
  · refine lv_if_ne (tgt := 293) hx hb dL_law_286 (by decide) (fun _ => ?_) (fun h9 => absurd h9 (show ¬ ((M 6 i) : Int32) = 0 from h6))
    refine lv_iconst (v := 0) hx hb dL_law_293 (by decide) ?_
    refine lv_istore (lv' := [(9, .int 0), (8, .int (nI i)), (7, .int (nI z)), (6, .int (nI y)), (3, .int (nI k)), (2, .int (nI (nn M))), (1, .ref o), (0, .ref b)]) hx hb dL_law_294 hl (by decide) rfl (fun ls hl => ?_)
    refine lv_aload_n hx hb dL_law_296 rfl (lv_at hl 6 rfl) ?_
    refine lv_iload hx hb dL_law_297 (lv_at hl 3 rfl) ?_
    refine lv_bipush (v := 9) hx hb dL_law_299 (by decide) ?_
    refine lv_irem hx hb dL_law_301 (by decide) ?_
    refine lv_is (y := (nI (y % 9))) (pk_rem (a := y) (d := 9) (by omega) (by decide) (by decide)) ?_
    by_cases h9y : (nI (y % 9) : Int32) = 0
    · refine lv_if_ne (tgt := 309) hx hb dL_law_302 (by decide) (fun h9 => absurd (show ((nI (y % 9)) : Int32) = 0 from h9y) h9) (fun _ => ?_)
      refine lv_iconst (v := 3) hx hb dL_law_305 (by decide) ?_
      refine lv_goto (tgt := 310) hx hb dL_law_306 (by decide) ?_
      refine lv_iload hx hb dL_law_310 (lv_at hl 1 rfl) ?_
      refine lv_iconst (v := 0) hx hb dL_law_312 (by decide) ?_
      refine lv_iconst (v := 0) hx hb dL_law_313 (by decide) ?_
      refine lv_iconst (v := 0) hx hb dL_law_314 (by decide) ?_
      refine lv_iconst (v := 0) hx hb dL_law_315 (by decide) ?_
      have hx9 := (x_refuse hI hT hi).resolve_left (fun h9 => h6 h9.1)
      refine A_no_3 (q := 2) (v := (-7000003)) hfl hM hE hX hO hl (by simp) hx9.2 (by decide) (by decide) ⟨by show cells + 2 + 2 ≤ 600086; omega, by show slots + 12 + 12 ≤ 7301442; omega⟩ dL_law_316 (fun L F H locs hX hO => ?_)
      refine lv_istore (lv' := [(10, .int (-7000003)), (9, .int 0), (8, .int (nI i)), (7, .int (nI z)), (6, .int (nI y)), (3, .int (nI k)), (2, .int (nI (nn M))), (1, .ref o), (0, .ref b)]) hx hb dL_law_319 hl (by decide) rfl (fun ls hl => ?_)
      refine lv_iload hx hb dL_law_321 (lv_at hl 0 rfl) ?_
      refine lv_if_lt (tgt := 330) hx hb dL_law_323 (by decide) (fun _ => ?_) (fun h9 => absurd (show ((-7000003) : Int32) < 0 from (by decide)) h9)
      refine lv_iconst (v := 0) hx hb dL_law_330 (by decide) ?_
      refine lv_iload hx hb dL_law_331 (lv_at hl 1 rfl) ?_
      refine lv_icmp_ne (tgt := 353) hx hb dL_law_333 (by decide) (fun h9 => absurd (show (0 : Int32) = 0 from (by decide)) h9) (fun _ => ?_)
      refine lv_iload hx hb dL_law_336 (lv_at hl 1 rfl) ?_
      refine lv_if_eq (tgt := 355) hx hb dL_law_338 (by decide) (fun _ => ?_) (fun h9 => absurd (show (0 : Int32) = 0 from (by decide)) h9)
      refine lv_goto (tgt := 910) hx hb dL_law_355 (by decide) ?_
      exact W.widen (k := cells + 50) (n := slots + 4150) (by omega) (by omega) (kq M L F H locs ls hX (hO.up (by omega)) hT (lv_sub hl [5, 6, 7, 8] rfl))
    · refine lv_if_ne (tgt := 309) hx hb dL_law_302 (by decide) (fun _ => ?_) (fun h9 => absurd h9 (show ¬ ((nI (y % 9)) : Int32) = 0 from h9y))
      refine lv_iconst (v := 2) hx hb dL_law_309 (by decide) ?_
      refine lv_iload hx hb dL_law_310 (lv_at hl 1 rfl) ?_
      refine lv_iconst (v := 0) hx hb dL_law_312 (by decide) ?_
      refine lv_iconst (v := 0) hx hb dL_law_313 (by decide) ?_
      refine lv_iconst (v := 0) hx hb dL_law_314 (by decide) ?_
      refine lv_iconst (v := 0) hx hb dL_law_315 (by decide) ?_
      have hx9 := (x_accept hI hT hi).resolve_left (fun h9 => h6 h9.1)
      refine A_no_2 (q := 2) (v := (-7000003)) hfl hM hE hX hO hl (by simp) hx9.2 (by decide) (by decide) ⟨by show cells + 2 + 2 ≤ 600086; omega, by show slots + 12 + 12 ≤ 7301442; omega⟩ dL_law_316 (fun L F H locs hX hO => ?_)
      refine lv_istore (lv' := [(10, .int (-7000003)), (9, .int 0), (8, .int (nI i)), (7, .int (nI z)), (6, .int (nI y)), (3, .int (nI k)), (2, .int (nI (nn M))), (1, .ref o), (0, .ref b)]) hx hb dL_law_319 hl (by decide) rfl (fun ls hl => ?_)
      refine lv_iload hx hb dL_law_321 (lv_at hl 0 rfl) ?_
      refine lv_if_lt (tgt := 330) hx hb dL_law_323 (by decide) (fun _ => ?_) (fun h9 => absurd (show ((-7000003) : Int32) < 0 from (by decide)) h9)
      refine lv_iconst (v := 0) hx hb dL_law_330 (by decide) ?_
      refine lv_iload hx hb dL_law_331 (lv_at hl 1 rfl) ?_
      refine lv_icmp_ne (tgt := 353) hx hb dL_law_333 (by decide) (fun h9 => absurd (show (0 : Int32) = 0 from (by decide)) h9) (fun _ => ?_)
      refine lv_iload hx hb dL_law_336 (lv_at hl 1 rfl) ?_
      refine lv_if_eq (tgt := 355) hx hb dL_law_338 (by decide) (fun _ => ?_) (fun h9 => absurd (show (0 : Int32) = 0 from (by decide)) h9)
      refine lv_goto (tgt := 910) hx hb dL_law_355 (by decide) ?_
      exact W.widen (k := cells + 50) (n := slots + 4150) (by omega) (by omega) (kq M L F H locs ls hX (hO.up (by omega)) hT (lv_sub hl [5, 6, 7, 8] rfl))
set_option maxHeartbeats 8000000 in
set_option maxRecDepth 100000 in
theorem lc_cred (hfl : l.stackTraces = false) (hM : kM p s m args meth c cL_law 15 ret "InvoicebridgeLaw") (hE : kE γ A s) (hX : kX γ A s L F H locs) (hO : Ob γ o M n L F) (hT : Xt M) (hn : n + 8 < 512) {b k y z : Nat} (hy : y < 2097152) (hz9 : z < 2097152) (ht : 0 < nn M) (hc : cells + 120 ≤ 600086) (hs : slots + 4700 ≤ 7301442) (hl : lv_has ls 15 [(7, .int (nI z)), (6, .int (nI y)), (3, .int (nI k)), (2, .int (nI (nn M))), (1, .ref o), (0, .ref b)])
    (kq : ∀ (M : mM) (L : List Nat) (F : kF) (H : Heap) (locs : List Loc) (ls : Array Slot), kX γ A s L F H locs → Ob γ o M (n + 7) L F → Xt M → lv_has ls 15 [(3, .int (nI k)), (2, .int (nI (nn M))), (1, .ref o), (0, .ref b)] → W p l e room_1 s m args below meth c H locs (cells + 50) (slots + 4150) Q (F0 m 910 ls [])) : W p l e room_1 s m args below meth c H locs cells slots Q (F0 m 365 ls []) := by
  have hx := hM.1
  have hb := hM.2.1
  obtain ⟨nd, D, hI⟩ := hO.inv
  have hn20 := hI.1.2
  obtain ⟨i, hi, ei⟩ : ∃ i, i < nn M ∧ y % nn M = i := ⟨_, Nat.mod_lt _ ht, rfl⟩
  refine lv_iload hx hb dL_law_365 (lv_at hl 1 rfl) ?_
  refine lv_iload_n hx hb dL_law_367 rfl (lv_at hl 3 rfl) ?_
  refine lv_irem hx hb dL_law_368 (nI_ne0 ht (by have := hI.1.2; omega)) ?_
  refine lv_is (y := (nI i)) ((pk_rem (a := y) (d := nn M) (by omega) ht (by have := hI.1.2; omega)).trans (congrArg nI ei)) ?_
  refine lv_istore (lv' := [(8, .int (nI i)), (7, .int (nI z)), (6, .int (nI y)), (3, .int (nI k)), (2, .int (nI (nn M))), (1, .ref o), (0, .ref b)]) hx hb dL_law_369 hl (by decide) rfl (fun ls hl => ?_)
  refine lv_iload hx hb dL_law_371 (lv_at hl 1 rfl) ?_
  refine lv_aload_n hx hb dL_law_373 rfl (lv_at hl 5 rfl) ?_
  refine lv_iload hx hb dL_law_374 (lv_at hl 0 rfl) ?_
  refine lv_bipush (v := 7) hx hb dL_law_376 (by decide) ?_
  refine O_about hfl hM hE hX hO hl (ab_t hI hO.z hi).2.2.2.2.2.2.1 (ab_t hI hO.z hi).2.2.2.2.2.2.2 (by decide) (Nat.le_of_ble_eq_true rfl) ⟨by show cells + 2 ≤ 600086; omega, by show slots + 12 ≤ 7301442; omega⟩ dL_law_378 (fun L F H locs hX hO => ?_)
  have hk3 := hI.k3 i
  have hk1 := hI.2.2.2.2.2.2.2.2.2.2.2.2.2.1 i hi
  refine lv_is (y := (nI (kk M i))) (hk3.1) ?_
  obtain ⟨j, hj, ej⟩ : ∃ j, j < kk M i ∧ z % kk M i = j := ⟨_, Nat.mod_lt _ hk1, rfl⟩
  refine lv_irem hx hb dL_law_381 (nI_ne0 hk1 (by omega)) ?_
  refine lv_is (y := (nI j)) ((pk_rem (a := z) (d := kk M i) (by omega) hk1 (by omega)).trans (congrArg nI ej)) ?_
  refine lv_istore (lv' := [(9, .int (nI j)), (8, .int (nI i)), (7, .int (nI z)), (6, .int (nI y)), (3, .int (nI k)), (2, .int (nI (nn M))), (1, .ref o), (0, .ref b)]) hx hb dL_law_382 hl (by decide) rfl (fun ls hl => ?_)
  refine lv_aload_n hx hb dL_law_384 rfl (lv_at hl 6 rfl) ?_
  refine lv_iload hx hb dL_law_385 (lv_at hl 1 rfl) ?_
  refine lv_iload hx hb dL_law_387 (lv_at hl 0 rfl) ?_
  refine lv_iconst (v := 0) hx hb dL_law_389 (by decide) ?_
  refine O_lineOf hfl hM hE hX hO hl (ln_t hI hO.z hi hj).1 (ln_t hI hO.z hi hj).2 (by decide) (Nat.le_of_ble_eq_true rfl) ⟨by show cells + 2 + 3 ≤ 600086; omega, by show slots + 12 + 18 ≤ 7301442; omega⟩ dL_law_390 (fun L F H locs hX hO => ?_)
  refine lv_istore (lv' := [(10, .int (M 14 (3 * i + j))), (9, .int (nI j)), (8, .int (nI i)), (7, .int (nI z)), (6, .int (nI y)), (3, .int (nI k)), (2, .int (nI (nn M))), (1, .ref o), (0, .ref b)]) hx hb dL_law_393 hl (by decide) rfl (fun ls hl => ?_)
  refine lv_aload_n hx hb dL_law_395 rfl (lv_at hl 7 rfl) ?_
  refine lv_iconst (v := 4) hx hb dL_law_396 (by decide) ?_
  refine lv_iload hx hb dL_law_397 (lv_at hl 2 rfl) ?_
  refine lv_iload hx hb dL_law_399 (lv_at hl 1 rfl) ?_
  refine lv_iconst (v := 1) hx hb dL_law_401 (by decide) ?_
  refine lv_iload hx hb dL_law_402 (lv_at hl 4 rfl) ?_
  refine lv_sipush (v := 300) hx hb dL_law_404 (by decide) ?_
  refine lv_irem hx hb dL_law_407 (by decide) ?_
  refine lv_is (y := (nI (y % 300))) (pk_rem (a := y) (d := 300) (by omega) (by decide) (by decide)) ?_
  refine lv_iadd hx hb dL_law_408 ?_
  refine lv_is (y := (nI (1 + (y % 300)))) (nI_add 1 (y % 300)) ?_
  refine lv_iconst (v := 0) hx hb dL_law_409 (by decide) ?_
  refine lv_iconst (v := 0) hx hb dL_law_410 (by decide) ?_
  rcases x_credit hI hT hi hj (x := 1 + y % 300) (by omega) with ⟨M1, h, h0, hT1, hn1, hge⟩ | h3 | h3
  · refine A_ok_4 hfl hM hE hX hO hl h h0 (by decide) (by decide) ⟨by show cells + 2 + 3 + 6 ≤ 600086; omega, by show slots + 12 + 18 + 1100 ≤ 7301442; omega⟩ dL_law_411 (fun L F H locs hX hO => ?_)
    obtain ⟨nd1, D1, hI1⟩ := hO.inv
    have hnn : nn M1 = nn M := by unfold nn; rw [hn1]
    have hi1 : i < nn M1 := by rw [hnn]; exact hi
    refine lv_istore (lv' := [(11, .int (M 14 (3 * i + j) - nI (1 + y % 300))), (10, .int (M 14 (3 * i + j))), (9, .int (nI j)), (8, .int (nI i)), (7, .int (nI z)), (6, .int (nI y)), (3, .int (nI k)), (2, .int (nI (nn M))), (1, .ref o), (0, .ref b)]) hx hb dL_law_414 hl (by decide) rfl (fun ls hl => ?_)
    refine lv_iload hx hb dL_law_416 (lv_at hl 0 rfl) ?_
    refine lv_if_lt (tgt := 437) hx hb dL_law_418 (by decide) (fun h9 => absurd h9 (show ¬ ((M 14 (3 * i + j) - nI (1 + y % 300)) : Int32) < 0 from Int32.not_lt.mpr hge)) (fun _ => ?_)
    refine lv_iload hx hb dL_law_421 (lv_at hl 0 rfl) ?_
    refine lv_iload hx hb dL_law_423 (lv_at hl 1 rfl) ?_
    refine lv_iconst (v := 1) hx hb dL_law_425 (by decide) ?_
    refine lv_isub hx hb dL_law_426 ?_
    refine lv_iload hx hb dL_law_427 (lv_at hl 5 rfl) ?_
    refine lv_sipush (v := 300) hx hb dL_law_429 (by decide) ?_
    refine lv_irem hx hb dL_law_432 (by decide) ?_
    refine lv_is (y := (nI (y % 300))) (pk_rem (a := y) (d := 300) (by omega) (by decide) (by decide)) ?_
    refine lv_isub hx hb dL_law_433 ?_
    refine lv_icmp_ne (tgt := 456) hx hb dL_law_434 (by decide) (fun h9 => absurd (show ((M 14 (3 * i + j) - nI (1 + y % 300)) : Int32) = (((M 14 (3 * i + j)) - 1) - (nI (y % 300))) from by rw [← nI_add, show nI 1 = 1 from rfl]; grind) h9) (fun _ => ?_)
    refine lv_iload hx hb dL_law_437 (lv_at hl 0 rfl) ?_
    refine lv_if_ge (tgt := 458) hx hb dL_law_439 (by decide) (fun _ => ?_) (fun h9 => absurd (show (0 : Int32) ≤ (M 14 (3 * i + j) - nI (1 + y % 300)) from hge) h9)
    refine lv_goto (tgt := 910) hx hb dL_law_458 (by decide) ?_
    exact W.widen (k := cells + 50) (n := slots + 4150) (by omega) (by omega) (kq M1 L F H locs ls hX (hO.up (by omega)) hT1 (by rw [hnn]; exact lv_sub hl [6, 7, 8, 9] rfl))
  · refine A_no_4 (q := 2) (v := (-7000002)) hfl hM hE hX hO hl (by simp) h3 (by decide) (by decide) ⟨by show cells + 2 + 3 + 6 ≤ 600086; omega, by show slots + 12 + 18 + 1100 ≤ 7301442; omega⟩ dL_law_411 (fun L F H locs hX hO => ?_)
    refine lv_istore (lv' := [(11, .int (-7000002)), (10, .int (M 14 (3 * i + j))), (9, .int (nI j)), (8, .int (nI i)), (7, .int (nI z)), (6, .int (nI y)), (3, .int (nI k)), (2, .int (nI (nn M))), (1, .ref o), (0, .ref b)]) hx hb dL_law_414 hl (by decide) rfl (fun ls hl => ?_)
    refine lv_iload hx hb dL_law_416 (lv_at hl 0 rfl) ?_
    refine lv_if_lt (tgt := 437) hx hb dL_law_418 (by decide) (fun _ => ?_) (fun h9 => absurd (show ((-7000002) : Int32) < 0 from (by decide)) h9)
    refine lv_iload hx hb dL_law_437 (lv_at hl 0 rfl) ?_
    refine lv_if_ge (tgt := 458) hx hb dL_law_439 (by decide) (fun h9 => absurd h9 (show ¬ (0 : Int32) ≤ (-7000002) from (by decide))) (fun _ => ?_)
    refine lv_aload_n hx hb dL_law_442 rfl (lv_at hl 8 rfl) ?_
    refine lv_iload hx hb dL_law_443 (lv_at hl 3 rfl) ?_
    refine lv_iload hx hb dL_law_445 (lv_at hl 2 rfl) ?_
    refine lv_iconst (v := 0) hx hb dL_law_447 (by decide) ?_
    refine O_lineOf hfl hM hE hX hO hl (ln_t hI hO.z hi hj).1 (ln_t hI hO.z hi hj).2 (by decide) (Nat.le_of_ble_eq_true rfl) ⟨by show cells + 2 + 3 + 6 + 3 ≤ 600086; omega, by show slots + 12 + 18 + 1100 + 18 ≤ 7301442; omega⟩ dL_law_448 (fun L F H locs hX hO => ?_)
    refine lv_iload hx hb dL_law_451 (lv_at hl 1 rfl) ?_
    refine lv_icmp_eq (tgt := 458) hx hb dL_law_453 (by decide) (fun _ => ?_) (fun h9 => absurd (show ((M 14 (3 * i + j)) : Int32) = (M 14 (3 * i + j)) from rfl) h9)
    refine lv_goto (tgt := 910) hx hb dL_law_458 (by decide) ?_
    exact W.widen (k := cells + 50) (n := slots + 4150) (by omega) (by omega) (kq M L F H locs ls hX (hO.up (by omega)) hT (lv_sub hl [6, 7, 8, 9] rfl))
  · refine A_no_4 (q := 3) (v := (-7000003)) hfl hM hE hX hO hl (by simp) h3 (by decide) (by decide) ⟨by show cells + 2 + 3 + 6 ≤ 600086; omega, by show slots + 12 + 18 + 1100 ≤ 7301442; omega⟩ dL_law_411 (fun L F H locs hX hO => ?_)
    refine lv_istore (lv' := [(11, .int (-7000003)), (10, .int (M 14 (3 * i + j))), (9, .int (nI j)), (8, .int (nI i)), (7, .int (nI z)), (6, .int (nI y)), (3, .int (nI k)), (2, .int (nI (nn M))), (1, .ref o), (0, .ref b)]) hx hb dL_law_414 hl (by decide) rfl (fun ls hl => ?_)
    refine lv_iload hx hb dL_law_416 (lv_at hl 0 rfl) ?_
    refine lv_if_lt (tgt := 437) hx hb dL_law_418 (by decide) (fun _ => ?_) (fun h9 => absurd (show ((-7000003) : Int32) < 0 from (by decide)) h9)
    refine lv_iload hx hb dL_law_437 (lv_at hl 0 rfl) ?_
    refine lv_if_ge (tgt := 458) hx hb dL_law_439 (by decide) (fun h9 => absurd h9 (show ¬ (0 : Int32) ≤ (-7000003) from (by decide))) (fun _ => ?_)
    refine lv_aload_n hx hb dL_law_442 rfl (lv_at hl 8 rfl) ?_
    refine lv_iload hx hb dL_law_443 (lv_at hl 3 rfl) ?_
    refine lv_iload hx hb dL_law_445 (lv_at hl 2 rfl) ?_
    refine lv_iconst (v := 0) hx hb dL_law_447 (by decide) ?_
    refine O_lineOf hfl hM hE hX hO hl (ln_t hI hO.z hi hj).1 (ln_t hI hO.z hi hj).2 (by decide) (Nat.le_of_ble_eq_true rfl) ⟨by show cells + 2 + 3 + 6 + 3 ≤ 600086; omega, by show slots + 12 + 18 + 1100 + 18 ≤ 7301442; omega⟩ dL_law_448 (fun L F H locs hX hO => ?_)
    refine lv_iload hx hb dL_law_451 (lv_at hl 1 rfl) ?_
    refine lv_icmp_eq (tgt := 458) hx hb dL_law_453 (by decide) (fun _ => ?_) (fun h9 => absurd (show ((M 14 (3 * i + j)) : Int32) = (M 14 (3 * i + j)) from rfl) h9)
    refine lv_goto (tgt := 910) hx hb dL_law_458 (by decide) ?_
    exact W.widen (k := cells + 50) (n := slots + 4150) (by omega) (by omega) (kq M L F H locs ls hX (hO.up (by omega)) hT (lv_sub hl [6, 7, 8, 9] rfl))
end LC
