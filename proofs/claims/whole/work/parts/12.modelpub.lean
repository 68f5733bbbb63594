def sendM (M : mM) (a b z x y : Int32) : Int32 × mM := (if 0 ≤ a ∧ a ≤ 5 then (if 0 ≤ b ∧ b ≤ 5 then (if 0 ≤ z ∧ z ≤ 7 then (if (1 ≤ x ∧ x ≤ 9999) ∧ (y = 0 ∨ y = 7 ∨ y = 19) then (if a = b then (0, (mset M 24 0 2)) else (if (M 2 0) = 20 then (0, (mset M 24 0 3)) else ((((M 2 0) + 1) - 1), (mset (addsM (mset (mset (mset (mset (mset (mset (mset M 24 0 0) 3 (nn M) a) 4 (nn M) b) 5 (nn M) z) 6 (nn M) 0) 7 (nn M) (M 0 0)) 9 (nn M) a) (nn M) x y) 2 0 ((M 2 0) + 1))))) else (0, (mset M 24 0 2))) else (0, (mset M 24 0 1))) else (0, (mset M 24 0 1))) else (0, (mset M 24 0 1)))
set_option maxHeartbeats 4000000 in
set_option maxRecDepth 100000 in
theorem c_X5_send (l : Launch) (γ : kG) (L : List Nat) (F : kF) (o : Nat) (ad : Nat → Nat) (M : mM) (hR : RepM γ L F o ad M) (a b z x y : Int32) (hn : okN M) (hz : ∀ i, nn M ≤ i → M 13 i = 0) : kC l yX5_send cX5_send 6 (some .int) (kRm 4 0 0) γ L F [.ref o, .int a, .int b, .int z, .int x, .int y] (kI fun r L1 F1 => L = L1 ∧ ∃ M1, RepM γ L1 F1 o ad M1 ∧ (r, M1) = sendM M a b z x y) := by
  refine kC_of (by decide +kernel) (Nat.le_of_ble_eq_true rfl) ?_
  intro p e s m args below meth c sz ls hargs hsz hM hin hE hX hl
  have hx := hM.1
  have hb := hM.2.1
  have hl : lv_has ls 6 [(0, .ref o), (1, .int a), (2, .int b), (3, .int z), (4, .int x), (5, .int y)] := hl
  have hn2 := hn.2
  refine lv_aload_n hx hb dX5_send_0 rfl (lv_at hl 0 rfl) ?_
  refine lv_iload_n hx hb dX5_send_1 rfl (lv_at hl 1 rfl) ?_
  refine k_goi (k_S (n := 1) (As := [.int a]) (rest := [.ref o]) hM hE hX hl (c_X5_isCompany l γ L F a) k_1152 k_1153 k_9 k_1154 ⟨by decide, by decide, by decide +kernel⟩ (by decide) rfl rfl (Nat.le_of_ble_eq_true rfl) dX5_send_2 (by decide)) hE hX (fun r L1 F1 H locs hp hX => ?_)
  obtain ⟨rfl, rfl, ⟨rfl, h_1⟩ | ⟨rfl, h_1⟩⟩ := hp
  · have hco := okI_5 h_1
    have hco2 := hco.2
    refine lv_if_eq (tgt := 25) hx hb dX5_send_5 (by decide) (fun c_2 => absurd (show (1 : Int32) = 0 from c_2) (by decide)) (fun _ => ?_)
    refine lv_iload_n hx hb dX5_send_8 rfl (lv_at hl 2 rfl) ?_
    refine k_goi (k_S (n := 1) (As := [.int b]) (rest := [.ref o]) hM hE hX hl (c_X5_isCompany l γ L F b) k_1152 k_1153 k_9 k_1154 ⟨by decide, by decide, by decide +kernel⟩ (by decide) rfl rfl (Nat.le_of_ble_eq_true rfl) dX5_send_9 (by decide)) hE hX (fun r L1 F1 H locs hp hX => ?_)
    obtain ⟨rfl, rfl, ⟨rfl, h_3⟩ | ⟨rfl, h_3⟩⟩ := hp
    · have hco := okI_5 h_3
      have hco2 := hco.2
      refine lv_if_eq (tgt := 25) hx hb dX5_send_12 (by decide) (fun c_4 => absurd (show (1 : Int32) = 0 from c_4) (by decide)) (fun _ => ?_)
      refine lv_iload_n hx hb dX5_send_15 rfl (lv_at hl 3 rfl) ?_
      refine lv_iconst (v := 0) hx hb dX5_send_16 (by decide) ?_
      refine lv_bipush (v := 7) hx hb dX5_send_17 (by decide) ?_
      refine k_goi (k_S (n := 3) (As := [.int z, .int 0, .int 7]) (rest := [.ref o]) hM hE hX hl (c_X5_isIn l γ L F z 0 7) k_1155 k_1156 k_9 k_1157 ⟨by decide, by decide, by decide +kernel⟩ (by decide) rfl rfl (Nat.le_of_ble_eq_true rfl) dX5_send_19 (by decide)) hE hX (fun r L1 F1 H locs hp hX => ?_)
      obtain ⟨rfl, rfl, ⟨rfl, h_5⟩ | ⟨rfl, h_5⟩⟩ := hp
      · refine lv_if_ne (tgt := 29) hx hb dX5_send_22 (by decide) (fun _ => ?_) (fun c_6 => absurd (show (1 : Int32) = 0 from c_6) (by decide))
        refine lv_iload hx hb dX5_send_29 (lv_at hl 4 rfl) ?_
        refine lv_iload hx hb dX5_send_31 (lv_at hl 5 rfl) ?_
        refine k_goi (k_S (n := 2) (As := [.int x, .int y]) (rest := [.ref o]) hM hE hX hl (c_X5_isGood l γ L F x y) k_1158 k_1159 k_9 k_1160 ⟨by decide, by decide, by decide +kernel⟩ (by decide) rfl rfl (Nat.le_of_ble_eq_true rfl) dX5_send_33 (by decide)) hE hX (fun r L1 F1 H locs hp hX => ?_)
        obtain ⟨rfl, rfl, ⟨rfl, h_7⟩ | ⟨rfl, h_7⟩⟩ := hp
        · refine lv_if_eq (tgt := 44) hx hb dX5_send_36 (by decide) (fun c_8 => absurd (show (1 : Int32) = 0 from c_8) (by decide)) (fun _ => ?_)
          refine lv_iload_n hx hb dX5_send_39 rfl (lv_at hl 1 rfl) ?_
          refine lv_iload_n hx hb dX5_send_40 rfl (lv_at hl 2 rfl) ?_
          refine lv_icmp_ne (tgt := 48) hx hb dX5_send_41 (by decide) (fun c_9 => ?_) (fun c_9 => ?_)
          · refine lv_aload_n hx hb dX5_send_48 rfl (lv_at hl 0 rfl) ?_
            refine m_get hM hE hX hR 2 (by decide) k_1069 rfl rfl dX5_send_49 ?_
            refine lv_bipush (v := 20) hx hb dX5_send_52 (by decide) ?_
            refine lv_icmp_ne (tgt := 61) hx hb dX5_send_54 (by decide) (fun c_10 => ?_) (fun c_10 => ?_)
            · refine lv_iconst (v := 0) hx hb dX5_send_61 (by decide) ?_
              refine m_put hM hE hX hR 24 (by decide) rfl (by decide) k_1091 rfl rfl rfl rfl dX5_send_62 (fun F H locs hX hR => ?_)
              refine lv_aload_n hx hb dX5_send_65 rfl (lv_at hl 0 rfl) ?_
              refine m_get hM hE hX hR 24 (by decide) k_1091 rfl rfl dX5_send_66 ?_
              refine lv_if_le (tgt := 74) hx hb dX5_send_69 (by decide) (fun _ => ?_) (fun c_11 => absurd (show ¬ (0 : Int32) ≤ 0 from c_11) (by decide))
              have hlt : nn M < 20 := lt_of_ne hn rfl c_10
              refine lv_aload_n hx hb dX5_send_74 rfl (lv_at hl 0 rfl) ?_
              refine m_get hM hE hX hR 3 (by decide) k_1070 rfl rfl dX5_send_75 ?_
              refine lv_aload_n hx hb dX5_send_78 rfl (lv_at hl 0 rfl) ?_
              refine m_get hM hE hX hR 2 (by decide) k_1069 rfl rfl dX5_send_79 ?_
              refine lv_iload_n hx hb dX5_send_82 rfl (lv_at hl 1 rfl) ?_
              refine m_iast hM hE hX hR 3 (nn M) (by decide) rfl rfl hn.1 (show nn M < 20 by omega) dX5_send_83 (fun F H locs hX hR => ?_)
              refine lv_aload_n hx hb dX5_send_84 rfl (lv_at hl 0 rfl) ?_
              refine m_get hM hE hX hR 4 (by decide) k_1071 rfl rfl dX5_send_85 ?_
              refine lv_aload_n hx hb dX5_send_88 rfl (lv_at hl 0 rfl) ?_
              refine m_get hM hE hX hR 2 (by decide) k_1069 rfl rfl dX5_send_89 ?_
              refine lv_iload_n hx hb dX5_send_92 rfl (lv_at hl 2 rfl) ?_
              refine m_iast hM hE hX hR 4 (nn M) (by decide) rfl rfl hn.1 (show nn M < 20 by omega) dX5_send_93 (fun F H locs hX hR => ?_)
              refine lv_aload_n hx hb dX5_send_94 rfl (lv_at hl 0 rfl) ?_
              refine m_get hM hE hX hR 5 (by decide) k_1072 rfl rfl dX5_send_95 ?_
              refine lv_aload_n hx hb dX5_send_98 rfl (lv_at hl 0 rfl) ?_
              refine m_get hM hE hX hR 2 (by decide) k_1069 rfl rfl dX5_send_99 ?_
              refine lv_iload_n hx hb dX5_send_102 rfl (lv_at hl 3 rfl) ?_
              refine m_iast hM hE hX hR 5 (nn M) (by decide) rfl rfl hn.1 (show nn M < 20 by omega) dX5_send_103 (fun F H locs hX hR => ?_)
              refine lv_aload_n hx hb dX5_send_104 rfl (lv_at hl 0 rfl) ?_
              refine m_get hM hE hX hR 6 (by decide) k_1073 rfl rfl dX5_send_105 ?_
              refine lv_aload_n hx hb dX5_send_108 rfl (lv_at hl 0 rfl) ?_
              refine m_get hM hE hX hR 2 (by decide) k_1069 rfl rfl dX5_send_109 ?_
              refine lv_iconst (v := 0) hx hb dX5_send_112 (by decide) ?_
              refine m_iast hM hE hX hR 6 (nn M) (by decide) rfl rfl hn.1 (show nn M < 20 by omega) dX5_send_113 (fun F H locs hX hR => ?_)
              refine lv_aload_n hx hb dX5_send_114 rfl (lv_at hl 0 rfl) ?_
              refine m_get hM hE hX hR 7 (by decide) k_1074 rfl rfl dX5_send_115 ?_
              refine lv_aload_n hx hb dX5_send_118 rfl (lv_at hl 0 rfl) ?_
              refine m_get hM hE hX hR 2 (by decide) k_1069 rfl rfl dX5_send_119 ?_
              refine lv_aload_n hx hb dX5_send_122 rfl (lv_at hl 0 rfl) ?_
              refine m_get hM hE hX hR 0 (by decide) k_1067 rfl rfl dX5_send_123 ?_
              refine m_iast hM hE hX hR 7 (nn M) (by decide) rfl rfl hn.1 (show nn M < 20 by omega) dX5_send_126 (fun F H locs hX hR => ?_)
              refine lv_aload_n hx hb dX5_send_127 rfl (lv_at hl 0 rfl) ?_
              refine m_get hM hE hX hR 9 (by decide) k_1076 rfl rfl dX5_send_128 ?_
              refine lv_aload_n hx hb dX5_send_131 rfl (lv_at hl 0 rfl) ?_
              refine m_get hM hE hX hR 2 (by decide) k_1069 rfl rfl dX5_send_132 ?_
              refine lv_iload_n hx hb dX5_send_135 rfl (lv_at hl 1 rfl) ?_
              refine m_iast hM hE hX hR 9 (nn M) (by decide) rfl rfl hn.1 (show nn M < 20 by omega) dX5_send_136 (fun F H locs hX hR => ?_)
              refine lv_aload_n hx hb dX5_send_137 rfl (lv_at hl 0 rfl) ?_
              refine lv_aload_n hx hb dX5_send_138 rfl (lv_at hl 0 rfl) ?_
              refine m_get hM hE hX hR 2 (by decide) k_1069 rfl rfl dX5_send_139 ?_
              refine lv_iload hx hb dX5_send_142 (lv_at hl 4 rfl) ?_
              refine lv_iload hx hb dX5_send_144 (lv_at hl 5 rfl) ?_
              refine k_gou (k_V (n := 3) (As := [.int (M 2 0), .int x, .int y]) (rest := []) hM hE hX hl (c_X5_adds l γ L F o ad (mset (mset (mset (mset (mset (mset (mset M 24 0 0) 3 (nn M) a) 4 (nn M) b) 5 (nn M) z) 6 (nn M) 0) 7 (nn M) (M 0 0)) 9 (nn M) a) hR (nn M) (M 2 0) x y hn.1 hlt (okL0 (hz _ (Nat.le_refl _))).1 (okL0 (hz _ (Nat.le_refl _))).2) hR.1 hR.2.1 rfl k_1161 k_1163 kp_27 k_9 k_1164 ⟨rfl, by decide, by decide, by decide +kernel⟩ (by decide) rfl rfl (Nat.le_of_ble_eq_true rfl) dX5_send_146 (by decide)) hE hX (fun L1 F H locs hp hX => ?_)
              obtain ⟨rfl, M1, hR, rfl⟩ := hp
              refine lv_aload_n hx hb dX5_send_149 rfl (lv_at hl 0 rfl) ?_
              refine lv_dup hx hb dX5_send_150 rfl ?_
              refine m_get hM hE hX hR 2 (by decide) k_1069 rfl rfl dX5_send_151 ?_
              refine lv_iconst (v := 1) hx hb dX5_send_154 (by decide) ?_
              refine lv_iadd hx hb dX5_send_155 ?_
              refine m_put hM hE hX hR 2 (by decide) rfl (by decide) k_1069 rfl rfl rfl rfl dX5_send_156 (fun F H locs hX hR => ?_)
              refine lv_aload_n hx hb dX5_send_159 rfl (lv_at hl 0 rfl) ?_
              refine m_get hM hE hX hR 2 (by decide) k_1069 rfl rfl dX5_send_160 ?_
              refine lv_iconst (v := 1) hx hb dX5_send_163 (by decide) ?_
              refine lv_isub hx hb dX5_send_164 ?_
              exact k_iret hM hsz hX ⟨_, rfl, rfl, _, hR, (show sendM M a b z x y = _ from ((if_pos h_1).trans ((if_pos h_3).trans ((if_pos h_5).trans ((if_pos h_7).trans ((if_neg c_9).trans ((if_neg c_10).trans rfl))))))).symm⟩ (by decide) (by decide) dX5_send_165
            · refine lv_iconst (v := 3) hx hb dX5_send_57 (by decide) ?_
              refine lv_goto (tgt := 62) hx hb dX5_send_58 (by decide) ?_
              refine m_put hM hE hX hR 24 (by decide) rfl (by decide) k_1091 rfl rfl rfl rfl dX5_send_62 (fun F H locs hX hR => ?_)
              refine lv_aload_n hx hb dX5_send_65 rfl (lv_at hl 0 rfl) ?_
              refine m_get hM hE hX hR 24 (by decide) k_1091 rfl rfl dX5_send_66 ?_
              refine lv_if_le (tgt := 74) hx hb dX5_send_69 (by decide) (fun c_12 => absurd (show (3 : Int32) ≤ 0 from c_12) (by decide)) (fun _ => ?_)
              refine lv_iconst (v := 0) hx hb dX5_send_72 (by decide) ?_
              exact k_iret hM hsz hX ⟨_, rfl, rfl, _, hR, (show sendM M a b z x y = _ from ((if_pos h_1).trans ((if_pos h_3).trans ((if_pos h_5).trans ((if_pos h_7).trans ((if_neg c_9).trans ((if_pos c_10).trans rfl))))))).symm⟩ (by decide) (by decide) dX5_send_73
          · refine lv_iconst (v := 2) hx hb dX5_send_44 (by decide) ?_
            refine lv_goto (tgt := 62) hx hb dX5_send_45 (by decide) ?_
            refine m_put hM hE hX hR 24 (by decide) rfl (by decide) k_1091 rfl rfl rfl rfl dX5_send_62 (fun F H locs hX hR => ?_)
            refine lv_aload_n hx hb dX5_send_65 rfl (lv_at hl 0 rfl) ?_
            refine m_get hM hE hX hR 24 (by decide) k_1091 rfl rfl dX5_send_66 ?_
            refine lv_if_le (tgt := 74) hx hb dX5_send_69 (by decide) (fun c_13 => absurd (show (2 : Int32) ≤ 0 from c_13) (by decide)) (fun _ => ?_)
            refine lv_iconst (v := 0) hx hb dX5_send_72 (by decide) ?_
            exact k_iret hM hsz hX ⟨_, rfl, rfl, _, hR, (show sendM M a b z x y = _ from ((if_pos h_1).trans ((if_pos h_3).trans ((if_pos h_5).trans ((if_pos h_7).trans ((if_pos c_9).trans rfl)))))).symm⟩ (by decide) (by decide) dX5_send_73
        · refine lv_if_eq (tgt := 44) hx hb dX5_send_36 (by decide) (fun _ => ?_) (fun c_14 => absurd (show ¬ (0 : Int32) = 0 from c_14) (by decide))
          refine lv_iconst (v := 2) hx hb dX5_send_44 (by decide) ?_
          refine lv_goto (tgt := 62) hx hb dX5_send_45 (by decide) ?_
          refine m_put hM hE hX hR 24 (by decide) rfl (by decide) k_1091 rfl rfl rfl rfl dX5_send_62 (fun F H locs hX hR => ?_)
          refine lv_aload_n hx hb dX5_send_65 rfl (lv_at hl 0 rfl) ?_
          refine m_get hM hE hX hR 24 (by decide) k_1091 rfl rfl dX5_send_66 ?_
          refine lv_if_le (tgt := 74) hx hb dX5_send_69 (by decide) (fun c_15 => absurd (show (2 : Int32) ≤ 0 from c_15) (by decide)) (fun _ => ?_)
          refine lv_iconst (v := 0) hx hb dX5_send_72 (by decide) ?_
          exact k_iret hM hsz hX ⟨_, rfl, rfl, _, hR, (show sendM M a b z x y = _ from ((if_pos h_1).trans ((if_pos h_3).trans ((if_pos h_5).trans ((if_neg h_7).trans rfl))))).symm⟩ (by decide) (by decide) dX5_send_73
      · refine lv_if_ne (tgt := 29) hx hb dX5_send_22 (by decide) (fun c_16 => absurd (show ¬ (0 : Int32) = 0 from c_16) (by decide)) (fun _ => ?_)
        refine lv_iconst (v := 1) hx hb dX5_send_25 (by decide) ?_
        refine lv_goto (tgt := 62) hx hb dX5_send_26 (by decide) ?_
        refine m_put hM hE hX hR 24 (by decide) rfl (by decide) k_1091 rfl rfl rfl rfl dX5_send_62 (fun F H locs hX hR => ?_)
        refine lv_aload_n hx hb dX5_send_65 rfl (lv_at hl 0 rfl) ?_
        refine m_get hM hE hX hR 24 (by decide) k_1091 rfl rfl dX5_send_66 ?_
        refine lv_if_le (tgt := 74) hx hb dX5_send_69 (by decide) (fun c_17 => absurd (show (1 : Int32) ≤ 0 from c_17) (by decide)) (fun _ => ?_)
        refine lv_iconst (v := 0) hx hb dX5_send_72 (by decide) ?_
        exact k_iret hM hsz hX ⟨_, rfl, rfl, _, hR, (show sendM M a b z x y = _ from ((if_pos h_1).trans ((if_pos h_3).trans ((if_neg h_5).trans rfl)))).symm⟩ (by decide) (by decide) dX5_send_73
    · refine lv_if_eq (tgt := 25) hx hb dX5_send_12 (by decide) (fun _ => ?_) (fun c_18 => absurd (show ¬ (0 : Int32) = 0 from c_18) (by decide))
      refine lv_iconst (v := 1) hx hb dX5_send_25 (by decide) ?_
      refine lv_goto (tgt := 62) hx hb dX5_send_26 (by decide) ?_
      refine m_put hM hE hX hR 24 (by decide) rfl (by decide) k_1091 rfl rfl rfl rfl dX5_send_62 (fun F H locs hX hR => ?_)
      refine lv_aload_n hx hb dX5_send_65 rfl (lv_at hl 0 rfl) ?_
      refine m_get hM hE hX hR 24 (by decide) k_1091 rfl rfl dX5_send_66 ?_
      refine lv_if_le (tgt := 74) hx hb dX5_send_69 (by decide) (fun c_19 => absurd (show (1 : Int32) ≤ 0 from c_19) (by decide)) (fun _ => ?_)
      refine lv_iconst (v := 0) hx hb dX5_send_72 (by decide) ?_
      exact k_iret hM hsz hX ⟨_, rfl, rfl, _, hR, (show sendM M a b z x y = _ from ((if_pos h_1).trans ((if_neg h_3).trans rfl))).symm⟩ (by decide) (by decide) dX5_send_73
  · refine lv_if_eq (tgt := 25) hx hb dX5_send_5 (by decide) (fun _ => ?_) (fun c_20 => absurd (show ¬ (0 : Int32) = 0 from c_20) (by decide))
    refine lv_iconst (v := 1) hx hb dX5_send_25 (by decide) ?_
    refine lv_goto (tgt := 62) hx hb dX5_send_26 (by decide) ?_
    refine m_put hM hE hX hR 24 (by decide) rfl (by decide) k_1091 rfl rfl rfl rfl dX5_send_62 (fun F H locs hX hR => ?_)
    refine lv_aload_n hx hb dX5_send_65 rfl (lv_at hl 0 rfl) ?_
    refine m_get hM hE hX hR 24 (by decide) k_1091 rfl rfl dX5_send_66 ?_
    refine lv_if_le (tgt := 74) hx hb dX5_send_69 (by decide) (fun c_21 => absurd (show (1 : Int32) ≤ 0 from c_21) (by decide)) (fun _ => ?_)
    refine lv_iconst (v := 0) hx hb dX5_send_72 (by decide) ?_
    exact k_iret hM hsz hX ⟨_, rfl, rfl, _, hR, (show sendM M a b z x y = _ from ((if_neg h_1).trans rfl)).symm⟩ (by decide) (by decide) dX5_send_73
def addLineM (M : mM) (a x y : Int32) : Int32 × mM := (if 0 ≤ a ∧ a ≤ (M 2 0) - 1 then (if (1 ≤ x ∧ x ≤ 9999) ∧ (y = 0 ∨ y = 7 ∨ y = 19) then (if (M 6 (kj a)) = 0 then (if (M 7 (kj a)) = (M 0 0) then (if (M 13 (kj a)) = 3 then (0, (mset (mset M 24 0 0) 24 0 3)) else (if (hasC (mset M 24 0 0) a) = 0 then ((((addsM (mset (mset M 24 0 0) 24 0 0) (kj a) x y) 13 (kj a)) - 1), (addsM (mset (mset M 24 0 0) 24 0 0) (kj a) x y)) else (0, (mset (mset M 24 0 0) 24 0 3)))) else (0, (mset (mset M 24 0 0) 24 0 3))) else (0, (mset (mset M 24 0 0) 24 0 3))) else (0, (mset M 24 0 2))) else (0, (mset M 24 0 1)))
set_option maxHeartbeats 4000000 in
set_option maxRecDepth 100000 in
theorem c_X5_addLine (l : Launch) (γ : kG) (L : List Nat) (F : kF) (o : Nat) (ad : Nat → Nat) (M : mM) (hR : RepM γ L F o ad M) (a x y : Int32) (hn : okN M) (hk : ∀ i, i < nn M → okL M i) (hc : okC M) : kC l yX5_addLine cX5_addLine 4 (some .int) (kRm 4 0 0) γ L F [.ref o, .int a, .int x, .int y] (kI fun r L1 F1 => L = L1 ∧ ∃ M1, RepM γ L1 F1 o ad M1 ∧ (r, M1) = addLineM M a x y) := by
  refine kC_of (by decide +kernel) (Nat.le_of_ble_eq_true rfl) ?_
  intro p e s m args below meth c sz ls hargs hsz hM hin hE hX hl
  have hx := hM.1
  have hb := hM.2.1
  have hl : lv_has ls 4 [(0, .ref o), (1, .int a), (2, .int x), (3, .int y)] := hl
  have hn2 := hn.2
  refine lv_aload_n hx hb dX5_addLine_0 rfl (lv_at hl 0 rfl) ?_
  refine lv_aload_n hx hb dX5_addLine_1 rfl (lv_at hl 0 rfl) ?_
  refine lv_iload_n hx hb dX5_addLine_2 rfl (lv_at hl 1 rfl) ?_
  refine k_goi (k_V (n := 1) (As := [.int a]) (rest := [.ref o]) hM hE hX hl (c_X5_isInvoice l γ L F o ad M hR a) hR.1 hR.2.1 rfl k_1169 k_1171 kp_28 k_9 k_1172 ⟨rfl, by decide, by decide, by decide +kernel⟩ (by decide) rfl rfl (Nat.le_of_ble_eq_true rfl) dX5_addLine_3 (by decide)) hE hX (fun r L1 F1 H locs hp hX => ?_)
  obtain ⟨rfl, rfl, ⟨rfl, h_1⟩ | ⟨rfl, h_1⟩⟩ := hp
  · have hj : okI a (nn M) := ixM (M := M) hn h_1
    have hj2 : kj a < nn M := hj.2
    refine lv_if_ne (tgt := 13) hx hb dX5_addLine_6 (by decide) (fun _ => ?_) (fun c_2 => absurd (show (1 : Int32) = 0 from c_2) (by decide))
    refine lv_iload_n hx hb dX5_addLine_13 rfl (lv_at hl 2 rfl) ?_
    refine lv_iload_n hx hb dX5_addLine_14 rfl (lv_at hl 3 rfl) ?_
    refine k_goi (k_S (n := 2) (As := [.int x, .int y]) (rest := [.ref o]) hM hE hX hl (c_X5_isGood l γ L F x y) k_1158 k_1159 k_9 k_1160 ⟨by decide, by decide, by decide +kernel⟩ (by decide) rfl rfl (Nat.le_of_ble_eq_true rfl) dX5_addLine_15 (by decide)) hE hX (fun r L1 F1 H locs hp hX => ?_)
    obtain ⟨rfl, rfl, ⟨rfl, h_3⟩ | ⟨rfl, h_3⟩⟩ := hp
    · refine lv_if_ne (tgt := 25) hx hb dX5_addLine_18 (by decide) (fun _ => ?_) (fun c_4 => absurd (show (1 : Int32) = 0 from c_4) (by decide))
      refine lv_iconst (v := 0) hx hb dX5_addLine_25 (by decide) ?_
      refine m_put hM hE hX hR 24 (by decide) rfl (by decide) k_1091 rfl rfl rfl rfl dX5_addLine_26 (fun F H locs hX hR => ?_)
      refine lv_aload_n hx hb dX5_addLine_29 rfl (lv_at hl 0 rfl) ?_
      refine m_get hM hE hX hR 24 (by decide) k_1091 rfl rfl dX5_addLine_30 ?_
      refine lv_if_le (tgt := 38) hx hb dX5_addLine_33 (by decide) (fun _ => ?_) (fun c_5 => absurd (show ¬ (0 : Int32) ≤ 0 from c_5) (by decide))
      refine lv_aload_n hx hb dX5_addLine_38 rfl (lv_at hl 0 rfl) ?_
      refine lv_aload_n hx hb dX5_addLine_39 rfl (lv_at hl 0 rfl) ?_
      refine m_get hM hE hX hR 6 (by decide) k_1073 rfl rfl dX5_addLine_40 ?_
      refine lv_iload_n hx hb dX5_addLine_43 rfl (lv_at hl 1 rfl) ?_
      refine m_iald hM hE hX hR 6 (kj a) (by decide) rfl rfl hj.1 (show kj a < 20 by omega) dX5_addLine_44 ?_
      refine lv_if_ne (tgt := 79) hx hb dX5_addLine_45 (by decide) (fun c_6 => ?_) (fun c_6 => ?_)
      · refine lv_iconst (v := 3) hx hb dX5_addLine_79 (by decide) ?_
        refine lv_goto (tgt := 84) hx hb dX5_addLine_80 (by decide) ?_
        refine m_put hM hE hX hR 24 (by decide) rfl (by decide) k_1091 rfl rfl rfl rfl dX5_addLine_84 (fun F H locs hX hR => ?_)
        refine lv_aload_n hx hb dX5_addLine_87 rfl (lv_at hl 0 rfl) ?_
        refine m_get hM hE hX hR 24 (by decide) k_1091 rfl rfl dX5_addLine_88 ?_
        refine lv_if_le (tgt := 96) hx hb dX5_addLine_91 (by decide) (fun c_7 => absurd (show (3 : Int32) ≤ 0 from c_7) (by decide)) (fun _ => ?_)
        refine lv_iconst (v := 0) hx hb dX5_addLine_94 (by decide) ?_
        exact k_iret hM hsz hX ⟨_, rfl, rfl, _, hR, (show addLineM M a x y = _ from ((if_pos h_1).trans ((if_pos h_3).trans ((if_neg c_6).trans rfl)))).symm⟩ (by decide) (by decide) dX5_addLine_95
      · refine lv_aload_n hx hb dX5_addLine_48 rfl (lv_at hl 0 rfl) ?_
        refine m_get hM hE hX hR 7 (by decide) k_1074 rfl rfl dX5_addLine_49 ?_
        refine lv_iload_n hx hb dX5_addLine_52 rfl (lv_at hl 1 rfl) ?_
        refine m_iald hM hE hX hR 7 (kj a) (by decide) rfl rfl hj.1 (show kj a < 20 by omega) dX5_addLine_53 ?_
        refine lv_aload_n hx hb dX5_addLine_54 rfl (lv_at hl 0 rfl) ?_
        refine m_get hM hE hX hR 0 (by decide) k_1067 rfl rfl dX5_addLine_55 ?_
        refine lv_icmp_ne (tgt := 79) hx hb dX5_addLine_58 (by decide) (fun c_8 => ?_) (fun c_8 => ?_)
        · refine lv_iconst (v := 3) hx hb dX5_addLine_79 (by decide) ?_
          refine lv_goto (tgt := 84) hx hb dX5_addLine_80 (by decide) ?_
          refine m_put hM hE hX hR 24 (by decide) rfl (by decide) k_1091 rfl rfl rfl rfl dX5_addLine_84 (fun F H locs hX hR => ?_)
          refine lv_aload_n hx hb dX5_addLine_87 rfl (lv_at hl 0 rfl) ?_
          refine m_get hM hE hX hR 24 (by decide) k_1091 rfl rfl dX5_addLine_88 ?_
          refine lv_if_le (tgt := 96) hx hb dX5_addLine_91 (by decide) (fun c_9 => absurd (show (3 : Int32) ≤ 0 from c_9) (by decide)) (fun _ => ?_)
          refine lv_iconst (v := 0) hx hb dX5_addLine_94 (by decide) ?_
          exact k_iret hM hsz hX ⟨_, rfl, rfl, _, hR, (show addLineM M a x y = _ from ((if_pos h_1).trans ((if_pos h_3).trans ((if_pos c_6).trans ((if_neg c_8).trans rfl))))).symm⟩ (by decide) (by decide) dX5_addLine_95
        · refine lv_aload_n hx hb dX5_addLine_61 rfl (lv_at hl 0 rfl) ?_
          refine m_get hM hE hX hR 13 (by decide) k_1080 rfl rfl dX5_addLine_62 ?_
          refine lv_iload_n hx hb dX5_addLine_65 rfl (lv_at hl 1 rfl) ?_
          refine m_iald hM hE hX hR 13 (kj a) (by decide) rfl rfl hj.1 (show kj a < 20 by omega) dX5_addLine_66 ?_
          refine lv_iconst (v := 3) hx hb dX5_addLine_67 (by decide) ?_
          refine lv_icmp_eq (tgt := 79) hx hb dX5_addLine_68 (by decide) (fun c_10 => ?_) (fun c_10 => ?_)
          · refine lv_iconst (v := 3) hx hb dX5_addLine_79 (by decide) ?_
            refine lv_goto (tgt := 84) hx hb dX5_addLine_80 (by decide) ?_
            refine m_put hM hE hX hR 24 (by decide) rfl (by decide) k_1091 rfl rfl rfl rfl dX5_addLine_84 (fun F H locs hX hR => ?_)
            refine lv_aload_n hx hb dX5_addLine_87 rfl (lv_at hl 0 rfl) ?_
            refine m_get hM hE hX hR 24 (by decide) k_1091 rfl rfl dX5_addLine_88 ?_
            refine lv_if_le (tgt := 96) hx hb dX5_addLine_91 (by decide) (fun c_11 => absurd (show (3 : Int32) ≤ 0 from c_11) (by decide)) (fun _ => ?_)
            refine lv_iconst (v := 0) hx hb dX5_addLine_94 (by decide) ?_
            exact k_iret hM hsz hX ⟨_, rfl, rfl, _, hR, (show addLineM M a x y = _ from ((if_pos h_1).trans ((if_pos h_3).trans ((if_pos c_6).trans ((if_pos c_8).trans ((if_pos c_10).trans rfl)))))).symm⟩ (by decide) (by decide) dX5_addLine_95
          · refine lv_aload_n hx hb dX5_addLine_71 rfl (lv_at hl 0 rfl) ?_
            refine lv_iload_n hx hb dX5_addLine_72 rfl (lv_at hl 1 rfl) ?_
            refine k_goi (k_V (n := 1) (As := [.int a]) (rest := [.ref o]) hM hE hX hl (c_X5_hasCredit l γ L F o ad (mset M 24 0 0) hR a hc) hR.1 hR.2.1 rfl k_1173 k_1175 kp_29 k_9 k_1176 ⟨rfl, by decide, by decide, by decide +kernel⟩ (by decide) rfl rfl (Nat.le_of_ble_eq_true rfl) dX5_addLine_73 (by decide)) hE hX (fun r L1 F1 H locs hp hX => ?_)
            obtain ⟨rfl, rfl, rfl⟩ := hp
            refine lv_if_eq (tgt := 83) hx hb dX5_addLine_76 (by decide) (fun c_12 => ?_) (fun c_12 => ?_)
            · refine lv_iconst (v := 0) hx hb dX5_addLine_83 (by decide) ?_
              refine m_put hM hE hX hR 24 (by decide) rfl (by decide) k_1091 rfl rfl rfl rfl dX5_addLine_84 (fun F H locs hX hR => ?_)
              refine lv_aload_n hx hb dX5_addLine_87 rfl (lv_at hl 0 rfl) ?_
              refine m_get hM hE hX hR 24 (by decide) k_1091 rfl rfl dX5_addLine_88 ?_
              refine lv_if_le (tgt := 96) hx hb dX5_addLine_91 (by decide) (fun _ => ?_) (fun c_13 => absurd (show ¬ (0 : Int32) ≤ 0 from c_13) (by decide))
              have h3 : kk M (kj a) < 3 := lt_of_ne (hk _ hj.2) rfl c_10
              refine lv_aload_n hx hb dX5_addLine_96 rfl (lv_at hl 0 rfl) ?_
              refine lv_iload_n hx hb dX5_addLine_97 rfl (lv_at hl 1 rfl) ?_
              refine lv_iload_n hx hb dX5_addLine_98 rfl (lv_at hl 2 rfl) ?_
              refine lv_iload_n hx hb dX5_addLine_99 rfl (lv_at hl 3 rfl) ?_
              refine k_gou (k_V (n := 3) (As := [.int a, .int x, .int y]) (rest := []) hM hE hX hl (c_X5_adds l γ L F o ad (mset (mset M 24 0 0) 24 0 0) hR (kj a) a x y hj.1 (by omega) (hk _ hj.2) h3) hR.1 hR.2.1 rfl k_1161 k_1163 kp_27 k_9 k_1164 ⟨rfl, by decide, by decide, by decide +kernel⟩ (by decide) rfl rfl (Nat.le_of_ble_eq_true rfl) dX5_addLine_100 (by decide)) hE hX (fun L1 F H locs hp hX => ?_)
              obtain ⟨rfl, M1, hR, rfl⟩ := hp
              refine lv_aload_n hx hb dX5_addLine_103 rfl (lv_at hl 0 rfl) ?_
              refine m_get hM hE hX hR 13 (by decide) k_1080 rfl rfl dX5_addLine_104 ?_
              refine lv_iload_n hx hb dX5_addLine_107 rfl (lv_at hl 1 rfl) ?_
              refine m_iald hM hE hX hR 13 (kj a) (by decide) rfl rfl hj.1 (show kj a < 20 by omega) dX5_addLine_108 ?_
              refine lv_iconst (v := 1) hx hb dX5_addLine_109 (by decide) ?_
              refine lv_isub hx hb dX5_addLine_110 ?_
              exact k_iret hM hsz hX ⟨_, rfl, rfl, _, hR, (show addLineM M a x y = _ from ((if_pos h_1).trans ((if_pos h_3).trans ((if_pos c_6).trans ((if_pos c_8).trans ((if_neg c_10).trans ((if_pos c_12).trans rfl))))))).symm⟩ (by decide) (by decide) dX5_addLine_111
            · refine lv_iconst (v := 3) hx hb dX5_addLine_79 (by decide) ?_
              refine lv_goto (tgt := 84) hx hb dX5_addLine_80 (by decide) ?_
              refine m_put hM hE hX hR 24 (by decide) rfl (by decide) k_1091 rfl rfl rfl rfl dX5_addLine_84 (fun F H locs hX hR => ?_)
              refine lv_aload_n hx hb dX5_addLine_87 rfl (lv_at hl 0 rfl) ?_
              refine m_get hM hE hX hR 24 (by decide) k_1091 rfl rfl dX5_addLine_88 ?_
              refine lv_if_le (tgt := 96) hx hb dX5_addLine_91 (by decide) (fun c_14 => absurd (show (3 : Int32) ≤ 0 from c_14) (by decide)) (fun _ => ?_)
              refine lv_iconst (v := 0) hx hb dX5_addLine_94 (by decide) ?_
              exact k_iret hM hsz hX ⟨_, rfl, rfl, _, hR, (show addLineM M a x y = _ from ((if_pos h_1).trans ((if_pos h_3).trans ((if_pos c_6).trans ((if_pos c_8).trans ((if_neg c_10).trans ((if_neg c_12).trans rfl))))))).symm⟩ (by decide) (by decide) dX5_addLine_95
    · refine lv_if_ne (tgt := 25) hx hb dX5_addLine_18 (by decide) (fun c_15 => absurd (show ¬ (0 : Int32) = 0 from c_15) (by decide)) (fun _ => ?_)
      refine lv_iconst (v := 2) hx hb dX5_addLine_21 (by decide) ?_
      refine lv_goto (tgt := 26) hx hb dX5_addLine_22 (by decide) ?_
      refine m_put hM hE hX hR 24 (by decide) rfl (by decide) k_1091 rfl rfl rfl rfl dX5_addLine_26 (fun F H locs hX hR => ?_)
      refine lv_aload_n hx hb dX5_addLine_29 rfl (lv_at hl 0 rfl) ?_
      refine m_get hM hE hX hR 24 (by decide) k_1091 rfl rfl dX5_addLine_30 ?_
      refine lv_if_le (tgt := 38) hx hb dX5_addLine_33 (by decide) (fun c_16 => absurd (show (2 : Int32) ≤ 0 from c_16) (by decide)) (fun _ => ?_)
      refine lv_iconst (v := 0) hx hb dX5_addLine_36 (by decide) ?_
      exact k_iret hM hsz hX ⟨_, rfl, rfl, _, hR, (show addLineM M a x y = _ from ((if_pos h_1).trans ((if_neg h_3).trans rfl))).symm⟩ (by decide) (by decide) dX5_addLine_37
  · refine lv_if_ne (tgt := 13) hx hb dX5_addLine_6 (by decide) (fun c_17 => absurd (show ¬ (0 : Int32) = 0 from c_17) (by decide)) (fun _ => ?_)
    refine lv_iconst (v := 1) hx hb dX5_addLine_9 (by decide) ?_
    refine lv_goto (tgt := 26) hx hb dX5_addLine_10 (by decide) ?_
    refine m_put hM hE hX hR 24 (by decide) rfl (by decide) k_1091 rfl rfl rfl rfl dX5_addLine_26 (fun F H locs hX hR => ?_)
    refine lv_aload_n hx hb dX5_addLine_29 rfl (lv_at hl 0 rfl) ?_
    refine m_get hM hE hX hR 24 (by decide) k_1091 rfl rfl dX5_addLine_30 ?_
    refine lv_if_le (tgt := 38) hx hb dX5_addLine_33 (by decide) (fun c_18 => absurd (show (1 : Int32) ≤ 0 from c_18) (by decide)) (fun _ => ?_)
    refine lv_iconst (v := 0) hx hb dX5_addLine_36 (by decide) ?_
    exact k_iret hM hsz hX ⟨_, rfl, rfl, _, hR, (show addLineM M a x y = _ from ((if_neg h_1).trans rfl)).symm⟩ (by decide) (by decide) dX5_addLine_37
def acceptM (M : mM) (a : Int32) : Int32 × mM := (if 0 ≤ a ∧ a ≤ (M 2 0) - 1 then (if (M 6 (kj a)) = 0 then ((owed (mset (mset (mset M 24 0 0) 6 (kj a) 1) 8 (kj a) (M 0 0)) (kj a)), (mset (mset (mset M 24 0 0) 6 (kj a) 1) 8 (kj a) (M 0 0))) else (0, (mset M 24 0 2))) else (0, (mset M 24 0 1)))
set_option maxHeartbeats 4000000 in
set_option maxRecDepth 100000 in
theorem c_X5_accept (l : Launch) (γ : kG) (L : List Nat) (F : kF) (o : Nat) (ad : Nat → Nat) (M : mM) (hR : RepM γ L F o ad M) (a : Int32) (hn : okN M) (hk : ∀ i, i < nn M → okL M i) : kC l yX5_accept cX5_accept 2 (some .int) (kRm 4 0 0) γ L F [.ref o, .int a] (kI fun r L1 F1 => L = L1 ∧ ∃ M1, RepM γ L1 F1 o ad M1 ∧ (r, M1) = acceptM M a) := by
  refine kC_of (by decide +kernel) (Nat.le_of_ble_eq_true rfl) ?_
  intro p e s m args below meth c sz ls hargs hsz hM hin hE hX hl
  have hx := hM.1
  have hb := hM.2.1
  have hl : lv_has ls 2 [(0, .ref o), (1, .int a)] := hl
  have hn2 := hn.2
  refine lv_aload_n hx hb dX5_accept_0 rfl (lv_at hl 0 rfl) ?_
  refine lv_aload_n hx hb dX5_accept_1 rfl (lv_at hl 0 rfl) ?_
  refine lv_iload_n hx hb dX5_accept_2 rfl (lv_at hl 1 rfl) ?_
  refine k_goi (k_V (n := 1) (As := [.int a]) (rest := [.ref o]) hM hE hX hl (c_X5_isInvoice l γ L F o ad M hR a) hR.1 hR.2.1 rfl k_1169 k_1171 kp_28 k_9 k_1172 ⟨rfl, by decide, by decide, by decide +kernel⟩ (by decide) rfl rfl (Nat.le_of_ble_eq_true rfl) dX5_accept_3 (by decide)) hE hX (fun r L1 F1 H locs hp hX => ?_)
  obtain ⟨rfl, rfl, ⟨rfl, h_1⟩ | ⟨rfl, h_1⟩⟩ := hp
  · have hj : okI a (nn M) := ixM (M := M) hn h_1
    have hj2 : kj a < nn M := hj.2
    refine lv_if_ne (tgt := 13) hx hb dX5_accept_6 (by decide) (fun _ => ?_) (fun c_2 => absurd (show (1 : Int32) = 0 from c_2) (by decide))
    refine lv_aload_n hx hb dX5_accept_13 rfl (lv_at hl 0 rfl) ?_
    refine m_get hM hE hX hR 6 (by decide) k_1073 rfl rfl dX5_accept_14 ?_
    refine lv_iload_n hx hb dX5_accept_17 rfl (lv_at hl 1 rfl) ?_
    refine m_iald hM hE hX hR 6 (kj a) (by decide) rfl rfl hj.1 (show kj a < 20 by omega) dX5_accept_18 ?_
    refine lv_if_eq (tgt := 26) hx hb dX5_accept_19 (by decide) (fun c_3 => ?_) (fun c_3 => ?_)
    · refine lv_iconst (v := 0) hx hb dX5_accept_26 (by decide) ?_
      refine m_put hM hE hX hR 24 (by decide) rfl (by decide) k_1091 rfl rfl rfl rfl dX5_accept_27 (fun F H locs hX hR => ?_)
      refine lv_aload_n hx hb dX5_accept_30 rfl (lv_at hl 0 rfl) ?_
      refine m_get hM hE hX hR 24 (by decide) k_1091 rfl rfl dX5_accept_31 ?_
      refine lv_if_le (tgt := 39) hx hb dX5_accept_34 (by decide) (fun _ => ?_) (fun c_4 => absurd (show ¬ (0 : Int32) ≤ 0 from c_4) (by decide))
      refine lv_aload_n hx hb dX5_accept_39 rfl (lv_at hl 0 rfl) ?_
      refine m_get hM hE hX hR 6 (by decide) k_1073 rfl rfl dX5_accept_40 ?_
      refine lv_iload_n hx hb dX5_accept_43 rfl (lv_at hl 1 rfl) ?_
      refine lv_iconst (v := 1) hx hb dX5_accept_44 (by decide) ?_
      refine m_iast hM hE hX hR 6 (kj a) (by decide) rfl rfl hj.1 (show kj a < 20 by omega) dX5_accept_45 (fun F H locs hX hR => ?_)
      refine lv_aload_n hx hb dX5_accept_46 rfl (lv_at hl 0 rfl) ?_
      refine m_get hM hE hX hR 8 (by decide) k_1075 rfl rfl dX5_accept_47 ?_
      refine lv_iload_n hx hb dX5_accept_50 rfl (lv_at hl 1 rfl) ?_
      refine lv_aload_n hx hb dX5_accept_51 rfl (lv_at hl 0 rfl) ?_
      refine m_get hM hE hX hR 0 (by decide) k_1067 rfl rfl dX5_accept_52 ?_
      refine m_iast hM hE hX hR 8 (kj a) (by decide) rfl rfl hj.1 (show kj a < 20 by omega) dX5_accept_55 (fun F H locs hX hR => ?_)
      refine lv_aload_n hx hb dX5_accept_56 rfl (lv_at hl 0 rfl) ?_
      refine lv_iload_n hx hb dX5_accept_57 rfl (lv_at hl 1 rfl) ?_
      refine k_goi (k_V (n := 1) (As := [.int a]) (rest := []) hM hE hX hl (c_X5_owed l γ L F o ad (mset (mset (mset M 24 0 0) 6 (kj a) 1) 8 (kj a) (M 0 0)) hR (kj a) a hj.1 (by omega) (hk _ hj.2)) hR.1 hR.2.1 rfl k_1181 k_1183 kp_30 k_9 k_1184 ⟨rfl, by decide, by decide, by decide +kernel⟩ (by decide) rfl rfl (Nat.le_of_ble_eq_true rfl) dX5_accept_58 (by decide)) hE hX (fun r L1 F1 H locs hp hX => ?_)
      obtain ⟨rfl, rfl, rfl⟩ := hp
      exact k_iret hM hsz hX ⟨_, rfl, rfl, _, hR, (show acceptM M a = _ from ((if_pos h_1).trans ((if_pos c_3).trans rfl))).symm⟩ (by decide) (by decide) dX5_accept_61
    · refine lv_iconst (v := 2) hx hb dX5_accept_22 (by decide) ?_
      refine lv_goto (tgt := 27) hx hb dX5_accept_23 (by decide) ?_
      refine m_put hM hE hX hR 24 (by decide) rfl (by decide) k_1091 rfl rfl rfl rfl dX5_accept_27 (fun F H locs hX hR => ?_)
      refine lv_aload_n hx hb dX5_accept_30 rfl (lv_at hl 0 rfl) ?_
      refine m_get hM hE hX hR 24 (by decide) k_1091 rfl rfl dX5_accept_31 ?_
      refine lv_if_le (tgt := 39) hx hb dX5_accept_34 (by decide) (fun c_5 => absurd (show (2 : Int32) ≤ 0 from c_5) (by decide)) (fun _ => ?_)
      refine lv_iconst (v := 0) hx hb dX5_accept_37 (by decide) ?_
      exact k_iret hM hsz hX ⟨_, rfl, rfl, _, hR, (show acceptM M a = _ from ((if_pos h_1).trans ((if_neg c_3).trans rfl))).symm⟩ (by decide) (by decide) dX5_accept_38
  · refine lv_if_ne (tgt := 13) hx hb dX5_accept_6 (by decide) (fun c_6 => absurd (show ¬ (0 : Int32) = 0 from c_6) (by decide)) (fun _ => ?_)
    refine lv_iconst (v := 1) hx hb dX5_accept_9 (by decide) ?_
    refine lv_goto (tgt := 27) hx hb dX5_accept_10 (by decide) ?_
    refine m_put hM hE hX hR 24 (by decide) rfl (by decide) k_1091 rfl rfl rfl rfl dX5_accept_27 (fun F H locs hX hR => ?_)
    refine lv_aload_n hx hb dX5_accept_30 rfl (lv_at hl 0 rfl) ?_
    refine m_get hM hE hX hR 24 (by decide) k_1091 rfl rfl dX5_accept_31 ?_
    refine lv_if_le (tgt := 39) hx hb dX5_accept_34 (by decide) (fun c_7 => absurd (show (1 : Int32) ≤ 0 from c_7) (by decide)) (fun _ => ?_)
    refine lv_iconst (v := 0) hx hb dX5_accept_37 (by decide) ?_
    exact k_iret hM hsz hX ⟨_, rfl, rfl, _, hR, (show acceptM M a = _ from ((if_neg h_1).trans rfl)).symm⟩ (by decide) (by decide) dX5_accept_38
def refuseM (M : mM) (a : Int32) : Int32 × mM := (if 0 ≤ a ∧ a ≤ (M 2 0) - 1 then (if (M 6 (kj a)) = 0 then ((costs (mset (mset M 24 0 0) 6 (kj a) 2) (kj a) 1), (mset (mset M 24 0 0) 6 (kj a) 2)) else (0, (mset M 24 0 2))) else (0, (mset M 24 0 1)))
set_option maxHeartbeats 4000000 in
set_option maxRecDepth 100000 in
theorem c_X5_refuse (l : Launch) (γ : kG) (L : List Nat) (F : kF) (o : Nat) (ad : Nat → Nat) (M : mM) (hR : RepM γ L F o ad M) (a : Int32) (hn : okN M) (hk : ∀ i, i < nn M → okL M i) : kC l yX5_refuse cX5_refuse 2 (some .int) (kRm 4 0 0) γ L F [.ref o, .int a] (kI fun r L1 F1 => L = L1 ∧ ∃ M1, RepM γ L1 F1 o ad M1 ∧ (r, M1) = refuseM M a) := by
  refine kC_of (by decide +kernel) (Nat.le_of_ble_eq_true rfl) ?_
  intro p e s m args below meth c sz ls hargs hsz hM hin hE hX hl
  have hx := hM.1
  have hb := hM.2.1
  have hl : lv_has ls 2 [(0, .ref o), (1, .int a)] := hl
  have hn2 := hn.2
  refine lv_aload_n hx hb dX5_refuse_0 rfl (lv_at hl 0 rfl) ?_
  refine lv_aload_n hx hb dX5_refuse_1 rfl (lv_at hl 0 rfl) ?_
  refine lv_iload_n hx hb dX5_refuse_2 rfl (lv_at hl 1 rfl) ?_
  refine k_goi (k_V (n := 1) (As := [.int a]) (rest := [.ref o]) hM hE hX hl (c_X5_isInvoice l γ L F o ad M hR a) hR.1 hR.2.1 rfl k_1169 k_1171 kp_28 k_9 k_1172 ⟨rfl, by decide, by decide, by decide +kernel⟩ (by decide) rfl rfl (Nat.le_of_ble_eq_true rfl) dX5_refuse_3 (by decide)) hE hX (fun r L1 F1 H locs hp hX => ?_)
  obtain ⟨rfl, rfl, ⟨rfl, h_1⟩ | ⟨rfl, h_1⟩⟩ := hp
  · have hj : okI a (nn M) := ixM (M := M) hn h_1
    have hj2 : kj a < nn M := hj.2
    refine lv_if_ne (tgt := 13) hx hb dX5_refuse_6 (by decide) (fun _ => ?_) (fun c_2 => absurd (show (1 : Int32) = 0 from c_2) (by decide))
    refine lv_aload_n hx hb dX5_refuse_13 rfl (lv_at hl 0 rfl) ?_
    refine m_get hM hE hX hR 6 (by decide) k_1073 rfl rfl dX5_refuse_14 ?_
    refine lv_iload_n hx hb dX5_refuse_17 rfl (lv_at hl 1 rfl) ?_
    refine m_iald hM hE hX hR 6 (kj a) (by decide) rfl rfl hj.1 (show kj a < 20 by omega) dX5_refuse_18 ?_
    refine lv_if_eq (tgt := 26) hx hb dX5_refuse_19 (by decide) (fun c_3 => ?_) (fun c_3 => ?_)
    · refine lv_iconst (v := 0) hx hb dX5_refuse_26 (by decide) ?_
      refine m_put hM hE hX hR 24 (by decide) rfl (by decide) k_1091 rfl rfl rfl rfl dX5_refuse_27 (fun F H locs hX hR => ?_)
      refine lv_aload_n hx hb dX5_refuse_30 rfl (lv_at hl 0 rfl) ?_
      refine m_get hM hE hX hR 24 (by decide) k_1091 rfl rfl dX5_refuse_31 ?_
      refine lv_if_le (tgt := 39) hx hb dX5_refuse_34 (by decide) (fun _ => ?_) (fun c_4 => absurd (show ¬ (0 : Int32) ≤ 0 from c_4) (by decide))
      refine lv_aload_n hx hb dX5_refuse_39 rfl (lv_at hl 0 rfl) ?_
      refine m_get hM hE hX hR 6 (by decide) k_1073 rfl rfl dX5_refuse_40 ?_
      refine lv_iload_n hx hb dX5_refuse_43 rfl (lv_at hl 1 rfl) ?_
      refine lv_iconst (v := 2) hx hb dX5_refuse_44 (by decide) ?_
      refine m_iast hM hE hX hR 6 (kj a) (by decide) rfl rfl hj.1 (show kj a < 20 by omega) dX5_refuse_45 (fun F H locs hX hR => ?_)
      refine lv_aload_n hx hb dX5_refuse_46 rfl (lv_at hl 0 rfl) ?_
      refine lv_iload_n hx hb dX5_refuse_47 rfl (lv_at hl 1 rfl) ?_
      refine lv_iconst (v := 1) hx hb dX5_refuse_48 (by decide) ?_
      refine k_goi (k_V (n := 2) (As := [.int a, .int 1]) (rest := []) hM hE hX hl (c_X5_costs l γ L F o ad (mset (mset M 24 0 0) 6 (kj a) 2) hR (kj a) a 1 hj.1 (by omega) (hk _ hj.2)) hR.1 hR.2.1 rfl k_1185 k_1187 kp_31 k_9 k_1188 ⟨rfl, by decide, by decide, by decide +kernel⟩ (by decide) rfl rfl (Nat.le_of_ble_eq_true rfl) dX5_refuse_49 (by decide)) hE hX (fun r L1 F1 H locs hp hX => ?_)
      obtain ⟨rfl, rfl, rfl⟩ := hp
      exact k_iret hM hsz hX ⟨_, rfl, rfl, _, hR, (show refuseM M a = _ from ((if_pos h_1).trans ((if_pos c_3).trans rfl))).symm⟩ (by decide) (by decide) dX5_refuse_52
    · refine lv_iconst (v := 2) hx hb dX5_refuse_22 (by decide) ?_
      refine lv_goto (tgt := 27) hx hb dX5_refuse_23 (by decide) ?_
      refine m_put hM hE hX hR 24 (by decide) rfl (by decide) k_1091 rfl rfl rfl rfl dX5_refuse_27 (fun F H locs hX hR => ?_)
      refine lv_aload_n hx hb dX5_refuse_30 rfl (lv_at hl 0 rfl) ?_
      refine m_get hM hE hX hR 24 (by decide) k_1091 rfl rfl dX5_refuse_31 ?_
      refine lv_if_le (tgt := 39) hx hb dX5_refuse_34 (by decide) (fun c_5 => absurd (show (2 : Int32) ≤ 0 from c_5) (by decide)) (fun _ => ?_)
      refine lv_iconst (v := 0) hx hb dX5_refuse_37 (by decide) ?_
      exact k_iret hM hsz hX ⟨_, rfl, rfl, _, hR, (show refuseM M a = _ from ((if_pos h_1).trans ((if_neg c_3).trans rfl))).symm⟩ (by decide) (by decide) dX5_refuse_38
  · refine lv_if_ne (tgt := 13) hx hb dX5_refuse_6 (by decide) (fun c_6 => absurd (show ¬ (0 : Int32) = 0 from c_6) (by decide)) (fun _ => ?_)
    refine lv_iconst (v := 1) hx hb dX5_refuse_9 (by decide) ?_
    refine lv_goto (tgt := 27) hx hb dX5_refuse_10 (by decide) ?_
    refine m_put hM hE hX hR 24 (by decide) rfl (by decide) k_1091 rfl rfl rfl rfl dX5_refuse_27 (fun F H locs hX hR => ?_)
    refine lv_aload_n hx hb dX5_refuse_30 rfl (lv_at hl 0 rfl) ?_
    refine m_get hM hE hX hR 24 (by decide) k_1091 rfl rfl dX5_refuse_31 ?_
    refine lv_if_le (tgt := 39) hx hb dX5_refuse_34 (by decide) (fun c_7 => absurd (show (1 : Int32) ≤ 0 from c_7) (by decide)) (fun _ => ?_)
    refine lv_iconst (v := 0) hx hb dX5_refuse_37 (by decide) ?_
    exact k_iret hM hsz hX ⟨_, rfl, rfl, _, hR, (show refuseM M a = _ from ((if_neg h_1).trans rfl)).symm⟩ (by decide) (by decide) dX5_refuse_38
def creditM (M : mM) (a b x : Int32) : Int32 × mM := (if (0 ≤ a ∧ a ≤ M 2 0 - 1) ∧ 0 ≤ b ∧ b ≤ M 13 (kj a) - 1 then (if 1 ≤ x ∧ x ≤ 9999 then (if x ≤ (M 14 (3 * kj a + kj b)) then (if (M 6 (kj a)) = 2 then (0, (mset M 24 0 3)) else (if (M 18 0) = 24 then (0, (mset M 24 0 3)) else (((lessM (mset M 24 0 0) (kj a) (kj b) x) 14 (3 * kj a + kj b)), (lessM (mset M 24 0 0) (kj a) (kj b) x)))) else (0, (mset M 24 0 2))) else (0, (mset M 24 0 2))) else (0, (mset M 24 0 1)))
set_option maxHeartbeats 4000000 in
set_option maxRecDepth 100000 in
theorem c_X5_credit (l : Launch) (γ : kG) (L : List Nat) (F : kF) (o : Nat) (ad : Nat → Nat) (M : mM) (hR : RepM γ L F o ad M) (a b x : Int32) (hn : okN M) (hk : ∀ i, i < nn M → okL M i) (hc : okC M) : kC l yX5_credit cX5_credit 4 (some .int) (kRm 4 0 0) γ L F [.ref o, .int a, .int b, .int x] (kI fun r L1 F1 => L = L1 ∧ ∃ M1, RepM γ L1 F1 o ad M1 ∧ (r, M1) = creditM M a b x) := by
  refine kC_of (by decide +kernel) (Nat.le_of_ble_eq_true rfl) ?_
  intro p e s m args below meth c sz ls hargs hsz hM hin hE hX hl
  have hx := hM.1
  have hb := hM.2.1
  have hl : lv_has ls 4 [(0, .ref o), (1, .int a), (2, .int b), (3, .int x)] := hl
  have hn2 := hn.2
  refine lv_aload_n hx hb dX5_credit_0 rfl (lv_at hl 0 rfl) ?_
  refine lv_aload_n hx hb dX5_credit_1 rfl (lv_at hl 0 rfl) ?_
  refine lv_iload_n hx hb dX5_credit_2 rfl (lv_at hl 1 rfl) ?_
  refine lv_iload_n hx hb dX5_credit_3 rfl (lv_at hl 2 rfl) ?_
  refine k_goi (k_V (n := 2) (As := [.int a, .int b]) (rest := [.ref o]) hM hE hX hl (c_X5_isLine l γ L F o ad M hR a b hn hk) hR.1 hR.2.1 rfl k_1200 k_1202 kp_32 k_9 k_1203 ⟨rfl, by decide, by decide, by decide +kernel⟩ (by decide) rfl rfl (Nat.le_of_ble_eq_true rfl) dX5_credit_4 (by decide)) hE hX (fun r L1 F1 H locs hp hX => ?_)
  obtain ⟨rfl, rfl, ⟨rfl, h_1⟩ | ⟨rfl, h_1⟩⟩ := hp
  · have hj := ixM hn h_1.1
    have hj2 := hj.2
    have hq := ixL (hk _ hj.2) h_1.2
    have hq2 := hq.2
    have hk3 := (hk _ hj.2).2
    refine lv_if_ne (tgt := 14) hx hb dX5_credit_7 (by decide) (fun _ => ?_) (fun c_2 => absurd (show (1 : Int32) = 0 from c_2) (by decide))
    refine lv_iload_n hx hb dX5_credit_14 rfl (lv_at hl 3 rfl) ?_
    refine lv_iconst (v := 1) hx hb dX5_credit_15 (by decide) ?_
    refine lv_sipush (v := 9999) hx hb dX5_credit_16 (by decide) ?_
    refine k_goi (k_S (n := 3) (As := [.int x, .int 1, .int 9999]) (rest := [.ref o]) hM hE hX hl (c_X5_isIn l γ L F x 1 9999) k_1155 k_1156 k_9 k_1157 ⟨by decide, by decide, by decide +kernel⟩ (by decide) rfl rfl (Nat.le_of_ble_eq_true rfl) dX5_credit_19 (by decide)) hE hX (fun r L1 F1 H locs hp hX => ?_)
    obtain ⟨rfl, rfl, ⟨rfl, h_3⟩ | ⟨rfl, h_3⟩⟩ := hp
    · refine lv_if_eq (tgt := 39) hx hb dX5_credit_22 (by decide) (fun c_4 => absurd (show (1 : Int32) = 0 from c_4) (by decide)) (fun _ => ?_)
      refine lv_iload_n hx hb dX5_credit_25 rfl (lv_at hl 3 rfl) ?_
      refine lv_aload_n hx hb dX5_credit_26 rfl (lv_at hl 0 rfl) ?_
      refine m_get hM hE hX hR 14 (by decide) k_1081 rfl rfl dX5_credit_27 ?_
      refine lv_iconst (v := 3) hx hb dX5_credit_30 (by decide) ?_
      refine lv_iload_n hx hb dX5_credit_31 rfl (lv_at hl 1 rfl) ?_
      refine lv_imul hx hb dX5_credit_32 ?_
      refine lv_iload_n hx hb dX5_credit_33 rfl (lv_at hl 2 rfl) ?_
      refine lv_iadd hx hb dX5_credit_34 ?_
      refine m_iald hM hE hX hR 14 (3 * kj a + kj b) (by decide) rfl rfl (k3ab hj.1 hq.1) (show 3 * kj a + kj b < 60 by omega) dX5_credit_35 ?_
      refine lv_icmp_le (tgt := 43) hx hb dX5_credit_36 (by decide) (fun c_5 => ?_) (fun c_5 => ?_)
      · refine lv_aload_n hx hb dX5_credit_43 rfl (lv_at hl 0 rfl) ?_
        refine m_get hM hE hX hR 6 (by decide) k_1073 rfl rfl dX5_credit_44 ?_
        refine lv_iload_n hx hb dX5_credit_47 rfl (lv_at hl 1 rfl) ?_
        refine m_iald hM hE hX hR 6 (kj a) (by decide) rfl rfl hj.1 (show kj a < 20 by omega) dX5_credit_48 ?_
        refine lv_iconst (v := 2) hx hb dX5_credit_49 (by decide) ?_
        refine lv_icmp_eq (tgt := 62) hx hb dX5_credit_50 (by decide) (fun c_6 => ?_) (fun c_6 => ?_)
        · refine lv_iconst (v := 3) hx hb dX5_credit_62 (by decide) ?_
          refine lv_goto (tgt := 67) hx hb dX5_credit_63 (by decide) ?_
          refine m_put hM hE hX hR 24 (by decide) rfl (by decide) k_1091 rfl rfl rfl rfl dX5_credit_67 (fun F H locs hX hR => ?_)
          refine lv_aload_n hx hb dX5_credit_70 rfl (lv_at hl 0 rfl) ?_
          refine m_get hM hE hX hR 24 (by decide) k_1091 rfl rfl dX5_credit_71 ?_
          refine lv_if_le (tgt := 79) hx hb dX5_credit_74 (by decide) (fun c_7 => absurd (show (3 : Int32) ≤ 0 from c_7) (by decide)) (fun _ => ?_)
          refine lv_iconst (v := 0) hx hb dX5_credit_77 (by decide) ?_
          exact k_iret hM hsz hX ⟨_, rfl, rfl, _, hR, (show creditM M a b x = _ from ((if_pos h_1).trans ((if_pos h_3).trans ((if_pos c_5).trans ((if_pos c_6).trans rfl))))).symm⟩ (by decide) (by decide) dX5_credit_78
        · refine lv_aload_n hx hb dX5_credit_53 rfl (lv_at hl 0 rfl) ?_
          refine m_get hM hE hX hR 18 (by decide) k_1085 rfl rfl dX5_credit_54 ?_
          refine lv_bipush (v := 24) hx hb dX5_credit_57 (by decide) ?_
          refine lv_icmp_ne (tgt := 66) hx hb dX5_credit_59 (by decide) (fun c_8 => ?_) (fun c_8 => ?_)
          · refine lv_iconst (v := 0) hx hb dX5_credit_66 (by decide) ?_
            refine m_put hM hE hX hR 24 (by decide) rfl (by decide) k_1091 rfl rfl rfl rfl dX5_credit_67 (fun F H locs hX hR => ?_)
            refine lv_aload_n hx hb dX5_credit_70 rfl (lv_at hl 0 rfl) ?_
            refine m_get hM hE hX hR 24 (by decide) k_1091 rfl rfl dX5_credit_71 ?_
            refine lv_if_le (tgt := 79) hx hb dX5_credit_74 (by decide) (fun _ => ?_) (fun c_9 => absurd (show ¬ (0 : Int32) ≤ 0 from c_9) (by decide))
            have hc24 : cc M < 24 := lt_of_ne hc rfl c_8
            refine lv_aload_n hx hb dX5_credit_79 rfl (lv_at hl 0 rfl) ?_
            refine lv_iload_n hx hb dX5_credit_80 rfl (lv_at hl 1 rfl) ?_
            refine lv_iload_n hx hb dX5_credit_81 rfl (lv_at hl 2 rfl) ?_
            refine lv_iload_n hx hb dX5_credit_82 rfl (lv_at hl 3 rfl) ?_
            refine k_gou (k_V (n := 3) (As := [.int a, .int b, .int x]) (rest := []) hM hE hX hl (c_X5_lessens l γ L F o ad (mset M 24 0 0) hR (kj a) (kj b) a b x hj.1 hq.1 (by omega) (by omega) hc hc24) hR.1 hR.2.1 rfl k_1204 k_1206 kp_33 k_9 k_1207 ⟨rfl, by decide, by decide, by decide +kernel⟩ (by decide) rfl rfl (Nat.le_of_ble_eq_true rfl) dX5_credit_83 (by decide)) hE hX (fun L1 F H locs hp hX => ?_)
            obtain ⟨rfl, M1, hR, rfl⟩ := hp
            refine lv_aload_n hx hb dX5_credit_86 rfl (lv_at hl 0 rfl) ?_
            refine m_get hM hE hX hR 14 (by decide) k_1081 rfl rfl dX5_credit_87 ?_
            refine lv_iconst (v := 3) hx hb dX5_credit_90 (by decide) ?_
            refine lv_iload_n hx hb dX5_credit_91 rfl (lv_at hl 1 rfl) ?_
            refine lv_imul hx hb dX5_credit_92 ?_
            refine lv_iload_n hx hb dX5_credit_93 rfl (lv_at hl 2 rfl) ?_
            refine lv_iadd hx hb dX5_credit_94 ?_
            refine m_iald hM hE hX hR 14 (3 * kj a + kj b) (by decide) rfl rfl (k3ab hj.1 hq.1) (show 3 * kj a + kj b < 60 by omega) dX5_credit_95 ?_
            exact k_iret hM hsz hX ⟨_, rfl, rfl, _, hR, (show creditM M a b x = _ from ((if_pos h_1).trans ((if_pos h_3).trans ((if_pos c_5).trans ((if_neg c_6).trans ((if_neg c_8).trans rfl)))))).symm⟩ (by decide) (by decide) dX5_credit_96
          · refine lv_iconst (v := 3) hx hb dX5_credit_62 (by decide) ?_
            refine lv_goto (tgt := 67) hx hb dX5_credit_63 (by decide) ?_
            refine m_put hM hE hX hR 24 (by decide) rfl (by decide) k_1091 rfl rfl rfl rfl dX5_credit_67 (fun F H locs hX hR => ?_)
            refine lv_aload_n hx hb dX5_credit_70 rfl (lv_at hl 0 rfl) ?_
            refine m_get hM hE hX hR 24 (by decide) k_1091 rfl rfl dX5_credit_71 ?_
            refine lv_if_le (tgt := 79) hx hb dX5_credit_74 (by decide) (fun c_10 => absurd (show (3 : Int32) ≤ 0 from c_10) (by decide)) (fun _ => ?_)
            refine lv_iconst (v := 0) hx hb dX5_credit_77 (by decide) ?_
            exact k_iret hM hsz hX ⟨_, rfl, rfl, _, hR, (show creditM M a b x = _ from ((if_pos h_1).trans ((if_pos h_3).trans ((if_pos c_5).trans ((if_neg c_6).trans ((if_pos c_8).trans rfl)))))).symm⟩ (by decide) (by decide) dX5_credit_78
      · refine lv_iconst (v := 2) hx hb dX5_credit_39 (by decide) ?_
        refine lv_goto (tgt := 67) hx hb dX5_credit_40 (by decide) ?_
        refine m_put hM hE hX hR 24 (by decide) rfl (by decide) k_1091 rfl rfl rfl rfl dX5_credit_67 (fun F H locs hX hR => ?_)
        refine lv_aload_n hx hb dX5_credit_70 rfl (lv_at hl 0 rfl) ?_
        refine m_get hM hE hX hR 24 (by decide) k_1091 rfl rfl dX5_credit_71 ?_
        refine lv_if_le (tgt := 79) hx hb dX5_credit_74 (by decide) (fun c_11 => absurd (show (2 : Int32) ≤ 0 from c_11) (by decide)) (fun _ => ?_)
        refine lv_iconst (v := 0) hx hb dX5_credit_77 (by decide) ?_
        exact k_iret hM hsz hX ⟨_, rfl, rfl, _, hR, (show creditM M a b x = _ from ((if_pos h_1).trans ((if_pos h_3).trans ((if_neg c_5).trans rfl)))).symm⟩ (by decide) (by decide) dX5_credit_78
    · refine lv_if_eq (tgt := 39) hx hb dX5_credit_22 (by decide) (fun _ => ?_) (fun c_12 => absurd (show ¬ (0 : Int32) = 0 from c_12) (by decide))
      refine lv_iconst (v := 2) hx hb dX5_credit_39 (by decide) ?_
      refine lv_goto (tgt := 67) hx hb dX5_credit_40 (by decide) ?_
      refine m_put hM hE hX hR 24 (by decide) rfl (by decide) k_1091 rfl rfl rfl rfl dX5_credit_67 (fun F H locs hX hR => ?_)
      refine lv_aload_n hx hb dX5_credit_70 rfl (lv_at hl 0 rfl) ?_
      refine m_get hM hE hX hR 24 (by decide) k_1091 rfl rfl dX5_credit_71 ?_
      refine lv_if_le (tgt := 79) hx hb dX5_credit_74 (by decide) (fun c_13 => absurd (show (2 : Int32) ≤ 0 from c_13) (by decide)) (fun _ => ?_)
      refine lv_iconst (v := 0) hx hb dX5_credit_77 (by decide) ?_
      exact k_iret hM hsz hX ⟨_, rfl, rfl, _, hR, (show creditM M a b x = _ from ((if_pos h_1).trans ((if_neg h_3).trans rfl))).symm⟩ (by decide) (by decide) dX5_credit_78
  · refine lv_if_ne (tgt := 14) hx hb dX5_credit_7 (by decide) (fun c_14 => absurd (show ¬ (0 : Int32) = 0 from c_14) (by decide)) (fun _ => ?_)
    refine lv_iconst (v := 1) hx hb dX5_credit_10 (by decide) ?_
    refine lv_goto (tgt := 67) hx hb dX5_credit_11 (by decide) ?_
    refine m_put hM hE hX hR 24 (by decide) rfl (by decide) k_1091 rfl rfl rfl rfl dX5_credit_67 (fun F H locs hX hR => ?_)
    refine lv_aload_n hx hb dX5_credit_70 rfl (lv_at hl 0 rfl) ?_
    refine m_get hM hE hX hR 24 (by decide) k_1091 rfl rfl dX5_credit_71 ?_
    refine lv_if_le (tgt := 79) hx hb dX5_credit_74 (by decide) (fun c_15 => absurd (show (1 : Int32) ≤ 0 from c_15) (by decide)) (fun _ => ?_)
    refine lv_iconst (v := 0) hx hb dX5_credit_77 (by decide) ?_
    exact k_iret hM hsz hX ⟨_, rfl, rfl, _, hR, (show creditM M a b x = _ from ((if_neg h_1).trans rfl)).symm⟩ (by decide) (by decide) dX5_credit_78
def disputeM (M : mM) (a b : Int32) : Int32 × mM := (if (0 ≤ a ∧ a ≤ M 2 0 - 1) ∧ 0 ≤ b ∧ b ≤ M 13 (kj a) - 1 then (if (M 6 (kj a)) = 1 then (if (M 17 (3 * kj a + kj b)) = 0 then (if (M 14 (3 * kj a + kj b)) = 0 then (0, (mset M 24 0 2)) else ((owed (mset (mset M 24 0 0) 17 (3 * kj a + kj b) 1) (kj a)), (mset (mset M 24 0 0) 17 (3 * kj a + kj b) 1))) else (0, (mset M 24 0 2))) else (0, (mset M 24 0 2))) else (0, (mset M 24 0 1)))
set_option maxHeartbeats 4000000 in
set_option maxRecDepth 100000 in
theorem c_X5_dispute (l : Launch) (γ : kG) (L : List Nat) (F : kF) (o : Nat) (ad : Nat → Nat) (M : mM) (hR : RepM γ L F o ad M) (a b : Int32) (hn : okN M) (hk : ∀ i, i < nn M → okL M i) : kC l yX5_dispute cX5_dispute 3 (some .int) (kRm 4 0 0) γ L F [.ref o, .int a, .int b] (kI fun r L1 F1 => L = L1 ∧ ∃ M1, RepM γ L1 F1 o ad M1 ∧ (r, M1) = disputeM M a b) := by
  refine kC_of (by decide +kernel) (Nat.le_of_ble_eq_true rfl) ?_
  intro p e s m args below meth c sz ls hargs hsz hM hin hE hX hl
  have hx := hM.1
  have hb := hM.2.1
  have hl : lv_has ls 3 [(0, .ref o), (1, .int a), (2, .int b)] := hl
  have hn2 := hn.2
  refine lv_aload_n hx hb dX5_dispute_0 rfl (lv_at hl 0 rfl) ?_
  refine lv_aload_n hx hb dX5_dispute_1 rfl (lv_at hl 0 rfl) ?_
  refine lv_iload_n hx hb dX5_dispute_2 rfl (lv_at hl 1 rfl) ?_
  refine lv_iload_n hx hb dX5_dispute_3 rfl (lv_at hl 2 rfl) ?_
  refine k_goi (k_V (n := 2) (As := [.int a, .int b]) (rest := [.ref o]) hM hE hX hl (c_X5_isLine l γ L F o ad M hR a b hn hk) hR.1 hR.2.1 rfl k_1200 k_1202 kp_32 k_9 k_1203 ⟨rfl, by decide, by decide, by decide +kernel⟩ (by decide) rfl rfl (Nat.le_of_ble_eq_true rfl) dX5_dispute_4 (by decide)) hE hX (fun r L1 F1 H locs hp hX => ?_)
  obtain ⟨rfl, rfl, ⟨rfl, h_1⟩ | ⟨rfl, h_1⟩⟩ := hp
  · have hj := ixM hn h_1.1
    have hj2 := hj.2
    have hq := ixL (hk _ hj.2) h_1.2
    have hq2 := hq.2
    have hk3 := (hk _ hj.2).2
    refine lv_if_ne (tgt := 14) hx hb dX5_dispute_7 (by decide) (fun _ => ?_) (fun c_2 => absurd (show (1 : Int32) = 0 from c_2) (by decide))
    refine lv_aload_n hx hb dX5_dispute_14 rfl (lv_at hl 0 rfl) ?_
    refine m_get hM hE hX hR 6 (by decide) k_1073 rfl rfl dX5_dispute_15 ?_
    refine lv_iload_n hx hb dX5_dispute_18 rfl (lv_at hl 1 rfl) ?_
    refine m_iald hM hE hX hR 6 (kj a) (by decide) rfl rfl hj.1 (show kj a < 20 by omega) dX5_dispute_19 ?_
    refine lv_iconst (v := 1) hx hb dX5_dispute_20 (by decide) ?_
    refine lv_icmp_ne (tgt := 50) hx hb dX5_dispute_21 (by decide) (fun c_3 => ?_) (fun c_3 => ?_)
    · refine lv_iconst (v := 2) hx hb dX5_dispute_50 (by decide) ?_
      refine lv_goto (tgt := 55) hx hb dX5_dispute_51 (by decide) ?_
      refine m_put hM hE hX hR 24 (by decide) rfl (by decide) k_1091 rfl rfl rfl rfl dX5_dispute_55 (fun F H locs hX hR => ?_)
      refine lv_aload_n hx hb dX5_dispute_58 rfl (lv_at hl 0 rfl) ?_
      refine m_get hM hE hX hR 24 (by decide) k_1091 rfl rfl dX5_dispute_59 ?_
      refine lv_if_le (tgt := 67) hx hb dX5_dispute_62 (by decide) (fun c_4 => absurd (show (2 : Int32) ≤ 0 from c_4) (by decide)) (fun _ => ?_)
      refine lv_iconst (v := 0) hx hb dX5_dispute_65 (by decide) ?_
      exact k_iret hM hsz hX ⟨_, rfl, rfl, _, hR, (show disputeM M a b = _ from ((if_pos h_1).trans ((if_neg c_3).trans rfl))).symm⟩ (by decide) (by decide) dX5_dispute_66
    · refine lv_aload_n hx hb dX5_dispute_24 rfl (lv_at hl 0 rfl) ?_
      refine m_get hM hE hX hR 17 (by decide) k_1084 rfl rfl dX5_dispute_25 ?_
      refine lv_iconst (v := 3) hx hb dX5_dispute_28 (by decide) ?_
      refine lv_iload_n hx hb dX5_dispute_29 rfl (lv_at hl 1 rfl) ?_
      refine lv_imul hx hb dX5_dispute_30 ?_
      refine lv_iload_n hx hb dX5_dispute_31 rfl (lv_at hl 2 rfl) ?_
      refine lv_iadd hx hb dX5_dispute_32 ?_
      refine m_zald hM hE hX hR 17 (3 * kj a + kj b) (by decide) rfl rfl (k3ab hj.1 hq.1) (show 3 * kj a + kj b < 60 by omega) dX5_dispute_33 ?_
      refine lv_if_ne (tgt := 50) hx hb dX5_dispute_34 (by decide) (fun c_5 => ?_) (fun c_5 => ?_)
      · refine lv_iconst (v := 2) hx hb dX5_dispute_50 (by decide) ?_
        refine lv_goto (tgt := 55) hx hb dX5_dispute_51 (by decide) ?_
        refine m_put hM hE hX hR 24 (by decide) rfl (by decide) k_1091 rfl rfl rfl rfl dX5_dispute_55 (fun F H locs hX hR => ?_)
        refine lv_aload_n hx hb dX5_dispute_58 rfl (lv_at hl 0 rfl) ?_
        refine m_get hM hE hX hR 24 (by decide) k_1091 rfl rfl dX5_dispute_59 ?_
        refine lv_if_le (tgt := 67) hx hb dX5_dispute_62 (by decide) (fun c_6 => absurd (show (2 : Int32) ≤ 0 from c_6) (by decide)) (fun _ => ?_)
        refine lv_iconst (v := 0) hx hb dX5_dispute_65 (by decide) ?_
        exact k_iret hM hsz hX ⟨_, rfl, rfl, _, hR, (show disputeM M a b = _ from ((if_pos h_1).trans ((if_pos c_3).trans ((if_neg c_5).trans rfl)))).symm⟩ (by decide) (by decide) dX5_dispute_66
      · refine lv_aload_n hx hb dX5_dispute_37 rfl (lv_at hl 0 rfl) ?_
        refine m_get hM hE hX hR 14 (by decide) k_1081 rfl rfl dX5_dispute_38 ?_
        refine lv_iconst (v := 3) hx hb dX5_dispute_41 (by decide) ?_
        refine lv_iload_n hx hb dX5_dispute_42 rfl (lv_at hl 1 rfl) ?_
        refine lv_imul hx hb dX5_dispute_43 ?_
        refine lv_iload_n hx hb dX5_dispute_44 rfl (lv_at hl 2 rfl) ?_
        refine lv_iadd hx hb dX5_dispute_45 ?_
        refine m_iald hM hE hX hR 14 (3 * kj a + kj b) (by decide) rfl rfl (k3ab hj.1 hq.1) (show 3 * kj a + kj b < 60 by omega) dX5_dispute_46 ?_
        refine lv_if_ne (tgt := 54) hx hb dX5_dispute_47 (by decide) (fun c_7 => ?_) (fun c_7 => ?_)
        · refine lv_iconst (v := 0) hx hb dX5_dispute_54 (by decide) ?_
          refine m_put hM hE hX hR 24 (by decide) rfl (by decide) k_1091 rfl rfl rfl rfl dX5_dispute_55 (fun F H locs hX hR => ?_)
          refine lv_aload_n hx hb dX5_dispute_58 rfl (lv_at hl 0 rfl) ?_
          refine m_get hM hE hX hR 24 (by decide) k_1091 rfl rfl dX5_dispute_59 ?_
          refine lv_if_le (tgt := 67) hx hb dX5_dispute_62 (by decide) (fun _ => ?_) (fun c_8 => absurd (show ¬ (0 : Int32) ≤ 0 from c_8) (by decide))
          refine lv_aload_n hx hb dX5_dispute_67 rfl (lv_at hl 0 rfl) ?_
          refine m_get hM hE hX hR 17 (by decide) k_1084 rfl rfl dX5_dispute_68 ?_
          refine lv_iconst (v := 3) hx hb dX5_dispute_71 (by decide) ?_
          refine lv_iload_n hx hb dX5_dispute_72 rfl (lv_at hl 1 rfl) ?_
          refine lv_imul hx hb dX5_dispute_73 ?_
          refine lv_iload_n hx hb dX5_dispute_74 rfl (lv_at hl 2 rfl) ?_
          refine lv_iadd hx hb dX5_dispute_75 ?_
          refine lv_iconst (v := 1) hx hb dX5_dispute_76 (by decide) ?_
          refine m_zast hM hE hX hR 17 (3 * kj a + kj b) (by decide) rfl rfl (k3ab hj.1 hq.1) (show 3 * kj a + kj b < 60 by omega) rfl dX5_dispute_77 (fun F H locs hX hR => ?_)
          refine lv_aload_n hx hb dX5_dispute_78 rfl (lv_at hl 0 rfl) ?_
          refine lv_iload_n hx hb dX5_dispute_79 rfl (lv_at hl 1 rfl) ?_
          refine k_goi (k_V (n := 1) (As := [.int a]) (rest := []) hM hE hX hl (c_X5_owed l γ L F o ad (mset (mset M 24 0 0) 17 (3 * kj a + kj b) 1) hR (kj a) a hj.1 (by omega) (hk _ hj.2)) hR.1 hR.2.1 rfl k_1181 k_1183 kp_30 k_9 k_1184 ⟨rfl, by decide, by decide, by decide +kernel⟩ (by decide) rfl rfl (Nat.le_of_ble_eq_true rfl) dX5_dispute_80 (by decide)) hE hX (fun r L1 F1 H locs hp hX => ?_)
          obtain ⟨rfl, rfl, rfl⟩ := hp
          exact k_iret hM hsz hX ⟨_, rfl, rfl, _, hR, (show disputeM M a b = _ from ((if_pos h_1).trans ((if_pos c_3).trans ((if_pos c_5).trans ((if_neg c_7).trans rfl))))).symm⟩ (by decide) (by decide) dX5_dispute_83
        · refine lv_iconst (v := 2) hx hb dX5_dispute_50 (by decide) ?_
          refine lv_goto (tgt := 55) hx hb dX5_dispute_51 (by decide) ?_
          refine m_put hM hE hX hR 24 (by decide) rfl (by decide) k_1091 rfl rfl rfl rfl dX5_dispute_55 (fun F H locs hX hR => ?_)
          refine lv_aload_n hx hb dX5_dispute_58 rfl (lv_at hl 0 rfl) ?_
          refine m_get hM hE hX hR 24 (by decide) k_1091 rfl rfl dX5_dispute_59 ?_
          refine lv_if_le (tgt := 67) hx hb dX5_dispute_62 (by decide) (fun c_9 => absurd (show (2 : Int32) ≤ 0 from c_9) (by decide)) (fun _ => ?_)
          refine lv_iconst (v := 0) hx hb dX5_dispute_65 (by decide) ?_
          exact k_iret hM hsz hX ⟨_, rfl, rfl, _, hR, (show disputeM M a b = _ from ((if_pos h_1).trans ((if_pos c_3).trans ((if_pos c_5).trans ((if_pos c_7).trans rfl))))).symm⟩ (by decide) (by decide) dX5_dispute_66
  · refine lv_if_ne (tgt := 14) hx hb dX5_dispute_7 (by decide) (fun c_10 => absurd (show ¬ (0 : Int32) = 0 from c_10) (by decide)) (fun _ => ?_)
    refine lv_iconst (v := 1) hx hb dX5_dispute_10 (by decide) ?_
    refine lv_goto (tgt := 55) hx hb dX5_dispute_11 (by decide) ?_
    refine m_put hM hE hX hR 24 (by decide) rfl (by decide) k_1091 rfl rfl rfl rfl dX5_dispute_55 (fun F H locs hX hR => ?_)
    refine lv_aload_n hx hb dX5_dispute_58 rfl (lv_at hl 0 rfl) ?_
    refine m_get hM hE hX hR 24 (by decide) k_1091 rfl rfl dX5_dispute_59 ?_
    refine lv_if_le (tgt := 67) hx hb dX5_dispute_62 (by decide) (fun c_11 => absurd (show (1 : Int32) ≤ 0 from c_11) (by decide)) (fun _ => ?_)
    refine lv_iconst (v := 0) hx hb dX5_dispute_65 (by decide) ?_
    exact k_iret hM hsz hX ⟨_, rfl, rfl, _, hR, (show disputeM M a b = _ from ((if_neg h_1).trans rfl)).symm⟩ (by decide) (by decide) dX5_dispute_66
def settleM (M : mM) (a b z : Int32) : Int32 × mM := (if (0 ≤ a ∧ a ≤ M 2 0 - 1) ∧ 0 ≤ b ∧ b ≤ M 13 (kj a) - 1 then (if (M 17 (3 * kj a + kj b)) = 0 then (0, (mset M 24 0 2)) else (if z = 0 then ((owed (mset (mset M 24 0 0) 17 (3 * kj a + kj b) 0) (kj a)), (mset (mset M 24 0 0) 17 (3 * kj a + kj b) 0)) else (if (M 18 0) = 24 then (0, (mset M 24 0 2)) else ((owed (lessM (mset (mset M 24 0 0) 17 (3 * kj a + kj b) 0) (kj a) (kj b) (M 14 (3 * kj a + kj b))) (kj a)), (lessM (mset (mset M 24 0 0) 17 (3 * kj a + kj b) 0) (kj a) (kj b) (M 14 (3 * kj a + kj b))))))) else (0, (mset M 24 0 1)))
set_option maxHeartbeats 4000000 in
set_option maxRecDepth 100000 in
theorem c_X5_settle (l : Launch) (γ : kG) (L : List Nat) (F : kF) (o : Nat) (ad : Nat → Nat) (M : mM) (hR : RepM γ L F o ad M) (a b z : Int32) (hn : okN M) (hk : ∀ i, i < nn M → okL M i) (hc : okC M) : kC l yX5_settle cX5_settle 4 (some .int) (kRm 4 0 0) γ L F [.ref o, .int a, .int b, .int z] (kI fun r L1 F1 => L = L1 ∧ ∃ M1, RepM γ L1 F1 o ad M1 ∧ (r, M1) = settleM M a b z) := by
  refine kC_of (by decide +kernel) (Nat.le_of_ble_eq_true rfl) ?_
  intro p e s m args below meth c sz ls hargs hsz hM hin hE hX hl
  have hx := hM.1
  have hb := hM.2.1
  have hl : lv_has ls 4 [(0, .ref o), (1, .int a), (2, .int b), (3, .int z)] := hl
  have hn2 := hn.2
  refine lv_aload_n hx hb dX5_settle_0 rfl (lv_at hl 0 rfl) ?_
  refine lv_aload_n hx hb dX5_settle_1 rfl (lv_at hl 0 rfl) ?_
  refine lv_iload_n hx hb dX5_settle_2 rfl (lv_at hl 1 rfl) ?_
  refine lv_iload_n hx hb dX5_settle_3 rfl (lv_at hl 2 rfl) ?_
  refine k_goi (k_V (n := 2) (As := [.int a, .int b]) (rest := [.ref o]) hM hE hX hl (c_X5_isLine l γ L F o ad M hR a b hn hk) hR.1 hR.2.1 rfl k_1200 k_1202 kp_32 k_9 k_1203 ⟨rfl, by decide, by decide, by decide +kernel⟩ (by decide) rfl rfl (Nat.le_of_ble_eq_true rfl) dX5_settle_4 (by decide)) hE hX (fun r L1 F1 H locs hp hX => ?_)
  obtain ⟨rfl, rfl, ⟨rfl, h_1⟩ | ⟨rfl, h_1⟩⟩ := hp
  · have hj := ixM hn h_1.1
    have hj2 := hj.2
    have hq := ixL (hk _ hj.2) h_1.2
    have hq2 := hq.2
    have hk3 := (hk _ hj.2).2
    refine lv_if_ne (tgt := 14) hx hb dX5_settle_7 (by decide) (fun _ => ?_) (fun c_2 => absurd (show (1 : Int32) = 0 from c_2) (by decide))
    refine lv_aload_n hx hb dX5_settle_14 rfl (lv_at hl 0 rfl) ?_
    refine m_get hM hE hX hR 17 (by decide) k_1084 rfl rfl dX5_settle_15 ?_
    refine lv_iconst (v := 3) hx hb dX5_settle_18 (by decide) ?_
    refine lv_iload_n hx hb dX5_settle_19 rfl (lv_at hl 1 rfl) ?_
    refine lv_imul hx hb dX5_settle_20 ?_
    refine lv_iload_n hx hb dX5_settle_21 rfl (lv_at hl 2 rfl) ?_
    refine lv_iadd hx hb dX5_settle_22 ?_
    refine m_zald hM hE hX hR 17 (3 * kj a + kj b) (by decide) rfl rfl (k3ab hj.1 hq.1) (show 3 * kj a + kj b < 60 by omega) dX5_settle_23 ?_
    refine lv_if_eq (tgt := 40) hx hb dX5_settle_24 (by decide) (fun c_3 => ?_) (fun c_3 => ?_)
    · refine lv_iconst (v := 2) hx hb dX5_settle_40 (by decide) ?_
      refine lv_goto (tgt := 45) hx hb dX5_settle_41 (by decide) ?_
      refine m_put hM hE hX hR 24 (by decide) rfl (by decide) k_1091 rfl rfl rfl rfl dX5_settle_45 (fun F H locs hX hR => ?_)
      refine lv_aload_n hx hb dX5_settle_48 rfl (lv_at hl 0 rfl) ?_
      refine m_get hM hE hX hR 24 (by decide) k_1091 rfl rfl dX5_settle_49 ?_
      refine lv_if_le (tgt := 57) hx hb dX5_settle_52 (by decide) (fun c_4 => absurd (show (2 : Int32) ≤ 0 from c_4) (by decide)) (fun _ => ?_)
      refine lv_iconst (v := 0) hx hb dX5_settle_55 (by decide) ?_
      exact k_iret hM hsz hX ⟨_, rfl, rfl, _, hR, (show settleM M a b z = _ from ((if_pos h_1).trans ((if_pos c_3).trans rfl))).symm⟩ (by decide) (by decide) dX5_settle_56
    · refine lv_iload_n hx hb dX5_settle_27 rfl (lv_at hl 3 rfl) ?_
      refine lv_if_eq (tgt := 44) hx hb dX5_settle_28 (by decide) (fun c_5 => ?_) (fun c_5 => ?_)
      · refine lv_iconst (v := 0) hx hb dX5_settle_44 (by decide) ?_
        refine m_put hM hE hX hR 24 (by decide) rfl (by decide) k_1091 rfl rfl rfl rfl dX5_settle_45 (fun F H locs hX hR => ?_)
        refine lv_aload_n hx hb dX5_settle_48 rfl (lv_at hl 0 rfl) ?_
        refine m_get hM hE hX hR 24 (by decide) k_1091 rfl rfl dX5_settle_49 ?_
        refine lv_if_le (tgt := 57) hx hb dX5_settle_52 (by decide) (fun _ => ?_) (fun c_6 => absurd (show ¬ (0 : Int32) ≤ 0 from c_6) (by decide))
        refine lv_aload_n hx hb dX5_settle_57 rfl (lv_at hl 0 rfl) ?_
        refine m_get hM hE hX hR 17 (by decide) k_1084 rfl rfl dX5_settle_58 ?_
        refine lv_iconst (v := 3) hx hb dX5_settle_61 (by decide) ?_
        refine lv_iload_n hx hb dX5_settle_62 rfl (lv_at hl 1 rfl) ?_
        refine lv_imul hx hb dX5_settle_63 ?_
        refine lv_iload_n hx hb dX5_settle_64 rfl (lv_at hl 2 rfl) ?_
        refine lv_iadd hx hb dX5_settle_65 ?_
        refine lv_iconst (v := 0) hx hb dX5_settle_66 (by decide) ?_
        refine m_zast hM hE hX hR 17 (3 * kj a + kj b) (by decide) rfl rfl (k3ab hj.1 hq.1) (show 3 * kj a + kj b < 60 by omega) rfl dX5_settle_67 (fun F H locs hX hR => ?_)
        refine lv_iload_n hx hb dX5_settle_68 rfl (lv_at hl 3 rfl) ?_
        refine lv_if_eq (tgt := 88) hx hb dX5_settle_69 (by decide) (fun _ => ?_) (fun c_7 => absurd c_7 (not_not_intro c_5))
        refine lv_aload_n hx hb dX5_settle_88 rfl (lv_at hl 0 rfl) ?_
        refine lv_iload_n hx hb dX5_settle_89 rfl (lv_at hl 1 rfl) ?_
        refine k_goi (k_V (n := 1) (As := [.int a]) (rest := []) hM hE hX hl (c_X5_owed l γ L F o ad (mset (mset M 24 0 0) 17 (3 * kj a + kj b) 0) hR (kj a) a hj.1 (by omega) (hk _ hj.2)) hR.1 hR.2.1 rfl k_1181 k_1183 kp_30 k_9 k_1184 ⟨rfl, by decide, by decide, by decide +kernel⟩ (by decide) rfl rfl (Nat.le_of_ble_eq_true rfl) dX5_settle_90 (by decide)) hE hX (fun r L1 F1 H locs hp hX => ?_)
        obtain ⟨rfl, rfl, rfl⟩ := hp
        exact k_iret hM hsz hX ⟨_, rfl, rfl, _, hR, (show settleM M a b z = _ from ((if_pos h_1).trans ((if_neg c_3).trans ((if_pos c_5).trans rfl)))).symm⟩ (by decide) (by decide) dX5_settle_93
      · refine lv_aload_n hx hb dX5_settle_31 rfl (lv_at hl 0 rfl) ?_
        refine m_get hM hE hX hR 18 (by decide) k_1085 rfl rfl dX5_settle_32 ?_
        refine lv_bipush (v := 24) hx hb dX5_settle_35 (by decide) ?_
        refine lv_icmp_ne (tgt := 44) hx hb dX5_settle_37 (by decide) (fun c_8 => ?_) (fun c_8 => ?_)
        · refine lv_iconst (v := 0) hx hb dX5_settle_44 (by decide) ?_
          refine m_put hM hE hX hR 24 (by decide) rfl (by decide) k_1091 rfl rfl rfl rfl dX5_settle_45 (fun F H locs hX hR => ?_)
          refine lv_aload_n hx hb dX5_settle_48 rfl (lv_at hl 0 rfl) ?_
          refine m_get hM hE hX hR 24 (by decide) k_1091 rfl rfl dX5_settle_49 ?_
          refine lv_if_le (tgt := 57) hx hb dX5_settle_52 (by decide) (fun _ => ?_) (fun c_9 => absurd (show ¬ (0 : Int32) ≤ 0 from c_9) (by decide))
          refine lv_aload_n hx hb dX5_settle_57 rfl (lv_at hl 0 rfl) ?_
          refine m_get hM hE hX hR 17 (by decide) k_1084 rfl rfl dX5_settle_58 ?_
          refine lv_iconst (v := 3) hx hb dX5_settle_61 (by decide) ?_
          refine lv_iload_n hx hb dX5_settle_62 rfl (lv_at hl 1 rfl) ?_
          refine lv_imul hx hb dX5_settle_63 ?_
          refine lv_iload_n hx hb dX5_settle_64 rfl (lv_at hl 2 rfl) ?_
          refine lv_iadd hx hb dX5_settle_65 ?_
          refine lv_iconst (v := 0) hx hb dX5_settle_66 (by decide) ?_
          refine m_zast hM hE hX hR 17 (3 * kj a + kj b) (by decide) rfl rfl (k3ab hj.1 hq.1) (show 3 * kj a + kj b < 60 by omega) rfl dX5_settle_67 (fun F H locs hX hR => ?_)
          refine lv_iload_n hx hb dX5_settle_68 rfl (lv_at hl 3 rfl) ?_
          refine lv_if_eq (tgt := 88) hx hb dX5_settle_69 (by decide) (fun c_10 => absurd c_10 c_5) (fun _ => ?_)
          have hc24 : cc M < 24 := lt_of_ne hc rfl c_8
          refine lv_aload_n hx hb dX5_settle_72 rfl (lv_at hl 0 rfl) ?_
          refine lv_iload_n hx hb dX5_settle_73 rfl (lv_at hl 1 rfl) ?_
          refine lv_iload_n hx hb dX5_settle_74 rfl (lv_at hl 2 rfl) ?_
          refine lv_aload_n hx hb dX5_settle_75 rfl (lv_at hl 0 rfl) ?_
          refine m_get hM hE hX hR 14 (by decide) k_1081 rfl rfl dX5_settle_76 ?_
          refine lv_iconst (v := 3) hx hb dX5_settle_79 (by decide) ?_
          refine lv_iload_n hx hb dX5_settle_80 rfl (lv_at hl 1 rfl) ?_
          refine lv_imul hx hb dX5_settle_81 ?_
          refine lv_iload_n hx hb dX5_settle_82 rfl (lv_at hl 2 rfl) ?_
          refine lv_iadd hx hb dX5_settle_83 ?_
          refine m_iald hM hE hX hR 14 (3 * kj a + kj b) (by decide) rfl rfl (k3ab hj.1 hq.1) (show 3 * kj a + kj b < 60 by omega) dX5_settle_84 ?_
          refine k_gou (k_V (n := 3) (As := [.int a, .int b, .int (M 14 (3 * kj a + kj b))]) (rest := []) hM hE hX hl (c_X5_lessens l γ L F o ad (mset (mset M 24 0 0) 17 (3 * kj a + kj b) 0) hR (kj a) (kj b) a b (M 14 (3 * kj a + kj b)) hj.1 hq.1 (by omega) (by omega) hc hc24) hR.1 hR.2.1 rfl k_1204 k_1206 kp_33 k_9 k_1207 ⟨rfl, by decide, by decide, by decide +kernel⟩ (by decide) rfl rfl (Nat.le_of_ble_eq_true rfl) dX5_settle_85 (by decide)) hE hX (fun L1 F H locs hp hX => ?_)
          obtain ⟨rfl, M1, hR, rfl⟩ := hp
          refine lv_aload_n hx hb dX5_settle_88 rfl (lv_at hl 0 rfl) ?_
          refine lv_iload_n hx hb dX5_settle_89 rfl (lv_at hl 1 rfl) ?_
          refine k_goi (k_V (n := 1) (As := [.int a]) (rest := []) hM hE hX hl (c_X5_owed l γ L F o ad (lessM (mset (mset M 24 0 0) 17 (3 * kj a + kj b) 0) (kj a) (kj b) (M 14 (3 * kj a + kj b))) hR (kj a) a hj.1 (by omega) (hk _ hj.2)) hR.1 hR.2.1 rfl k_1181 k_1183 kp_30 k_9 k_1184 ⟨rfl, by decide, by decide, by decide +kernel⟩ (by decide) rfl rfl (Nat.le_of_ble_eq_true rfl) dX5_settle_90 (by decide)) hE hX (fun r L1 F1 H locs hp hX => ?_)
          obtain ⟨rfl, rfl, rfl⟩ := hp
          exact k_iret hM hsz hX ⟨_, rfl, rfl, _, hR, (show settleM M a b z = _ from ((if_pos h_1).trans ((if_neg c_3).trans ((if_neg c_5).trans ((if_neg c_8).trans rfl))))).symm⟩ (by decide) (by decide) dX5_settle_93
        · refine lv_iconst (v := 2) hx hb dX5_settle_40 (by decide) ?_
          refine lv_goto (tgt := 45) hx hb dX5_settle_41 (by decide) ?_
          refine m_put hM hE hX hR 24 (by decide) rfl (by decide) k_1091 rfl rfl rfl rfl dX5_settle_45 (fun F H locs hX hR => ?_)
          refine lv_aload_n hx hb dX5_settle_48 rfl (lv_at hl 0 rfl) ?_
          refine m_get hM hE hX hR 24 (by decide) k_1091 rfl rfl dX5_settle_49 ?_
          refine lv_if_le (tgt := 57) hx hb dX5_settle_52 (by decide) (fun c_11 => absurd (show (2 : Int32) ≤ 0 from c_11) (by decide)) (fun _ => ?_)
          refine lv_iconst (v := 0) hx hb dX5_settle_55 (by decide) ?_
          exact k_iret hM hsz hX ⟨_, rfl, rfl, _, hR, (show settleM M a b z = _ from ((if_pos h_1).trans ((if_neg c_3).trans ((if_neg c_5).trans ((if_pos c_8).trans rfl))))).symm⟩ (by decide) (by decide) dX5_settle_56
  · refine lv_if_ne (tgt := 14) hx hb dX5_settle_7 (by decide) (fun c_12 => absurd (show ¬ (0 : Int32) = 0 from c_12) (by decide)) (fun _ => ?_)
    refine lv_iconst (v := 1) hx hb dX5_settle_10 (by decide) ?_
    refine lv_goto (tgt := 45) hx hb dX5_settle_11 (by decide) ?_
    refine m_put hM hE hX hR 24 (by decide) rfl (by decide) k_1091 rfl rfl rfl rfl dX5_settle_45 (fun F H locs hX hR => ?_)
    refine lv_aload_n hx hb dX5_settle_48 rfl (lv_at hl 0 rfl) ?_
    refine m_get hM hE hX hR 24 (by decide) k_1091 rfl rfl dX5_settle_49 ?_
    refine lv_if_le (tgt := 57) hx hb dX5_settle_52 (by decide) (fun c_13 => absurd (show (1 : Int32) ≤ 0 from c_13) (by decide)) (fun _ => ?_)
    refine lv_iconst (v := 0) hx hb dX5_settle_55 (by decide) ?_
    exact k_iret hM hsz hX ⟨_, rfl, rfl, _, hR, (show settleM M a b z = _ from ((if_neg h_1).trans rfl)).symm⟩ (by decide) (by decide) dX5_settle_56
def sellM (M : mM) (a b x z : Int32) : Int32 × mM := (if 0 ≤ a ∧ a ≤ (M 2 0) - 1 then (if 0 ≤ b ∧ b ≤ 5 then (if 1 ≤ x ∧ x ≤ 100 then (if b = (M 3 (kj a)) then (0, (mset M 24 0 2)) else (if b = (M 4 (kj a)) then (0, (mset M 24 0 2)) else (if (owed M (kj a)) = 0 then (0, (mset M 24 0 3)) else (if (M 9 (kj a)) = (M 3 (kj a)) then ((((owed (mset M 24 0 0) (kj a)) * x) / 100), (movesM (mset (mset (mset (mset M 24 0 0) 10 (kj a) (((owed (mset M 24 0 0) (kj a)) * x) / 100)) 11 (kj a) z) 9 (kj a) b) (kj b) (kj (M 3 (kj a))) (((owed (mset M 24 0 0) (kj a)) * x) / 100))) else (0, (mset M 24 0 3)))))) else (0, (mset M 24 0 2))) else (0, (mset M 24 0 1))) else (0, (mset M 24 0 1)))
set_option maxHeartbeats 4000000 in
set_option maxRecDepth 100000 in
theorem c_X5_sell (l : Launch) (γ : kG) (L : List Nat) (F : kF) (o : Nat) (ad : Nat → Nat) (M : mM) (hR : RepM γ L F o ad M) (a b x z : Int32) (hz01 : z = 0 ∨ z = 1) (hn : okN M) (hk : ∀ i, i < nn M → okL M i) (hs : ∀ i, i < nn M → okI (M 3 i) 6 ∧ okI (M 4 i) 6 ∧ okI (M 9 i) 6) : kC l yX5_sell cX5_sell 5 (some .int) (kRm 4 0 0) γ L F [.ref o, .int a, .int b, .int x, .int z] (kI fun r L1 F1 => L = L1 ∧ ∃ M1, RepM γ L1 F1 o ad M1 ∧ (r, M1) = sellM M a b x z) := by
  refine kC_of (by decide +kernel) (Nat.le_of_ble_eq_true rfl) ?_
  intro p e s m args below meth c sz ls hargs hsz hM hin hE hX hl
  have hx := hM.1
  have hb := hM.2.1
  have hl : lv_has ls 5 [(0, .ref o), (1, .int a), (2, .int b), (3, .int x), (4, .int z)] := hl
  have hn2 := hn.2
  refine lv_aload_n hx hb dX5_sell_0 rfl (lv_at hl 0 rfl) ?_
  refine lv_aload_n hx hb dX5_sell_1 rfl (lv_at hl 0 rfl) ?_
  refine lv_iload_n hx hb dX5_sell_2 rfl (lv_at hl 1 rfl) ?_
  refine k_goi (k_V (n := 1) (As := [.int a]) (rest := [.ref o]) hM hE hX hl (c_X5_isInvoice l γ L F o ad M hR a) hR.1 hR.2.1 rfl k_1169 k_1171 kp_28 k_9 k_1172 ⟨rfl, by decide, by decide, by decide +kernel⟩ (by decide) rfl rfl (Nat.le_of_ble_eq_true rfl) dX5_sell_3 (by decide)) hE hX (fun r L1 F1 H locs hp hX => ?_)
  obtain ⟨rfl, rfl, ⟨rfl, h_1⟩ | ⟨rfl, h_1⟩⟩ := hp
  · have hj : okI a (nn M) := ixM (M := M) hn h_1
    have hj2 : kj a < nn M := hj.2
    refine lv_if_eq (tgt := 16) hx hb dX5_sell_6 (by decide) (fun c_2 => absurd (show (1 : Int32) = 0 from c_2) (by decide)) (fun _ => ?_)
    refine lv_iload_n hx hb dX5_sell_9 rfl (lv_at hl 2 rfl) ?_
    refine k_goi (k_S (n := 1) (As := [.int b]) (rest := [.ref o]) hM hE hX hl (c_X5_isCompany l γ L F b) k_1152 k_1153 k_9 k_1154 ⟨by decide, by decide, by decide +kernel⟩ (by decide) rfl rfl (Nat.le_of_ble_eq_true rfl) dX5_sell_10 (by decide)) hE hX (fun r L1 F1 H locs hp hX => ?_)
    obtain ⟨rfl, rfl, ⟨rfl, h_3⟩ | ⟨rfl, h_3⟩⟩ := hp
    · have hco := okI_5 h_3
      have hco2 := hco.2
      refine lv_if_ne (tgt := 20) hx hb dX5_sell_13 (by decide) (fun _ => ?_) (fun c_4 => absurd (show (1 : Int32) = 0 from c_4) (by decide))
      refine lv_iload_n hx hb dX5_sell_20 rfl (lv_at hl 3 rfl) ?_
      refine lv_iconst (v := 1) hx hb dX5_sell_21 (by decide) ?_
      refine lv_bipush (v := 100) hx hb dX5_sell_22 (by decide) ?_
      refine k_goi (k_S (n := 3) (As := [.int x, .int 1, .int 100]) (rest := [.ref o]) hM hE hX hl (c_X5_isIn l γ L F x 1 100) k_1155 k_1156 k_9 k_1157 ⟨by decide, by decide, by decide +kernel⟩ (by decide) rfl rfl (Nat.le_of_ble_eq_true rfl) dX5_sell_24 (by decide)) hE hX (fun r L1 F1 H locs hp hX => ?_)
      obtain ⟨rfl, rfl, ⟨rfl, h_5⟩ | ⟨rfl, h_5⟩⟩ := hp
      · refine lv_if_eq (tgt := 50) hx hb dX5_sell_27 (by decide) (fun c_6 => absurd (show (1 : Int32) = 0 from c_6) (by decide)) (fun _ => ?_)
        refine lv_iload_n hx hb dX5_sell_30 rfl (lv_at hl 2 rfl) ?_
        refine lv_aload_n hx hb dX5_sell_31 rfl (lv_at hl 0 rfl) ?_
        refine m_get hM hE hX hR 3 (by decide) k_1070 rfl rfl dX5_sell_32 ?_
        refine lv_iload_n hx hb dX5_sell_35 rfl (lv_at hl 1 rfl) ?_
        refine m_iald hM hE hX hR 3 (kj a) (by decide) rfl rfl hj.1 (show kj a < 20 by omega) dX5_sell_36 ?_
        refine lv_icmp_eq (tgt := 50) hx hb dX5_sell_37 (by decide) (fun c_7 => ?_) (fun c_7 => ?_)
        · refine lv_iconst (v := 2) hx hb dX5_sell_50 (by decide) ?_
          refine lv_goto (tgt := 82) hx hb dX5_sell_51 (by decide) ?_
          refine m_put hM hE hX hR 24 (by decide) rfl (by decide) k_1091 rfl rfl rfl rfl dX5_sell_82 (fun F H locs hX hR => ?_)
          refine lv_aload_n hx hb dX5_sell_85 rfl (lv_at hl 0 rfl) ?_
          refine m_get hM hE hX hR 24 (by decide) k_1091 rfl rfl dX5_sell_86 ?_
          refine lv_if_le (tgt := 94) hx hb dX5_sell_89 (by decide) (fun c_8 => absurd (show (2 : Int32) ≤ 0 from c_8) (by decide)) (fun _ => ?_)
          refine lv_iconst (v := 0) hx hb dX5_sell_92 (by decide) ?_
          exact k_iret hM hsz hX ⟨_, rfl, rfl, _, hR, (show sellM M a b x z = _ from ((if_pos h_1).trans ((if_pos h_3).trans ((if_pos h_5).trans ((if_pos c_7).trans rfl))))).symm⟩ (by decide) (by decide) dX5_sell_93
        · refine lv_iload_n hx hb dX5_sell_40 rfl (lv_at hl 2 rfl) ?_
          refine lv_aload_n hx hb dX5_sell_41 rfl (lv_at hl 0 rfl) ?_
          refine m_get hM hE hX hR 4 (by decide) k_1071 rfl rfl dX5_sell_42 ?_
          refine lv_iload_n hx hb dX5_sell_45 rfl (lv_at hl 1 rfl) ?_
          refine m_iald hM hE hX hR 4 (kj a) (by decide) rfl rfl hj.1 (show kj a < 20 by omega) dX5_sell_46 ?_
          refine lv_icmp_ne (tgt := 54) hx hb dX5_sell_47 (by decide) (fun c_9 => ?_) (fun c_9 => ?_)
          · refine lv_aload_n hx hb dX5_sell_54 rfl (lv_at hl 0 rfl) ?_
            refine lv_iload_n hx hb dX5_sell_55 rfl (lv_at hl 1 rfl) ?_
            refine k_goi (k_V (n := 1) (As := [.int a]) (rest := [.ref o]) hM hE hX hl (c_X5_owed l γ L F o ad M hR (kj a) a hj.1 (by omega) (hk _ hj.2)) hR.1 hR.2.1 rfl k_1181 k_1183 kp_30 k_9 k_1184 ⟨rfl, by decide, by decide, by decide +kernel⟩ (by decide) rfl rfl (Nat.le_of_ble_eq_true rfl) dX5_sell_56 (by decide)) hE hX (fun r L1 F1 H locs hp hX => ?_)
            obtain ⟨rfl, rfl, rfl⟩ := hp
            refine lv_if_eq (tgt := 77) hx hb dX5_sell_59 (by decide) (fun c_10 => ?_) (fun c_10 => ?_)
            · refine lv_iconst (v := 3) hx hb dX5_sell_77 (by decide) ?_
              refine lv_goto (tgt := 82) hx hb dX5_sell_78 (by decide) ?_
              refine m_put hM hE hX hR 24 (by decide) rfl (by decide) k_1091 rfl rfl rfl rfl dX5_sell_82 (fun F H locs hX hR => ?_)
              refine lv_aload_n hx hb dX5_sell_85 rfl (lv_at hl 0 rfl) ?_
              refine m_get hM hE hX hR 24 (by decide) k_1091 rfl rfl dX5_sell_86 ?_
              refine lv_if_le (tgt := 94) hx hb dX5_sell_89 (by decide) (fun c_11 => absurd (show (3 : Int32) ≤ 0 from c_11) (by decide)) (fun _ => ?_)
              refine lv_iconst (v := 0) hx hb dX5_sell_92 (by decide) ?_
              exact k_iret hM hsz hX ⟨_, rfl, rfl, _, hR, (show sellM M a b x z = _ from ((if_pos h_1).trans ((if_pos h_3).trans ((if_pos h_5).trans ((if_neg c_7).trans ((if_neg c_9).trans ((if_pos c_10).trans rfl))))))).symm⟩ (by decide) (by decide) dX5_sell_93
            · refine lv_aload_n hx hb dX5_sell_62 rfl (lv_at hl 0 rfl) ?_
              refine m_get hM hE hX hR 9 (by decide) k_1076 rfl rfl dX5_sell_63 ?_
              refine lv_iload_n hx hb dX5_sell_66 rfl (lv_at hl 1 rfl) ?_
              refine m_iald hM hE hX hR 9 (kj a) (by decide) rfl rfl hj.1 (show kj a < 20 by omega) dX5_sell_67 ?_
              refine lv_aload_n hx hb dX5_sell_68 rfl (lv_at hl 0 rfl) ?_
              refine m_get hM hE hX hR 3 (by decide) k_1070 rfl rfl dX5_sell_69 ?_
              refine lv_iload_n hx hb dX5_sell_72 rfl (lv_at hl 1 rfl) ?_
              refine m_iald hM hE hX hR 3 (kj a) (by decide) rfl rfl hj.1 (show kj a < 20 by omega) dX5_sell_73 ?_
              refine lv_icmp_eq (tgt := 81) hx hb dX5_sell_74 (by decide) (fun c_12 => ?_) (fun c_12 => ?_)
              · refine lv_iconst (v := 0) hx hb dX5_sell_81 (by decide) ?_
                refine m_put hM hE hX hR 24 (by decide) rfl (by decide) k_1091 rfl rfl rfl rfl dX5_sell_82 (fun F H locs hX hR => ?_)
                refine lv_aload_n hx hb dX5_sell_85 rfl (lv_at hl 0 rfl) ?_
                refine m_get hM hE hX hR 24 (by decide) k_1091 rfl rfl dX5_sell_86 ?_
                refine lv_if_le (tgt := 94) hx hb dX5_sell_89 (by decide) (fun _ => ?_) (fun c_13 => absurd (show ¬ (0 : Int32) ≤ 0 from c_13) (by decide))
                refine lv_aload_n hx hb dX5_sell_94 rfl (lv_at hl 0 rfl) ?_
                refine m_get hM hE hX hR 10 (by decide) k_1077 rfl rfl dX5_sell_95 ?_
                refine lv_iload_n hx hb dX5_sell_98 rfl (lv_at hl 1 rfl) ?_
                refine lv_aload_n hx hb dX5_sell_99 rfl (lv_at hl 0 rfl) ?_
                refine lv_iload_n hx hb dX5_sell_100 rfl (lv_at hl 1 rfl) ?_
                refine k_goi (k_V (n := 1) (As := [.int a]) (rest := [.int a, .ref (ad 10)]) hM hE hX hl (c_X5_owed l γ L F o ad (mset M 24 0 0) hR (kj a) a hj.1 (by omega) (hk _ hj.2)) hR.1 hR.2.1 rfl k_1181 k_1183 kp_30 k_9 k_1184 ⟨rfl, by decide, by decide, by decide +kernel⟩ (by decide) rfl rfl (Nat.le_of_ble_eq_true rfl) dX5_sell_101 (by decide)) hE hX (fun r L1 F1 H locs hp hX => ?_)
                obtain ⟨rfl, rfl, rfl⟩ := hp
                refine lv_iload_n hx hb dX5_sell_104 rfl (lv_at hl 3 rfl) ?_
                refine lv_imul hx hb dX5_sell_105 ?_
                refine lv_bipush (v := 100) hx hb dX5_sell_106 (by decide) ?_
                refine lv_idiv hx hb dX5_sell_108 (by decide) ?_
                refine m_iast hM hE hX hR 10 (kj a) (by decide) rfl rfl hj.1 (show kj a < 20 by omega) dX5_sell_109 (fun F H locs hX hR => ?_)
                refine lv_aload_n hx hb dX5_sell_110 rfl (lv_at hl 0 rfl) ?_
                refine m_get hM hE hX hR 11 (by decide) k_1078 rfl rfl dX5_sell_111 ?_
                refine lv_iload_n hx hb dX5_sell_114 rfl (lv_at hl 1 rfl) ?_
                refine lv_iload hx hb dX5_sell_115 (lv_at hl 4 rfl) ?_
                refine m_zast hM hE hX hR 11 (kj a) (by decide) rfl rfl hj.1 (show kj a < 20 by omega) (vpz hz01) dX5_sell_117 (fun F H locs hX hR => ?_)
                refine lv_aload_n hx hb dX5_sell_118 rfl (lv_at hl 0 rfl) ?_
                refine m_get hM hE hX hR 9 (by decide) k_1076 rfl rfl dX5_sell_119 ?_
                refine lv_iload_n hx hb dX5_sell_122 rfl (lv_at hl 1 rfl) ?_
                refine lv_iload_n hx hb dX5_sell_123 rfl (lv_at hl 2 rfl) ?_
                refine m_iast hM hE hX hR 9 (kj a) (by decide) rfl rfl hj.1 (show kj a < 20 by omega) dX5_sell_124 (fun F H locs hX hR => ?_)
                refine lv_aload_n hx hb dX5_sell_125 rfl (lv_at hl 0 rfl) ?_
                refine lv_iload_n hx hb dX5_sell_126 rfl (lv_at hl 2 rfl) ?_
                refine lv_aload_n hx hb dX5_sell_127 rfl (lv_at hl 0 rfl) ?_
                refine m_get hM hE hX hR 3 (by decide) k_1070 rfl rfl dX5_sell_128 ?_
                refine lv_iload_n hx hb dX5_sell_131 rfl (lv_at hl 1 rfl) ?_
                refine m_iald hM hE hX hR 3 (kj a) (by decide) rfl rfl hj.1 (show kj a < 20 by omega) dX5_sell_132 ?_
                refine lv_aload_n hx hb dX5_sell_133 rfl (lv_at hl 0 rfl) ?_
                refine m_get hM hE hX hR 10 (by decide) k_1077 rfl rfl dX5_sell_134 ?_
                refine lv_iload_n hx hb dX5_sell_137 rfl (lv_at hl 1 rfl) ?_
                refine m_iald hM hE hX hR 10 (kj a) (by decide) rfl rfl hj.1 (show kj a < 20 by omega) dX5_sell_138 ?_
                rw [show ((mset (mset (mset (mset M 24 0 0) 10 (kj a) (((owed (mset M 24 0 0) (kj a)) * x) / 100)) 11 (kj a) z) 9 (kj a) b) 10 (kj a) : Int32) = (((owed (mset M 24 0 0) (kj a)) * x) / 100) from mset_s (mset M 24 0 0) 10 (kj a) (((owed (mset M 24 0 0) (kj a)) * x) / 100)]
                refine k_gou (k_V (n := 3) (As := [.int b, .int (M 3 (kj a)), .int (((owed (mset M 24 0 0) (kj a)) * x) / 100)]) (rest := []) hM hE hX hl (c_X5_moves l γ L F o ad (mset (mset (mset (mset M 24 0 0) 10 (kj a) (((owed (mset M 24 0 0) (kj a)) * x) / 100)) 11 (kj a) z) 9 (kj a) b) hR (kj b) (kj (M 3 (kj a))) b (M 3 (kj a)) (((owed (mset M 24 0 0) (kj a)) * x) / 100) hco.1 (hs _ hj.2).1.1 hco.2 (hs _ hj.2).1.2) hR.1 hR.2.1 rfl k_1220 k_1222 kp_34 k_9 k_1223 ⟨rfl, by decide, by decide, by decide +kernel⟩ (by decide) rfl rfl (Nat.le_of_ble_eq_true rfl) dX5_sell_139 (by decide)) hE hX (fun L1 F H locs hp hX => ?_)
                obtain ⟨rfl, M1, hR, rfl⟩ := hp
                refine lv_aload_n hx hb dX5_sell_142 rfl (lv_at hl 0 rfl) ?_
                refine m_get hM hE hX hR 10 (by decide) k_1077 rfl rfl dX5_sell_143 ?_
                refine lv_iload_n hx hb dX5_sell_146 rfl (lv_at hl 1 rfl) ?_
                refine m_iald hM hE hX hR 10 (kj a) (by decide) rfl rfl hj.1 (show kj a < 20 by omega) dX5_sell_147 ?_
                rw [show ((movesM (mset (mset (mset (mset M 24 0 0) 10 (kj a) (((owed (mset M 24 0 0) (kj a)) * x) / 100)) 11 (kj a) z) 9 (kj a) b) (kj b) (kj (M 3 (kj a))) (((owed (mset M 24 0 0) (kj a)) * x) / 100)) 10 (kj a) : Int32) = (((owed (mset M 24 0 0) (kj a)) * x) / 100) from mset_s (mset M 24 0 0) 10 (kj a) (((owed (mset M 24 0 0) (kj a)) * x) / 100)]
                exact k_iret hM hsz hX ⟨_, rfl, rfl, _, hR, (show sellM M a b x z = _ from ((if_pos h_1).trans ((if_pos h_3).trans ((if_pos h_5).trans ((if_neg c_7).trans ((if_neg c_9).trans ((if_neg c_10).trans ((if_pos c_12).trans rfl)))))))).symm⟩ (by decide) (by decide) dX5_sell_148
              · refine lv_iconst (v := 3) hx hb dX5_sell_77 (by decide) ?_
                refine lv_goto (tgt := 82) hx hb dX5_sell_78 (by decide) ?_
                refine m_put hM hE hX hR 24 (by decide) rfl (by decide) k_1091 rfl rfl rfl rfl dX5_sell_82 (fun F H locs hX hR => ?_)
                refine lv_aload_n hx hb dX5_sell_85 rfl (lv_at hl 0 rfl) ?_
                refine m_get hM hE hX hR 24 (by decide) k_1091 rfl rfl dX5_sell_86 ?_
                refine lv_if_le (tgt := 94) hx hb dX5_sell_89 (by decide) (fun c_14 => absurd (show (3 : Int32) ≤ 0 from c_14) (by decide)) (fun _ => ?_)
                refine lv_iconst (v := 0) hx hb dX5_sell_92 (by decide) ?_
                exact k_iret hM hsz hX ⟨_, rfl, rfl, _, hR, (show sellM M a b x z = _ from ((if_pos h_1).trans ((if_pos h_3).trans ((if_pos h_5).trans ((if_neg c_7).trans ((if_neg c_9).trans ((if_neg c_10).trans ((if_neg c_12).trans rfl)))))))).symm⟩ (by decide) (by decide) dX5_sell_93
          · refine lv_iconst (v := 2) hx hb dX5_sell_50 (by decide) ?_
            refine lv_goto (tgt := 82) hx hb dX5_sell_51 (by decide) ?_
            refine m_put hM hE hX hR 24 (by decide) rfl (by decide) k_1091 rfl rfl rfl rfl dX5_sell_82 (fun F H locs hX hR => ?_)
            refine lv_aload_n hx hb dX5_sell_85 rfl (lv_at hl 0 rfl) ?_
            refine m_get hM hE hX hR 24 (by decide) k_1091 rfl rfl dX5_sell_86 ?_
            refine lv_if_le (tgt := 94) hx hb dX5_sell_89 (by decide) (fun c_15 => absurd (show (2 : Int32) ≤ 0 from c_15) (by decide)) (fun _ => ?_)
            refine lv_iconst (v := 0) hx hb dX5_sell_92 (by decide) ?_
            exact k_iret hM hsz hX ⟨_, rfl, rfl, _, hR, (show sellM M a b x z = _ from ((if_pos h_1).trans ((if_pos h_3).trans ((if_pos h_5).trans ((if_neg c_7).trans ((if_pos c_9).trans rfl)))))).symm⟩ (by decide) (by decide) dX5_sell_93
      · refine lv_if_eq (tgt := 50) hx hb dX5_sell_27 (by decide) (fun _ => ?_) (fun c_16 => absurd (show ¬ (0 : Int32) = 0 from c_16) (by decide))
        refine lv_iconst (v := 2) hx hb dX5_sell_50 (by decide) ?_
        refine lv_goto (tgt := 82) hx hb dX5_sell_51 (by decide) ?_
        refine m_put hM hE hX hR 24 (by decide) rfl (by decide) k_1091 rfl rfl rfl rfl dX5_sell_82 (fun F H locs hX hR => ?_)
        refine lv_aload_n hx hb dX5_sell_85 rfl (lv_at hl 0 rfl) ?_
        refine m_get hM hE hX hR 24 (by decide) k_1091 rfl rfl dX5_sell_86 ?_
        refine lv_if_le (tgt := 94) hx hb dX5_sell_89 (by decide) (fun c_17 => absurd (show (2 : Int32) ≤ 0 from c_17) (by decide)) (fun _ => ?_)
        refine lv_iconst (v := 0) hx hb dX5_sell_92 (by decide) ?_
        exact k_iret hM hsz hX ⟨_, rfl, rfl, _, hR, (show sellM M a b x z = _ from ((if_pos h_1).trans ((if_pos h_3).trans ((if_neg h_5).trans rfl)))).symm⟩ (by decide) (by decide) dX5_sell_93
    · refine lv_if_ne (tgt := 20) hx hb dX5_sell_13 (by decide) (fun c_18 => absurd (show ¬ (0 : Int32) = 0 from c_18) (by decide)) (fun _ => ?_)
      refine lv_iconst (v := 1) hx hb dX5_sell_16 (by decide) ?_
      refine lv_goto (tgt := 82) hx hb dX5_sell_17 (by decide) ?_
      refine m_put hM hE hX hR 24 (by decide) rfl (by decide) k_1091 rfl rfl rfl rfl dX5_sell_82 (fun F H locs hX hR => ?_)
      refine lv_aload_n hx hb dX5_sell_85 rfl (lv_at hl 0 rfl) ?_
      refine m_get hM hE hX hR 24 (by decide) k_1091 rfl rfl dX5_sell_86 ?_
      refine lv_if_le (tgt := 94) hx hb dX5_sell_89 (by decide) (fun c_19 => absurd (show (1 : Int32) ≤ 0 from c_19) (by decide)) (fun _ => ?_)
      refine lv_iconst (v := 0) hx hb dX5_sell_92 (by decide) ?_
      exact k_iret hM hsz hX ⟨_, rfl, rfl, _, hR, (show sellM M a b x z = _ from ((if_pos h_1).trans ((if_neg h_3).trans rfl))).symm⟩ (by decide) (by decide) dX5_sell_93
  · refine lv_if_eq (tgt := 16) hx hb dX5_sell_6 (by decide) (fun _ => ?_) (fun c_20 => absurd (show ¬ (0 : Int32) = 0 from c_20) (by decide))
    refine lv_iconst (v := 1) hx hb dX5_sell_16 (by decide) ?_
    refine lv_goto (tgt := 82) hx hb dX5_sell_17 (by decide) ?_
    refine m_put hM hE hX hR 24 (by decide) rfl (by decide) k_1091 rfl rfl rfl rfl dX5_sell_82 (fun F H locs hX hR => ?_)
    refine lv_aload_n hx hb dX5_sell_85 rfl (lv_at hl 0 rfl) ?_
    refine m_get hM hE hX hR 24 (by decide) k_1091 rfl rfl dX5_sell_86 ?_
    refine lv_if_le (tgt := 94) hx hb dX5_sell_89 (by decide) (fun c_21 => absurd (show (1 : Int32) ≤ 0 from c_21) (by decide)) (fun _ => ?_)
    refine lv_iconst (v := 0) hx hb dX5_sell_92 (by decide) ?_
    exact k_iret hM hsz hX ⟨_, rfl, rfl, _, hR, (show sellM M a b x z = _ from ((if_neg h_1).trans rfl)).symm⟩ (by decide) (by decide) dX5_sell_93
def giveBackM (M : mM) (a : Int32) : Int32 × mM := (if 0 ≤ a ∧ a ≤ (M 2 0) - 1 then (if (M 9 (kj a)) = (M 3 (kj a)) then (0, (mset M 24 0 2)) else (if (M 11 (kj a)) = 0 then (0, (mset M 24 0 2)) else (if (owed M (kj a)) = 0 then (0, (mset M 24 0 2)) else ((M 10 (kj a)), (mset (movesM (mset M 24 0 0) (kj (M 3 (kj a))) (kj (M 9 (kj a))) (M 10 (kj a))) 9 (kj a) (M 3 (kj a))))))) else (0, (mset M 24 0 1)))
set_option maxHeartbeats 4000000 in
set_option maxRecDepth 100000 in
theorem c_X5_giveBack (l : Launch) (γ : kG) (L : List Nat) (F : kF) (o : Nat) (ad : Nat → Nat) (M : mM) (hR : RepM γ L F o ad M) (a : Int32) (hn : okN M) (hk : ∀ i, i < nn M → okL M i) (hs : ∀ i, i < nn M → okI (M 3 i) 6 ∧ okI (M 4 i) 6 ∧ okI (M 9 i) 6) : kC l yX5_giveBack cX5_giveBack 2 (some .int) (kRm 4 0 0) γ L F [.ref o, .int a] (kI fun r L1 F1 => L = L1 ∧ ∃ M1, RepM γ L1 F1 o ad M1 ∧ (r, M1) = giveBackM M a) := by
  refine kC_of (by decide +kernel) (Nat.le_of_ble_eq_true rfl) ?_
  intro p e s m args below meth c sz ls hargs hsz hM hin hE hX hl
  have hx := hM.1
  have hb := hM.2.1
  have hl : lv_has ls 2 [(0, .ref o), (1, .int a)] := hl
  have hn2 := hn.2
  refine lv_aload_n hx hb dX5_giveBack_0 rfl (lv_at hl 0 rfl) ?_
  refine lv_aload_n hx hb dX5_giveBack_1 rfl (lv_at hl 0 rfl) ?_
  refine lv_iload_n hx hb dX5_giveBack_2 rfl (lv_at hl 1 rfl) ?_
  refine k_goi (k_V (n := 1) (As := [.int a]) (rest := [.ref o]) hM hE hX hl (c_X5_isInvoice l γ L F o ad M hR a) hR.1 hR.2.1 rfl k_1169 k_1171 kp_28 k_9 k_1172 ⟨rfl, by decide, by decide, by decide +kernel⟩ (by decide) rfl rfl (Nat.le_of_ble_eq_true rfl) dX5_giveBack_3 (by decide)) hE hX (fun r L1 F1 H locs hp hX => ?_)
  obtain ⟨rfl, rfl, ⟨rfl, h_1⟩ | ⟨rfl, h_1⟩⟩ := hp
  · have hj : okI a (nn M) := ixM (M := M) hn h_1
    have hj2 : kj a < nn M := hj.2
    refine lv_if_ne (tgt := 13) hx hb dX5_giveBack_6 (by decide) (fun _ => ?_) (fun c_2 => absurd (show (1 : Int32) = 0 from c_2) (by decide))
    refine lv_aload_n hx hb dX5_giveBack_13 rfl (lv_at hl 0 rfl) ?_
    refine m_get hM hE hX hR 9 (by decide) k_1076 rfl rfl dX5_giveBack_14 ?_
    refine lv_iload_n hx hb dX5_giveBack_17 rfl (lv_at hl 1 rfl) ?_
    refine m_iald hM hE hX hR 9 (kj a) (by decide) rfl rfl hj.1 (show kj a < 20 by omega) dX5_giveBack_18 ?_
    refine lv_aload_n hx hb dX5_giveBack_19 rfl (lv_at hl 0 rfl) ?_
    refine m_get hM hE hX hR 3 (by decide) k_1070 rfl rfl dX5_giveBack_20 ?_
    refine lv_iload_n hx hb dX5_giveBack_23 rfl (lv_at hl 1 rfl) ?_
    refine m_iald hM hE hX hR 3 (kj a) (by decide) rfl rfl hj.1 (show kj a < 20 by omega) dX5_giveBack_24 ?_
    refine lv_icmp_eq (tgt := 45) hx hb dX5_giveBack_25 (by decide) (fun c_3 => ?_) (fun c_3 => ?_)
    · refine lv_iconst (v := 2) hx hb dX5_giveBack_45 (by decide) ?_
      refine lv_goto (tgt := 50) hx hb dX5_giveBack_46 (by decide) ?_
      refine m_put hM hE hX hR 24 (by decide) rfl (by decide) k_1091 rfl rfl rfl rfl dX5_giveBack_50 (fun F H locs hX hR => ?_)
      refine lv_aload_n hx hb dX5_giveBack_53 rfl (lv_at hl 0 rfl) ?_
      refine m_get hM hE hX hR 24 (by decide) k_1091 rfl rfl dX5_giveBack_54 ?_
      refine lv_if_le (tgt := 62) hx hb dX5_giveBack_57 (by decide) (fun c_4 => absurd (show (2 : Int32) ≤ 0 from c_4) (by decide)) (fun _ => ?_)
      refine lv_iconst (v := 0) hx hb dX5_giveBack_60 (by decide) ?_
      exact k_iret hM hsz hX ⟨_, rfl, rfl, _, hR, (show giveBackM M a = _ from ((if_pos h_1).trans ((if_pos c_3).trans rfl))).symm⟩ (by decide) (by decide) dX5_giveBack_61
    · refine lv_aload_n hx hb dX5_giveBack_28 rfl (lv_at hl 0 rfl) ?_
      refine m_get hM hE hX hR 11 (by decide) k_1078 rfl rfl dX5_giveBack_29 ?_
      refine lv_iload_n hx hb dX5_giveBack_32 rfl (lv_at hl 1 rfl) ?_
      refine m_zald hM hE hX hR 11 (kj a) (by decide) rfl rfl hj.1 (show kj a < 20 by omega) dX5_giveBack_33 ?_
      refine lv_if_eq (tgt := 45) hx hb dX5_giveBack_34 (by decide) (fun c_5 => ?_) (fun c_5 => ?_)
      · refine lv_iconst (v := 2) hx hb dX5_giveBack_45 (by decide) ?_
        refine lv_goto (tgt := 50) hx hb dX5_giveBack_46 (by decide) ?_
        refine m_put hM hE hX hR 24 (by decide) rfl (by decide) k_1091 rfl rfl rfl rfl dX5_giveBack_50 (fun F H locs hX hR => ?_)
        refine lv_aload_n hx hb dX5_giveBack_53 rfl (lv_at hl 0 rfl) ?_
        refine m_get hM hE hX hR 24 (by decide) k_1091 rfl rfl dX5_giveBack_54 ?_
        refine lv_if_le (tgt := 62) hx hb dX5_giveBack_57 (by decide) (fun c_6 => absurd (show (2 : Int32) ≤ 0 from c_6) (by decide)) (fun _ => ?_)
        refine lv_iconst (v := 0) hx hb dX5_giveBack_60 (by decide) ?_
        exact k_iret hM hsz hX ⟨_, rfl, rfl, _, hR, (show giveBackM M a = _ from ((if_pos h_1).trans ((if_neg c_3).trans ((if_pos c_5).trans rfl)))).symm⟩ (by decide) (by decide) dX5_giveBack_61
      · refine lv_aload_n hx hb dX5_giveBack_37 rfl (lv_at hl 0 rfl) ?_
        refine lv_iload_n hx hb dX5_giveBack_38 rfl (lv_at hl 1 rfl) ?_
        refine k_goi (k_V (n := 1) (As := [.int a]) (rest := [.ref o]) hM hE hX hl (c_X5_owed l γ L F o ad M hR (kj a) a hj.1 (by omega) (hk _ hj.2)) hR.1 hR.2.1 rfl k_1181 k_1183 kp_30 k_9 k_1184 ⟨rfl, by decide, by decide, by decide +kernel⟩ (by decide) rfl rfl (Nat.le_of_ble_eq_true rfl) dX5_giveBack_39 (by decide)) hE hX (fun r L1 F1 H locs hp hX => ?_)
        obtain ⟨rfl, rfl, rfl⟩ := hp
        refine lv_if_ne (tgt := 49) hx hb dX5_giveBack_42 (by decide) (fun c_7 => ?_) (fun c_7 => ?_)
        · refine lv_iconst (v := 0) hx hb dX5_giveBack_49 (by decide) ?_
          refine m_put hM hE hX hR 24 (by decide) rfl (by decide) k_1091 rfl rfl rfl rfl dX5_giveBack_50 (fun F H locs hX hR => ?_)
          refine lv_aload_n hx hb dX5_giveBack_53 rfl (lv_at hl 0 rfl) ?_
          refine m_get hM hE hX hR 24 (by decide) k_1091 rfl rfl dX5_giveBack_54 ?_
          refine lv_if_le (tgt := 62) hx hb dX5_giveBack_57 (by decide) (fun _ => ?_) (fun c_8 => absurd (show ¬ (0 : Int32) ≤ 0 from c_8) (by decide))
          refine lv_aload_n hx hb dX5_giveBack_62 rfl (lv_at hl 0 rfl) ?_
          refine lv_aload_n hx hb dX5_giveBack_63 rfl (lv_at hl 0 rfl) ?_
          refine m_get hM hE hX hR 3 (by decide) k_1070 rfl rfl dX5_giveBack_64 ?_
          refine lv_iload_n hx hb dX5_giveBack_67 rfl (lv_at hl 1 rfl) ?_
          refine m_iald hM hE hX hR 3 (kj a) (by decide) rfl rfl hj.1 (show kj a < 20 by omega) dX5_giveBack_68 ?_
          refine lv_aload_n hx hb dX5_giveBack_69 rfl (lv_at hl 0 rfl) ?_
          refine m_get hM hE hX hR 9 (by decide) k_1076 rfl rfl dX5_giveBack_70 ?_
          refine lv_iload_n hx hb dX5_giveBack_73 rfl (lv_at hl 1 rfl) ?_
          refine m_iald hM hE hX hR 9 (kj a) (by decide) rfl rfl hj.1 (show kj a < 20 by omega) dX5_giveBack_74 ?_
          refine lv_aload_n hx hb dX5_giveBack_75 rfl (lv_at hl 0 rfl) ?_
          refine m_get hM hE hX hR 10 (by decide) k_1077 rfl rfl dX5_giveBack_76 ?_
          refine lv_iload_n hx hb dX5_giveBack_79 rfl (lv_at hl 1 rfl) ?_
          refine m_iald hM hE hX hR 10 (kj a) (by decide) rfl rfl hj.1 (show kj a < 20 by omega) dX5_giveBack_80 ?_
          refine k_gou (k_V (n := 3) (As := [.int (M 3 (kj a)), .int (M 9 (kj a)), .int (M 10 (kj a))]) (rest := []) hM hE hX hl (c_X5_moves l γ L F o ad (mset M 24 0 0) hR (kj (M 3 (kj a))) (kj (M 9 (kj a))) (M 3 (kj a)) (M 9 (kj a)) (M 10 (kj a)) (hs _ hj.2).1.1 (hs _ hj.2).2.2.1 (hs _ hj.2).1.2 (hs _ hj.2).2.2.2) hR.1 hR.2.1 rfl k_1220 k_1222 kp_34 k_9 k_1223 ⟨rfl, by decide, by decide, by decide +kernel⟩ (by decide) rfl rfl (Nat.le_of_ble_eq_true rfl) dX5_giveBack_81 (by decide)) hE hX (fun L1 F H locs hp hX => ?_)
          obtain ⟨rfl, M1, hR, rfl⟩ := hp
          refine lv_aload_n hx hb dX5_giveBack_84 rfl (lv_at hl 0 rfl) ?_
          refine m_get hM hE hX hR 9 (by decide) k_1076 rfl rfl dX5_giveBack_85 ?_
          refine lv_iload_n hx hb dX5_giveBack_88 rfl (lv_at hl 1 rfl) ?_
          refine lv_aload_n hx hb dX5_giveBack_89 rfl (lv_at hl 0 rfl) ?_
          refine m_get hM hE hX hR 3 (by decide) k_1070 rfl rfl dX5_giveBack_90 ?_
          refine lv_iload_n hx hb dX5_giveBack_93 rfl (lv_at hl 1 rfl) ?_
          refine m_iald hM hE hX hR 3 (kj a) (by decide) rfl rfl hj.1 (show kj a < 20 by omega) dX5_giveBack_94 ?_
          refine m_iast hM hE hX hR 9 (kj a) (by decide) rfl rfl hj.1 (show kj a < 20 by omega) dX5_giveBack_95 (fun F H locs hX hR => ?_)
          refine lv_aload_n hx hb dX5_giveBack_96 rfl (lv_at hl 0 rfl) ?_
          refine m_get hM hE hX hR 10 (by decide) k_1077 rfl rfl dX5_giveBack_97 ?_
          refine lv_iload_n hx hb dX5_giveBack_100 rfl (lv_at hl 1 rfl) ?_
          refine m_iald hM hE hX hR 10 (kj a) (by decide) rfl rfl hj.1 (show kj a < 20 by omega) dX5_giveBack_101 ?_
          exact k_iret hM hsz hX ⟨_, rfl, rfl, _, hR, (show giveBackM M a = _ from ((if_pos h_1).trans ((if_neg c_3).trans ((if_neg c_5).trans ((if_neg c_7).trans rfl))))).symm⟩ (by decide) (by decide) dX5_giveBack_102
        · refine lv_iconst (v := 2) hx hb dX5_giveBack_45 (by decide) ?_
          refine lv_goto (tgt := 50) hx hb dX5_giveBack_46 (by decide) ?_
          refine m_put hM hE hX hR 24 (by decide) rfl (by decide) k_1091 rfl rfl rfl rfl dX5_giveBack_50 (fun F H locs hX hR => ?_)
          refine lv_aload_n hx hb dX5_giveBack_53 rfl (lv_at hl 0 rfl) ?_
          refine m_get hM hE hX hR 24 (by decide) k_1091 rfl rfl dX5_giveBack_54 ?_
          refine lv_if_le (tgt := 62) hx hb dX5_giveBack_57 (by decide) (fun c_9 => absurd (show (2 : Int32) ≤ 0 from c_9) (by decide)) (fun _ => ?_)
          refine lv_iconst (v := 0) hx hb dX5_giveBack_60 (by decide) ?_
          exact k_iret hM hsz hX ⟨_, rfl, rfl, _, hR, (show giveBackM M a = _ from ((if_pos h_1).trans ((if_neg c_3).trans ((if_neg c_5).trans ((if_pos c_7).trans rfl))))).symm⟩ (by decide) (by decide) dX5_giveBack_61
  · refine lv_if_ne (tgt := 13) hx hb dX5_giveBack_6 (by decide) (fun c_10 => absurd (show ¬ (0 : Int32) = 0 from c_10) (by decide)) (fun _ => ?_)
    refine lv_iconst (v := 1) hx hb dX5_giveBack_9 (by decide) ?_
    refine lv_goto (tgt := 50) hx hb dX5_giveBack_10 (by decide) ?_
    refine m_put hM hE hX hR 24 (by decide) rfl (by decide) k_1091 rfl rfl rfl rfl dX5_giveBack_50 (fun F H locs hX hR => ?_)
    refine lv_aload_n hx hb dX5_giveBack_53 rfl (lv_at hl 0 rfl) ?_
    refine m_get hM hE hX hR 24 (by decide) k_1091 rfl rfl dX5_giveBack_54 ?_
    refine lv_if_le (tgt := 62) hx hb dX5_giveBack_57 (by decide) (fun c_11 => absurd (show (1 : Int32) ≤ 0 from c_11) (by decide)) (fun _ => ?_)
    refine lv_iconst (v := 0) hx hb dX5_giveBack_60 (by decide) ?_
    exact k_iret hM hsz hX ⟨_, rfl, rfl, _, hR, (show giveBackM M a = _ from ((if_neg h_1).trans rfl)).symm⟩ (by decide) (by decide) dX5_giveBack_61
def typeM (M : mM) (a : Int32) : Int32 × mM := (if 32 ≤ a ∧ a ≤ 126 then (if (M 22 0) = 10 then (0, (mset M 24 0 2)) else (((M 22 0) + 1), (mset (mset (mset M 24 0 0) 23 (dd M) a) 22 0 ((M 22 0) + 1)))) else (0, (mset M 24 0 1)))
set_option maxHeartbeats 4000000 in
set_option maxRecDepth 100000 in
theorem c_X5_type (l : Launch) (γ : kG) (L : List Nat) (F : kF) (o : Nat) (ad : Nat → Nat) (M : mM) (hR : RepM γ L F o ad M) (a : Int32) (hd : okD M) : kC l yX5_type cX5_type 2 (some .int) (kRm 4 0 0) γ L F [.ref o, .int a] (kI fun r L1 F1 => L = L1 ∧ ∃ M1, RepM γ L1 F1 o ad M1 ∧ (r, M1) = typeM M a) := by
  refine kC_of (by decide +kernel) (Nat.le_of_ble_eq_true rfl) ?_
  intro p e s m args below meth c sz ls hargs hsz hM hin hE hX hl
  have hx := hM.1
  have hb := hM.2.1
  have hl : lv_has ls 2 [(0, .ref o), (1, .int a)] := hl
  refine lv_aload_n hx hb dX5_type_0 rfl (lv_at hl 0 rfl) ?_
  refine lv_iload_n hx hb dX5_type_1 rfl (lv_at hl 1 rfl) ?_
  refine lv_bipush (v := 32) hx hb dX5_type_2 (by decide) ?_
  refine lv_bipush (v := 126) hx hb dX5_type_4 (by decide) ?_
  refine k_goi (k_S (n := 3) (As := [.int a, .int 32, .int 126]) (rest := [.ref o]) hM hE hX hl (c_X5_isIn l γ L F a 32 126) k_1155 k_1156 k_9 k_1157 ⟨by decide, by decide, by decide +kernel⟩ (by decide) rfl rfl (Nat.le_of_ble_eq_true rfl) dX5_type_6 (by decide)) hE hX (fun r L1 F1 H locs hp hX => ?_)
  obtain ⟨rfl, rfl, ⟨rfl, h_1⟩ | ⟨rfl, h_1⟩⟩ := hp
  · refine lv_if_ne (tgt := 16) hx hb dX5_type_9 (by decide) (fun _ => ?_) (fun c_2 => absurd (show (1 : Int32) = 0 from c_2) (by decide))
    refine lv_aload_n hx hb dX5_type_16 rfl (lv_at hl 0 rfl) ?_
    refine m_get hM hE hX hR 22 (by decide) k_1089 rfl rfl dX5_type_17 ?_
    refine lv_bipush (v := 10) hx hb dX5_type_20 (by decide) ?_
    refine lv_icmp_ne (tgt := 29) hx hb dX5_type_22 (by decide) (fun c_3 => ?_) (fun c_3 => ?_)
    · refine lv_iconst (v := 0) hx hb dX5_type_29 (by decide) ?_
      refine m_put hM hE hX hR 24 (by decide) rfl (by decide) k_1091 rfl rfl rfl rfl dX5_type_30 (fun F H locs hX hR => ?_)
      refine lv_aload_n hx hb dX5_type_33 rfl (lv_at hl 0 rfl) ?_
      refine m_get hM hE hX hR 24 (by decide) k_1091 rfl rfl dX5_type_34 ?_
      refine lv_if_le (tgt := 42) hx hb dX5_type_37 (by decide) (fun _ => ?_) (fun c_4 => absurd (show ¬ (0 : Int32) ≤ 0 from c_4) (by decide))
      have hlt : dd M < 10 := lt_of_ne hd rfl c_3
      refine lv_aload_n hx hb dX5_type_42 rfl (lv_at hl 0 rfl) ?_
      refine m_get hM hE hX hR 23 (by decide) k_1090 rfl rfl dX5_type_43 ?_
      refine lv_aload_n hx hb dX5_type_46 rfl (lv_at hl 0 rfl) ?_
      refine m_get hM hE hX hR 22 (by decide) k_1089 rfl rfl dX5_type_47 ?_
      refine lv_iload_n hx hb dX5_type_50 rfl (lv_at hl 1 rfl) ?_
      refine m_iast hM hE hX hR 23 (dd M) (by decide) rfl rfl hd.1 (show dd M < 10 by omega) dX5_type_51 (fun F H locs hX hR => ?_)
      refine lv_aload_n hx hb dX5_type_52 rfl (lv_at hl 0 rfl) ?_
      refine lv_dup hx hb dX5_type_53 rfl ?_
      refine m_get hM hE hX hR 22 (by decide) k_1089 rfl rfl dX5_type_54 ?_
      refine lv_iconst (v := 1) hx hb dX5_type_57 (by decide) ?_
      refine lv_iadd hx hb dX5_type_58 ?_
      refine m_put hM hE hX hR 22 (by decide) rfl (by decide) k_1089 rfl rfl rfl rfl dX5_type_59 (fun F H locs hX hR => ?_)
      refine lv_aload_n hx hb dX5_type_62 rfl (lv_at hl 0 rfl) ?_
      refine m_get hM hE hX hR 22 (by decide) k_1089 rfl rfl dX5_type_63 ?_
      exact k_iret hM hsz hX ⟨_, rfl, rfl, _, hR, (show typeM M a = _ from ((if_pos h_1).trans ((if_neg c_3).trans rfl))).symm⟩ (by decide) (by decide) dX5_type_66
    · refine lv_iconst (v := 2) hx hb dX5_type_25 (by decide) ?_
      refine lv_goto (tgt := 30) hx hb dX5_type_26 (by decide) ?_
      refine m_put hM hE hX hR 24 (by decide) rfl (by decide) k_1091 rfl rfl rfl rfl dX5_type_30 (fun F H locs hX hR => ?_)
      refine lv_aload_n hx hb dX5_type_33 rfl (lv_at hl 0 rfl) ?_
      refine m_get hM hE hX hR 24 (by decide) k_1091 rfl rfl dX5_type_34 ?_
      refine lv_if_le (tgt := 42) hx hb dX5_type_37 (by decide) (fun c_5 => absurd (show (2 : Int32) ≤ 0 from c_5) (by decide)) (fun _ => ?_)
      refine lv_iconst (v := 0) hx hb dX5_type_40 (by decide) ?_
      exact k_iret hM hsz hX ⟨_, rfl, rfl, _, hR, (show typeM M a = _ from ((if_pos h_1).trans ((if_pos c_3).trans rfl))).symm⟩ (by decide) (by decide) dX5_type_41
  · refine lv_if_ne (tgt := 16) hx hb dX5_type_9 (by decide) (fun c_6 => absurd (show ¬ (0 : Int32) = 0 from c_6) (by decide)) (fun _ => ?_)
    refine lv_iconst (v := 1) hx hb dX5_type_12 (by decide) ?_
    refine lv_goto (tgt := 30) hx hb dX5_type_13 (by decide) ?_
    refine m_put hM hE hX hR 24 (by decide) rfl (by decide) k_1091 rfl rfl rfl rfl dX5_type_30 (fun F H locs hX hR => ?_)
    refine lv_aload_n hx hb dX5_type_33 rfl (lv_at hl 0 rfl) ?_
    refine m_get hM hE hX hR 24 (by decide) k_1091 rfl rfl dX5_type_34 ?_
    refine lv_if_le (tgt := 42) hx hb dX5_type_37 (by decide) (fun c_7 => absurd (show (1 : Int32) ≤ 0 from c_7) (by decide)) (fun _ => ?_)
    refine lv_iconst (v := 0) hx hb dX5_type_40 (by decide) ?_
    exact k_iret hM hsz hX ⟨_, rfl, rfl, _, hR, (show typeM M a = _ from ((if_neg h_1).trans rfl)).symm⟩ (by decide) (by decide) dX5_type_41
def clearM (M : mM) : Int32 × mM := ((M 22 0), (mset (mset M 24 0 0) 22 0 0))
set_option maxHeartbeats 4000000 in
set_option maxRecDepth 100000 in
theorem c_X5_clear (l : Launch) (γ : kG) (L : List Nat) (F : kF) (o : Nat) (ad : Nat → Nat) (M : mM) (hR : RepM γ L F o ad M)  : kC l yX5_clear cX5_clear 2 (some .int) (kRm 4 0 0) γ L F [.ref o] (kI fun r L1 F1 => L = L1 ∧ ∃ M1, RepM γ L1 F1 o ad M1 ∧ (r, M1) = clearM M) := by
  refine kC_of (by decide +kernel) (Nat.le_of_ble_eq_true rfl) ?_
  intro p e s m args below meth c sz ls hargs hsz hM hin hE hX hl
  have hx := hM.1
  have hb := hM.2.1
  have hl : lv_has ls 2 [(0, .ref o)] := hl
  refine lv_aload_n hx hb dX5_clear_0 rfl (lv_at hl 0 rfl) ?_
  refine lv_iconst (v := 0) hx hb dX5_clear_1 (by decide) ?_
  refine m_put hM hE hX hR 24 (by decide) rfl (by decide) k_1091 rfl rfl rfl rfl dX5_clear_2 (fun F H locs hX hR => ?_)
  refine lv_aload_n hx hb dX5_clear_5 rfl (lv_at hl 0 rfl) ?_
  refine m_get hM hE hX hR 22 (by decide) k_1089 rfl rfl dX5_clear_6 ?_
  refine lv_istore_n (lv' := [(1, .int (M 22 0)), (0, .ref o)]) hx hb dX5_clear_9 rfl hl (by decide) rfl (fun ls hl => ?_)
  refine lv_aload_n hx hb dX5_clear_10 rfl (lv_at hl 1 rfl) ?_
  refine lv_iconst (v := 0) hx hb dX5_clear_11 (by decide) ?_
  refine m_put hM hE hX hR 22 (by decide) rfl (by decide) k_1089 rfl rfl rfl rfl dX5_clear_12 (fun F H locs hX hR => ?_)
  refine lv_iload_n hx hb dX5_clear_15 rfl (lv_at hl 0 rfl) ?_
  exact k_iret hM hsz hX ⟨_, rfl, rfl, _, hR, (show clearM M = _ from rfl).symm⟩ (by decide) (by decide) dX5_clear_16
def faultC (M : mM) : Int32 × mM := ((faultM (mset M 24 0 0)), (mset M 24 0 0))
set_option maxHeartbeats 4000000 in
set_option maxRecDepth 100000 in
theorem c_X5_fault (l : Launch) (γ : kG) (L : List Nat) (F : kF) (o : Nat) (ad : Nat → Nat) (M : mM) (hR : RepM γ L F o ad M) (hd : okD M) : kC l yX5_fault cX5_fault 1 (some .int) (kRm 4 0 0) γ L F [.ref o] (kI fun r L1 F1 => L = L1 ∧ ∃ M1, RepM γ L1 F1 o ad M1 ∧ (r, M1) = faultC M) := by
  refine kC_of (by decide +kernel) (Nat.le_of_ble_eq_true rfl) ?_
  intro p e s m args below meth c sz ls hargs hsz hM hin hE hX hl
  have hx := hM.1
  have hb := hM.2.1
  have hl : lv_has ls 1 [(0, .ref o)] := hl
  refine lv_aload_n hx hb dX5_fault_0 rfl (lv_at hl 0 rfl) ?_
  refine lv_iconst (v := 0) hx hb dX5_fault_1 (by decide) ?_
  refine m_put hM hE hX hR 24 (by decide) rfl (by decide) k_1091 rfl rfl rfl rfl dX5_fault_2 (fun F H locs hX hR => ?_)
  refine lv_aload_n hx hb dX5_fault_5 rfl (lv_at hl 0 rfl) ?_
  refine k_goi (k_V (n := 0) (As := []) (rest := []) hM hE hX hl (c_X5_faultOf l γ L F o ad (mset M 24 0 0) hR hd) hR.1 hR.2.1 rfl k_1240 k_1242 kp_35 k_9 k_1243 ⟨rfl, by decide, by decide, by decide +kernel⟩ (by decide) rfl rfl (Nat.le_of_ble_eq_true rfl) dX5_fault_6 (by decide)) hE hX (fun r L1 F1 H locs hp hX => ?_)
  obtain ⟨rfl, rfl, rfl⟩ := hp
  exact k_iret hM hsz hX ⟨_, rfl, rfl, _, hR, (show faultC M = _ from rfl).symm⟩ (by decide) (by decide) dX5_fault_9
def passM (M : mM) (a : Int32) : Int32 × mM := (if 1 ≤ a ∧ a ≤ 60 then (if ((M 0 0) + a) ≤ 999 then ((((M 0 0) + a) / 30), (mset (mset M 24 0 0) 0 0 ((M 0 0) + a))) else (0, (mset M 24 0 2))) else (0, (mset M 24 0 1)))
set_option maxHeartbeats 4000000 in
set_option maxRecDepth 100000 in
theorem c_X5_pass (l : Launch) (γ : kG) (L : List Nat) (F : kF) (o : Nat) (ad : Nat → Nat) (M : mM) (hR : RepM γ L F o ad M) (a : Int32) : kC l yX5_pass cX5_pass 2 (some .int) (kRm 4 0 0) γ L F [.ref o, .int a] (kI fun r L1 F1 => L = L1 ∧ ∃ M1, RepM γ L1 F1 o ad M1 ∧ (r, M1) = passM M a) := by
  refine kC_of (by decide +kernel) (Nat.le_of_ble_eq_true rfl) ?_
  intro p e s m args below meth c sz ls hargs hsz hM hin hE hX hl
  have hx := hM.1
  have hb := hM.2.1
  have hl : lv_has ls 2 [(0, .ref o), (1, .int a)] := hl
  refine lv_aload_n hx hb dX5_pass_0 rfl (lv_at hl 0 rfl) ?_
  refine lv_iload_n hx hb dX5_pass_1 rfl (lv_at hl 1 rfl) ?_
  refine lv_iconst (v := 1) hx hb dX5_pass_2 (by decide) ?_
  refine lv_bipush (v := 60) hx hb dX5_pass_3 (by decide) ?_
  refine k_goi (k_S (n := 3) (As := [.int a, .int 1, .int 60]) (rest := [.ref o]) hM hE hX hl (c_X5_isIn l γ L F a 1 60) k_1155 k_1156 k_9 k_1157 ⟨by decide, by decide, by decide +kernel⟩ (by decide) rfl rfl (Nat.le_of_ble_eq_true rfl) dX5_pass_5 (by decide)) hE hX (fun r L1 F1 H locs hp hX => ?_)
  obtain ⟨rfl, rfl, ⟨rfl, h_1⟩ | ⟨rfl, h_1⟩⟩ := hp
  · refine lv_if_ne (tgt := 15) hx hb dX5_pass_8 (by decide) (fun _ => ?_) (fun c_2 => absurd (show (1 : Int32) = 0 from c_2) (by decide))
    refine lv_aload_n hx hb dX5_pass_15 rfl (lv_at hl 0 rfl) ?_
    refine m_get hM hE hX hR 0 (by decide) k_1067 rfl rfl dX5_pass_16 ?_
    refine lv_iload_n hx hb dX5_pass_19 rfl (lv_at hl 1 rfl) ?_
    refine lv_iadd hx hb dX5_pass_20 ?_
    refine lv_sipush (v := 999) hx hb dX5_pass_21 (by decide) ?_
    refine lv_icmp_le (tgt := 31) hx hb dX5_pass_24 (by decide) (fun c_3 => ?_) (fun c_3 => ?_)
    · refine lv_iconst (v := 0) hx hb dX5_pass_31 (by decide) ?_
      refine m_put hM hE hX hR 24 (by decide) rfl (by decide) k_1091 rfl rfl rfl rfl dX5_pass_32 (fun F H locs hX hR => ?_)
      refine lv_aload_n hx hb dX5_pass_35 rfl (lv_at hl 0 rfl) ?_
      refine m_get hM hE hX hR 24 (by decide) k_1091 rfl rfl dX5_pass_36 ?_
      refine lv_if_le (tgt := 44) hx hb dX5_pass_39 (by decide) (fun _ => ?_) (fun c_4 => absurd (show ¬ (0 : Int32) ≤ 0 from c_4) (by decide))
      refine lv_aload_n hx hb dX5_pass_44 rfl (lv_at hl 0 rfl) ?_
      refine lv_dup hx hb dX5_pass_45 rfl ?_
      refine m_get hM hE hX hR 0 (by decide) k_1067 rfl rfl dX5_pass_46 ?_
      refine lv_iload_n hx hb dX5_pass_49 rfl (lv_at hl 1 rfl) ?_
      refine lv_iadd hx hb dX5_pass_50 ?_
      refine m_put hM hE hX hR 0 (by decide) rfl (by decide) k_1067 rfl rfl rfl rfl dX5_pass_51 (fun F H locs hX hR => ?_)
      refine lv_aload_n hx hb dX5_pass_54 rfl (lv_at hl 0 rfl) ?_
      refine m_get hM hE hX hR 0 (by decide) k_1067 rfl rfl dX5_pass_55 ?_
      refine lv_bipush (v := 30) hx hb dX5_pass_58 (by decide) ?_
      refine lv_idiv hx hb dX5_pass_60 (by decide) ?_
      exact k_iret hM hsz hX ⟨_, rfl, rfl, _, hR, (show passM M a = _ from ((if_pos h_1).trans ((if_pos c_3).trans rfl))).symm⟩ (by decide) (by decide) dX5_pass_61
    · refine lv_iconst (v := 2) hx hb dX5_pass_27 (by decide) ?_
      refine lv_goto (tgt := 32) hx hb dX5_pass_28 (by decide) ?_
      refine m_put hM hE hX hR 24 (by decide) rfl (by decide) k_1091 rfl rfl rfl rfl dX5_pass_32 (fun F H locs hX hR => ?_)
      refine lv_aload_n hx hb dX5_pass_35 rfl (lv_at hl 0 rfl) ?_
      refine m_get hM hE hX hR 24 (by decide) k_1091 rfl rfl dX5_pass_36 ?_
      refine lv_if_le (tgt := 44) hx hb dX5_pass_39 (by decide) (fun c_5 => absurd (show (2 : Int32) ≤ 0 from c_5) (by decide)) (fun _ => ?_)
      refine lv_iconst (v := 0) hx hb dX5_pass_42 (by decide) ?_
      exact k_iret hM hsz hX ⟨_, rfl, rfl, _, hR, (show passM M a = _ from ((if_pos h_1).trans ((if_neg c_3).trans rfl))).symm⟩ (by decide) (by decide) dX5_pass_43
  · refine lv_if_ne (tgt := 15) hx hb dX5_pass_8 (by decide) (fun c_6 => absurd (show ¬ (0 : Int32) = 0 from c_6) (by decide)) (fun _ => ?_)
    refine lv_iconst (v := 1) hx hb dX5_pass_11 (by decide) ?_
    refine lv_goto (tgt := 32) hx hb dX5_pass_12 (by decide) ?_
    refine m_put hM hE hX hR 24 (by decide) rfl (by decide) k_1091 rfl rfl rfl rfl dX5_pass_32 (fun F H locs hX hR => ?_)
    refine lv_aload_n hx hb dX5_pass_35 rfl (lv_at hl 0 rfl) ?_
    refine m_get hM hE hX hR 24 (by decide) k_1091 rfl rfl dX5_pass_36 ?_
    refine lv_if_le (tgt := 44) hx hb dX5_pass_39 (by decide) (fun c_7 => absurd (show (1 : Int32) ≤ 0 from c_7) (by decide)) (fun _ => ?_)
    refine lv_iconst (v := 0) hx hb dX5_pass_42 (by decide) ?_
    exact k_iret hM hsz hX ⟨_, rfl, rfl, _, hR, (show passM M a = _ from ((if_neg h_1).trans rfl)).symm⟩ (by decide) (by decide) dX5_pass_43
theorem pays_ok {a b x : Int32} (h : paysC a b x ≤ 0) : (okI a 6 ∧ okI b 6) := by
  by_cases h1 : 0 ≤ a ∧ a ≤ 5
  · by_cases h2 : 0 ≤ b ∧ b ≤ 5
    · exact ⟨okI_5 h1, okI_5 h2⟩
    · exact absurd h (by rw [show paysC a b x = 1 from (if_pos h1).trans (if_neg h2)]; decide)
  · exact absurd h (by rw [show paysC a b x = 1 from if_neg h1]; decide)
def itsM (M : mM) : Int32 := (if (faultM M) = (-1) then (if (M 22 0) = 2 then ((M 23 1) - 48) else (((10 * ((M 23 1) - 48)) + (M 23 2)) - 48)) else (-1))
def ptail (M : mM) (a b x v : Int32) : Int32 × mM := (if 0 ≤ v ∧ v ≤ (M 2 0) - 1 then (if (M 4 (kj v)) = a then (if (M 9 (kj v)) = b then (if (owed (mset M 24 0 (paysC a b x)) (kj v)) < x then (0, (mset (mset M 24 0 (paysC a b x)) 24 0 3)) else (v, (mset (movesM (mset (mset (mset M 24 0 (paysC a b x)) 24 0 0) 12 (kj v) ((M 12 (kj v)) + x)) (kj a) (kj b) x) 22 0 0))) else (0, (mset (mset M 24 0 (paysC a b x)) 24 0 3))) else (0, (mset (mset M 24 0 (paysC a b x)) 24 0 3))) else (0, (mset (mset M 24 0 (paysC a b x)) 24 0 3)))
def payTextM (M : mM) (a b x : Int32) : Int32 × mM := if paysC a b x ≤ 0 then ptail M a b x (itsM (mset M 24 0 (paysC a b x))) else (0, (mset M 24 0 (paysC a b x)))
set_option maxHeartbeats 4000000 in
set_option maxRecDepth 100000 in
theorem c_X5_payByText (l : Launch) (γ : kG) (L : List Nat) (F : kF) (o : Nat) (ad : Nat → Nat) (M : mM) (hR : RepM γ L F o ad M) (a b x : Int32) (hn : okN M) (hk : ∀ i, i < nn M → okL M i) (hd : okD M) : kC l yX5_payByText cX5_payByText 6 (some .int) (kRm 4 0 0) γ L F [.ref o, .int a, .int b, .int x] (kI fun r L1 F1 => L = L1 ∧ ∃ M1, RepM γ L1 F1 o ad M1 ∧ (r, M1) = payTextM M a b x) := by
  refine kC_of (by decide +kernel) (Nat.le_of_ble_eq_true rfl) ?_
  intro p e s m args below meth c sz ls hargs hsz hM hin hE hX hl
  have hx := hM.1
  have hb := hM.2.1
  have hl : lv_has ls 6 [(0, .ref o), (1, .int a), (2, .int b), (3, .int x)] := hl
  have hn2 := hn.2
  refine lv_aload_n hx hb dX5_payByText_0 rfl (lv_at hl 0 rfl) ?_
  refine lv_iload_n hx hb dX5_payByText_1 rfl (lv_at hl 1 rfl) ?_
  refine lv_iload_n hx hb dX5_payByText_2 rfl (lv_at hl 2 rfl) ?_
  refine lv_iload_n hx hb dX5_payByText_3 rfl (lv_at hl 3 rfl) ?_
  refine k_goi (k_S (n := 3) (As := [.int a, .int b, .int x]) (rest := [.ref o]) hM hE hX hl (c_X5_pays l γ L F a b x) k_1248 k_1249 k_9 k_1250 ⟨by decide, by decide, by decide +kernel⟩ (by decide) rfl rfl (Nat.le_of_ble_eq_true rfl) dX5_payByText_4 (by decide)) hE hX (fun r L1 F1 H locs hp hX => ?_)
  obtain ⟨rfl, rfl, rfl⟩ := hp
  refine m_put hM hE hX hR 24 (by decide) rfl (by decide) k_1091 rfl rfl rfl rfl dX5_payByText_7 (fun F H locs hX hR => ?_)
  refine lv_aload_n hx hb dX5_payByText_10 rfl (lv_at hl 0 rfl) ?_
  refine m_get hM hE hX hR 24 (by decide) k_1091 rfl rfl dX5_payByText_11 ?_
  refine lv_if_le (tgt := 19) hx hb dX5_payByText_14 (by decide) (fun c_1 => ?_) (fun c_1 => ?_)
  · have hpo := pays_ok c_1
    have tail : ∀ (v : Int32) (H : Heap) (locs : List Loc) (ls : Array Slot), payTextM M a b x = ptail M a b x v → kX γ (kA L sz) s L F H locs → lv_has ls 6 [(4, .int v), (0, .ref o), (1, .int a), (2, .int b), (3, .int x)] → W p l e (kRm 4 0 0) s m args below meth c H locs 0 0 (MQ below (kQ γ L sz (kI fun r L1 F1 => L = L1 ∧ ∃ M1, RepM γ L1 F1 o ad M1 ∧ (r, M1) = payTextM M a b x)) args s (kRm 4 0 0).cells (kRm 4 0 0).slots (kA L sz)) (F0 m 75 ls []) := by
      intro v H locs ls hv hX hl
      refine lv_aload_n hx hb dX5_payByText_75 rfl (lv_at hl 1 rfl) ?_
      refine lv_iload hx hb dX5_payByText_76 (lv_at hl 0 rfl) ?_
      refine k_goi (k_V (n := 1) (As := [.int v]) (rest := []) hM hE hX hl (c_X5_isInvoice l γ L F o ad (mset M 24 0 (paysC a b x)) hR v) hR.1 hR.2.1 rfl k_1169 k_1171 kp_28 k_9 k_1172 ⟨rfl, by decide, by decide, by decide +kernel⟩ (by decide) rfl rfl (Nat.le_of_ble_eq_true rfl) dX5_payByText_78 (by decide)) hE hX (fun r L1 F1 H locs hp hX => ?_)
      obtain ⟨rfl, rfl, ⟨rfl, h_61⟩ | ⟨rfl, h_61⟩⟩ := hp
      · have hj : okI v (nn M) := ixM (M := (mset M 24 0 (paysC a b x))) hn h_61
        have hj2 : kj v < nn M := hj.2
        refine lv_if_eq (tgt := 120) hx hb dX5_payByText_81 (by decide) (fun c_62 => absurd (show (1 : Int32) = 0 from c_62) (by decide)) (fun _ => ?_)
        refine lv_aload_n hx hb dX5_payByText_84 rfl (lv_at hl 1 rfl) ?_
        refine m_get hM hE hX hR 4 (by decide) k_1071 rfl rfl dX5_payByText_85 ?_
        refine lv_iload hx hb dX5_payByText_88 (lv_at hl 0 rfl) ?_
        refine m_iald hM hE hX hR 4 (kj v) (by decide) rfl rfl hj.1 (show kj v < 20 by omega) dX5_payByText_90 ?_
        refine lv_iload_n hx hb dX5_payByText_91 rfl (lv_at hl 2 rfl) ?_
        refine lv_icmp_ne (tgt := 120) hx hb dX5_payByText_92 (by decide) (fun c_63 => ?_) (fun c_63 => ?_)
        · refine lv_iconst (v := 0) hx hb dX5_payByText_120 (by decide) ?_
          refine lv_istore (lv' := [(5, .int 0), (4, .int v), (0, .ref o), (1, .int a), (2, .int b), (3, .int x)]) hx hb dX5_payByText_121 hl (by decide) rfl (fun ls hl => ?_)
          refine lv_aload_n hx hb dX5_payByText_123 rfl (lv_at hl 2 rfl) ?_
          refine lv_iload hx hb dX5_payByText_124 (lv_at hl 0 rfl) ?_
          refine lv_if_eq (tgt := 133) hx hb dX5_payByText_126 (by decide) (fun _ => ?_) (fun c_64 => absurd (show ¬ (0 : Int32) = 0 from c_64) (by decide))
          refine lv_iconst (v := 3) hx hb dX5_payByText_133 (by decide) ?_
          refine m_put hM hE hX hR 24 (by decide) rfl (by decide) k_1091 rfl rfl rfl rfl dX5_payByText_134 (fun F H locs hX hR => ?_)
          refine lv_aload_n hx hb dX5_payByText_137 rfl (lv_at hl 2 rfl) ?_
          refine m_get hM hE hX hR 24 (by decide) k_1091 rfl rfl dX5_payByText_138 ?_
          refine lv_if_le (tgt := 146) hx hb dX5_payByText_141 (by decide) (fun c_65 => absurd (show (3 : Int32) ≤ 0 from c_65) (by decide)) (fun _ => ?_)
          refine lv_iconst (v := 0) hx hb dX5_payByText_144 (by decide) ?_
          exact k_iret hM hsz hX ⟨_, rfl, rfl, _, hR, (hv.trans (show ptail M a b x v = _ from ((if_pos h_61).trans ((if_neg c_63).trans rfl)))).symm⟩ (by decide) (by decide) dX5_payByText_145
        · refine lv_aload_n hx hb dX5_payByText_95 rfl (lv_at hl 1 rfl) ?_
          refine m_get hM hE hX hR 9 (by decide) k_1076 rfl rfl dX5_payByText_96 ?_
          refine lv_iload hx hb dX5_payByText_99 (lv_at hl 0 rfl) ?_
          refine m_iald hM hE hX hR 9 (kj v) (by decide) rfl rfl hj.1 (show kj v < 20 by omega) dX5_payByText_101 ?_
          refine lv_iload_n hx hb dX5_payByText_102 rfl (lv_at hl 3 rfl) ?_
          refine lv_icmp_ne (tgt := 120) hx hb dX5_payByText_103 (by decide) (fun c_66 => ?_) (fun c_66 => ?_)
          · refine lv_iconst (v := 0) hx hb dX5_payByText_120 (by decide) ?_
            refine lv_istore (lv' := [(5, .int 0), (4, .int v), (0, .ref o), (1, .int a), (2, .int b), (3, .int x)]) hx hb dX5_payByText_121 hl (by decide) rfl (fun ls hl => ?_)
            refine lv_aload_n hx hb dX5_payByText_123 rfl (lv_at hl 2 rfl) ?_
            refine lv_iload hx hb dX5_payByText_124 (lv_at hl 0 rfl) ?_
            refine lv_if_eq (tgt := 133) hx hb dX5_payByText_126 (by decide) (fun _ => ?_) (fun c_67 => absurd (show ¬ (0 : Int32) = 0 from c_67) (by decide))
            refine lv_iconst (v := 3) hx hb dX5_payByText_133 (by decide) ?_
            refine m_put hM hE hX hR 24 (by decide) rfl (by decide) k_1091 rfl rfl rfl rfl dX5_payByText_134 (fun F H locs hX hR => ?_)
            refine lv_aload_n hx hb dX5_payByText_137 rfl (lv_at hl 2 rfl) ?_
            refine m_get hM hE hX hR 24 (by decide) k_1091 rfl rfl dX5_payByText_138 ?_
            refine lv_if_le (tgt := 146) hx hb dX5_payByText_141 (by decide) (fun c_68 => absurd (show (3 : Int32) ≤ 0 from c_68) (by decide)) (fun _ => ?_)
            refine lv_iconst (v := 0) hx hb dX5_payByText_144 (by decide) ?_
            exact k_iret hM hsz hX ⟨_, rfl, rfl, _, hR, (hv.trans (show ptail M a b x v = _ from ((if_pos h_61).trans ((if_pos c_63).trans ((if_neg c_66).trans rfl))))).symm⟩ (by decide) (by decide) dX5_payByText_145
          · refine lv_iload_n hx hb dX5_payByText_106 rfl (lv_at hl 4 rfl) ?_
            refine lv_aload_n hx hb dX5_payByText_107 rfl (lv_at hl 1 rfl) ?_
            refine lv_iload hx hb dX5_payByText_108 (lv_at hl 0 rfl) ?_
            refine k_goi (k_V (n := 1) (As := [.int v]) (rest := [.int x]) hM hE hX hl (c_X5_owed l γ L F o ad (mset M 24 0 (paysC a b x)) hR (kj v) v hj.1 (by omega) (hk _ hj.2)) hR.1 hR.2.1 rfl k_1181 k_1183 kp_30 k_9 k_1184 ⟨rfl, by decide, by decide, by decide +kernel⟩ (by decide) rfl rfl (Nat.le_of_ble_eq_true rfl) dX5_payByText_110 (by decide)) hE hX (fun r L1 F1 H locs hp hX => ?_)
            obtain ⟨rfl, rfl, rfl⟩ := hp
            refine lv_icmp_gt (tgt := 120) hx hb dX5_payByText_113 (by decide) (fun c_69 => ?_) (fun c_69 => ?_)
            · refine lv_iconst (v := 0) hx hb dX5_payByText_120 (by decide) ?_
              refine lv_istore (lv' := [(5, .int 0), (4, .int v), (0, .ref o), (1, .int a), (2, .int b), (3, .int x)]) hx hb dX5_payByText_121 hl (by decide) rfl (fun ls hl => ?_)
              refine lv_aload_n hx hb dX5_payByText_123 rfl (lv_at hl 2 rfl) ?_
              refine lv_iload hx hb dX5_payByText_124 (lv_at hl 0 rfl) ?_
              refine lv_if_eq (tgt := 133) hx hb dX5_payByText_126 (by decide) (fun _ => ?_) (fun c_70 => absurd (show ¬ (0 : Int32) = 0 from c_70) (by decide))
              refine lv_iconst (v := 3) hx hb dX5_payByText_133 (by decide) ?_
              refine m_put hM hE hX hR 24 (by decide) rfl (by decide) k_1091 rfl rfl rfl rfl dX5_payByText_134 (fun F H locs hX hR => ?_)
              refine lv_aload_n hx hb dX5_payByText_137 rfl (lv_at hl 2 rfl) ?_
              refine m_get hM hE hX hR 24 (by decide) k_1091 rfl rfl dX5_payByText_138 ?_
              refine lv_if_le (tgt := 146) hx hb dX5_payByText_141 (by decide) (fun c_71 => absurd (show (3 : Int32) ≤ 0 from c_71) (by decide)) (fun _ => ?_)
              refine lv_iconst (v := 0) hx hb dX5_payByText_144 (by decide) ?_
              exact k_iret hM hsz hX ⟨_, rfl, rfl, _, hR, (hv.trans (show ptail M a b x v = _ from ((if_pos h_61).trans ((if_pos c_63).trans ((if_pos c_66).trans ((if_pos c_69).trans rfl)))))).symm⟩ (by decide) (by decide) dX5_payByText_145
            · refine lv_iconst (v := 1) hx hb dX5_payByText_116 (by decide) ?_
              refine lv_goto (tgt := 121) hx hb dX5_payByText_117 (by decide) ?_
              refine lv_istore (lv' := [(5, .int 1), (4, .int v), (0, .ref o), (1, .int a), (2, .int b), (3, .int x)]) hx hb dX5_payByText_121 hl (by decide) rfl (fun ls hl => ?_)
              refine lv_aload_n hx hb dX5_payByText_123 rfl (lv_at hl 2 rfl) ?_
              refine lv_iload hx hb dX5_payByText_124 (lv_at hl 0 rfl) ?_
              refine lv_if_eq (tgt := 133) hx hb dX5_payByText_126 (by decide) (fun c_72 => absurd (show (1 : Int32) = 0 from c_72) (by decide)) (fun _ => ?_)
              refine lv_iconst (v := 0) hx hb dX5_payByText_129 (by decide) ?_
              refine lv_goto (tgt := 134) hx hb dX5_payByText_130 (by decide) ?_
              refine m_put hM hE hX hR 24 (by decide) rfl (by decide) k_1091 rfl rfl rfl rfl dX5_payByText_134 (fun F H locs hX hR => ?_)
              refine lv_aload_n hx hb dX5_payByText_137 rfl (lv_at hl 2 rfl) ?_
              refine m_get hM hE hX hR 24 (by decide) k_1091 rfl rfl dX5_payByText_138 ?_
              refine lv_if_le (tgt := 146) hx hb dX5_payByText_141 (by decide) (fun _ => ?_) (fun c_73 => absurd (show ¬ (0 : Int32) ≤ 0 from c_73) (by decide))
              refine lv_aload_n hx hb dX5_payByText_146 rfl (lv_at hl 2 rfl) ?_
              refine m_get hM hE hX hR 12 (by decide) k_1079 rfl rfl dX5_payByText_147 ?_
              refine lv_iload hx hb dX5_payByText_150 (lv_at hl 1 rfl) ?_
              refine lv_dup2_11 hx hb dX5_payByText_152 rfl rfl ?_
              refine m_iald hM hE hX hR 12 (kj v) (by decide) rfl rfl hj.1 (show kj v < 20 by omega) dX5_payByText_153 ?_
              refine lv_iload_n hx hb dX5_payByText_154 rfl (lv_at hl 5 rfl) ?_
              refine lv_iadd hx hb dX5_payByText_155 ?_
              refine m_iast hM hE hX hR 12 (kj v) (by decide) rfl rfl hj.1 (show kj v < 20 by omega) dX5_payByText_156 (fun F H locs hX hR => ?_)
              refine lv_aload_n hx hb dX5_payByText_157 rfl (lv_at hl 2 rfl) ?_
              refine lv_iload_n hx hb dX5_payByText_158 rfl (lv_at hl 3 rfl) ?_
              refine lv_iload_n hx hb dX5_payByText_159 rfl (lv_at hl 4 rfl) ?_
              refine lv_iload_n hx hb dX5_payByText_160 rfl (lv_at hl 5 rfl) ?_
              refine k_gou (k_V (n := 3) (As := [.int a, .int b, .int x]) (rest := []) hM hE hX hl (c_X5_moves l γ L F o ad (mset (mset (mset M 24 0 (paysC a b x)) 24 0 0) 12 (kj v) ((M 12 (kj v)) + x)) hR (kj a) (kj b) a b x hpo.1.1 hpo.2.1 hpo.1.2 hpo.2.2) hR.1 hR.2.1 rfl k_1220 k_1222 kp_34 k_9 k_1223 ⟨rfl, by decide, by decide, by decide +kernel⟩ (by decide) rfl rfl (Nat.le_of_ble_eq_true rfl) dX5_payByText_161 (by decide)) hE hX (fun L1 F H locs hp hX => ?_)
              obtain ⟨rfl, M1, hR, rfl⟩ := hp
              refine lv_aload_n hx hb dX5_payByText_164 rfl (lv_at hl 2 rfl) ?_
              refine lv_iconst (v := 0) hx hb dX5_payByText_165 (by decide) ?_
              refine m_put hM hE hX hR 22 (by decide) rfl (by decide) k_1089 rfl rfl rfl rfl dX5_payByText_166 (fun F H locs hX hR => ?_)
              refine lv_iload hx hb dX5_payByText_169 (lv_at hl 1 rfl) ?_
              exact k_iret hM hsz hX ⟨_, rfl, rfl, _, hR, (hv.trans (show ptail M a b x v = _ from ((if_pos h_61).trans ((if_pos c_63).trans ((if_pos c_66).trans ((if_neg c_69).trans rfl)))))).symm⟩ (by decide) (by decide) dX5_payByText_171
      · refine lv_if_eq (tgt := 120) hx hb dX5_payByText_81 (by decide) (fun _ => ?_) (fun c_74 => absurd (show ¬ (0 : Int32) = 0 from c_74) (by decide))
        refine lv_iconst (v := 0) hx hb dX5_payByText_120 (by decide) ?_
        refine lv_istore (lv' := [(5, .int 0), (4, .int v), (0, .ref o), (1, .int a), (2, .int b), (3, .int x)]) hx hb dX5_payByText_121 hl (by decide) rfl (fun ls hl => ?_)
        refine lv_aload_n hx hb dX5_payByText_123 rfl (lv_at hl 2 rfl) ?_
        refine lv_iload hx hb dX5_payByText_124 (lv_at hl 0 rfl) ?_
        refine lv_if_eq (tgt := 133) hx hb dX5_payByText_126 (by decide) (fun _ => ?_) (fun c_75 => absurd (show ¬ (0 : Int32) = 0 from c_75) (by decide))
        refine lv_iconst (v := 3) hx hb dX5_payByText_133 (by decide) ?_
        refine m_put hM hE hX hR 24 (by decide) rfl (by decide) k_1091 rfl rfl rfl rfl dX5_payByText_134 (fun F H locs hX hR => ?_)
        refine lv_aload_n hx hb dX5_payByText_137 rfl (lv_at hl 2 rfl) ?_
        refine m_get hM hE hX hR 24 (by decide) k_1091 rfl rfl dX5_payByText_138 ?_
        refine lv_if_le (tgt := 146) hx hb dX5_payByText_141 (by decide) (fun c_76 => absurd (show (3 : Int32) ≤ 0 from c_76) (by decide)) (fun _ => ?_)
        refine lv_iconst (v := 0) hx hb dX5_payByText_144 (by decide) ?_
        exact k_iret hM hsz hX ⟨_, rfl, rfl, _, hR, (hv.trans (show ptail M a b x v = _ from ((if_neg h_61).trans rfl))).symm⟩ (by decide) (by decide) dX5_payByText_145
    refine lv_aload_n hx hb dX5_payByText_19 rfl (lv_at hl 0 rfl) ?_
    refine k_goi (k_V (n := 0) (As := []) (rest := []) hM hE hX hl (c_X5_faultOf l γ L F o ad (mset M 24 0 (paysC a b x)) hR hd) hR.1 hR.2.1 rfl k_1240 k_1242 kp_35 k_9 k_1243 ⟨rfl, by decide, by decide, by decide +kernel⟩ (by decide) rfl rfl (Nat.le_of_ble_eq_true rfl) dX5_payByText_20 (by decide)) hE hX (fun r L1 F1 H locs hp hX => ?_)
    obtain ⟨rfl, rfl, rfl⟩ := hp
    refine lv_iconst (v := (-1)) hx hb dX5_payByText_23 (by decide) ?_
    refine lv_icmp_eq (tgt := 31) hx hb dX5_payByText_24 (by decide) (fun c_2 => ?_) (fun c_2 => ?_)
    · refine lv_aload_n hx hb dX5_payByText_31 rfl (lv_at hl 0 rfl) ?_
      refine m_get hM hE hX hR 22 (by decide) k_1089 rfl rfl dX5_payByText_32 ?_
      refine lv_iconst (v := 2) hx hb dX5_payByText_35 (by decide) ?_
      refine lv_icmp_ne (tgt := 51) hx hb dX5_payByText_36 (by decide) (fun c_3 => ?_) (fun c_3 => ?_)
      · refine lv_bipush (v := 10) hx hb dX5_payByText_51 (by decide) ?_
        refine lv_aload_n hx hb dX5_payByText_53 rfl (lv_at hl 0 rfl) ?_
        refine m_get hM hE hX hR 23 (by decide) k_1090 rfl rfl dX5_payByText_54 ?_
        refine lv_iconst (v := 1) hx hb dX5_payByText_57 (by decide) ?_
        refine m_iald hM hE hX hR 23 1 (by decide) rfl rfl rfl (show 1 < 10 by omega) dX5_payByText_58 ?_
        refine lv_bipush (v := 48) hx hb dX5_payByText_59 (by decide) ?_
        refine lv_isub hx hb dX5_payByText_61 ?_
        refine lv_imul hx hb dX5_payByText_62 ?_
        refine lv_aload_n hx hb dX5_payByText_63 rfl (lv_at hl 0 rfl) ?_
        refine m_get hM hE hX hR 23 (by decide) k_1090 rfl rfl dX5_payByText_64 ?_
        refine lv_iconst (v := 2) hx hb dX5_payByText_67 (by decide) ?_
        refine m_iald hM hE hX hR 23 2 (by decide) rfl rfl rfl (show 2 < 10 by omega) dX5_payByText_68 ?_
        refine lv_iadd hx hb dX5_payByText_69 ?_
        refine lv_bipush (v := 48) hx hb dX5_payByText_70 (by decide) ?_
        refine lv_isub hx hb dX5_payByText_72 ?_
        refine lv_istore (lv' := [(4, .int (((10 * ((M 23 1) - 48)) + (M 23 2)) - 48)), (0, .ref o), (1, .int a), (2, .int b), (3, .int x)]) hx hb dX5_payByText_73 hl (by decide) rfl (fun ls hl => ?_)
        exact tail _ _ _ _ ((if_pos c_1).trans (congrArg (ptail M a b x) (show itsM (mset M 24 0 (paysC a b x)) = _ from ((if_pos c_2).trans ((if_neg c_3).trans rfl))))) hX (lv_sub hl [0, 1, 2, 3, 4] rfl)
      · refine lv_aload_n hx hb dX5_payByText_39 rfl (lv_at hl 0 rfl) ?_
        refine m_get hM hE hX hR 23 (by decide) k_1090 rfl rfl dX5_payByText_40 ?_
        refine lv_iconst (v := 1) hx hb dX5_payByText_43 (by decide) ?_
        refine m_iald hM hE hX hR 23 1 (by decide) rfl rfl rfl (show 1 < 10 by omega) dX5_payByText_44 ?_
        refine lv_bipush (v := 48) hx hb dX5_payByText_45 (by decide) ?_
        refine lv_isub hx hb dX5_payByText_47 ?_
        refine lv_goto (tgt := 73) hx hb dX5_payByText_48 (by decide) ?_
        refine lv_istore (lv' := [(4, .int ((M 23 1) - 48)), (0, .ref o), (1, .int a), (2, .int b), (3, .int x)]) hx hb dX5_payByText_73 hl (by decide) rfl (fun ls hl => ?_)
        exact tail _ _ _ _ ((if_pos c_1).trans (congrArg (ptail M a b x) (show itsM (mset M 24 0 (paysC a b x)) = _ from ((if_pos c_2).trans ((if_pos c_3).trans rfl))))) hX (lv_sub hl [0, 1, 2, 3, 4] rfl)
    · refine lv_iconst (v := (-1)) hx hb dX5_payByText_27 (by decide) ?_
      refine lv_goto (tgt := 73) hx hb dX5_payByText_28 (by decide) ?_
      refine lv_istore (lv' := [(4, .int (-1)), (0, .ref o), (1, .int a), (2, .int b), (3, .int x)]) hx hb dX5_payByText_73 hl (by decide) rfl (fun ls hl => ?_)
      exact tail _ _ _ _ ((if_pos c_1).trans (congrArg (ptail M a b x) (show itsM (mset M 24 0 (paysC a b x)) = _ from ((if_neg c_2).trans rfl)))) hX (lv_sub hl [0, 1, 2, 3, 4] rfl)
  · refine lv_iconst (v := 0) hx hb dX5_payByText_17 (by decide) ?_
    exact k_iret hM hsz hX ⟨_, rfl, rfl, _, hR, (show payTextM M a b x = _ from if_neg c_1).symm⟩ (by decide) (by decide) dX5_payByText_18
theorem okI_nI {j n : Nat} (h : j < n) (h2 : j < 2 ^ 31) : okI (nI j) n := by
  have e : kj (nI j) = j := nI_clamp h2
  exact ⟨by rw [e], by rw [e]; exact h⟩
def psM (M0 : mM) (a b x : Int32) (r : Nat) (y : Int32) : Int32 := (if (M0 4 r) = a then (if (M0 9 r) = b then (if (owed M0 r) = x then (nI (r + 1) - 1) else y) else y) else y)
def psTail (M0 : mM) (a b x y : Int32) : Int32 × mM := (if y = (-1) then (0, (mset M0 24 0 3)) else (y, (movesM (mset (mset M0 24 0 0) 12 (kj y) ((M0 12 (kj y)) + x)) (kj a) (kj b) x)))
def paySumM (M : mM) (a b x : Int32) : Int32 × mM := if paysC a b x ≤ 0 then psTail (mset M 24 0 (paysC a b x)) a b x (l_down (psM (mset M 24 0 (paysC a b x)) a b x) (nn (mset M 24 0 (paysC a b x))) (-1)) else (0, (mset M 24 0 (paysC a b x)))
set_option maxHeartbeats 4000000 in
set_option maxRecDepth 100000 in
theorem c_X5_payBySum (l : Launch) (γ : kG) (L : List Nat) (F : kF) (o : Nat) (ad : Nat → Nat) (M : mM) (hR : RepM γ L F o ad M) (a b x : Int32) (hn : okN M) (hk : ∀ i, i < nn M → okL M i) : kC l yX5_payBySum cX5_payBySum 6 (some .int) (kRm 4 0 0) γ L F [.ref o, .int a, .int b, .int x] (kI fun r L1 F1 => L = L1 ∧ ∃ M1, RepM γ L1 F1 o ad M1 ∧ (r, M1) = paySumM M a b x) := by
  refine kC_of (by decide +kernel) (Nat.le_of_ble_eq_true rfl) ?_
  intro p e s m args below meth c sz ls hargs hsz hM hin hE hX hl
  have hx := hM.1
  have hb := hM.2.1
  have hl : lv_has ls 6 [(0, .ref o), (1, .int a), (2, .int b), (3, .int x)] := hl
  refine lv_aload_n hx hb dX5_payBySum_0 rfl (lv_at hl 0 rfl) ?_
  refine lv_iload_n hx hb dX5_payBySum_1 rfl (lv_at hl 1 rfl) ?_
  refine lv_iload_n hx hb dX5_payBySum_2 rfl (lv_at hl 2 rfl) ?_
  refine lv_iload_n hx hb dX5_payBySum_3 rfl (lv_at hl 3 rfl) ?_
  refine k_goi (k_S (n := 3) (As := [.int a, .int b, .int x]) (rest := [.ref o]) hM hE hX hl (c_X5_pays l γ L F a b x) k_1248 k_1249 k_9 k_1250 ⟨by decide, by decide, by decide +kernel⟩ (by decide) rfl rfl (Nat.le_of_ble_eq_true rfl) dX5_payBySum_4 (by decide)) hE hX (fun r L1 F1 H locs hp hX => ?_)
  obtain ⟨rfl, rfl, rfl⟩ := hp
  refine m_put hM hE hX hR 24 (by decide) rfl (by decide) k_1091 rfl rfl rfl rfl dX5_payBySum_7 (fun F H locs hX hR => ?_)
  refine lv_aload_n hx hb dX5_payBySum_10 rfl (lv_at hl 0 rfl) ?_
  refine m_get hM hE hX hR 24 (by decide) k_1091 rfl rfl dX5_payBySum_11 ?_
  refine lv_if_le (tgt := 19) hx hb dX5_payBySum_14 (by decide) (fun c_1 => ?_) (fun c_1 => ?_)
  · have hpo := pays_ok c_1
    have hn : okN (mset M 24 0 (paysC a b x)) := hn
    have hk : ∀ i, i < nn (mset M 24 0 (paysC a b x)) → okL (mset M 24 0 (paysC a b x)) i := hk
    have hps : paySumM M a b x = psTail (mset M 24 0 (paysC a b x)) a b x (l_down (psM (mset M 24 0 (paysC a b x)) a b x) (nn (mset M 24 0 (paysC a b x))) (-1)) := if_pos c_1
    generalize (mset M 24 0 (paysC a b x)) = M0 at hR hn hk hps
    have hn2 := hn.2
    have hloop : ∀ (r : Nat) (y : Int32), r ≤ nn M0 → l_down (psM M0 a b x) r y = (l_down (psM M0 a b x) (nn M0) (-1)) → (y = -1 ∨ okI y (nn M0)) → ∀ (H : Heap) (locs : List Loc) (ls : Array Slot), kX γ (kA L sz) s L F H locs → lv_has ls 6 [(4, .int y), (5, .int (nI r - 1)), (0, .ref o), (1, .int a), (2, .int b), (3, .int x)] → W p l e (kRm 4 0 0) s m args below meth c H locs 0 0 (MQ below (kQ γ L sz (kI fun r L1 F1 => L = L1 ∧ ∃ M1, RepM γ L1 F1 o ad M1 ∧ (r, M1) = paySumM M a b x)) args s (kRm 4 0 0).cells (kRm 4 0 0).slots (kA L sz)) (F0 m 30 ls []) := by
      intro r
      induction r with
      | zero =>
        intro y hr hyr hy H locs ls hX hl
        have hv : paySumM M a b x = psTail M0 a b x y := by rw [hps, ← hyr]; rfl
        refine lv_iload hx hb dX5_payBySum_30 (lv_at hl 1 rfl) ?_
        refine lv_if_lt (tgt := 82) hx hb dX5_payBySum_32 (by decide) (fun _ => ?_) (fun c_61 => absurd c_61 (not_not_intro (by decide)))
        refine lv_aload_n hx hb dX5_payBySum_82 rfl (lv_at hl 2 rfl) ?_
        refine lv_iload hx hb dX5_payBySum_83 (lv_at hl 0 rfl) ?_
        refine lv_iconst (v := (-1)) hx hb dX5_payBySum_85 (by decide) ?_
        refine lv_icmp_ne (tgt := 93) hx hb dX5_payBySum_86 (by decide) (fun c_62 => ?_) (fun c_62 => ?_)
        · refine lv_iconst (v := 0) hx hb dX5_payBySum_93 (by decide) ?_
          refine m_put hM hE hX hR 24 (by decide) rfl (by decide) k_1091 rfl rfl rfl rfl dX5_payBySum_94 (fun F H locs hX hR => ?_)
          refine lv_aload_n hx hb dX5_payBySum_97 rfl (lv_at hl 2 rfl) ?_
          refine m_get hM hE hX hR 24 (by decide) k_1091 rfl rfl dX5_payBySum_98 ?_
          refine lv_if_le (tgt := 106) hx hb dX5_payBySum_101 (by decide) (fun _ => ?_) (fun c_63 => absurd (show ¬ (0 : Int32) ≤ 0 from c_63) (by decide))
          have hj := hy.resolve_left c_62
          have hj2 := hj.2
          refine lv_aload_n hx hb dX5_payBySum_106 rfl (lv_at hl 2 rfl) ?_
          refine m_get hM hE hX hR 12 (by decide) k_1079 rfl rfl dX5_payBySum_107 ?_
          refine lv_iload hx hb dX5_payBySum_110 (lv_at hl 0 rfl) ?_
          refine lv_dup2_11 hx hb dX5_payBySum_112 rfl rfl ?_
          refine m_iald hM hE hX hR 12 (kj y) (by decide) rfl rfl hj.1 (show kj y < 20 by omega) dX5_payBySum_113 ?_
          refine lv_iload_n hx hb dX5_payBySum_114 rfl (lv_at hl 5 rfl) ?_
          refine lv_iadd hx hb dX5_payBySum_115 ?_
          refine m_iast hM hE hX hR 12 (kj y) (by decide) rfl rfl hj.1 (show kj y < 20 by omega) dX5_payBySum_116 (fun F H locs hX hR => ?_)
          refine lv_aload_n hx hb dX5_payBySum_117 rfl (lv_at hl 2 rfl) ?_
          refine lv_iload_n hx hb dX5_payBySum_118 rfl (lv_at hl 3 rfl) ?_
          refine lv_iload_n hx hb dX5_payBySum_119 rfl (lv_at hl 4 rfl) ?_
          refine lv_iload_n hx hb dX5_payBySum_120 rfl (lv_at hl 5 rfl) ?_
          refine k_gou (k_V (n := 3) (As := [.int a, .int b, .int x]) (rest := []) hM hE hX hl (c_X5_moves l γ L F o ad (mset (mset M0 24 0 0) 12 (kj y) ((M0 12 (kj y)) + x)) hR (kj a) (kj b) a b x hpo.1.1 hpo.2.1 hpo.1.2 hpo.2.2) hR.1 hR.2.1 rfl k_1220 k_1222 kp_34 k_9 k_1223 ⟨rfl, by decide, by decide, by decide +kernel⟩ (by decide) rfl rfl (Nat.le_of_ble_eq_true rfl) dX5_payBySum_121 (by decide)) hE hX (fun L1 F H locs hp hX => ?_)
          obtain ⟨rfl, M1, hR, rfl⟩ := hp
          refine lv_iload hx hb dX5_payBySum_124 (lv_at hl 0 rfl) ?_
          exact k_iret hM hsz hX ⟨_, rfl, rfl, _, hR, (hv.trans (show psTail M0 a b x y = _ from ((if_neg c_62).trans rfl))).symm⟩ (by decide) (by decide) dX5_payBySum_126
        · refine lv_iconst (v := 3) hx hb dX5_payBySum_89 (by decide) ?_
          refine lv_goto (tgt := 94) hx hb dX5_payBySum_90 (by decide) ?_
          refine m_put hM hE hX hR 24 (by decide) rfl (by decide) k_1091 rfl rfl rfl rfl dX5_payBySum_94 (fun F H locs hX hR => ?_)
          refine lv_aload_n hx hb dX5_payBySum_97 rfl (lv_at hl 2 rfl) ?_
          refine m_get hM hE hX hR 24 (by decide) k_1091 rfl rfl dX5_payBySum_98 ?_
          refine lv_if_le (tgt := 106) hx hb dX5_payBySum_101 (by decide) (fun c_64 => absurd (show (3 : Int32) ≤ 0 from c_64) (by decide)) (fun _ => ?_)
          refine lv_iconst (v := 0) hx hb dX5_payBySum_104 (by decide) ?_
          exact k_iret hM hsz hX ⟨_, rfl, rfl, _, hR, (hv.trans (show psTail M0 a b x y = _ from ((if_pos c_62).trans rfl))).symm⟩ (by decide) (by decide) dX5_payBySum_105
      | succ r ih =>
        intro y hr hyr hy H locs ls hX hl
        refine lv_iload hx hb dX5_payBySum_30 (lv_at hl 1 rfl) ?_
        refine lv_if_lt (tgt := 82) hx hb dX5_payBySum_32 (by decide) (fun c_161 => absurd c_161 (by rw [nI_pred]; exact nI_pos (by omega))) (fun _ => ?_)
        refine lv_aload_n hx hb dX5_payBySum_35 rfl (lv_at hl 2 rfl) ?_
        refine m_get hM hE hX hR 4 (by decide) k_1071 rfl rfl dX5_payBySum_36 ?_
        refine lv_iload hx hb dX5_payBySum_39 (lv_at hl 1 rfl) ?_
        refine m_iald hM hE hX hR 4 r (by decide) rfl rfl (nI_pred r) (show r < 20 by omega) dX5_payBySum_41 ?_
        refine lv_iload_n hx hb dX5_payBySum_42 rfl (lv_at hl 3 rfl) ?_
        refine lv_icmp_ne (tgt := 72) hx hb dX5_payBySum_43 (by decide) (fun c_162 => ?_) (fun c_162 => ?_)
        · refine lv_iload hx hb dX5_payBySum_72 (lv_at hl 0 rfl) ?_
          refine lv_istore (lv' := [(4, .int y), (5, .int (nI (r + 1) - 1)), (0, .ref o), (1, .int a), (2, .int b), (3, .int x)]) hx hb dX5_payBySum_74 hl (by decide) rfl (fun ls hl => ?_)
          refine lv_iinc (v := (nI r - 1)) (lv' := [(5, .int (nI r - 1)), (4, .int y), (0, .ref o), (1, .int a), (2, .int b), (3, .int x)]) hx hb dX5_payBySum_76 hl (k := 1) rfl (by rw [nI_pred, Int32.sub_eq_add_neg]; rfl) (by decide) rfl (fun ls hl => ?_)
          refine lv_goto (tgt := 30) hx hb dX5_payBySum_79 (by decide) ?_
          exact ih y (by omega) ((congrArg (l_down (psM M0 a b x) r) (show psM M0 a b x r y = y from ((if_neg c_162).trans rfl))).symm.trans hyr) hy _ _ _ hX (lv_sub hl [1, 0, 2, 3, 4, 5] rfl)
        · refine lv_aload_n hx hb dX5_payBySum_46 rfl (lv_at hl 2 rfl) ?_
          refine m_get hM hE hX hR 9 (by decide) k_1076 rfl rfl dX5_payBySum_47 ?_
          refine lv_iload hx hb dX5_payBySum_50 (lv_at hl 1 rfl) ?_
          refine m_iald hM hE hX hR 9 r (by decide) rfl rfl (nI_pred r) (show r < 20 by omega) dX5_payBySum_52 ?_
          refine lv_iload_n hx hb dX5_payBySum_53 rfl (lv_at hl 4 rfl) ?_
          refine lv_icmp_ne (tgt := 72) hx hb dX5_payBySum_54 (by decide) (fun c_163 => ?_) (fun c_163 => ?_)
          · refine lv_iload hx hb dX5_payBySum_72 (lv_at hl 0 rfl) ?_
            refine lv_istore (lv' := [(4, .int y), (5, .int (nI (r + 1) - 1)), (0, .ref o), (1, .int a), (2, .int b), (3, .int x)]) hx hb dX5_payBySum_74 hl (by decide) rfl (fun ls hl => ?_)
            refine lv_iinc (v := (nI r - 1)) (lv' := [(5, .int (nI r - 1)), (4, .int y), (0, .ref o), (1, .int a), (2, .int b), (3, .int x)]) hx hb dX5_payBySum_76 hl (k := 1) rfl (by rw [nI_pred, Int32.sub_eq_add_neg]; rfl) (by decide) rfl (fun ls hl => ?_)
            refine lv_goto (tgt := 30) hx hb dX5_payBySum_79 (by decide) ?_
            exact ih y (by omega) ((congrArg (l_down (psM M0 a b x) r) (show psM M0 a b x r y = y from ((if_pos c_162).trans ((if_neg c_163).trans rfl)))).symm.trans hyr) hy _ _ _ hX (lv_sub hl [1, 0, 2, 3, 4, 5] rfl)
          · refine lv_aload_n hx hb dX5_payBySum_57 rfl (lv_at hl 2 rfl) ?_
            refine lv_iload hx hb dX5_payBySum_58 (lv_at hl 1 rfl) ?_
            refine k_goi (k_V (n := 1) (As := [.int (nI (r + 1) - 1)]) (rest := []) hM hE hX hl (c_X5_owed l γ L F o ad M0 hR r (nI (r + 1) - 1) (nI_pred r) (by omega) (hk r (by omega))) hR.1 hR.2.1 rfl k_1181 k_1183 kp_30 k_9 k_1184 ⟨rfl, by decide, by decide, by decide +kernel⟩ (by decide) rfl rfl (Nat.le_of_ble_eq_true rfl) dX5_payBySum_60 (by decide)) hE hX (fun r L1 F1 H locs hp hX => ?_)
            obtain ⟨rfl, rfl, rfl⟩ := hp
            refine lv_iload_n hx hb dX5_payBySum_63 rfl (lv_at hl 5 rfl) ?_
            refine lv_icmp_ne (tgt := 72) hx hb dX5_payBySum_64 (by decide) (fun c_164 => ?_) (fun c_164 => ?_)
            · refine lv_iload hx hb dX5_payBySum_72 (lv_at hl 0 rfl) ?_
              refine lv_istore (lv' := [(4, .int y), (5, .int (nI (r + 1) - 1)), (0, .ref o), (1, .int a), (2, .int b), (3, .int x)]) hx hb dX5_payBySum_74 hl (by decide) rfl (fun ls hl => ?_)
              refine lv_iinc (v := (nI r - 1)) (lv' := [(5, .int (nI r - 1)), (4, .int y), (0, .ref o), (1, .int a), (2, .int b), (3, .int x)]) hx hb dX5_payBySum_76 hl (k := 1) rfl (by rw [nI_pred, Int32.sub_eq_add_neg]; rfl) (by decide) rfl (fun ls hl => ?_)
              refine lv_goto (tgt := 30) hx hb dX5_payBySum_79 (by decide) ?_
              exact ih y (by omega) ((congrArg (l_down (psM M0 a b x) r) (show psM M0 a b x r y = y from ((if_pos c_162).trans ((if_pos c_163).trans ((if_neg c_164).trans rfl))))).symm.trans hyr) hy _ _ _ hX (lv_sub hl [1, 0, 2, 3, 4, 5] rfl)
            · refine lv_iload hx hb dX5_payBySum_67 (lv_at hl 1 rfl) ?_
              refine lv_goto (tgt := 74) hx hb dX5_payBySum_69 (by decide) ?_
              refine lv_istore (lv' := [(4, .int (nI (r + 1) - 1)), (5, .int (nI (r + 1) - 1)), (0, .ref o), (1, .int a), (2, .int b), (3, .int x)]) hx hb dX5_payBySum_74 hl (by decide) rfl (fun ls hl => ?_)
              refine lv_iinc (v := (nI r - 1)) (lv' := [(5, .int (nI r - 1)), (4, .int (nI (r + 1) - 1)), (0, .ref o), (1, .int a), (2, .int b), (3, .int x)]) hx hb dX5_payBySum_76 hl (k := 1) rfl (by rw [nI_pred, Int32.sub_eq_add_neg]; rfl) (by decide) rfl (fun ls hl => ?_)
              refine lv_goto (tgt := 30) hx hb dX5_payBySum_79 (by decide) ?_
              exact ih (nI (r + 1) - 1) (by omega) ((congrArg (l_down (psM M0 a b x) r) (show psM M0 a b x r y = (nI (r + 1) - 1) from ((if_pos c_162).trans ((if_pos c_163).trans ((if_pos c_164).trans rfl))))).symm.trans hyr) (Or.inr (by rw [nI_pred]; exact okI_nI (by omega) (by omega))) _ _ _ hX (lv_sub hl [1, 0, 2, 3, 4, 5] rfl)
    refine lv_iconst (v := (-1)) hx hb dX5_payBySum_19 (by decide) ?_
    refine lv_istore (lv' := [(4, .int (-1)), (0, .ref o), (1, .int a), (2, .int b), (3, .int x)]) hx hb dX5_payBySum_20 hl (by decide) rfl (fun ls hl => ?_)
    refine lv_aload_n hx hb dX5_payBySum_22 rfl (lv_at hl 1 rfl) ?_
    refine m_get hM hE hX hR 2 (by decide) k_1069 rfl rfl dX5_payBySum_23 ?_
    refine lv_iconst (v := 1) hx hb dX5_payBySum_26 (by decide) ?_
    refine lv_isub hx hb dX5_payBySum_27 ?_
    rw [show (M0 2 0) - 1 = (nI (nn M0) - 1) from by rw [← hn.1]]
    refine lv_istore (lv' := [(5, .int (nI (nn M0) - 1)), (4, .int (-1)), (0, .ref o), (1, .int a), (2, .int b), (3, .int x)]) hx hb dX5_payBySum_28 hl (by decide) rfl (fun ls hl => ?_)
    exact hloop (nn M0) (-1) (Nat.le_refl _) rfl (Or.inl rfl) _ _ _ hX (lv_sub hl [1, 0, 2, 3, 4, 5] rfl)
  · refine lv_iconst (v := 0) hx hb dX5_payBySum_17 (by decide) ?_
    exact k_iret hM hsz hX ⟨_, rfl, rfl, _, hR, (show paySumM M a b x = _ from if_neg c_1).symm⟩ (by decide) (by decide) dX5_payBySum_18
def aboutM (M : mM) (a b : Int32) : Int32 × mM := (if 0 ≤ a ∧ a ≤ (M 2 0) - 1 then (if 0 ≤ b ∧ b ≤ 9 then (if b = 0 then ((M 6 (kj a)), (mset M 24 0 0)) else (if b = 1 then ((M 3 (kj a)), (mset M 24 0 0)) else (if b = 2 then ((M 4 (kj a)), (mset M 24 0 0)) else (if b = 3 then ((M 9 (kj a)), (mset M 24 0 0)) else (if b = 4 then ((costs (mset M 24 0 0) (kj a) 1), (mset M 24 0 0)) else (if b = 5 then ((owed (mset M 24 0 0) (kj a)), (mset M 24 0 0)) else (if b = 6 then ((M 12 (kj a)), (mset M 24 0 0)) else (if b = 7 then ((M 13 (kj a)), (mset M 24 0 0)) else (if b = 8 then ((M 7 (kj a)), (mset M 24 0 0)) else ((taxAll (mset M 24 0 0) (kj a) 0), (mset M 24 0 0))))))))))) else (0, (mset M 24 0 2))) else (0, (mset M 24 0 1)))
set_option maxHeartbeats 4000000 in
set_option maxRecDepth 100000 in
theorem c_X5_about (l : Launch) (γ : kG) (L : List Nat) (F : kF) (o : Nat) (ad : Nat → Nat) (M : mM) (hR : RepM γ L F o ad M) (a b : Int32) (hn : okN M) (hk : ∀ i, i < nn M → okL M i) : kC l yX5_about cX5_about 3 (some .int) (kRm 4 0 0) γ L F [.ref o, .int a, .int b] (kI fun r L1 F1 => L = L1 ∧ ∃ M1, RepM γ L1 F1 o ad M1 ∧ (r, M1) = aboutM M a b) := by
  refine kC_of (by decide +kernel) (Nat.le_of_ble_eq_true rfl) ?_
  intro p e s m args below meth c sz ls hargs hsz hM hin hE hX hl
  have hx := hM.1
  have hb := hM.2.1
  have hl : lv_has ls 3 [(0, .ref o), (1, .int a), (2, .int b)] := hl
  have hn2 := hn.2
  refine lv_aload_n hx hb dX5_about_0 rfl (lv_at hl 0 rfl) ?_
  refine lv_aload_n hx hb dX5_about_1 rfl (lv_at hl 0 rfl) ?_
  refine lv_iload_n hx hb dX5_about_2 rfl (lv_at hl 1 rfl) ?_
  refine k_goi (k_V (n := 1) (As := [.int a]) (rest := [.ref o]) hM hE hX hl (c_X5_isInvoice l γ L F o ad M hR a) hR.1 hR.2.1 rfl k_1169 k_1171 kp_28 k_9 k_1172 ⟨rfl, by decide, by decide, by decide +kernel⟩ (by decide) rfl rfl (Nat.le_of_ble_eq_true rfl) dX5_about_3 (by decide)) hE hX (fun r L1 F1 H locs hp hX => ?_)
  obtain ⟨rfl, rfl, ⟨rfl, h_1⟩ | ⟨rfl, h_1⟩⟩ := hp
  · have hj : okI a (nn M) := ixM (M := M) hn h_1
    have hj2 : kj a < nn M := hj.2
    refine lv_if_ne (tgt := 13) hx hb dX5_about_6 (by decide) (fun _ => ?_) (fun c_2 => absurd (show (1 : Int32) = 0 from c_2) (by decide))
    refine lv_iload_n hx hb dX5_about_13 rfl (lv_at hl 2 rfl) ?_
    refine lv_iconst (v := 0) hx hb dX5_about_14 (by decide) ?_
    refine lv_bipush (v := 9) hx hb dX5_about_15 (by decide) ?_
    refine k_goi (k_S (n := 3) (As := [.int b, .int 0, .int 9]) (rest := [.ref o]) hM hE hX hl (c_X5_isIn l γ L F b 0 9) k_1155 k_1156 k_9 k_1157 ⟨by decide, by decide, by decide +kernel⟩ (by decide) rfl rfl (Nat.le_of_ble_eq_true rfl) dX5_about_17 (by decide)) hE hX (fun r L1 F1 H locs hp hX => ?_)
    obtain ⟨rfl, rfl, ⟨rfl, h_3⟩ | ⟨rfl, h_3⟩⟩ := hp
    · refine lv_if_ne (tgt := 27) hx hb dX5_about_20 (by decide) (fun _ => ?_) (fun c_4 => absurd (show (1 : Int32) = 0 from c_4) (by decide))
      refine lv_iconst (v := 0) hx hb dX5_about_27 (by decide) ?_
      refine m_put hM hE hX hR 24 (by decide) rfl (by decide) k_1091 rfl rfl rfl rfl dX5_about_28 (fun F H locs hX hR => ?_)
      refine lv_aload_n hx hb dX5_about_31 rfl (lv_at hl 0 rfl) ?_
      refine m_get hM hE hX hR 24 (by decide) k_1091 rfl rfl dX5_about_32 ?_
      refine lv_if_le (tgt := 40) hx hb dX5_about_35 (by decide) (fun _ => ?_) (fun c_5 => absurd (show ¬ (0 : Int32) ≤ 0 from c_5) (by decide))
      refine lv_iload_n hx hb dX5_about_40 rfl (lv_at hl 2 rfl) ?_
      rcases sw9 h_3 with q_6 | q_6 | q_6 | q_6 | q_6 | q_6 | q_6 | q_6 | q_6 | q_6
      · refine lv_tableIn (off := 51) (tgt := 92) hx hb dX5_about_41 (by rw [q_6]; decide) (by rw [q_6]; decide) (by rw [q_6]; rfl) (by decide) ?_
        refine lv_aload_n hx hb dX5_about_92 rfl (lv_at hl 0 rfl) ?_
        refine m_get hM hE hX hR 6 (by decide) k_1073 rfl rfl dX5_about_93 ?_
        refine lv_iload_n hx hb dX5_about_96 rfl (lv_at hl 1 rfl) ?_
        refine m_iald hM hE hX hR 6 (kj a) (by decide) rfl rfl hj.1 (show kj a < 20 by omega) dX5_about_97 ?_
        exact k_iret hM hsz hX ⟨_, rfl, rfl, _, hR, (show aboutM M a b = _ from ((if_pos h_1).trans ((if_pos h_3).trans ((if_pos q_6).trans rfl)))).symm⟩ (by decide) (by decide) dX5_about_98
      · refine lv_tableIn (off := 58) (tgt := 99) hx hb dX5_about_41 (by rw [q_6]; decide) (by rw [q_6]; decide) (by rw [q_6]; rfl) (by decide) ?_
        refine lv_aload_n hx hb dX5_about_99 rfl (lv_at hl 0 rfl) ?_
        refine m_get hM hE hX hR 3 (by decide) k_1070 rfl rfl dX5_about_100 ?_
        refine lv_iload_n hx hb dX5_about_103 rfl (lv_at hl 1 rfl) ?_
        refine m_iald hM hE hX hR 3 (kj a) (by decide) rfl rfl hj.1 (show kj a < 20 by omega) dX5_about_104 ?_
        exact k_iret hM hsz hX ⟨_, rfl, rfl, _, hR, (show aboutM M a b = _ from ((if_pos h_1).trans ((if_pos h_3).trans ((if_neg (show ¬ b = 0 from by rw [q_6]; decide)).trans ((if_pos q_6).trans rfl))))).symm⟩ (by decide) (by decide) dX5_about_105
      · refine lv_tableIn (off := 65) (tgt := 106) hx hb dX5_about_41 (by rw [q_6]; decide) (by rw [q_6]; decide) (by rw [q_6]; rfl) (by decide) ?_
        refine lv_aload_n hx hb dX5_about_106 rfl (lv_at hl 0 rfl) ?_
        refine m_get hM hE hX hR 4 (by decide) k_1071 rfl rfl dX5_about_107 ?_
        refine lv_iload_n hx hb dX5_about_110 rfl (lv_at hl 1 rfl) ?_
        refine m_iald hM hE hX hR 4 (kj a) (by decide) rfl rfl hj.1 (show kj a < 20 by omega) dX5_about_111 ?_
        exact k_iret hM hsz hX ⟨_, rfl, rfl, _, hR, (show aboutM M a b = _ from ((if_pos h_1).trans ((if_pos h_3).trans ((if_neg (show ¬ b = 0 from by rw [q_6]; decide)).trans ((if_neg (show ¬ b = 1 from by rw [q_6]; decide)).trans ((if_pos q_6).trans rfl)))))).symm⟩ (by decide) (by decide) dX5_about_112
      · refine lv_tableIn (off := 72) (tgt := 113) hx hb dX5_about_41 (by rw [q_6]; decide) (by rw [q_6]; decide) (by rw [q_6]; rfl) (by decide) ?_
        refine lv_aload_n hx hb dX5_about_113 rfl (lv_at hl 0 rfl) ?_
        refine m_get hM hE hX hR 9 (by decide) k_1076 rfl rfl dX5_about_114 ?_
        refine lv_iload_n hx hb dX5_about_117 rfl (lv_at hl 1 rfl) ?_
        refine m_iald hM hE hX hR 9 (kj a) (by decide) rfl rfl hj.1 (show kj a < 20 by omega) dX5_about_118 ?_
        exact k_iret hM hsz hX ⟨_, rfl, rfl, _, hR, (show aboutM M a b = _ from ((if_pos h_1).trans ((if_pos h_3).trans ((if_neg (show ¬ b = 0 from by rw [q_6]; decide)).trans ((if_neg (show ¬ b = 1 from by rw [q_6]; decide)).trans ((if_neg (show ¬ b = 2 from by rw [q_6]; decide)).trans ((if_pos q_6).trans rfl))))))).symm⟩ (by decide) (by decide) dX5_about_119
      · refine lv_tableIn (off := 79) (tgt := 120) hx hb dX5_about_41 (by rw [q_6]; decide) (by rw [q_6]; decide) (by rw [q_6]; rfl) (by decide) ?_
        refine lv_aload_n hx hb dX5_about_120 rfl (lv_at hl 0 rfl) ?_
        refine lv_iload_n hx hb dX5_about_121 rfl (lv_at hl 1 rfl) ?_
        refine lv_iconst (v := 1) hx hb dX5_about_122 (by decide) ?_
        refine k_goi (k_V (n := 2) (As := [.int a, .int 1]) (rest := []) hM hE hX hl (c_X5_costs l γ L F o ad (mset M 24 0 0) hR (kj a) a 1 hj.1 (by omega) (hk _ hj.2)) hR.1 hR.2.1 rfl k_1185 k_1187 kp_31 k_9 k_1188 ⟨rfl, by decide, by decide, by decide +kernel⟩ (by decide) rfl rfl (Nat.le_of_ble_eq_true rfl) dX5_about_123 (by decide)) hE hX (fun r L1 F1 H locs hp hX => ?_)
        obtain ⟨rfl, rfl, rfl⟩ := hp
        exact k_iret hM hsz hX ⟨_, rfl, rfl, _, hR, (show aboutM M a b = _ from ((if_pos h_1).trans ((if_pos h_3).trans ((if_neg (show ¬ b = 0 from by rw [q_6]; decide)).trans ((if_neg (show ¬ b = 1 from by rw [q_6]; decide)).trans ((if_neg (show ¬ b = 2 from by rw [q_6]; decide)).trans ((if_neg (show ¬ b = 3 from by rw [q_6]; decide)).trans ((if_pos q_6).trans rfl)))))))).symm⟩ (by decide) (by decide) dX5_about_126
      · refine lv_tableIn (off := 86) (tgt := 127) hx hb dX5_about_41 (by rw [q_6]; decide) (by rw [q_6]; decide) (by rw [q_6]; rfl) (by decide) ?_
        refine lv_aload_n hx hb dX5_about_127 rfl (lv_at hl 0 rfl) ?_
        refine lv_iload_n hx hb dX5_about_128 rfl (lv_at hl 1 rfl) ?_
        refine k_goi (k_V (n := 1) (As := [.int a]) (rest := []) hM hE hX hl (c_X5_owed l γ L F o ad (mset M 24 0 0) hR (kj a) a hj.1 (by omega) (hk _ hj.2)) hR.1 hR.2.1 rfl k_1181 k_1183 kp_30 k_9 k_1184 ⟨rfl, by decide, by decide, by decide +kernel⟩ (by decide) rfl rfl (Nat.le_of_ble_eq_true rfl) dX5_about_129 (by decide)) hE hX (fun r L1 F1 H locs hp hX => ?_)
        obtain ⟨rfl, rfl, rfl⟩ := hp
        exact k_iret hM hsz hX ⟨_, rfl, rfl, _, hR, (show aboutM M a b = _ from ((if_pos h_1).trans ((if_pos h_3).trans ((if_neg (show ¬ b = 0 from by rw [q_6]; decide)).trans ((if_neg (show ¬ b = 1 from by rw [q_6]; decide)).trans ((if_neg (show ¬ b = 2 from by rw [q_6]; decide)).trans ((if_neg (show ¬ b = 3 from by rw [q_6]; decide)).trans ((if_neg (show ¬ b = 4 from by rw [q_6]; decide)).trans ((if_pos q_6).trans rfl))))))))).symm⟩ (by decide) (by decide) dX5_about_132
      · refine lv_tableIn (off := 92) (tgt := 133) hx hb dX5_about_41 (by rw [q_6]; decide) (by rw [q_6]; decide) (by rw [q_6]; rfl) (by decide) ?_
        refine lv_aload_n hx hb dX5_about_133 rfl (lv_at hl 0 rfl) ?_
        refine m_get hM hE hX hR 12 (by decide) k_1079 rfl rfl dX5_about_134 ?_
        refine lv_iload_n hx hb dX5_about_137 rfl (lv_at hl 1 rfl) ?_
        refine m_iald hM hE hX hR 12 (kj a) (by decide) rfl rfl hj.1 (show kj a < 20 by omega) dX5_about_138 ?_
        exact k_iret hM hsz hX ⟨_, rfl, rfl, _, hR, (show aboutM M a b = _ from ((if_pos h_1).trans ((if_pos h_3).trans ((if_neg (show ¬ b = 0 from by rw [q_6]; decide)).trans ((if_neg (show ¬ b = 1 from by rw [q_6]; decide)).trans ((if_neg (show ¬ b = 2 from by rw [q_6]; decide)).trans ((if_neg (show ¬ b = 3 from by rw [q_6]; decide)).trans ((if_neg (show ¬ b = 4 from by rw [q_6]; decide)).trans ((if_neg (show ¬ b = 5 from by rw [q_6]; decide)).trans ((if_pos q_6).trans rfl)))))))))).symm⟩ (by decide) (by decide) dX5_about_139
      · refine lv_tableIn (off := 99) (tgt := 140) hx hb dX5_about_41 (by rw [q_6]; decide) (by rw [q_6]; decide) (by rw [q_6]; rfl) (by decide) ?_
        refine lv_aload_n hx hb dX5_about_140 rfl (lv_at hl 0 rfl) ?_
        refine m_get hM hE hX hR 13 (by decide) k_1080 rfl rfl dX5_about_141 ?_
        refine lv_iload_n hx hb dX5_about_144 rfl (lv_at hl 1 rfl) ?_
        refine m_iald hM hE hX hR 13 (kj a) (by decide) rfl rfl hj.1 (show kj a < 20 by omega) dX5_about_145 ?_
        exact k_iret hM hsz hX ⟨_, rfl, rfl, _, hR, (show aboutM M a b = _ from ((if_pos h_1).trans ((if_pos h_3).trans ((if_neg (show ¬ b = 0 from by rw [q_6]; decide)).trans ((if_neg (show ¬ b = 1 from by rw [q_6]; decide)).trans ((if_neg (show ¬ b = 2 from by rw [q_6]; decide)).trans ((if_neg (show ¬ b = 3 from by rw [q_6]; decide)).trans ((if_neg (show ¬ b = 4 from by rw [q_6]; decide)).trans ((if_neg (show ¬ b = 5 from by rw [q_6]; decide)).trans ((if_neg (show ¬ b = 6 from by rw [q_6]; decide)).trans ((if_pos q_6).trans rfl))))))))))).symm⟩ (by decide) (by decide) dX5_about_146
      · refine lv_tableIn (off := 106) (tgt := 147) hx hb dX5_about_41 (by rw [q_6]; decide) (by rw [q_6]; decide) (by rw [q_6]; rfl) (by decide) ?_
        refine lv_aload_n hx hb dX5_about_147 rfl (lv_at hl 0 rfl) ?_
        refine m_get hM hE hX hR 7 (by decide) k_1074 rfl rfl dX5_about_148 ?_
        refine lv_iload_n hx hb dX5_about_151 rfl (lv_at hl 1 rfl) ?_
        refine m_iald hM hE hX hR 7 (kj a) (by decide) rfl rfl hj.1 (show kj a < 20 by omega) dX5_about_152 ?_
        exact k_iret hM hsz hX ⟨_, rfl, rfl, _, hR, (show aboutM M a b = _ from ((if_pos h_1).trans ((if_pos h_3).trans ((if_neg (show ¬ b = 0 from by rw [q_6]; decide)).trans ((if_neg (show ¬ b = 1 from by rw [q_6]; decide)).trans ((if_neg (show ¬ b = 2 from by rw [q_6]; decide)).trans ((if_neg (show ¬ b = 3 from by rw [q_6]; decide)).trans ((if_neg (show ¬ b = 4 from by rw [q_6]; decide)).trans ((if_neg (show ¬ b = 5 from by rw [q_6]; decide)).trans ((if_neg (show ¬ b = 6 from by rw [q_6]; decide)).trans ((if_neg (show ¬ b = 7 from by rw [q_6]; decide)).trans ((if_pos q_6).trans rfl)))))))))))).symm⟩ (by decide) (by decide) dX5_about_153
      · refine lv_tableOut (tgt := 154) hx hb dX5_about_41 (by rw [q_6]; decide) (by decide) ?_
        refine lv_aload_n hx hb dX5_about_154 rfl (lv_at hl 0 rfl) ?_
        refine lv_iload_n hx hb dX5_about_155 rfl (lv_at hl 1 rfl) ?_
        refine lv_iconst (v := 0) hx hb dX5_about_156 (by decide) ?_
        refine k_goi (k_V (n := 2) (As := [.int a, .int 0]) (rest := []) hM hE hX hl (c_X5_taxOfAll l γ L F o ad (mset M 24 0 0) hR (kj a) a 0 hj.1 (by omega) (hk _ hj.2)) hR.1 hR.2.1 rfl k_1264 k_1266 kp_36 k_9 k_1267 ⟨rfl, by decide, by decide, by decide +kernel⟩ (by decide) rfl rfl (Nat.le_of_ble_eq_true rfl) dX5_about_157 (by decide)) hE hX (fun r L1 F1 H locs hp hX => ?_)
        obtain ⟨rfl, rfl, rfl⟩ := hp
        exact k_iret hM hsz hX ⟨_, rfl, rfl, _, hR, (show aboutM M a b = _ from ((if_pos h_1).trans ((if_pos h_3).trans ((if_neg (show ¬ b = 0 from by rw [q_6]; decide)).trans ((if_neg (show ¬ b = 1 from by rw [q_6]; decide)).trans ((if_neg (show ¬ b = 2 from by rw [q_6]; decide)).trans ((if_neg (show ¬ b = 3 from by rw [q_6]; decide)).trans ((if_neg (show ¬ b = 4 from by rw [q_6]; decide)).trans ((if_neg (show ¬ b = 5 from by rw [q_6]; decide)).trans ((if_neg (show ¬ b = 6 from by rw [q_6]; decide)).trans ((if_neg (show ¬ b = 7 from by rw [q_6]; decide)).trans ((if_neg (show ¬ b = 8 from by rw [q_6]; decide)).trans rfl)))))))))))).symm⟩ (by decide) (by decide) dX5_about_160
    · refine lv_if_ne (tgt := 27) hx hb dX5_about_20 (by decide) (fun c_7 => absurd (show ¬ (0 : Int32) = 0 from c_7) (by decide)) (fun _ => ?_)
      refine lv_iconst (v := 2) hx hb dX5_about_23 (by decide) ?_
      refine lv_goto (tgt := 28) hx hb dX5_about_24 (by decide) ?_
      refine m_put hM hE hX hR 24 (by decide) rfl (by decide) k_1091 rfl rfl rfl rfl dX5_about_28 (fun F H locs hX hR => ?_)
      refine lv_aload_n hx hb dX5_about_31 rfl (lv_at hl 0 rfl) ?_
      refine m_get hM hE hX hR 24 (by decide) k_1091 rfl rfl dX5_about_32 ?_
      refine lv_if_le (tgt := 40) hx hb dX5_about_35 (by decide) (fun c_8 => absurd (show (2 : Int32) ≤ 0 from c_8) (by decide)) (fun _ => ?_)
      refine lv_iconst (v := 0) hx hb dX5_about_38 (by decide) ?_
      exact k_iret hM hsz hX ⟨_, rfl, rfl, _, hR, (show aboutM M a b = _ from ((if_pos h_1).trans ((if_neg h_3).trans rfl))).symm⟩ (by decide) (by decide) dX5_about_39
  · refine lv_if_ne (tgt := 13) hx hb dX5_about_6 (by decide) (fun c_9 => absurd (show ¬ (0 : Int32) = 0 from c_9) (by decide)) (fun _ => ?_)
    refine lv_iconst (v := 1) hx hb dX5_about_9 (by decide) ?_
    refine lv_goto (tgt := 28) hx hb dX5_about_10 (by decide) ?_
    refine m_put hM hE hX hR 24 (by decide) rfl (by decide) k_1091 rfl rfl rfl rfl dX5_about_28 (fun F H locs hX hR => ?_)
    refine lv_aload_n hx hb dX5_about_31 rfl (lv_at hl 0 rfl) ?_
    refine m_get hM hE hX hR 24 (by decide) k_1091 rfl rfl dX5_about_32 ?_
    refine lv_if_le (tgt := 40) hx hb dX5_about_35 (by decide) (fun c_10 => absurd (show (1 : Int32) ≤ 0 from c_10) (by decide)) (fun _ => ?_)
    refine lv_iconst (v := 0) hx hb dX5_about_38 (by decide) ?_
    exact k_iret hM hsz hX ⟨_, rfl, rfl, _, hR, (show aboutM M a b = _ from ((if_neg h_1).trans rfl)).symm⟩ (by decide) (by decide) dX5_about_39
def lineOfM (M : mM) (a b x : Int32) : Int32 × mM := (if (0 ≤ a ∧ a ≤ M 2 0 - 1) ∧ 0 ≤ b ∧ b ≤ M 13 (kj a) - 1 then (if 0 ≤ x ∧ x ≤ 4 then (if x = 0 then ((M 14 (3 * kj a + kj b)), (mset M 24 0 0)) else (if x = 1 then ((M 16 (3 * kj a + kj b)), (mset M 24 0 0)) else (if x = 2 then ((tx (M 14 (3 * kj a + kj b)) (M 16 (3 * kj a + kj b))), (mset M 24 0 0)) else (if x = 3 then (if (M 17 (3 * kj a + kj b)) = 0 then (0, (mset M 24 0 0)) else (1, (mset M 24 0 0))) else ((M 15 (3 * kj a + kj b)), (mset M 24 0 0)))))) else (0, (mset M 24 0 2))) else (0, (mset M 24 0 1)))
set_option maxHeartbeats 4000000 in
set_option maxRecDepth 100000 in
theorem c_X5_lineOf (l : Launch) (γ : kG) (L : List Nat) (F : kF) (o : Nat) (ad : Nat → Nat) (M : mM) (hR : RepM γ L F o ad M) (a b x : Int32) (hn : okN M) (hk : ∀ i, i < nn M → okL M i) : kC l yX5_lineOf cX5_lineOf 5 (some .int) (kRm 4 0 0) γ L F [.ref o, .int a, .int b, .int x] (kI fun r L1 F1 => L = L1 ∧ ∃ M1, RepM γ L1 F1 o ad M1 ∧ (r, M1) = lineOfM M a b x) := by
  refine kC_of (by decide +kernel) (Nat.le_of_ble_eq_true rfl) ?_
  intro p e s m args below meth c sz ls hargs hsz hM hin hE hX hl
  have hx := hM.1
  have hb := hM.2.1
  have hl : lv_has ls 5 [(0, .ref o), (1, .int a), (2, .int b), (3, .int x)] := hl
  have hn2 := hn.2
  refine lv_aload_n hx hb dX5_lineOf_0 rfl (lv_at hl 0 rfl) ?_
  refine lv_aload_n hx hb dX5_lineOf_1 rfl (lv_at hl 0 rfl) ?_
  refine lv_iload_n hx hb dX5_lineOf_2 rfl (lv_at hl 1 rfl) ?_
  refine lv_iload_n hx hb dX5_lineOf_3 rfl (lv_at hl 2 rfl) ?_
  refine k_goi (k_V (n := 2) (As := [.int a, .int b]) (rest := [.ref o]) hM hE hX hl (c_X5_isLine l γ L F o ad M hR a b hn hk) hR.1 hR.2.1 rfl k_1200 k_1202 kp_32 k_9 k_1203 ⟨rfl, by decide, by decide, by decide +kernel⟩ (by decide) rfl rfl (Nat.le_of_ble_eq_true rfl) dX5_lineOf_4 (by decide)) hE hX (fun r L1 F1 H locs hp hX => ?_)
  obtain ⟨rfl, rfl, ⟨rfl, h_1⟩ | ⟨rfl, h_1⟩⟩ := hp
  · have hj := ixM hn h_1.1
    have hj2 := hj.2
    have hq := ixL (hk _ hj.2) h_1.2
    have hq2 := hq.2
    have hk3 := (hk _ hj.2).2
    refine lv_if_ne (tgt := 14) hx hb dX5_lineOf_7 (by decide) (fun _ => ?_) (fun c_2 => absurd (show (1 : Int32) = 0 from c_2) (by decide))
    refine lv_iload_n hx hb dX5_lineOf_14 rfl (lv_at hl 3 rfl) ?_
    refine lv_iconst (v := 0) hx hb dX5_lineOf_15 (by decide) ?_
    refine lv_iconst (v := 4) hx hb dX5_lineOf_16 (by decide) ?_
    refine k_goi (k_S (n := 3) (As := [.int x, .int 0, .int 4]) (rest := [.ref o]) hM hE hX hl (c_X5_isIn l γ L F x 0 4) k_1155 k_1156 k_9 k_1157 ⟨by decide, by decide, by decide +kernel⟩ (by decide) rfl rfl (Nat.le_of_ble_eq_true rfl) dX5_lineOf_17 (by decide)) hE hX (fun r L1 F1 H locs hp hX => ?_)
    obtain ⟨rfl, rfl, ⟨rfl, h_3⟩ | ⟨rfl, h_3⟩⟩ := hp
    · refine lv_if_ne (tgt := 27) hx hb dX5_lineOf_20 (by decide) (fun _ => ?_) (fun c_4 => absurd (show (1 : Int32) = 0 from c_4) (by decide))
      refine lv_iconst (v := 0) hx hb dX5_lineOf_27 (by decide) ?_
      refine m_put hM hE hX hR 24 (by decide) rfl (by decide) k_1091 rfl rfl rfl rfl dX5_lineOf_28 (fun F H locs hX hR => ?_)
      refine lv_aload_n hx hb dX5_lineOf_31 rfl (lv_at hl 0 rfl) ?_
      refine m_get hM hE hX hR 24 (by decide) k_1091 rfl rfl dX5_lineOf_32 ?_
      refine lv_if_le (tgt := 40) hx hb dX5_lineOf_35 (by decide) (fun _ => ?_) (fun c_5 => absurd (show ¬ (0 : Int32) ≤ 0 from c_5) (by decide))
      refine lv_iconst (v := 3) hx hb dX5_lineOf_40 (by decide) ?_
      refine lv_iload_n hx hb dX5_lineOf_41 rfl (lv_at hl 1 rfl) ?_
      refine lv_imul hx hb dX5_lineOf_42 ?_
      refine lv_iload_n hx hb dX5_lineOf_43 rfl (lv_at hl 2 rfl) ?_
      refine lv_iadd hx hb dX5_lineOf_44 ?_
      refine lv_istore (lv' := [(4, .int ((3 * a) + b)), (0, .ref o), (1, .int a), (2, .int b), (3, .int x)]) hx hb dX5_lineOf_45 hl (by decide) rfl (fun ls hl => ?_)
      refine lv_iload_n hx hb dX5_lineOf_47 rfl (lv_at hl 4 rfl) ?_
      refine lv_if_ne (tgt := 61) hx hb dX5_lineOf_48 (by decide) (fun c_6 => ?_) (fun c_6 => ?_)
      · refine lv_iload_n hx hb dX5_lineOf_61 rfl (lv_at hl 4 rfl) ?_
        refine lv_iconst (v := 1) hx hb dX5_lineOf_62 (by decide) ?_
        refine lv_icmp_ne (tgt := 76) hx hb dX5_lineOf_63 (by decide) (fun c_7 => ?_) (fun c_7 => ?_)
        · refine lv_iload_n hx hb dX5_lineOf_76 rfl (lv_at hl 4 rfl) ?_
          refine lv_iconst (v := 2) hx hb dX5_lineOf_77 (by decide) ?_
          refine lv_icmp_ne (tgt := 101) hx hb dX5_lineOf_78 (by decide) (fun c_8 => ?_) (fun c_8 => ?_)
          · refine lv_iload_n hx hb dX5_lineOf_101 rfl (lv_at hl 4 rfl) ?_
            refine lv_iconst (v := 3) hx hb dX5_lineOf_102 (by decide) ?_
            refine lv_icmp_ne (tgt := 124) hx hb dX5_lineOf_103 (by decide) (fun c_9 => ?_) (fun c_9 => ?_)
            · refine lv_aload_n hx hb dX5_lineOf_124 rfl (lv_at hl 1 rfl) ?_
              refine m_get hM hE hX hR 15 (by decide) k_1082 rfl rfl dX5_lineOf_125 ?_
              refine lv_iload hx hb dX5_lineOf_128 (lv_at hl 0 rfl) ?_
              refine m_iald hM hE hX hR 15 (3 * kj a + kj b) (by decide) rfl rfl (k3ab hj.1 hq.1) (show 3 * kj a + kj b < 60 by omega) dX5_lineOf_130 ?_
              exact k_iret hM hsz hX ⟨_, rfl, rfl, _, hR, (show lineOfM M a b x = _ from ((if_pos h_1).trans ((if_pos h_3).trans ((if_neg c_6).trans ((if_neg c_7).trans ((if_neg c_8).trans ((if_neg c_9).trans rfl))))))).symm⟩ (by decide) (by decide) dX5_lineOf_131
            · refine lv_aload_n hx hb dX5_lineOf_106 rfl (lv_at hl 1 rfl) ?_
              refine m_get hM hE hX hR 17 (by decide) k_1084 rfl rfl dX5_lineOf_107 ?_
              refine lv_iload hx hb dX5_lineOf_110 (lv_at hl 0 rfl) ?_
              refine m_zald hM hE hX hR 17 (3 * kj a + kj b) (by decide) rfl rfl (k3ab hj.1 hq.1) (show 3 * kj a + kj b < 60 by omega) dX5_lineOf_112 ?_
              refine lv_if_eq (tgt := 120) hx hb dX5_lineOf_113 (by decide) (fun c_10 => ?_) (fun c_10 => ?_)
              · refine lv_iconst (v := 0) hx hb dX5_lineOf_120 (by decide) ?_
                refine lv_goto (tgt := 131) hx hb dX5_lineOf_121 (by decide) ?_
                exact k_iret hM hsz hX ⟨_, rfl, rfl, _, hR, (show lineOfM M a b x = _ from ((if_pos h_1).trans ((if_pos h_3).trans ((if_neg c_6).trans ((if_neg c_7).trans ((if_neg c_8).trans ((if_pos c_9).trans ((if_pos c_10).trans rfl)))))))).symm⟩ (by decide) (by decide) dX5_lineOf_131
              · refine lv_iconst (v := 1) hx hb dX5_lineOf_116 (by decide) ?_
                refine lv_goto (tgt := 131) hx hb dX5_lineOf_117 (by decide) ?_
                exact k_iret hM hsz hX ⟨_, rfl, rfl, _, hR, (show lineOfM M a b x = _ from ((if_pos h_1).trans ((if_pos h_3).trans ((if_neg c_6).trans ((if_neg c_7).trans ((if_neg c_8).trans ((if_pos c_9).trans ((if_neg c_10).trans rfl)))))))).symm⟩ (by decide) (by decide) dX5_lineOf_131
          · refine lv_aload_n hx hb dX5_lineOf_81 rfl (lv_at hl 1 rfl) ?_
            refine m_get hM hE hX hR 14 (by decide) k_1081 rfl rfl dX5_lineOf_82 ?_
            refine lv_iload hx hb dX5_lineOf_85 (lv_at hl 0 rfl) ?_
            refine m_iald hM hE hX hR 14 (3 * kj a + kj b) (by decide) rfl rfl (k3ab hj.1 hq.1) (show 3 * kj a + kj b < 60 by omega) dX5_lineOf_87 ?_
            refine lv_aload_n hx hb dX5_lineOf_88 rfl (lv_at hl 1 rfl) ?_
            refine m_get hM hE hX hR 16 (by decide) k_1083 rfl rfl dX5_lineOf_89 ?_
            refine lv_iload hx hb dX5_lineOf_92 (lv_at hl 0 rfl) ?_
            refine m_iald hM hE hX hR 16 (3 * kj a + kj b) (by decide) rfl rfl (k3ab hj.1 hq.1) (show 3 * kj a + kj b < 60 by omega) dX5_lineOf_94 ?_
            refine k_goi (k_S (n := 2) (As := [.int (M 14 (3 * kj a + kj b)), .int (M 16 (3 * kj a + kj b))]) (rest := []) hM hE hX hl (c_X5_taxOf l γ L F (M 14 (3 * kj a + kj b)) (M 16 (3 * kj a + kj b))) k_1189 k_1190 k_9 k_1191 ⟨by decide, by decide, by decide +kernel⟩ (by decide) rfl rfl (Nat.le_of_ble_eq_true rfl) dX5_lineOf_95 (by decide)) hE hX (fun r L1 F1 H locs hp hX => ?_)
            obtain ⟨rfl, rfl, rfl⟩ := hp
            refine lv_goto (tgt := 131) hx hb dX5_lineOf_98 (by decide) ?_
            exact k_iret hM hsz hX ⟨_, rfl, rfl, _, hR, (show lineOfM M a b x = _ from ((if_pos h_1).trans ((if_pos h_3).trans ((if_neg c_6).trans ((if_neg c_7).trans ((if_pos c_8).trans rfl)))))).symm⟩ (by decide) (by decide) dX5_lineOf_131
        · refine lv_aload_n hx hb dX5_lineOf_66 rfl (lv_at hl 1 rfl) ?_
          refine m_get hM hE hX hR 16 (by decide) k_1083 rfl rfl dX5_lineOf_67 ?_
          refine lv_iload hx hb dX5_lineOf_70 (lv_at hl 0 rfl) ?_
          refine m_iald hM hE hX hR 16 (3 * kj a + kj b) (by decide) rfl rfl (k3ab hj.1 hq.1) (show 3 * kj a + kj b < 60 by omega) dX5_lineOf_72 ?_
          refine lv_goto (tgt := 131) hx hb dX5_lineOf_73 (by decide) ?_
          exact k_iret hM hsz hX ⟨_, rfl, rfl, _, hR, (show lineOfM M a b x = _ from ((if_pos h_1).trans ((if_pos h_3).trans ((if_neg c_6).trans ((if_pos c_7).trans rfl))))).symm⟩ (by decide) (by decide) dX5_lineOf_131
      · refine lv_aload_n hx hb dX5_lineOf_51 rfl (lv_at hl 1 rfl) ?_
        refine m_get hM hE hX hR 14 (by decide) k_1081 rfl rfl dX5_lineOf_52 ?_
        refine lv_iload hx hb dX5_lineOf_55 (lv_at hl 0 rfl) ?_
        refine m_iald hM hE hX hR 14 (3 * kj a + kj b) (by decide) rfl rfl (k3ab hj.1 hq.1) (show 3 * kj a + kj b < 60 by omega) dX5_lineOf_57 ?_
        refine lv_goto (tgt := 131) hx hb dX5_lineOf_58 (by decide) ?_
        exact k_iret hM hsz hX ⟨_, rfl, rfl, _, hR, (show lineOfM M a b x = _ from ((if_pos h_1).trans ((if_pos h_3).trans ((if_pos c_6).trans rfl)))).symm⟩ (by decide) (by decide) dX5_lineOf_131
    · refine lv_if_ne (tgt := 27) hx hb dX5_lineOf_20 (by decide) (fun c_11 => absurd (show ¬ (0 : Int32) = 0 from c_11) (by decide)) (fun _ => ?_)
      refine lv_iconst (v := 2) hx hb dX5_lineOf_23 (by decide) ?_
      refine lv_goto (tgt := 28) hx hb dX5_lineOf_24 (by decide) ?_
      refine m_put hM hE hX hR 24 (by decide) rfl (by decide) k_1091 rfl rfl rfl rfl dX5_lineOf_28 (fun F H locs hX hR => ?_)
      refine lv_aload_n hx hb dX5_lineOf_31 rfl (lv_at hl 0 rfl) ?_
      refine m_get hM hE hX hR 24 (by decide) k_1091 rfl rfl dX5_lineOf_32 ?_
      refine lv_if_le (tgt := 40) hx hb dX5_lineOf_35 (by decide) (fun c_12 => absurd (show (2 : Int32) ≤ 0 from c_12) (by decide)) (fun _ => ?_)
      refine lv_iconst (v := 0) hx hb dX5_lineOf_38 (by decide) ?_
      exact k_iret hM hsz hX ⟨_, rfl, rfl, _, hR, (show lineOfM M a b x = _ from ((if_pos h_1).trans ((if_neg h_3).trans rfl))).symm⟩ (by decide) (by decide) dX5_lineOf_39
  · refine lv_if_ne (tgt := 14) hx hb dX5_lineOf_7 (by decide) (fun c_13 => absurd (show ¬ (0 : Int32) = 0 from c_13) (by decide)) (fun _ => ?_)
    refine lv_iconst (v := 1) hx hb dX5_lineOf_10 (by decide) ?_
    refine lv_goto (tgt := 28) hx hb dX5_lineOf_11 (by decide) ?_
    refine m_put hM hE hX hR 24 (by decide) rfl (by decide) k_1091 rfl rfl rfl rfl dX5_lineOf_28 (fun F H locs hX hR => ?_)
    refine lv_aload_n hx hb dX5_lineOf_31 rfl (lv_at hl 0 rfl) ?_
    refine m_get hM hE hX hR 24 (by decide) k_1091 rfl rfl dX5_lineOf_32 ?_
    refine lv_if_le (tgt := 40) hx hb dX5_lineOf_35 (by decide) (fun c_14 => absurd (show (1 : Int32) ≤ 0 from c_14) (by decide)) (fun _ => ?_)
    refine lv_iconst (v := 0) hx hb dX5_lineOf_38 (by decide) ?_
    exact k_iret hM hsz hX ⟨_, rfl, rfl, _, hR, (show lineOfM M a b x = _ from ((if_neg h_1).trans rfl)).symm⟩ (by decide) (by decide) dX5_lineOf_39
def cashM (M : mM) (a : Int32) : Int32 × mM := (if 0 ≤ a ∧ a ≤ 5 then ((M 1 (kj a)), (mset M 24 0 0)) else (0, (mset M 24 0 1)))
set_option maxHeartbeats 4000000 in
set_option maxRecDepth 100000 in
theorem c_X5_cash (l : Launch) (γ : kG) (L : List Nat) (F : kF) (o : Nat) (ad : Nat → Nat) (M : mM) (hR : RepM γ L F o ad M) (a : Int32) : kC l yX5_cash cX5_cash 2 (some .int) (kRm 4 0 0) γ L F [.ref o, .int a] (kI fun r L1 F1 => L = L1 ∧ ∃ M1, RepM γ L1 F1 o ad M1 ∧ (r, M1) = cashM M a) := by
  refine kC_of (by decide +kernel) (Nat.le_of_ble_eq_true rfl) ?_
  intro p e s m args below meth c sz ls hargs hsz hM hin hE hX hl
  have hx := hM.1
  have hb := hM.2.1
  have hl : lv_has ls 2 [(0, .ref o), (1, .int a)] := hl
  refine lv_aload_n hx hb dX5_cash_0 rfl (lv_at hl 0 rfl) ?_
  refine lv_iload_n hx hb dX5_cash_1 rfl (lv_at hl 1 rfl) ?_
  refine k_goi (k_S (n := 1) (As := [.int a]) (rest := [.ref o]) hM hE hX hl (c_X5_isCompany l γ L F a) k_1152 k_1153 k_9 k_1154 ⟨by decide, by decide, by decide +kernel⟩ (by decide) rfl rfl (Nat.le_of_ble_eq_true rfl) dX5_cash_2 (by decide)) hE hX (fun r L1 F1 H locs hp hX => ?_)
  obtain ⟨rfl, rfl, ⟨rfl, h_1⟩ | ⟨rfl, h_1⟩⟩ := hp
  · have hco := okI_5 h_1
    have hco2 := hco.2
    refine lv_if_eq (tgt := 12) hx hb dX5_cash_5 (by decide) (fun c_2 => absurd (show (1 : Int32) = 0 from c_2) (by decide)) (fun _ => ?_)
    refine lv_iconst (v := 0) hx hb dX5_cash_8 (by decide) ?_
    refine lv_goto (tgt := 13) hx hb dX5_cash_9 (by decide) ?_
    refine m_put hM hE hX hR 24 (by decide) rfl (by decide) k_1091 rfl rfl rfl rfl dX5_cash_13 (fun F H locs hX hR => ?_)
    refine lv_aload_n hx hb dX5_cash_16 rfl (lv_at hl 0 rfl) ?_
    refine m_get hM hE hX hR 24 (by decide) k_1091 rfl rfl dX5_cash_17 ?_
    refine lv_if_le (tgt := 27) hx hb dX5_cash_20 (by decide) (fun _ => ?_) (fun c_3 => absurd (show ¬ (0 : Int32) ≤ 0 from c_3) (by decide))
    refine lv_aload_n hx hb dX5_cash_27 rfl (lv_at hl 0 rfl) ?_
    refine m_get hM hE hX hR 1 (by decide) k_1068 rfl rfl dX5_cash_28 ?_
    refine lv_iload_n hx hb dX5_cash_31 rfl (lv_at hl 1 rfl) ?_
    refine m_iald hM hE hX hR 1 (kj a) (by decide) rfl rfl hco.1 (show kj a < 6 by omega) dX5_cash_32 ?_
    exact k_iret hM hsz hX ⟨_, rfl, rfl, _, hR, (show cashM M a = _ from ((if_pos h_1).trans rfl)).symm⟩ (by decide) (by decide) dX5_cash_33
  · refine lv_if_eq (tgt := 12) hx hb dX5_cash_5 (by decide) (fun _ => ?_) (fun c_4 => absurd (show ¬ (0 : Int32) = 0 from c_4) (by decide))
    refine lv_iconst (v := 1) hx hb dX5_cash_12 (by decide) ?_
    refine m_put hM hE hX hR 24 (by decide) rfl (by decide) k_1091 rfl rfl rfl rfl dX5_cash_13 (fun F H locs hX hR => ?_)
    refine lv_aload_n hx hb dX5_cash_16 rfl (lv_at hl 0 rfl) ?_
    refine m_get hM hE hX hR 24 (by decide) k_1091 rfl rfl dX5_cash_17 ?_
    refine lv_if_le (tgt := 27) hx hb dX5_cash_20 (by decide) (fun c_5 => absurd (show (1 : Int32) ≤ 0 from c_5) (by decide)) (fun _ => ?_)
    refine lv_iconst (v := 0) hx hb dX5_cash_23 (by decide) ?_
    refine lv_goto (tgt := 33) hx hb dX5_cash_24 (by decide) ?_
    exact k_iret hM hsz hX ⟨_, rfl, rfl, _, hR, (show cashM M a = _ from ((if_neg h_1).trans rfl)).symm⟩ (by decide) (by decide) dX5_cash_33
def cashAnewM (M : mM) (a : Int32) : Int32 × mM := (if 0 ≤ a ∧ a ≤ 5 then ((M 1 (kj a)), (mset M 24 0 0)) else (0, (mset M 24 0 1)))
set_option maxHeartbeats 4000000 in
set_option maxRecDepth 100000 in
theorem c_X5_cashAnew (l : Launch) (γ : kG) (L : List Nat) (F : kF) (o : Nat) (ad : Nat → Nat) (M : mM) (hR : RepM γ L F o ad M) (a : Int32) : kC l yX5_cashAnew cX5_cashAnew 2 (some .int) (kRm 4 0 0) γ L F [.ref o, .int a] (kI fun r L1 F1 => L = L1 ∧ ∃ M1, RepM γ L1 F1 o ad M1 ∧ (r, M1) = cashAnewM M a) := by
  refine kC_of (by decide +kernel) (Nat.le_of_ble_eq_true rfl) ?_
  intro p e s m args below meth c sz ls hargs hsz hM hin hE hX hl
  have hx := hM.1
  have hb := hM.2.1
  have hl : lv_has ls 2 [(0, .ref o), (1, .int a)] := hl
  refine lv_aload_n hx hb dX5_cashAnew_0 rfl (lv_at hl 0 rfl) ?_
  refine lv_iload_n hx hb dX5_cashAnew_1 rfl (lv_at hl 1 rfl) ?_
  refine k_goi (k_S (n := 1) (As := [.int a]) (rest := [.ref o]) hM hE hX hl (c_X5_isCompany l γ L F a) k_1152 k_1153 k_9 k_1154 ⟨by decide, by decide, by decide +kernel⟩ (by decide) rfl rfl (Nat.le_of_ble_eq_true rfl) dX5_cashAnew_2 (by decide)) hE hX (fun r L1 F1 H locs hp hX => ?_)
  obtain ⟨rfl, rfl, ⟨rfl, h_1⟩ | ⟨rfl, h_1⟩⟩ := hp
  · have hco := okI_5 h_1
    have hco2 := hco.2
    refine lv_if_eq (tgt := 12) hx hb dX5_cashAnew_5 (by decide) (fun c_2 => absurd (show (1 : Int32) = 0 from c_2) (by decide)) (fun _ => ?_)
    refine lv_iconst (v := 0) hx hb dX5_cashAnew_8 (by decide) ?_
    refine lv_goto (tgt := 13) hx hb dX5_cashAnew_9 (by decide) ?_
    refine m_put hM hE hX hR 24 (by decide) rfl (by decide) k_1091 rfl rfl rfl rfl dX5_cashAnew_13 (fun F H locs hX hR => ?_)
    refine lv_aload_n hx hb dX5_cashAnew_16 rfl (lv_at hl 0 rfl) ?_
    refine m_get hM hE hX hR 24 (by decide) k_1091 rfl rfl dX5_cashAnew_17 ?_
    refine lv_if_le (tgt := 27) hx hb dX5_cashAnew_20 (by decide) (fun _ => ?_) (fun c_3 => absurd (show ¬ (0 : Int32) ≤ 0 from c_3) (by decide))
    refine lv_aload_n hx hb dX5_cashAnew_27 rfl (lv_at hl 0 rfl) ?_
    refine m_get hM hE hX hR 1 (by decide) k_1068 rfl rfl dX5_cashAnew_28 ?_
    refine lv_iload_n hx hb dX5_cashAnew_31 rfl (lv_at hl 1 rfl) ?_
    refine m_iald hM hE hX hR 1 (kj a) (by decide) rfl rfl hco.1 (show kj a < 6 by omega) dX5_cashAnew_32 ?_
    exact k_iret hM hsz hX ⟨_, rfl, rfl, _, hR, (show cashAnewM M a = _ from ((if_pos h_1).trans rfl)).symm⟩ (by decide) (by decide) dX5_cashAnew_33
  · refine lv_if_eq (tgt := 12) hx hb dX5_cashAnew_5 (by decide) (fun _ => ?_) (fun c_4 => absurd (show ¬ (0 : Int32) = 0 from c_4) (by decide))
    refine lv_iconst (v := 1) hx hb dX5_cashAnew_12 (by decide) ?_
    refine m_put hM hE hX hR 24 (by decide) rfl (by decide) k_1091 rfl rfl rfl rfl dX5_cashAnew_13 (fun F H locs hX hR => ?_)
    refine lv_aload_n hx hb dX5_cashAnew_16 rfl (lv_at hl 0 rfl) ?_
    refine m_get hM hE hX hR 24 (by decide) k_1091 rfl rfl dX5_cashAnew_17 ?_
    refine lv_if_le (tgt := 27) hx hb dX5_cashAnew_20 (by decide) (fun c_5 => absurd (show (1 : Int32) ≤ 0 from c_5) (by decide)) (fun _ => ?_)
    refine lv_iconst (v := 0) hx hb dX5_cashAnew_23 (by decide) ?_
    refine lv_goto (tgt := 33) hx hb dX5_cashAnew_24 (by decide) ?_
    exact k_iret hM hsz hX ⟨_, rfl, rfl, _, hR, (show cashAnewM M a = _ from ((if_neg h_1).trans rfl)).symm⟩ (by decide) (by decide) dX5_cashAnew_33
def owedToM (M : mM) (a : Int32) : Int32 × mM := (if 0 ≤ a ∧ a ≤ 5 then ((sumsM (mset M 24 0 0) a 1), (mset M 24 0 0)) else (0, (mset M 24 0 1)))
set_option maxHeartbeats 4000000 in
set_option maxRecDepth 100000 in
theorem c_X5_owedTo (l : Launch) (γ : kG) (L : List Nat) (F : kF) (o : Nat) (ad : Nat → Nat) (M : mM) (hR : RepM γ L F o ad M) (a : Int32) (hn : okN M) (hk : ∀ i, i < nn M → okL M i) : kC l yX5_owedTo cX5_owedTo 2 (some .int) (kRm 4 0 0) γ L F [.ref o, .int a] (kI fun r L1 F1 => L = L1 ∧ ∃ M1, RepM γ L1 F1 o ad M1 ∧ (r, M1) = owedToM M a) := by
  refine kC_of (by decide +kernel) (Nat.le_of_ble_eq_true rfl) ?_
  intro p e s m args below meth c sz ls hargs hsz hM hin hE hX hl
  have hx := hM.1
  have hb := hM.2.1
  have hl : lv_has ls 2 [(0, .ref o), (1, .int a)] := hl
  have hn2 := hn.2
  refine lv_aload_n hx hb dX5_owedTo_0 rfl (lv_at hl 0 rfl) ?_
  refine lv_iload_n hx hb dX5_owedTo_1 rfl (lv_at hl 1 rfl) ?_
  refine k_goi (k_S (n := 1) (As := [.int a]) (rest := [.ref o]) hM hE hX hl (c_X5_isCompany l γ L F a) k_1152 k_1153 k_9 k_1154 ⟨by decide, by decide, by decide +kernel⟩ (by decide) rfl rfl (Nat.le_of_ble_eq_true rfl) dX5_owedTo_2 (by decide)) hE hX (fun r L1 F1 H locs hp hX => ?_)
  obtain ⟨rfl, rfl, ⟨rfl, h_1⟩ | ⟨rfl, h_1⟩⟩ := hp
  · have hco := okI_5 h_1
    have hco2 := hco.2
    refine lv_if_eq (tgt := 12) hx hb dX5_owedTo_5 (by decide) (fun c_2 => absurd (show (1 : Int32) = 0 from c_2) (by decide)) (fun _ => ?_)
    refine lv_iconst (v := 0) hx hb dX5_owedTo_8 (by decide) ?_
    refine lv_goto (tgt := 13) hx hb dX5_owedTo_9 (by decide) ?_
    refine m_put hM hE hX hR 24 (by decide) rfl (by decide) k_1091 rfl rfl rfl rfl dX5_owedTo_13 (fun F H locs hX hR => ?_)
    refine lv_aload_n hx hb dX5_owedTo_16 rfl (lv_at hl 0 rfl) ?_
    refine m_get hM hE hX hR 24 (by decide) k_1091 rfl rfl dX5_owedTo_17 ?_
    refine lv_if_le (tgt := 27) hx hb dX5_owedTo_20 (by decide) (fun _ => ?_) (fun c_3 => absurd (show ¬ (0 : Int32) ≤ 0 from c_3) (by decide))
    refine lv_aload_n hx hb dX5_owedTo_27 rfl (lv_at hl 0 rfl) ?_
    refine lv_iload_n hx hb dX5_owedTo_28 rfl (lv_at hl 1 rfl) ?_
    refine lv_iconst (v := 1) hx hb dX5_owedTo_29 (by decide) ?_
    refine k_goi (k_V (n := 2) (As := [.int a, .int 1]) (rest := []) hM hE hX hl (c_X5_sums l γ L F o ad (mset M 24 0 0) hR a 1 hn hk) hR.1 hR.2.1 rfl k_1284 k_1286 kp_37 k_9 k_1287 ⟨rfl, by decide, by decide, by decide +kernel⟩ (by decide) rfl rfl (Nat.le_of_ble_eq_true rfl) dX5_owedTo_30 (by decide)) hE hX (fun r L1 F1 H locs hp hX => ?_)
    obtain ⟨rfl, rfl, rfl⟩ := hp
    exact k_iret hM hsz hX ⟨_, rfl, rfl, _, hR, (show owedToM M a = _ from ((if_pos h_1).trans rfl)).symm⟩ (by decide) (by decide) dX5_owedTo_33
  · refine lv_if_eq (tgt := 12) hx hb dX5_owedTo_5 (by decide) (fun _ => ?_) (fun c_4 => absurd (show ¬ (0 : Int32) = 0 from c_4) (by decide))
    refine lv_iconst (v := 1) hx hb dX5_owedTo_12 (by decide) ?_
    refine m_put hM hE hX hR 24 (by decide) rfl (by decide) k_1091 rfl rfl rfl rfl dX5_owedTo_13 (fun F H locs hX hR => ?_)
    refine lv_aload_n hx hb dX5_owedTo_16 rfl (lv_at hl 0 rfl) ?_
    refine m_get hM hE hX hR 24 (by decide) k_1091 rfl rfl dX5_owedTo_17 ?_
    refine lv_if_le (tgt := 27) hx hb dX5_owedTo_20 (by decide) (fun c_5 => absurd (show (1 : Int32) ≤ 0 from c_5) (by decide)) (fun _ => ?_)
    refine lv_iconst (v := 0) hx hb dX5_owedTo_23 (by decide) ?_
    refine lv_goto (tgt := 33) hx hb dX5_owedTo_24 (by decide) ?_
    exact k_iret hM hsz hX ⟨_, rfl, rfl, _, hR, (show owedToM M a = _ from ((if_neg h_1).trans rfl)).symm⟩ (by decide) (by decide) dX5_owedTo_33
def owesM (M : mM) (a : Int32) : Int32 × mM := (if 0 ≤ a ∧ a ≤ 5 then ((sumsM (mset M 24 0 0) a 0), (mset M 24 0 0)) else (0, (mset M 24 0 1)))
set_option maxHeartbeats 4000000 in
set_option maxRecDepth 100000 in
theorem c_X5_owes (l : Launch) (γ : kG) (L : List Nat) (F : kF) (o : Nat) (ad : Nat → Nat) (M : mM) (hR : RepM γ L F o ad M) (a : Int32) (hn : okN M) (hk : ∀ i, i < nn M → okL M i) : kC l yX5_owes cX5_owes 2 (some .int) (kRm 4 0 0) γ L F [.ref o, .int a] (kI fun r L1 F1 => L = L1 ∧ ∃ M1, RepM γ L1 F1 o ad M1 ∧ (r, M1) = owesM M a) := by
  refine kC_of (by decide +kernel) (Nat.le_of_ble_eq_true rfl) ?_
  intro p e s m args below meth c sz ls hargs hsz hM hin hE hX hl
  have hx := hM.1
  have hb := hM.2.1
  have hl : lv_has ls 2 [(0, .ref o), (1, .int a)] := hl
  have hn2 := hn.2
  refine lv_aload_n hx hb dX5_owes_0 rfl (lv_at hl 0 rfl) ?_
  refine lv_iload_n hx hb dX5_owes_1 rfl (lv_at hl 1 rfl) ?_
  refine k_goi (k_S (n := 1) (As := [.int a]) (rest := [.ref o]) hM hE hX hl (c_X5_isCompany l γ L F a) k_1152 k_1153 k_9 k_1154 ⟨by decide, by decide, by decide +kernel⟩ (by decide) rfl rfl (Nat.le_of_ble_eq_true rfl) dX5_owes_2 (by decide)) hE hX (fun r L1 F1 H locs hp hX => ?_)
  obtain ⟨rfl, rfl, ⟨rfl, h_1⟩ | ⟨rfl, h_1⟩⟩ := hp
  · have hco := okI_5 h_1
    have hco2 := hco.2
    refine lv_if_eq (tgt := 12) hx hb dX5_owes_5 (by decide) (fun c_2 => absurd (show (1 : Int32) = 0 from c_2) (by decide)) (fun _ => ?_)
    refine lv_iconst (v := 0) hx hb dX5_owes_8 (by decide) ?_
    refine lv_goto (tgt := 13) hx hb dX5_owes_9 (by decide) ?_
    refine m_put hM hE hX hR 24 (by decide) rfl (by decide) k_1091 rfl rfl rfl rfl dX5_owes_13 (fun F H locs hX hR => ?_)
    refine lv_aload_n hx hb dX5_owes_16 rfl (lv_at hl 0 rfl) ?_
    refine m_get hM hE hX hR 24 (by decide) k_1091 rfl rfl dX5_owes_17 ?_
    refine lv_if_le (tgt := 27) hx hb dX5_owes_20 (by decide) (fun _ => ?_) (fun c_3 => absurd (show ¬ (0 : Int32) ≤ 0 from c_3) (by decide))
    refine lv_aload_n hx hb dX5_owes_27 rfl (lv_at hl 0 rfl) ?_
    refine lv_iload_n hx hb dX5_owes_28 rfl (lv_at hl 1 rfl) ?_
    refine lv_iconst (v := 0) hx hb dX5_owes_29 (by decide) ?_
    refine k_goi (k_V (n := 2) (As := [.int a, .int 0]) (rest := []) hM hE hX hl (c_X5_sums l γ L F o ad (mset M 24 0 0) hR a 0 hn hk) hR.1 hR.2.1 rfl k_1284 k_1286 kp_37 k_9 k_1287 ⟨rfl, by decide, by decide, by decide +kernel⟩ (by decide) rfl rfl (Nat.le_of_ble_eq_true rfl) dX5_owes_30 (by decide)) hE hX (fun r L1 F1 H locs hp hX => ?_)
    obtain ⟨rfl, rfl, rfl⟩ := hp
    exact k_iret hM hsz hX ⟨_, rfl, rfl, _, hR, (show owesM M a = _ from ((if_pos h_1).trans rfl)).symm⟩ (by decide) (by decide) dX5_owes_33
  · refine lv_if_eq (tgt := 12) hx hb dX5_owes_5 (by decide) (fun _ => ?_) (fun c_4 => absurd (show ¬ (0 : Int32) = 0 from c_4) (by decide))
    refine lv_iconst (v := 1) hx hb dX5_owes_12 (by decide) ?_
    refine m_put hM hE hX hR 24 (by decide) rfl (by decide) k_1091 rfl rfl rfl rfl dX5_owes_13 (fun F H locs hX hR => ?_)
    refine lv_aload_n hx hb dX5_owes_16 rfl (lv_at hl 0 rfl) ?_
    refine m_get hM hE hX hR 24 (by decide) k_1091 rfl rfl dX5_owes_17 ?_
    refine lv_if_le (tgt := 27) hx hb dX5_owes_20 (by decide) (fun c_5 => absurd (show (1 : Int32) ≤ 0 from c_5) (by decide)) (fun _ => ?_)
    refine lv_iconst (v := 0) hx hb dX5_owes_23 (by decide) ?_
    refine lv_goto (tgt := 33) hx hb dX5_owes_24 (by decide) ?_
    exact k_iret hM hsz hX ⟨_, rfl, rfl, _, hR, (show owesM M a = _ from ((if_neg h_1).trans rfl)).symm⟩ (by decide) (by decide) dX5_owes_33
def taxM (M : mM) (a b : Int32) : Int32 × mM := (if 0 ≤ a ∧ a ≤ 5 then (if 0 ≤ b ∧ b ≤ (M 0 0) / 30 then (if (taxTo (mset M 24 0 0) a (kj b)) ≤ 0 then (0, (mset M 24 0 0)) else ((taxTo (mset M 24 0 0) a (kj b)), (mset M 24 0 0))) else (0, (mset M 24 0 1))) else (0, (mset M 24 0 1)))
set_option maxHeartbeats 4000000 in
set_option maxRecDepth 100000 in
theorem c_X5_tax (l : Launch) (γ : kG) (L : List Nat) (F : kF) (o : Nat) (ad : Nat → Nat) (M : mM) (hR : RepM γ L F o ad M) (a b : Int32) (hn : okN M) (hk : ∀ i, i < nn M → okL M i) (hc : okC M) (hci : ∀ k, k < cc M → okI (M 19 k) 20) (hday : okI (M 0 0) 1000) : kC l yX5_tax cX5_tax 4 (some .int) (kRm 4 0 0) γ L F [.ref o, .int a, .int b] (kI fun r L1 F1 => L = L1 ∧ ∃ M1, RepM γ L1 F1 o ad M1 ∧ (r, M1) = taxM M a b) := by
  refine kC_of (by decide +kernel) (Nat.le_of_ble_eq_true rfl) ?_
  intro p e s m args below meth c sz ls hargs hsz hM hin hE hX hl
  have hx := hM.1
  have hb := hM.2.1
  have hl : lv_has ls 4 [(0, .ref o), (1, .int a), (2, .int b)] := hl
  have hn2 := hn.2
  refine lv_aload_n hx hb dX5_tax_0 rfl (lv_at hl 0 rfl) ?_
  refine lv_iload_n hx hb dX5_tax_1 rfl (lv_at hl 1 rfl) ?_
  refine k_goi (k_S (n := 1) (As := [.int a]) (rest := [.ref o]) hM hE hX hl (c_X5_isCompany l γ L F a) k_1152 k_1153 k_9 k_1154 ⟨by decide, by decide, by decide +kernel⟩ (by decide) rfl rfl (Nat.le_of_ble_eq_true rfl) dX5_tax_2 (by decide)) hE hX (fun r L1 F1 H locs hp hX => ?_)
  obtain ⟨rfl, rfl, ⟨rfl, h_1⟩ | ⟨rfl, h_1⟩⟩ := hp
  · have hco := okI_5 h_1
    have hco2 := hco.2
    refine lv_if_eq (tgt := 20) hx hb dX5_tax_5 (by decide) (fun c_2 => absurd (show (1 : Int32) = 0 from c_2) (by decide)) (fun _ => ?_)
    refine lv_aload_n hx hb dX5_tax_8 rfl (lv_at hl 0 rfl) ?_
    refine lv_iload_n hx hb dX5_tax_9 rfl (lv_at hl 2 rfl) ?_
    refine k_goi (k_V (n := 1) (As := [.int b]) (rest := [.ref o]) hM hE hX hl (c_X5_isMonth l γ L F o ad M hR b) hR.1 hR.2.1 rfl k_1296 k_1298 kp_38 k_9 k_1299 ⟨rfl, by decide, by decide, by decide +kernel⟩ (by decide) rfl rfl (Nat.le_of_ble_eq_true rfl) dX5_tax_10 (by decide)) hE hX (fun r L1 F1 H locs hp hX => ?_)
    obtain ⟨rfl, rfl, ⟨rfl, h_3⟩ | ⟨rfl, h_3⟩⟩ := hp
    · refine lv_if_eq (tgt := 20) hx hb dX5_tax_13 (by decide) (fun c_4 => absurd (show (1 : Int32) = 0 from c_4) (by decide)) (fun _ => ?_)
      refine lv_iconst (v := 0) hx hb dX5_tax_16 (by decide) ?_
      refine lv_goto (tgt := 21) hx hb dX5_tax_17 (by decide) ?_
      refine m_put hM hE hX hR 24 (by decide) rfl (by decide) k_1091 rfl rfl rfl rfl dX5_tax_21 (fun F H locs hX hR => ?_)
      refine lv_aload_n hx hb dX5_tax_24 rfl (lv_at hl 0 rfl) ?_
      refine m_get hM hE hX hR 24 (by decide) k_1091 rfl rfl dX5_tax_25 ?_
      refine lv_if_le (tgt := 33) hx hb dX5_tax_28 (by decide) (fun _ => ?_) (fun c_5 => absurd (show ¬ (0 : Int32) ≤ 0 from c_5) (by decide))
      have hmo := moOk hday h_3
      have hmo2 : kj b < 1000000 := by have := hmo.2; omega
      refine lv_aload_n hx hb dX5_tax_33 rfl (lv_at hl 0 rfl) ?_
      refine lv_iload_n hx hb dX5_tax_34 rfl (lv_at hl 1 rfl) ?_
      refine lv_iload_n hx hb dX5_tax_35 rfl (lv_at hl 2 rfl) ?_
      refine k_goi (k_V (n := 2) (As := [.int a, .int b]) (rest := []) hM hE hX hl (c_X5_taxUpTo l γ L F o ad (mset M 24 0 0) hR a b (kj b) hmo.1 hmo2 hn hk hc hci) hR.1 hR.2.1 rfl k_1300 k_1302 kp_39 k_9 k_1303 ⟨rfl, by decide, by decide, by decide +kernel⟩ (by decide) rfl rfl (Nat.le_of_ble_eq_true rfl) dX5_tax_36 (by decide)) hE hX (fun r L1 F1 H locs hp hX => ?_)
      obtain ⟨rfl, rfl, rfl⟩ := hp
      refine lv_istore_n (lv' := [(3, .int (taxTo (mset M 24 0 0) a (kj b))), (0, .ref o), (1, .int a), (2, .int b)]) hx hb dX5_tax_39 rfl hl (by decide) rfl (fun ls hl => ?_)
      refine lv_iload_n hx hb dX5_tax_40 rfl (lv_at hl 0 rfl) ?_
      refine lv_if_le (tgt := 48) hx hb dX5_tax_41 (by decide) (fun c_6 => ?_) (fun c_6 => ?_)
      · refine lv_iconst (v := 0) hx hb dX5_tax_48 (by decide) ?_
        exact k_iret hM hsz hX ⟨_, rfl, rfl, _, hR, (show taxM M a b = _ from ((if_pos h_1).trans ((if_pos h_3).trans ((if_pos c_6).trans rfl)))).symm⟩ (by decide) (by decide) dX5_tax_49
      · refine lv_iload_n hx hb dX5_tax_44 rfl (lv_at hl 0 rfl) ?_
        refine lv_goto (tgt := 49) hx hb dX5_tax_45 (by decide) ?_
        exact k_iret hM hsz hX ⟨_, rfl, rfl, _, hR, (show taxM M a b = _ from ((if_pos h_1).trans ((if_pos h_3).trans ((if_neg c_6).trans rfl)))).symm⟩ (by decide) (by decide) dX5_tax_49
    · refine lv_if_eq (tgt := 20) hx hb dX5_tax_13 (by decide) (fun _ => ?_) (fun c_7 => absurd (show ¬ (0 : Int32) = 0 from c_7) (by decide))
      refine lv_iconst (v := 1) hx hb dX5_tax_20 (by decide) ?_
      refine m_put hM hE hX hR 24 (by decide) rfl (by decide) k_1091 rfl rfl rfl rfl dX5_tax_21 (fun F H locs hX hR => ?_)
      refine lv_aload_n hx hb dX5_tax_24 rfl (lv_at hl 0 rfl) ?_
      refine m_get hM hE hX hR 24 (by decide) k_1091 rfl rfl dX5_tax_25 ?_
      refine lv_if_le (tgt := 33) hx hb dX5_tax_28 (by decide) (fun c_8 => absurd (show (1 : Int32) ≤ 0 from c_8) (by decide)) (fun _ => ?_)
      refine lv_iconst (v := 0) hx hb dX5_tax_31 (by decide) ?_
      exact k_iret hM hsz hX ⟨_, rfl, rfl, _, hR, (show taxM M a b = _ from ((if_pos h_1).trans ((if_neg h_3).trans rfl))).symm⟩ (by decide) (by decide) dX5_tax_32
  · refine lv_if_eq (tgt := 20) hx hb dX5_tax_5 (by decide) (fun _ => ?_) (fun c_9 => absurd (show ¬ (0 : Int32) = 0 from c_9) (by decide))
    refine lv_iconst (v := 1) hx hb dX5_tax_20 (by decide) ?_
    refine m_put hM hE hX hR 24 (by decide) rfl (by decide) k_1091 rfl rfl rfl rfl dX5_tax_21 (fun F H locs hX hR => ?_)
    refine lv_aload_n hx hb dX5_tax_24 rfl (lv_at hl 0 rfl) ?_
    refine m_get hM hE hX hR 24 (by decide) k_1091 rfl rfl dX5_tax_25 ?_
    refine lv_if_le (tgt := 33) hx hb dX5_tax_28 (by decide) (fun c_10 => absurd (show (1 : Int32) ≤ 0 from c_10) (by decide)) (fun _ => ?_)
    refine lv_iconst (v := 0) hx hb dX5_tax_31 (by decide) ?_
    exact k_iret hM hsz hX ⟨_, rfl, rfl, _, hR, (show taxM M a b = _ from ((if_neg h_1).trans rfl)).symm⟩ (by decide) (by decide) dX5_tax_32
def carriedM (M : mM) (a b : Int32) : Int32 × mM := (if 0 ≤ a ∧ a ≤ 5 then (if 0 ≤ b ∧ b ≤ (M 0 0) / 30 then (if 0 ≤ (taxTo (mset M 24 0 0) a (kj b)) then (0, (mset M 24 0 0)) else ((taxTo (mset M 24 0 0) a (kj b)), (mset M 24 0 0))) else (0, (mset M 24 0 1))) else (0, (mset M 24 0 1)))
set_option maxHeartbeats 4000000 in
set_option maxRecDepth 100000 in
theorem c_X5_carried (l : Launch) (γ : kG) (L : List Nat) (F : kF) (o : Nat) (ad : Nat → Nat) (M : mM) (hR : RepM γ L F o ad M) (a b : Int32) (hn : okN M) (hk : ∀ i, i < nn M → okL M i) (hc : okC M) (hci : ∀ k, k < cc M → okI (M 19 k) 20) (hday : okI (M 0 0) 1000) : kC l yX5_carried cX5_carried 4 (some .int) (kRm 4 0 0) γ L F [.ref o, .int a, .int b] (kI fun r L1 F1 => L = L1 ∧ ∃ M1, RepM γ L1 F1 o ad M1 ∧ (r, M1) = carriedM M a b) := by
  refine kC_of (by decide +kernel) (Nat.le_of_ble_eq_true rfl) ?_
  intro p e s m args below meth c sz ls hargs hsz hM hin hE hX hl
  have hx := hM.1
  have hb := hM.2.1
  have hl : lv_has ls 4 [(0, .ref o), (1, .int a), (2, .int b)] := hl
  have hn2 := hn.2
  refine lv_aload_n hx hb dX5_carried_0 rfl (lv_at hl 0 rfl) ?_
  refine lv_iload_n hx hb dX5_carried_1 rfl (lv_at hl 1 rfl) ?_
  refine k_goi (k_S (n := 1) (As := [.int a]) (rest := [.ref o]) hM hE hX hl (c_X5_isCompany l γ L F a) k_1152 k_1153 k_9 k_1154 ⟨by decide, by decide, by decide +kernel⟩ (by decide) rfl rfl (Nat.le_of_ble_eq_true rfl) dX5_carried_2 (by decide)) hE hX (fun r L1 F1 H locs hp hX => ?_)
  obtain ⟨rfl, rfl, ⟨rfl, h_1⟩ | ⟨rfl, h_1⟩⟩ := hp
  · have hco := okI_5 h_1
    have hco2 := hco.2
    refine lv_if_eq (tgt := 20) hx hb dX5_carried_5 (by decide) (fun c_2 => absurd (show (1 : Int32) = 0 from c_2) (by decide)) (fun _ => ?_)
    refine lv_aload_n hx hb dX5_carried_8 rfl (lv_at hl 0 rfl) ?_
    refine lv_iload_n hx hb dX5_carried_9 rfl (lv_at hl 2 rfl) ?_
    refine k_goi (k_V (n := 1) (As := [.int b]) (rest := [.ref o]) hM hE hX hl (c_X5_isMonth l γ L F o ad M hR b) hR.1 hR.2.1 rfl k_1296 k_1298 kp_38 k_9 k_1299 ⟨rfl, by decide, by decide, by decide +kernel⟩ (by decide) rfl rfl (Nat.le_of_ble_eq_true rfl) dX5_carried_10 (by decide)) hE hX (fun r L1 F1 H locs hp hX => ?_)
    obtain ⟨rfl, rfl, ⟨rfl, h_3⟩ | ⟨rfl, h_3⟩⟩ := hp
    · refine lv_if_eq (tgt := 20) hx hb dX5_carried_13 (by decide) (fun c_4 => absurd (show (1 : Int32) = 0 from c_4) (by decide)) (fun _ => ?_)
      refine lv_iconst (v := 0) hx hb dX5_carried_16 (by decide) ?_
      refine lv_goto (tgt := 21) hx hb dX5_carried_17 (by decide) ?_
      refine m_put hM hE hX hR 24 (by decide) rfl (by decide) k_1091 rfl rfl rfl rfl dX5_carried_21 (fun F H locs hX hR => ?_)
      refine lv_aload_n hx hb dX5_carried_24 rfl (lv_at hl 0 rfl) ?_
      refine m_get hM hE hX hR 24 (by decide) k_1091 rfl rfl dX5_carried_25 ?_
      refine lv_if_le (tgt := 33) hx hb dX5_carried_28 (by decide) (fun _ => ?_) (fun c_5 => absurd (show ¬ (0 : Int32) ≤ 0 from c_5) (by decide))
      have hmo := moOk hday h_3
      have hmo2 : kj b < 1000000 := by have := hmo.2; omega
      refine lv_aload_n hx hb dX5_carried_33 rfl (lv_at hl 0 rfl) ?_
      refine lv_iload_n hx hb dX5_carried_34 rfl (lv_at hl 1 rfl) ?_
      refine lv_iload_n hx hb dX5_carried_35 rfl (lv_at hl 2 rfl) ?_
      refine k_goi (k_V (n := 2) (As := [.int a, .int b]) (rest := []) hM hE hX hl (c_X5_taxUpTo l γ L F o ad (mset M 24 0 0) hR a b (kj b) hmo.1 hmo2 hn hk hc hci) hR.1 hR.2.1 rfl k_1300 k_1302 kp_39 k_9 k_1303 ⟨rfl, by decide, by decide, by decide +kernel⟩ (by decide) rfl rfl (Nat.le_of_ble_eq_true rfl) dX5_carried_36 (by decide)) hE hX (fun r L1 F1 H locs hp hX => ?_)
      obtain ⟨rfl, rfl, rfl⟩ := hp
      refine lv_istore_n (lv' := [(3, .int (taxTo (mset M 24 0 0) a (kj b))), (0, .ref o), (1, .int a), (2, .int b)]) hx hb dX5_carried_39 rfl hl (by decide) rfl (fun ls hl => ?_)
      refine lv_iload_n hx hb dX5_carried_40 rfl (lv_at hl 0 rfl) ?_
      refine lv_if_ge (tgt := 48) hx hb dX5_carried_41 (by decide) (fun c_6 => ?_) (fun c_6 => ?_)
      · refine lv_iconst (v := 0) hx hb dX5_carried_48 (by decide) ?_
        exact k_iret hM hsz hX ⟨_, rfl, rfl, _, hR, (show carriedM M a b = _ from ((if_pos h_1).trans ((if_pos h_3).trans ((if_pos c_6).trans rfl)))).symm⟩ (by decide) (by decide) dX5_carried_49
      · refine lv_iload_n hx hb dX5_carried_44 rfl (lv_at hl 0 rfl) ?_
        refine lv_goto (tgt := 49) hx hb dX5_carried_45 (by decide) ?_
        exact k_iret hM hsz hX ⟨_, rfl, rfl, _, hR, (show carriedM M a b = _ from ((if_pos h_1).trans ((if_pos h_3).trans ((if_neg c_6).trans rfl)))).symm⟩ (by decide) (by decide) dX5_carried_49
    · refine lv_if_eq (tgt := 20) hx hb dX5_carried_13 (by decide) (fun _ => ?_) (fun c_7 => absurd (show ¬ (0 : Int32) = 0 from c_7) (by decide))
      refine lv_iconst (v := 1) hx hb dX5_carried_20 (by decide) ?_
      refine m_put hM hE hX hR 24 (by decide) rfl (by decide) k_1091 rfl rfl rfl rfl dX5_carried_21 (fun F H locs hX hR => ?_)
      refine lv_aload_n hx hb dX5_carried_24 rfl (lv_at hl 0 rfl) ?_
      refine m_get hM hE hX hR 24 (by decide) k_1091 rfl rfl dX5_carried_25 ?_
      refine lv_if_le (tgt := 33) hx hb dX5_carried_28 (by decide) (fun c_8 => absurd (show (1 : Int32) ≤ 0 from c_8) (by decide)) (fun _ => ?_)
      refine lv_iconst (v := 0) hx hb dX5_carried_31 (by decide) ?_
      exact k_iret hM hsz hX ⟨_, rfl, rfl, _, hR, (show carriedM M a b = _ from ((if_pos h_1).trans ((if_neg h_3).trans rfl))).symm⟩ (by decide) (by decide) dX5_carried_32
  · refine lv_if_eq (tgt := 20) hx hb dX5_carried_5 (by decide) (fun _ => ?_) (fun c_9 => absurd (show ¬ (0 : Int32) = 0 from c_9) (by decide))
    refine lv_iconst (v := 1) hx hb dX5_carried_20 (by decide) ?_
    refine m_put hM hE hX hR 24 (by decide) rfl (by decide) k_1091 rfl rfl rfl rfl dX5_carried_21 (fun F H locs hX hR => ?_)
    refine lv_aload_n hx hb dX5_carried_24 rfl (lv_at hl 0 rfl) ?_
    refine m_get hM hE hX hR 24 (by decide) k_1091 rfl rfl dX5_carried_25 ?_
    refine lv_if_le (tgt := 33) hx hb dX5_carried_28 (by decide) (fun c_10 => absurd (show (1 : Int32) ≤ 0 from c_10) (by decide)) (fun _ => ?_)
    refine lv_iconst (v := 0) hx hb dX5_carried_31 (by decide) ?_
    exact k_iret hM hsz hX ⟨_, rfl, rfl, _, hR, (show carriedM M a b = _ from ((if_neg h_1).trans rfl)).symm⟩ (by decide) (by decide) dX5_carried_32
def dayM (M : mM) : Int32 × mM := ((M 0 0), (mset M 24 0 0))
set_option maxHeartbeats 4000000 in
set_option maxRecDepth 100000 in
theorem c_X5_day (l : Launch) (γ : kG) (L : List Nat) (F : kF) (o : Nat) (ad : Nat → Nat) (M : mM) (hR : RepM γ L F o ad M)  : kC l yX5_day cX5_day 1 (some .int) (kRm 4 0 0) γ L F [.ref o] (kI fun r L1 F1 => L = L1 ∧ ∃ M1, RepM γ L1 F1 o ad M1 ∧ (r, M1) = dayM M) := by
  refine kC_of (by decide +kernel) (Nat.le_of_ble_eq_true rfl) ?_
  intro p e s m args below meth c sz ls hargs hsz hM hin hE hX hl
  have hx := hM.1
  have hb := hM.2.1
  have hl : lv_has ls 1 [(0, .ref o)] := hl
  refine lv_aload_n hx hb dX5_day_0 rfl (lv_at hl 0 rfl) ?_
  refine lv_iconst (v := 0) hx hb dX5_day_1 (by decide) ?_
  refine m_put hM hE hX hR 24 (by decide) rfl (by decide) k_1091 rfl rfl rfl rfl dX5_day_2 (fun F H locs hX hR => ?_)
  refine lv_aload_n hx hb dX5_day_5 rfl (lv_at hl 0 rfl) ?_
  refine m_get hM hE hX hR 0 (by decide) k_1067 rfl rfl dX5_day_6 ?_
  exact k_iret hM hsz hX ⟨_, rfl, rfl, _, hR, (show dayM M = _ from rfl).symm⟩ (by decide) (by decide) dX5_day_9
def thrownM (M : mM) : Int32 := (M 24 0)
set_option maxHeartbeats 4000000 in
set_option maxRecDepth 100000 in
theorem c_X5_thrown (l : Launch) (γ : kG) (L : List Nat) (F : kF) (o : Nat) (ad : Nat → Nat) (M : mM) (hR : RepM γ L F o ad M)  : kC l yX5_thrown cX5_thrown 1 (some .int) (kRm 0 0 0) γ L F [.ref o] (kI fun r L1 F1 => L = L1 ∧ F = F1 ∧ r = thrownM M) := by
  refine kC_of (by decide +kernel) (Nat.le_of_ble_eq_true rfl) ?_
  intro p e s m args below meth c sz ls hargs hsz hM hin hE hX hl
  have hx := hM.1
  have hb := hM.2.1
  have hl : lv_has ls 1 [(0, .ref o)] := hl
  refine lv_aload_n hx hb dX5_thrown_0 rfl (lv_at hl 0 rfl) ?_
  refine m_get hM hE hX hR 24 (by decide) k_1091 rfl rfl dX5_thrown_1 ?_
  exact k_iret hM hsz hX ⟨_, rfl, rfl, rfl, (show thrownM M = _ from rfl).symm⟩ (by decide) (by decide) dX5_thrown_4
