/-! the law's cases 8 to 15 -/
section LC
variable {p : Program} {l : Launch} {e : Env} {s : State} {m : MethodId} {args : Array Value} {below : List Frame} {meth : Method} {c : Code} {H : Heap} {locs : List Loc} {cells slots : Nat} {Q : State → Prop}
variable {ret : Option FieldType} {γ : kG} {A : Nat → Prop} {ls : Array Slot}
set_option maxHeartbeats 4000000 in
set_option maxRecDepth 100000 in
theorem L_case_8 (hfl : l.stackTraces = false) (hM : kM p s m args meth c cL_law 7 ret "InvoicebridgeLaw") (hE : kE γ A s) {b N : Nat} {xs : Nat → Int32} (hS : lX b N xs A s) {o om q nd i : Nat} {adm : Nat → Nat} (h : Lw γ A s o om q adm nd H locs) (hnd : nd < 512) (hi : i + 6 ≤ N) (hc : cells + 30 ≤ 601024) (hs : slots + 4000 ≤ 7293034) (hl : lv_has ls 7 [(0, .ref b), (1, .ref o), (2, .ref om), (3, .ref q), (4, .int (nI i))]) (kk : ∀ (H1 : Heap) (locs1 : List Loc) (ls1 : Array Slot), Lw γ A s o om q adm (nd + 1) H1 locs1 → lv_has ls1 7 [(0, .ref b), (1, .ref o), (2, .ref om), (3, .ref q), (4, .int (nI i))] → W p l e room_1 s m args below meth c H1 locs1 (cells + 30) (slots + 4000) Q (F0 m 1735 ls1 [])) : W p l e room_1 s m args below meth c H locs cells slots Q (F0 m 804 ls []) := by
  obtain ⟨Lc, Lr, F, ad, tg, M, D, nd0, f, hX, hR, hI, hn0, hRm, hq⟩ := h
  have hx := hM.1
  have hb := hM.2.1
  refine lv_aload_n hx hb dL_law_804 rfl (lv_at hl 1 rfl) ?_
  refine L_arg (j := 1) hM hS hX (by decide) (by omega) (lv_at hl 0 rfl) (lv_at hl 4 rfl) dL_law_805 dL_law_806 dL_law_808 dL_law_809 dL_law_810 ?_
  refine lv_aload_n hx hb dL_law_811 rfl (lv_at hl 3 rfl) ?_
  refine L_wrap (MC := giveBackM M (xs (i + 1))) (k_SW (n := 3) (As := [.ref o, .int (xs (i + 1)), .ref q]) (rest := []) hM hE (kX_left (kX_w hX)) hl (c_L_giveBack l hfl γ Lc F o q ad tg M nd0 D f hR hI (by omega) hq (xs (i + 1))) k_876 k_877 k_0 k_878 ⟨by decide, by decide, by decide +kernel⟩ ⟨Nat.le_of_ble_eq_true rfl, Nat.le_of_ble_eq_true rfl⟩ rfl rfl (Nat.le_of_ble_eq_true rfl) dL_law_812 ⟨by show cells + 6 ≤ 601024; omega, by show slots + 1100 ≤ 7293034; omega⟩) hE hX hRm (fun k Lc F1 H1 locs1 ad tg nd1 D1 f1 hX1 hR1 hI1 hn1 hk hq1 hf hRm1 => ?_)
  refine W.widen (k := cells + 30) (n := slots + 4000) (by show cells + 6 ≤ _; omega) (by show slots + 1100 ≤ _; omega) ?_
  refine lv_istore (lv' := [(5, .int k), (0, .ref b), (1, .ref o), (2, .ref om), (3, .ref q), (4, .int (nI i))]) hx hb dL_law_815 hl (by decide) rfl (fun ls hl => ?_)
  refine lv_aload_n hx hb dL_law_817 rfl (lv_at hl 3 rfl) ?_
  refine L_arg (j := 1) hM hS hX1 (by decide) (by omega) (lv_at hl 1 rfl) (lv_at hl 5 rfl) dL_law_818 dL_law_819 dL_law_821 dL_law_822 dL_law_823 ?_
  refine L_ref (MC := giveBackM M (xs (i + 1))) (k_V (n := 1) (As := [.int (xs (i + 1))]) (rest := []) hM hE (kX_left (kX_r hX1)) hl (c_X5_giveBack l γ Lr F1 om adm M hRm1 (xs (i + 1)) hI.1 hI.2.1 hI.xs) hRm1.1 hRm1.2.1 rfl k_1224 k_1225 k_1226 k_9 k_1227 ⟨rfl, by decide, by decide, by decide +kernel⟩ ⟨Nat.le_of_ble_eq_true rfl, Nat.le_of_ble_eq_true rfl⟩ rfl rfl (Nat.le_of_ble_eq_true rfl) dL_law_824 ⟨by show cells + 30 ≤ 601024; omega, by show slots + 4000 ≤ 7293034; omega⟩) hE hX1 hR1 hq1 (fun F2 H2 locs2 hX2 hR2 hq2 hRm2 => ?_)
  refine W.widen (k := cells + 30) (n := slots + 4000) (Nat.le_refl _) (Nat.le_refl _) ?_
  refine lv_istore (lv' := [(6, .int (giveBackM M (xs (i + 1))).1), (5, .int k), (0, .ref b), (1, .ref o), (2, .ref om), (3, .ref q), (4, .int (nI i))]) hx hb dL_law_827 hl (by decide) rfl (fun ls hl => ?_)
  exact L_tail hM rfl hE hX2 hRm2 hq2 hk hf hl ⟨by omega, by omega⟩ dL_law_829 dL_law_830 dL_law_833 dL_law_835 dL_law_840 dL_law_842 dL_law_845 dL_law_846 dL_law_847 dL_law_848 dL_law_850 dL_law_851 dL_law_852 dL_law_857 (by decide) (fun H3 locs3 hX3 => kk H3 locs3 ls ⟨Lc, Lr, F2, ad, tg, _, D1, nd1, f1, hX3, hR2, hI1, by omega, hRm2, hq2⟩ (lv_sub hl [2, 3, 4, 5, 6] rfl))
set_option maxHeartbeats 4000000 in
set_option maxRecDepth 100000 in
theorem L_case_9 (hfl : l.stackTraces = false) (hM : kM p s m args meth c cL_law 7 ret "InvoicebridgeLaw") (hE : kE γ A s) {b N : Nat} {xs : Nat → Int32} (hS : lX b N xs A s) {o om q nd i : Nat} {adm : Nat → Nat} (h : Lw γ A s o om q adm nd H locs) (hnd : nd < 512) (hi : i + 6 ≤ N) (hc : cells + 30 ≤ 601024) (hs : slots + 4000 ≤ 7293034) (hl : lv_has ls 7 [(0, .ref b), (1, .ref o), (2, .ref om), (3, .ref q), (4, .int (nI i))]) (kk : ∀ (H1 : Heap) (locs1 : List Loc) (ls1 : Array Slot), Lw γ A s o om q adm (nd + 1) H1 locs1 → lv_has ls1 7 [(0, .ref b), (1, .ref o), (2, .ref om), (3, .ref q), (4, .int (nI i))] → W p l e room_1 s m args below meth c H1 locs1 (cells + 30) (slots + 4000) Q (F0 m 1735 ls1 [])) : W p l e room_1 s m args below meth c H locs cells slots Q (F0 m 860 ls []) := by
  obtain ⟨Lc, Lr, F, ad, tg, M, D, nd0, f, hX, hR, hI, hn0, hRm, hq⟩ := h
  have hx := hM.1
  have hb := hM.2.1
  refine lv_aload_n hx hb dL_law_860 rfl (lv_at hl 1 rfl) ?_
  refine L_arg (j := 1) hM hS hX (by decide) (by omega) (lv_at hl 0 rfl) (lv_at hl 4 rfl) dL_law_861 dL_law_862 dL_law_864 dL_law_865 dL_law_866 ?_
  refine lv_aload_n hx hb dL_law_867 rfl (lv_at hl 3 rfl) ?_
  refine L_wrap (MC := typeM M (xs (i + 1))) (k_SW (n := 3) (As := [.ref o, .int (xs (i + 1)), .ref q]) (rest := []) hM hE (kX_left (kX_w hX)) hl (c_L_type l hfl γ Lc F o q ad tg M nd0 D f hR hI (by omega) hq (xs (i + 1))) k_885 k_886 k_0 k_887 ⟨by decide, by decide, by decide +kernel⟩ ⟨Nat.le_of_ble_eq_true rfl, Nat.le_of_ble_eq_true rfl⟩ rfl rfl (Nat.le_of_ble_eq_true rfl) dL_law_868 ⟨by show cells + 1 ≤ 601024; omega, by show slots + 6 ≤ 7293034; omega⟩) hE hX hRm (fun k Lc F1 H1 locs1 ad tg nd1 D1 f1 hX1 hR1 hI1 hn1 hk hq1 hf hRm1 => ?_)
  refine W.widen (k := cells + 30) (n := slots + 4000) (by show cells + 1 ≤ _; omega) (by show slots + 6 ≤ _; omega) ?_
  refine lv_istore (lv' := [(5, .int k), (0, .ref b), (1, .ref o), (2, .ref om), (3, .ref q), (4, .int (nI i))]) hx hb dL_law_871 hl (by decide) rfl (fun ls hl => ?_)
  refine lv_aload_n hx hb dL_law_873 rfl (lv_at hl 3 rfl) ?_
  refine L_arg (j := 1) hM hS hX1 (by decide) (by omega) (lv_at hl 1 rfl) (lv_at hl 5 rfl) dL_law_874 dL_law_875 dL_law_877 dL_law_878 dL_law_879 ?_
  refine L_ref (MC := typeM M (xs (i + 1))) (k_V (n := 1) (As := [.int (xs (i + 1))]) (rest := []) hM hE (kX_left (kX_r hX1)) hl (c_X5_type l γ Lr F1 om adm M hRm1 (xs (i + 1)) hI.2.2.2.1) hRm1.1 hRm1.2.1 rfl k_1228 k_1229 k_1230 k_9 k_1231 ⟨rfl, by decide, by decide, by decide +kernel⟩ ⟨Nat.le_of_ble_eq_true rfl, Nat.le_of_ble_eq_true rfl⟩ rfl rfl (Nat.le_of_ble_eq_true rfl) dL_law_880 ⟨by show cells + 30 ≤ 601024; omega, by show slots + 4000 ≤ 7293034; omega⟩) hE hX1 hR1 hq1 (fun F2 H2 locs2 hX2 hR2 hq2 hRm2 => ?_)
  refine W.widen (k := cells + 30) (n := slots + 4000) (Nat.le_refl _) (Nat.le_refl _) ?_
  refine lv_istore (lv' := [(6, .int (typeM M (xs (i + 1))).1), (5, .int k), (0, .ref b), (1, .ref o), (2, .ref om), (3, .ref q), (4, .int (nI i))]) hx hb dL_law_883 hl (by decide) rfl (fun ls hl => ?_)
  exact L_tail hM rfl hE hX2 hRm2 hq2 hk hf hl ⟨by omega, by omega⟩ dL_law_885 dL_law_886 dL_law_889 dL_law_891 dL_law_896 dL_law_898 dL_law_901 dL_law_902 dL_law_903 dL_law_904 dL_law_906 dL_law_907 dL_law_908 dL_law_913 (by decide) (fun H3 locs3 hX3 => kk H3 locs3 ls ⟨Lc, Lr, F2, ad, tg, _, D1, nd1, f1, hX3, hR2, hI1, by omega, hRm2, hq2⟩ (lv_sub hl [2, 3, 4, 5, 6] rfl))
set_option maxHeartbeats 4000000 in
set_option maxRecDepth 100000 in
theorem L_case_10 (hfl : l.stackTraces = false) (hM : kM p s m args meth c cL_law 7 ret "InvoicebridgeLaw") (hE : kE γ A s) {b N : Nat} {xs : Nat → Int32} (hS : lX b N xs A s) {o om q nd i : Nat} {adm : Nat → Nat} (h : Lw γ A s o om q adm nd H locs) (hnd : nd < 512) (hi : i + 6 ≤ N) (hc : cells + 30 ≤ 601024) (hs : slots + 4000 ≤ 7293034) (hl : lv_has ls 7 [(0, .ref b), (1, .ref o), (2, .ref om), (3, .ref q), (4, .int (nI i))]) (kk : ∀ (H1 : Heap) (locs1 : List Loc) (ls1 : Array Slot), Lw γ A s o om q adm (nd + 1) H1 locs1 → lv_has ls1 7 [(0, .ref b), (1, .ref o), (2, .ref om), (3, .ref q), (4, .int (nI i))] → W p l e room_1 s m args below meth c H1 locs1 (cells + 30) (slots + 4000) Q (F0 m 1735 ls1 [])) : W p l e room_1 s m args below meth c H locs cells slots Q (F0 m 916 ls []) := by
  obtain ⟨Lc, Lr, F, ad, tg, M, D, nd0, f, hX, hR, hI, hn0, hRm, hq⟩ := h
  have hx := hM.1
  have hb := hM.2.1
  refine lv_aload_n hx hb dL_law_916 rfl (lv_at hl 1 rfl) ?_
  refine L_cls (MC := clearM M) (k_V (n := 0) (As := []) (rest := []) hM hE (kX_left hX) hl (c_X4_clear l γ Lc F o ad tg M nd0 D hR hI) hR.1.1 hR.1.2.2 rfl k_118 k_119 k_120 k_1 k_121 ⟨rfl, by decide, by decide, by decide +kernel⟩ ⟨Nat.le_of_ble_eq_true rfl, Nat.le_of_ble_eq_true rfl⟩ rfl rfl (Nat.le_of_ble_eq_true rfl) dL_law_917 ⟨by show cells + 0 ≤ 601024; omega, by show slots + 0 ≤ 7293034; omega⟩) hE hX (fun _ _ _ hp => hp) hRm hq (fun Lc F1 H1 locs1 ad tg nd1 D1 hX1 hR1 hI1 hn1 hq1 hRm1 => ?_)
  refine W.widen (k := cells + 30) (n := slots + 4000) (by show cells + 0 ≤ _; omega) (by show slots + 0 ≤ _; omega) ?_
  refine lv_aload_n hx hb dL_law_920 rfl (lv_at hl 2 rfl) ?_
  refine L_ref (MC := clearM M) (k_V (n := 0) (As := []) (rest := [.int (clearM M).1]) hM hE (kX_left (kX_r hX1)) hl (c_X5_clear l γ Lr F1 om adm M hRm1) hRm1.1 hRm1.2.1 rfl k_1232 k_1233 k_1234 k_9 k_1235 ⟨rfl, by decide, by decide, by decide +kernel⟩ ⟨Nat.le_of_ble_eq_true rfl, Nat.le_of_ble_eq_true rfl⟩ rfl rfl (Nat.le_of_ble_eq_true rfl) dL_law_921 ⟨by show cells + 30 ≤ 601024; omega, by show slots + 4000 ≤ 7293034; omega⟩) hE hX1 hR1 hq1 (fun F2 H2 locs2 hX2 hR2 hq2 hRm2 => ?_)
  refine W.widen (k := cells + 30) (n := slots + 4000) (Nat.le_refl _) (Nat.le_refl _) ?_
  refine lv_icmp_eq (tgt := 1735) hx hb dL_law_924 (by decide) (fun _ => ?_) (fun h9 => absurd rfl h9)
  exact kk H2 locs2 ls ⟨Lc, Lr, F2, ad, tg, _, D1, nd1, f, hX2, hR2, hI1, by omega, hRm2, hq2⟩ hl
set_option maxHeartbeats 4000000 in
set_option maxRecDepth 100000 in
theorem L_case_11 (hfl : l.stackTraces = false) (hM : kM p s m args meth c cL_law 7 ret "InvoicebridgeLaw") (hE : kE γ A s) {b N : Nat} {xs : Nat → Int32} (hS : lX b N xs A s) {o om q nd i : Nat} {adm : Nat → Nat} (h : Lw γ A s o om q adm nd H locs) (hnd : nd < 512) (hi : i + 6 ≤ N) (hc : cells + 30 ≤ 601024) (hs : slots + 4000 ≤ 7293034) (hl : lv_has ls 7 [(0, .ref b), (1, .ref o), (2, .ref om), (3, .ref q), (4, .int (nI i))]) (kk : ∀ (H1 : Heap) (locs1 : List Loc) (ls1 : Array Slot), Lw γ A s o om q adm (nd + 1) H1 locs1 → lv_has ls1 7 [(0, .ref b), (1, .ref o), (2, .ref om), (3, .ref q), (4, .int (nI i))] → W p l e room_1 s m args below meth c H1 locs1 (cells + 30) (slots + 4000) Q (F0 m 1735 ls1 [])) : W p l e room_1 s m args below meth c H locs cells slots Q (F0 m 929 ls []) := by
  obtain ⟨Lc, Lr, F, ad, tg, M, D, nd0, f, hX, hR, hI, hn0, hRm, hq⟩ := h
  have hx := hM.1
  have hb := hM.2.1
  refine lv_aload_n hx hb dL_law_929 rfl (lv_at hl 1 rfl) ?_
  refine L_cls (MC := faultC M) (k_V (n := 0) (As := []) (rest := []) hM hE (kX_left hX) hl (c_X4_fault l γ Lc F o ad tg M nd0 D hR hI) hR.1.1 hR.1.2.2 rfl k_466 k_467 k_468 k_1 k_469 ⟨rfl, by decide, by decide, by decide +kernel⟩ ⟨Nat.le_of_ble_eq_true rfl, Nat.le_of_ble_eq_true rfl⟩ rfl rfl (Nat.le_of_ble_eq_true rfl) dL_law_930 ⟨by show cells + 0 ≤ 601024; omega, by show slots + 0 ≤ 7293034; omega⟩) hE hX (fun _ _ _ hp => After.rd hR hI hp) hRm hq (fun Lc F1 H1 locs1 ad tg nd1 D1 hX1 hR1 hI1 hn1 hq1 hRm1 => ?_)
  refine W.widen (k := cells + 30) (n := slots + 4000) (by show cells + 0 ≤ _; omega) (by show slots + 0 ≤ _; omega) ?_
  refine lv_aload_n hx hb dL_law_933 rfl (lv_at hl 2 rfl) ?_
  refine L_ref (MC := faultC M) (k_V (n := 0) (As := []) (rest := [.int (faultC M).1]) hM hE (kX_left (kX_r hX1)) hl (c_X5_fault l γ Lr F1 om adm M hRm1 hI.2.2.2.1) hRm1.1 hRm1.2.1 rfl k_1236 k_1237 k_1238 k_9 k_1239 ⟨rfl, by decide, by decide, by decide +kernel⟩ ⟨Nat.le_of_ble_eq_true rfl, Nat.le_of_ble_eq_true rfl⟩ rfl rfl (Nat.le_of_ble_eq_true rfl) dL_law_934 ⟨by show cells + 30 ≤ 601024; omega, by show slots + 4000 ≤ 7293034; omega⟩) hE hX1 hR1 hq1 (fun F2 H2 locs2 hX2 hR2 hq2 hRm2 => ?_)
  refine W.widen (k := cells + 30) (n := slots + 4000) (Nat.le_refl _) (Nat.le_refl _) ?_
  refine lv_icmp_eq (tgt := 1735) hx hb dL_law_937 (by decide) (fun _ => ?_) (fun h9 => absurd rfl h9)
  exact kk H2 locs2 ls ⟨Lc, Lr, F2, ad, tg, _, D1, nd1, f, hX2, hR2, hI1, by omega, hRm2, hq2⟩ hl
set_option maxHeartbeats 4000000 in
set_option maxRecDepth 100000 in
theorem L_case_12 (hfl : l.stackTraces = false) (hM : kM p s m args meth c cL_law 7 ret "InvoicebridgeLaw") (hE : kE γ A s) {b N : Nat} {xs : Nat → Int32} (hS : lX b N xs A s) {o om q nd i : Nat} {adm : Nat → Nat} (h : Lw γ A s o om q adm nd H locs) (hnd : nd < 512) (hi : i + 6 ≤ N) (hc : cells + 30 ≤ 601024) (hs : slots + 4000 ≤ 7293034) (hl : lv_has ls 7 [(0, .ref b), (1, .ref o), (2, .ref om), (3, .ref q), (4, .int (nI i))]) (kk : ∀ (H1 : Heap) (locs1 : List Loc) (ls1 : Array Slot), Lw γ A s o om q adm (nd + 1) H1 locs1 → lv_has ls1 7 [(0, .ref b), (1, .ref o), (2, .ref om), (3, .ref q), (4, .int (nI i))] → W p l e room_1 s m args below meth c H1 locs1 (cells + 30) (slots + 4000) Q (F0 m 1735 ls1 [])) : W p l e room_1 s m args below meth c H locs cells slots Q (F0 m 942 ls []) := by
  obtain ⟨Lc, Lr, F, ad, tg, M, D, nd0, f, hX, hR, hI, hn0, hRm, hq⟩ := h
  have hx := hM.1
  have hb := hM.2.1
  refine lv_aload_n hx hb dL_law_942 rfl (lv_at hl 1 rfl) ?_
  refine L_arg (j := 1) hM hS hX (by decide) (by omega) (lv_at hl 0 rfl) (lv_at hl 4 rfl) dL_law_943 dL_law_944 dL_law_946 dL_law_947 dL_law_948 ?_
  refine L_arg (j := 2) hM hS hX (by decide) (by omega) (lv_at hl 0 rfl) (lv_at hl 4 rfl) dL_law_949 dL_law_950 dL_law_952 dL_law_953 dL_law_954 ?_
  refine L_arg (j := 3) hM hS hX (by decide) (by omega) (lv_at hl 0 rfl) (lv_at hl 4 rfl) dL_law_955 dL_law_956 dL_law_958 dL_law_959 dL_law_960 ?_
  refine lv_aload_n hx hb dL_law_961 rfl (lv_at hl 3 rfl) ?_
  refine L_wrap (MC := payTextM M (xs (i + 1)) (xs (i + 2)) (xs (i + 3))) (k_SW (n := 5) (As := [.ref o, .int (xs (i + 1)), .int (xs (i + 2)), .int (xs (i + 3)), .ref q]) (rest := []) hM hE (kX_left (kX_w hX)) hl (c_L_payByText l hfl γ Lc F o q ad tg M nd0 D f hR hI (by omega) hq (xs (i + 1)) (xs (i + 2)) (xs (i + 3))) k_911 k_912 k_0 k_913 ⟨by decide, by decide, by decide +kernel⟩ ⟨Nat.le_of_ble_eq_true rfl, Nat.le_of_ble_eq_true rfl⟩ rfl rfl (Nat.le_of_ble_eq_true rfl) dL_law_962 ⟨by show cells + 7 ≤ 601024; omega, by show slots + 1100 ≤ 7293034; omega⟩) hE hX hRm (fun k Lc F1 H1 locs1 ad tg nd1 D1 f1 hX1 hR1 hI1 hn1 hk hq1 hf hRm1 => ?_)
  refine W.widen (k := cells + 30) (n := slots + 4000) (by show cells + 7 ≤ _; omega) (by show slots + 1100 ≤ _; omega) ?_
  refine lv_istore (lv' := [(5, .int k), (0, .ref b), (1, .ref o), (2, .ref om), (3, .ref q), (4, .int (nI i))]) hx hb dL_law_965 hl (by decide) rfl (fun ls hl => ?_)
  refine lv_aload_n hx hb dL_law_967 rfl (lv_at hl 3 rfl) ?_
  refine L_arg (j := 1) hM hS hX1 (by decide) (by omega) (lv_at hl 1 rfl) (lv_at hl 5 rfl) dL_law_968 dL_law_969 dL_law_971 dL_law_972 dL_law_973 ?_
  refine L_arg (j := 2) hM hS hX1 (by decide) (by omega) (lv_at hl 1 rfl) (lv_at hl 5 rfl) dL_law_974 dL_law_975 dL_law_977 dL_law_978 dL_law_979 ?_
  refine L_arg (j := 3) hM hS hX1 (by decide) (by omega) (lv_at hl 1 rfl) (lv_at hl 5 rfl) dL_law_980 dL_law_981 dL_law_983 dL_law_984 dL_law_985 ?_
  refine L_ref (MC := payTextM M (xs (i + 1)) (xs (i + 2)) (xs (i + 3))) (k_V (n := 3) (As := [.int (xs (i + 1)), .int (xs (i + 2)), .int (xs (i + 3))]) (rest := []) hM hE (kX_left (kX_r hX1)) hl (c_X5_payByText l γ Lr F1 om adm M hRm1 (xs (i + 1)) (xs (i + 2)) (xs (i + 3)) hI.1 hI.2.1 hI.2.2.2.1) hRm1.1 hRm1.2.1 rfl k_1244 k_1245 k_1246 k_9 k_1247 ⟨rfl, by decide, by decide, by decide +kernel⟩ ⟨Nat.le_of_ble_eq_true rfl, Nat.le_of_ble_eq_true rfl⟩ rfl rfl (Nat.le_of_ble_eq_true rfl) dL_law_986 ⟨by show cells + 30 ≤ 601024; omega, by show slots + 4000 ≤ 7293034; omega⟩) hE hX1 hR1 hq1 (fun F2 H2 locs2 hX2 hR2 hq2 hRm2 => ?_)
  refine W.widen (k := cells + 30) (n := slots + 4000) (Nat.le_refl _) (Nat.le_refl _) ?_
  refine lv_istore (lv' := [(6, .int (payTextM M (xs (i + 1)) (xs (i + 2)) (xs (i + 3))).1), (5, .int k), (0, .ref b), (1, .ref o), (2, .ref om), (3, .ref q), (4, .int (nI i))]) hx hb dL_law_989 hl (by decide) rfl (fun ls hl => ?_)
  exact L_tail hM rfl hE hX2 hRm2 hq2 hk hf hl ⟨by omega, by omega⟩ dL_law_991 dL_law_992 dL_law_995 dL_law_997 dL_law_1002 dL_law_1004 dL_law_1007 dL_law_1008 dL_law_1009 dL_law_1010 dL_law_1012 dL_law_1013 dL_law_1014 dL_law_1019 (by decide) (fun H3 locs3 hX3 => kk H3 locs3 ls ⟨Lc, Lr, F2, ad, tg, _, D1, nd1, f1, hX3, hR2, hI1, by omega, hRm2, hq2⟩ (lv_sub hl [2, 3, 4, 5, 6] rfl))
set_option maxHeartbeats 4000000 in
set_option maxRecDepth 100000 in
theorem L_case_13 (hfl : l.stackTraces = false) (hM : kM p s m args meth c cL_law 7 ret "InvoicebridgeLaw") (hE : kE γ A s) {b N : Nat} {xs : Nat → Int32} (hS : lX b N xs A s) {o om q nd i : Nat} {adm : Nat → Nat} (h : Lw γ A s o om q adm nd H locs) (hnd : nd < 512) (hi : i + 6 ≤ N) (hc : cells + 30 ≤ 601024) (hs : slots + 4000 ≤ 7293034) (hl : lv_has ls 7 [(0, .ref b), (1, .ref o), (2, .ref om), (3, .ref q), (4, .int (nI i))]) (kk : ∀ (H1 : Heap) (locs1 : List Loc) (ls1 : Array Slot), Lw γ A s o om q adm (nd + 1) H1 locs1 → lv_has ls1 7 [(0, .ref b), (1, .ref o), (2, .ref om), (3, .ref q), (4, .int (nI i))] → W p l e room_1 s m args below meth c H1 locs1 (cells + 30) (slots + 4000) Q (F0 m 1735 ls1 [])) : W p l e room_1 s m args below meth c H locs cells slots Q (F0 m 1022 ls []) := by
  obtain ⟨Lc, Lr, F, ad, tg, M, D, nd0, f, hX, hR, hI, hn0, hRm, hq⟩ := h
  have hx := hM.1
  have hb := hM.2.1
  refine lv_aload_n hx hb dL_law_1022 rfl (lv_at hl 1 rfl) ?_
  refine L_arg (j := 1) hM hS hX (by decide) (by omega) (lv_at hl 0 rfl) (lv_at hl 4 rfl) dL_law_1023 dL_law_1024 dL_law_1026 dL_law_1027 dL_law_1028 ?_
  refine L_arg (j := 2) hM hS hX (by decide) (by omega) (lv_at hl 0 rfl) (lv_at hl 4 rfl) dL_law_1029 dL_law_1030 dL_law_1032 dL_law_1033 dL_law_1034 ?_
  refine L_arg (j := 3) hM hS hX (by decide) (by omega) (lv_at hl 0 rfl) (lv_at hl 4 rfl) dL_law_1035 dL_law_1036 dL_law_1038 dL_law_1039 dL_law_1040 ?_
  refine lv_aload_n hx hb dL_law_1041 rfl (lv_at hl 3 rfl) ?_
  refine L_wrap (MC := paySumM M (xs (i + 1)) (xs (i + 2)) (xs (i + 3))) (k_SW (n := 5) (As := [.ref o, .int (xs (i + 1)), .int (xs (i + 2)), .int (xs (i + 3)), .ref q]) (rest := []) hM hE (kX_left (kX_w hX)) hl (c_L_payBySum l hfl γ Lc F o q ad tg M nd0 D f hR hI (by omega) hq (xs (i + 1)) (xs (i + 2)) (xs (i + 3))) k_936 k_937 k_0 k_938 ⟨by decide, by decide, by decide +kernel⟩ ⟨Nat.le_of_ble_eq_true rfl, Nat.le_of_ble_eq_true rfl⟩ rfl rfl (Nat.le_of_ble_eq_true rfl) dL_law_1042 ⟨by show cells + 7 ≤ 601024; omega, by show slots + 1100 ≤ 7293034; omega⟩) hE hX hRm (fun k Lc F1 H1 locs1 ad tg nd1 D1 f1 hX1 hR1 hI1 hn1 hk hq1 hf hRm1 => ?_)
  refine W.widen (k := cells + 30) (n := slots + 4000) (by show cells + 7 ≤ _; omega) (by show slots + 1100 ≤ _; omega) ?_
  refine lv_istore (lv' := [(5, .int k), (0, .ref b), (1, .ref o), (2, .ref om), (3, .ref q), (4, .int (nI i))]) hx hb dL_law_1045 hl (by decide) rfl (fun ls hl => ?_)
  refine lv_aload_n hx hb dL_law_1047 rfl (lv_at hl 3 rfl) ?_
  refine L_arg (j := 1) hM hS hX1 (by decide) (by omega) (lv_at hl 1 rfl) (lv_at hl 5 rfl) dL_law_1048 dL_law_1049 dL_law_1051 dL_law_1052 dL_law_1053 ?_
  refine L_arg (j := 2) hM hS hX1 (by decide) (by omega) (lv_at hl 1 rfl) (lv_at hl 5 rfl) dL_law_1054 dL_law_1055 dL_law_1057 dL_law_1058 dL_law_1059 ?_
  refine L_arg (j := 3) hM hS hX1 (by decide) (by omega) (lv_at hl 1 rfl) (lv_at hl 5 rfl) dL_law_1060 dL_law_1061 dL_law_1063 dL_law_1064 dL_law_1065 ?_
  refine L_ref (MC := paySumM M (xs (i + 1)) (xs (i + 2)) (xs (i + 3))) (k_V (n := 3) (As := [.int (xs (i + 1)), .int (xs (i + 2)), .int (xs (i + 3))]) (rest := []) hM hE (kX_left (kX_r hX1)) hl (c_X5_payBySum l γ Lr F1 om adm M hRm1 (xs (i + 1)) (xs (i + 2)) (xs (i + 3)) hI.1 hI.2.1) hRm1.1 hRm1.2.1 rfl k_1252 k_1253 k_1254 k_9 k_1255 ⟨rfl, by decide, by decide, by decide +kernel⟩ ⟨Nat.le_of_ble_eq_true rfl, Nat.le_of_ble_eq_true rfl⟩ rfl rfl (Nat.le_of_ble_eq_true rfl) dL_law_1066 ⟨by show cells + 30 ≤ 601024; omega, by show slots + 4000 ≤ 7293034; omega⟩) hE hX1 hR1 hq1 (fun F2 H2 locs2 hX2 hR2 hq2 hRm2 => ?_)
  refine W.widen (k := cells + 30) (n := slots + 4000) (Nat.le_refl _) (Nat.le_refl _) ?_
  refine lv_istore (lv' := [(6, .int (paySumM M (xs (i + 1)) (xs (i + 2)) (xs (i + 3))).1), (5, .int k), (0, .ref b), (1, .ref o), (2, .ref om), (3, .ref q), (4, .int (nI i))]) hx hb dL_law_1069 hl (by decide) rfl (fun ls hl => ?_)
  exact L_tail hM rfl hE hX2 hRm2 hq2 hk hf hl ⟨by omega, by omega⟩ dL_law_1071 dL_law_1072 dL_law_1075 dL_law_1077 dL_law_1082 dL_law_1084 dL_law_1087 dL_law_1088 dL_law_1089 dL_law_1090 dL_law_1092 dL_law_1093 dL_law_1094 dL_law_1099 (by decide) (fun H3 locs3 hX3 => kk H3 locs3 ls ⟨Lc, Lr, F2, ad, tg, _, D1, nd1, f1, hX3, hR2, hI1, by omega, hRm2, hq2⟩ (lv_sub hl [2, 3, 4, 5, 6] rfl))
set_option maxHeartbeats 4000000 in
set_option maxRecDepth 100000 in
theorem L_case_14 (hfl : l.stackTraces = false) (hM : kM p s m args meth c cL_law 7 ret "InvoicebridgeLaw") (hE : kE γ A s) {b N : Nat} {xs : Nat → Int32} (hS : lX b N xs A s) {o om q nd i : Nat} {adm : Nat → Nat} (h : Lw γ A s o om q adm nd H locs) (hnd : nd < 512) (hi : i + 6 ≤ N) (hc : cells + 30 ≤ 601024) (hs : slots + 4000 ≤ 7293034) (hl : lv_has ls 7 [(0, .ref b), (1, .ref o), (2, .ref om), (3, .ref q), (4, .int (nI i))]) (kk : ∀ (H1 : Heap) (locs1 : List Loc) (ls1 : Array Slot), Lw γ A s o om q adm (nd + 1) H1 locs1 → lv_has ls1 7 [(0, .ref b), (1, .ref o), (2, .ref om), (3, .ref q), (4, .int (nI i))] → W p l e room_1 s m args below meth c H1 locs1 (cells + 30) (slots + 4000) Q (F0 m 1735 ls1 [])) : W p l e room_1 s m args below meth c H locs cells slots Q (F0 m 1102 ls []) := by
  obtain ⟨Lc, Lr, F, ad, tg, M, D, nd0, f, hX, hR, hI, hn0, hRm, hq⟩ := h
  have hx := hM.1
  have hb := hM.2.1
  refine lv_aload_n hx hb dL_law_1102 rfl (lv_at hl 1 rfl) ?_
  refine L_arg (j := 1) hM hS hX (by decide) (by omega) (lv_at hl 0 rfl) (lv_at hl 4 rfl) dL_law_1103 dL_law_1104 dL_law_1106 dL_law_1107 dL_law_1108 ?_
  refine lv_aload_n hx hb dL_law_1109 rfl (lv_at hl 3 rfl) ?_
  refine L_wrap (MC := passM M (xs (i + 1))) (k_SW (n := 3) (As := [.ref o, .int (xs (i + 1)), .ref q]) (rest := []) hM hE (kX_left (kX_w hX)) hl (c_L_pass l hfl γ Lc F o q ad tg M nd0 D f hR hI (by omega) hq (xs (i + 1))) k_943 k_944 k_0 k_945 ⟨by decide, by decide, by decide +kernel⟩ ⟨Nat.le_of_ble_eq_true rfl, Nat.le_of_ble_eq_true rfl⟩ rfl rfl (Nat.le_of_ble_eq_true rfl) dL_law_1110 ⟨by show cells + 1 ≤ 601024; omega, by show slots + 6 ≤ 7293034; omega⟩) hE hX hRm (fun k Lc F1 H1 locs1 ad tg nd1 D1 f1 hX1 hR1 hI1 hn1 hk hq1 hf hRm1 => ?_)
  refine W.widen (k := cells + 30) (n := slots + 4000) (by show cells + 1 ≤ _; omega) (by show slots + 6 ≤ _; omega) ?_
  refine lv_istore (lv' := [(5, .int k), (0, .ref b), (1, .ref o), (2, .ref om), (3, .ref q), (4, .int (nI i))]) hx hb dL_law_1113 hl (by decide) rfl (fun ls hl => ?_)
  refine lv_aload_n hx hb dL_law_1115 rfl (lv_at hl 3 rfl) ?_
  refine L_arg (j := 1) hM hS hX1 (by decide) (by omega) (lv_at hl 1 rfl) (lv_at hl 5 rfl) dL_law_1116 dL_law_1117 dL_law_1119 dL_law_1120 dL_law_1121 ?_
  refine L_ref (MC := passM M (xs (i + 1))) (k_V (n := 1) (As := [.int (xs (i + 1))]) (rest := []) hM hE (kX_left (kX_r hX1)) hl (c_X5_pass l γ Lr F1 om adm M hRm1 (xs (i + 1))) hRm1.1 hRm1.2.1 rfl k_1256 k_1257 k_1258 k_9 k_1259 ⟨rfl, by decide, by decide, by decide +kernel⟩ ⟨Nat.le_of_ble_eq_true rfl, Nat.le_of_ble_eq_true rfl⟩ rfl rfl (Nat.le_of_ble_eq_true rfl) dL_law_1122 ⟨by show cells + 30 ≤ 601024; omega, by show slots + 4000 ≤ 7293034; omega⟩) hE hX1 hR1 hq1 (fun F2 H2 locs2 hX2 hR2 hq2 hRm2 => ?_)
  refine W.widen (k := cells + 30) (n := slots + 4000) (Nat.le_refl _) (Nat.le_refl _) ?_
  refine lv_istore (lv' := [(6, .int (passM M (xs (i + 1))).1), (5, .int k), (0, .ref b), (1, .ref o), (2, .ref om), (3, .ref q), (4, .int (nI i))]) hx hb dL_law_1125 hl (by decide) rfl (fun ls hl => ?_)
  exact L_tail hM rfl hE hX2 hRm2 hq2 hk hf hl ⟨by omega, by omega⟩ dL_law_1127 dL_law_1128 dL_law_1131 dL_law_1133 dL_law_1138 dL_law_1140 dL_law_1143 dL_law_1144 dL_law_1145 dL_law_1146 dL_law_1148 dL_law_1149 dL_law_1150 dL_law_1155 (by decide) (fun H3 locs3 hX3 => kk H3 locs3 ls ⟨Lc, Lr, F2, ad, tg, _, D1, nd1, f1, hX3, hR2, hI1, by omega, hRm2, hq2⟩ (lv_sub hl [2, 3, 4, 5, 6] rfl))
set_option maxHeartbeats 4000000 in
set_option maxRecDepth 100000 in
theorem L_case_15 (hfl : l.stackTraces = false) (hM : kM p s m args meth c cL_law 7 ret "InvoicebridgeLaw") (hE : kE γ A s) {b N : Nat} {xs : Nat → Int32} (hS : lX b N xs A s) {o om q nd i : Nat} {adm : Nat → Nat} (h : Lw γ A s o om q adm nd H locs) (hnd : nd < 512) (hi : i + 6 ≤ N) (hc : cells + 30 ≤ 601024) (hs : slots + 4000 ≤ 7293034) (hl : lv_has ls 7 [(0, .ref b), (1, .ref o), (2, .ref om), (3, .ref q), (4, .int (nI i))]) (kk : ∀ (H1 : Heap) (locs1 : List Loc) (ls1 : Array Slot), Lw γ A s o om q adm (nd + 1) H1 locs1 → lv_has ls1 7 [(0, .ref b), (1, .ref o), (2, .ref om), (3, .ref q), (4, .int (nI i))] → W p l e room_1 s m args below meth c H1 locs1 (cells + 30) (slots + 4000) Q (F0 m 1735 ls1 [])) : W p l e room_1 s m args below meth c H locs cells slots Q (F0 m 1158 ls []) := by
  obtain ⟨Lc, Lr, F, ad, tg, M, D, nd0, f, hX, hR, hI, hn0, hRm, hq⟩ := h
  have hx := hM.1
  have hb := hM.2.1
  refine lv_aload_n hx hb dL_law_1158 rfl (lv_at hl 1 rfl) ?_
  refine L_arg (j := 1) hM hS hX (by decide) (by omega) (lv_at hl 0 rfl) (lv_at hl 4 rfl) dL_law_1159 dL_law_1160 dL_law_1162 dL_law_1163 dL_law_1164 ?_
  refine L_arg (j := 2) hM hS hX (by decide) (by omega) (lv_at hl 0 rfl) (lv_at hl 4 rfl) dL_law_1165 dL_law_1166 dL_law_1168 dL_law_1169 dL_law_1170 ?_
  refine lv_aload_n hx hb dL_law_1171 rfl (lv_at hl 3 rfl) ?_
  refine L_wrap (MC := aboutM M (xs (i + 1)) (xs (i + 2))) (k_SW (n := 4) (As := [.ref o, .int (xs (i + 1)), .int (xs (i + 2)), .ref q]) (rest := []) hM hE (kX_left (kX_w hX)) hl (c_L_about l hfl γ Lc F o q ad tg M nd0 D f hR hI (by omega) hq (xs (i + 1)) (xs (i + 2))) k_952 k_953 k_0 k_954 ⟨by decide, by decide, by decide +kernel⟩ ⟨Nat.le_of_ble_eq_true rfl, Nat.le_of_ble_eq_true rfl⟩ rfl rfl (Nat.le_of_ble_eq_true rfl) dL_law_1172 ⟨by show cells + 2 ≤ 601024; omega, by show slots + 12 ≤ 7293034; omega⟩) hE hX hRm (fun k Lc F1 H1 locs1 ad tg nd1 D1 f1 hX1 hR1 hI1 hn1 hk hq1 hf hRm1 => ?_)
  refine W.widen (k := cells + 30) (n := slots + 4000) (by show cells + 2 ≤ _; omega) (by show slots + 12 ≤ _; omega) ?_
  refine lv_istore (lv' := [(5, .int k), (0, .ref b), (1, .ref o), (2, .ref om), (3, .ref q), (4, .int (nI i))]) hx hb dL_law_1175 hl (by decide) rfl (fun ls hl => ?_)
  refine lv_aload_n hx hb dL_law_1177 rfl (lv_at hl 3 rfl) ?_
  refine L_arg (j := 1) hM hS hX1 (by decide) (by omega) (lv_at hl 1 rfl) (lv_at hl 5 rfl) dL_law_1178 dL_law_1179 dL_law_1181 dL_law_1182 dL_law_1183 ?_
  refine L_arg (j := 2) hM hS hX1 (by decide) (by omega) (lv_at hl 1 rfl) (lv_at hl 5 rfl) dL_law_1184 dL_law_1185 dL_law_1187 dL_law_1188 dL_law_1189 ?_
  refine L_ref (MC := aboutM M (xs (i + 1)) (xs (i + 2))) (k_V (n := 2) (As := [.int (xs (i + 1)), .int (xs (i + 2))]) (rest := []) hM hE (kX_left (kX_r hX1)) hl (c_X5_about l γ Lr F1 om adm M hRm1 (xs (i + 1)) (xs (i + 2)) hI.1 hI.2.1) hRm1.1 hRm1.2.1 rfl k_1260 k_1261 k_1262 k_9 k_1263 ⟨rfl, by decide, by decide, by decide +kernel⟩ ⟨Nat.le_of_ble_eq_true rfl, Nat.le_of_ble_eq_true rfl⟩ rfl rfl (Nat.le_of_ble_eq_true rfl) dL_law_1190 ⟨by show cells + 30 ≤ 601024; omega, by show slots + 4000 ≤ 7293034; omega⟩) hE hX1 hR1 hq1 (fun F2 H2 locs2 hX2 hR2 hq2 hRm2 => ?_)
  refine W.widen (k := cells + 30) (n := slots + 4000) (Nat.le_refl _) (Nat.le_refl _) ?_
  refine lv_istore (lv' := [(6, .int (aboutM M (xs (i + 1)) (xs (i + 2))).1), (5, .int k), (0, .ref b), (1, .ref o), (2, .ref om), (3, .ref q), (4, .int (nI i))]) hx hb dL_law_1193 hl (by decide) rfl (fun ls hl => ?_)
  exact L_tail hM rfl hE hX2 hRm2 hq2 hk hf hl ⟨by omega, by omega⟩ dL_law_1195 dL_law_1196 dL_law_1199 dL_law_1201 dL_law_1206 dL_law_1208 dL_law_1211 dL_law_1212 dL_law_1213 dL_law_1214 dL_law_1216 dL_law_1217 dL_law_1218 dL_law_1223 (by decide) (fun H3 locs3 hX3 => kk H3 locs3 ls ⟨Lc, Lr, F2, ad, tg, _, D1, nd1, f1, hX3, hR2, hI1, by omega, hRm2, hq2⟩ (lv_sub hl [2, 3, 4, 5, 6] rfl))
end LC
