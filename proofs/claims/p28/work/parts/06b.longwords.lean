set_option maxRecDepth 100000 in
set_option maxHeartbeats 4000000 in
theorem k_993 : ((Cond.code ⟨"InvoicebridgeLaw", "refuses", "(LInvoicebridge;I)Z"⟩ method_3_code 15 (some .boolean)) : Cond) ∈ W0 := q_mk 1020 rfl (by decide +kernel)
set_option maxRecDepth 100000 in
set_option maxHeartbeats 4000000 in
theorem k_1010 : ((Cond.code ⟨"InvoicebridgeLaw", "bridge", "()Z"⟩ method_8_code 1 (some .boolean)) : Cond) ∈ W0 := q_mk 1037 rfl (by decide +kernel)
set_option maxRecDepth 100000 in
set_option maxHeartbeats 4000000 in
theorem k_1023 : ((Cond.code ⟨"InvoicebridgeLaw", "texts", "()Z"⟩ method_9_code 2 (some .boolean)) : Cond) ∈ W0 := q_mk 1050 rfl (by decide +kernel)
set_option maxRecDepth 100000 in
set_option maxHeartbeats 4000000 in
theorem k_1042 : ((Cond.code ⟨"InvoicebridgeLaw", "sums", "()Z"⟩ method_10_code 1 (some .boolean)) : Cond) ∈ W0 := q_mk 1069 rfl (by decide +kernel)
set_option maxRecDepth 100000 in
set_option maxHeartbeats 4000000 in
theorem k_1045 : ((Cond.code ⟨"InvoicebridgeLaw", "most", "()Z"⟩ method_11_code 2 (some .boolean)) : Cond) ∈ W0 := q_mk 1072 rfl (by decide +kernel)
