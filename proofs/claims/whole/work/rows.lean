section
/-- a private method of a class that the tables say can be made, by its rows of tables_1 -/
def lw_okq (q : MethodName × Nat) : Prop := (q.1.cls ≠ "java/lang/invoke/MethodHandle" ∧ q.1.cls ≠ "java/lang/invoke/VarHandle") ∧ Cond.instantiable q.1.cls q.2 ∈ tables_1 ∧ Cond.privateMethod q.1 ∈ tables_1 ∧ Cond.instanceMethod q.1 ∈ tables_1
theorem lw_p0 : lw_okq (⟨"java/lang/Throwable", "fillInStackTrace", "(I)Ljava/lang/Throwable;"⟩, 6) := ⟨⟨by decide +kernel, by decide +kernel⟩, List.mem_of_getElem? (i := 359) (by decide +kernel), List.mem_of_getElem? (i := 357) (by decide +kernel), List.mem_of_getElem? (i := 358) (by decide +kernel)⟩
theorem lw_p1 : lw_okq (⟨"Invoicebridge", "faultOfDraft", "()I"⟩, 6) := ⟨⟨by decide +kernel, by decide +kernel⟩, List.mem_of_getElem? (i := 32) (by decide +kernel), List.mem_of_getElem? (i := 471) (by decide +kernel), List.mem_of_getElem? (i := 472) (by decide +kernel)⟩
theorem lw_p2 : lw_okq (⟨"Invoicebridge", "checkCompany", "(I)V"⟩, 6) := ⟨⟨by decide +kernel, by decide +kernel⟩, List.mem_of_getElem? (i := 32) (by decide +kernel), List.mem_of_getElem? (i := 507) (by decide +kernel), List.mem_of_getElem? (i := 508) (by decide +kernel)⟩
theorem lw_p3 : lw_okq (⟨"Invoicebridge", "checkGoods", "(I)V"⟩, 6) := ⟨⟨by decide +kernel, by decide +kernel⟩, List.mem_of_getElem? (i := 32) (by decide +kernel), List.mem_of_getElem? (i := 524) (by decide +kernel), List.mem_of_getElem? (i := 525) (by decide +kernel)⟩
theorem lw_p4 : lw_okq (⟨"Invoicebridge", "checkAmount", "(I)V"⟩, 6) := ⟨⟨by decide +kernel, by decide +kernel⟩, List.mem_of_getElem? (i := 32) (by decide +kernel), List.mem_of_getElem? (i := 529) (by decide +kernel), List.mem_of_getElem? (i := 530) (by decide +kernel)⟩
theorem lw_p5 : lw_okq (⟨"Invoicebridge", "checkRate", "(I)V"⟩, 6) := ⟨⟨by decide +kernel, by decide +kernel⟩, List.mem_of_getElem? (i := 32) (by decide +kernel), List.mem_of_getElem? (i := 536) (by decide +kernel), List.mem_of_getElem? (i := 537) (by decide +kernel)⟩
theorem lw_p6 : lw_okq (⟨"Invoicebridge", "checkTwoCompanies", "(II)V"⟩, 6) := ⟨⟨by decide +kernel, by decide +kernel⟩, List.mem_of_getElem? (i := 32) (by decide +kernel), List.mem_of_getElem? (i := 541) (by decide +kernel), List.mem_of_getElem? (i := 542) (by decide +kernel)⟩
theorem lw_p7 : lw_okq (⟨"java/util/ArrayList", "add", "(Ljava/lang/Object;[Ljava/lang/Object;I)V"⟩, 3) := ⟨⟨by decide +kernel, by decide +kernel⟩, List.mem_of_getElem? (i := 40) (by decide +kernel), List.mem_of_getElem? (i := 654) (by decide +kernel), List.mem_of_getElem? (i := 655) (by decide +kernel)⟩
theorem lw_p8 : lw_okq (⟨"java/util/ArrayList", "grow", "()[Ljava/lang/Object;"⟩, 3) := ⟨⟨by decide +kernel, by decide +kernel⟩, List.mem_of_getElem? (i := 40) (by decide +kernel), List.mem_of_getElem? (i := 658) (by decide +kernel), List.mem_of_getElem? (i := 659) (by decide +kernel)⟩
theorem lw_p9 : lw_okq (⟨"java/util/ArrayList", "grow", "(I)[Ljava/lang/Object;"⟩, 3) := ⟨⟨by decide +kernel, by decide +kernel⟩, List.mem_of_getElem? (i := 40) (by decide +kernel), List.mem_of_getElem? (i := 662) (by decide +kernel), List.mem_of_getElem? (i := 663) (by decide +kernel)⟩
theorem lw_p10 : lw_okq (⟨"Invoicebridge", "invoiceAt", "(I)LInvoicebridge$Invoice;"⟩, 6) := ⟨⟨by decide +kernel, by decide +kernel⟩, List.mem_of_getElem? (i := 32) (by decide +kernel), List.mem_of_getElem? (i := 703) (by decide +kernel), List.mem_of_getElem? (i := 704) (by decide +kernel)⟩
theorem lw_p11 : lw_okq (⟨"Invoicebridge", "checkSent", "(LInvoicebridge$Invoice;)V"⟩, 6) := ⟨⟨by decide +kernel, by decide +kernel⟩, List.mem_of_getElem? (i := 32) (by decide +kernel), List.mem_of_getElem? (i := 720) (by decide +kernel), List.mem_of_getElem? (i := 721) (by decide +kernel)⟩
theorem lw_p12 : lw_okq (⟨"Invoicebridge", "lineAt", "(LInvoicebridge$Invoice;I)LInvoicebridge$Line;"⟩, 6) := ⟨⟨by decide +kernel, by decide +kernel⟩, List.mem_of_getElem? (i := 32) (by decide +kernel), List.mem_of_getElem? (i := 772) (by decide +kernel), List.mem_of_getElem? (i := 773) (by decide +kernel)⟩
theorem lw_p13 : lw_okq (⟨"Invoicebridge", "checkRoomForCredit", "()V"⟩, 6) := ⟨⟨by decide +kernel, by decide +kernel⟩, List.mem_of_getElem? (i := 32) (by decide +kernel), List.mem_of_getElem? (i := 779) (by decide +kernel), List.mem_of_getElem? (i := 780) (by decide +kernel)⟩
theorem lw_p14 : lw_okq (⟨"Invoicebridge", "makeCredit", "(LInvoicebridge$Invoice;LInvoicebridge$Line;I)V"⟩, 6) := ⟨⟨by decide +kernel, by decide +kernel⟩, List.mem_of_getElem? (i := 32) (by decide +kernel), List.mem_of_getElem? (i := 784) (by decide +kernel), List.mem_of_getElem? (i := 785) (by decide +kernel)⟩
theorem lw_p15 : lw_okq (⟨"Invoicebridge", "checkOwed", "(LInvoicebridge$Invoice;)V"⟩, 6) := ⟨⟨by decide +kernel, by decide +kernel⟩, List.mem_of_getElem? (i := 32) (by decide +kernel), List.mem_of_getElem? (i := 835) (by decide +kernel), List.mem_of_getElem? (i := 836) (by decide +kernel)⟩
def lw_privs_1 : List (MethodName × Nat) := [(⟨"java/lang/Throwable", "fillInStackTrace", "(I)Ljava/lang/Throwable;"⟩, 6), (⟨"Invoicebridge", "faultOfDraft", "()I"⟩, 6), (⟨"Invoicebridge", "checkCompany", "(I)V"⟩, 6), (⟨"Invoicebridge", "checkGoods", "(I)V"⟩, 6), (⟨"Invoicebridge", "checkAmount", "(I)V"⟩, 6), (⟨"Invoicebridge", "checkRate", "(I)V"⟩, 6), (⟨"Invoicebridge", "checkTwoCompanies", "(II)V"⟩, 6), (⟨"java/util/ArrayList", "add", "(Ljava/lang/Object;[Ljava/lang/Object;I)V"⟩, 3), (⟨"java/util/ArrayList", "grow", "()[Ljava/lang/Object;"⟩, 3), (⟨"java/util/ArrayList", "grow", "(I)[Ljava/lang/Object;"⟩, 3), (⟨"Invoicebridge", "invoiceAt", "(I)LInvoicebridge$Invoice;"⟩, 6), (⟨"Invoicebridge", "checkSent", "(LInvoicebridge$Invoice;)V"⟩, 6), (⟨"Invoicebridge", "lineAt", "(LInvoicebridge$Invoice;I)LInvoicebridge$Line;"⟩, 6), (⟨"Invoicebridge", "checkRoomForCredit", "()V"⟩, 6), (⟨"Invoicebridge", "makeCredit", "(LInvoicebridge$Invoice;LInvoicebridge$Line;I)V"⟩, 6), (⟨"Invoicebridge", "checkOwed", "(LInvoicebridge$Invoice;)V"⟩, 6)]
theorem lw_r1 : ∀ q ∈ lw_privs_1, lw_okq q := List.forall_mem_cons.mpr ⟨lw_p0, List.forall_mem_cons.mpr ⟨lw_p1, List.forall_mem_cons.mpr ⟨lw_p2, List.forall_mem_cons.mpr ⟨lw_p3, List.forall_mem_cons.mpr ⟨lw_p4, List.forall_mem_cons.mpr ⟨lw_p5, List.forall_mem_cons.mpr ⟨lw_p6, List.forall_mem_cons.mpr ⟨lw_p7, List.forall_mem_cons.mpr ⟨lw_p8, List.forall_mem_cons.mpr ⟨lw_p9, List.forall_mem_cons.mpr ⟨lw_p10, List.forall_mem_cons.mpr ⟨lw_p11, List.forall_mem_cons.mpr ⟨lw_p12, List.forall_mem_cons.mpr ⟨lw_p13, List.forall_mem_cons.mpr ⟨lw_p14, List.forall_mem_cons.mpr ⟨lw_p15, fun _ h => absurd h List.not_mem_nil⟩⟩⟩⟩⟩⟩⟩⟩⟩⟩⟩⟩⟩⟩⟩⟩
theorem lw_p16 : lw_okq (⟨"Invoicebridge", "checkRoomForDocument", "()V"⟩, 6) := ⟨⟨by decide +kernel, by decide +kernel⟩, List.mem_of_getElem? (i := 32) (by decide +kernel), List.mem_of_getElem? (i := 841) (by decide +kernel), List.mem_of_getElem? (i := 842) (by decide +kernel)⟩
theorem lw_p17 : lw_okq (⟨"Invoicebridge", "moveCash", "(III)V"⟩, 6) := ⟨⟨by decide +kernel, by decide +kernel⟩, List.mem_of_getElem? (i := 32) (by decide +kernel), List.mem_of_getElem? (i := 846) (by decide +kernel), List.mem_of_getElem? (i := 847) (by decide +kernel)⟩
theorem lw_p18 : lw_okq (⟨"Invoicebridge", "addCash", "(II)V"⟩, 6) := ⟨⟨by decide +kernel, by decide +kernel⟩, List.mem_of_getElem? (i := 32) (by decide +kernel), List.mem_of_getElem? (i := 869) (by decide +kernel), List.mem_of_getElem? (i := 870) (by decide +kernel)⟩
theorem lw_p19 : lw_okq (⟨"Invoicebridge", "checkPayment", "(III)V"⟩, 6) := ⟨⟨by decide +kernel, by decide +kernel⟩, List.mem_of_getElem? (i := 32) (by decide +kernel), List.mem_of_getElem? (i := 915) (by decide +kernel), List.mem_of_getElem? (i := 916) (by decide +kernel)⟩
theorem lw_p20 : lw_okq (⟨"Invoicebridge", "numberOfDraft", "()I"⟩, 6) := ⟨⟨by decide +kernel, by decide +kernel⟩, List.mem_of_getElem? (i := 32) (by decide +kernel), List.mem_of_getElem? (i := 922) (by decide +kernel), List.mem_of_getElem? (i := 923) (by decide +kernel)⟩
theorem lw_p21 : lw_okq (⟨"Invoicebridge", "takePayment", "(LInvoicebridge$Invoice;I)V"⟩, 6) := ⟨⟨by decide +kernel, by decide +kernel⟩, List.mem_of_getElem? (i := 32) (by decide +kernel), List.mem_of_getElem? (i := 929) (by decide +kernel), List.mem_of_getElem? (i := 930) (by decide +kernel)⟩
theorem lw_p22 : lw_okq (⟨"Invoicebridge", "checkMonth", "(I)V"⟩, 6) := ⟨⟨by decide +kernel, by decide +kernel⟩, List.mem_of_getElem? (i := 32) (by decide +kernel), List.mem_of_getElem? (i := 1004) (by decide +kernel), List.mem_of_getElem? (i := 1005) (by decide +kernel)⟩
theorem lw_p23 : lw_okq (⟨"Invoicebridge", "taxWithCarried", "(II)I"⟩, 6) := ⟨⟨by decide +kernel, by decide +kernel⟩, List.mem_of_getElem? (i := 32) (by decide +kernel), List.mem_of_getElem? (i := 1009) (by decide +kernel), List.mem_of_getElem? (i := 1010) (by decide +kernel)⟩
theorem lw_p24 : lw_okq (⟨"Invoicebridge", "taxOfMonth", "(II)I"⟩, 6) := ⟨⟨by decide +kernel, by decide +kernel⟩, List.mem_of_getElem? (i := 32) (by decide +kernel), List.mem_of_getElem? (i := 1014) (by decide +kernel), List.mem_of_getElem? (i := 1015) (by decide +kernel)⟩
theorem lw_p25 : lw_okq (⟨"Invoicebridge", "greatestTaxAhead", "(ILInvoicebridge$Invoice;)I"⟩, 6) := ⟨⟨by decide +kernel, by decide +kernel⟩, List.mem_of_getElem? (i := 32) (by decide +kernel), List.mem_of_getElem? (i := 1054) (by decide +kernel), List.mem_of_getElem? (i := 1055) (by decide +kernel)⟩
theorem lw_p26 : lw_okq (⟨"InvoicebridgeModel", "adds", "(III)V"⟩, 25) := ⟨⟨by decide +kernel, by decide +kernel⟩, List.mem_of_getElem? (i := 1058) (by decide +kernel), List.mem_of_getElem? (i := 1158) (by decide +kernel), List.mem_of_getElem? (i := 1159) (by decide +kernel)⟩
theorem lw_p27 : lw_okq (⟨"InvoicebridgeModel", "isInvoice", "(I)Z"⟩, 25) := ⟨⟨by decide +kernel, by decide +kernel⟩, List.mem_of_getElem? (i := 1058) (by decide +kernel), List.mem_of_getElem? (i := 1166) (by decide +kernel), List.mem_of_getElem? (i := 1167) (by decide +kernel)⟩
theorem lw_p28 : lw_okq (⟨"InvoicebridgeModel", "hasCredit", "(I)Z"⟩, 25) := ⟨⟨by decide +kernel, by decide +kernel⟩, List.mem_of_getElem? (i := 1058) (by decide +kernel), List.mem_of_getElem? (i := 1170) (by decide +kernel), List.mem_of_getElem? (i := 1171) (by decide +kernel)⟩
theorem lw_p29 : lw_okq (⟨"InvoicebridgeModel", "owed", "(I)I"⟩, 25) := ⟨⟨by decide +kernel, by decide +kernel⟩, List.mem_of_getElem? (i := 1058) (by decide +kernel), List.mem_of_getElem? (i := 1178) (by decide +kernel), List.mem_of_getElem? (i := 1179) (by decide +kernel)⟩
theorem lw_p30 : lw_okq (⟨"InvoicebridgeModel", "costs", "(IZ)I"⟩, 25) := ⟨⟨by decide +kernel, by decide +kernel⟩, List.mem_of_getElem? (i := 1058) (by decide +kernel), List.mem_of_getElem? (i := 1182) (by decide +kernel), List.mem_of_getElem? (i := 1183) (by decide +kernel)⟩
theorem lw_p31 : lw_okq (⟨"InvoicebridgeModel", "isLine", "(II)Z"⟩, 25) := ⟨⟨by decide +kernel, by decide +kernel⟩, List.mem_of_getElem? (i := 1058) (by decide +kernel), List.mem_of_getElem? (i := 1197) (by decide +kernel), List.mem_of_getElem? (i := 1198) (by decide +kernel)⟩
def lw_privs_2 : List (MethodName × Nat) := [(⟨"Invoicebridge", "checkRoomForDocument", "()V"⟩, 6), (⟨"Invoicebridge", "moveCash", "(III)V"⟩, 6), (⟨"Invoicebridge", "addCash", "(II)V"⟩, 6), (⟨"Invoicebridge", "checkPayment", "(III)V"⟩, 6), (⟨"Invoicebridge", "numberOfDraft", "()I"⟩, 6), (⟨"Invoicebridge", "takePayment", "(LInvoicebridge$Invoice;I)V"⟩, 6), (⟨"Invoicebridge", "checkMonth", "(I)V"⟩, 6), (⟨"Invoicebridge", "taxWithCarried", "(II)I"⟩, 6), (⟨"Invoicebridge", "taxOfMonth", "(II)I"⟩, 6), (⟨"Invoicebridge", "greatestTaxAhead", "(ILInvoicebridge$Invoice;)I"⟩, 6), (⟨"InvoicebridgeModel", "adds", "(III)V"⟩, 25), (⟨"InvoicebridgeModel", "isInvoice", "(I)Z"⟩, 25), (⟨"InvoicebridgeModel", "hasCredit", "(I)Z"⟩, 25), (⟨"InvoicebridgeModel", "owed", "(I)I"⟩, 25), (⟨"InvoicebridgeModel", "costs", "(IZ)I"⟩, 25), (⟨"InvoicebridgeModel", "isLine", "(II)Z"⟩, 25)]
theorem lw_r2 : ∀ q ∈ lw_privs_2, lw_okq q := List.forall_mem_cons.mpr ⟨lw_p16, List.forall_mem_cons.mpr ⟨lw_p17, List.forall_mem_cons.mpr ⟨lw_p18, List.forall_mem_cons.mpr ⟨lw_p19, List.forall_mem_cons.mpr ⟨lw_p20, List.forall_mem_cons.mpr ⟨lw_p21, List.forall_mem_cons.mpr ⟨lw_p22, List.forall_mem_cons.mpr ⟨lw_p23, List.forall_mem_cons.mpr ⟨lw_p24, List.forall_mem_cons.mpr ⟨lw_p25, List.forall_mem_cons.mpr ⟨lw_p26, List.forall_mem_cons.mpr ⟨lw_p27, List.forall_mem_cons.mpr ⟨lw_p28, List.forall_mem_cons.mpr ⟨lw_p29, List.forall_mem_cons.mpr ⟨lw_p30, List.forall_mem_cons.mpr ⟨lw_p31, fun _ h => absurd h List.not_mem_nil⟩⟩⟩⟩⟩⟩⟩⟩⟩⟩⟩⟩⟩⟩⟩⟩
theorem lw_p32 : lw_okq (⟨"InvoicebridgeModel", "lessens", "(III)V"⟩, 25) := ⟨⟨by decide +kernel, by decide +kernel⟩, List.mem_of_getElem? (i := 1058) (by decide +kernel), List.mem_of_getElem? (i := 1201) (by decide +kernel), List.mem_of_getElem? (i := 1202) (by decide +kernel)⟩
theorem lw_p33 : lw_okq (⟨"InvoicebridgeModel", "moves", "(III)V"⟩, 25) := ⟨⟨by decide +kernel, by decide +kernel⟩, List.mem_of_getElem? (i := 1058) (by decide +kernel), List.mem_of_getElem? (i := 1217) (by decide +kernel), List.mem_of_getElem? (i := 1218) (by decide +kernel)⟩
theorem lw_p34 : lw_okq (⟨"InvoicebridgeModel", "faultOf", "()I"⟩, 25) := ⟨⟨by decide +kernel, by decide +kernel⟩, List.mem_of_getElem? (i := 1058) (by decide +kernel), List.mem_of_getElem? (i := 1237) (by decide +kernel), List.mem_of_getElem? (i := 1238) (by decide +kernel)⟩
theorem lw_p35 : lw_okq (⟨"InvoicebridgeModel", "taxOfAll", "(IZ)I"⟩, 25) := ⟨⟨by decide +kernel, by decide +kernel⟩, List.mem_of_getElem? (i := 1058) (by decide +kernel), List.mem_of_getElem? (i := 1261) (by decide +kernel), List.mem_of_getElem? (i := 1262) (by decide +kernel)⟩
theorem lw_p36 : lw_okq (⟨"InvoicebridgeModel", "sums", "(IZ)I"⟩, 25) := ⟨⟨by decide +kernel, by decide +kernel⟩, List.mem_of_getElem? (i := 1058) (by decide +kernel), List.mem_of_getElem? (i := 1281) (by decide +kernel), List.mem_of_getElem? (i := 1282) (by decide +kernel)⟩
theorem lw_p37 : lw_okq (⟨"InvoicebridgeModel", "isMonth", "(I)Z"⟩, 25) := ⟨⟨by decide +kernel, by decide +kernel⟩, List.mem_of_getElem? (i := 1058) (by decide +kernel), List.mem_of_getElem? (i := 1293) (by decide +kernel), List.mem_of_getElem? (i := 1294) (by decide +kernel)⟩
theorem lw_p38 : lw_okq (⟨"InvoicebridgeModel", "taxUpTo", "(II)I"⟩, 25) := ⟨⟨by decide +kernel, by decide +kernel⟩, List.mem_of_getElem? (i := 1058) (by decide +kernel), List.mem_of_getElem? (i := 1297) (by decide +kernel), List.mem_of_getElem? (i := 1298) (by decide +kernel)⟩
theorem lw_p39 : lw_okq (⟨"InvoicebridgeModel", "taxIn", "(II)I"⟩, 25) := ⟨⟨by decide +kernel, by decide +kernel⟩, List.mem_of_getElem? (i := 1058) (by decide +kernel), List.mem_of_getElem? (i := 1301) (by decide +kernel), List.mem_of_getElem? (i := 1302) (by decide +kernel)⟩
def lw_privs_3 : List (MethodName × Nat) := [(⟨"InvoicebridgeModel", "lessens", "(III)V"⟩, 25), (⟨"InvoicebridgeModel", "moves", "(III)V"⟩, 25), (⟨"InvoicebridgeModel", "faultOf", "()I"⟩, 25), (⟨"InvoicebridgeModel", "taxOfAll", "(IZ)I"⟩, 25), (⟨"InvoicebridgeModel", "sums", "(IZ)I"⟩, 25), (⟨"InvoicebridgeModel", "isMonth", "(I)Z"⟩, 25), (⟨"InvoicebridgeModel", "taxUpTo", "(II)I"⟩, 25), (⟨"InvoicebridgeModel", "taxIn", "(II)I"⟩, 25)]
theorem lw_r3 : ∀ q ∈ lw_privs_3, lw_okq q := List.forall_mem_cons.mpr ⟨lw_p32, List.forall_mem_cons.mpr ⟨lw_p33, List.forall_mem_cons.mpr ⟨lw_p34, List.forall_mem_cons.mpr ⟨lw_p35, List.forall_mem_cons.mpr ⟨lw_p36, List.forall_mem_cons.mpr ⟨lw_p37, List.forall_mem_cons.mpr ⟨lw_p38, List.forall_mem_cons.mpr ⟨lw_p39, fun _ h => absurd h List.not_mem_nil⟩⟩⟩⟩⟩⟩⟩⟩
def lw_privs : List (MethodName × Nat) := lw_privs_1 ++ (lw_privs_2 ++ (lw_privs_3))
def lw_tbl : List Cond := k2_sels lw_privs ++ tables_1
theorem lw_privs_ok : ∀ q ∈ lw_privs, lw_okq q := by
  show ∀ q ∈ lw_privs_1 ++ (lw_privs_2 ++ (lw_privs_3)), lw_okq q
  exact List.forall_mem_append.mpr ⟨lw_r1, List.forall_mem_append.mpr ⟨lw_r2, lw_r3⟩⟩
/-! ===== BEGIN words of one list among another's, by their places ===== -/
theorem goodIn_r {big : List Cond} (ws : List Cond) (ps : List Nat) (hp : ws = ps.filterMap (fun i => big[i]?)) (h : ws.all goodWord = true) : GoodIn big ws := by
  intro w hw
  have h1 := List.all_eq_true.mp h w hw
  rw [hp] at hw
  obtain ⟨i, -, hi⟩ := List.mem_filterMap.mp hw
  have hm : w ∈ big := by first | exact List.mem_of_getElem? hi | exact List.getElem?_mem hi
  exact ⟨hm, good_of_word h1⟩
theorem goodIn_app {big a b : List Cond} (ha : GoodIn big a) (hb : GoodIn big b) : GoodIn big (a ++ b) := fun w h => (List.mem_append.mp h).elim (ha w) (hb w)
theorem goodIn_ca {big a b : List Cond} {c : Cond} (ha : GoodIn big (c :: a)) (hb : GoodIn big b) : GoodIn big (c :: (a ++ b)) := fun w h => (List.mem_cons.mp h).elim (fun e => ha w (List.mem_cons.mpr (Or.inl e))) (fun h => (List.mem_append.mp h).elim (fun h => ha w (List.mem_cons.mpr (Or.inr h))) (hb w))
theorem goodIn_sub {big ws : List Cond} (hm : ∀ w ∈ ws, w ∈ big) (h : ws.all goodWord = true) : GoodIn big ws := fun w hw => ⟨hm w hw, good_of_word (List.all_eq_true.mp h w hw)⟩
/-! ===== END ===== -/

/-! ===== BEGIN exceptions that leave a method, and their catching by the caller (launches without stack traces) ===== -/
section VXA
/-! The laws vx_back, vx_callV, vx_callS, vx_callSW, vx_throw0, vx_throwS follow proofs of the library, with one case more: JvmDerived/Free/Laws.lean (Back.of_free), Shelf42/LK1.lean (callV, callS), Shelf/KitTraced.lean (throwNew0V, throwNewS). -/
/-- where a method has thrown q: the class by its name, the cell, what was written, the world -/
def vx_T (XC : String → State → State → Prop) (st : State) (q : Addr) (t : State) (mc ms : Nat) (free : Addr → Prop) : Prop :=
  ∃ (E : String) (ce : Cell) (L : List Loc), XC E st t ∧ t.heap[q]? = some ce ∧ ce.vm = .none ∧ st.vm.findClass E = some ce.cls ∧ st.WarmedH t.vm ∧ st.sameButNew ({ t with vm := st.vm } : State) L mc ms ∧ ∀ z ∈ L, free z.base
def vx_Q (Qc : Array Value → State → Outcome → State → Prop) (XC : String → State → State → Prop) (mc ms : Nat) (free : Addr → Prop) : Array Value → State → Outcome → State → Prop := fun a st o t =>
  (Qc a st o t ∧ ∃ L, FrameEnd st o t L mc ms ∧ ∀ q ∈ L, free q.base) ∨ ∃ q, o = .threw q ∧ vx_T XC st q t mc ms free
/-- a callee that returns or throws -/
def vx_Met (l : Launch) (y : MethodName) (ws : List Cond) (rm : Room) (Pc : Array Value → State → Prop) (Qc : Array Value → State → Outcome → State → Prop) (XC : String → State → State → Prop) (mc ms : Nat) (free : Addr → Prop) : Prop :=
  MetFree l y (headSpec ws rm) Pc (fun _ _ _ _ _ => True) (vx_Q Qc XC mc ms free)
def vx_Post (XC : String → State → State → Prop) (mc ms : Nat) (free : Addr → Prop) : Pt → Array Value → Addr → Pt → Prop := fun A a q B =>
  ∃ (g : JFrame) (mk : MethodId) (t : State) (L : List Loc) (E : String) (ce : Cell), B.U.heap = t.heap ∧ B.U.vm = t.vm ∧ XC E (A.U.calling g mk a) t ∧ t.heap[q]? = some ce ∧ ce.vm = .none ∧ A.U.vm.findClass E = some ce.cls ∧ B.locs = A.locs ++ L ∧ (∀ z ∈ L, free z.base) ∧ B.cells = A.cells + mc ∧ B.slots = A.slots + ms
def vx_Back (l : Launch) (R : Room) (p : Program) (e : Env) (below : List Frame) (s : State) (sargs : Array Value) (y : MethodName) (len W9 : Nat)
    (Pre : Pt → Array Value → Prop) (Post : Pt → Array Value → Option Value → Pt → Prop) (PostX : Pt → Array Value → Addr → Pt → Prop) : Prop :=
  ∀ (m : MethodId) (meth : Method) (c : Code) (A : Pt) (g : JFrame) (ig : Instr) (mk : MethodId) (a : Array Value),
    Stand p l e R s m sargs below meth c A.U A.locs A.cells A.slots → g.method = m → g.locals.size = c.maxLocals → decode c.code g.pc = .ok (ig, len) →
    2 * g.monitorRoom + (g.stack.map fun v => v.category).sum ≤ W9 → A.U.methodNamed? y = some mk → Pre A a →
    (∃ (v : Option Value) (B : Pt), Stand p l e R s m sargs below meth c B.U B.locs B.cells B.slots ∧ Post A a v B ∧
      Steps p.tables e below (doInvoke e (A.U.setTop g) [] mk a).1 (B.U.setTop { g with pc := g.pc + len, stack := v.toList ++ g.stack })) ∨
    (∃ (q : Addr) (B : Pt), Stand p l e R s m sargs below meth c B.U B.locs B.cells B.slots ∧ PostX A a q B ∧
      Steps p.tables e below (doInvoke e (A.U.setTop g) [] mk a).1 ((B.U.setTop g).pushFrame (.throwing q)))
section Payer
variable {l : Launch} {R : Room} {p : Program} {e : Env} {below : List Frame} {s : State} {sargs : Array Value} {y : MethodName} {len W9 : Nat}
theorem vx_back {ws : List Cond} {rm : Room} {Pc : Array Value → State → Prop} {Qc : Array Value → State → Outcome → State → Prop} {XC : String → State → State → Prop} {mc ms : Nat} {free : Addr → Prop} {bytes : ByteArray} {maxL : Nat} {ret : Option FieldType}
    (hM : vx_Met l y ws rm Pc Qc XC mc ms free) (hblind : FrameBlind Pc) (hrc : rm.cells = mc) (hrs : rm.slots = ms)
    (hframes : rm.frames + 1 ≤ R.frames) (hlocals : W9 + (maxL + 11) + rm.locals ≤ R.locals)
    (hws : ∀ w ∈ ws, ∀ a' U, s.WarmedH U.vm → w.before a' U = true) (hcode : Cond.code y bytes maxL ret ∈ ws) (hinit : ∀ a' U, s.WarmedH U.vm → (Cond.initialized y.cls).before a' U = true) :
    vx_Back l R p e below s sargs y len W9 (PreOf R mc ms Pc) (PostOf Qc mc ms free) (vx_Post XC mc ms free) := by
  intro m meth c A g ig mk a X hg hsize hdg hW hn hp
  have h1 : (headSpec ws rm).pre.before a A.U = true := atoms_intro fun w hw => hws w hw _ _ X.warmed
  have h2 : (Cond.code y bytes maxL ret).before a A.U = true := hws _ hcode _ _ X.warmed
  have h3 : (Cond.initialized y.cls).before a A.U = true := hinit _ _ X.warmed
  have h4 : A.cells + (headSpec ws rm).room.cells ≤ R.cells := by rw [show (headSpec ws rm).room.cells = mc from hrc]; exact hp.1
  have h5 : A.slots + (headSpec ws rm).room.slots ≤ R.slots := by rw [show (headSpec ws rm).room.slots = ms from hrs]; exact hp.2.1
  have hPc : Pc a (A.U.calling g mk a) := hblind _ _ _ _ hp.2.2
  obtain ⟨U, Ls, c0, s0⟩ := A
  dsimp only [Pt.U, Pt.locs, Pt.cells, Pt.slots] at h1 h2 h3 h4 h5 X hn hPc ⊢
  obtain ⟨methY, cY, hmY, hcY, -, hlY, -, -, -, -⟩ := Cond.code_spec hn h2
  obtain ⟨kY, hkY, -⟩ := className_of_methodNamed hn
  have hinitY : kY.init = .initialized := Cond.initialized_spec (findClass_of_methodNamed hn) hkY h3
  have h : At U g.method c below := by rw [hg]; exact X.here
  have hlocals9 : W9 + (maxL + 11) + (headSpec ws rm).room.locals ≤ R.locals := hlocals
  have happ : (headSpec ws rm).appliesLoose y e.platform (U.calling g mk a) = true :=
    Spec.appliesLoose_calling (g := g) h hdg hn hkY hinitY
      (X.room_calling (g := g) (R' := (headSpec ws rm).room) hsize hmY hcY hframes (by rw [hlY]; omega) h4 h5) h1
  obtain ⟨mid, hmid⟩ := h.above
  have hfr : (U.setTop g).frames = (.java g :: mid) ++ below := by rw [State.frames_setTop' g h.top, hmid]; rfl
  obtain ⟨o, s₂, hsteps, -, hend, hq⟩ := Steps.callFree hM p X.admits X.cas X.clock (acts := []) hfr happ hPc trivial
  have hq' : vx_Q Qc XC mc ms free a (U.calling g mk a) o s₂ := hq
  rw [State.frames_setTop' g h.top] at hend
  obtain ⟨g₀, hg0⟩ := Option.isSome_iff_exists.mp h.top
  obtain ⟨r, hr⟩ := State.topJava?_eq_some.mp hg0
  have hr' : (({ U with heap := s₂.heap, slotsUsed := s₂.slotsUsed } : State).setVm s₂.vm).frames = .java g₀ :: r := hr
  rcases hq' with ⟨hqc, L, hfe, hL⟩ | ⟨q, rfl, E, ce, L, hx, hce, hcv, hcl, hW₂, hsm, hL⟩
  · obtain ⟨⟨v, rfl⟩, hW₂, e2, q2, q3, q4, q5, q6⟩ := id hfe
    have e3 : s₂ = ({ (U.calling g mk a).setFrames s₂.frames with heap := s₂.heap, slotsUsed := s₂.slotsUsed } : State).setVm s₂.vm := by
      have : s₂ = ({ s₂ with vm := (U.calling g mk a).vm } : State).setVm s₂.vm := rfl
      rw [e2] at this
      exact this
    obtain ⟨c₂, i₂, len₂, hc₂, hd₂, hf₂⟩ := hend
    have hW' : U.WarmedH s₂.vm := hW₂
    have hcc : c₂ = c := by
      have h1 : s₂.code? g.method = U.code? g.method := by
        rw [State.code?_eq, State.code?_eq, hW'.alike.method?]
      exact Option.some.inj (hc₂.symm.trans (h1.trans h.code))
    subst hcc
    have hlen : len₂ = len := by rw [hdg] at hd₂; cases hd₂; rfl
    subst hlen
    have hs₂ : s₂ = (({ U with heap := s₂.heap, slotsUsed := s₂.slotsUsed } : State).setVm s₂.vm).setTop { g with pc := g.pc + len₂, stack := v.toList ++ g.stack } := by
      refine e3.trans ?_
      rw [hf₂, State.calling_eq h.top, State.setFrames_setFrames, State.setTop_of_frames _ hr', hr]
      rfl
    have hsame : U.sameButNew ({ U with heap := s₂.heap, slotsUsed := s₂.slotsUsed } : State) L mc ms := by
      refine ⟨?_, q2, q3, q4, q5, q6⟩
      obtain ⟨t, ht, -⟩ := State.frames_cons hr
      show ({ U with heap := s₂.heap, slotsUsed := s₂.slotsUsed } : State) = { U.setFrames U.frames with heap := s₂.heap, slotsUsed := s₂.slotsUsed }
      rw [State.setFrames_self ht]
    subst hg
    refine Or.inl ⟨v, ⟨(({ U with heap := s₂.heap, slotsUsed := s₂.slotsUsed } : State).setVm s₂.vm), Ls ++ L, c0 + mc, s0 + ms⟩,
      ⟨X.admits, X.cas, X.clock, X.frames, X.room, X.hears, X.method, X.code, (X.here.setHeapUsed s₂.heap s₂.slotsUsed).setVm hW'.alike, X.tail, State.WarmedH.trans X.warmed hW', X.limits, X.bytes, X.same.trans (hsame.setVm s.vm)⟩,
      ⟨g, mk, s₂, L, rfl, rfl, hqc, rfl, hL, rfl, rfl⟩, ?_⟩
    show Steps p.tables e below _ ((({ U with heap := s₂.heap, slotsUsed := s₂.slotsUsed } : State).setVm s₂.vm).setTop { g with pc := g.pc + len₂, stack := v.toList ++ g.stack })
    rw [← hs₂]
    exact hsteps
  · obtain ⟨e2, q2, q3, q4, q5, q6⟩ := id hsm
    have e3 : s₂ = ({ (U.calling g mk a).setFrames s₂.frames with heap := s₂.heap, slotsUsed := s₂.slotsUsed } : State).setVm s₂.vm := by
      have : s₂ = ({ s₂ with vm := (U.calling g mk a).vm } : State).setVm s₂.vm := rfl
      rw [e2] at this
      exact this
    have hf₂ : s₂.frames = .throwing q :: .java g :: U.frames.tail := hend
    have hW' : U.WarmedH s₂.vm := hW₂
    have hs₂ : s₂ = ((({ U with heap := s₂.heap, slotsUsed := s₂.slotsUsed } : State).setVm s₂.vm).setTop g).pushFrame (.throwing q) := by
      refine e3.trans ?_
      rw [hf₂, State.calling_eq h.top, State.setFrames_setFrames, State.pushFrame, State.frames_setTop _ hr', State.setTop_of_frames _ hr', State.setFrames_setFrames, hr]
      rfl
    have hsame : U.sameButNew ({ U with heap := s₂.heap, slotsUsed := s₂.slotsUsed } : State) L mc ms := by
      refine ⟨?_, q2, q3, q4, q5, q6⟩
      obtain ⟨t, ht, -⟩ := State.frames_cons hr
      show ({ U with heap := s₂.heap, slotsUsed := s₂.slotsUsed } : State) = { U.setFrames U.frames with heap := s₂.heap, slotsUsed := s₂.slotsUsed }
      rw [State.setFrames_self ht]
    subst hg
    refine Or.inr ⟨q, ⟨(({ U with heap := s₂.heap, slotsUsed := s₂.slotsUsed } : State).setVm s₂.vm), Ls ++ L, c0 + mc, s0 + ms⟩,
      ⟨X.admits, X.cas, X.clock, X.frames, X.room, X.hears, X.method, X.code, (X.here.setHeapUsed s₂.heap s₂.slotsUsed).setVm hW'.alike, X.tail, State.WarmedH.trans X.warmed hW', X.limits, X.bytes, X.same.trans (hsame.setVm s.vm)⟩,
      ⟨g, mk, s₂, L, E, ce, rfl, rfl, hx, hce, hcv, hcl, rfl, hL, rfl, rfl⟩, ?_⟩
    show Steps p.tables e below _ (((({ U with heap := s₂.heap, slotsUsed := s₂.slotsUsed } : State).setVm s₂.vm).setTop g).pushFrame (.throwing q))
    rw [← hs₂]
    exact hsteps
end Payer
section Calls
variable {p : Program} {l : Launch} {e : Env} {R : Room} {s : State} {m : MethodId} {args : Array Value} {below : List Frame} {meth : Method} {c : Code} {T : State} {locs : List Loc} {cells slots : Nat}
theorem vx_callV (X : Stand p l e R s m args below meth c T locs cells slots) (hexec : p.tables.exec = Jvm.exec) {own C : String} {index : Nat} {y : MethodName} {bytes : ByteArray} {maxL : Nat} {ret : Option FieldType}
    (hown : s.vm.findClass own = some m.cls) (hlink : (Cond.methodLink own index y).before args s = true) (hinst : (Cond.instanceMethod y).before args s = true) (hsel : (Cond.selects C y y).before args s = true)
    (hcode : (Cond.code y bytes maxL ret).before args s = true) (hy : y.cls ≠ "java/lang/invoke/MethodHandle" ∧ y.cls ≠ "java/lang/invoke/VarHandle")
    {W9 : Nat} {Pre : Pt → Array Value → Prop} {Post : Pt → Array Value → Option Value → Pt → Prop} {PostX : Pt → Array Value → Addr → Pt → Prop} (hK : vx_Back l R p e below s args y 3 W9 Pre Post PostX)
    {b : Addr} {cellB : Cell} (hcell : T.heap[b]? = some cellB) (hobj : cellB.vm.isStatics = false) (hcls : s.vm.findClass C = some cellB.cls)
    {g : JFrame} (hg : g.method = m) (hsize : g.locals.size = c.maxLocals) {argsL rest : List Value} (hlen : ∀ sig, parseMethodDescriptor y.desc = some sig → argsL.length = sig.parameters.length)
    (hstack : g.stack = argsL.reverse ++ .ref b :: rest) (hW : 2 * g.monitorRoom + (rest.map fun v => v.category).sum ≤ W9) (hdg : decode c.code g.pc = .ok (.invokevirtual index, 3))
    (hpre : ∀ vm₁, s.WarmedH vm₁ → Pre ⟨T.setVm vm₁, locs, cells, slots⟩ (Value.ref b :: argsL).toArray) :
    (∃ (v : Option Value) (vm₁ : Vm) (B : Pt), s.WarmedH vm₁ ∧ Stand p l e R s m args below meth c B.U B.locs B.cells B.slots ∧ Post ⟨T.setVm vm₁, locs, cells, slots⟩ (Value.ref b :: argsL).toArray v B ∧
      ∀ target, Steps p.tables e below (B.U.setTop { g with pc := g.pc + 3, stack := v.toList ++ rest }) target → Steps p.tables e below (T.setTop g) target) ∨
    (∃ (q : Addr) (vm₁ : Vm) (B : Pt), s.WarmedH vm₁ ∧ Stand p l e R s m args below meth c B.U B.locs B.cells B.slots ∧ PostX ⟨T.setVm vm₁, locs, cells, slots⟩ (Value.ref b :: argsL).toArray q B ∧
      Steps p.tables e below (T.setTop g) ((B.U.setTop { g with stack := rest }).pushFrame (.throwing q))) := by
  obtain ⟨mk, methM, hnamed, hmethM, hstM, habM⟩ := Cond.instanceMethod_spec hinst
  obtain ⟨methM', cM, hmethM', -, -, -, -, -, -, hsigM⟩ := Cond.code_spec hnamed hcode
  cases hmethM.symm.trans hmethM'
  obtain ⟨c2, r2, m2, q1, q2, q3, q4, kP, hkP, hkPi⟩ := Cond.selects_spec hsel
  cases hcls.symm.trans q1
  cases (State.methodFound?_of_named hnamed hy).symm.trans q2
  cases hnamed.symm.trans q3
  have hselP : selectMethod e.platform s.vm cellB.cls mk = .method mk := by rw [Launch.admits_selectMethod X.admits]; exact q4
  obtain ⟨vm₁, X₁, hstep₁⟩ := X.invokevirtual hexec hown hlink hnamed hmethM hstM hkP hkPi hy (a := b) (cell := cellB) hcell
    (fun z h => by rw [h] at hobj; cases hobj) hselP hmethM habM hkP hkPi (g := g) hg (argsL := argsL) (rest := rest) (hlen _ hsigM) hstack hdg
  rcases hK m meth c ⟨T.setVm vm₁, locs, cells, slots⟩ { g with stack := rest } (.invokevirtual index) mk (Value.ref b :: argsL).toArray X₁ hg hsize hdg hW (X₁.named hnamed) (hpre vm₁ X₁.warmed) with ⟨v, B, X', hpost, hsteps⟩ | ⟨q, B, X', hpost, hsteps⟩
  · exact Or.inl ⟨v, vm₁, B, X₁.warmed, X', hpost, fun target h => hstep₁ _ fun acts => by rw [doInvoke_state]; exact hsteps.trans h⟩
  · exact Or.inr ⟨q, vm₁, B, X₁.warmed, X', hpost, hstep₁ _ fun acts => by rw [doInvoke_state]; exact hsteps⟩
theorem vx_callS (X : Stand p l e R s m args below meth c T locs cells slots) (hexec : p.tables.exec = Jvm.exec) {own : String} {index : Nat} {y : MethodName} {bytes : ByteArray} {maxL : Nat} {ret : Option FieldType}
    (hown : s.vm.findClass own = some m.cls) (hlink : (Cond.methodLink own index y).before args s = true) (hstat : (Cond.static y).before args s = true) (hinit : (Cond.initialized y.cls).before args s = true)
    (hcode : (Cond.code y bytes maxL ret).before args s = true) (hy : y.cls ≠ "java/lang/invoke/MethodHandle" ∧ y.cls ≠ "java/lang/invoke/VarHandle")
    {W9 : Nat} {Pre : Pt → Array Value → Prop} {Post : Pt → Array Value → Option Value → Pt → Prop} {PostX : Pt → Array Value → Addr → Pt → Prop} (hK : vx_Back l R p e below s args y 3 W9 Pre Post PostX)
    {g : JFrame} (hg : g.method = m) (hsize : g.locals.size = c.maxLocals) {argsL rest : List Value} (hlen : ∀ sig, parseMethodDescriptor y.desc = some sig → argsL.length = sig.parameters.length)
    (hstack : g.stack = argsL.reverse ++ rest) (hW : 2 * g.monitorRoom + (rest.map fun v => v.category).sum ≤ W9) (hdg : decode c.code g.pc = .ok (.invokestatic index, 3))
    (hpre : ∀ vm₁, s.WarmedH vm₁ → Pre ⟨T.setVm vm₁, locs, cells, slots⟩ argsL.toArray) :
    (∃ (v : Option Value) (vm₁ : Vm) (B : Pt), s.WarmedH vm₁ ∧ Stand p l e R s m args below meth c B.U B.locs B.cells B.slots ∧ Post ⟨T.setVm vm₁, locs, cells, slots⟩ argsL.toArray v B ∧
      ∀ target, Steps p.tables e below (B.U.setTop { g with pc := g.pc + 3, stack := v.toList ++ rest }) target → Steps p.tables e below (T.setTop g) target) ∨
    (∃ (q : Addr) (vm₁ : Vm) (B : Pt), s.WarmedH vm₁ ∧ Stand p l e R s m args below meth c B.U B.locs B.cells B.slots ∧ PostX ⟨T.setVm vm₁, locs, cells, slots⟩ argsL.toArray q B ∧
      Steps p.tables e below (T.setTop g) ((B.U.setTop { g with stack := rest }).pushFrame (.throwing q))) := by
  obtain ⟨mk, hnamed⟩ := Cond.code_named hcode
  obtain ⟨methM, cM, hmethM, -, -, -, -, -, -, hsigM⟩ := Cond.code_spec hnamed hcode
  have hstatic : methM.isStatic = true := Cond.static_spec hnamed hmethM hstat
  obtain ⟨kP, hkP, -⟩ := className_of_methodNamed hnamed
  have hinitP : kP.init = .initialized := Cond.initialized_spec (findClass_of_methodNamed hnamed) hkP hinit
  obtain ⟨vm₁, X₁, hstep₁⟩ := X.invokestatic hexec hown hlink hnamed hmethM hstatic hkP hinitP hy (g := g) hg (argsL := argsL) (rest := rest) (hlen _ hsigM) hstack hdg
  rcases hK m meth c ⟨T.setVm vm₁, locs, cells, slots⟩ { g with stack := rest } (.invokestatic index) mk argsL.toArray X₁ hg hsize hdg hW (X₁.named hnamed) (hpre vm₁ X₁.warmed) with ⟨v, B, X', hpost, hsteps⟩ | ⟨q, B, X', hpost, hsteps⟩
  · exact Or.inl ⟨v, vm₁, B, X₁.warmed, X', hpost, fun target h => hstep₁ _ fun acts => by rw [doInvoke_state]; exact hsteps.trans h⟩
  · exact Or.inr ⟨q, vm₁, B, X₁.warmed, X', hpost, hstep₁ _ fun acts => by rw [doInvoke_state]; exact hsteps⟩
end Calls
theorem vx_cls {s : State} {T : State} {vm₁ : Vm} {E : String} {k : ClassId} (hW : s.WarmedH vm₁) (h : (T.setVm vm₁).vm.findClass E = some k) : s.vm.findClass E = some k := by
  have h1 : vm₁.findClass E = some k := h
  rw [hW.alike.findClass] at h1
  exact h1
/-- the method's frame g, with q thrown over it -/
def vx_W (p : Program) (l : Launch) (e : Env) (R : Room) (s : State) (m : MethodId) (args : Array Value) (below : List Frame) (meth : Method) (c : Code) (H : Heap) (locs : List Loc) (cells slots : Nat) (Q : State → Prop) (g : JFrame) (q : Addr) : Prop :=
  ∀ T : State, T.heap = H → Stand p l e R s m args below meth c T locs cells slots → ∃ t, Steps p.tables e below ((T.setTop g).pushFrame (.throwing q)) t ∧ Q t
def vx_Run (p : Program) (l : Launch) (e : Env) (R : Room) (s : State) (m : MethodId) (args : Array Value) (below : List Frame) (meth : Method) (c : Code) (H : Heap) (locs : List Loc) (cells slots mc ms : Nat) (g : JFrame) (rest : List Value) (Qa : State → Outcome → State → Prop) (XC : String → State → State → Prop) (free : Addr → Prop) : Prop :=
  ∀ T : State, T.heap = H → Stand p l e R s m args below meth c T locs cells slots →
    (∃ (v : Option Value) (st₀ t T' : State) (L : List Loc), st₀.heap = H ∧ Stand p l e R s m args below meth c T' (locs ++ L) (cells + mc) (slots + ms) ∧ (∀ q ∈ L, free q.base) ∧ T'.heap = t.heap ∧ T'.vm = t.vm ∧ Qa st₀ (.returned v) t ∧
      Goes p e below T g T' { g with pc := g.pc + 3, stack := v.toList ++ rest }) ∨
    (∃ (q : Addr) (st₀ t T' : State) (L : List Loc) (E : String) (ce : Cell), st₀.heap = H ∧ Stand p l e R s m args below meth c T' (locs ++ L) (cells + mc) (slots + ms) ∧ (∀ z ∈ L, free z.base) ∧ T'.heap = t.heap ∧ T'.vm = t.vm ∧ XC E st₀ t ∧ t.heap[q]? = some ce ∧ ce.vm = .none ∧ s.vm.findClass E = some ce.cls ∧
      Steps p.tables e below (T.setTop g) ((T'.setTop { g with stack := rest }).pushFrame (.throwing q)))
def vx_X {S : Type} (px : S → Prop) (B : String → S → State → Prop) (A : Nat → Prop) : String → State → State → Prop := fun E st t => ∃ u : S, px u ∧ B E u t ∧ va_F A st t
section Runs
variable {p : Program} {l : Launch} {e : Env} {R : Room} {s : State} {m : MethodId} {args : Array Value} {below : List Frame} {meth : Method} {c : Code} {H : Heap} {locs : List Loc} {cells slots : Nat}
variable {y : MethodName} {bytes cc : ByteArray} {maxL nL mc ms n index : Nat} {ret : Option FieldType} {ws : List Cond} {rm : Room} {Pc : Array Value → State → Prop} {Qc : Array Value → State → Outcome → State → Prop} {XC : String → State → State → Prop} {free : Addr → Prop} {Ts : List Cond} {own C : String} {b : Addr} {As rest : List Value} {g : JFrame}
theorem vx_callBack (cb : CallB R s args own index y bytes maxL ret ws rm mc ms n) (hM : vx_Met l y ws rm Pc Qc XC mc ms free) (hbl : FrameBlind Pc) : vx_Back l R p e below s args y 3 8 (PreOf R mc ms Pc) (PostOf Qc mc ms free) (vx_Post XC mc ms free) := by
  obtain ⟨hrc, hrs, hfr, hlo, hws, hcw, -, hini, -⟩ := cb
  exact vx_back (bytes := bytes) (maxL := maxL) (ret := ret) hM hbl hrc hrs hfr hlo hws hcw (fun a' U hW => word_at hW (Or.inl (by first | rfl | simp [Cond.onTables, Cond.keeps, Cond.steady])) hini)
theorem vx_runV (S : CallFix p m c cc nL s args Ts own) (hM : vx_Met l y ws rm Pc Qc XC mc ms free) (cw : CallW R s args own C index y bytes maxL ret ws rm mc ms n) (hp : PreV s H C b Pc As)
    (hg : g.method = m) (hn : As.length = n) (hsize : g.locals.size = nL) (hstack : g.stack = As.reverse ++ .ref b :: rest) (hW : 2 * g.monitorRoom + (rest.map fun v => v.category).sum ≤ 8) (hdg : decode cc g.pc = .ok (.invokevirtual index, 3)) (hf : cells + mc ≤ R.cells ∧ slots + ms ≤ R.slots) :
    vx_Run p l e R s m args below meth c H locs cells slots mc ms g rest (Qc (Value.ref b :: As).toArray) XC free := by
  have hK : vx_Back l R p e below s args y 3 8 (PreOf R mc ms Pc) (PostOf Qc mc ms free) (vx_Post XC mc ms free) := vx_callBack cw.1 hM hp.1
  obtain ⟨⟨-, -, -, -, -, -, hcode, -, hy, hlen, hl⟩, hin, hse⟩ := cw
  obtain ⟨hx, hb, hml, ho, -⟩ := S
  obtain ⟨-, ⟨cellB, hcB, hoB, hclB⟩, hPc⟩ := hp
  intro T hT X
  rcases vx_callV X hx (C := C) (bytes := bytes) (maxL := maxL) (ret := ret) ho hl hin hse hcode hy hK (by rw [hT]; exact hcB) hoB hclB hg (hsize.trans hml.symm) (argsL := As) (rest := rest) (fun sig h => hn.trans (hlen sig h)) hstack hW (by rw [hb]; exact hdg)
    (fun vm₁ hW₁ => ⟨hf.1, hf.2, hPc (T.setVm vm₁) hT hW₁⟩) with ⟨v, vm₁, ⟨U', l2, c2, s2⟩, hW₁, X', ⟨g', mk, t, L, e1, e2, hq, h1, hL, h2, h3⟩, st⟩ | ⟨q, vm₁, ⟨U', l2, c2, s2⟩, hW₁, X', ⟨g', mk, t, L, E, ce, e1, e2, hq, hce, hcv, hcl, h1, hL, h2, h3⟩, st⟩
  · dsimp only [Pt.U, Pt.locs, Pt.cells, Pt.slots] at X' e1 e2 h1 h2 h3 st
    subst h1; subst h2; subst h3
    exact Or.inl ⟨v, (T.setVm vm₁).calling g' mk (Value.ref b :: As).toArray, t, U', L, hT, X', hL, e1, e2, hq, st⟩
  · dsimp only [Pt.U, Pt.locs, Pt.cells, Pt.slots] at X' e1 e2 h1 h2 h3 st hcl
    subst h1; subst h2; subst h3
    exact Or.inr ⟨q, (T.setVm vm₁).calling g' mk (Value.ref b :: As).toArray, t, U', L, E, ce, hT, X', hL, e1, e2, hq, hce, hcv, vx_cls hW₁ hcl, st⟩
theorem vx_runS (S : CallFix p m c cc nL s args Ts own) (hM : vx_Met l y ws rm Pc Qc XC mc ms free) (cw : CallB R s args own index y bytes maxL ret ws rm mc ms n ∧ (Cond.static y).before args s = true) (hp : PreS s H Pc As)
    (hg : g.method = m) (hn : As.length = n) (hsize : g.locals.size = nL) (hstack : g.stack = As.reverse ++ rest) (hW : 2 * g.monitorRoom + (rest.map fun v => v.category).sum ≤ 8) (hdg : decode cc g.pc = .ok (.invokestatic index, 3)) (hf : cells + mc ≤ R.cells ∧ slots + ms ≤ R.slots) :
    vx_Run p l e R s m args below meth c H locs cells slots mc ms g rest (Qc As.toArray) XC free := by
  have hK : vx_Back l R p e below s args y 3 8 (PreOf R mc ms Pc) (PostOf Qc mc ms free) (vx_Post XC mc ms free) := vx_callBack cw.1 hM hp.1
  obtain ⟨⟨-, -, -, -, -, -, hcode, hini, hy, hlen, hl⟩, hstt⟩ := cw
  obtain ⟨hx, hb, hml, ho, -⟩ := S
  intro T hT X
  rcases vx_callS X hx (bytes := bytes) (maxL := maxL) (ret := ret) ho hl hstt hini hcode hy hK hg (hsize.trans hml.symm) (argsL := As) (rest := rest) (fun sig h => hn.trans (hlen sig h)) hstack hW (by rw [hb]; exact hdg)
    (fun vm₁ hW₁ => ⟨hf.1, hf.2, hp.2 (T.setVm vm₁) hT hW₁⟩) with ⟨v, vm₁, ⟨U', l2, c2, s2⟩, hW₁, X', ⟨g', mk, t, L, e1, e2, hq, h1, hL, h2, h3⟩, st⟩ | ⟨q, vm₁, ⟨U', l2, c2, s2⟩, hW₁, X', ⟨g', mk, t, L, E, ce, e1, e2, hq, hce, hcv, hcl, h1, hL, h2, h3⟩, st⟩
  · dsimp only [Pt.U, Pt.locs, Pt.cells, Pt.slots] at X' e1 e2 h1 h2 h3 st
    subst h1; subst h2; subst h3
    exact Or.inl ⟨v, (T.setVm vm₁).calling g' mk As.toArray, t, U', L, hT, X', hL, e1, e2, hq, st⟩
  · dsimp only [Pt.U, Pt.locs, Pt.cells, Pt.slots] at X' e1 e2 h1 h2 h3 st hcl
    subst h1; subst h2; subst h3
    exact Or.inr ⟨q, (T.setVm vm₁).calling g' mk As.toArray, t, U', L, E, ce, hT, X', hL, e1, e2, hq, hce, hcv, vx_cls hW₁ hcl, st⟩
end Runs
section Rows
variable {p : Program} {l : Launch} {e : Env} {R : Room} {s : State} {m : MethodId} {args : Array Value} {below : List Frame} {meth : Method} {c : Code} {H : Heap} {locs : List Loc} {cells slots : Nat} {Q : State → Prop}
variable {mc ms : Nat} {free : Addr → Prop} {A0 A1 : Nat → Prop} {H0 : Heap} {a : Array Value} {pc : Nat} {ls : Array Slot} {st0 rest : List Value}
theorem vx_keep {st₀ t T' : State} {L : List Loc} (h0 : st₀.heap = H) (e1 : T'.heap = t.heap) (hS : va_S A0 H0 H locs) (hA : ∀ q, q < H.size → A1 q → A0 q) (hf : ∀ q, free q → A0 q) (hL : ∀ q ∈ L, free q.base) (hF : va_F A1 st₀ t) :
    H.size ≤ T'.heap.size ∧ (∀ q : Nat, q < H.size → ¬ A1 q → T'.heap[q]? = H[q]?) ∧ va_S A0 H0 T'.heap (locs ++ L) := by
  obtain ⟨hz, hk⟩ := hF
  rw [h0] at hz hk
  exact ⟨by rw [e1]; exact hz, fun q h1 h2 => by rw [e1]; exact hk q h1 h2,
    ⟨Nat.le_trans hS.1 (by rw [e1]; exact hz), fun q h1 h2 => by rw [e1, hk q (Nat.lt_of_lt_of_le h1 hS.1) (fun z => h2 (hA q (Nat.lt_of_lt_of_le h1 hS.1) z))]; exact hS.2.1 q h1 h2, fun q hq => by
      rcases List.mem_append.mp hq with h | h
      · exact hS.2.2 q h
      · exact hf _ (hL q h)⟩⟩
theorem vx_calli {S SX : Type} {post : Int32 → S → Prop} {px : SX → Prop} {B : S → State → Prop} {BX : String → SX → State → Prop} {AX : Nat → Prop} (hr : vx_Run p l e R s m args below meth c H locs cells slots mc ms (F0 m pc ls st0) rest (va_Qi post B A1 a) (vx_X px BX AX) free) (hS : va_S A0 H0 H locs) (hA : ∀ q, q < H.size → A1 q → A0 q) (hf : ∀ q, free q → A0 q) (hAX : ∀ q, q < H.size → AX q → A0 q)
    (kx : ∀ (E : String) (ce : Cell) (q9 : Addr) (u : SX) (t : State) (H1 : Heap) (locs1 : List Loc), t.heap = H1 → s.vm.Alike t.vm → px u → BX E u t → H.size ≤ H1.size → (∀ q : Nat, q < H.size → ¬ AX q → H1[q]? = H[q]?) → va_S A0 H0 H1 locs1 → H1[q9]? = some ce → ce.vm = .none → s.vm.findClass E = some ce.cls → vx_W p l e R s m args below meth c H1 locs1 (cells + mc) (slots + ms) Q (F0 m pc ls rest) q9)
    (kk : ∀ (r : Int32) (u : S) (t : State) (H1 : Heap) (locs1 : List Loc), t.heap = H1 → s.vm.Alike t.vm → post r u → B u t → H.size ≤ H1.size → (∀ q : Nat, q < H.size → ¬ A1 q → H1[q]? = H[q]?) → va_S A0 H0 H1 locs1 → W p l e R s m args below meth c H1 locs1 (cells + mc) (slots + ms) Q (F0 m (pc + 3) ls (.int r :: rest))) : W p l e R s m args below meth c H locs cells slots Q (F0 m pc ls st0) := by
  intro T hT X
  rcases hr T hT X with ⟨v, st₀, t, T', L, h0, X', hL, e1, e2, ⟨⟨r, u, hv, hp, hb⟩, hF⟩, st⟩ | ⟨q, st₀, t, T', L, E, ce, h0, X', hL, e1, e2, ⟨u, hp, hb, hF⟩, hce, hcv, hcl, st⟩
  · cases hv
    obtain ⟨k1, k2, k3⟩ := vx_keep h0 e1 hS hA hf hL hF
    obtain ⟨t2, a1, b1⟩ := kk r u t T'.heap (locs ++ L) e1.symm (by rw [← e2]; exact X'.warmed.alike) hp hb k1 k2 k3 T' rfl X'
    exact ⟨t2, st t2 a1, b1⟩
  · obtain ⟨k1, k2, k3⟩ := vx_keep h0 e1 hS hAX hf hL hF
    obtain ⟨t2, a1, b1⟩ := kx E ce q u t T'.heap (locs ++ L) e1.symm (by rw [← e2]; exact X'.warmed.alike) hp hb k1 k2 k3 (by rw [e1]; exact hce) hcv hcl T' rfl X'
    exact ⟨t2, st.trans a1, b1⟩
theorem vx_calll {S SX : Type} {post : Int64 → S → Prop} {px : SX → Prop} {B : S → State → Prop} {BX : String → SX → State → Prop} {AX : Nat → Prop} (hr : vx_Run p l e R s m args below meth c H locs cells slots mc ms (F0 m pc ls st0) rest (va_Ql post B A1 a) (vx_X px BX AX) free) (hS : va_S A0 H0 H locs) (hA : ∀ q, q < H.size → A1 q → A0 q) (hf : ∀ q, free q → A0 q) (hAX : ∀ q, q < H.size → AX q → A0 q)
    (kx : ∀ (E : String) (ce : Cell) (q9 : Addr) (u : SX) (t : State) (H1 : Heap) (locs1 : List Loc), t.heap = H1 → s.vm.Alike t.vm → px u → BX E u t → H.size ≤ H1.size → (∀ q : Nat, q < H.size → ¬ AX q → H1[q]? = H[q]?) → va_S A0 H0 H1 locs1 → H1[q9]? = some ce → ce.vm = .none → s.vm.findClass E = some ce.cls → vx_W p l e R s m args below meth c H1 locs1 (cells + mc) (slots + ms) Q (F0 m pc ls rest) q9)
    (kk : ∀ (r : Int64) (u : S) (t : State) (H1 : Heap) (locs1 : List Loc), t.heap = H1 → s.vm.Alike t.vm → post r u → B u t → H.size ≤ H1.size → (∀ q : Nat, q < H.size → ¬ A1 q → H1[q]? = H[q]?) → va_S A0 H0 H1 locs1 → W p l e R s m args below meth c H1 locs1 (cells + mc) (slots + ms) Q (F0 m (pc + 3) ls (.long r :: rest))) : W p l e R s m args below meth c H locs cells slots Q (F0 m pc ls st0) := by
  intro T hT X
  rcases hr T hT X with ⟨v, st₀, t, T', L, h0, X', hL, e1, e2, ⟨⟨r, u, hv, hp, hb⟩, hF⟩, st⟩ | ⟨q, st₀, t, T', L, E, ce, h0, X', hL, e1, e2, ⟨u, hp, hb, hF⟩, hce, hcv, hcl, st⟩
  · cases hv
    obtain ⟨k1, k2, k3⟩ := vx_keep h0 e1 hS hA hf hL hF
    obtain ⟨t2, a1, b1⟩ := kk r u t T'.heap (locs ++ L) e1.symm (by rw [← e2]; exact X'.warmed.alike) hp hb k1 k2 k3 T' rfl X'
    exact ⟨t2, st t2 a1, b1⟩
  · obtain ⟨k1, k2, k3⟩ := vx_keep h0 e1 hS hAX hf hL hF
    obtain ⟨t2, a1, b1⟩ := kx E ce q u t T'.heap (locs ++ L) e1.symm (by rw [← e2]; exact X'.warmed.alike) hp hb k1 k2 k3 (by rw [e1]; exact hce) hcv hcl T' rfl X'
    exact ⟨t2, st.trans a1, b1⟩
theorem vx_callf {S SX : Type} {post : UInt32 → S → Prop} {px : SX → Prop} {B : S → State → Prop} {BX : String → SX → State → Prop} {AX : Nat → Prop} (hr : vx_Run p l e R s m args below meth c H locs cells slots mc ms (F0 m pc ls st0) rest (va_Qf post B A1 a) (vx_X px BX AX) free) (hS : va_S A0 H0 H locs) (hA : ∀ q, q < H.size → A1 q → A0 q) (hf : ∀ q, free q → A0 q) (hAX : ∀ q, q < H.size → AX q → A0 q)
    (kx : ∀ (E : String) (ce : Cell) (q9 : Addr) (u : SX) (t : State) (H1 : Heap) (locs1 : List Loc), t.heap = H1 → s.vm.Alike t.vm → px u → BX E u t → H.size ≤ H1.size → (∀ q : Nat, q < H.size → ¬ AX q → H1[q]? = H[q]?) → va_S A0 H0 H1 locs1 → H1[q9]? = some ce → ce.vm = .none → s.vm.findClass E = some ce.cls → vx_W p l e R s m args below meth c H1 locs1 (cells + mc) (slots + ms) Q (F0 m pc ls rest) q9)
    (kk : ∀ (r : UInt32) (u : S) (t : State) (H1 : Heap) (locs1 : List Loc), t.heap = H1 → s.vm.Alike t.vm → post r u → B u t → H.size ≤ H1.size → (∀ q : Nat, q < H.size → ¬ A1 q → H1[q]? = H[q]?) → va_S A0 H0 H1 locs1 → W p l e R s m args below meth c H1 locs1 (cells + mc) (slots + ms) Q (F0 m (pc + 3) ls (.float r :: rest))) : W p l e R s m args below meth c H locs cells slots Q (F0 m pc ls st0) := by
  intro T hT X
  rcases hr T hT X with ⟨v, st₀, t, T', L, h0, X', hL, e1, e2, ⟨⟨r, u, hv, hp, hb⟩, hF⟩, st⟩ | ⟨q, st₀, t, T', L, E, ce, h0, X', hL, e1, e2, ⟨u, hp, hb, hF⟩, hce, hcv, hcl, st⟩
  · cases hv
    obtain ⟨k1, k2, k3⟩ := vx_keep h0 e1 hS hA hf hL hF
    obtain ⟨t2, a1, b1⟩ := kk r u t T'.heap (locs ++ L) e1.symm (by rw [← e2]; exact X'.warmed.alike) hp hb k1 k2 k3 T' rfl X'
    exact ⟨t2, st t2 a1, b1⟩
  · obtain ⟨k1, k2, k3⟩ := vx_keep h0 e1 hS hAX hf hL hF
    obtain ⟨t2, a1, b1⟩ := kx E ce q u t T'.heap (locs ++ L) e1.symm (by rw [← e2]; exact X'.warmed.alike) hp hb k1 k2 k3 (by rw [e1]; exact hce) hcv hcl T' rfl X'
    exact ⟨t2, st.trans a1, b1⟩
theorem vx_calld {S SX : Type} {post : UInt64 → S → Prop} {px : SX → Prop} {B : S → State → Prop} {BX : String → SX → State → Prop} {AX : Nat → Prop} (hr : vx_Run p l e R s m args below meth c H locs cells slots mc ms (F0 m pc ls st0) rest (va_Qd post B A1 a) (vx_X px BX AX) free) (hS : va_S A0 H0 H locs) (hA : ∀ q, q < H.size → A1 q → A0 q) (hf : ∀ q, free q → A0 q) (hAX : ∀ q, q < H.size → AX q → A0 q)
    (kx : ∀ (E : String) (ce : Cell) (q9 : Addr) (u : SX) (t : State) (H1 : Heap) (locs1 : List Loc), t.heap = H1 → s.vm.Alike t.vm → px u → BX E u t → H.size ≤ H1.size → (∀ q : Nat, q < H.size → ¬ AX q → H1[q]? = H[q]?) → va_S A0 H0 H1 locs1 → H1[q9]? = some ce → ce.vm = .none → s.vm.findClass E = some ce.cls → vx_W p l e R s m args below meth c H1 locs1 (cells + mc) (slots + ms) Q (F0 m pc ls rest) q9)
    (kk : ∀ (r : UInt64) (u : S) (t : State) (H1 : Heap) (locs1 : List Loc), t.heap = H1 → s.vm.Alike t.vm → post r u → B u t → H.size ≤ H1.size → (∀ q : Nat, q < H.size → ¬ A1 q → H1[q]? = H[q]?) → va_S A0 H0 H1 locs1 → W p l e R s m args below meth c H1 locs1 (cells + mc) (slots + ms) Q (F0 m (pc + 3) ls (.double r :: rest))) : W p l e R s m args below meth c H locs cells slots Q (F0 m pc ls st0) := by
  intro T hT X
  rcases hr T hT X with ⟨v, st₀, t, T', L, h0, X', hL, e1, e2, ⟨⟨r, u, hv, hp, hb⟩, hF⟩, st⟩ | ⟨q, st₀, t, T', L, E, ce, h0, X', hL, e1, e2, ⟨u, hp, hb, hF⟩, hce, hcv, hcl, st⟩
  · cases hv
    obtain ⟨k1, k2, k3⟩ := vx_keep h0 e1 hS hA hf hL hF
    obtain ⟨t2, a1, b1⟩ := kk r u t T'.heap (locs ++ L) e1.symm (by rw [← e2]; exact X'.warmed.alike) hp hb k1 k2 k3 T' rfl X'
    exact ⟨t2, st t2 a1, b1⟩
  · obtain ⟨k1, k2, k3⟩ := vx_keep h0 e1 hS hAX hf hL hF
    obtain ⟨t2, a1, b1⟩ := kx E ce q u t T'.heap (locs ++ L) e1.symm (by rw [← e2]; exact X'.warmed.alike) hp hb k1 k2 k3 (by rw [e1]; exact hce) hcv hcl T' rfl X'
    exact ⟨t2, st.trans a1, b1⟩
theorem vx_callv {S SX : Type} {post : S → Prop} {px : SX → Prop} {B : S → State → Prop} {BX : String → SX → State → Prop} {AX : Nat → Prop} (hr : vx_Run p l e R s m args below meth c H locs cells slots mc ms (F0 m pc ls st0) rest (va_Qv post B A1 a) (vx_X px BX AX) free) (hS : va_S A0 H0 H locs) (hA : ∀ q, q < H.size → A1 q → A0 q) (hf : ∀ q, free q → A0 q) (hAX : ∀ q, q < H.size → AX q → A0 q)
    (kx : ∀ (E : String) (ce : Cell) (q9 : Addr) (u : SX) (t : State) (H1 : Heap) (locs1 : List Loc), t.heap = H1 → s.vm.Alike t.vm → px u → BX E u t → H.size ≤ H1.size → (∀ q : Nat, q < H.size → ¬ AX q → H1[q]? = H[q]?) → va_S A0 H0 H1 locs1 → H1[q9]? = some ce → ce.vm = .none → s.vm.findClass E = some ce.cls → vx_W p l e R s m args below meth c H1 locs1 (cells + mc) (slots + ms) Q (F0 m pc ls rest) q9)
    (kk : ∀ (u : S) (t : State) (H1 : Heap) (locs1 : List Loc), t.heap = H1 → s.vm.Alike t.vm → post u → B u t → H.size ≤ H1.size → (∀ q : Nat, q < H.size → ¬ A1 q → H1[q]? = H[q]?) → va_S A0 H0 H1 locs1 → W p l e R s m args below meth c H1 locs1 (cells + mc) (slots + ms) Q (F0 m (pc + 3) ls (rest))) : W p l e R s m args below meth c H locs cells slots Q (F0 m pc ls st0) := by
  intro T hT X
  rcases hr T hT X with ⟨v, st₀, t, T', L, h0, X', hL, e1, e2, ⟨⟨u, hv, hp, hb⟩, hF⟩, st⟩ | ⟨q, st₀, t, T', L, E, ce, h0, X', hL, e1, e2, ⟨u, hp, hb, hF⟩, hce, hcv, hcl, st⟩
  · cases hv
    obtain ⟨k1, k2, k3⟩ := vx_keep h0 e1 hS hA hf hL hF
    obtain ⟨t2, a1, b1⟩ := kk u t T'.heap (locs ++ L) e1.symm (by rw [← e2]; exact X'.warmed.alike) hp hb k1 k2 k3 T' rfl X'
    exact ⟨t2, st t2 a1, b1⟩
  · obtain ⟨k1, k2, k3⟩ := vx_keep h0 e1 hS hAX hf hL hF
    obtain ⟨t2, a1, b1⟩ := kx E ce q u t T'.heap (locs ++ L) e1.symm (by rw [← e2]; exact X'.warmed.alike) hp hb k1 k2 k3 (by rw [e1]; exact hce) hcv hcl T' rfl X'
    exact ⟨t2, st.trans a1, b1⟩
/-- caught by the row x of this method's table; the rows ahead don't take it -/
theorem vx_catch {own name : String} {E : String} {ce : Cell} {q : Addr} (hown : s.vm.findClass own = some m.cls) (pre : List ExceptionTableEntry) (x : ExceptionTableEntry) (suf : List ExceptionTableEntry) (hsplit : c.exceptionTable.toList = pre ++ x :: suf)
    (hpass : ∀ z ∈ pre, covers z pc = false ∨ (z.catchType ≠ 0 ∧ ∃ nm : String, (Cond.classLink own z.catchType nm).before args s = true ∧ va_Nc E nm s)) (hx : covers x pc = true) (h0 : x.catchType ≠ 0)
    (hlink : (Cond.classLink own x.catchType name).before args s = true) (hcast : (Cond.castable E name).before args s = true) (hcell : H[q]? = some ce) (hv : ce.vm = .none) (hcl : s.vm.findClass E = some ce.cls)
    (kk : W p l e R s m args below meth c H locs cells slots Q (F0 m x.handlerPc ls [.ref q])) : vx_W p l e R s m args below meth c H locs cells slots Q (F0 m pc ls rest) q := by
  intro T hT X
  have hpl : e.platform.magicAccessors = ({} : Platform).magicAccessors := by rw [X.admits.platform]
  obtain ⟨c3, c4, hc3, hc4, hasg⟩ := Cond.castable_spec hcast
  cases Option.some.inj (hc3.symm.trans hcl)
  obtain ⟨c5, hc5, hcl5⟩ := Cond.classLink_spec hown hlink e.platform hpl
  cases Option.some.inj (hc4.symm.trans hc5)
  obtain ⟨vm', X', st⟩ := X.thenCaughtThrough q (g := F0 m pc ls rest) rfl (Steps.refl _) (by rw [hT]; exact hcell) (by rw [hv]; rfl) (by obtain ⟨k9, h9, -⟩ := Vm.findClass_spec hcl; exact ⟨k9, h9⟩) pre x suf hsplit
    (fun z hz => by
      rcases hpass z hz with h | ⟨hz0, nm, hl1, hn1⟩
      · exact Or.inl h
      · obtain ⟨c6, hc6, hcl6⟩ := Cond.classLink_spec hown hl1 e.platform hpl
        obtain ⟨a8, b8, h1, h2, h3⟩ := hn1
        cases Option.some.inj (h1.symm.trans hcl)
        cases Option.some.inj (h2.symm.trans hc6)
        exact Or.inr ⟨hz0, _, hcl6, h3⟩) hx (Or.inr ⟨h0, c4, hcl5, hasg⟩)
  obtain ⟨t, a1, b1⟩ := kk (T.setVm vm') hT X'
  exact ⟨t, st.trans a1, b1⟩
end Rows
section Ends
variable {p : Program} {l : Launch} {e : Env} {R : Room} {s : State} {m : MethodId} {args : Array Value} {below : List Frame} {meth : Method} {c : Code} {H : Heap} {locs : List Loc} {cells slots : Nat} {Q : State → Prop}
variable {mc ms : Nat} {free : Addr → Prop} {A0 A1 : Nat → Prop} {H0 : Heap} {a : Array Value} {ls : Array Slot} {st0 rest : List Value}
variable {Qc : Array Value → State → Outcome → State → Prop} {XC : String → State → State → Prop}
/-- what a body that may throw owes at its end -/
def vx_MQ (below : List Frame) (Qc : Array Value → State → Outcome → State → Prop) (XC : String → State → State → Prop) (a : Array Value) (s : State) (mc ms : Nat) (free : Addr → Prop) : State → Prop := fun t =>
  ∃ o, t.status = .running ∧ Ended t below o ∧ vx_Q Qc XC mc ms free a s o t
theorem vx_ret {g : JFrame} {mc ms : Nat} (k : W p l e R s m args below meth c H locs cells slots (MQ below Qc args s mc ms free) g) : W p l e R s m args below meth c H locs cells slots (vx_MQ below Qc XC args s mc ms free) g := by
  intro T hT X
  obtain ⟨t, a1, o, b1, b2, b3, b4⟩ := k T hT X
  exact ⟨t, a1, o, b1, b2, Or.inl ⟨b3, b4⟩⟩
/-- not caught here: it goes on to the caller -/
theorem vx_widen {g : JFrame} {q : Addr} {k n : Nat} (h1 : cells ≤ k) (h2 : slots ≤ n) (kk : vx_W p l e R s m args below meth c H locs k n Q g q) : vx_W p l e R s m args below meth c H locs cells slots Q g q := fun T hT X => kk T hT (stand_widen X h1 h2)
theorem vx_out {pc : Nat} {E : String} {ce : Cell} {q : Addr} {mc ms : Nat} (hout : ∀ x ∈ c.exceptionTable.toList, covers x pc = false) (hlocks : meth.locks = false) (hcell : H[q]? = some ce) (hv : ce.vm = .none) (hcl : s.vm.findClass E = some ce.cls)
    (hx : ∀ t : State, t.heap = H → s.vm.Alike t.vm → XC E s t) (hf : ∀ z ∈ locs, free z.base) (hc : cells ≤ mc) (hs : slots ≤ ms) :
    vx_W p l e R s m args below meth c H locs cells slots (vx_MQ below Qc XC args s mc ms free) (F0 m pc ls rest) q := by
  intro T hT X
  obtain ⟨st1, hrun, hend, hW, hsm⟩ := X.leaveThrown q (g := F0 m pc ls rest) rfl rfl rfl hout hlocks
  have hcell9 : (T.setFrames (.throwing q :: below)).heap[q]? = some ce := by
    show T.heap[q]? = some ce
    rw [hT]; exact hcell
  exact ⟨_, st1, .threw q, hrun, hend, Or.inr ⟨q, rfl, E, ce, locs, hx _ hT hW.alike, hcell9, hv, hcl, hW, hsm.mono hc hs, hf⟩⟩
theorem vx_frame {U : State} {k n : Nat} (h : s.sameButNew ({ U with vm := s.vm } : State) locs k n) : s.heap.size ≤ U.heap.size ∧ ∀ q : Nat, q < s.heap.size → (∀ z ∈ locs, z.base ≠ q) → U.heap[q]? = s.heap[q]? := by
  obtain ⟨-, h2, -, -, -, h6⟩ := h
  refine ⟨h2, fun q hq hz => ?_⟩
  obtain ⟨c9, e1, e2, e3, e4⟩ := h6 q _ (Array.getElem?_eq_getElem hq)
  have hs : c9.slots = (s.heap[q]).slots := Array.ext_getElem? fun i => e4 i fun hm => hz _ hm rfl
  have h9 : c9 = s.heap[q] := by
    rw [hs] at e2
    exact e2
  have e5 : U.heap[q]? = some c9 := e1
  rw [e5, h9, Array.getElem?_eq_getElem hq]
/-- the words of a throw but the four that speak of the heap -/
def vx_no (w : Cond) : Bool := decide (w ≠ .isRef (.static Bundle.tN "UNASSIGNED_STACK" Bundle.steD)) && decide (w ≠ .isRef (.static Bundle.tN "SUPPRESSED_SENTINEL" Bundle.listD)) && decide (w ≠ .laysStatic Bundle.tN "UNASSIGNED_STACK" Bundle.steD) && decide (w ≠ .laysStatic Bundle.tN "SUPPRESSED_SENTINEL" Bundle.listD)
def vx_at0 (own : String) (ic : Nat) (X : String) (names : List String) : List Cond := (Bundle.ownAtoms0 own ic X names).filter vx_no
def vx_atS (own : String) (ic : Nat) (X : String) (names : List String) : List Cond := (Bundle.ownAtoms own ic X names).filter vx_no
/-- a word that the tables alone decide, or a good one -/
def vx_ot (w : Cond) : Bool := w.onTables || goodWord w
theorem vx_ot_at {args a' : Array Value} {s U : State} {w : Cond} (hW : s.WarmedH U.vm) (hvm : s.vm = U.vm) (hg : vx_ot w = true) (h : w.before args s = true) : w.before a' U = true := by
  simp only [vx_ot, Bool.or_eq_true] at hg
  rcases hg with hg | hg
  · exact va_tabs hg hvm h
  · exact word_at hW (good_of_word hg) h
/-- a list's words: the good ones out of the method's own list, the others by premises of their own -/
theorem vx_hat {args : Array Value} {s : State} {L B : List Cond} (h1 : ∀ w ∈ L.filter goodWord, w.before args s = true) (h2 : ∀ w ∈ L.filter (fun w => !goodWord w), w ∈ B) (h3 : ∀ w ∈ B, w.before args s = true) : ∀ w ∈ L, w.before args s = true := by
  intro w hw
  by_cases g : goodWord w = true
  · exact h1 w (List.mem_filter.mpr ⟨hw, g⟩)
  · refine h3 w (h2 w (List.mem_filter.mpr ⟨hw, ?_⟩))
    show (!goodWord w) = true
    cases hgw : goodWord w
    · rfl
    · exact absurd hgw g
theorem vx_c {args : Array Value} {s : State} {w : Cond} {B : List Cond} (h : w.before args s = true) (t : ∀ w ∈ B, w.before args s = true) : ∀ w' ∈ w :: B, w'.before args s = true := fun w' h' => (List.mem_cons.mp h').elim (fun e => by rw [e]; exact h) (t w')
theorem vx_n {args : Array Value} {s : State} : ∀ w ∈ ([] : List Cond), w.before args s = true := fun _ h => nomatch h
theorem vx_own {args : Array Value} {s : State} {L : List Cond} (h1 : ∀ w ∈ L.filter vx_no, w.before args s = true)
    (hU : (Cond.isRef (.static Bundle.tN "UNASSIGNED_STACK" Bundle.steD)).before args s = true) (hN : (Cond.isRef (.static Bundle.tN "SUPPRESSED_SENTINEL" Bundle.listD)).before args s = true)
    (lU : (Cond.laysStatic Bundle.tN "UNASSIGNED_STACK" Bundle.steD).before args s = true) (lN : (Cond.laysStatic Bundle.tN "SUPPRESSED_SENTINEL" Bundle.listD).before args s = true) : ∀ w ∈ L, w.before args s = true := by
  intro w hw
  by_cases e1 : w = .isRef (.static Bundle.tN "UNASSIGNED_STACK" Bundle.steD)
  · rw [e1]; exact hU
  · by_cases e2 : w = .isRef (.static Bundle.tN "SUPPRESSED_SENTINEL" Bundle.listD)
    · rw [e2]; exact hN
    · by_cases e3 : w = .laysStatic Bundle.tN "UNASSIGNED_STACK" Bundle.steD
      · rw [e3]; exact lU
      · by_cases e4 : w = .laysStatic Bundle.tN "SUPPRESSED_SENTINEL" Bundle.listD
        · rw [e4]; exact lN
        · exact h1 w (List.mem_filter.mpr ⟨hw, by unfold vx_no; rw [decide_eq_true e1, decide_eq_true e2, decide_eq_true e3, decide_eq_true e4]; rfl⟩)
/-- where a static field lies, its class's statics cell in H -/
def vx_L (C n d : String) (A : Nat → Prop) (U : State) (H : Heap) : Prop := ∃ (c : ClassId) (k : Class) (i : Nat) (f : Field) (a : Nat) (cell : Cell), U.vm.findClass C = some c ∧ U.fieldFound? C n d = some (c, k, i, f) ∧ f.isStatic = true ∧ k.statics = some a ∧ H[a]? = some cell ∧ cell.vm.isStatics = true ∧ cell.cls = c ∧ f.slot < cell.slots.size ∧ k.staticTypes[f.slot]? = some f.type ∧ ¬ A a
theorem vx_L.moved {C n d : String} {A : Nat → Prop} {u U : State} {H : Heap} (hvm : u.vm.Alike U.vm) (h : vx_L C n d A u H) : vx_L C n d A U H := by
  obtain ⟨c, k, i, f, a, cell, h1, h2, h3, h4, h5, h6, h7, h8, h9, h10⟩ := h
  obtain ⟨k', hi', he⟩ := State.fieldFound?_setVm hvm h2
  exact ⟨c, k', i, f, a, cell, by rw [hvm.findClass]; exact h1, hi', h3, by rw [he]; exact h4, h5, h6, h7, h8, by rw [he]; exact h9, h10⟩
theorem vx_L.kept {C n d : String} {A : Nat → Prop} {U : State} {H H1 : Heap} (h : vx_L C n d A U H) (hq : ∀ a : Nat, a < H.size → ¬ A a → H1[a]? = H[a]?) : vx_L C n d A U H1 := by
  obtain ⟨c, k, i, f, a, cell, h1, h2, h3, h4, h5, h6, h7, h8, h9, h10⟩ := h
  exact ⟨c, k, i, f, a, cell, h1, h2, h3, h4, by rw [hq a (Array.getElem?_eq_some_iff.mp h5).1 h10]; exact h5, h6, h7, h8, h9, h10⟩
theorem vx_L.narrow {C n d : String} {A B : Nat → Prop} {U : State} {H : Heap} (h : vx_L C n d A U H) (hAB : ∀ q, B q → A q) : vx_L C n d B U H := by
  obtain ⟨c, k, i, f, a, cell, h1, h2, h3, h4, h5, h6, h7, h8, h9, h10⟩ := h
  exact ⟨c, k, i, f, a, cell, h1, h2, h3, h4, h5, h6, h7, h8, h9, fun z => h10 (hAB _ z)⟩
theorem vx_L.word {C n d : String} {A : Nat → Prop} {s : State} {args : Array Value} (h : vx_L C n d A s s.heap) : (Cond.laysStatic C n d).before args s = true := by
  obtain ⟨c, k, i, f, a, cell, h1, h2, h3, h4, h5, h6, h7, h8, h9, -⟩ := h
  show (Cond.laysStatic C n d).holds args s none s [] = true
  exact Cond.laysStatic_of h1 h2 h3 h4 h5 h6 h7 h8 h9
/-- .. and what it holds: null or some reference -/
def vx_Zq (C n d : String) (A : Nat → Prop) (U : State) (H : Heap) : Prop := va_Zq C n d A U H ∧ vx_L C n d A U H
theorem vx_Zq.moved {C n d : String} {A : Nat → Prop} {u U : State} {H : Heap} (hvm : u.vm.Alike U.vm) (h : vx_Zq C n d A u H) : vx_Zq C n d A U H := ⟨va_Zq.moved hvm h.1, vx_L.moved hvm h.2⟩
theorem vx_Zq.kept {C n d : String} {A : Nat → Prop} {U : State} {H H1 : Heap} (h : vx_Zq C n d A U H) (hq : ∀ a : Nat, a < H.size → ¬ A a → H1[a]? = H[a]?) : vx_Zq C n d A U H1 := ⟨va_Zq.kept h.1 hq, vx_L.kept h.2 hq⟩
theorem vx_Zq.narrow {C n d : String} {A B : Nat → Prop} {U : State} {H : Heap} (h : vx_Zq C n d A U H) (hAB : ∀ q, B q → A q) : vx_Zq C n d B U H := ⟨va_Zq.narrow h.1 hAB, vx_L.narrow h.2 hAB⟩
theorem vx_Zqof {args : Array Value} {s : State} {C n d : String} {A : Nat → Prop} (hl : (Cond.laysStatic C n d).before args s = true) (hini : (Cond.initialized C).before args s = true) (h : (Cond.isRef (.static C n d)).before args s = true) (hA : ∀ a : Nat, a < s.heap.size → ¬ A a) : vx_Zq C n d A s s.heap := by
  refine ⟨va_Zqof hl hini h hA, ?_⟩
  obtain ⟨c, k, i, f, a, cell, h1, h2, h3, h4, h5, h6, h7, h8, h9⟩ := Cond.laysStatic_spec hl
  exact ⟨c, k, i, f, a, cell, h1, h2, h3, h4, h5, h6, h7, h8, h9, hA a (Array.getElem?_eq_some_iff.mp h5).1⟩
theorem vx_isRef {C n d : String} {v : Value} {A : Nat → Prop} {s : State} {args : Array Value} (h : va_Z C n d v A s s.heap) (hv : v.isRef = true) : (Cond.isRef (.static C n d)).before args s = true := by
  obtain ⟨cf, kf, fi, f, a, cell, h1, h2, h3, h4, h5, h6, h7, -⟩ := h
  have he : (Term.static C n d).eval args s none [] s = some v := by
    simp [Term.eval, State.fieldNamed?, h1, h2, h4, h5, h6, h7]
  simp only [Cond.before, Cond.holds, Cond.value, he]
  cases v <;> simp_all [Value.isRef]
theorem vx_isRefq {C n d : String} {A : Nat → Prop} {s : State} {args : Array Value} (h : va_Zq C n d A s s.heap) : (Cond.isRef (.static C n d)).before args s = true := by
  rcases h with h | ⟨t, h⟩
  · exact vx_isRef h rfl
  · exact vx_isRef h rfl
/-- the same frame, seen from here: as if the method were called anew in this heap -/
theorem vx_rebase {T : State} (X : Stand p l e R s m args below meth c T locs cells slots) {R' : Room} (hf : R'.frames ≤ R.frames) (hl : R'.locals ≤ R.locals) (hc : cells + R'.cells ≤ R.cells) (hs : slots + R'.slots ≤ R.slots) :
    Stand p l e R' ((T.setVm s.vm).setFrames (.invoking m args :: below)) m args below meth c T [] 0 0 := by
  have htop : (T.setVm s.vm).topJava?.isSome := X.here.top
  have hF : ((T.setVm s.vm).setFrames (.invoking m args :: below)).frames = .invoking m args :: below := State.frames_setFrames _ (State.cur_lt_of_top htop)
  obtain ⟨g₀, hg0⟩ := Option.isSome_iff_exists.mp htop
  obtain ⟨r, hr⟩ := State.topJava?_eq_some.mp hg0
  have hl9 : e.platform.stackLimits (T.setVm s.vm).me = e.platform.stackLimits s.me := X.limits
  have hb9 : (T.setVm s.vm).me.stackBytes = s.me.stackBytes := X.bytes
  refine ⟨X.admits, X.cas, X.clock, hF, ?_, X.hears, X.method, X.code, X.here, X.tail, X.warmed, ?_, ?_, ?_⟩
  · have h := X.room
    have hU : ((T.setVm s.vm).setFrames (.invoking m args :: below)).localsInUse = s.localsInUse := by
      rw [State.localsInUse_invoking hF (meth := meth) (c := c) X.method X.code, State.localsInUse_invoking X.frames X.method X.code]
    simp only [State.hasRoom, Bool.and_eq_true, decide_eq_true_eq] at h ⊢
    obtain ⟨⟨⟨⟨h1, h2, h3, h4, h5, h6⟩, h7⟩, h8⟩, h9⟩ := h
    rw [X.frames, List.length_cons] at h2 h3
    have q1 := X.heapSize
    have q2 := X.used
    simp only [hF, hU, List.length_cons, State.stackLimits_setFrames, State.stackBytes_setFrames, hl9, hb9]
    refine ⟨⟨⟨⟨by omega, by omega, by omega, by omega, by omega, h6⟩, ?_⟩, ?_⟩, X.book⟩
    · show T.heap.size + R'.cells ≤ e.platform.maxCells
      omega
    · show T.slotsUsed + R'.slots ≤ e.platform.maxSlots
      omega
  · rw [State.stackLimits_setFrames]; rfl
  · rw [State.stackBytes_setFrames]; rfl
  · refine ⟨?_, Nat.le_refl _, Nat.le_refl _, ?_, ?_, fun a c9 h9 => ⟨c9, h9, rfl, rfl, fun _ _ => rfl⟩⟩
    · obtain ⟨t, ht, -⟩ := State.frames_cons hr
      show T.setVm s.vm = { ((T.setVm s.vm).setFrames (.invoking m args :: below)).setFrames (T.setVm s.vm).frames with heap := T.heap, slotsUsed := T.slotsUsed }
      rw [State.setFrames_setFrames, State.setFrames_self ht]
      rfl
    · show T.slotsUsed = T.slotsUsed + ((T.heap.toList.drop T.heap.size).map (·.slots.size)).sum
      rw [List.drop_eq_nil_of_le (Nat.le_of_eq Array.length_toList)]
      rfl
    · show ((T.heap.toList.drop T.heap.size).map (·.slots.size)).sum ≤ 0
      rw [List.drop_eq_nil_of_le (Nat.le_of_eq Array.length_toList)]
      exact Nat.le_refl _
/-- 'throw new E()': new; dup; invokespecial; athrow -/
theorem vx_throw0 {cc : ByteArray} {pc : Nat} (hexec : p.tables.exec = Jvm.exec) (hb : c.code = cc) (hl : l.stackTraces = false) {own cls : String} {names : List String} {ik ic mc ms : Nat} {A : Nat → Prop}
    (hown : s.vm.findClass own = some m.cls) (hcls : Bundle.fit cls = true) (hnames : ∀ n ∈ names, Bundle.fit n = true)
    (hk : (Cond.classLink own ik cls).before args s = true) (hini : (Cond.initialized cls).before args s = true) (hat : ∀ w ∈ vx_at0 own ic cls names, w.before args s = true)
    (hgood : ∀ w ∈ Cond.classLink own ik cls :: Cond.initialized cls :: vx_at0 own ic cls names, vx_ot w = true)
    (hU : vx_Zq Bundle.tN "UNASSIGNED_STACK" Bundle.steD A s s.heap) (hN : vx_Zq Bundle.tN "SUPPRESSED_SENTINEL" Bundle.listD A s s.heap) (hS : va_S A s.heap H locs) (hsize : ls.size = c.maxLocals)
    (d0 : decode cc pc = .ok (.new ik, 3)) (d3 : decode cc (pc + 3) = .ok (.dup, 1)) (d4 : decode cc (pc + 4) = .ok (.invokespecial ic, 3)) (d7 : decode cc (pc + 7) = .ok (.athrow, 1))
    (hout : ∀ x ∈ c.exceptionTable.toList, covers x (pc + 7) = false)
    (hRframes : names.length + 3 < R.frames) (hRlocals : (rest.map fun v => v.category).sum + (13 * (names.length + 1) + 42) ≤ R.locals) (hRcells : cells + 1 ≤ R.cells) (hRslots : slots + 6 ≤ R.slots) (hlocks : meth.locks = false)
    (hx : ∀ t : State, s.vm.Alike t.vm → H.size ≤ t.heap.size → (∀ q : Nat, q < H.size → t.heap[q]? = H[q]?) → XC cls s t)
    (hf : ∀ z ∈ locs, free z.base) (hc : cells + 1 ≤ mc) (hs : slots + 6 ≤ ms) :
    W p l e R s m args below meth c H locs cells slots (vx_MQ below Qc XC args s mc ms free) (F0 m pc ls rest) := by
  intro T hT X
  have htr : e.platform.stackTraces = false := (show e.platform.stackTraces = l.stackTraces by rw [X.admits.platform]).trans hl
  have Y := vx_rebase X (R' := { frames := R.frames, locals := R.locals, cells := 1, slots := 6 }) (Nat.le_refl _) (Nat.le_refl _) hRcells hRslots
  obtain ⟨s', hA⟩ : ∃ z, z = (T.setVm s.vm).setFrames (.invoking m args :: below) := ⟨_, rfl⟩
  rw [← hA] at Y
  have hvm : s'.vm = s.vm := by rw [hA]; rfl
  have hhp : s'.heap = H := by rw [hA]; exact hT
  have hW0 : s.WarmedH s'.vm := by rw [hvm]; exact State.WarmedH.refl s
  have hat' : ∀ w ∈ vx_at0 own ic cls names, w.before args s' = true := fun w hw => vx_ot_at hW0 hvm.symm (hgood w (List.mem_cons_of_mem _ (List.mem_cons_of_mem _ hw))) (hat w hw)
  have hk' : (Cond.classLink own ik cls).before args s' = true := vx_ot_at hW0 hvm.symm (hgood _ List.mem_cons_self) hk
  have hini' : (Cond.initialized cls).before args s' = true := vx_ot_at hW0 hvm.symm (hgood _ (List.mem_cons_of_mem _ List.mem_cons_self)) hini
  have hU' : vx_Zq Bundle.tN "UNASSIGNED_STACK" Bundle.steD A s' s'.heap := by rw [hhp]; exact vx_Zq.moved hW0.alike (hU.kept hS.2.1)
  have hN' : vx_Zq Bundle.tN "SUPPRESSED_SENTINEL" Bundle.listD A s' s'.heap := by rw [hhp]; exact vx_Zq.moved hW0.alike (hN.kept hS.2.1)
  have h : ∀ w ∈ Bundle.ownAtoms0 own ic cls names, w.before args s' = true := vx_own hat' (vx_isRefq hU'.1) (vx_isRefq hN'.1) hU'.2.word hN'.2.word
  have hown' : s'.vm.findClass own = some m.cls := by rw [hvm]; exact hown
  have hins : (Cond.instantiable cls 6).before args s' = true := h _ (by simp [Bundle.ownAtoms0])
  obtain ⟨vm₁, cX, kX, hfX, hkX, -, -, X₁, st1⟩ := Y.newCold hexec (own := own) (C := cls) (index := ik) (n := 6) hown' hk' hins hini'
    (g := F0 m pc ls rest) rfl (by rw [hb]; exact d0) (Nat.le_refl _) (Nat.le_refl _)
  generalize hT1 : (T.setVm vm₁).pushCell { cls := cX, slots := kX.instanceTypes.map defaultValue, vm := .none } = T1 at X₁ st1
  have hcat : (Value.ref T.heap.size).category = 1 := rfl
  have hcellA : T1.heap[T.heap.size]? = some (freshCell cX kX) := by rw [← hT1]; exact State.heap_pushCell_size _ _
  have d3' : decode c.code (pc + 3) = .ok (.dup, 1) := by rw [hb]; exact d3
  obtain ⟨U, hsteps, hrun, hend, hW, hsame, ce, hce, hO⟩ := X₁.ctorThrow0 hexec htr (own := own) (cls := cls) (names := names) (ic := ic) hown' hcls hnames h (fun x hx => nomatch hx) hfX hkX hcellA (by rw [hhp, hT]; exact Nat.le_refl _)
    (g := { method := m, pc := pc + 4, locals := ls, stack := .ref T.heap.size :: .ref T.heap.size :: rest, locked := none }) rfl hsize rfl rfl (rest := rest) rfl
    (by rw [hb]; exact d4) (by rw [hb]; exact d7) hout hRframes (by simp only [List.map_cons, List.sum_cons, hcat]; omega) hlocks
  obtain ⟨f1, f2⟩ := vx_frame hsame
  rw [hhp] at f1 f2
  have hWs : s.WarmedH U.vm := State.WarmedH.trans hW0 hW
  have hcl : s.vm.findClass cls = some ce.cls := by
    have h9 := hO.cls
    rw [hvm] at h9
    exact h9
  have hall : s.sameButNew ({ U with vm := s.vm } : State) locs mc ms := by
    subst hA
    obtain ⟨e1, e2⟩ := hsame
    rw [State.setFrames_setFrames] at e1
    have h2 : (T.setVm s.vm).sameButNew ({ U with vm := s.vm } : State) [] (0 + 1) (0 + 6) := ⟨e1, e2⟩
    have h3 := X.same.trans h2
    rw [List.append_nil] at h3
    exact h3.mono hc hs
  refine ⟨U, ?_, .threw T.heap.size, hrun, hend, Or.inr ⟨T.heap.size, rfl, cls, ce, locs, hx U hWs.alike f1 (fun q hq => f2 q hq (fun z hz => nomatch hz)), hce, hO.vm, hcl, hWs, hall, hf⟩⟩
  refine st1 _ ?_
  show Steps p.tables e below (T1.setTop { method := m, pc := pc + 3, locals := ls, stack := .ref T.heap.size :: rest, locked := none }) _
  jvm_step X₁.here [X₁.here.top, hexec, d3', Value.category]
  exact hsteps
/-- 'throw new E("text")': new; dup; ldc; invokespecial; athrow -/
theorem vx_throwS {cc : ByteArray} {pc : Nat} (hexec : p.tables.exec = Jvm.exec) (hb : c.code = cc) (hl : l.stackTraces = false) {own cls text : String} {names : List String} {ik is ic mc ms sa : Nat} {A : Nat → Prop}
    (hown : s.vm.findClass own = some m.cls) (hcls : Bundle.fit cls = true) (hnames : ∀ n ∈ names, Bundle.fit n = true)
    (hk : (Cond.classLink own ik cls).before args s = true) (hini : (Cond.initialized cls).before args s = true) (hstr : vk_R own is text sa s) (hat : ∀ w ∈ vx_atS own ic cls names, w.before args s = true)
    (hgood : ∀ w ∈ Cond.classLink own ik cls :: Cond.initialized cls :: vx_atS own ic cls names, vx_ot w = true)
    (hU : vx_Zq Bundle.tN "UNASSIGNED_STACK" Bundle.steD A s s.heap) (hN : vx_Zq Bundle.tN "SUPPRESSED_SENTINEL" Bundle.listD A s s.heap) (hS : va_S A s.heap H locs) (hsize : ls.size = c.maxLocals)
    (d0 : decode cc pc = .ok (.new ik, 3)) (d3 : decode cc (pc + 3) = .ok (.dup, 1)) (d4 : decode cc (pc + 4) = .ok (.ldc is, 2)) (d6 : decode cc (pc + 6) = .ok (.invokespecial ic, 3)) (d9 : decode cc (pc + 9) = .ok (.athrow, 1))
    (hout : ∀ x ∈ c.exceptionTable.toList, covers x (pc + 9) = false)
    (hRframes : names.length + 3 < R.frames) (hRlocals : (rest.map fun v => v.category).sum + (13 * (names.length + 1) + 43) ≤ R.locals) (hRcells : cells + 1 ≤ R.cells) (hRslots : slots + 6 ≤ R.slots) (hlocks : meth.locks = false)
    (hx : ∀ t : State, s.vm.Alike t.vm → H.size ≤ t.heap.size → (∀ q : Nat, q < H.size → t.heap[q]? = H[q]?) → XC cls s t)
    (hf : ∀ z ∈ locs, free z.base) (hc : cells + 1 ≤ mc) (hs : slots + 6 ≤ ms) :
    W p l e R s m args below meth c H locs cells slots (vx_MQ below Qc XC args s mc ms free) (F0 m pc ls rest) := by
  intro T hT X
  have htr : e.platform.stackTraces = false := (show e.platform.stackTraces = l.stackTraces by rw [X.admits.platform]).trans hl
  have Y := vx_rebase X (R' := { frames := R.frames, locals := R.locals, cells := 1, slots := 6 }) (Nat.le_refl _) (Nat.le_refl _) hRcells hRslots
  obtain ⟨s', hA⟩ : ∃ z, z = (T.setVm s.vm).setFrames (.invoking m args :: below) := ⟨_, rfl⟩
  rw [← hA] at Y
  have hvm : s'.vm = s.vm := by rw [hA]; rfl
  have hhp : s'.heap = H := by rw [hA]; exact hT
  have hW0 : s.WarmedH s'.vm := by rw [hvm]; exact State.WarmedH.refl s
  have hat' : ∀ w ∈ vx_atS own ic cls names, w.before args s' = true := fun w hw => vx_ot_at hW0 hvm.symm (hgood w (List.mem_cons_of_mem _ (List.mem_cons_of_mem _ hw))) (hat w hw)
  have hk' : (Cond.classLink own ik cls).before args s' = true := vx_ot_at hW0 hvm.symm (hgood _ List.mem_cons_self) hk
  have hini' : (Cond.initialized cls).before args s' = true := vx_ot_at hW0 hvm.symm (hgood _ (List.mem_cons_of_mem _ List.mem_cons_self)) hini
  have hU' : vx_Zq Bundle.tN "UNASSIGNED_STACK" Bundle.steD A s' s'.heap := by rw [hhp]; exact vx_Zq.moved hW0.alike (hU.kept hS.2.1)
  have hN' : vx_Zq Bundle.tN "SUPPRESSED_SENTINEL" Bundle.listD A s' s'.heap := by rw [hhp]; exact vx_Zq.moved hW0.alike (hN.kept hS.2.1)
  have h : ∀ w ∈ Bundle.ownAtoms own ic cls names, w.before args s' = true := vx_own hat' (vx_isRefq hU'.1) (vx_isRefq hN'.1) hU'.2.word hN'.2.word
  have hown' : s'.vm.findClass own = some m.cls := by rw [hvm]; exact hown
  have hins : (Cond.instantiable cls 6).before args s' = true := h _ (by simp [Bundle.ownAtoms])
  obtain ⟨vm₁, cX, kX, hfX, hkX, -, -, X₁, st1⟩ := Y.newCold hexec (own := own) (C := cls) (index := ik) (n := 6) hown' hk' hins hini'
    (g := F0 m pc ls rest) rfl (by rw [hb]; exact d0) (Nat.le_refl _) (Nat.le_refl _)
  generalize hT1 : (T.setVm vm₁).pushCell { cls := cX, slots := kX.instanceTypes.map defaultValue, vm := .none } = T1 at X₁ st1
  have hcat : (Value.ref T.heap.size).category = 1 := rfl
  have hcellA : T1.heap[T.heap.size]? = some (freshCell cX kX) := by rw [← hT1]; exact State.heap_pushCell_size _ _
  have d3' : decode c.code (pc + 3) = .ok (.dup, 1) := by rw [hb]; exact d3
  have d4' : decode c.code (pc + 4) = .ok (.ldc is, 2) := by rw [hb]; exact d4
  have hstr' : vk_R own is text sa s' := vk_R.warm hW0 hstr
  obtain ⟨U, hsteps, hrun, hend, hW, hsame, ce, hce, hO⟩ := X₁.ctorThrowS hexec htr (own := own) (cls := cls) (names := names) (ic := ic) hown' hcls hnames h (fun x hx => nomatch hx) hfX hkX hcellA (by rw [hhp, hT]; exact Nat.le_refl _) (msg := .ref sa) rfl
    (g := { method := m, pc := pc + 6, locals := ls, stack := .ref sa :: .ref T.heap.size :: .ref T.heap.size :: rest, locked := none }) rfl hsize rfl rfl (rest := rest) rfl
    (by rw [hb]; exact d6) (by rw [hb]; exact d9) hout hRframes (by simp only [List.map_cons, List.sum_cons, hcat]; omega) hlocks
  obtain ⟨f1, f2⟩ := vx_frame hsame
  rw [hhp] at f1 f2
  have hWs : s.WarmedH U.vm := State.WarmedH.trans hW0 hW
  have hcl : s.vm.findClass cls = some ce.cls := by
    have h9 := hO.cls
    rw [hvm] at h9
    exact h9
  have hall : s.sameButNew ({ U with vm := s.vm } : State) locs mc ms := by
    subst hA
    obtain ⟨e1, e2⟩ := hsame
    rw [State.setFrames_setFrames] at e1
    have h2 : (T.setVm s.vm).sameButNew ({ U with vm := s.vm } : State) [] (0 + 1) (0 + 6) := ⟨e1, e2⟩
    have h3 := X.same.trans h2
    rw [List.append_nil] at h3
    exact h3.mono hc hs
  refine ⟨U, ?_, .threw T.heap.size, hrun, hend, Or.inr ⟨T.heap.size, rfl, cls, ce, locs, hx U hWs.alike f1 (fun q hq => f2 q hq (fun z hz => nomatch hz)), hce, hO.vm, hcl, hWs, hall, hf⟩⟩
  refine st1 _ ?_
  show Steps p.tables e below (T1.setTop { method := m, pc := pc + 3, locals := ls, stack := .ref T.heap.size :: rest, locked := none }) _
  jvm_step X₁.here [X₁.here.top, hexec, d3', Value.category]
  exact X₁.ldcString hexec (own := own) (text := text) (index := is) (a := sa) hown' hstr'.1 hstr'.2
    (g := { method := m, pc := pc + 4, locals := ls, stack := .ref T.heap.size :: .ref T.heap.size :: rest, locked := none }) rfl d4' _ hsteps
/-- 'throw new E("text")', the text by a wide index -/
theorem vx_throwSW {cc : ByteArray} {pc : Nat} (hexec : p.tables.exec = Jvm.exec) (hb : c.code = cc) (hl : l.stackTraces = false) {own cls text : String} {names : List String} {ik is ic mc ms sa : Nat} {A : Nat → Prop}
    (hown : s.vm.findClass own = some m.cls) (hcls : Bundle.fit cls = true) (hnames : ∀ n ∈ names, Bundle.fit n = true)
    (hk : (Cond.classLink own ik cls).before args s = true) (hini : (Cond.initialized cls).before args s = true) (hstr : vk_R own is text sa s) (hat : ∀ w ∈ vx_atS own ic cls names, w.before args s = true)
    (hgood : ∀ w ∈ Cond.classLink own ik cls :: Cond.initialized cls :: vx_atS own ic cls names, vx_ot w = true)
    (hU : vx_Zq Bundle.tN "UNASSIGNED_STACK" Bundle.steD A s s.heap) (hN : vx_Zq Bundle.tN "SUPPRESSED_SENTINEL" Bundle.listD A s s.heap) (hS : va_S A s.heap H locs) (hsize : ls.size = c.maxLocals)
    (d0 : decode cc pc = .ok (.new ik, 3)) (d3 : decode cc (pc + 3) = .ok (.dup, 1)) (d4 : decode cc (pc + 4) = .ok (.ldc_w is, 3)) (d7 : decode cc (pc + 7) = .ok (.invokespecial ic, 3)) (d10 : decode cc (pc + 10) = .ok (.athrow, 1))
    (hout : ∀ x ∈ c.exceptionTable.toList, covers x (pc + 10) = false)
    (hRframes : names.length + 3 < R.frames) (hRlocals : (rest.map fun v => v.category).sum + (13 * (names.length + 1) + 43) ≤ R.locals) (hRcells : cells + 1 ≤ R.cells) (hRslots : slots + 6 ≤ R.slots) (hlocks : meth.locks = false)
    (hx : ∀ t : State, s.vm.Alike t.vm → H.size ≤ t.heap.size → (∀ q : Nat, q < H.size → t.heap[q]? = H[q]?) → XC cls s t)
    (hf : ∀ z ∈ locs, free z.base) (hc : cells + 1 ≤ mc) (hs : slots + 6 ≤ ms) :
    W p l e R s m args below meth c H locs cells slots (vx_MQ below Qc XC args s mc ms free) (F0 m pc ls rest) := by
  intro T hT X
  have htr : e.platform.stackTraces = false := (show e.platform.stackTraces = l.stackTraces by rw [X.admits.platform]).trans hl
  have Y := vx_rebase X (R' := { frames := R.frames, locals := R.locals, cells := 1, slots := 6 }) (Nat.le_refl _) (Nat.le_refl _) hRcells hRslots
  obtain ⟨s', hA⟩ : ∃ z, z = (T.setVm s.vm).setFrames (.invoking m args :: below) := ⟨_, rfl⟩
  rw [← hA] at Y
  have hvm : s'.vm = s.vm := by rw [hA]; rfl
  have hhp : s'.heap = H := by rw [hA]; exact hT
  have hW0 : s.WarmedH s'.vm := by rw [hvm]; exact State.WarmedH.refl s
  have hat' : ∀ w ∈ vx_atS own ic cls names, w.before args s' = true := fun w hw => vx_ot_at hW0 hvm.symm (hgood w (List.mem_cons_of_mem _ (List.mem_cons_of_mem _ hw))) (hat w hw)
  have hk' : (Cond.classLink own ik cls).before args s' = true := vx_ot_at hW0 hvm.symm (hgood _ List.mem_cons_self) hk
  have hini' : (Cond.initialized cls).before args s' = true := vx_ot_at hW0 hvm.symm (hgood _ (List.mem_cons_of_mem _ List.mem_cons_self)) hini
  have hU' : vx_Zq Bundle.tN "UNASSIGNED_STACK" Bundle.steD A s' s'.heap := by rw [hhp]; exact vx_Zq.moved hW0.alike (hU.kept hS.2.1)
  have hN' : vx_Zq Bundle.tN "SUPPRESSED_SENTINEL" Bundle.listD A s' s'.heap := by rw [hhp]; exact vx_Zq.moved hW0.alike (hN.kept hS.2.1)
  have h : ∀ w ∈ Bundle.ownAtoms own ic cls names, w.before args s' = true := vx_own hat' (vx_isRefq hU'.1) (vx_isRefq hN'.1) hU'.2.word hN'.2.word
  have hown' : s'.vm.findClass own = some m.cls := by rw [hvm]; exact hown
  have hins : (Cond.instantiable cls 6).before args s' = true := h _ (by simp [Bundle.ownAtoms])
  obtain ⟨vm₁, cX, kX, hfX, hkX, -, -, X₁, st1⟩ := Y.newCold hexec (own := own) (C := cls) (index := ik) (n := 6) hown' hk' hins hini'
    (g := F0 m pc ls rest) rfl (by rw [hb]; exact d0) (Nat.le_refl _) (Nat.le_refl _)
  generalize hT1 : (T.setVm vm₁).pushCell { cls := cX, slots := kX.instanceTypes.map defaultValue, vm := .none } = T1 at X₁ st1
  have hcat : (Value.ref T.heap.size).category = 1 := rfl
  have hcellA : T1.heap[T.heap.size]? = some (freshCell cX kX) := by rw [← hT1]; exact State.heap_pushCell_size _ _
  have d3' : decode c.code (pc + 3) = .ok (.dup, 1) := by rw [hb]; exact d3
  have d4' : decode c.code (pc + 4) = .ok (.ldc_w is, 3) := by rw [hb]; exact d4
  have hstr' : vk_R own is text sa s' := vk_R.warm hW0 hstr
  obtain ⟨U, hsteps, hrun, hend, hW, hsame, ce, hce, hO⟩ := X₁.ctorThrowS hexec htr (own := own) (cls := cls) (names := names) (ic := ic) hown' hcls hnames h (fun x hx => nomatch hx) hfX hkX hcellA (by rw [hhp, hT]; exact Nat.le_refl _) (msg := .ref sa) rfl
    (g := { method := m, pc := pc + 7, locals := ls, stack := .ref sa :: .ref T.heap.size :: .ref T.heap.size :: rest, locked := none }) rfl hsize rfl rfl (rest := rest) rfl
    (by rw [hb]; exact d7) (by rw [hb]; exact d10) hout hRframes (by simp only [List.map_cons, List.sum_cons, hcat]; omega) hlocks
  obtain ⟨f1, f2⟩ := vx_frame hsame
  rw [hhp] at f1 f2
  have hWs : s.WarmedH U.vm := State.WarmedH.trans hW0 hW
  have hcl : s.vm.findClass cls = some ce.cls := by
    have h9 := hO.cls
    rw [hvm] at h9
    exact h9
  have hall : s.sameButNew ({ U with vm := s.vm } : State) locs mc ms := by
    subst hA
    obtain ⟨e1, e2⟩ := hsame
    rw [State.setFrames_setFrames] at e1
    have h2 : (T.setVm s.vm).sameButNew ({ U with vm := s.vm } : State) [] (0 + 1) (0 + 6) := ⟨e1, e2⟩
    have h3 := X.same.trans h2
    rw [List.append_nil] at h3
    exact h3.mono hc hs
  refine ⟨U, ?_, .threw T.heap.size, hrun, hend, Or.inr ⟨T.heap.size, rfl, cls, ce, locs, hx U hWs.alike f1 (fun q hq => f2 q hq (fun z hz => nomatch hz)), hce, hO.vm, hcl, hWs, hall, hf⟩⟩
  refine st1 _ ?_
  show Steps p.tables e below (T1.setTop { method := m, pc := pc + 3, locals := ls, stack := .ref T.heap.size :: rest, locked := none }) _
  jvm_step X₁.here [X₁.here.top, hexec, d3', Value.category]
  exact X₁.ldcStringW hexec (own := own) (text := text) (index := is) (a := sa) hown' hstr'.1 hstr'.2
    (g := { method := m, pc := pc + 4, locals := ls, stack := .ref T.heap.size :: .ref T.heap.size :: rest, locked := none }) rfl d4' _ hsteps
end Ends
section Bodies
variable {l : Launch}
theorem vx_ofW {y : MethodName} {ws ws' : List Cond} {rm : Room} {Pc : Array Value → State → Prop} {Qc : Array Value → State → Outcome → State → Prop} {XC : String → State → State → Prop} {mc ms : Nat} {free : Addr → Prop} {cc : ByteArray} {maxL : Nat} {ret : Option FieldType}
    (hy : plainName y.cls = true) (hw : ws = Cond.code y cc maxL ret :: ws')
    (body : ∀ p e s m args below meth c s₁, BodyLoose p l y (headSpec ws rm) cc maxL ret e s m args below meth c s₁ → c.maxLocals = maxL → (∀ x ∈ c.exceptionTable.toList, False) → Pc args s →
      W p l e (headSpec ws rm).room s m args below meth c s.heap [] 0 0 (vx_MQ below Qc XC args s mc ms free) (entryFrame m args maxL)) : vx_Met l y ws rm Pc Qc XC mc ms free := by
  refine MetFree.of_bodyS (code := cc) (maxLocals := maxL) (ret := ret) hy ?_ ?_
  · intro args s m h hn
    obtain ⟨meth, c, h1, h2, h3, h4, h5, h6, -, -⟩ := Cond.code_spec hn (atoms_spec (ws := ws) h _ (by rw [hw]; exact List.mem_cons_self))
    exact ⟨meth, c, h1, h2, h3, h4, h5, h6⟩
  · intro p e s m args below meth c s₁ B hml hP _
    have hh0 : s₁.heap = s.heap := by rw [B.state]; rfl
    have ht : ∀ x ∈ c.exceptionTable.toList, False := by
      obtain ⟨meth9, c9, h1, h2, -, -, -, -, h7, -⟩ := Cond.code_spec B.named (atoms_spec (ws := ws) B.pre _ (by rw [hw]; exact List.mem_cons_self))
      cases Option.some.inj (h1.symm.trans B.method)
      cases Option.some.inj (h2.symm.trans (Stand.of_body B).code)
      intro x hx
      rw [Array.isEmpty_iff.mp h7] at hx
      cases hx
    obtain ⟨t, a1, o, b1, b2, b3⟩ := body p e s m args below meth c s₁ B hml ht hP s₁ hh0 (Stand.of_body B)
    exact ⟨t, o, a1, b1, b2, b3⟩
/-- the table of a body with handlers -/
theorem vx_table {p : Program} {x y : MethodName} {S : Spec} {cc bytes : ByteArray} {maxL maxL' : Nat} {ret ret' : Option FieldType} {e : Env} {s s₁ : State} {m : MethodId} {args : Array Value} {below : List Frame} {meth : Method} {c : Code} {hh : List (Nat × Nat × Nat × Nat)}
    (B : BodyLoose p l y S cc maxL ret e s m args below meth c s₁) (h : (Cond.codeWith y bytes maxL' ret' hh).before args s = true) : c.exceptionTable.toList = tableOf hh := by
  obtain ⟨m9, meth9, c9, hn9, h1, h2, -, -, h6, -⟩ := Cond.codeWith_spec h
  cases Option.some.inj (hn9.symm.trans B.named)
  cases Option.some.inj (h1.symm.trans B.method)
  cases Option.some.inj (h2.symm.trans (Stand.of_body B).code)
  rw [← h6, table_eq]
end Bodies
end VXA
/-! ===== END ===== -/
/-! ===== BEGIN a static call of a method with an exception table ===== -/
section VXS
variable {p : Program} {l : Launch} {e : Env} {R : Room} {s : State} {m : MethodId} {args : Array Value} {below : List Frame} {meth : Method} {c : Code} {T : State} {H : Heap} {locs : List Loc} {cells slots : Nat}
abbrev vx_CSW (R : Room) (s : State) (args : Array Value) (own : String) (index : Nat) (y : MethodName) (bytes : ByteArray) (maxL : Nat) (ret : Option FieldType) (hh : List (Nat × Nat × Nat × Nat)) (ws : List Cond) (rm : Room) (mc ms n : Nat) : Prop :=
  (rm.cells = mc ∧ rm.slots = ms ∧ rm.frames + 1 ≤ R.frames ∧ 8 + (maxL + 11) + rm.locals ≤ R.locals ∧ (∀ w ∈ ws, ∀ (a' : Array Value) (U : State), s.WarmedH U.vm → w.before a' U = true) ∧ Cond.codeWith y bytes maxL ret hh ∈ ws) ∧
  (Cond.codeWith y bytes maxL ret hh).before args s = true ∧ (Cond.initialized y.cls).before args s = true ∧ (y.cls ≠ "java/lang/invoke/MethodHandle" ∧ y.cls ≠ "java/lang/invoke/VarHandle") ∧
  (∀ sig, parseMethodDescriptor y.desc = some sig → n = sig.parameters.length) ∧ (Cond.methodLink own index y).before args s = true ∧ (Cond.static y).before args s = true
theorem vx_cwSW {own : String} {index maxL mc ms : Nat} {y : MethodName} {bytes : ByteArray} {ret : Option FieldType} {hh : List (Nat × Nat × Nat × Nat)} {Ts ws ws' : List Cond} {rm : Room} (n : Nat) (ht : ∀ w ∈ Ts, w.before args s = true) (hT : GoodIn Ts (va_wsS own index y ws)) (hw : ws = Cond.codeWith y bytes maxL ret hh :: ws') (hrc : rm.cells = mc) (hrs : rm.slots = ms)
    (hd : y.cls ≠ "java/lang/invoke/MethodHandle" ∧ y.cls ≠ "java/lang/invoke/VarHandle" ∧ (parseMethodDescriptor y.desc).map (fun d => d.parameters.length) = some n) (hR : rm.frames + 1 ≤ R.frames ∧ 8 + (maxL + 11) + rm.locals ≤ R.locals) :
    vx_CSW R s args own index y bytes maxL ret hh ws rm mc ms n := by
  have ok : ∀ w ∈ va_wsS own index y ws, w.before args s = true := fun w h => ht w (hT w h).1
  have hG : GoodIn Ts ws := fun w h => hT w (by unfold va_wsS; exact List.mem_append_right _ h)
  have hc : Cond.codeWith y bytes maxL ret hh ∈ ws := by rw [hw]; exact List.mem_cons_self
  refine ⟨⟨hrc, hrs, hR.1, hR.2, pay_in ht hG, hc⟩, ht _ (hG _ hc).1, ok _ (by simp [va_wsS]), ⟨hd.1, hd.2.1⟩, fun sig h => ?_, ok _ (by simp [va_wsS]), ok _ (by simp [va_wsS])⟩
  have h2 := hd.2.2
  rw [h] at h2
  exact (Option.some.inj h2).symm
theorem vx_callSW (X : Stand p l e R s m args below meth c T locs cells slots) (hexec : p.tables.exec = Jvm.exec) {own : String} {index : Nat} {y : MethodName} {bytes : ByteArray} {maxL : Nat} {ret : Option FieldType} {hh : List (Nat × Nat × Nat × Nat)}
    (hown : s.vm.findClass own = some m.cls) (hlink : (Cond.methodLink own index y).before args s = true) (hstat : (Cond.static y).before args s = true) (hinit : (Cond.initialized y.cls).before args s = true)
    (hcode : (Cond.codeWith y bytes maxL ret hh).before args s = true) (hy : y.cls ≠ "java/lang/invoke/MethodHandle" ∧ y.cls ≠ "java/lang/invoke/VarHandle")
    {W9 : Nat} {Pre : Pt → Array Value → Prop} {Post : Pt → Array Value → Option Value → Pt → Prop} (hK : Back l R p e below s args y 3 W9 Pre Post)
    {g : JFrame} (hg : g.method = m) (hsize : g.locals.size = c.maxLocals) {argsL rest : List Value} (hlen : ∀ sig, parseMethodDescriptor y.desc = some sig → argsL.length = sig.parameters.length)
    (hstack : g.stack = argsL.reverse ++ rest) (hW : 2 * g.monitorRoom + (rest.map fun v => v.category).sum ≤ W9) (hdg : decode c.code g.pc = .ok (.invokestatic index, 3))
    (hpre : ∀ vm₁, s.WarmedH vm₁ → Pre ⟨T.setVm vm₁, locs, cells, slots⟩ argsL.toArray) :
    ∃ (v : Option Value) (vm₁ : Vm) (B : Pt), s.WarmedH vm₁ ∧ Stand p l e R s m args below meth c B.U B.locs B.cells B.slots ∧ Post ⟨T.setVm vm₁, locs, cells, slots⟩ argsL.toArray v B ∧
      ∀ target, Steps p.tables e below (B.U.setTop { g with pc := g.pc + 3, stack := v.toList ++ rest }) target → Steps p.tables e below (T.setTop g) target := by
  obtain ⟨mk, methM, cM, hnamed, hmethM, -, -, -, -, -, -, hsigM⟩ := Cond.codeWith_spec hcode
  have hstatic : methM.isStatic = true := Cond.static_spec hnamed hmethM hstat
  obtain ⟨kP, hkP, -⟩ := className_of_methodNamed hnamed
  have hinitP : kP.init = .initialized := Cond.initialized_spec (findClass_of_methodNamed hnamed) hkP hinit
  obtain ⟨vm₁, X₁, hstep₁⟩ := X.invokestatic hexec hown hlink hnamed hmethM hstatic hkP hinitP hy (g := g) hg (argsL := argsL) (rest := rest) (hlen _ hsigM) hstack hdg
  obtain ⟨v, B, X', hpost, hsteps⟩ := hK m meth c ⟨T.setVm vm₁, locs, cells, slots⟩ { g with stack := rest } (.invokestatic index) mk argsL.toArray X₁ hg hsize hdg hW (X₁.named hnamed) (hpre vm₁ X₁.warmed)
  exact ⟨v, vm₁, B, X₁.warmed, X', hpost, fun target h => hstep₁ _ fun acts => by rw [doInvoke_state]; exact hsteps.trans h⟩
theorem vx_runSW {y : MethodName} {bytes cc : ByteArray} {maxL nL mc ms n index : Nat} {ret : Option FieldType} {hh : List (Nat × Nat × Nat × Nat)} {ws : List Cond} {rm : Room} {Pc : Array Value → State → Prop} {Qc : Array Value → State → Outcome → State → Prop} {free : Addr → Prop} {Ts : List Cond} {own : String} {As rest : List Value} {g : JFrame}
    (S : CallFix p m c cc nL s args Ts own) (hM : Met l y ws rm Pc Qc mc ms free) (cw : vx_CSW R s args own index y bytes maxL ret hh ws rm mc ms n) (hp : PreS s H Pc As)
    (hg : g.method = m) (hn : As.length = n) (hsize : g.locals.size = nL) (hstack : g.stack = As.reverse ++ rest) (hW : 2 * g.monitorRoom + (rest.map fun v => v.category).sum ≤ 8) (hdg : decode cc g.pc = .ok (.invokestatic index, 3)) (hf : cells + mc ≤ R.cells ∧ slots + ms ≤ R.slots) :
    va_Run p l e R s m args below meth c H locs cells slots mc ms g rest (Qc As.toArray) (free) := by
  obtain ⟨⟨hrc, hrs, hfr, hlo, hws, hcw⟩, hcode, hini, hy, hlen, hl, hstt⟩ := cw
  have hK : Back l R p e below s args y 3 8 (PreOf R mc ms Pc) (PostOf Qc mc ms free) := va_backW (hh := hh) (bytes := bytes) (maxL := maxL) (ret := ret) hM hp.1 hrc hrs hfr hlo hws hcw (fun a' U hW => word_at hW (Or.inl (by first | rfl | simp [Cond.onTables, Cond.keeps, Cond.steady])) hini)
  obtain ⟨hx, hb, hml, ho, -⟩ := S
  intro T hT X
  obtain ⟨v, vm₁, ⟨U', l2, c2, s2⟩, hW₁, X', ⟨g', mk, t, L, e1, e2, hq, h1, hL, h2, h3⟩, st⟩ := vx_callSW X hx (hh := hh) (bytes := bytes) (maxL := maxL) (ret := ret) ho hl hstt hini hcode hy hK hg (hsize.trans hml.symm) (argsL := As) (rest := rest) (fun sig h => hn.trans (hlen sig h)) hstack hW (by rw [hb]; exact hdg)
    (fun vm₁ hW₁ => ⟨hf.1, hf.2, hp.2 (T.setVm vm₁) hT hW₁⟩)
  dsimp only [Pt.U, Pt.locs, Pt.cells, Pt.slots] at X' e1 e2 h1 h2 h3 st
  subst h1; subst h2; subst h3
  exact ⟨v, (T.setVm vm₁).calling g' mk As.toArray, t, U', L, hT, X', hL, e1, e2, hq, st⟩
/-- not caught here, past rows that name other classes: it goes on to the caller -/
theorem vx_outP {p : Program} {l : Launch} {e : Env} {R : Room} {s : State} {m : MethodId} {args : Array Value} {below : List Frame} {meth : Method} {c : Code} {H : Heap} {locs : List Loc} {cells slots : Nat} {free : Addr → Prop} {ls : Array Slot} {rest : List Value} {Qc : Array Value → State → Outcome → State → Prop} {XC : String → State → State → Prop}
    {pc : Nat} {own E : String} {ce : Cell} {q : Addr} {mc ms : Nat} (hown : s.vm.findClass own = some m.cls) (hlocks : meth.locks = false)
    (hpass : ∀ z ∈ c.exceptionTable.toList, covers z pc = false ∨ (z.catchType ≠ 0 ∧ ∃ nm : String, (Cond.classLink own z.catchType nm).before args s = true ∧ va_Nc E nm s)) (hcell : H[q]? = some ce) (hv : ce.vm = .none) (hcl : s.vm.findClass E = some ce.cls)
    (hx : ∀ t : State, t.heap = H → s.vm.Alike t.vm → XC E s t) (hf : ∀ z ∈ locs, free z.base) (hc : cells ≤ mc) (hs : slots ≤ ms) :
    vx_W p l e R s m args below meth c H locs cells slots (vx_MQ below Qc XC args s mc ms free) (F0 m pc ls rest) q := by
  intro T hT X
  have hpl : e.platform.magicAccessors = ({} : Platform).magicAccessors := by rw [X.admits.platform]
  obtain ⟨vm', hW', X', st⟩ := X.outThrough hlocks q (g := F0 m pc ls rest) rfl rfl rfl (cell := ce) (by rw [hT]; exact hcell) (by rw [hv]; rfl)
    (by obtain ⟨k9, h9, -⟩ := Vm.findClass_spec hcl; exact ⟨k9, h9⟩) (fun z hz => by
      rcases hpass z hz with h | ⟨hz0, nm, hl1, hn1⟩
      · exact Or.inl h
      · obtain ⟨c6, hc6, hcl6⟩ := Cond.classLink_spec hown hl1 e.platform hpl
        obtain ⟨a8, b8, h1, h2, h3⟩ := hn1
        cases Option.some.inj (h1.symm.trans hcl)
        cases Option.some.inj (h2.symm.trans hc6)
        exact Or.inr ⟨hz0, _, hcl6, h3⟩)
  obtain ⟨g₀, hfr⟩ := X'.frames_eq
  have hcell9 : ((T.setVm vm').setFrames (.throwing q :: below)).heap[q]? = some ce := by
    show T.heap[q]? = some ce
    rw [hT]; exact hcell
  have hend : Ended ((T.setVm vm').setFrames (.throwing q :: below)) below (.threw q) := State.frames_setFrames _ (State.cur_lt_of_frames hfr)
  refine ⟨(T.setVm vm').setFrames (.throwing q :: below), ?_, .threw q, X'.here.running, hend, Or.inr ⟨q, rfl, E, ce, locs, hx _ hT (X'.ends _).1.alike, hcell9, hv, hcl, (X'.ends _).1, (X'.ends _).2.mono hc hs, hf⟩⟩
  rw [X.pushThrowing_eq]
  exact st
/-- a thing of a world lies in the heap -/
theorem vx_lt {D : va_G} {cl : List vw_C} {ws : va_W} {H1 : Heap} (h : va_P D cl ws H1) {k : Nat} {q : Nat × va_E} (hk : ws[k]? = some q) : q.1 < H1.size := (h k q hk).lt
end VXS
/-! ===== END ===== -/
/-! ===== BEGIN methods with a table of their own: called by a name, returning or throwing ===== -/
section VXH
/-! vx_backW, vx_callVX, vx_callSX, vx_callVW, vx_runVW, vx_runVX, vx_runSX, vx_ofWH follow the same proofs as their sisters above (Free/Laws.lean, Shelf42/LK1.lean); vx_outP calls Shelf42/NT130.lean (outThrough). -/
section
variable {l : Launch} {R : Room} {p : Program} {e : Env} {below : List Frame} {s : State} {sargs : Array Value} {y : MethodName} {len W9 : Nat}
theorem vx_backW {ws : List Cond} {rm : Room} {Pc : Array Value → State → Prop} {Qc : Array Value → State → Outcome → State → Prop} {XC : String → State → State → Prop} {mc ms : Nat} {free : Addr → Prop} {bytes : ByteArray} {maxL : Nat} {ret : Option FieldType} {hh : List (Nat × Nat × Nat × Nat)}
    (hM : vx_Met l y ws rm Pc Qc XC mc ms free) (hblind : FrameBlind Pc) (hrc : rm.cells = mc) (hrs : rm.slots = ms)
    (hframes : rm.frames + 1 ≤ R.frames) (hlocals : W9 + (maxL + 11) + rm.locals ≤ R.locals)
    (hws : ∀ w ∈ ws, ∀ a' U, s.WarmedH U.vm → w.before a' U = true) (hcode : Cond.codeWith y bytes maxL ret hh ∈ ws) (hinit : ∀ a' U, s.WarmedH U.vm → (Cond.initialized y.cls).before a' U = true) :
    vx_Back l R p e below s sargs y len W9 (PreOf R mc ms Pc) (PostOf Qc mc ms free) (vx_Post XC mc ms free) := by
  intro m meth c A g ig mk a X hg hsize hdg hW hn hp
  have h1 : (headSpec ws rm).pre.before a A.U = true := atoms_intro fun w hw => hws w hw _ _ X.warmed
  have h2 : (Cond.codeWith y bytes maxL ret hh).before a A.U = true := hws _ hcode _ _ X.warmed
  have h3 : (Cond.initialized y.cls).before a A.U = true := hinit _ _ X.warmed
  have h4 : A.cells + (headSpec ws rm).room.cells ≤ R.cells := by rw [show (headSpec ws rm).room.cells = mc from hrc]; exact hp.1
  have h5 : A.slots + (headSpec ws rm).room.slots ≤ R.slots := by rw [show (headSpec ws rm).room.slots = ms from hrs]; exact hp.2.1
  have hPc : Pc a (A.U.calling g mk a) := hblind _ _ _ _ hp.2.2
  obtain ⟨U, Ls, c0, s0⟩ := A
  dsimp only [Pt.U, Pt.locs, Pt.cells, Pt.slots] at h1 h2 h3 h4 h5 X hn hPc ⊢
  obtain ⟨m9, methY, cY, hn9, hmY, hcY, -, hlY, -⟩ := Cond.codeWith_spec h2
  cases Option.some.inj (hn9.symm.trans hn)
  obtain ⟨kY, hkY, -⟩ := className_of_methodNamed hn
  have hinitY : kY.init = .initialized := Cond.initialized_spec (findClass_of_methodNamed hn) hkY h3
  have h : At U g.method c below := by rw [hg]; exact X.here
  have hlocals9 : W9 + (maxL + 11) + (headSpec ws rm).room.locals ≤ R.locals := hlocals
  have happ : (headSpec ws rm).appliesLoose y e.platform (U.calling g mk a) = true :=
    Spec.appliesLoose_calling (g := g) h hdg hn hkY hinitY
      (X.room_calling (g := g) (R' := (headSpec ws rm).room) hsize hmY hcY hframes (by rw [hlY]; omega) h4 h5) h1
  obtain ⟨mid, hmid⟩ := h.above
  have hfr : (U.setTop g).frames = (.java g :: mid) ++ below := by rw [State.frames_setTop' g h.top, hmid]; rfl
  obtain ⟨o, s₂, hsteps, -, hend, hq⟩ := Steps.callFree hM p X.admits X.cas X.clock (acts := []) hfr happ hPc trivial
  have hq' : vx_Q Qc XC mc ms free a (U.calling g mk a) o s₂ := hq
  rw [State.frames_setTop' g h.top] at hend
  obtain ⟨g₀, hg0⟩ := Option.isSome_iff_exists.mp h.top
  obtain ⟨r, hr⟩ := State.topJava?_eq_some.mp hg0
  have hr' : (({ U with heap := s₂.heap, slotsUsed := s₂.slotsUsed } : State).setVm s₂.vm).frames = .java g₀ :: r := hr
  rcases hq' with ⟨hqc, L, hfe, hL⟩ | ⟨q, rfl, E, ce, L, hx, hce, hcv, hcl, hW₂, hsm, hL⟩
  · obtain ⟨⟨v, rfl⟩, hW₂, e2, q2, q3, q4, q5, q6⟩ := id hfe
    have e3 : s₂ = ({ (U.calling g mk a).setFrames s₂.frames with heap := s₂.heap, slotsUsed := s₂.slotsUsed } : State).setVm s₂.vm := by
      have : s₂ = ({ s₂ with vm := (U.calling g mk a).vm } : State).setVm s₂.vm := rfl
      rw [e2] at this
      exact this
    obtain ⟨c₂, i₂, len₂, hc₂, hd₂, hf₂⟩ := hend
    have hW' : U.WarmedH s₂.vm := hW₂
    have hcc : c₂ = c := by
      have h1 : s₂.code? g.method = U.code? g.method := by
        rw [State.code?_eq, State.code?_eq, hW'.alike.method?]
      exact Option.some.inj (hc₂.symm.trans (h1.trans h.code))
    subst hcc
    have hlen : len₂ = len := by rw [hdg] at hd₂; cases hd₂; rfl
    subst hlen
    have hs₂ : s₂ = (({ U with heap := s₂.heap, slotsUsed := s₂.slotsUsed } : State).setVm s₂.vm).setTop { g with pc := g.pc + len₂, stack := v.toList ++ g.stack } := by
      refine e3.trans ?_
      rw [hf₂, State.calling_eq h.top, State.setFrames_setFrames, State.setTop_of_frames _ hr', hr]
      rfl
    have hsame : U.sameButNew ({ U with heap := s₂.heap, slotsUsed := s₂.slotsUsed } : State) L mc ms := by
      refine ⟨?_, q2, q3, q4, q5, q6⟩
      obtain ⟨t, ht, -⟩ := State.frames_cons hr
      show ({ U with heap := s₂.heap, slotsUsed := s₂.slotsUsed } : State) = { U.setFrames U.frames with heap := s₂.heap, slotsUsed := s₂.slotsUsed }
      rw [State.setFrames_self ht]
    subst hg
    refine Or.inl ⟨v, ⟨(({ U with heap := s₂.heap, slotsUsed := s₂.slotsUsed } : State).setVm s₂.vm), Ls ++ L, c0 + mc, s0 + ms⟩,
      ⟨X.admits, X.cas, X.clock, X.frames, X.room, X.hears, X.method, X.code, (X.here.setHeapUsed s₂.heap s₂.slotsUsed).setVm hW'.alike, X.tail, State.WarmedH.trans X.warmed hW', X.limits, X.bytes, X.same.trans (hsame.setVm s.vm)⟩,
      ⟨g, mk, s₂, L, rfl, rfl, hqc, rfl, hL, rfl, rfl⟩, ?_⟩
    show Steps p.tables e below _ ((({ U with heap := s₂.heap, slotsUsed := s₂.slotsUsed } : State).setVm s₂.vm).setTop { g with pc := g.pc + len₂, stack := v.toList ++ g.stack })
    rw [← hs₂]
    exact hsteps
  · obtain ⟨e2, q2, q3, q4, q5, q6⟩ := id hsm
    have e3 : s₂ = ({ (U.calling g mk a).setFrames s₂.frames with heap := s₂.heap, slotsUsed := s₂.slotsUsed } : State).setVm s₂.vm := by
      have : s₂ = ({ s₂ with vm := (U.calling g mk a).vm } : State).setVm s₂.vm := rfl
      rw [e2] at this
      exact this
    have hf₂ : s₂.frames = .throwing q :: .java g :: U.frames.tail := hend
    have hW' : U.WarmedH s₂.vm := hW₂
    have hs₂ : s₂ = ((({ U with heap := s₂.heap, slotsUsed := s₂.slotsUsed } : State).setVm s₂.vm).setTop g).pushFrame (.throwing q) := by
      refine e3.trans ?_
      rw [hf₂, State.calling_eq h.top, State.setFrames_setFrames, State.pushFrame, State.frames_setTop _ hr', State.setTop_of_frames _ hr', State.setFrames_setFrames, hr]
      rfl
    have hsame : U.sameButNew ({ U with heap := s₂.heap, slotsUsed := s₂.slotsUsed } : State) L mc ms := by
      refine ⟨?_, q2, q3, q4, q5, q6⟩
      obtain ⟨t, ht, -⟩ := State.frames_cons hr
      show ({ U with heap := s₂.heap, slotsUsed := s₂.slotsUsed } : State) = { U.setFrames U.frames with heap := s₂.heap, slotsUsed := s₂.slotsUsed }
      rw [State.setFrames_self ht]
    subst hg
    refine Or.inr ⟨q, ⟨(({ U with heap := s₂.heap, slotsUsed := s₂.slotsUsed } : State).setVm s₂.vm), Ls ++ L, c0 + mc, s0 + ms⟩,
      ⟨X.admits, X.cas, X.clock, X.frames, X.room, X.hears, X.method, X.code, (X.here.setHeapUsed s₂.heap s₂.slotsUsed).setVm hW'.alike, X.tail, State.WarmedH.trans X.warmed hW', X.limits, X.bytes, X.same.trans (hsame.setVm s.vm)⟩,
      ⟨g, mk, s₂, L, E, ce, rfl, rfl, hx, hce, hcv, hcl, rfl, hL, rfl, rfl⟩, ?_⟩
    show Steps p.tables e below _ (((({ U with heap := s₂.heap, slotsUsed := s₂.slotsUsed } : State).setVm s₂.vm).setTop g).pushFrame (.throwing q))
    rw [← hs₂]
    exact hsteps
end
variable {p : Program} {l : Launch} {e : Env} {R : Room} {s : State} {m : MethodId} {args : Array Value} {below : List Frame} {meth : Method} {c : Code} {T : State} {H : Heap} {locs : List Loc} {cells slots : Nat}
theorem vx_callVX (X : Stand p l e R s m args below meth c T locs cells slots) (hexec : p.tables.exec = Jvm.exec) {own C : String} {index : Nat} {y : MethodName} {bytes : ByteArray} {maxL : Nat} {ret : Option FieldType} {hh : List (Nat × Nat × Nat × Nat)}
    (hown : s.vm.findClass own = some m.cls) (hlink : (Cond.methodLink own index y).before args s = true) (hinst : (Cond.instanceMethod y).before args s = true) (hsel : (Cond.selects C y y).before args s = true)
    (hcode : (Cond.codeWith y bytes maxL ret hh).before args s = true) (hy : y.cls ≠ "java/lang/invoke/MethodHandle" ∧ y.cls ≠ "java/lang/invoke/VarHandle")
    {W9 : Nat} {Pre : Pt → Array Value → Prop} {Post : Pt → Array Value → Option Value → Pt → Prop} {PostX : Pt → Array Value → Addr → Pt → Prop} (hK : vx_Back l R p e below s args y 3 W9 Pre Post PostX)
    {b : Addr} {cellB : Cell} (hcell : T.heap[b]? = some cellB) (hobj : cellB.vm.isStatics = false) (hcls : s.vm.findClass C = some cellB.cls)
    {g : JFrame} (hg : g.method = m) (hsize : g.locals.size = c.maxLocals) {argsL rest : List Value} (hlen : ∀ sig, parseMethodDescriptor y.desc = some sig → argsL.length = sig.parameters.length)
    (hstack : g.stack = argsL.reverse ++ .ref b :: rest) (hW : 2 * g.monitorRoom + (rest.map fun v => v.category).sum ≤ W9) (hdg : decode c.code g.pc = .ok (.invokevirtual index, 3))
    (hpre : ∀ vm₁, s.WarmedH vm₁ → Pre ⟨T.setVm vm₁, locs, cells, slots⟩ (Value.ref b :: argsL).toArray) :
    (∃ (v : Option Value) (vm₁ : Vm) (B : Pt), s.WarmedH vm₁ ∧ Stand p l e R s m args below meth c B.U B.locs B.cells B.slots ∧ Post ⟨T.setVm vm₁, locs, cells, slots⟩ (Value.ref b :: argsL).toArray v B ∧
      ∀ target, Steps p.tables e below (B.U.setTop { g with pc := g.pc + 3, stack := v.toList ++ rest }) target → Steps p.tables e below (T.setTop g) target) ∨
    (∃ (q : Addr) (vm₁ : Vm) (B : Pt), s.WarmedH vm₁ ∧ Stand p l e R s m args below meth c B.U B.locs B.cells B.slots ∧ PostX ⟨T.setVm vm₁, locs, cells, slots⟩ (Value.ref b :: argsL).toArray q B ∧
      Steps p.tables e below (T.setTop g) ((B.U.setTop { g with stack := rest }).pushFrame (.throwing q))) := by
  obtain ⟨mk, methM, hnamed, hmethM, hstM, habM⟩ := Cond.instanceMethod_spec hinst
  obtain ⟨m8, methM', cM, hn8, hmethM', -, -, -, -, -, -, hsigM⟩ := Cond.codeWith_spec hcode
  cases Option.some.inj (hn8.symm.trans hnamed)
  cases hmethM.symm.trans hmethM'
  obtain ⟨c2, r2, m2, q1, q2, q3, q4, kP, hkP, hkPi⟩ := Cond.selects_spec hsel
  cases hcls.symm.trans q1
  cases (State.methodFound?_of_named hnamed hy).symm.trans q2
  cases hnamed.symm.trans q3
  have hselP : selectMethod e.platform s.vm cellB.cls mk = .method mk := by rw [Launch.admits_selectMethod X.admits]; exact q4
  obtain ⟨vm₁, X₁, hstep₁⟩ := X.invokevirtual hexec hown hlink hnamed hmethM hstM hkP hkPi hy (a := b) (cell := cellB) hcell
    (fun z h => by rw [h] at hobj; cases hobj) hselP hmethM habM hkP hkPi (g := g) hg (argsL := argsL) (rest := rest) (hlen _ hsigM) hstack hdg
  rcases hK m meth c ⟨T.setVm vm₁, locs, cells, slots⟩ { g with stack := rest } (.invokevirtual index) mk (Value.ref b :: argsL).toArray X₁ hg hsize hdg hW (X₁.named hnamed) (hpre vm₁ X₁.warmed) with ⟨v, B, X', hpost, hsteps⟩ | ⟨q, B, X', hpost, hsteps⟩
  · exact Or.inl ⟨v, vm₁, B, X₁.warmed, X', hpost, fun target h => hstep₁ _ fun acts => by rw [doInvoke_state]; exact hsteps.trans h⟩
  · exact Or.inr ⟨q, vm₁, B, X₁.warmed, X', hpost, hstep₁ _ fun acts => by rw [doInvoke_state]; exact hsteps⟩
theorem vx_callSX (X : Stand p l e R s m args below meth c T locs cells slots) (hexec : p.tables.exec = Jvm.exec) {own : String} {index : Nat} {y : MethodName} {bytes : ByteArray} {maxL : Nat} {ret : Option FieldType} {hh : List (Nat × Nat × Nat × Nat)}
    (hown : s.vm.findClass own = some m.cls) (hlink : (Cond.methodLink own index y).before args s = true) (hstat : (Cond.static y).before args s = true) (hinit : (Cond.initialized y.cls).before args s = true)
    (hcode : (Cond.codeWith y bytes maxL ret hh).before args s = true) (hy : y.cls ≠ "java/lang/invoke/MethodHandle" ∧ y.cls ≠ "java/lang/invoke/VarHandle")
    {W9 : Nat} {Pre : Pt → Array Value → Prop} {Post : Pt → Array Value → Option Value → Pt → Prop} {PostX : Pt → Array Value → Addr → Pt → Prop} (hK : vx_Back l R p e below s args y 3 W9 Pre Post PostX)
    {g : JFrame} (hg : g.method = m) (hsize : g.locals.size = c.maxLocals) {argsL rest : List Value} (hlen : ∀ sig, parseMethodDescriptor y.desc = some sig → argsL.length = sig.parameters.length)
    (hstack : g.stack = argsL.reverse ++ rest) (hW : 2 * g.monitorRoom + (rest.map fun v => v.category).sum ≤ W9) (hdg : decode c.code g.pc = .ok (.invokestatic index, 3))
    (hpre : ∀ vm₁, s.WarmedH vm₁ → Pre ⟨T.setVm vm₁, locs, cells, slots⟩ argsL.toArray) :
    (∃ (v : Option Value) (vm₁ : Vm) (B : Pt), s.WarmedH vm₁ ∧ Stand p l e R s m args below meth c B.U B.locs B.cells B.slots ∧ Post ⟨T.setVm vm₁, locs, cells, slots⟩ argsL.toArray v B ∧
      ∀ target, Steps p.tables e below (B.U.setTop { g with pc := g.pc + 3, stack := v.toList ++ rest }) target → Steps p.tables e below (T.setTop g) target) ∨
    (∃ (q : Addr) (vm₁ : Vm) (B : Pt), s.WarmedH vm₁ ∧ Stand p l e R s m args below meth c B.U B.locs B.cells B.slots ∧ PostX ⟨T.setVm vm₁, locs, cells, slots⟩ argsL.toArray q B ∧
      Steps p.tables e below (T.setTop g) ((B.U.setTop { g with stack := rest }).pushFrame (.throwing q))) := by
  obtain ⟨mk, methM, cM, hnamed, hmethM, -, -, -, -, -, -, hsigM⟩ := Cond.codeWith_spec hcode
  have hstatic : methM.isStatic = true := Cond.static_spec hnamed hmethM hstat
  obtain ⟨kP, hkP, -⟩ := className_of_methodNamed hnamed
  have hinitP : kP.init = .initialized := Cond.initialized_spec (findClass_of_methodNamed hnamed) hkP hinit
  obtain ⟨vm₁, X₁, hstep₁⟩ := X.invokestatic hexec hown hlink hnamed hmethM hstatic hkP hinitP hy (g := g) hg (argsL := argsL) (rest := rest) (hlen _ hsigM) hstack hdg
  rcases hK m meth c ⟨T.setVm vm₁, locs, cells, slots⟩ { g with stack := rest } (.invokestatic index) mk argsL.toArray X₁ hg hsize hdg hW (X₁.named hnamed) (hpre vm₁ X₁.warmed) with ⟨v, B, X', hpost, hsteps⟩ | ⟨q, B, X', hpost, hsteps⟩
  · exact Or.inl ⟨v, vm₁, B, X₁.warmed, X', hpost, fun target h => hstep₁ _ fun acts => by rw [doInvoke_state]; exact hsteps.trans h⟩
  · exact Or.inr ⟨q, vm₁, B, X₁.warmed, X', hpost, hstep₁ _ fun acts => by rw [doInvoke_state]; exact hsteps⟩
theorem vx_callVW (X : Stand p l e R s m args below meth c T locs cells slots) (hexec : p.tables.exec = Jvm.exec) {own C : String} {index : Nat} {y : MethodName} {bytes : ByteArray} {maxL : Nat} {ret : Option FieldType} {hh : List (Nat × Nat × Nat × Nat)}
    (hown : s.vm.findClass own = some m.cls) (hlink : (Cond.methodLink own index y).before args s = true) (hinst : (Cond.instanceMethod y).before args s = true) (hsel : (Cond.selects C y y).before args s = true)
    (hcode : (Cond.codeWith y bytes maxL ret hh).before args s = true) (hy : y.cls ≠ "java/lang/invoke/MethodHandle" ∧ y.cls ≠ "java/lang/invoke/VarHandle")
    {W9 : Nat} {Pre : Pt → Array Value → Prop} {Post : Pt → Array Value → Option Value → Pt → Prop} (hK : Back l R p e below s args y 3 W9 Pre Post)
    {b : Addr} {cellB : Cell} (hcell : T.heap[b]? = some cellB) (hobj : cellB.vm.isStatics = false) (hcls : s.vm.findClass C = some cellB.cls)
    {g : JFrame} (hg : g.method = m) (hsize : g.locals.size = c.maxLocals) {argsL rest : List Value} (hlen : ∀ sig, parseMethodDescriptor y.desc = some sig → argsL.length = sig.parameters.length)
    (hstack : g.stack = argsL.reverse ++ .ref b :: rest) (hW : 2 * g.monitorRoom + (rest.map fun v => v.category).sum ≤ W9) (hdg : decode c.code g.pc = .ok (.invokevirtual index, 3))
    (hpre : ∀ vm₁, s.WarmedH vm₁ → Pre ⟨T.setVm vm₁, locs, cells, slots⟩ (Value.ref b :: argsL).toArray) :
    ∃ (v : Option Value) (vm₁ : Vm) (B : Pt), s.WarmedH vm₁ ∧ Stand p l e R s m args below meth c B.U B.locs B.cells B.slots ∧ Post ⟨T.setVm vm₁, locs, cells, slots⟩ (Value.ref b :: argsL).toArray v B ∧
      ∀ target, Steps p.tables e below (B.U.setTop { g with pc := g.pc + 3, stack := v.toList ++ rest }) target → Steps p.tables e below (T.setTop g) target := by
  obtain ⟨mk, methM, hnamed, hmethM, hstM, habM⟩ := Cond.instanceMethod_spec hinst
  obtain ⟨m8, methM', cM, hn8, hmethM', -, -, -, -, -, -, hsigM⟩ := Cond.codeWith_spec hcode
  cases Option.some.inj (hn8.symm.trans hnamed)
  cases hmethM.symm.trans hmethM'
  obtain ⟨c2, r2, m2, q1, q2, q3, q4, kP, hkP, hkPi⟩ := Cond.selects_spec hsel
  cases hcls.symm.trans q1
  cases (State.methodFound?_of_named hnamed hy).symm.trans q2
  cases hnamed.symm.trans q3
  have hselP : selectMethod e.platform s.vm cellB.cls mk = .method mk := by rw [Launch.admits_selectMethod X.admits]; exact q4
  obtain ⟨vm₁, X₁, hstep₁⟩ := X.invokevirtual hexec hown hlink hnamed hmethM hstM hkP hkPi hy (a := b) (cell := cellB) hcell
    (fun z h => by rw [h] at hobj; cases hobj) hselP hmethM habM hkP hkPi (g := g) hg (argsL := argsL) (rest := rest) (hlen _ hsigM) hstack hdg
  obtain ⟨v, B, X', hpost, hsteps⟩ := hK m meth c ⟨T.setVm vm₁, locs, cells, slots⟩ { g with stack := rest } (.invokevirtual index) mk (Value.ref b :: argsL).toArray X₁ hg hsize hdg hW (X₁.named hnamed) (hpre vm₁ X₁.warmed)
  exact ⟨v, vm₁, B, X₁.warmed, X', hpost, fun target h => hstep₁ _ fun acts => by rw [doInvoke_state]; exact hsteps.trans h⟩
abbrev vx_CVW (R : Room) (s : State) (args : Array Value) (own C : String) (index : Nat) (y : MethodName) (bytes : ByteArray) (maxL : Nat) (ret : Option FieldType) (hh : List (Nat × Nat × Nat × Nat)) (ws : List Cond) (rm : Room) (mc ms n : Nat) : Prop :=
  (rm.cells = mc ∧ rm.slots = ms ∧ rm.frames + 1 ≤ R.frames ∧ 8 + (maxL + 11) + rm.locals ≤ R.locals ∧ (∀ w ∈ ws, ∀ (a' : Array Value) (U : State), s.WarmedH U.vm → w.before a' U = true) ∧ Cond.codeWith y bytes maxL ret hh ∈ ws) ∧
  (Cond.codeWith y bytes maxL ret hh).before args s = true ∧ (Cond.initialized y.cls).before args s = true ∧ (y.cls ≠ "java/lang/invoke/MethodHandle" ∧ y.cls ≠ "java/lang/invoke/VarHandle") ∧
  (∀ sig, parseMethodDescriptor y.desc = some sig → n = sig.parameters.length) ∧ (Cond.methodLink own index y).before args s = true ∧ (Cond.instanceMethod y).before args s = true ∧ (Cond.selects C y y).before args s = true
theorem vx_cwVW {own C : String} {index maxL mc ms : Nat} {y : MethodName} {bytes : ByteArray} {ret : Option FieldType} {hh : List (Nat × Nat × Nat × Nat)} {Ts ws ws' : List Cond} {rm : Room} (n : Nat) (ht : ∀ w ∈ Ts, w.before args s = true) (hT : GoodIn Ts (wsV own index C y ws)) (hw : ws = Cond.codeWith y bytes maxL ret hh :: ws') (hrc : rm.cells = mc) (hrs : rm.slots = ms)
    (hd : y.cls = C ∧ y.cls ≠ "java/lang/invoke/MethodHandle" ∧ y.cls ≠ "java/lang/invoke/VarHandle" ∧ (parseMethodDescriptor y.desc).map (fun d => d.parameters.length) = some n) (hR : rm.frames + 1 ≤ R.frames ∧ 8 + (maxL + 11) + rm.locals ≤ R.locals) :
    vx_CVW R s args own C index y bytes maxL ret hh ws rm mc ms n := by
  obtain ⟨hC, hd⟩ := hd
  subst hC
  have ok : ∀ w ∈ wsV own index y.cls y ws, w.before args s = true := fun w h => ht w (hT w h).1
  have hG : GoodIn Ts ws := fun w h => hT w (by unfold wsV; exact List.mem_append_right _ h)
  have hc : Cond.codeWith y bytes maxL ret hh ∈ ws := by rw [hw]; exact List.mem_cons_self
  refine ⟨⟨hrc, hrs, hR.1, hR.2, pay_in ht hG, hc⟩, ht _ (hG _ hc).1, ok _ (by simp [wsV]), ⟨hd.1, hd.2.1⟩, fun sig h => ?_, ok _ (by simp [wsV]), ok _ (by simp [wsV]), ok _ (by simp [wsV])⟩
  have h2 := hd.2.2
  rw [h] at h2
  exact (Option.some.inj h2).symm
theorem vx_runVW {y : MethodName} {bytes cc : ByteArray} {maxL nL mc ms n index : Nat} {ret : Option FieldType} {hh : List (Nat × Nat × Nat × Nat)} {ws : List Cond} {rm : Room} {Pc : Array Value → State → Prop} {Qc : Array Value → State → Outcome → State → Prop} {free : Addr → Prop} {Ts : List Cond} {own C : String} {b : Addr} {As rest : List Value} {g : JFrame}
    (S : CallFix p m c cc nL s args Ts own) (hM : Met l y ws rm Pc Qc mc ms free) (cw : vx_CVW R s args own C index y bytes maxL ret hh ws rm mc ms n) (hp : PreV s H C b Pc As)
    (hg : g.method = m) (hn : As.length = n) (hsize : g.locals.size = nL) (hstack : g.stack = As.reverse ++ .ref b :: rest) (hW : 2 * g.monitorRoom + (rest.map fun v => v.category).sum ≤ 8) (hdg : decode cc g.pc = .ok (.invokevirtual index, 3)) (hf : cells + mc ≤ R.cells ∧ slots + ms ≤ R.slots) :
    va_Run p l e R s m args below meth c H locs cells slots mc ms g rest (Qc (Value.ref b :: As).toArray) free := by
  obtain ⟨⟨hrc, hrs, hfr, hlo, hws, hcw⟩, hcode, hini, hy, hlen, hl, hin, hse⟩ := cw
  have hK : Back l R p e below s args y 3 8 (PreOf R mc ms Pc) (PostOf Qc mc ms free) := va_backW (hh := hh) (bytes := bytes) (maxL := maxL) (ret := ret) hM hp.1 hrc hrs hfr hlo hws hcw (fun a' U hW => word_at hW (Or.inl (by first | rfl | simp [Cond.onTables, Cond.keeps, Cond.steady])) hini)
  obtain ⟨hx, hb, hml, ho, -⟩ := S
  obtain ⟨-, ⟨cellB, hcB, hoB, hclB⟩, hPc⟩ := hp
  intro T hT X
  obtain ⟨v, vm₁, ⟨U', l2, c2, s2⟩, hW₁, X', ⟨g', mk, t, L, e1, e2, hq, h1, hL, h2, h3⟩, st⟩ := vx_callVW X hx (C := C) (hh := hh) (bytes := bytes) (maxL := maxL) (ret := ret) ho hl hin hse hcode hy hK (by rw [hT]; exact hcB) hoB hclB hg (hsize.trans hml.symm) (argsL := As) (rest := rest) (fun sig h => hn.trans (hlen sig h)) hstack hW (by rw [hb]; exact hdg)
    (fun vm₁ hW₁ => ⟨hf.1, hf.2, hPc (T.setVm vm₁) hT hW₁⟩)
  dsimp only [Pt.U, Pt.locs, Pt.cells, Pt.slots] at X' e1 e2 h1 h2 h3 st
  subst h1; subst h2; subst h3
  exact ⟨v, (T.setVm vm₁).calling g' mk (Value.ref b :: As).toArray, t, U', L, hT, X', hL, e1, e2, hq, st⟩
section
variable {y : MethodName} {bytes cc : ByteArray} {maxL nL mc ms n index : Nat} {ret : Option FieldType} {ws : List Cond} {rm : Room} {Pc : Array Value → State → Prop} {Qc : Array Value → State → Outcome → State → Prop} {XC : String → State → State → Prop} {free : Addr → Prop} {Ts : List Cond} {own C : String} {b : Addr} {As rest : List Value} {g : JFrame}
theorem vx_runVX {hh : List (Nat × Nat × Nat × Nat)} (S : CallFix p m c cc nL s args Ts own) (hM : vx_Met l y ws rm Pc Qc XC mc ms free) (cw : vx_CVW R s args own C index y bytes maxL ret hh ws rm mc ms n) (hp : PreV s H C b Pc As)
    (hg : g.method = m) (hn : As.length = n) (hsize : g.locals.size = nL) (hstack : g.stack = As.reverse ++ .ref b :: rest) (hW : 2 * g.monitorRoom + (rest.map fun v => v.category).sum ≤ 8) (hdg : decode cc g.pc = .ok (.invokevirtual index, 3)) (hf : cells + mc ≤ R.cells ∧ slots + ms ≤ R.slots) :
    vx_Run p l e R s m args below meth c H locs cells slots mc ms g rest (Qc (Value.ref b :: As).toArray) XC free := by
  obtain ⟨⟨hrc, hrs, hfr, hlo, hws, hcw⟩, hcode, hini, hy, hlen, hl, hin, hse⟩ := cw
  have hK : vx_Back l R p e below s args y 3 8 (PreOf R mc ms Pc) (PostOf Qc mc ms free) (vx_Post XC mc ms free) := vx_backW (hh := hh) (bytes := bytes) (maxL := maxL) (ret := ret) hM hp.1 hrc hrs hfr hlo hws hcw (fun a' U hW => word_at hW (Or.inl (by first | rfl | simp [Cond.onTables, Cond.keeps, Cond.steady])) hini)
  obtain ⟨hx, hb, hml, ho, -⟩ := S
  obtain ⟨-, ⟨cellB, hcB, hoB, hclB⟩, hPc⟩ := hp
  intro T hT X
  rcases vx_callVX X hx (C := C) (hh := hh) (bytes := bytes) (maxL := maxL) (ret := ret) ho hl hin hse hcode hy hK (by rw [hT]; exact hcB) hoB hclB hg (hsize.trans hml.symm) (argsL := As) (rest := rest) (fun sig h => hn.trans (hlen sig h)) hstack hW (by rw [hb]; exact hdg)
    (fun vm₁ hW₁ => ⟨hf.1, hf.2, hPc (T.setVm vm₁) hT hW₁⟩) with ⟨v, vm₁, ⟨U', l2, c2, s2⟩, hW₁, X', ⟨g', mk, t, L, e1, e2, hq, h1, hL, h2, h3⟩, st⟩ | ⟨q, vm₁, ⟨U', l2, c2, s2⟩, hW₁, X', ⟨g', mk, t, L, E, ce, e1, e2, hq, hce, hcv, hcl, h1, hL, h2, h3⟩, st⟩
  · dsimp only [Pt.U, Pt.locs, Pt.cells, Pt.slots] at X' e1 e2 h1 h2 h3 st
    subst h1; subst h2; subst h3
    exact Or.inl ⟨v, (T.setVm vm₁).calling g' mk (Value.ref b :: As).toArray, t, U', L, hT, X', hL, e1, e2, hq, st⟩
  · dsimp only [Pt.U, Pt.locs, Pt.cells, Pt.slots] at X' e1 e2 h1 h2 h3 st hcl
    subst h1; subst h2; subst h3
    exact Or.inr ⟨q, (T.setVm vm₁).calling g' mk (Value.ref b :: As).toArray, t, U', L, E, ce, hT, X', hL, e1, e2, hq, hce, hcv, vx_cls hW₁ hcl, st⟩
theorem vx_runSX {hh : List (Nat × Nat × Nat × Nat)} (S : CallFix p m c cc nL s args Ts own) (hM : vx_Met l y ws rm Pc Qc XC mc ms free) (cw : vx_CSW R s args own index y bytes maxL ret hh ws rm mc ms n) (hp : PreS s H Pc As)
    (hg : g.method = m) (hn : As.length = n) (hsize : g.locals.size = nL) (hstack : g.stack = As.reverse ++ rest) (hW : 2 * g.monitorRoom + (rest.map fun v => v.category).sum ≤ 8) (hdg : decode cc g.pc = .ok (.invokestatic index, 3)) (hf : cells + mc ≤ R.cells ∧ slots + ms ≤ R.slots) :
    vx_Run p l e R s m args below meth c H locs cells slots mc ms g rest (Qc As.toArray) XC free := by
  obtain ⟨⟨hrc, hrs, hfr, hlo, hws, hcw⟩, hcode, hini, hy, hlen, hl, hstt⟩ := cw
  have hK : vx_Back l R p e below s args y 3 8 (PreOf R mc ms Pc) (PostOf Qc mc ms free) (vx_Post XC mc ms free) := vx_backW (hh := hh) (bytes := bytes) (maxL := maxL) (ret := ret) hM hp.1 hrc hrs hfr hlo hws hcw (fun a' U hW => word_at hW (Or.inl (by first | rfl | simp [Cond.onTables, Cond.keeps, Cond.steady])) hini)
  obtain ⟨hx, hb, hml, ho, -⟩ := S
  intro T hT X
  rcases vx_callSX X hx (hh := hh) (bytes := bytes) (maxL := maxL) (ret := ret) ho hl hstt hini hcode hy hK hg (hsize.trans hml.symm) (argsL := As) (rest := rest) (fun sig h => hn.trans (hlen sig h)) hstack hW (by rw [hb]; exact hdg)
    (fun vm₁ hW₁ => ⟨hf.1, hf.2, hp.2 (T.setVm vm₁) hT hW₁⟩) with ⟨v, vm₁, ⟨U', l2, c2, s2⟩, hW₁, X', ⟨g', mk, t, L, e1, e2, hq, h1, hL, h2, h3⟩, st⟩ | ⟨q, vm₁, ⟨U', l2, c2, s2⟩, hW₁, X', ⟨g', mk, t, L, E, ce, e1, e2, hq, hce, hcv, hcl, h1, hL, h2, h3⟩, st⟩
  · dsimp only [Pt.U, Pt.locs, Pt.cells, Pt.slots] at X' e1 e2 h1 h2 h3 st
    subst h1; subst h2; subst h3
    exact Or.inl ⟨v, (T.setVm vm₁).calling g' mk As.toArray, t, U', L, hT, X', hL, e1, e2, hq, st⟩
  · dsimp only [Pt.U, Pt.locs, Pt.cells, Pt.slots] at X' e1 e2 h1 h2 h3 st hcl
    subst h1; subst h2; subst h3
    exact Or.inr ⟨q, (T.setVm vm₁).calling g' mk As.toArray, t, U', L, E, ce, hT, X', hL, e1, e2, hq, hce, hcv, vx_cls hW₁ hcl, st⟩
end
end VXH
theorem vx_ofWH {l : Launch} {y : MethodName} {ws ws' : List Cond} {rm : Room} {Pc : Array Value → State → Prop} {Qc : Array Value → State → Outcome → State → Prop} {XC : String → State → State → Prop} {mc ms : Nat} {free : Addr → Prop} {cc : ByteArray} {maxL : Nat} {ret : Option FieldType} {hh : List (Nat × Nat × Nat × Nat)}
    (hy : plainName y.cls = true) (hw : ws = Cond.codeWith y cc maxL ret hh :: ws')
    (body : ∀ p e s m args below meth c s₁, BodyLoose p l y (headSpec ws rm) cc maxL ret e s m args below meth c s₁ → c.maxLocals = maxL → Pc args s →
      W p l e (headSpec ws rm).room s m args below meth c s.heap [] 0 0 (vx_MQ below Qc XC args s mc ms free) (entryFrame m args maxL)) : vx_Met l y ws rm Pc Qc XC mc ms free := by
  refine MetFree.of_bodyS (code := cc) (maxLocals := maxL) (ret := ret) hy ?_ ?_
  · intro args s m h hn
    obtain ⟨m9, meth, c, hn9, h1, h2, h3, h4, -, h5, h6, -⟩ := Cond.codeWith_spec (atoms_spec (ws := ws) h _ (by rw [hw]; exact List.mem_cons_self))
    cases hn.symm.trans hn9
    exact ⟨meth, c, h1, h2, h3, h4, h5, h6⟩
  · intro p e s m args below meth c s₁ B hml hP _
    have hh0 : s₁.heap = s.heap := by rw [B.state]; rfl
    obtain ⟨t, a1, o, b1, b2, b3⟩ := body p e s m args below meth c s₁ B hml hP s₁ hh0 (Stand.of_body B)
    exact ⟨t, o, a1, b1, b2, b3⟩
/-! ===== END ===== -/

/-! ===== BEGIN .. of methods that hand back an object of the pool ===== -/
section
variable {p : Program} {l : Launch} {e : Env} {R : Room} {s : State} {m : MethodId} {args : Array Value} {below : List Frame} {meth : Method} {c : Code} {H : Heap} {locs : List Loc} {cells slots : Nat} {Q : State → Prop}
variable {mc ms : Nat} {free : Addr → Prop} {A0 A1 : Nat → Prop} {H0 : Heap} {a : Array Value} {pc : Nat} {ls : Array Slot} {st0 rest : List Value}
theorem vx_callq {S SX : Type} {post : Option Nat → S → Prop} {px : SX → Prop} {B : S → State → Prop} {BX : String → SX → State → Prop} {AX : Nat → Prop} (hr : vx_Run p l e R s m args below meth c H locs cells slots mc ms (F0 m pc ls st0) rest (va_Qq post B A1 a) (vx_X px BX AX) free) (hS : va_S A0 H0 H locs) (hA : ∀ q, q < H.size → A1 q → A0 q) (hf : ∀ q, free q → A0 q) (hAX : ∀ q, q < H.size → AX q → A0 q)
    (kx : ∀ (E : String) (ce : Cell) (q9 : Addr) (u : SX) (t : State) (H1 : Heap) (locs1 : List Loc), t.heap = H1 → s.vm.Alike t.vm → px u → BX E u t → H.size ≤ H1.size → (∀ q : Nat, q < H.size → ¬ AX q → H1[q]? = H[q]?) → va_S A0 H0 H1 locs1 → H1[q9]? = some ce → ce.vm = .none → s.vm.findClass E = some ce.cls → vx_W p l e R s m args below meth c H1 locs1 (cells + mc) (slots + ms) Q (F0 m pc ls rest) q9)
    (kk : ∀ (r : Option Nat) (u : S) (t : State) (H1 : Heap) (locs1 : List Loc), t.heap = H1 → s.vm.Alike t.vm → post r u → B u t → H.size ≤ H1.size → (∀ q : Nat, q < H.size → ¬ A1 q → H1[q]? = H[q]?) → va_S A0 H0 H1 locs1 → W p l e R s m args below meth c H1 locs1 (cells + mc) (slots + ms) Q (F0 m (pc + 3) ls (va_rf r :: rest))) : W p l e R s m args below meth c H locs cells slots Q (F0 m pc ls st0) := by
  intro T hT X
  rcases hr T hT X with ⟨v, st₀, t, T', L, h0, X', hL, e1, e2, ⟨⟨r, u, hv, hp, hb⟩, hF⟩, st⟩ | ⟨q, st₀, t, T', L, E, ce, h0, X', hL, e1, e2, ⟨u, hp, hb, hF⟩, hce, hcv, hcl, st⟩
  · cases hv
    obtain ⟨k1, k2, k3⟩ := vx_keep h0 e1 hS hA hf hL hF
    obtain ⟨t2, a1, b1⟩ := kk r u t T'.heap (locs ++ L) e1.symm (by rw [← e2]; exact X'.warmed.alike) hp hb k1 k2 k3 T' rfl X'
    exact ⟨t2, st t2 a1, b1⟩
  · obtain ⟨k1, k2, k3⟩ := vx_keep h0 e1 hS hAX hf hL hF
    obtain ⟨t2, a1, b1⟩ := kx E ce q u t T'.heap (locs ++ L) e1.symm (by rw [← e2]; exact X'.warmed.alike) hp hb k1 k2 k3 (by rw [e1]; exact hce) hcv hcl T' rfl X'
    exact ⟨t2, st.trans a1, b1⟩
end
/-! ===== END ===== -/
end
section
def RX0 : String := "Invoicebridge$Credit"
def TX0 : u_T := fun k => match k with
  | 0 => ("Invoicebridge$Credit", "invoice", "LInvoicebridge$Invoice;", true)
  | 1 => ("Invoicebridge$Credit", "month", "I", true)
  | _ => ("Invoicebridge$Credit", "taxLess", "I", true)
def tyX0 : Nat → FieldType := fun k => match k with
  | 0 => .object "Invoicebridge$Invoice"
  | 1 => .int
  | _ => .int
theorem nmX0 : ∀ a, a < 3 → ∀ b, b < 3 → a ≠ b → (TX0 a).2.1 ≠ (TX0 b).2.1 := by decide +kernel
theorem tyX0_ok : ∀ k, k < 3 → parseFieldDescriptor (TX0 k).2.2.1 = some (tyX0 k) := by decide +kernel
abbrev cX0_init : ByteArray := prog_2_method_1_code
def yX0_init : MethodName := ⟨RX0, "<init>", "(LInvoicebridge$Invoice;II)V"⟩
abbrev cX0_taxFor : ByteArray := prog_2_method_2_code
def yX0_taxFor : MethodName := ⟨RX0, "taxFor", "(II)I"⟩
def RX1 : String := "Invoicebridge$Document"
def TX1 : u_T := fun k => match k with
  | 0 => ("Invoicebridge$Document", "from", "I", true)
  | 1 => ("Invoicebridge$Document", "to", "I", true)
  | _ => ("Invoicebridge$Document", "cents", "I", true)
def tyX1 : Nat → FieldType := fun k => match k with
  | 0 => .int
  | 1 => .int
  | _ => .int
theorem nmX1 : ∀ a, a < 3 → ∀ b, b < 3 → a ≠ b → (TX1 a).2.1 ≠ (TX1 b).2.1 := by decide +kernel
theorem tyX1_ok : ∀ k, k < 3 → parseFieldDescriptor (TX1 k).2.2.1 = some (tyX1 k) := by decide +kernel
abbrev cX1_init : ByteArray := prog_3_method_1_code
def yX1_init : MethodName := ⟨RX1, "<init>", "(III)V"⟩
def RX2 : String := "Invoicebridge$Invoice"
def TX2 : u_T := fun k => match k with
  | 0 => ("Invoicebridge$Invoice", "seller", "I", true)
  | 1 => ("Invoicebridge$Invoice", "buyer", "I", true)
  | 2 => ("Invoicebridge$Invoice", "goods", "I", true)
  | 3 => ("Invoicebridge$Invoice", "sentDay", "I", true)
  | 4 => ("Invoicebridge$Invoice", "lines", "Ljava/util/ArrayList;", true)
  | 5 => ("Invoicebridge$Invoice", "state", "I", false)
  | 6 => ("Invoicebridge$Invoice", "acceptedDay", "I", false)
  | 7 => ("Invoicebridge$Invoice", "hasCredit", "Z", false)
  | 8 => ("Invoicebridge$Invoice", "paid", "I", false)
  | 9 => ("Invoicebridge$Invoice", "holder", "I", false)
  | 10 => ("Invoicebridge$Invoice", "price", "I", false)
  | _ => ("Invoicebridge$Invoice", "isRecourse", "Z", false)
def tyX2 : Nat → FieldType := fun k => match k with
  | 0 => .int
  | 1 => .int
  | 2 => .int
  | 3 => .int
  | 4 => .object "java/util/ArrayList"
  | 5 => .int
  | 6 => .int
  | 7 => .boolean
  | 8 => .int
  | 9 => .int
  | 10 => .int
  | _ => .boolean
theorem nmX2 : ∀ a, a < 12 → ∀ b, b < 12 → a ≠ b → (TX2 a).2.1 ≠ (TX2 b).2.1 := by decide +kernel
theorem tyX2_ok : ∀ k, k < 12 → parseFieldDescriptor (TX2 k).2.2.1 = some (tyX2 k) := by decide +kernel
abbrev cX2_init : ByteArray := prog_4_method_1_code
def yX2_init : MethodName := ⟨RX2, "<init>", "(IIII)V"⟩
abbrev cX2_isAcceptedOf : ByteArray := prog_4_method_2_code
def yX2_isAcceptedOf : MethodName := ⟨RX2, "isAcceptedOf", "(I)Z"⟩
abbrev cX2_costNow : ByteArray := prog_4_method_3_code
def yX2_costNow : MethodName := ⟨RX2, "costNow", "()I"⟩
abbrev cX2_owedNow : ByteArray := prog_4_method_4_code
def yX2_owedNow : MethodName := ⟨RX2, "owedNow", "()I"⟩
abbrev cX2_taxNow : ByteArray := prog_4_method_5_code
def yX2_taxNow : MethodName := ⟨RX2, "taxNow", "()I"⟩
abbrev cX2_taxAsMade : ByteArray := prog_4_method_6_code
def yX2_taxAsMade : MethodName := ⟨RX2, "taxAsMade", "()I"⟩
abbrev cX2_taxFor : ByteArray := prog_4_method_7_code
def yX2_taxFor : MethodName := ⟨RX2, "taxFor", "(II)I"⟩
def RX3 : String := "Invoicebridge$Line"
def TX3 : u_T := fun k => match k with
  | 0 => ("Invoicebridge$Line", "made", "I", true)
  | 1 => ("Invoicebridge$Line", "rate", "I", true)
  | 2 => ("Invoicebridge$Line", "amount", "I", false)
  | _ => ("Invoicebridge$Line", "isDisputed", "Z", false)
def tyX3 : Nat → FieldType := fun k => match k with
  | 0 => .int
  | 1 => .int
  | 2 => .int
  | _ => .boolean
theorem nmX3 : ∀ a, a < 4 → ∀ b, b < 4 → a ≠ b → (TX3 a).2.1 ≠ (TX3 b).2.1 := by decide +kernel
theorem tyX3_ok : ∀ k, k < 4 → parseFieldDescriptor (TX3 k).2.2.1 = some (tyX3 k) := by decide +kernel
abbrev cX3_init : ByteArray := prog_5_method_1_code
def yX3_init : MethodName := ⟨RX3, "<init>", "(II)V"⟩
abbrev cX3_taxNow : ByteArray := prog_5_method_2_code
def yX3_taxNow : MethodName := ⟨RX3, "taxNow", "()I"⟩
abbrev cX3_taxAsMade : ByteArray := prog_5_method_3_code
def yX3_taxAsMade : MethodName := ⟨RX3, "taxAsMade", "()I"⟩
abbrev cX3_costNow : ByteArray := prog_5_method_4_code
def yX3_costNow : MethodName := ⟨RX3, "costNow", "()I"⟩
def RX4 : String := "Invoicebridge"
def TX4 : u_T := fun k => match k with
  | 0 => ("Invoicebridge", "invoices", "Ljava/util/ArrayList;", true)
  | 1 => ("Invoicebridge", "credits", "Ljava/util/ArrayList;", true)
  | 2 => ("Invoicebridge", "documents", "Ljava/util/ArrayList;", true)
  | 3 => ("Invoicebridge", "cashOf", "[I", true)
  | 4 => ("Invoicebridge", "draft", "Ljava/lang/StringBuilder;", true)
  | _ => ("Invoicebridge", "today", "I", false)
def tyX4 : Nat → FieldType := fun k => match k with
  | 0 => .object "java/util/ArrayList"
  | 1 => .object "java/util/ArrayList"
  | 2 => .object "java/util/ArrayList"
  | 3 => .array .int
  | 4 => .object "java/lang/StringBuilder"
  | _ => .int
theorem nmX4 : ∀ a, a < 6 → ∀ b, b < 6 → a ≠ b → (TX4 a).2.1 ≠ (TX4 b).2.1 := by decide +kernel
theorem tyX4_ok : ∀ k, k < 6 → parseFieldDescriptor (TX4 k).2.2.1 = some (tyX4 k) := by decide +kernel
abbrev cX4_init : ByteArray := prog_1_method_1_code
def yX4_init : MethodName := ⟨RX4, "<init>", "()V"⟩
abbrev cX4_send : ByteArray := prog_1_method_2_code
def yX4_send : MethodName := ⟨RX4, "send", "(IIIII)I"⟩
abbrev cX4_addLine : ByteArray := prog_1_method_3_code
def yX4_addLine : MethodName := ⟨RX4, "addLine", "(III)I"⟩
abbrev cX4_accept : ByteArray := prog_1_method_4_code
def yX4_accept : MethodName := ⟨RX4, "accept", "(I)I"⟩
abbrev cX4_refuse : ByteArray := prog_1_method_5_code
def yX4_refuse : MethodName := ⟨RX4, "refuse", "(I)I"⟩
abbrev cX4_credit : ByteArray := prog_1_method_6_code
def yX4_credit : MethodName := ⟨RX4, "credit", "(III)I"⟩
abbrev cX4_dispute : ByteArray := prog_1_method_7_code
def yX4_dispute : MethodName := ⟨RX4, "dispute", "(II)I"⟩
abbrev cX4_settle : ByteArray := prog_1_method_8_code
def yX4_settle : MethodName := ⟨RX4, "settle", "(IIZ)I"⟩
abbrev cX4_sell : ByteArray := prog_1_method_9_code
def yX4_sell : MethodName := ⟨RX4, "sell", "(IIIZ)I"⟩
abbrev cX4_giveBack : ByteArray := prog_1_method_10_code
def yX4_giveBack : MethodName := ⟨RX4, "giveBack", "(I)I"⟩
abbrev cX4_type : ByteArray := prog_1_method_11_code
def yX4_type : MethodName := ⟨RX4, "type", "(I)I"⟩
abbrev cX4_clear : ByteArray := prog_1_method_12_code
def yX4_clear : MethodName := ⟨RX4, "clear", "()I"⟩
abbrev cX4_fault : ByteArray := prog_1_method_13_code
def yX4_fault : MethodName := ⟨RX4, "fault", "()I"⟩
abbrev cX4_payByText : ByteArray := prog_1_method_14_code
def yX4_payByText : MethodName := ⟨RX4, "payByText", "(III)I"⟩
abbrev cX4_payBySum : ByteArray := prog_1_method_15_code
def yX4_payBySum : MethodName := ⟨RX4, "payBySum", "(III)I"⟩
abbrev cX4_pass : ByteArray := prog_1_method_16_code
def yX4_pass : MethodName := ⟨RX4, "pass", "(I)I"⟩
abbrev cX4_about : ByteArray := prog_1_method_17_code
def yX4_about : MethodName := ⟨RX4, "about", "(II)I"⟩
abbrev cX4_lineOf : ByteArray := prog_1_method_18_code
def yX4_lineOf : MethodName := ⟨RX4, "lineOf", "(III)I"⟩
abbrev cX4_cash : ByteArray := prog_1_method_19_code
def yX4_cash : MethodName := ⟨RX4, "cash", "(I)I"⟩
abbrev cX4_cashAnew : ByteArray := prog_1_method_20_code
def yX4_cashAnew : MethodName := ⟨RX4, "cashAnew", "(I)I"⟩
abbrev cX4_owedTo : ByteArray := prog_1_method_21_code
def yX4_owedTo : MethodName := ⟨RX4, "owedTo", "(I)I"⟩
abbrev cX4_owes : ByteArray := prog_1_method_22_code
def yX4_owes : MethodName := ⟨RX4, "owes", "(I)I"⟩
abbrev cX4_tax : ByteArray := prog_1_method_23_code
def yX4_tax : MethodName := ⟨RX4, "tax", "(II)I"⟩
abbrev cX4_carried : ByteArray := prog_1_method_24_code
def yX4_carried : MethodName := ⟨RX4, "carried", "(II)I"⟩
abbrev cX4_chain : ByteArray := prog_1_method_25_code
def yX4_chain : MethodName := ⟨RX4, "chain", "(I)I"⟩
abbrev cX4_day : ByteArray := prog_1_method_26_code
def yX4_day : MethodName := ⟨RX4, "day", "()I"⟩
abbrev cX4_checkCompany : ByteArray := prog_1_method_27_code
def yX4_checkCompany : MethodName := ⟨RX4, "checkCompany", "(I)V"⟩
abbrev cX4_checkGoods : ByteArray := prog_1_method_28_code
def yX4_checkGoods : MethodName := ⟨RX4, "checkGoods", "(I)V"⟩
abbrev cX4_checkMonth : ByteArray := prog_1_method_29_code
def yX4_checkMonth : MethodName := ⟨RX4, "checkMonth", "(I)V"⟩
abbrev cX4_checkAmount : ByteArray := prog_1_method_30_code
def yX4_checkAmount : MethodName := ⟨RX4, "checkAmount", "(I)V"⟩
abbrev cX4_checkRate : ByteArray := prog_1_method_31_code
def yX4_checkRate : MethodName := ⟨RX4, "checkRate", "(I)V"⟩
abbrev cX4_checkTwoCompanies : ByteArray := prog_1_method_32_code
def yX4_checkTwoCompanies : MethodName := ⟨RX4, "checkTwoCompanies", "(II)V"⟩
abbrev cX4_checkPayment : ByteArray := prog_1_method_33_code
def yX4_checkPayment : MethodName := ⟨RX4, "checkPayment", "(III)V"⟩
abbrev cX4_checkSent : ByteArray := prog_1_method_34_code
def yX4_checkSent : MethodName := ⟨RX4, "checkSent", "(LInvoicebridge$Invoice;)V"⟩
abbrev cX4_checkOwed : ByteArray := prog_1_method_35_code
def yX4_checkOwed : MethodName := ⟨RX4, "checkOwed", "(LInvoicebridge$Invoice;)V"⟩
abbrev cX4_checkRoomForCredit : ByteArray := prog_1_method_36_code
def yX4_checkRoomForCredit : MethodName := ⟨RX4, "checkRoomForCredit", "()V"⟩
abbrev cX4_checkRoomForDocument : ByteArray := prog_1_method_37_code
def yX4_checkRoomForDocument : MethodName := ⟨RX4, "checkRoomForDocument", "()V"⟩
abbrev cX4_invoiceAt : ByteArray := prog_1_method_38_code
def yX4_invoiceAt : MethodName := ⟨RX4, "invoiceAt", "(I)LInvoicebridge$Invoice;"⟩
abbrev cX4_lineAt : ByteArray := prog_1_method_39_code
def yX4_lineAt : MethodName := ⟨RX4, "lineAt", "(LInvoicebridge$Invoice;I)LInvoicebridge$Line;"⟩
abbrev cX4_makeCredit : ByteArray := prog_1_method_40_code
def yX4_makeCredit : MethodName := ⟨RX4, "makeCredit", "(LInvoicebridge$Invoice;LInvoicebridge$Line;I)V"⟩
abbrev cX4_takePayment : ByteArray := prog_1_method_41_code
def yX4_takePayment : MethodName := ⟨RX4, "takePayment", "(LInvoicebridge$Invoice;I)V"⟩
abbrev cX4_moveCash : ByteArray := prog_1_method_42_code
def yX4_moveCash : MethodName := ⟨RX4, "moveCash", "(III)V"⟩
abbrev cX4_addCash : ByteArray := prog_1_method_43_code
def yX4_addCash : MethodName := ⟨RX4, "addCash", "(II)V"⟩
abbrev cX4_faultOfDraft : ByteArray := prog_1_method_44_code
def yX4_faultOfDraft : MethodName := ⟨RX4, "faultOfDraft", "()I"⟩
abbrev cX4_numberOfDraft : ByteArray := prog_1_method_45_code
def yX4_numberOfDraft : MethodName := ⟨RX4, "numberOfDraft", "()I"⟩
abbrev cX4_taxWithCarried : ByteArray := prog_1_method_46_code
def yX4_taxWithCarried : MethodName := ⟨RX4, "taxWithCarried", "(II)I"⟩
abbrev cX4_taxOfMonth : ByteArray := prog_1_method_47_code
def yX4_taxOfMonth : MethodName := ⟨RX4, "taxOfMonth", "(II)I"⟩
abbrev cX4_greatestTaxAhead : ByteArray := prog_1_method_48_code
def yX4_greatestTaxAhead : MethodName := ⟨RX4, "greatestTaxAhead", "(ILInvoicebridge$Invoice;)I"⟩
abbrev cX4_isDigit : ByteArray := prog_1_method_49_code
def yX4_isDigit : MethodName := ⟨RX4, "isDigit", "(C)Z"⟩
abbrev cX4_monthOf : ByteArray := prog_1_method_50_code
def yX4_monthOf : MethodName := ⟨RX4, "monthOf", "(I)I"⟩
abbrev cX4_taxOf : ByteArray := prog_1_method_51_code
def yX4_taxOf : MethodName := ⟨RX4, "taxOf", "(II)I"⟩
def RX5 : String := "InvoicebridgeModel"
def TX5 : u_T := fun k => match k with
  | 0 => ("InvoicebridgeModel", "day", "I", false)
  | 1 => ("InvoicebridgeModel", "cash", "[I", true)
  | 2 => ("InvoicebridgeModel", "invoices", "I", false)
  | 3 => ("InvoicebridgeModel", "seller", "[I", true)
  | 4 => ("InvoicebridgeModel", "buyer", "[I", true)
  | 5 => ("InvoicebridgeModel", "goods", "[I", true)
  | 6 => ("InvoicebridgeModel", "state", "[I", true)
  | 7 => ("InvoicebridgeModel", "sentOn", "[I", true)
  | 8 => ("InvoicebridgeModel", "acceptedOn", "[I", true)
  | 9 => ("InvoicebridgeModel", "holder", "[I", true)
  | 10 => ("InvoicebridgeModel", "soldFor", "[I", true)
  | 11 => ("InvoicebridgeModel", "isRecourse", "[Z", true)
  | 12 => ("InvoicebridgeModel", "paid", "[I", true)
  | 13 => ("InvoicebridgeModel", "lines", "[I", true)
  | 14 => ("InvoicebridgeModel", "amount", "[I", true)
  | 15 => ("InvoicebridgeModel", "made", "[I", true)
  | 16 => ("InvoicebridgeModel", "rate", "[I", true)
  | 17 => ("InvoicebridgeModel", "isDisputed", "[Z", true)
  | 18 => ("InvoicebridgeModel", "credits", "I", false)
  | 19 => ("InvoicebridgeModel", "creditOf", "[I", true)
  | 20 => ("InvoicebridgeModel", "creditOn", "[I", true)
  | 21 => ("InvoicebridgeModel", "creditTax", "[I", true)
  | 22 => ("InvoicebridgeModel", "drafted", "I", false)
  | 23 => ("InvoicebridgeModel", "draft", "[I", true)
  | _ => ("InvoicebridgeModel", "thrown", "I", false)
def tyX5 : Nat → FieldType := fun k => match k with
  | 0 => .int
  | 1 => .array .int
  | 2 => .int
  | 3 => .array .int
  | 4 => .array .int
  | 5 => .array .int
  | 6 => .array .int
  | 7 => .array .int
  | 8 => .array .int
  | 9 => .array .int
  | 10 => .array .int
  | 11 => .array .boolean
  | 12 => .array .int
  | 13 => .array .int
  | 14 => .array .int
  | 15 => .array .int
  | 16 => .array .int
  | 17 => .array .boolean
  | 18 => .int
  | 19 => .array .int
  | 20 => .array .int
  | 21 => .array .int
  | 22 => .int
  | 23 => .array .int
  | _ => .int
theorem nmX5 : ∀ a, a < 25 → ∀ b, b < 25 → a ≠ b → (TX5 a).2.1 ≠ (TX5 b).2.1 := by decide +kernel
theorem tyX5_ok : ∀ k, k < 25 → parseFieldDescriptor (TX5 k).2.2.1 = some (tyX5 k) := by decide +kernel
abbrev cX5_init : ByteArray := prog_7_method_1_code
def yX5_init : MethodName := ⟨RX5, "<init>", "()V"⟩
abbrev cX5_thrown : ByteArray := prog_7_method_2_code
def yX5_thrown : MethodName := ⟨RX5, "thrown", "()I"⟩
abbrev cX5_isIn : ByteArray := prog_7_method_3_code
def yX5_isIn : MethodName := ⟨RX5, "isIn", "(III)Z"⟩
abbrev cX5_isCompany : ByteArray := prog_7_method_4_code
def yX5_isCompany : MethodName := ⟨RX5, "isCompany", "(I)Z"⟩
abbrev cX5_isInvoice : ByteArray := prog_7_method_5_code
def yX5_isInvoice : MethodName := ⟨RX5, "isInvoice", "(I)Z"⟩
abbrev cX5_isLine : ByteArray := prog_7_method_6_code
def yX5_isLine : MethodName := ⟨RX5, "isLine", "(II)Z"⟩
abbrev cX5_isGood : ByteArray := prog_7_method_7_code
def yX5_isGood : MethodName := ⟨RX5, "isGood", "(II)Z"⟩
abbrev cX5_adds : ByteArray := prog_7_method_8_code
def yX5_adds : MethodName := ⟨RX5, "adds", "(III)V"⟩
abbrev cX5_send : ByteArray := prog_7_method_9_code
def yX5_send : MethodName := ⟨RX5, "send", "(IIIII)I"⟩
abbrev cX5_hasCredit : ByteArray := prog_7_method_10_code
def yX5_hasCredit : MethodName := ⟨RX5, "hasCredit", "(I)Z"⟩
abbrev cX5_addLine : ByteArray := prog_7_method_11_code
def yX5_addLine : MethodName := ⟨RX5, "addLine", "(III)I"⟩
abbrev cX5_taxOf : ByteArray := prog_7_method_12_code
def yX5_taxOf : MethodName := ⟨RX5, "taxOf", "(II)I"⟩
abbrev cX5_costs : ByteArray := prog_7_method_13_code
def yX5_costs : MethodName := ⟨RX5, "costs", "(IZ)I"⟩
abbrev cX5_owed : ByteArray := prog_7_method_14_code
def yX5_owed : MethodName := ⟨RX5, "owed", "(I)I"⟩
abbrev cX5_accept : ByteArray := prog_7_method_15_code
def yX5_accept : MethodName := ⟨RX5, "accept", "(I)I"⟩
abbrev cX5_refuse : ByteArray := prog_7_method_16_code
def yX5_refuse : MethodName := ⟨RX5, "refuse", "(I)I"⟩
abbrev cX5_lessens : ByteArray := prog_7_method_17_code
def yX5_lessens : MethodName := ⟨RX5, "lessens", "(III)V"⟩
abbrev cX5_credit : ByteArray := prog_7_method_18_code
def yX5_credit : MethodName := ⟨RX5, "credit", "(III)I"⟩
abbrev cX5_dispute : ByteArray := prog_7_method_19_code
def yX5_dispute : MethodName := ⟨RX5, "dispute", "(II)I"⟩
abbrev cX5_settle : ByteArray := prog_7_method_20_code
def yX5_settle : MethodName := ⟨RX5, "settle", "(IIZ)I"⟩
abbrev cX5_moves : ByteArray := prog_7_method_21_code
def yX5_moves : MethodName := ⟨RX5, "moves", "(III)V"⟩
abbrev cX5_sell : ByteArray := prog_7_method_22_code
def yX5_sell : MethodName := ⟨RX5, "sell", "(IIIZ)I"⟩
abbrev cX5_giveBack : ByteArray := prog_7_method_23_code
def yX5_giveBack : MethodName := ⟨RX5, "giveBack", "(I)I"⟩
abbrev cX5_type : ByteArray := prog_7_method_24_code
def yX5_type : MethodName := ⟨RX5, "type", "(I)I"⟩
abbrev cX5_clear : ByteArray := prog_7_method_25_code
def yX5_clear : MethodName := ⟨RX5, "clear", "()I"⟩
abbrev cX5_faultOf : ByteArray := prog_7_method_26_code
def yX5_faultOf : MethodName := ⟨RX5, "faultOf", "()I"⟩
abbrev cX5_fault : ByteArray := prog_7_method_27_code
def yX5_fault : MethodName := ⟨RX5, "fault", "()I"⟩
abbrev cX5_pays : ByteArray := prog_7_method_28_code
def yX5_pays : MethodName := ⟨RX5, "pays", "(III)I"⟩
abbrev cX5_payByText : ByteArray := prog_7_method_29_code
def yX5_payByText : MethodName := ⟨RX5, "payByText", "(III)I"⟩
abbrev cX5_payBySum : ByteArray := prog_7_method_30_code
def yX5_payBySum : MethodName := ⟨RX5, "payBySum", "(III)I"⟩
abbrev cX5_pass : ByteArray := prog_7_method_31_code
def yX5_pass : MethodName := ⟨RX5, "pass", "(I)I"⟩
abbrev cX5_taxOfAll : ByteArray := prog_7_method_32_code
def yX5_taxOfAll : MethodName := ⟨RX5, "taxOfAll", "(IZ)I"⟩
abbrev cX5_about : ByteArray := prog_7_method_33_code
def yX5_about : MethodName := ⟨RX5, "about", "(II)I"⟩
abbrev cX5_lineOf : ByteArray := prog_7_method_34_code
def yX5_lineOf : MethodName := ⟨RX5, "lineOf", "(III)I"⟩
abbrev cX5_cash : ByteArray := prog_7_method_35_code
def yX5_cash : MethodName := ⟨RX5, "cash", "(I)I"⟩
abbrev cX5_cashAnew : ByteArray := prog_7_method_36_code
def yX5_cashAnew : MethodName := ⟨RX5, "cashAnew", "(I)I"⟩
abbrev cX5_sums : ByteArray := prog_7_method_37_code
def yX5_sums : MethodName := ⟨RX5, "sums", "(IZ)I"⟩
abbrev cX5_owedTo : ByteArray := prog_7_method_38_code
def yX5_owedTo : MethodName := ⟨RX5, "owedTo", "(I)I"⟩
abbrev cX5_owes : ByteArray := prog_7_method_39_code
def yX5_owes : MethodName := ⟨RX5, "owes", "(I)I"⟩
abbrev cX5_taxIn : ByteArray := prog_7_method_40_code
def yX5_taxIn : MethodName := ⟨RX5, "taxIn", "(II)I"⟩
abbrev cX5_taxUpTo : ByteArray := prog_7_method_41_code
def yX5_taxUpTo : MethodName := ⟨RX5, "taxUpTo", "(II)I"⟩
abbrev cX5_isMonth : ByteArray := prog_7_method_42_code
def yX5_isMonth : MethodName := ⟨RX5, "isMonth", "(I)Z"⟩
abbrev cX5_tax : ByteArray := prog_7_method_43_code
def yX5_tax : MethodName := ⟨RX5, "tax", "(II)I"⟩
abbrev cX5_carried : ByteArray := prog_7_method_44_code
def yX5_carried : MethodName := ⟨RX5, "carried", "(II)I"⟩
abbrev cX5_chain : ByteArray := prog_7_method_45_code
def yX5_chain : MethodName := ⟨RX5, "chain", "(I)I"⟩
abbrev cX5_day : ByteArray := prog_7_method_46_code
def yX5_day : MethodName := ⟨RX5, "day", "()I"⟩
def RJx145de : String := "java/io/Serializable"
def TJx145de : u_T := fun k => match k with
  | _ => ("", "", "", false)
def tyJx145de : Nat → FieldType := fun k => match k with
  | _ => .int
theorem nmJx145de : ∀ a, a < 0 → ∀ b, b < 0 → a ≠ b → (TJx145de a).2.1 ≠ (TJx145de b).2.1 := by decide +kernel
theorem tyJx145de_ok : ∀ k, k < 0 → parseFieldDescriptor (TJx145de k).2.2.1 = some (tyJx145de k) := by decide +kernel
def RJ5 : String := "java/lang/AbstractStringBuilder"
def TJ5 : u_T := fun k => match k with
  | _ => ("", "", "", false)
def tyJ5 : Nat → FieldType := fun k => match k with
  | _ => .int
theorem nmJ5 : ∀ a, a < 0 → ∀ b, b < 0 → a ≠ b → (TJ5 a).2.1 ≠ (TJ5 b).2.1 := by decide +kernel
theorem tyJ5_ok : ∀ k, k < 0 → parseFieldDescriptor (TJ5 k).2.2.1 = some (tyJ5 k) := by decide +kernel
abbrev cJ5_init_d00df : ByteArray := prog_9_method_2_code
def yJ5_init_d00df : MethodName := ⟨RJ5, "<init>", "(I)V"⟩
abbrev cJ5_length_8abf5 : ByteArray := prog_9_method_6_code
def yJ5_length_8abf5 : MethodName := ⟨RJ5, "length", "()I"⟩
abbrev cJ5_ensureCapacityInternal_d00df : ByteArray := prog_9_method_9_code
def yJ5_ensureCapacityInternal_d00df : MethodName := ⟨RJ5, "ensureCapacityInternal", "(I)V"⟩
abbrev cJ5_newCapacity_0f7a4 : ByteArray := prog_9_method_10_code
def yJ5_newCapacity_0f7a4 : MethodName := ⟨RJ5, "newCapacity", "(I)I"⟩
abbrev cJ5_inflate_da8c8 : ByteArray := prog_9_method_11_code
def yJ5_inflate_da8c8 : MethodName := ⟨RJ5, "inflate", "()V"⟩
abbrev cJ5_setLength_d00df : ByteArray := prog_9_method_13_code
def yJ5_setLength_d00df : MethodName := ⟨RJ5, "setLength", "(I)V"⟩
abbrev cJ5_charAt_5068e : ByteArray := prog_9_method_14_code
def yJ5_charAt_5068e : MethodName := ⟨RJ5, "charAt", "(I)C"⟩
abbrev cJ5_append_cf1ce : ByteArray := prog_9_method_22_code
def yJ5_append_cf1ce : MethodName := ⟨RJ5, "append", "(Ljava/lang/String;)Ljava/lang/AbstractStringBuilder;"⟩
abbrev cJ5_appendNull_278bc : ByteArray := prog_9_method_26_code
def yJ5_appendNull_278bc : MethodName := ⟨RJ5, "appendNull", "()Ljava/lang/AbstractStringBuilder;"⟩
abbrev cJ5_append_3fe6f : ByteArray := prog_9_method_31_code
def yJ5_append_3fe6f : MethodName := ⟨RJ5, "append", "(C)Ljava/lang/AbstractStringBuilder;"⟩
abbrev cJ5_append_c97b9 : ByteArray := prog_9_method_32_code
def yJ5_append_c97b9 : MethodName := ⟨RJ5, "append", "(I)Ljava/lang/AbstractStringBuilder;"⟩
abbrev cJ5_getValue_6d5f1 : ByteArray := prog_9_method_64_code
def yJ5_getValue_6d5f1 : MethodName := ⟨RJ5, "getValue", "()[B"⟩
abbrev cJ5_isLatin1_aae02 : ByteArray := prog_9_method_68_code
def yJ5_isLatin1_aae02 : MethodName := ⟨RJ5, "isLatin1", "()Z"⟩
abbrev cJ5_inflateIfNeededFor_a7421 : ByteArray := prog_9_method_71_code
def yJ5_inflateIfNeededFor_a7421 : MethodName := ⟨RJ5, "inflateIfNeededFor", "(Ljava/lang/String;)V"⟩
abbrev cJ5_putStringAt_47b60 : ByteArray := prog_9_method_73_code
def yJ5_putStringAt_47b60 : MethodName := ⟨RJ5, "putStringAt", "(ILjava/lang/String;)V"⟩
def RJx2cfe8 : String := "java/lang/Appendable"
def TJx2cfe8 : u_T := fun k => match k with
  | _ => ("", "", "", false)
def tyJx2cfe8 : Nat → FieldType := fun k => match k with
  | _ => .int
theorem nmJx2cfe8 : ∀ a, a < 0 → ∀ b, b < 0 → a ≠ b → (TJx2cfe8 a).2.1 ≠ (TJx2cfe8 b).2.1 := by decide +kernel
theorem tyJx2cfe8_ok : ∀ k, k < 0 → parseFieldDescriptor (TJx2cfe8 k).2.2.1 = some (tyJx2cfe8 k) := by decide +kernel
def RJx00060 : String := "java/lang/ArrayIndexOutOfBoundsException"
def TJx00060 : u_T := fun k => match k with
  | 0 => ("java/lang/Throwable", "cause", "Ljava/lang/Throwable;", false)
  | 1 => ("java/lang/Throwable", "stackTrace", "[Ljava/lang/StackTraceElement;", false)
  | 2 => ("java/lang/Throwable", "suppressedExceptions", "Ljava/util/List;", false)
  | 3 => ("java/lang/Throwable", "detailMessage", "Ljava/lang/String;", false)
  | 4 => ("java/lang/Throwable", "backtrace", "Ljava/lang/Object;", false)
  | _ => ("java/lang/Throwable", "depth", "I", false)
def tyJx00060 : Nat → FieldType := fun k => match k with
  | 0 => .object "java/lang/Throwable"
  | 1 => .array (.object "java/lang/StackTraceElement")
  | 2 => .object "java/util/List"
  | 3 => .object "java/lang/String"
  | 4 => .object "java/lang/Object"
  | _ => .int
theorem nmJx00060 : ∀ a, a < 6 → ∀ b, b < 6 → a ≠ b → (TJx00060 a).2.1 ≠ (TJx00060 b).2.1 := by decide +kernel
theorem tyJx00060_ok : ∀ k, k < 6 → parseFieldDescriptor (TJx00060 k).2.2.1 = some (tyJx00060 k) := by decide +kernel
abbrev cJx00060_init_d00df : ByteArray := prog_11_method_3_code
def yJx00060_init_d00df : MethodName := ⟨RJx00060, "<init>", "(I)V"⟩
def RJx9f9b0 : String := "java/lang/CharSequence"
def TJx9f9b0 : u_T := fun k => match k with
  | _ => ("", "", "", false)
def tyJx9f9b0 : Nat → FieldType := fun k => match k with
  | _ => .int
theorem nmJx9f9b0 : ∀ a, a < 0 → ∀ b, b < 0 → a ≠ b → (TJx9f9b0 a).2.1 ≠ (TJx9f9b0 b).2.1 := by decide +kernel
theorem tyJx9f9b0_ok : ∀ k, k < 0 → parseFieldDescriptor (TJx9f9b0 k).2.2.1 = some (tyJx9f9b0 k) := by decide +kernel
def RJx8e188 : String := "java/lang/Cloneable"
def TJx8e188 : u_T := fun k => match k with
  | _ => ("", "", "", false)
def tyJx8e188 : Nat → FieldType := fun k => match k with
  | _ => .int
theorem nmJx8e188 : ∀ a, a < 0 → ∀ b, b < 0 → a ≠ b → (TJx8e188 a).2.1 ≠ (TJx8e188 b).2.1 := by decide +kernel
theorem tyJx8e188_ok : ∀ k, k < 0 → parseFieldDescriptor (TJx8e188 k).2.2.1 = some (tyJx8e188 k) := by decide +kernel
def RJxb160c : String := "java/lang/Comparable"
def TJxb160c : u_T := fun k => match k with
  | _ => ("", "", "", false)
def tyJxb160c : Nat → FieldType := fun k => match k with
  | _ => .int
theorem nmJxb160c : ∀ a, a < 0 → ∀ b, b < 0 → a ≠ b → (TJxb160c a).2.1 ≠ (TJxb160c b).2.1 := by decide +kernel
theorem tyJxb160c_ok : ∀ k, k < 0 → parseFieldDescriptor (TJxb160c k).2.2.1 = some (tyJxb160c k) := by decide +kernel
def RJ6 : String := "java/lang/Integer"
def TJ6 : u_T := fun k => match k with
  | _ => ("", "", "", false)
def tyJ6 : Nat → FieldType := fun k => match k with
  | _ => .int
theorem nmJ6 : ∀ a, a < 0 → ∀ b, b < 0 → a ≠ b → (TJ6 a).2.1 ≠ (TJ6 b).2.1 := by decide +kernel
theorem tyJ6_ok : ∀ k, k < 0 → parseFieldDescriptor (TJ6 k).2.2.1 = some (tyJ6 k) := by decide +kernel
abbrev cJ6_getChars_ba4f3 : ByteArray := prog_19_method_12_code
def yJ6_getChars_ba4f3 : MethodName := ⟨RJ6, "getChars", "(II[B)I"⟩
abbrev cJ6_stringSize_0f7a4 : ByteArray := prog_19_method_13_code
def yJ6_stringSize_0f7a4 : MethodName := ⟨RJ6, "stringSize", "(I)I"⟩
def RJxab1ab : String := "java/lang/Iterable"
def TJxab1ab : u_T := fun k => match k with
  | _ => ("", "", "", false)
def tyJxab1ab : Nat → FieldType := fun k => match k with
  | _ => .int
theorem nmJxab1ab : ∀ a, a < 0 → ∀ b, b < 0 → a ≠ b → (TJxab1ab a).2.1 ≠ (TJxab1ab b).2.1 := by decide +kernel
theorem tyJxab1ab_ok : ∀ k, k < 0 → parseFieldDescriptor (TJxab1ab k).2.2.1 = some (tyJxab1ab k) := by decide +kernel
def RJ9 : String := "java/lang/Math"
def TJ9 : u_T := fun k => match k with
  | _ => ("", "", "", false)
def tyJ9 : Nat → FieldType := fun k => match k with
  | _ => .int
theorem nmJ9 : ∀ a, a < 0 → ∀ b, b < 0 → a ≠ b → (TJ9 a).2.1 ≠ (TJ9 b).2.1 := by decide +kernel
theorem tyJ9_ok : ∀ k, k < 0 → parseFieldDescriptor (TJ9 k).2.2.1 = some (tyJ9 k) := by decide +kernel
abbrev cJ9_max_7cf53 : ByteArray := prog_21_method_65_code
def yJ9_max_7cf53 : MethodName := ⟨RJ9, "max", "(II)I"⟩
abbrev cJ9_min_7cf53 : ByteArray := prog_21_method_69_code
def yJ9_min_7cf53 : MethodName := ⟨RJ9, "min", "(II)I"⟩
def RJxd2413 : String := "java/lang/Number"
def TJxd2413 : u_T := fun k => match k with
  | _ => ("", "", "", false)
def tyJxd2413 : Nat → FieldType := fun k => match k with
  | _ => .int
theorem nmJxd2413 : ∀ a, a < 0 → ∀ b, b < 0 → a ≠ b → (TJxd2413 a).2.1 ≠ (TJxd2413 b).2.1 := by decide +kernel
theorem tyJxd2413_ok : ∀ k, k < 0 → parseFieldDescriptor (TJxd2413 k).2.2.1 = some (tyJxd2413 k) := by decide +kernel
def RJ0 : String := "java/lang/String"
def TJ0 : u_T := fun k => match k with
  | 0 => ("java/lang/String", "value", "[B", true)
  | 1 => ("java/lang/String", "coder", "B", true)
  | 2 => ("java/lang/String", "hash", "I", false)
  | _ => ("java/lang/String", "hashIsZero", "Z", false)
def tyJ0 : Nat → FieldType := fun k => match k with
  | 0 => .array .byte
  | 1 => .byte
  | 2 => .int
  | _ => .boolean
theorem nmJ0 : ∀ a, a < 4 → ∀ b, b < 4 → a ≠ b → (TJ0 a).2.1 ≠ (TJ0 b).2.1 := by decide +kernel
theorem tyJ0_ok : ∀ k, k < 4 → parseFieldDescriptor (TJ0 k).2.2.1 = some (tyJ0 k) := by decide +kernel
abbrev cJ0_init_81219 : ByteArray := prog_24_method_53_code
def yJ0_init_81219 : MethodName := ⟨RJ0, "<init>", "(Ljava/lang/StringBuilder;)V"⟩
abbrev cJ0_length_8abf5 : ByteArray := prog_24_method_54_code
def yJ0_length_8abf5 : MethodName := ⟨RJ0, "length", "()I"⟩
abbrev cJ0_getBytes_840e7 : ByteArray := prog_24_method_147_code
def yJ0_getBytes_840e7 : MethodName := ⟨RJ0, "getBytes", "([BIB)V"⟩
abbrev cJ0_init_db425 : ByteArray := prog_24_method_150_code
def yJ0_init_db425 : MethodName := ⟨RJ0, "<init>", "(Ljava/lang/AbstractStringBuilder;Ljava/lang/Void;)V"⟩
abbrev cJ0_coder_7d493 : ByteArray := prog_24_method_152_code
def yJ0_coder_7d493 : MethodName := ⟨RJ0, "coder", "()B"⟩
abbrev cJ0_checkIndex_df160 : ByteArray := prog_24_method_155_code
def yJ0_checkIndex_df160 : MethodName := ⟨RJ0, "checkIndex", "(II)V"⟩
abbrev cJ0_checkBoundsOffCount_cabcc : ByteArray := prog_24_method_157_code
def yJ0_checkBoundsOffCount_cabcc : MethodName := ⟨RJ0, "checkBoundsOffCount", "(III)I"⟩
abbrev cJ0_checkBoundsBeginEnd_23922 : ByteArray := prog_24_method_158_code
def yJ0_checkBoundsBeginEnd_23922 : MethodName := ⟨RJ0, "checkBoundsBeginEnd", "(III)V"⟩
def RJ4 : String := "java/lang/StringBuilder"
def TJ4 : u_T := fun k => match k with
  | 0 => ("java/lang/AbstractStringBuilder", "value", "[B", false)
  | 1 => ("java/lang/AbstractStringBuilder", "coder", "B", false)
  | 2 => ("java/lang/AbstractStringBuilder", "maybeLatin1", "Z", false)
  | _ => ("java/lang/AbstractStringBuilder", "count", "I", false)
def tyJ4 : Nat → FieldType := fun k => match k with
  | 0 => .array .byte
  | 1 => .byte
  | 2 => .boolean
  | _ => .int
theorem nmJ4 : ∀ a, a < 4 → ∀ b, b < 4 → a ≠ b → (TJ4 a).2.1 ≠ (TJ4 b).2.1 := by decide +kernel
theorem tyJ4_ok : ∀ k, k < 4 → parseFieldDescriptor (TJ4 k).2.2.1 = some (tyJ4 k) := by decide +kernel
abbrev cJ4_init_da8c8 : ByteArray := prog_25_method_1_code
def yJ4_init_da8c8 : MethodName := ⟨RJ4, "<init>", "()V"⟩
abbrev cJ4_append_15ec4 : ByteArray := prog_25_method_7_code
def yJ4_append_15ec4 : MethodName := ⟨RJ4, "append", "(Ljava/lang/String;)Ljava/lang/StringBuilder;"⟩
abbrev cJ4_append_cf468 : ByteArray := prog_25_method_14_code
def yJ4_append_cf468 : MethodName := ⟨RJ4, "append", "(C)Ljava/lang/StringBuilder;"⟩
abbrev cJ4_append_bf812 : ByteArray := prog_25_method_15_code
def yJ4_append_bf812 : MethodName := ⟨RJ4, "append", "(I)Ljava/lang/StringBuilder;"⟩
abbrev cJ4_toString_0e30d : ByteArray := prog_25_method_42_code
def yJ4_toString_0e30d : MethodName := ⟨RJ4, "toString", "()Ljava/lang/String;"⟩
abbrev cJ4_charAt_5068e : ByteArray := prog_25_method_88_code
def yJ4_charAt_5068e : MethodName := ⟨RJ4, "charAt", "(I)C"⟩
abbrev cJ4_setLength_d00df : ByteArray := prog_25_method_89_code
def yJ4_setLength_d00df : MethodName := ⟨RJ4, "setLength", "(I)V"⟩
abbrev cJ4_length_8abf5 : ByteArray := prog_25_method_93_code
def yJ4_length_8abf5 : MethodName := ⟨RJ4, "length", "()I"⟩
def RJx7c733 : String := "java/lang/StringIndexOutOfBoundsException"
def TJx7c733 : u_T := fun k => match k with
  | 0 => ("java/lang/Throwable", "backtrace", "Ljava/lang/Object;", false)
  | 1 => ("java/lang/Throwable", "detailMessage", "Ljava/lang/String;", false)
  | 2 => ("java/lang/Throwable", "cause", "Ljava/lang/Throwable;", false)
  | 3 => ("java/lang/Throwable", "stackTrace", "[Ljava/lang/StackTraceElement;", false)
  | 4 => ("java/lang/Throwable", "depth", "I", false)
  | _ => ("java/lang/Throwable", "suppressedExceptions", "Ljava/util/List;", false)
def tyJx7c733 : Nat → FieldType := fun k => match k with
  | 0 => .object "java/lang/Object"
  | 1 => .object "java/lang/String"
  | 2 => .object "java/lang/Throwable"
  | 3 => .array (.object "java/lang/StackTraceElement")
  | 4 => .int
  | _ => .object "java/util/List"
theorem nmJx7c733 : ∀ a, a < 6 → ∀ b, b < 6 → a ≠ b → (TJx7c733 a).2.1 ≠ (TJx7c733 b).2.1 := by decide +kernel
theorem tyJx7c733_ok : ∀ k, k < 6 → parseFieldDescriptor (TJx7c733 k).2.2.1 = some (tyJx7c733 k) := by decide +kernel
abbrev cJx7c733_init_d00df : ByteArray := prog_26_method_3_code
def yJx7c733_init_d00df : MethodName := ⟨RJx7c733, "<init>", "(I)V"⟩
def RJ1 : String := "java/lang/StringLatin1"
def TJ1 : u_T := fun k => match k with
  | _ => ("", "", "", false)
def tyJ1 : Nat → FieldType := fun k => match k with
  | _ => .int
theorem nmJ1 : ∀ a, a < 0 → ∀ b, b < 0 → a ≠ b → (TJ1 a).2.1 ≠ (TJ1 b).2.1 := by decide +kernel
theorem tyJ1_ok : ∀ k, k < 0 → parseFieldDescriptor (TJ1 k).2.2.1 = some (tyJ1 k) := by decide +kernel
abbrev cJ1_canEncode_fc78d : ByteArray := prog_27_method_3_code
def yJ1_canEncode_fc78d : MethodName := ⟨RJ1, "canEncode", "(C)Z"⟩
abbrev cJ1_fillNull_b72d1 : ByteArray := prog_27_method_48_code
def yJ1_fillNull_b72d1 : MethodName := ⟨RJ1, "fillNull", "([BII)V"⟩
abbrev cJ1_inflate_0e8fd : ByteArray := prog_27_method_50_code
def yJ1_inflate_0e8fd : MethodName := ⟨RJ1, "inflate", "([BI[BII)V"⟩
def RJ2 : String := "java/lang/StringUTF16"
def TJ2 : u_T := fun k => match k with
  | _ => ("", "", "", false)
def tyJ2 : Nat → FieldType := fun k => match k with
  | _ => .int
theorem nmJ2 : ∀ a, a < 0 → ∀ b, b < 0 → a ≠ b → (TJ2 a).2.1 ≠ (TJ2 b).2.1 := by decide +kernel
theorem tyJ2_ok : ∀ k, k < 0 → parseFieldDescriptor (TJ2 k).2.2.1 = some (tyJ2 k) := by decide +kernel
abbrev cJ2_newBytesFor_77867 : ByteArray := prog_28_method_2_code
def yJ2_newBytesFor_77867 : MethodName := ⟨RJ2, "newBytesFor", "(I)[B"⟩
abbrev cJ2_newBytesLength_0f7a4 : ByteArray := prog_28_method_3_code
def yJ2_newBytesLength_0f7a4 : MethodName := ⟨RJ2, "newBytesLength", "(I)I"⟩
abbrev cJ2_putChar_b72d1 : ByteArray := prog_28_method_4_code
def yJ2_putChar_b72d1 : MethodName := ⟨RJ2, "putChar", "([BII)V"⟩
abbrev cJ2_getChar_3b067 : ByteArray := prog_28_method_5_code
def yJ2_getChar_3b067 : MethodName := ⟨RJ2, "getChar", "([BI)C"⟩
abbrev cJ2_length_9d52b : ByteArray := prog_28_method_6_code
def yJ2_length_9d52b : MethodName := ⟨RJ2, "length", "([B)I"⟩
abbrev cJ2_coderFromArrayLen_85cad : ByteArray := prog_28_method_15_code
def yJ2_coderFromArrayLen_85cad : MethodName := ⟨RJ2, "coderFromArrayLen", "([BI)B"⟩
abbrev cJ2_compress_39247 : ByteArray := prog_28_method_17_code
def yJ2_compress_39247 : MethodName := ⟨RJ2, "compress", "([BII)[B"⟩
abbrev cJ2_compress_5af95 : ByteArray := prog_28_method_22_code
def yJ2_compress_5af95 : MethodName := ⟨RJ2, "compress", "([BI[BII)I"⟩
abbrev cJ2_fillNull_b72d1 : ByteArray := prog_28_method_70_code
def yJ2_fillNull_b72d1 : MethodName := ⟨RJ2, "fillNull", "([BII)V"⟩
abbrev cJ2_putCharSB_b72d1 : ByteArray := prog_28_method_71_code
def yJ2_putCharSB_b72d1 : MethodName := ⟨RJ2, "putCharSB", "([BII)V"⟩
abbrev cJ2_getChars_46870 : ByteArray := prog_28_method_77_code
def yJ2_getChars_46870 : MethodName := ⟨RJ2, "getChars", "(III[B)I"⟩
abbrev cJ2_putCharsAt_cd4e5 : ByteArray := prog_28_method_81_code
def yJ2_putCharsAt_cd4e5 : MethodName := ⟨RJ2, "putCharsAt", "([BICCCC)I"⟩
abbrev cJ2_inflate_0e8fd : ByteArray := prog_28_method_86_code
def yJ2_inflate_0e8fd : MethodName := ⟨RJ2, "inflate", "([BI[BII)V"⟩
abbrev cJ2_getChars_ba4f3 : ByteArray := prog_28_method_89_code
def yJ2_getChars_ba4f3 : MethodName := ⟨RJ2, "getChars", "(II[B)I"⟩
abbrev cJ2_checkIndex_2214a : ByteArray := prog_28_method_91_code
def yJ2_checkIndex_2214a : MethodName := ⟨RJ2, "checkIndex", "(I[B)V"⟩
abbrev cJ2_checkBoundsBeginEnd_d044e : ByteArray := prog_28_method_93_code
def yJ2_checkBoundsBeginEnd_d044e : MethodName := ⟨RJ2, "checkBoundsBeginEnd", "(II[B)V"⟩
abbrev cJ2_checkBoundsOffCount_d044e : ByteArray := prog_28_method_94_code
def yJ2_checkBoundsOffCount_d044e : MethodName := ⟨RJ2, "checkBoundsOffCount", "(II[B)V"⟩
def RJ10 : String := "java/lang/System"
def TJ10 : u_T := fun k => match k with
  | _ => ("", "", "", false)
def tyJ10 : Nat → FieldType := fun k => match k with
  | _ => .int
theorem nmJ10 : ∀ a, a < 0 → ∀ b, b < 0 → a ≠ b → (TJ10 a).2.1 ≠ (TJ10 b).2.1 := by decide +kernel
theorem tyJ10_ok : ∀ k, k < 0 → parseFieldDescriptor (TJ10 k).2.2.1 = some (tyJ10 k) := by decide +kernel
def RJxfd54e : String := "java/lang/constant/Constable"
def TJxfd54e : u_T := fun k => match k with
  | _ => ("", "", "", false)
def tyJxfd54e : Nat → FieldType := fun k => match k with
  | _ => .int
theorem nmJxfd54e : ∀ a, a < 0 → ∀ b, b < 0 → a ≠ b → (TJxfd54e a).2.1 ≠ (TJxfd54e b).2.1 := by decide +kernel
theorem tyJxfd54e_ok : ∀ k, k < 0 → parseFieldDescriptor (TJxfd54e k).2.2.1 = some (tyJxfd54e k) := by decide +kernel
def RJx3cf43 : String := "java/lang/constant/ConstantDesc"
def TJx3cf43 : u_T := fun k => match k with
  | _ => ("", "", "", false)
def tyJx3cf43 : Nat → FieldType := fun k => match k with
  | _ => .int
theorem nmJx3cf43 : ∀ a, a < 0 → ∀ b, b < 0 → a ≠ b → (TJx3cf43 a).2.1 ≠ (TJx3cf43 b).2.1 := by decide +kernel
theorem tyJx3cf43_ok : ∀ k, k < 0 → parseFieldDescriptor (TJx3cf43 k).2.2.1 = some (tyJx3cf43 k) := by decide +kernel
def RJxa1e45 : String := "java/util/AbstractCollection"
def TJxa1e45 : u_T := fun k => match k with
  | _ => ("", "", "", false)
def tyJxa1e45 : Nat → FieldType := fun k => match k with
  | _ => .int
theorem nmJxa1e45 : ∀ a, a < 0 → ∀ b, b < 0 → a ≠ b → (TJxa1e45 a).2.1 ≠ (TJxa1e45 b).2.1 := by decide +kernel
theorem tyJxa1e45_ok : ∀ k, k < 0 → parseFieldDescriptor (TJxa1e45 k).2.2.1 = some (tyJxa1e45 k) := by decide +kernel
abbrev cJxa1e45_init_da8c8 : ByteArray := prog_33_method_1_code
def yJxa1e45_init_da8c8 : MethodName := ⟨RJxa1e45, "<init>", "()V"⟩
def RJxc12de : String := "java/util/AbstractList"
def TJxc12de : u_T := fun k => match k with
  | _ => ("", "", "", false)
def tyJxc12de : Nat → FieldType := fun k => match k with
  | _ => .int
theorem nmJxc12de : ∀ a, a < 0 → ∀ b, b < 0 → a ≠ b → (TJxc12de a).2.1 ≠ (TJxc12de b).2.1 := by decide +kernel
theorem tyJxc12de_ok : ∀ k, k < 0 → parseFieldDescriptor (TJxc12de k).2.2.1 = some (tyJxc12de k) := by decide +kernel
abbrev cJxc12de_init_da8c8 : ByteArray := prog_34_method_1_code
def yJxc12de_init_da8c8 : MethodName := ⟨RJxc12de, "<init>", "()V"⟩
def RJx4a65c : String := "java/util/ArrayList"
def TJx4a65c : u_T := fun k => match k with
  | 0 => ("java/util/AbstractList", "modCount", "I", false)
  | 1 => ("java/util/ArrayList", "elementData", "[Ljava/lang/Object;", false)
  | _ => ("java/util/ArrayList", "size", "I", false)
def tyJx4a65c : Nat → FieldType := fun k => match k with
  | 0 => .int
  | 1 => .array (.object "java/lang/Object")
  | _ => .int
theorem nmJx4a65c : ∀ a, a < 3 → ∀ b, b < 3 → a ≠ b → (TJx4a65c a).2.1 ≠ (TJx4a65c b).2.1 := by decide +kernel
theorem tyJx4a65c_ok : ∀ k, k < 3 → parseFieldDescriptor (TJx4a65c k).2.2.1 = some (tyJx4a65c k) := by decide +kernel
abbrev cJx4a65c_init_da8c8 : ByteArray := prog_35_method_2_code
def yJx4a65c_init_da8c8 : MethodName := ⟨RJx4a65c, "<init>", "()V"⟩
abbrev cJx4a65c_grow_92f84 : ByteArray := prog_35_method_6_code
def yJx4a65c_grow_92f84 : MethodName := ⟨RJx4a65c, "grow", "(I)[Ljava/lang/Object;"⟩
abbrev cJx4a65c_grow_d5877 : ByteArray := prog_35_method_7_code
def yJx4a65c_grow_d5877 : MethodName := ⟨RJx4a65c, "grow", "()[Ljava/lang/Object;"⟩
abbrev cJx4a65c_size_8abf5 : ByteArray := prog_35_method_8_code
def yJx4a65c_size_8abf5 : MethodName := ⟨RJx4a65c, "size", "()I"⟩
abbrev cJx4a65c_elementData_915e3 : ByteArray := prog_35_method_18_code
def yJx4a65c_elementData_915e3 : MethodName := ⟨RJx4a65c, "elementData", "(I)Ljava/lang/Object;"⟩
abbrev cJx4a65c_get_915e3 : ByteArray := prog_35_method_20_code
def yJx4a65c_get_915e3 : MethodName := ⟨RJx4a65c, "get", "(I)Ljava/lang/Object;"⟩
abbrev cJx4a65c_add_72be8 : ByteArray := prog_35_method_24_code
def yJx4a65c_add_72be8 : MethodName := ⟨RJx4a65c, "add", "(Ljava/lang/Object;[Ljava/lang/Object;I)V"⟩
abbrev cJx4a65c_add_9ea2d : ByteArray := prog_35_method_25_code
def yJx4a65c_add_9ea2d : MethodName := ⟨RJx4a65c, "add", "(Ljava/lang/Object;)Z"⟩
def RJ7 : String := "java/util/Arrays"
def TJ7 : u_T := fun k => match k with
  | _ => ("", "", "", false)
def tyJ7 : Nat → FieldType := fun k => match k with
  | _ => .int
theorem nmJ7 : ∀ a, a < 0 → ∀ b, b < 0 → a ≠ b → (TJ7 a).2.1 ≠ (TJ7 b).2.1 := by decide +kernel
theorem tyJ7_ok : ∀ k, k < 0 → parseFieldDescriptor (TJ7 k).2.2.1 = some (tyJ7 k) := by decide +kernel
abbrev cJ7_rangeCheck_23922 : ByteArray := prog_36_method_30_code
def yJ7_rangeCheck_23922 : MethodName := ⟨RJ7, "rangeCheck", "(III)V"⟩
abbrev cJ7_fill_eb02e : ByteArray := prog_36_method_110_code
def yJ7_fill_eb02e : MethodName := ⟨RJ7, "fill", "([BIIB)V"⟩
abbrev cJ7_copyOf_1904c : ByteArray := prog_36_method_119_code
def yJ7_copyOf_1904c : MethodName := ⟨RJ7, "copyOf", "([Ljava/lang/Object;I)[Ljava/lang/Object;"⟩
abbrev cJ7_copyOf_6403c : ByteArray := prog_36_method_120_code
def yJ7_copyOf_6403c : MethodName := ⟨RJ7, "copyOf", "([Ljava/lang/Object;ILjava/lang/Class;)[Ljava/lang/Object;"⟩
abbrev cJ7_copyOf_9075b : ByteArray := prog_36_method_121_code
def yJ7_copyOf_9075b : MethodName := ⟨RJ7, "copyOf", "([BI)[B"⟩
abbrev cJ7_checkLength_df160 : ByteArray := prog_36_method_131_code
def yJ7_checkLength_df160 : MethodName := ⟨RJ7, "checkLength", "(II)V"⟩
abbrev cJ7_copyOfRange_39247 : ByteArray := prog_36_method_132_code
def yJ7_copyOfRange_39247 : MethodName := ⟨RJ7, "copyOfRange", "([BII)[B"⟩
abbrev cJ7_copyOfRangeByte_39247 : ByteArray := prog_36_method_133_code
def yJ7_copyOfRangeByte_39247 : MethodName := ⟨RJ7, "copyOfRangeByte", "([BII)[B"⟩
def RJx5ef63 : String := "java/util/Collection"
def TJx5ef63 : u_T := fun k => match k with
  | _ => ("", "", "", false)
def tyJx5ef63 : Nat → FieldType := fun k => match k with
  | _ => .int
theorem nmJx5ef63 : ∀ a, a < 0 → ∀ b, b < 0 → a ≠ b → (TJx5ef63 a).2.1 ≠ (TJx5ef63 b).2.1 := by decide +kernel
theorem tyJx5ef63_ok : ∀ k, k < 0 → parseFieldDescriptor (TJx5ef63 k).2.2.1 = some (tyJx5ef63 k) := by decide +kernel
def RJxbd725 : String := "java/util/List"
def TJxbd725 : u_T := fun k => match k with
  | _ => ("", "", "", false)
def tyJxbd725 : Nat → FieldType := fun k => match k with
  | _ => .int
theorem nmJxbd725 : ∀ a, a < 0 → ∀ b, b < 0 → a ≠ b → (TJxbd725 a).2.1 ≠ (TJxbd725 b).2.1 := by decide +kernel
theorem tyJxbd725_ok : ∀ k, k < 0 → parseFieldDescriptor (TJxbd725 k).2.2.1 = some (tyJxbd725 k) := by decide +kernel
def RJ15 : String := "java/util/Objects"
def TJ15 : u_T := fun k => match k with
  | _ => ("", "", "", false)
def tyJ15 : Nat → FieldType := fun k => match k with
  | _ => .int
theorem nmJ15 : ∀ a, a < 0 → ∀ b, b < 0 → a ≠ b → (TJ15 a).2.1 ≠ (TJ15 b).2.1 := by decide +kernel
theorem tyJ15_ok : ∀ k, k < 0 → parseFieldDescriptor (TJ15 k).2.2.1 = some (tyJ15 k) := by decide +kernel
abbrev cJ15_checkIndex_7cf53 : ByteArray := prog_39_method_17_code
def yJ15_checkIndex_7cf53 : MethodName := ⟨RJ15, "checkIndex", "(II)I"⟩
def RJxf0a74 : String := "java/util/RandomAccess"
def TJxf0a74 : u_T := fun k => match k with
  | _ => ("", "", "", false)
def tyJxf0a74 : Nat → FieldType := fun k => match k with
  | _ => .int
theorem nmJxf0a74 : ∀ a, a < 0 → ∀ b, b < 0 → a ≠ b → (TJxf0a74 a).2.1 ≠ (TJxf0a74 b).2.1 := by decide +kernel
theorem tyJxf0a74_ok : ∀ k, k < 0 → parseFieldDescriptor (TJxf0a74 k).2.2.1 = some (tyJxf0a74 k) := by decide +kernel
def RJxa66e6 : String := "java/util/SequencedCollection"
def TJxa66e6 : u_T := fun k => match k with
  | _ => ("", "", "", false)
def tyJxa66e6 : Nat → FieldType := fun k => match k with
  | _ => .int
theorem nmJxa66e6 : ∀ a, a < 0 → ∀ b, b < 0 → a ≠ b → (TJxa66e6 a).2.1 ≠ (TJxa66e6 b).2.1 := by decide +kernel
theorem tyJxa66e6_ok : ∀ k, k < 0 → parseFieldDescriptor (TJxa66e6 k).2.2.1 = some (tyJxa66e6 k) := by decide +kernel
def RJ8 : String := "jdk/internal/util/ArraysSupport"
def TJ8 : u_T := fun k => match k with
  | _ => ("", "", "", false)
def tyJ8 : Nat → FieldType := fun k => match k with
  | _ => .int
theorem nmJ8 : ∀ a, a < 0 → ∀ b, b < 0 → a ≠ b → (TJ8 a).2.1 ≠ (TJ8 b).2.1 := by decide +kernel
theorem tyJ8_ok : ∀ k, k < 0 → parseFieldDescriptor (TJ8 k).2.2.1 = some (tyJ8 k) := by decide +kernel
abbrev cJ8_newLength_cabcc : ByteArray := prog_42_method_27_code
def yJ8_newLength_cabcc : MethodName := ⟨RJ8, "newLength", "(III)I"⟩
abbrev cJ8_hugeLength_7cf53 : ByteArray := prog_42_method_28_code
def yJ8_hugeLength_7cf53 : MethodName := ⟨RJ8, "hugeLength", "(II)I"⟩
def RJ3 : String := "jdk/internal/util/Preconditions"
def TJ3 : u_T := fun k => match k with
  | _ => ("", "", "", false)
def tyJ3 : Nat → FieldType := fun k => match k with
  | _ => .int
theorem nmJ3 : ∀ a, a < 0 → ∀ b, b < 0 → a ≠ b → (TJ3 a).2.1 ≠ (TJ3 b).2.1 := by decide +kernel
theorem tyJ3_ok : ∀ k, k < 0 → parseFieldDescriptor (TJ3 k).2.2.1 = some (tyJ3 k) := by decide +kernel
abbrev cJ3_checkIndex_8e157 : ByteArray := prog_43_method_11_code
def yJ3_checkIndex_8e157 : MethodName := ⟨RJ3, "checkIndex", "(IILjava/util/function/BiFunction;)I"⟩
abbrev cJ3_checkFromToIndex_8c36e : ByteArray := prog_43_method_12_code
def yJ3_checkFromToIndex_8c36e : MethodName := ⟨RJ3, "checkFromToIndex", "(IIILjava/util/function/BiFunction;)I"⟩
abbrev cJ3_checkFromIndexSize_8c36e : ByteArray := prog_43_method_13_code
def yJ3_checkFromIndexSize_8c36e : MethodName := ⟨RJ3, "checkFromIndexSize", "(IIILjava/util/function/BiFunction;)I"⟩
def RL : String := "InvoicebridgeLaw"
abbrev cL_send : ByteArray := method_3_code
def yL_send : MethodName := ⟨RL, "send", "(LInvoicebridge;IIIII[J)I"⟩
abbrev cL_addLine : ByteArray := method_4_code
def yL_addLine : MethodName := ⟨RL, "addLine", "(LInvoicebridge;III[J)I"⟩
abbrev cL_accept : ByteArray := method_5_code
def yL_accept : MethodName := ⟨RL, "accept", "(LInvoicebridge;I[J)I"⟩
abbrev cL_refuse : ByteArray := method_6_code
def yL_refuse : MethodName := ⟨RL, "refuse", "(LInvoicebridge;I[J)I"⟩
abbrev cL_credit : ByteArray := method_7_code
def yL_credit : MethodName := ⟨RL, "credit", "(LInvoicebridge;III[J)I"⟩
abbrev cL_dispute : ByteArray := method_8_code
def yL_dispute : MethodName := ⟨RL, "dispute", "(LInvoicebridge;II[J)I"⟩
abbrev cL_settle : ByteArray := method_9_code
def yL_settle : MethodName := ⟨RL, "settle", "(LInvoicebridge;IIZ[J)I"⟩
abbrev cL_sell : ByteArray := method_10_code
def yL_sell : MethodName := ⟨RL, "sell", "(LInvoicebridge;IIIZ[J)I"⟩
abbrev cL_giveBack : ByteArray := method_11_code
def yL_giveBack : MethodName := ⟨RL, "giveBack", "(LInvoicebridge;I[J)I"⟩
abbrev cL_type : ByteArray := method_12_code
def yL_type : MethodName := ⟨RL, "type", "(LInvoicebridge;I[J)I"⟩
abbrev cL_payByText : ByteArray := method_13_code
def yL_payByText : MethodName := ⟨RL, "payByText", "(LInvoicebridge;III[J)I"⟩
abbrev cL_payBySum : ByteArray := method_14_code
def yL_payBySum : MethodName := ⟨RL, "payBySum", "(LInvoicebridge;III[J)I"⟩
abbrev cL_pass : ByteArray := method_15_code
def yL_pass : MethodName := ⟨RL, "pass", "(LInvoicebridge;I[J)I"⟩
abbrev cL_about : ByteArray := method_16_code
def yL_about : MethodName := ⟨RL, "about", "(LInvoicebridge;II[J)I"⟩
abbrev cL_lineOf : ByteArray := method_17_code
def yL_lineOf : MethodName := ⟨RL, "lineOf", "(LInvoicebridge;III[J)I"⟩
abbrev cL_cash : ByteArray := method_18_code
def yL_cash : MethodName := ⟨RL, "cash", "(LInvoicebridge;I[J)I"⟩
abbrev cL_cashAnew : ByteArray := method_19_code
def yL_cashAnew : MethodName := ⟨RL, "cashAnew", "(LInvoicebridge;I[J)I"⟩
abbrev cL_owedTo : ByteArray := method_20_code
def yL_owedTo : MethodName := ⟨RL, "owedTo", "(LInvoicebridge;I[J)I"⟩
abbrev cL_owes : ByteArray := method_21_code
def yL_owes : MethodName := ⟨RL, "owes", "(LInvoicebridge;I[J)I"⟩
abbrev cL_tax : ByteArray := method_22_code
def yL_tax : MethodName := ⟨RL, "tax", "(LInvoicebridge;II[J)I"⟩
abbrev cL_carried : ByteArray := method_23_code
def yL_carried : MethodName := ⟨RL, "carried", "(LInvoicebridge;II[J)I"⟩
abbrev cL_chain : ByteArray := method_24_code
def yL_chain : MethodName := ⟨RL, "chain", "(LInvoicebridge;I[J)I"⟩
abbrev cL_law : ByteArray := code
def yL_law : MethodName := ⟨RL, "law", "([I)Z"⟩
abbrev vwCl : List vw_C := [(RJ0, TJ0, 4), (RJ4, TJ4, 4), (RJx00060, TJx00060, 6), (RJx7c733, TJx7c733, 6), (RJx4a65c, TJx4a65c, 3), (RX0, TX0, 3), (RX1, TX1, 3), (RX2, TX2, 12), (RX3, TX3, 4), (RX4, TX4, 6), (RX5, TX5, 25)]
end
section
theorem dX0_init_0 : decode cX0_init 0 = .ok (.aload_n 0, 1) := by decide +kernel
theorem dX0_init_1 : decode cX0_init 1 = .ok (.invokespecial 3, 3) := by decide +kernel
theorem dX0_init_4 : decode cX0_init 4 = .ok (.aload_n 0, 1) := by decide +kernel
theorem dX0_init_5 : decode cX0_init 5 = .ok (.aload_n 1, 1) := by decide +kernel
theorem dX0_init_6 : decode cX0_init 6 = .ok (.putfield 9, 3) := by decide +kernel
theorem dX0_init_9 : decode cX0_init 9 = .ok (.aload_n 0, 1) := by decide +kernel
theorem dX0_init_10 : decode cX0_init 10 = .ok (.iload_n 2, 1) := by decide +kernel
theorem dX0_init_11 : decode cX0_init 11 = .ok (.putfield 15, 3) := by decide +kernel
theorem dX0_init_14 : decode cX0_init 14 = .ok (.aload_n 0, 1) := by decide +kernel
theorem dX0_init_15 : decode cX0_init 15 = .ok (.iload_n 3, 1) := by decide +kernel
theorem dX0_init_16 : decode cX0_init 16 = .ok (.putfield 19, 3) := by decide +kernel
theorem dX0_init_19 : decode cX0_init 19 = .ok (.return_, 1) := by decide +kernel
theorem dX0_taxFor_0 : decode cX0_taxFor 0 = .ok (.aload_n 0, 1) := by decide +kernel
theorem dX0_taxFor_1 : decode cX0_taxFor 1 = .ok (.getfield 15, 3) := by decide +kernel
theorem dX0_taxFor_4 : decode cX0_taxFor 4 = .ok (.iload_n 2, 1) := by decide +kernel
theorem dX0_taxFor_5 : decode cX0_taxFor 5 = .ok (.if_icmp .eq 5, 3) := by decide +kernel
theorem dX0_taxFor_8 : decode cX0_taxFor 8 = .ok (.iconst 0, 1) := by decide +kernel
theorem dX0_taxFor_9 : decode cX0_taxFor 9 = .ok (.ireturn, 1) := by decide +kernel
theorem dX0_taxFor_10 : decode cX0_taxFor 10 = .ok (.iload_n 1, 1) := by decide +kernel
theorem dX0_taxFor_11 : decode cX0_taxFor 11 = .ok (.aload_n 0, 1) := by decide +kernel
theorem dX0_taxFor_12 : decode cX0_taxFor 12 = .ok (.getfield 9, 3) := by decide +kernel
theorem dX0_taxFor_15 : decode cX0_taxFor 15 = .ok (.getfield 22, 3) := by decide +kernel
theorem dX0_taxFor_18 : decode cX0_taxFor 18 = .ok (.if_icmp .ne 20, 3) := by decide +kernel
theorem dX0_taxFor_21 : decode cX0_taxFor 21 = .ok (.aload_n 0, 1) := by decide +kernel
theorem dX0_taxFor_22 : decode cX0_taxFor 22 = .ok (.getfield 9, 3) := by decide +kernel
theorem dX0_taxFor_25 : decode cX0_taxFor 25 = .ok (.getfield 27, 3) := by decide +kernel
theorem dX0_taxFor_28 : decode cX0_taxFor 28 = .ok (.iconst 2, 1) := by decide +kernel
theorem dX0_taxFor_29 : decode cX0_taxFor 29 = .ok (.if_icmp .eq 9, 3) := by decide +kernel
theorem dX0_taxFor_32 : decode cX0_taxFor 32 = .ok (.aload_n 0, 1) := by decide +kernel
theorem dX0_taxFor_33 : decode cX0_taxFor 33 = .ok (.getfield 19, 3) := by decide +kernel
theorem dX0_taxFor_36 : decode cX0_taxFor 36 = .ok (.ineg, 1) := by decide +kernel
theorem dX0_taxFor_37 : decode cX0_taxFor 37 = .ok (.ireturn, 1) := by decide +kernel
theorem dX0_taxFor_38 : decode cX0_taxFor 38 = .ok (.iload_n 1, 1) := by decide +kernel
theorem dX0_taxFor_39 : decode cX0_taxFor 39 = .ok (.aload_n 0, 1) := by decide +kernel
theorem dX0_taxFor_40 : decode cX0_taxFor 40 = .ok (.getfield 9, 3) := by decide +kernel
theorem dX0_taxFor_43 : decode cX0_taxFor 43 = .ok (.getfield 30, 3) := by decide +kernel
theorem dX0_taxFor_46 : decode cX0_taxFor 46 = .ok (.if_icmp .ne 19, 3) := by decide +kernel
theorem dX0_taxFor_49 : decode cX0_taxFor 49 = .ok (.aload_n 0, 1) := by decide +kernel
theorem dX0_taxFor_50 : decode cX0_taxFor 50 = .ok (.getfield 9, 3) := by decide +kernel
theorem dX0_taxFor_53 : decode cX0_taxFor 53 = .ok (.getfield 27, 3) := by decide +kernel
theorem dX0_taxFor_56 : decode cX0_taxFor 56 = .ok (.iconst 1, 1) := by decide +kernel
theorem dX0_taxFor_57 : decode cX0_taxFor 57 = .ok (.if_icmp .ne 8, 3) := by decide +kernel
theorem dX0_taxFor_60 : decode cX0_taxFor 60 = .ok (.aload_n 0, 1) := by decide +kernel
theorem dX0_taxFor_61 : decode cX0_taxFor 61 = .ok (.getfield 19, 3) := by decide +kernel
theorem dX0_taxFor_64 : decode cX0_taxFor 64 = .ok (.ireturn, 1) := by decide +kernel
theorem dX0_taxFor_65 : decode cX0_taxFor 65 = .ok (.iconst 0, 1) := by decide +kernel
theorem dX0_taxFor_66 : decode cX0_taxFor 66 = .ok (.ireturn, 1) := by decide +kernel
theorem dX1_init_0 : decode cX1_init 0 = .ok (.aload_n 0, 1) := by decide +kernel
theorem dX1_init_1 : decode cX1_init 1 = .ok (.invokespecial 1, 3) := by decide +kernel
theorem dX1_init_4 : decode cX1_init 4 = .ok (.aload_n 0, 1) := by decide +kernel
theorem dX1_init_5 : decode cX1_init 5 = .ok (.iload_n 1, 1) := by decide +kernel
theorem dX1_init_6 : decode cX1_init 6 = .ok (.putfield 7, 3) := by decide +kernel
theorem dX1_init_9 : decode cX1_init 9 = .ok (.aload_n 0, 1) := by decide +kernel
theorem dX1_init_10 : decode cX1_init 10 = .ok (.iload_n 2, 1) := by decide +kernel
theorem dX1_init_11 : decode cX1_init 11 = .ok (.putfield 13, 3) := by decide +kernel
theorem dX1_init_14 : decode cX1_init 14 = .ok (.aload_n 0, 1) := by decide +kernel
theorem dX1_init_15 : decode cX1_init 15 = .ok (.iload_n 3, 1) := by decide +kernel
theorem dX1_init_16 : decode cX1_init 16 = .ok (.putfield 16, 3) := by decide +kernel
theorem dX1_init_19 : decode cX1_init 19 = .ok (.return_, 1) := by decide +kernel
theorem dX2_init_0 : decode cX2_init 0 = .ok (.aload_n 0, 1) := by decide +kernel
theorem dX2_init_1 : decode cX2_init 1 = .ok (.invokespecial 3, 3) := by decide +kernel
theorem dX2_init_4 : decode cX2_init 4 = .ok (.aload_n 0, 1) := by decide +kernel
theorem dX2_init_5 : decode cX2_init 5 = .ok (.new 9, 3) := by decide +kernel
theorem dX2_init_8 : decode cX2_init 8 = .ok (.dup, 1) := by decide +kernel
theorem dX2_init_9 : decode cX2_init 9 = .ok (.invokespecial 11, 3) := by decide +kernel
theorem dX2_init_12 : decode cX2_init 12 = .ok (.putfield 12, 3) := by decide +kernel
theorem dX2_init_15 : decode cX2_init 15 = .ok (.aload_n 0, 1) := by decide +kernel
theorem dX2_init_16 : decode cX2_init 16 = .ok (.iconst 0, 1) := by decide +kernel
theorem dX2_init_17 : decode cX2_init 17 = .ok (.putfield 18, 3) := by decide +kernel
theorem dX2_init_20 : decode cX2_init 20 = .ok (.aload_n 0, 1) := by decide +kernel
theorem dX2_init_21 : decode cX2_init 21 = .ok (.iconst (-1), 1) := by decide +kernel
theorem dX2_init_22 : decode cX2_init 22 = .ok (.putfield 22, 3) := by decide +kernel
theorem dX2_init_25 : decode cX2_init 25 = .ok (.aload_n 0, 1) := by decide +kernel
theorem dX2_init_26 : decode cX2_init 26 = .ok (.iconst 0, 1) := by decide +kernel
theorem dX2_init_27 : decode cX2_init 27 = .ok (.putfield 25, 3) := by decide +kernel
theorem dX2_init_30 : decode cX2_init 30 = .ok (.aload_n 0, 1) := by decide +kernel
theorem dX2_init_31 : decode cX2_init 31 = .ok (.iconst 0, 1) := by decide +kernel
theorem dX2_init_32 : decode cX2_init 32 = .ok (.putfield 29, 3) := by decide +kernel
theorem dX2_init_35 : decode cX2_init 35 = .ok (.aload_n 0, 1) := by decide +kernel
theorem dX2_init_36 : decode cX2_init 36 = .ok (.iconst 0, 1) := by decide +kernel
theorem dX2_init_37 : decode cX2_init 37 = .ok (.putfield 32, 3) := by decide +kernel
theorem dX2_init_40 : decode cX2_init 40 = .ok (.aload_n 0, 1) := by decide +kernel
theorem dX2_init_41 : decode cX2_init 41 = .ok (.iconst 0, 1) := by decide +kernel
theorem dX2_init_42 : decode cX2_init 42 = .ok (.putfield 35, 3) := by decide +kernel
theorem dX2_init_45 : decode cX2_init 45 = .ok (.aload_n 0, 1) := by decide +kernel
theorem dX2_init_46 : decode cX2_init 46 = .ok (.iload_n 1, 1) := by decide +kernel
theorem dX2_init_47 : decode cX2_init 47 = .ok (.putfield 38, 3) := by decide +kernel
theorem dX2_init_50 : decode cX2_init 50 = .ok (.aload_n 0, 1) := by decide +kernel
theorem dX2_init_51 : decode cX2_init 51 = .ok (.iload_n 2, 1) := by decide +kernel
theorem dX2_init_52 : decode cX2_init 52 = .ok (.putfield 41, 3) := by decide +kernel
theorem dX2_init_55 : decode cX2_init 55 = .ok (.aload_n 0, 1) := by decide +kernel
theorem dX2_init_56 : decode cX2_init 56 = .ok (.iload_n 3, 1) := by decide +kernel
theorem dX2_init_57 : decode cX2_init 57 = .ok (.putfield 44, 3) := by decide +kernel
theorem dX2_init_60 : decode cX2_init 60 = .ok (.aload_n 0, 1) := by decide +kernel
theorem dX2_init_61 : decode cX2_init 61 = .ok (.iload 4, 2) := by decide +kernel
theorem dX2_init_63 : decode cX2_init 63 = .ok (.putfield 47, 3) := by decide +kernel
theorem dX2_init_66 : decode cX2_init 66 = .ok (.aload_n 0, 1) := by decide +kernel
theorem dX2_init_67 : decode cX2_init 67 = .ok (.iload_n 1, 1) := by decide +kernel
theorem dX2_init_68 : decode cX2_init 68 = .ok (.putfield 50, 3) := by decide +kernel
theorem dX2_init_71 : decode cX2_init 71 = .ok (.return_, 1) := by decide +kernel
theorem dX2_isAcceptedOf_0 : decode cX2_isAcceptedOf 0 = .ok (.aload_n 0, 1) := by decide +kernel
theorem dX2_isAcceptedOf_1 : decode cX2_isAcceptedOf 1 = .ok (.getfield 18, 3) := by decide +kernel
theorem dX2_isAcceptedOf_4 : decode cX2_isAcceptedOf 4 = .ok (.iconst 1, 1) := by decide +kernel
theorem dX2_isAcceptedOf_5 : decode cX2_isAcceptedOf 5 = .ok (.if_icmp .ne 15, 3) := by decide +kernel
theorem dX2_isAcceptedOf_8 : decode cX2_isAcceptedOf 8 = .ok (.aload_n 0, 1) := by decide +kernel
theorem dX2_isAcceptedOf_9 : decode cX2_isAcceptedOf 9 = .ok (.getfield 44, 3) := by decide +kernel
theorem dX2_isAcceptedOf_12 : decode cX2_isAcceptedOf 12 = .ok (.iload_n 1, 1) := by decide +kernel
theorem dX2_isAcceptedOf_13 : decode cX2_isAcceptedOf 13 = .ok (.if_icmp .ne 7, 3) := by decide +kernel
theorem dX2_isAcceptedOf_16 : decode cX2_isAcceptedOf 16 = .ok (.iconst 1, 1) := by decide +kernel
theorem dX2_isAcceptedOf_17 : decode cX2_isAcceptedOf 17 = .ok (.goto 4, 3) := by decide +kernel
theorem dX2_isAcceptedOf_20 : decode cX2_isAcceptedOf 20 = .ok (.iconst 0, 1) := by decide +kernel
theorem dX2_isAcceptedOf_21 : decode cX2_isAcceptedOf 21 = .ok (.ireturn, 1) := by decide +kernel
theorem dX2_costNow_0 : decode cX2_costNow 0 = .ok (.iconst 0, 1) := by decide +kernel
theorem dX2_costNow_1 : decode cX2_costNow 1 = .ok (.istore_n 1, 1) := by decide +kernel
theorem dX2_costNow_2 : decode cX2_costNow 2 = .ok (.iconst 0, 1) := by decide +kernel
theorem dX2_costNow_3 : decode cX2_costNow 3 = .ok (.istore_n 2, 1) := by decide +kernel
theorem dX2_costNow_4 : decode cX2_costNow 4 = .ok (.iload_n 2, 1) := by decide +kernel
theorem dX2_costNow_5 : decode cX2_costNow 5 = .ok (.aload_n 0, 1) := by decide +kernel
theorem dX2_costNow_6 : decode cX2_costNow 6 = .ok (.getfield 12, 3) := by decide +kernel
theorem dX2_costNow_9 : decode cX2_costNow 9 = .ok (.invokevirtual 53, 3) := by decide +kernel
theorem dX2_costNow_12 : decode cX2_costNow 12 = .ok (.if_icmp .ge 26, 3) := by decide +kernel
theorem dX2_costNow_15 : decode cX2_costNow 15 = .ok (.iload_n 1, 1) := by decide +kernel
theorem dX2_costNow_16 : decode cX2_costNow 16 = .ok (.aload_n 0, 1) := by decide +kernel
theorem dX2_costNow_17 : decode cX2_costNow 17 = .ok (.getfield 12, 3) := by decide +kernel
theorem dX2_costNow_20 : decode cX2_costNow 20 = .ok (.iload_n 2, 1) := by decide +kernel
theorem dX2_costNow_21 : decode cX2_costNow 21 = .ok (.invokevirtual 57, 3) := by decide +kernel
theorem dX2_costNow_24 : decode cX2_costNow 24 = .ok (.checkcast 61, 3) := by decide +kernel
theorem dX2_costNow_27 : decode cX2_costNow 27 = .ok (.invokevirtual 63, 3) := by decide +kernel
theorem dX2_costNow_30 : decode cX2_costNow 30 = .ok (.iadd, 1) := by decide +kernel
theorem dX2_costNow_31 : decode cX2_costNow 31 = .ok (.istore_n 1, 1) := by decide +kernel
theorem dX2_costNow_32 : decode cX2_costNow 32 = .ok (.iinc 2 1, 3) := by decide +kernel
theorem dX2_costNow_35 : decode cX2_costNow 35 = .ok (.goto (-31), 3) := by decide +kernel
theorem dX2_costNow_38 : decode cX2_costNow 38 = .ok (.iload_n 1, 1) := by decide +kernel
theorem dX2_costNow_39 : decode cX2_costNow 39 = .ok (.ireturn, 1) := by decide +kernel
theorem dX2_owedNow_0 : decode cX2_owedNow 0 = .ok (.aload_n 0, 1) := by decide +kernel
theorem dX2_owedNow_1 : decode cX2_owedNow 1 = .ok (.getfield 18, 3) := by decide +kernel
theorem dX2_owedNow_4 : decode cX2_owedNow 4 = .ok (.iconst 1, 1) := by decide +kernel
theorem dX2_owedNow_5 : decode cX2_owedNow 5 = .ok (.if_icmp .eq 5, 3) := by decide +kernel
theorem dX2_owedNow_8 : decode cX2_owedNow 8 = .ok (.iconst 0, 1) := by decide +kernel
theorem dX2_owedNow_9 : decode cX2_owedNow 9 = .ok (.ireturn, 1) := by decide +kernel
theorem dX2_owedNow_10 : decode cX2_owedNow 10 = .ok (.iconst 0, 1) := by decide +kernel
theorem dX2_owedNow_11 : decode cX2_owedNow 11 = .ok (.istore_n 1, 1) := by decide +kernel
theorem dX2_owedNow_12 : decode cX2_owedNow 12 = .ok (.iconst 0, 1) := by decide +kernel
theorem dX2_owedNow_13 : decode cX2_owedNow 13 = .ok (.istore_n 2, 1) := by decide +kernel
theorem dX2_owedNow_14 : decode cX2_owedNow 14 = .ok (.iload_n 2, 1) := by decide +kernel
theorem dX2_owedNow_15 : decode cX2_owedNow 15 = .ok (.aload_n 0, 1) := by decide +kernel
theorem dX2_owedNow_16 : decode cX2_owedNow 16 = .ok (.getfield 12, 3) := by decide +kernel
theorem dX2_owedNow_19 : decode cX2_owedNow 19 = .ok (.invokevirtual 53, 3) := by decide +kernel
theorem dX2_owedNow_22 : decode cX2_owedNow 22 = .ok (.if_icmp .ge 39, 3) := by decide +kernel
theorem dX2_owedNow_25 : decode cX2_owedNow 25 = .ok (.aload_n 0, 1) := by decide +kernel
theorem dX2_owedNow_26 : decode cX2_owedNow 26 = .ok (.getfield 12, 3) := by decide +kernel
theorem dX2_owedNow_29 : decode cX2_owedNow 29 = .ok (.iload_n 2, 1) := by decide +kernel
theorem dX2_owedNow_30 : decode cX2_owedNow 30 = .ok (.invokevirtual 57, 3) := by decide +kernel
theorem dX2_owedNow_33 : decode cX2_owedNow 33 = .ok (.checkcast 61, 3) := by decide +kernel
theorem dX2_owedNow_36 : decode cX2_owedNow 36 = .ok (.astore_n 3, 1) := by decide +kernel
theorem dX2_owedNow_37 : decode cX2_owedNow 37 = .ok (.iload_n 1, 1) := by decide +kernel
theorem dX2_owedNow_38 : decode cX2_owedNow 38 = .ok (.aload_n 3, 1) := by decide +kernel
theorem dX2_owedNow_39 : decode cX2_owedNow 39 = .ok (.getfield 66, 3) := by decide +kernel
theorem dX2_owedNow_42 : decode cX2_owedNow 42 = .ok (.ifCond .eq 7, 3) := by decide +kernel
theorem dX2_owedNow_45 : decode cX2_owedNow 45 = .ok (.iconst 0, 1) := by decide +kernel
theorem dX2_owedNow_46 : decode cX2_owedNow 46 = .ok (.goto 7, 3) := by decide +kernel
theorem dX2_owedNow_49 : decode cX2_owedNow 49 = .ok (.aload_n 3, 1) := by decide +kernel
theorem dX2_owedNow_50 : decode cX2_owedNow 50 = .ok (.invokevirtual 63, 3) := by decide +kernel
theorem dX2_owedNow_53 : decode cX2_owedNow 53 = .ok (.iadd, 1) := by decide +kernel
theorem dX2_owedNow_54 : decode cX2_owedNow 54 = .ok (.istore_n 1, 1) := by decide +kernel
theorem dX2_owedNow_55 : decode cX2_owedNow 55 = .ok (.iinc 2 1, 3) := by decide +kernel
theorem dX2_owedNow_58 : decode cX2_owedNow 58 = .ok (.goto (-44), 3) := by decide +kernel
theorem dX2_owedNow_61 : decode cX2_owedNow 61 = .ok (.iload_n 1, 1) := by decide +kernel
theorem dX2_owedNow_62 : decode cX2_owedNow 62 = .ok (.aload_n 0, 1) := by decide +kernel
theorem dX2_owedNow_63 : decode cX2_owedNow 63 = .ok (.getfield 29, 3) := by decide +kernel
theorem dX2_owedNow_66 : decode cX2_owedNow 66 = .ok (.isub, 1) := by decide +kernel
theorem dX2_owedNow_67 : decode cX2_owedNow 67 = .ok (.iconst 0, 1) := by decide +kernel
theorem dX2_owedNow_68 : decode cX2_owedNow 68 = .ok (.invokestatic 69, 3) := by decide +kernel
theorem dX2_owedNow_71 : decode cX2_owedNow 71 = .ok (.ireturn, 1) := by decide +kernel
theorem dX2_taxNow_0 : decode cX2_taxNow 0 = .ok (.iconst 0, 1) := by decide +kernel
theorem dX2_taxNow_1 : decode cX2_taxNow 1 = .ok (.istore_n 1, 1) := by decide +kernel
theorem dX2_taxNow_2 : decode cX2_taxNow 2 = .ok (.iconst 0, 1) := by decide +kernel
theorem dX2_taxNow_3 : decode cX2_taxNow 3 = .ok (.istore_n 2, 1) := by decide +kernel
theorem dX2_taxNow_4 : decode cX2_taxNow 4 = .ok (.iload_n 2, 1) := by decide +kernel
theorem dX2_taxNow_5 : decode cX2_taxNow 5 = .ok (.aload_n 0, 1) := by decide +kernel
theorem dX2_taxNow_6 : decode cX2_taxNow 6 = .ok (.getfield 12, 3) := by decide +kernel
theorem dX2_taxNow_9 : decode cX2_taxNow 9 = .ok (.invokevirtual 53, 3) := by decide +kernel
theorem dX2_taxNow_12 : decode cX2_taxNow 12 = .ok (.if_icmp .ge 26, 3) := by decide +kernel
theorem dX2_taxNow_15 : decode cX2_taxNow 15 = .ok (.iload_n 1, 1) := by decide +kernel
theorem dX2_taxNow_16 : decode cX2_taxNow 16 = .ok (.aload_n 0, 1) := by decide +kernel
theorem dX2_taxNow_17 : decode cX2_taxNow 17 = .ok (.getfield 12, 3) := by decide +kernel
theorem dX2_taxNow_20 : decode cX2_taxNow 20 = .ok (.iload_n 2, 1) := by decide +kernel
theorem dX2_taxNow_21 : decode cX2_taxNow 21 = .ok (.invokevirtual 57, 3) := by decide +kernel
theorem dX2_taxNow_24 : decode cX2_taxNow 24 = .ok (.checkcast 61, 3) := by decide +kernel
theorem dX2_taxNow_27 : decode cX2_taxNow 27 = .ok (.invokevirtual 75, 3) := by decide +kernel
theorem dX2_taxNow_30 : decode cX2_taxNow 30 = .ok (.iadd, 1) := by decide +kernel
theorem dX2_taxNow_31 : decode cX2_taxNow 31 = .ok (.istore_n 1, 1) := by decide +kernel
theorem dX2_taxNow_32 : decode cX2_taxNow 32 = .ok (.iinc 2 1, 3) := by decide +kernel
theorem dX2_taxNow_35 : decode cX2_taxNow 35 = .ok (.goto (-31), 3) := by decide +kernel
theorem dX2_taxNow_38 : decode cX2_taxNow 38 = .ok (.iload_n 1, 1) := by decide +kernel
theorem dX2_taxNow_39 : decode cX2_taxNow 39 = .ok (.ireturn, 1) := by decide +kernel
theorem dX2_taxAsMade_0 : decode cX2_taxAsMade 0 = .ok (.iconst 0, 1) := by decide +kernel
theorem dX2_taxAsMade_1 : decode cX2_taxAsMade 1 = .ok (.istore_n 1, 1) := by decide +kernel
theorem dX2_taxAsMade_2 : decode cX2_taxAsMade 2 = .ok (.iconst 0, 1) := by decide +kernel
theorem dX2_taxAsMade_3 : decode cX2_taxAsMade 3 = .ok (.istore_n 2, 1) := by decide +kernel
theorem dX2_taxAsMade_4 : decode cX2_taxAsMade 4 = .ok (.iload_n 2, 1) := by decide +kernel
theorem dX2_taxAsMade_5 : decode cX2_taxAsMade 5 = .ok (.aload_n 0, 1) := by decide +kernel
theorem dX2_taxAsMade_6 : decode cX2_taxAsMade 6 = .ok (.getfield 12, 3) := by decide +kernel
theorem dX2_taxAsMade_9 : decode cX2_taxAsMade 9 = .ok (.invokevirtual 53, 3) := by decide +kernel
theorem dX2_taxAsMade_12 : decode cX2_taxAsMade 12 = .ok (.if_icmp .ge 26, 3) := by decide +kernel
theorem dX2_taxAsMade_15 : decode cX2_taxAsMade 15 = .ok (.iload_n 1, 1) := by decide +kernel
theorem dX2_taxAsMade_16 : decode cX2_taxAsMade 16 = .ok (.aload_n 0, 1) := by decide +kernel
theorem dX2_taxAsMade_17 : decode cX2_taxAsMade 17 = .ok (.getfield 12, 3) := by decide +kernel
theorem dX2_taxAsMade_20 : decode cX2_taxAsMade 20 = .ok (.iload_n 2, 1) := by decide +kernel
theorem dX2_taxAsMade_21 : decode cX2_taxAsMade 21 = .ok (.invokevirtual 57, 3) := by decide +kernel
theorem dX2_taxAsMade_24 : decode cX2_taxAsMade 24 = .ok (.checkcast 61, 3) := by decide +kernel
theorem dX2_taxAsMade_27 : decode cX2_taxAsMade 27 = .ok (.invokevirtual 78, 3) := by decide +kernel
theorem dX2_taxAsMade_30 : decode cX2_taxAsMade 30 = .ok (.iadd, 1) := by decide +kernel
theorem dX2_taxAsMade_31 : decode cX2_taxAsMade 31 = .ok (.istore_n 1, 1) := by decide +kernel
theorem dX2_taxAsMade_32 : decode cX2_taxAsMade 32 = .ok (.iinc 2 1, 3) := by decide +kernel
theorem dX2_taxAsMade_35 : decode cX2_taxAsMade 35 = .ok (.goto (-31), 3) := by decide +kernel
theorem dX2_taxAsMade_38 : decode cX2_taxAsMade 38 = .ok (.iload_n 1, 1) := by decide +kernel
theorem dX2_taxAsMade_39 : decode cX2_taxAsMade 39 = .ok (.ireturn, 1) := by decide +kernel
theorem dX2_taxFor_0 : decode cX2_taxFor 0 = .ok (.iload_n 1, 1) := by decide +kernel
theorem dX2_taxFor_1 : decode cX2_taxFor 1 = .ok (.aload_n 0, 1) := by decide +kernel
theorem dX2_taxFor_2 : decode cX2_taxFor 2 = .ok (.getfield 38, 3) := by decide +kernel
theorem dX2_taxFor_5 : decode cX2_taxFor 5 = .ok (.if_icmp .ne 27, 3) := by decide +kernel
theorem dX2_taxFor_8 : decode cX2_taxFor 8 = .ok (.aload_n 0, 1) := by decide +kernel
theorem dX2_taxFor_9 : decode cX2_taxFor 9 = .ok (.getfield 18, 3) := by decide +kernel
theorem dX2_taxFor_12 : decode cX2_taxFor 12 = .ok (.iconst 2, 1) := by decide +kernel
theorem dX2_taxFor_13 : decode cX2_taxFor 13 = .ok (.if_icmp .eq 19, 3) := by decide +kernel
theorem dX2_taxFor_16 : decode cX2_taxFor 16 = .ok (.aload_n 0, 1) := by decide +kernel
theorem dX2_taxFor_17 : decode cX2_taxFor 17 = .ok (.getfield 47, 3) := by decide +kernel
theorem dX2_taxFor_20 : decode cX2_taxFor 20 = .ok (.invokestatic 81, 3) := by decide +kernel
theorem dX2_taxFor_23 : decode cX2_taxFor 23 = .ok (.iload_n 2, 1) := by decide +kernel
theorem dX2_taxFor_24 : decode cX2_taxFor 24 = .ok (.if_icmp .ne 8, 3) := by decide +kernel
theorem dX2_taxFor_27 : decode cX2_taxFor 27 = .ok (.aload_n 0, 1) := by decide +kernel
theorem dX2_taxFor_28 : decode cX2_taxFor 28 = .ok (.invokevirtual 85, 3) := by decide +kernel
theorem dX2_taxFor_31 : decode cX2_taxFor 31 = .ok (.ireturn, 1) := by decide +kernel
theorem dX2_taxFor_32 : decode cX2_taxFor 32 = .ok (.iload_n 1, 1) := by decide +kernel
theorem dX2_taxFor_33 : decode cX2_taxFor 33 = .ok (.aload_n 0, 1) := by decide +kernel
theorem dX2_taxFor_34 : decode cX2_taxFor 34 = .ok (.getfield 41, 3) := by decide +kernel
theorem dX2_taxFor_37 : decode cX2_taxFor 37 = .ok (.if_icmp .ne 28, 3) := by decide +kernel
theorem dX2_taxFor_40 : decode cX2_taxFor 40 = .ok (.aload_n 0, 1) := by decide +kernel
theorem dX2_taxFor_41 : decode cX2_taxFor 41 = .ok (.getfield 18, 3) := by decide +kernel
theorem dX2_taxFor_44 : decode cX2_taxFor 44 = .ok (.iconst 1, 1) := by decide +kernel
theorem dX2_taxFor_45 : decode cX2_taxFor 45 = .ok (.if_icmp .ne 20, 3) := by decide +kernel
theorem dX2_taxFor_48 : decode cX2_taxFor 48 = .ok (.aload_n 0, 1) := by decide +kernel
theorem dX2_taxFor_49 : decode cX2_taxFor 49 = .ok (.getfield 22, 3) := by decide +kernel
theorem dX2_taxFor_52 : decode cX2_taxFor 52 = .ok (.invokestatic 81, 3) := by decide +kernel
theorem dX2_taxFor_55 : decode cX2_taxFor 55 = .ok (.iload_n 2, 1) := by decide +kernel
theorem dX2_taxFor_56 : decode cX2_taxFor 56 = .ok (.if_icmp .ne 9, 3) := by decide +kernel
theorem dX2_taxFor_59 : decode cX2_taxFor 59 = .ok (.aload_n 0, 1) := by decide +kernel
theorem dX2_taxFor_60 : decode cX2_taxFor 60 = .ok (.invokevirtual 85, 3) := by decide +kernel
theorem dX2_taxFor_63 : decode cX2_taxFor 63 = .ok (.ineg, 1) := by decide +kernel
theorem dX2_taxFor_64 : decode cX2_taxFor 64 = .ok (.ireturn, 1) := by decide +kernel
theorem dX2_taxFor_65 : decode cX2_taxFor 65 = .ok (.iconst 0, 1) := by decide +kernel
theorem dX2_taxFor_66 : decode cX2_taxFor 66 = .ok (.ireturn, 1) := by decide +kernel
theorem dX3_init_0 : decode cX3_init 0 = .ok (.aload_n 0, 1) := by decide +kernel
theorem dX3_init_1 : decode cX3_init 1 = .ok (.invokespecial 1, 3) := by decide +kernel
theorem dX3_init_4 : decode cX3_init 4 = .ok (.aload_n 0, 1) := by decide +kernel
theorem dX3_init_5 : decode cX3_init 5 = .ok (.iconst 0, 1) := by decide +kernel
theorem dX3_init_6 : decode cX3_init 6 = .ok (.putfield 7, 3) := by decide +kernel
theorem dX3_init_9 : decode cX3_init 9 = .ok (.aload_n 0, 1) := by decide +kernel
theorem dX3_init_10 : decode cX3_init 10 = .ok (.iload_n 1, 1) := by decide +kernel
theorem dX3_init_11 : decode cX3_init 11 = .ok (.putfield 13, 3) := by decide +kernel
theorem dX3_init_14 : decode cX3_init 14 = .ok (.aload_n 0, 1) := by decide +kernel
theorem dX3_init_15 : decode cX3_init 15 = .ok (.iload_n 2, 1) := by decide +kernel
theorem dX3_init_16 : decode cX3_init 16 = .ok (.putfield 17, 3) := by decide +kernel
theorem dX3_init_19 : decode cX3_init 19 = .ok (.aload_n 0, 1) := by decide +kernel
theorem dX3_init_20 : decode cX3_init 20 = .ok (.iload_n 1, 1) := by decide +kernel
theorem dX3_init_21 : decode cX3_init 21 = .ok (.putfield 20, 3) := by decide +kernel
theorem dX3_init_24 : decode cX3_init 24 = .ok (.return_, 1) := by decide +kernel
theorem dX3_taxNow_0 : decode cX3_taxNow 0 = .ok (.aload_n 0, 1) := by decide +kernel
theorem dX3_taxNow_1 : decode cX3_taxNow 1 = .ok (.getfield 20, 3) := by decide +kernel
theorem dX3_taxNow_4 : decode cX3_taxNow 4 = .ok (.aload_n 0, 1) := by decide +kernel
theorem dX3_taxNow_5 : decode cX3_taxNow 5 = .ok (.getfield 17, 3) := by decide +kernel
theorem dX3_taxNow_8 : decode cX3_taxNow 8 = .ok (.invokestatic 23, 3) := by decide +kernel
theorem dX3_taxNow_11 : decode cX3_taxNow 11 = .ok (.ireturn, 1) := by decide +kernel
theorem dX3_taxAsMade_0 : decode cX3_taxAsMade 0 = .ok (.aload_n 0, 1) := by decide +kernel
theorem dX3_taxAsMade_1 : decode cX3_taxAsMade 1 = .ok (.getfield 13, 3) := by decide +kernel
theorem dX3_taxAsMade_4 : decode cX3_taxAsMade 4 = .ok (.aload_n 0, 1) := by decide +kernel
theorem dX3_taxAsMade_5 : decode cX3_taxAsMade 5 = .ok (.getfield 17, 3) := by decide +kernel
theorem dX3_taxAsMade_8 : decode cX3_taxAsMade 8 = .ok (.invokestatic 23, 3) := by decide +kernel
theorem dX3_taxAsMade_11 : decode cX3_taxAsMade 11 = .ok (.ireturn, 1) := by decide +kernel
theorem dX3_costNow_0 : decode cX3_costNow 0 = .ok (.aload_n 0, 1) := by decide +kernel
theorem dX3_costNow_1 : decode cX3_costNow 1 = .ok (.getfield 20, 3) := by decide +kernel
theorem dX3_costNow_4 : decode cX3_costNow 4 = .ok (.aload_n 0, 1) := by decide +kernel
theorem dX3_costNow_5 : decode cX3_costNow 5 = .ok (.invokevirtual 29, 3) := by decide +kernel
theorem dX3_costNow_8 : decode cX3_costNow 8 = .ok (.iadd, 1) := by decide +kernel
theorem dX3_costNow_9 : decode cX3_costNow 9 = .ok (.ireturn, 1) := by decide +kernel
theorem dX4_init_0 : decode cX4_init 0 = .ok (.aload_n 0, 1) := by decide +kernel
theorem dX4_init_1 : decode cX4_init 1 = .ok (.invokespecial 1, 3) := by decide +kernel
theorem dX4_init_4 : decode cX4_init 4 = .ok (.aload_n 0, 1) := by decide +kernel
theorem dX4_init_5 : decode cX4_init 5 = .ok (.new 7, 3) := by decide +kernel
theorem dX4_init_8 : decode cX4_init 8 = .ok (.dup, 1) := by decide +kernel
theorem dX4_init_9 : decode cX4_init 9 = .ok (.invokespecial 9, 3) := by decide +kernel
theorem dX4_init_12 : decode cX4_init 12 = .ok (.putfield 10, 3) := by decide +kernel
theorem dX4_init_15 : decode cX4_init 15 = .ok (.aload_n 0, 1) := by decide +kernel
theorem dX4_init_16 : decode cX4_init 16 = .ok (.new 7, 3) := by decide +kernel
theorem dX4_init_19 : decode cX4_init 19 = .ok (.dup, 1) := by decide +kernel
theorem dX4_init_20 : decode cX4_init 20 = .ok (.invokespecial 9, 3) := by decide +kernel
theorem dX4_init_23 : decode cX4_init 23 = .ok (.putfield 16, 3) := by decide +kernel
theorem dX4_init_26 : decode cX4_init 26 = .ok (.aload_n 0, 1) := by decide +kernel
theorem dX4_init_27 : decode cX4_init 27 = .ok (.new 7, 3) := by decide +kernel
theorem dX4_init_30 : decode cX4_init 30 = .ok (.dup, 1) := by decide +kernel
theorem dX4_init_31 : decode cX4_init 31 = .ok (.invokespecial 9, 3) := by decide +kernel
theorem dX4_init_34 : decode cX4_init 34 = .ok (.putfield 19, 3) := by decide +kernel
theorem dX4_init_37 : decode cX4_init 37 = .ok (.aload_n 0, 1) := by decide +kernel
theorem dX4_init_38 : decode cX4_init 38 = .ok (.bipush 6, 2) := by decide +kernel
theorem dX4_init_40 : decode cX4_init 40 = .ok (.newarray .int, 2) := by decide +kernel
theorem dX4_init_42 : decode cX4_init 42 = .ok (.putfield 22, 3) := by decide +kernel
theorem dX4_init_45 : decode cX4_init 45 = .ok (.aload_n 0, 1) := by decide +kernel
theorem dX4_init_46 : decode cX4_init 46 = .ok (.new 26, 3) := by decide +kernel
theorem dX4_init_49 : decode cX4_init 49 = .ok (.dup, 1) := by decide +kernel
theorem dX4_init_50 : decode cX4_init 50 = .ok (.invokespecial 28, 3) := by decide +kernel
theorem dX4_init_53 : decode cX4_init 53 = .ok (.putfield 29, 3) := by decide +kernel
theorem dX4_init_56 : decode cX4_init 56 = .ok (.aload_n 0, 1) := by decide +kernel
theorem dX4_init_57 : decode cX4_init 57 = .ok (.iconst 0, 1) := by decide +kernel
theorem dX4_init_58 : decode cX4_init 58 = .ok (.putfield 33, 3) := by decide +kernel
theorem dX4_init_61 : decode cX4_init 61 = .ok (.return_, 1) := by decide +kernel
theorem dX4_send_0 : decode cX4_send 0 = .ok (.aload_n 0, 1) := by decide +kernel
theorem dX4_send_1 : decode cX4_send 1 = .ok (.iload_n 1, 1) := by decide +kernel
theorem dX4_send_2 : decode cX4_send 2 = .ok (.invokevirtual 37, 3) := by decide +kernel
theorem dX4_send_5 : decode cX4_send 5 = .ok (.aload_n 0, 1) := by decide +kernel
theorem dX4_send_6 : decode cX4_send 6 = .ok (.iload_n 2, 1) := by decide +kernel
theorem dX4_send_7 : decode cX4_send 7 = .ok (.invokevirtual 37, 3) := by decide +kernel
theorem dX4_send_10 : decode cX4_send 10 = .ok (.aload_n 0, 1) := by decide +kernel
theorem dX4_send_11 : decode cX4_send 11 = .ok (.iload_n 3, 1) := by decide +kernel
theorem dX4_send_12 : decode cX4_send 12 = .ok (.invokevirtual 41, 3) := by decide +kernel
theorem dX4_send_15 : decode cX4_send 15 = .ok (.aload_n 0, 1) := by decide +kernel
theorem dX4_send_16 : decode cX4_send 16 = .ok (.iload 4, 2) := by decide +kernel
theorem dX4_send_18 : decode cX4_send 18 = .ok (.invokevirtual 44, 3) := by decide +kernel
theorem dX4_send_21 : decode cX4_send 21 = .ok (.aload_n 0, 1) := by decide +kernel
theorem dX4_send_22 : decode cX4_send 22 = .ok (.iload 5, 2) := by decide +kernel
theorem dX4_send_24 : decode cX4_send 24 = .ok (.invokevirtual 47, 3) := by decide +kernel
theorem dX4_send_27 : decode cX4_send 27 = .ok (.aload_n 0, 1) := by decide +kernel
theorem dX4_send_28 : decode cX4_send 28 = .ok (.iload_n 1, 1) := by decide +kernel
theorem dX4_send_29 : decode cX4_send 29 = .ok (.iload_n 2, 1) := by decide +kernel
theorem dX4_send_30 : decode cX4_send 30 = .ok (.invokevirtual 50, 3) := by decide +kernel
theorem dX4_send_33 : decode cX4_send 33 = .ok (.aload_n 0, 1) := by decide +kernel
theorem dX4_send_34 : decode cX4_send 34 = .ok (.getfield 10, 3) := by decide +kernel
theorem dX4_send_37 : decode cX4_send 37 = .ok (.invokevirtual 54, 3) := by decide +kernel
theorem dX4_send_40 : decode cX4_send 40 = .ok (.bipush 20, 2) := by decide +kernel
theorem dX4_send_42 : decode cX4_send 42 = .ok (.if_icmp .lt 13, 3) := by decide +kernel
theorem dX4_send_45 : decode cX4_send 45 = .ok (.new 58, 3) := by decide +kernel
theorem dX4_send_48 : decode cX4_send 48 = .ok (.dup, 1) := by decide +kernel
theorem dX4_send_49 : decode cX4_send 49 = .ok (.ldc 60, 2) := by decide +kernel
theorem dX4_send_51 : decode cX4_send 51 = .ok (.invokespecial 62, 3) := by decide +kernel
theorem dX4_send_54 : decode cX4_send 54 = .ok (.athrow, 1) := by decide +kernel
theorem dX4_send_55 : decode cX4_send 55 = .ok (.new 65, 3) := by decide +kernel
theorem dX4_send_58 : decode cX4_send 58 = .ok (.dup, 1) := by decide +kernel
theorem dX4_send_59 : decode cX4_send 59 = .ok (.iload_n 1, 1) := by decide +kernel
theorem dX4_send_60 : decode cX4_send 60 = .ok (.iload_n 2, 1) := by decide +kernel
theorem dX4_send_61 : decode cX4_send 61 = .ok (.iload_n 3, 1) := by decide +kernel
theorem dX4_send_62 : decode cX4_send 62 = .ok (.aload_n 0, 1) := by decide +kernel
theorem dX4_send_63 : decode cX4_send 63 = .ok (.getfield 33, 3) := by decide +kernel
theorem dX4_send_66 : decode cX4_send 66 = .ok (.invokespecial 67, 3) := by decide +kernel
theorem dX4_send_69 : decode cX4_send 69 = .ok (.astore 6, 2) := by decide +kernel
theorem dX4_send_71 : decode cX4_send 71 = .ok (.aload 6, 2) := by decide +kernel
theorem dX4_send_73 : decode cX4_send 73 = .ok (.getfield 70, 3) := by decide +kernel
theorem dX4_send_76 : decode cX4_send 76 = .ok (.new 73, 3) := by decide +kernel
theorem dX4_send_79 : decode cX4_send 79 = .ok (.dup, 1) := by decide +kernel
theorem dX4_send_80 : decode cX4_send 80 = .ok (.iload 4, 2) := by decide +kernel
theorem dX4_send_82 : decode cX4_send 82 = .ok (.iload 5, 2) := by decide +kernel
theorem dX4_send_84 : decode cX4_send 84 = .ok (.invokespecial 75, 3) := by decide +kernel
theorem dX4_send_87 : decode cX4_send 87 = .ok (.invokevirtual 77, 3) := by decide +kernel
theorem dX4_send_90 : decode cX4_send 90 = .ok (.pop, 1) := by decide +kernel
theorem dX4_send_91 : decode cX4_send 91 = .ok (.aload_n 0, 1) := by decide +kernel
theorem dX4_send_92 : decode cX4_send 92 = .ok (.getfield 10, 3) := by decide +kernel
theorem dX4_send_95 : decode cX4_send 95 = .ok (.aload 6, 2) := by decide +kernel
theorem dX4_send_97 : decode cX4_send 97 = .ok (.invokevirtual 77, 3) := by decide +kernel
theorem dX4_send_100 : decode cX4_send 100 = .ok (.pop, 1) := by decide +kernel
theorem dX4_send_101 : decode cX4_send 101 = .ok (.aload_n 0, 1) := by decide +kernel
theorem dX4_send_102 : decode cX4_send 102 = .ok (.getfield 10, 3) := by decide +kernel
theorem dX4_send_105 : decode cX4_send 105 = .ok (.invokevirtual 54, 3) := by decide +kernel
theorem dX4_send_108 : decode cX4_send 108 = .ok (.iconst 1, 1) := by decide +kernel
theorem dX4_send_109 : decode cX4_send 109 = .ok (.isub, 1) := by decide +kernel
theorem dX4_send_110 : decode cX4_send 110 = .ok (.ireturn, 1) := by decide +kernel
theorem dX4_addLine_0 : decode cX4_addLine 0 = .ok (.aload_n 0, 1) := by decide +kernel
theorem dX4_addLine_1 : decode cX4_addLine 1 = .ok (.iload_n 1, 1) := by decide +kernel
theorem dX4_addLine_2 : decode cX4_addLine 2 = .ok (.invokevirtual 81, 3) := by decide +kernel
theorem dX4_addLine_5 : decode cX4_addLine 5 = .ok (.astore 4, 2) := by decide +kernel
theorem dX4_addLine_7 : decode cX4_addLine 7 = .ok (.aload_n 0, 1) := by decide +kernel
theorem dX4_addLine_8 : decode cX4_addLine 8 = .ok (.iload_n 2, 1) := by decide +kernel
theorem dX4_addLine_9 : decode cX4_addLine 9 = .ok (.invokevirtual 44, 3) := by decide +kernel
theorem dX4_addLine_12 : decode cX4_addLine 12 = .ok (.aload_n 0, 1) := by decide +kernel
theorem dX4_addLine_13 : decode cX4_addLine 13 = .ok (.iload_n 3, 1) := by decide +kernel
theorem dX4_addLine_14 : decode cX4_addLine 14 = .ok (.invokevirtual 47, 3) := by decide +kernel
theorem dX4_addLine_17 : decode cX4_addLine 17 = .ok (.aload_n 0, 1) := by decide +kernel
theorem dX4_addLine_18 : decode cX4_addLine 18 = .ok (.aload 4, 2) := by decide +kernel
theorem dX4_addLine_20 : decode cX4_addLine 20 = .ok (.invokevirtual 85, 3) := by decide +kernel
theorem dX4_addLine_23 : decode cX4_addLine 23 = .ok (.aload 4, 2) := by decide +kernel
theorem dX4_addLine_25 : decode cX4_addLine 25 = .ok (.getfield 89, 3) := by decide +kernel
theorem dX4_addLine_28 : decode cX4_addLine 28 = .ok (.aload_n 0, 1) := by decide +kernel
theorem dX4_addLine_29 : decode cX4_addLine 29 = .ok (.getfield 33, 3) := by decide +kernel
theorem dX4_addLine_32 : decode cX4_addLine 32 = .ok (.if_icmp .eq 13, 3) := by decide +kernel
theorem dX4_addLine_35 : decode cX4_addLine 35 = .ok (.new 58, 3) := by decide +kernel
theorem dX4_addLine_38 : decode cX4_addLine 38 = .ok (.dup, 1) := by decide +kernel
theorem dX4_addLine_39 : decode cX4_addLine 39 = .ok (.ldc 92, 2) := by decide +kernel
theorem dX4_addLine_41 : decode cX4_addLine 41 = .ok (.invokespecial 62, 3) := by decide +kernel
theorem dX4_addLine_44 : decode cX4_addLine 44 = .ok (.athrow, 1) := by decide +kernel
theorem dX4_addLine_45 : decode cX4_addLine 45 = .ok (.aload 4, 2) := by decide +kernel
theorem dX4_addLine_47 : decode cX4_addLine 47 = .ok (.getfield 70, 3) := by decide +kernel
theorem dX4_addLine_50 : decode cX4_addLine 50 = .ok (.invokevirtual 54, 3) := by decide +kernel
theorem dX4_addLine_53 : decode cX4_addLine 53 = .ok (.iconst 3, 1) := by decide +kernel
theorem dX4_addLine_54 : decode cX4_addLine 54 = .ok (.if_icmp .lt 13, 3) := by decide +kernel
theorem dX4_addLine_57 : decode cX4_addLine 57 = .ok (.new 58, 3) := by decide +kernel
theorem dX4_addLine_60 : decode cX4_addLine 60 = .ok (.dup, 1) := by decide +kernel
theorem dX4_addLine_61 : decode cX4_addLine 61 = .ok (.ldc 94, 2) := by decide +kernel
theorem dX4_addLine_63 : decode cX4_addLine 63 = .ok (.invokespecial 62, 3) := by decide +kernel
theorem dX4_addLine_66 : decode cX4_addLine 66 = .ok (.athrow, 1) := by decide +kernel
theorem dX4_addLine_67 : decode cX4_addLine 67 = .ok (.aload 4, 2) := by decide +kernel
theorem dX4_addLine_69 : decode cX4_addLine 69 = .ok (.getfield 96, 3) := by decide +kernel
theorem dX4_addLine_72 : decode cX4_addLine 72 = .ok (.ifCond .eq 13, 3) := by decide +kernel
theorem dX4_addLine_75 : decode cX4_addLine 75 = .ok (.new 58, 3) := by decide +kernel
theorem dX4_addLine_78 : decode cX4_addLine 78 = .ok (.dup, 1) := by decide +kernel
theorem dX4_addLine_79 : decode cX4_addLine 79 = .ok (.ldc 100, 2) := by decide +kernel
theorem dX4_addLine_81 : decode cX4_addLine 81 = .ok (.invokespecial 62, 3) := by decide +kernel
theorem dX4_addLine_84 : decode cX4_addLine 84 = .ok (.athrow, 1) := by decide +kernel
theorem dX4_addLine_85 : decode cX4_addLine 85 = .ok (.aload 4, 2) := by decide +kernel
theorem dX4_addLine_87 : decode cX4_addLine 87 = .ok (.getfield 70, 3) := by decide +kernel
theorem dX4_addLine_90 : decode cX4_addLine 90 = .ok (.new 73, 3) := by decide +kernel
theorem dX4_addLine_93 : decode cX4_addLine 93 = .ok (.dup, 1) := by decide +kernel
theorem dX4_addLine_94 : decode cX4_addLine 94 = .ok (.iload_n 2, 1) := by decide +kernel
theorem dX4_addLine_95 : decode cX4_addLine 95 = .ok (.iload_n 3, 1) := by decide +kernel
theorem dX4_addLine_96 : decode cX4_addLine 96 = .ok (.invokespecial 75, 3) := by decide +kernel
theorem dX4_addLine_99 : decode cX4_addLine 99 = .ok (.invokevirtual 77, 3) := by decide +kernel
theorem dX4_addLine_102 : decode cX4_addLine 102 = .ok (.pop, 1) := by decide +kernel
theorem dX4_addLine_103 : decode cX4_addLine 103 = .ok (.aload 4, 2) := by decide +kernel
theorem dX4_addLine_105 : decode cX4_addLine 105 = .ok (.getfield 70, 3) := by decide +kernel
theorem dX4_addLine_108 : decode cX4_addLine 108 = .ok (.invokevirtual 54, 3) := by decide +kernel
theorem dX4_addLine_111 : decode cX4_addLine 111 = .ok (.iconst 1, 1) := by decide +kernel
theorem dX4_addLine_112 : decode cX4_addLine 112 = .ok (.isub, 1) := by decide +kernel
theorem dX4_addLine_113 : decode cX4_addLine 113 = .ok (.ireturn, 1) := by decide +kernel
theorem dX4_accept_0 : decode cX4_accept 0 = .ok (.aload_n 0, 1) := by decide +kernel
theorem dX4_accept_1 : decode cX4_accept 1 = .ok (.iload_n 1, 1) := by decide +kernel
theorem dX4_accept_2 : decode cX4_accept 2 = .ok (.invokevirtual 81, 3) := by decide +kernel
theorem dX4_accept_5 : decode cX4_accept 5 = .ok (.astore_n 2, 1) := by decide +kernel
theorem dX4_accept_6 : decode cX4_accept 6 = .ok (.aload_n 0, 1) := by decide +kernel
theorem dX4_accept_7 : decode cX4_accept 7 = .ok (.aload_n 2, 1) := by decide +kernel
theorem dX4_accept_8 : decode cX4_accept 8 = .ok (.invokevirtual 85, 3) := by decide +kernel
theorem dX4_accept_11 : decode cX4_accept 11 = .ok (.aload_n 2, 1) := by decide +kernel
theorem dX4_accept_12 : decode cX4_accept 12 = .ok (.iconst 1, 1) := by decide +kernel
theorem dX4_accept_13 : decode cX4_accept 13 = .ok (.putfield 102, 3) := by decide +kernel
theorem dX4_accept_16 : decode cX4_accept 16 = .ok (.aload_n 2, 1) := by decide +kernel
theorem dX4_accept_17 : decode cX4_accept 17 = .ok (.aload_n 0, 1) := by decide +kernel
theorem dX4_accept_18 : decode cX4_accept 18 = .ok (.getfield 33, 3) := by decide +kernel
theorem dX4_accept_21 : decode cX4_accept 21 = .ok (.putfield 105, 3) := by decide +kernel
theorem dX4_accept_24 : decode cX4_accept 24 = .ok (.aload_n 2, 1) := by decide +kernel
theorem dX4_accept_25 : decode cX4_accept 25 = .ok (.invokevirtual 108, 3) := by decide +kernel
theorem dX4_accept_28 : decode cX4_accept 28 = .ok (.ireturn, 1) := by decide +kernel
theorem dX4_refuse_0 : decode cX4_refuse 0 = .ok (.aload_n 0, 1) := by decide +kernel
theorem dX4_refuse_1 : decode cX4_refuse 1 = .ok (.iload_n 1, 1) := by decide +kernel
theorem dX4_refuse_2 : decode cX4_refuse 2 = .ok (.invokevirtual 81, 3) := by decide +kernel
theorem dX4_refuse_5 : decode cX4_refuse 5 = .ok (.astore_n 2, 1) := by decide +kernel
theorem dX4_refuse_6 : decode cX4_refuse 6 = .ok (.aload_n 0, 1) := by decide +kernel
theorem dX4_refuse_7 : decode cX4_refuse 7 = .ok (.aload_n 2, 1) := by decide +kernel
theorem dX4_refuse_8 : decode cX4_refuse 8 = .ok (.invokevirtual 85, 3) := by decide +kernel
theorem dX4_refuse_11 : decode cX4_refuse 11 = .ok (.aload_n 2, 1) := by decide +kernel
theorem dX4_refuse_12 : decode cX4_refuse 12 = .ok (.iconst 2, 1) := by decide +kernel
theorem dX4_refuse_13 : decode cX4_refuse 13 = .ok (.putfield 102, 3) := by decide +kernel
theorem dX4_refuse_16 : decode cX4_refuse 16 = .ok (.aload_n 2, 1) := by decide +kernel
theorem dX4_refuse_17 : decode cX4_refuse 17 = .ok (.invokevirtual 111, 3) := by decide +kernel
theorem dX4_refuse_20 : decode cX4_refuse 20 = .ok (.ireturn, 1) := by decide +kernel
theorem dX4_credit_0 : decode cX4_credit 0 = .ok (.aload_n 0, 1) := by decide +kernel
theorem dX4_credit_1 : decode cX4_credit 1 = .ok (.iload_n 1, 1) := by decide +kernel
theorem dX4_credit_2 : decode cX4_credit 2 = .ok (.invokevirtual 81, 3) := by decide +kernel
theorem dX4_credit_5 : decode cX4_credit 5 = .ok (.astore 4, 2) := by decide +kernel
theorem dX4_credit_7 : decode cX4_credit 7 = .ok (.aload_n 0, 1) := by decide +kernel
theorem dX4_credit_8 : decode cX4_credit 8 = .ok (.aload 4, 2) := by decide +kernel
theorem dX4_credit_10 : decode cX4_credit 10 = .ok (.iload_n 2, 1) := by decide +kernel
theorem dX4_credit_11 : decode cX4_credit 11 = .ok (.invokevirtual 114, 3) := by decide +kernel
theorem dX4_credit_14 : decode cX4_credit 14 = .ok (.astore 5, 2) := by decide +kernel
theorem dX4_credit_16 : decode cX4_credit 16 = .ok (.aload_n 0, 1) := by decide +kernel
theorem dX4_credit_17 : decode cX4_credit 17 = .ok (.iload_n 3, 1) := by decide +kernel
theorem dX4_credit_18 : decode cX4_credit 18 = .ok (.invokevirtual 44, 3) := by decide +kernel
theorem dX4_credit_21 : decode cX4_credit 21 = .ok (.iload_n 3, 1) := by decide +kernel
theorem dX4_credit_22 : decode cX4_credit 22 = .ok (.aload 5, 2) := by decide +kernel
theorem dX4_credit_24 : decode cX4_credit 24 = .ok (.getfield 118, 3) := by decide +kernel
theorem dX4_credit_27 : decode cX4_credit 27 = .ok (.if_icmp .le 13, 3) := by decide +kernel
theorem dX4_credit_30 : decode cX4_credit 30 = .ok (.new 121, 3) := by decide +kernel
theorem dX4_credit_33 : decode cX4_credit 33 = .ok (.dup, 1) := by decide +kernel
theorem dX4_credit_34 : decode cX4_credit 34 = .ok (.ldc 123, 2) := by decide +kernel
theorem dX4_credit_36 : decode cX4_credit 36 = .ok (.invokespecial 125, 3) := by decide +kernel
theorem dX4_credit_39 : decode cX4_credit 39 = .ok (.athrow, 1) := by decide +kernel
theorem dX4_credit_40 : decode cX4_credit 40 = .ok (.aload 4, 2) := by decide +kernel
theorem dX4_credit_42 : decode cX4_credit 42 = .ok (.getfield 102, 3) := by decide +kernel
theorem dX4_credit_45 : decode cX4_credit 45 = .ok (.iconst 2, 1) := by decide +kernel
theorem dX4_credit_46 : decode cX4_credit 46 = .ok (.if_icmp .ne 13, 3) := by decide +kernel
theorem dX4_credit_49 : decode cX4_credit 49 = .ok (.new 58, 3) := by decide +kernel
theorem dX4_credit_52 : decode cX4_credit 52 = .ok (.dup, 1) := by decide +kernel
theorem dX4_credit_53 : decode cX4_credit 53 = .ok (.ldc 126, 2) := by decide +kernel
theorem dX4_credit_55 : decode cX4_credit 55 = .ok (.invokespecial 62, 3) := by decide +kernel
theorem dX4_credit_58 : decode cX4_credit 58 = .ok (.athrow, 1) := by decide +kernel
theorem dX4_credit_59 : decode cX4_credit 59 = .ok (.aload_n 0, 1) := by decide +kernel
theorem dX4_credit_60 : decode cX4_credit 60 = .ok (.invokevirtual 128, 3) := by decide +kernel
theorem dX4_credit_63 : decode cX4_credit 63 = .ok (.aload_n 0, 1) := by decide +kernel
theorem dX4_credit_64 : decode cX4_credit 64 = .ok (.aload 4, 2) := by decide +kernel
theorem dX4_credit_66 : decode cX4_credit 66 = .ok (.aload 5, 2) := by decide +kernel
theorem dX4_credit_68 : decode cX4_credit 68 = .ok (.iload_n 3, 1) := by decide +kernel
theorem dX4_credit_69 : decode cX4_credit 69 = .ok (.invokevirtual 131, 3) := by decide +kernel
theorem dX4_credit_72 : decode cX4_credit 72 = .ok (.aload 5, 2) := by decide +kernel
theorem dX4_credit_74 : decode cX4_credit 74 = .ok (.getfield 118, 3) := by decide +kernel
theorem dX4_credit_77 : decode cX4_credit 77 = .ok (.ireturn, 1) := by decide +kernel
theorem dX4_dispute_0 : decode cX4_dispute 0 = .ok (.aload_n 0, 1) := by decide +kernel
theorem dX4_dispute_1 : decode cX4_dispute 1 = .ok (.iload_n 1, 1) := by decide +kernel
theorem dX4_dispute_2 : decode cX4_dispute 2 = .ok (.invokevirtual 81, 3) := by decide +kernel
theorem dX4_dispute_5 : decode cX4_dispute 5 = .ok (.astore_n 3, 1) := by decide +kernel
theorem dX4_dispute_6 : decode cX4_dispute 6 = .ok (.aload_n 0, 1) := by decide +kernel
theorem dX4_dispute_7 : decode cX4_dispute 7 = .ok (.aload_n 3, 1) := by decide +kernel
theorem dX4_dispute_8 : decode cX4_dispute 8 = .ok (.iload_n 2, 1) := by decide +kernel
theorem dX4_dispute_9 : decode cX4_dispute 9 = .ok (.invokevirtual 114, 3) := by decide +kernel
theorem dX4_dispute_12 : decode cX4_dispute 12 = .ok (.astore 4, 2) := by decide +kernel
theorem dX4_dispute_14 : decode cX4_dispute 14 = .ok (.aload_n 3, 1) := by decide +kernel
theorem dX4_dispute_15 : decode cX4_dispute 15 = .ok (.getfield 102, 3) := by decide +kernel
theorem dX4_dispute_18 : decode cX4_dispute 18 = .ok (.iconst 1, 1) := by decide +kernel
theorem dX4_dispute_19 : decode cX4_dispute 19 = .ok (.if_icmp .eq 13, 3) := by decide +kernel
theorem dX4_dispute_22 : decode cX4_dispute 22 = .ok (.new 58, 3) := by decide +kernel
theorem dX4_dispute_25 : decode cX4_dispute 25 = .ok (.dup, 1) := by decide +kernel
theorem dX4_dispute_26 : decode cX4_dispute 26 = .ok (.ldc 135, 2) := by decide +kernel
theorem dX4_dispute_28 : decode cX4_dispute 28 = .ok (.invokespecial 62, 3) := by decide +kernel
theorem dX4_dispute_31 : decode cX4_dispute 31 = .ok (.athrow, 1) := by decide +kernel
theorem dX4_dispute_32 : decode cX4_dispute 32 = .ok (.aload 4, 2) := by decide +kernel
theorem dX4_dispute_34 : decode cX4_dispute 34 = .ok (.getfield 137, 3) := by decide +kernel
theorem dX4_dispute_37 : decode cX4_dispute 37 = .ok (.ifCond .eq 13, 3) := by decide +kernel
theorem dX4_dispute_40 : decode cX4_dispute 40 = .ok (.new 58, 3) := by decide +kernel
theorem dX4_dispute_43 : decode cX4_dispute 43 = .ok (.dup, 1) := by decide +kernel
theorem dX4_dispute_44 : decode cX4_dispute 44 = .ok (.ldc 140, 2) := by decide +kernel
theorem dX4_dispute_46 : decode cX4_dispute 46 = .ok (.invokespecial 62, 3) := by decide +kernel
theorem dX4_dispute_49 : decode cX4_dispute 49 = .ok (.athrow, 1) := by decide +kernel
theorem dX4_dispute_50 : decode cX4_dispute 50 = .ok (.aload 4, 2) := by decide +kernel
theorem dX4_dispute_52 : decode cX4_dispute 52 = .ok (.getfield 118, 3) := by decide +kernel
theorem dX4_dispute_55 : decode cX4_dispute 55 = .ok (.ifCond .ne 13, 3) := by decide +kernel
theorem dX4_dispute_58 : decode cX4_dispute 58 = .ok (.new 58, 3) := by decide +kernel
theorem dX4_dispute_61 : decode cX4_dispute 61 = .ok (.dup, 1) := by decide +kernel
theorem dX4_dispute_62 : decode cX4_dispute 62 = .ok (.ldc 142, 2) := by decide +kernel
theorem dX4_dispute_64 : decode cX4_dispute 64 = .ok (.invokespecial 62, 3) := by decide +kernel
theorem dX4_dispute_67 : decode cX4_dispute 67 = .ok (.athrow, 1) := by decide +kernel
theorem dX4_dispute_68 : decode cX4_dispute 68 = .ok (.aload 4, 2) := by decide +kernel
theorem dX4_dispute_70 : decode cX4_dispute 70 = .ok (.iconst 1, 1) := by decide +kernel
theorem dX4_dispute_71 : decode cX4_dispute 71 = .ok (.putfield 137, 3) := by decide +kernel
theorem dX4_dispute_74 : decode cX4_dispute 74 = .ok (.aload_n 3, 1) := by decide +kernel
theorem dX4_dispute_75 : decode cX4_dispute 75 = .ok (.invokevirtual 108, 3) := by decide +kernel
theorem dX4_dispute_78 : decode cX4_dispute 78 = .ok (.ireturn, 1) := by decide +kernel
theorem dX4_settle_0 : decode cX4_settle 0 = .ok (.aload_n 0, 1) := by decide +kernel
theorem dX4_settle_1 : decode cX4_settle 1 = .ok (.iload_n 1, 1) := by decide +kernel
theorem dX4_settle_2 : decode cX4_settle 2 = .ok (.invokevirtual 81, 3) := by decide +kernel
theorem dX4_settle_5 : decode cX4_settle 5 = .ok (.astore 4, 2) := by decide +kernel
theorem dX4_settle_7 : decode cX4_settle 7 = .ok (.aload_n 0, 1) := by decide +kernel
theorem dX4_settle_8 : decode cX4_settle 8 = .ok (.aload 4, 2) := by decide +kernel
theorem dX4_settle_10 : decode cX4_settle 10 = .ok (.iload_n 2, 1) := by decide +kernel
theorem dX4_settle_11 : decode cX4_settle 11 = .ok (.invokevirtual 114, 3) := by decide +kernel
theorem dX4_settle_14 : decode cX4_settle 14 = .ok (.astore 5, 2) := by decide +kernel
theorem dX4_settle_16 : decode cX4_settle 16 = .ok (.aload 5, 2) := by decide +kernel
theorem dX4_settle_18 : decode cX4_settle 18 = .ok (.getfield 137, 3) := by decide +kernel
theorem dX4_settle_21 : decode cX4_settle 21 = .ok (.ifCond .ne 13, 3) := by decide +kernel
theorem dX4_settle_24 : decode cX4_settle 24 = .ok (.new 58, 3) := by decide +kernel
theorem dX4_settle_27 : decode cX4_settle 27 = .ok (.dup, 1) := by decide +kernel
theorem dX4_settle_28 : decode cX4_settle 28 = .ok (.ldc 144, 2) := by decide +kernel
theorem dX4_settle_30 : decode cX4_settle 30 = .ok (.invokespecial 62, 3) := by decide +kernel
theorem dX4_settle_33 : decode cX4_settle 33 = .ok (.athrow, 1) := by decide +kernel
theorem dX4_settle_34 : decode cX4_settle 34 = .ok (.iload_n 3, 1) := by decide +kernel
theorem dX4_settle_35 : decode cX4_settle 35 = .ok (.ifCond .eq 20, 3) := by decide +kernel
theorem dX4_settle_38 : decode cX4_settle 38 = .ok (.aload_n 0, 1) := by decide +kernel
theorem dX4_settle_39 : decode cX4_settle 39 = .ok (.invokevirtual 128, 3) := by decide +kernel
theorem dX4_settle_42 : decode cX4_settle 42 = .ok (.aload_n 0, 1) := by decide +kernel
theorem dX4_settle_43 : decode cX4_settle 43 = .ok (.aload 4, 2) := by decide +kernel
theorem dX4_settle_45 : decode cX4_settle 45 = .ok (.aload 5, 2) := by decide +kernel
theorem dX4_settle_47 : decode cX4_settle 47 = .ok (.aload 5, 2) := by decide +kernel
theorem dX4_settle_49 : decode cX4_settle 49 = .ok (.getfield 118, 3) := by decide +kernel
theorem dX4_settle_52 : decode cX4_settle 52 = .ok (.invokevirtual 131, 3) := by decide +kernel
theorem dX4_settle_55 : decode cX4_settle 55 = .ok (.aload 5, 2) := by decide +kernel
theorem dX4_settle_57 : decode cX4_settle 57 = .ok (.iconst 0, 1) := by decide +kernel
theorem dX4_settle_58 : decode cX4_settle 58 = .ok (.putfield 137, 3) := by decide +kernel
theorem dX4_settle_61 : decode cX4_settle 61 = .ok (.aload 4, 2) := by decide +kernel
theorem dX4_settle_63 : decode cX4_settle 63 = .ok (.invokevirtual 108, 3) := by decide +kernel
theorem dX4_settle_66 : decode cX4_settle 66 = .ok (.ireturn, 1) := by decide +kernel
theorem dX4_sell_0 : decode cX4_sell 0 = .ok (.aload_n 0, 1) := by decide +kernel
theorem dX4_sell_1 : decode cX4_sell 1 = .ok (.iload_n 1, 1) := by decide +kernel
theorem dX4_sell_2 : decode cX4_sell 2 = .ok (.invokevirtual 81, 3) := by decide +kernel
theorem dX4_sell_5 : decode cX4_sell 5 = .ok (.astore 5, 2) := by decide +kernel
theorem dX4_sell_7 : decode cX4_sell 7 = .ok (.aload_n 0, 1) := by decide +kernel
theorem dX4_sell_8 : decode cX4_sell 8 = .ok (.iload_n 2, 1) := by decide +kernel
theorem dX4_sell_9 : decode cX4_sell 9 = .ok (.invokevirtual 37, 3) := by decide +kernel
theorem dX4_sell_12 : decode cX4_sell 12 = .ok (.iload_n 3, 1) := by decide +kernel
theorem dX4_sell_13 : decode cX4_sell 13 = .ok (.iconst 1, 1) := by decide +kernel
theorem dX4_sell_14 : decode cX4_sell 14 = .ok (.if_icmp .lt 9, 3) := by decide +kernel
theorem dX4_sell_17 : decode cX4_sell 17 = .ok (.iload_n 3, 1) := by decide +kernel
theorem dX4_sell_18 : decode cX4_sell 18 = .ok (.bipush 100, 2) := by decide +kernel
theorem dX4_sell_20 : decode cX4_sell 20 = .ok (.if_icmp .le 13, 3) := by decide +kernel
theorem dX4_sell_23 : decode cX4_sell 23 = .ok (.new 121, 3) := by decide +kernel
theorem dX4_sell_26 : decode cX4_sell 26 = .ok (.dup, 1) := by decide +kernel
theorem dX4_sell_27 : decode cX4_sell 27 = .ok (.ldc 146, 2) := by decide +kernel
theorem dX4_sell_29 : decode cX4_sell 29 = .ok (.invokespecial 125, 3) := by decide +kernel
theorem dX4_sell_32 : decode cX4_sell 32 = .ok (.athrow, 1) := by decide +kernel
theorem dX4_sell_33 : decode cX4_sell 33 = .ok (.iload_n 2, 1) := by decide +kernel
theorem dX4_sell_34 : decode cX4_sell 34 = .ok (.aload 5, 2) := by decide +kernel
theorem dX4_sell_36 : decode cX4_sell 36 = .ok (.getfield 148, 3) := by decide +kernel
theorem dX4_sell_39 : decode cX4_sell 39 = .ok (.if_icmp .eq 12, 3) := by decide +kernel
theorem dX4_sell_42 : decode cX4_sell 42 = .ok (.iload_n 2, 1) := by decide +kernel
theorem dX4_sell_43 : decode cX4_sell 43 = .ok (.aload 5, 2) := by decide +kernel
theorem dX4_sell_45 : decode cX4_sell 45 = .ok (.getfield 151, 3) := by decide +kernel
theorem dX4_sell_48 : decode cX4_sell 48 = .ok (.if_icmp .ne 13, 3) := by decide +kernel
theorem dX4_sell_51 : decode cX4_sell 51 = .ok (.new 121, 3) := by decide +kernel
theorem dX4_sell_54 : decode cX4_sell 54 = .ok (.dup, 1) := by decide +kernel
theorem dX4_sell_55 : decode cX4_sell 55 = .ok (.ldc 154, 2) := by decide +kernel
theorem dX4_sell_57 : decode cX4_sell 57 = .ok (.invokespecial 125, 3) := by decide +kernel
theorem dX4_sell_60 : decode cX4_sell 60 = .ok (.athrow, 1) := by decide +kernel
theorem dX4_sell_61 : decode cX4_sell 61 = .ok (.aload_n 0, 1) := by decide +kernel
theorem dX4_sell_62 : decode cX4_sell 62 = .ok (.aload 5, 2) := by decide +kernel
theorem dX4_sell_64 : decode cX4_sell 64 = .ok (.invokevirtual 156, 3) := by decide +kernel
theorem dX4_sell_67 : decode cX4_sell 67 = .ok (.aload 5, 2) := by decide +kernel
theorem dX4_sell_69 : decode cX4_sell 69 = .ok (.getfield 159, 3) := by decide +kernel
theorem dX4_sell_72 : decode cX4_sell 72 = .ok (.aload 5, 2) := by decide +kernel
theorem dX4_sell_74 : decode cX4_sell 74 = .ok (.getfield 148, 3) := by decide +kernel
theorem dX4_sell_77 : decode cX4_sell 77 = .ok (.if_icmp .eq 13, 3) := by decide +kernel
theorem dX4_sell_80 : decode cX4_sell 80 = .ok (.new 58, 3) := by decide +kernel
theorem dX4_sell_83 : decode cX4_sell 83 = .ok (.dup, 1) := by decide +kernel
theorem dX4_sell_84 : decode cX4_sell 84 = .ok (.ldc 162, 2) := by decide +kernel
theorem dX4_sell_86 : decode cX4_sell 86 = .ok (.invokespecial 62, 3) := by decide +kernel
theorem dX4_sell_89 : decode cX4_sell 89 = .ok (.athrow, 1) := by decide +kernel
theorem dX4_sell_90 : decode cX4_sell 90 = .ok (.aload_n 0, 1) := by decide +kernel
theorem dX4_sell_91 : decode cX4_sell 91 = .ok (.invokevirtual 164, 3) := by decide +kernel
theorem dX4_sell_94 : decode cX4_sell 94 = .ok (.aload 5, 2) := by decide +kernel
theorem dX4_sell_96 : decode cX4_sell 96 = .ok (.aload 5, 2) := by decide +kernel
theorem dX4_sell_98 : decode cX4_sell 98 = .ok (.invokevirtual 108, 3) := by decide +kernel
theorem dX4_sell_101 : decode cX4_sell 101 = .ok (.iload_n 3, 1) := by decide +kernel
theorem dX4_sell_102 : decode cX4_sell 102 = .ok (.imul, 1) := by decide +kernel
theorem dX4_sell_103 : decode cX4_sell 103 = .ok (.bipush 100, 2) := by decide +kernel
theorem dX4_sell_105 : decode cX4_sell 105 = .ok (.idiv, 1) := by decide +kernel
theorem dX4_sell_106 : decode cX4_sell 106 = .ok (.putfield 167, 3) := by decide +kernel
theorem dX4_sell_109 : decode cX4_sell 109 = .ok (.aload 5, 2) := by decide +kernel
theorem dX4_sell_111 : decode cX4_sell 111 = .ok (.iload 4, 2) := by decide +kernel
theorem dX4_sell_113 : decode cX4_sell 113 = .ok (.putfield 170, 3) := by decide +kernel
theorem dX4_sell_116 : decode cX4_sell 116 = .ok (.aload 5, 2) := by decide +kernel
theorem dX4_sell_118 : decode cX4_sell 118 = .ok (.iload_n 2, 1) := by decide +kernel
theorem dX4_sell_119 : decode cX4_sell 119 = .ok (.putfield 159, 3) := by decide +kernel
theorem dX4_sell_122 : decode cX4_sell 122 = .ok (.aload_n 0, 1) := by decide +kernel
theorem dX4_sell_123 : decode cX4_sell 123 = .ok (.iload_n 2, 1) := by decide +kernel
theorem dX4_sell_124 : decode cX4_sell 124 = .ok (.aload 5, 2) := by decide +kernel
theorem dX4_sell_126 : decode cX4_sell 126 = .ok (.getfield 148, 3) := by decide +kernel
theorem dX4_sell_129 : decode cX4_sell 129 = .ok (.aload 5, 2) := by decide +kernel
theorem dX4_sell_131 : decode cX4_sell 131 = .ok (.getfield 167, 3) := by decide +kernel
theorem dX4_sell_134 : decode cX4_sell 134 = .ok (.invokevirtual 173, 3) := by decide +kernel
theorem dX4_sell_137 : decode cX4_sell 137 = .ok (.aload 5, 2) := by decide +kernel
theorem dX4_sell_139 : decode cX4_sell 139 = .ok (.getfield 167, 3) := by decide +kernel
theorem dX4_sell_142 : decode cX4_sell 142 = .ok (.ireturn, 1) := by decide +kernel
theorem dX4_giveBack_0 : decode cX4_giveBack 0 = .ok (.aload_n 0, 1) := by decide +kernel
theorem dX4_giveBack_1 : decode cX4_giveBack 1 = .ok (.iload_n 1, 1) := by decide +kernel
theorem dX4_giveBack_2 : decode cX4_giveBack 2 = .ok (.invokevirtual 81, 3) := by decide +kernel
theorem dX4_giveBack_5 : decode cX4_giveBack 5 = .ok (.astore_n 2, 1) := by decide +kernel
theorem dX4_giveBack_6 : decode cX4_giveBack 6 = .ok (.aload_n 2, 1) := by decide +kernel
theorem dX4_giveBack_7 : decode cX4_giveBack 7 = .ok (.getfield 159, 3) := by decide +kernel
theorem dX4_giveBack_10 : decode cX4_giveBack 10 = .ok (.aload_n 2, 1) := by decide +kernel
theorem dX4_giveBack_11 : decode cX4_giveBack 11 = .ok (.getfield 148, 3) := by decide +kernel
theorem dX4_giveBack_14 : decode cX4_giveBack 14 = .ok (.if_icmp .ne 13, 3) := by decide +kernel
theorem dX4_giveBack_17 : decode cX4_giveBack 17 = .ok (.new 58, 3) := by decide +kernel
theorem dX4_giveBack_20 : decode cX4_giveBack 20 = .ok (.dup, 1) := by decide +kernel
theorem dX4_giveBack_21 : decode cX4_giveBack 21 = .ok (.ldc 177, 2) := by decide +kernel
theorem dX4_giveBack_23 : decode cX4_giveBack 23 = .ok (.invokespecial 62, 3) := by decide +kernel
theorem dX4_giveBack_26 : decode cX4_giveBack 26 = .ok (.athrow, 1) := by decide +kernel
theorem dX4_giveBack_27 : decode cX4_giveBack 27 = .ok (.aload_n 2, 1) := by decide +kernel
theorem dX4_giveBack_28 : decode cX4_giveBack 28 = .ok (.getfield 170, 3) := by decide +kernel
theorem dX4_giveBack_31 : decode cX4_giveBack 31 = .ok (.ifCond .ne 13, 3) := by decide +kernel
theorem dX4_giveBack_34 : decode cX4_giveBack 34 = .ok (.new 58, 3) := by decide +kernel
theorem dX4_giveBack_37 : decode cX4_giveBack 37 = .ok (.dup, 1) := by decide +kernel
theorem dX4_giveBack_38 : decode cX4_giveBack 38 = .ok (.ldc 179, 2) := by decide +kernel
theorem dX4_giveBack_40 : decode cX4_giveBack 40 = .ok (.invokespecial 62, 3) := by decide +kernel
theorem dX4_giveBack_43 : decode cX4_giveBack 43 = .ok (.athrow, 1) := by decide +kernel
theorem dX4_giveBack_44 : decode cX4_giveBack 44 = .ok (.aload_n 0, 1) := by decide +kernel
theorem dX4_giveBack_45 : decode cX4_giveBack 45 = .ok (.aload_n 2, 1) := by decide +kernel
theorem dX4_giveBack_46 : decode cX4_giveBack 46 = .ok (.invokevirtual 156, 3) := by decide +kernel
theorem dX4_giveBack_49 : decode cX4_giveBack 49 = .ok (.aload_n 0, 1) := by decide +kernel
theorem dX4_giveBack_50 : decode cX4_giveBack 50 = .ok (.invokevirtual 164, 3) := by decide +kernel
theorem dX4_giveBack_53 : decode cX4_giveBack 53 = .ok (.aload_n 0, 1) := by decide +kernel
theorem dX4_giveBack_54 : decode cX4_giveBack 54 = .ok (.aload_n 2, 1) := by decide +kernel
theorem dX4_giveBack_55 : decode cX4_giveBack 55 = .ok (.getfield 148, 3) := by decide +kernel
theorem dX4_giveBack_58 : decode cX4_giveBack 58 = .ok (.aload_n 2, 1) := by decide +kernel
theorem dX4_giveBack_59 : decode cX4_giveBack 59 = .ok (.getfield 159, 3) := by decide +kernel
theorem dX4_giveBack_62 : decode cX4_giveBack 62 = .ok (.aload_n 2, 1) := by decide +kernel
theorem dX4_giveBack_63 : decode cX4_giveBack 63 = .ok (.getfield 167, 3) := by decide +kernel
theorem dX4_giveBack_66 : decode cX4_giveBack 66 = .ok (.invokevirtual 173, 3) := by decide +kernel
theorem dX4_giveBack_69 : decode cX4_giveBack 69 = .ok (.aload_n 2, 1) := by decide +kernel
theorem dX4_giveBack_70 : decode cX4_giveBack 70 = .ok (.aload_n 2, 1) := by decide +kernel
theorem dX4_giveBack_71 : decode cX4_giveBack 71 = .ok (.getfield 148, 3) := by decide +kernel
theorem dX4_giveBack_74 : decode cX4_giveBack 74 = .ok (.putfield 159, 3) := by decide +kernel
theorem dX4_giveBack_77 : decode cX4_giveBack 77 = .ok (.aload_n 2, 1) := by decide +kernel
theorem dX4_giveBack_78 : decode cX4_giveBack 78 = .ok (.getfield 167, 3) := by decide +kernel
theorem dX4_giveBack_81 : decode cX4_giveBack 81 = .ok (.ireturn, 1) := by decide +kernel
theorem dX4_type_0 : decode cX4_type 0 = .ok (.iload_n 1, 1) := by decide +kernel
theorem dX4_type_1 : decode cX4_type 1 = .ok (.bipush 32, 2) := by decide +kernel
theorem dX4_type_3 : decode cX4_type 3 = .ok (.if_icmp .lt 9, 3) := by decide +kernel
theorem dX4_type_6 : decode cX4_type 6 = .ok (.iload_n 1, 1) := by decide +kernel
theorem dX4_type_7 : decode cX4_type 7 = .ok (.bipush 126, 2) := by decide +kernel
theorem dX4_type_9 : decode cX4_type 9 = .ok (.if_icmp .le 13, 3) := by decide +kernel
theorem dX4_type_12 : decode cX4_type 12 = .ok (.new 121, 3) := by decide +kernel
theorem dX4_type_15 : decode cX4_type 15 = .ok (.dup, 1) := by decide +kernel
theorem dX4_type_16 : decode cX4_type 16 = .ok (.ldc 181, 2) := by decide +kernel
theorem dX4_type_18 : decode cX4_type 18 = .ok (.invokespecial 125, 3) := by decide +kernel
theorem dX4_type_21 : decode cX4_type 21 = .ok (.athrow, 1) := by decide +kernel
theorem dX4_type_22 : decode cX4_type 22 = .ok (.aload_n 0, 1) := by decide +kernel
theorem dX4_type_23 : decode cX4_type 23 = .ok (.getfield 29, 3) := by decide +kernel
theorem dX4_type_26 : decode cX4_type 26 = .ok (.invokevirtual 183, 3) := by decide +kernel
theorem dX4_type_29 : decode cX4_type 29 = .ok (.bipush 10, 2) := by decide +kernel
theorem dX4_type_31 : decode cX4_type 31 = .ok (.if_icmp .lt 13, 3) := by decide +kernel
theorem dX4_type_34 : decode cX4_type 34 = .ok (.new 58, 3) := by decide +kernel
theorem dX4_type_37 : decode cX4_type 37 = .ok (.dup, 1) := by decide +kernel
theorem dX4_type_38 : decode cX4_type 38 = .ok (.ldc 186, 2) := by decide +kernel
theorem dX4_type_40 : decode cX4_type 40 = .ok (.invokespecial 62, 3) := by decide +kernel
theorem dX4_type_43 : decode cX4_type 43 = .ok (.athrow, 1) := by decide +kernel
theorem dX4_type_44 : decode cX4_type 44 = .ok (.aload_n 0, 1) := by decide +kernel
theorem dX4_type_45 : decode cX4_type 45 = .ok (.getfield 29, 3) := by decide +kernel
theorem dX4_type_48 : decode cX4_type 48 = .ok (.iload_n 1, 1) := by decide +kernel
theorem dX4_type_49 : decode cX4_type 49 = .ok (.i2c, 1) := by decide +kernel
theorem dX4_type_50 : decode cX4_type 50 = .ok (.invokevirtual 188, 3) := by decide +kernel
theorem dX4_type_53 : decode cX4_type 53 = .ok (.pop, 1) := by decide +kernel
theorem dX4_type_54 : decode cX4_type 54 = .ok (.aload_n 0, 1) := by decide +kernel
theorem dX4_type_55 : decode cX4_type 55 = .ok (.getfield 29, 3) := by decide +kernel
theorem dX4_type_58 : decode cX4_type 58 = .ok (.invokevirtual 183, 3) := by decide +kernel
theorem dX4_type_61 : decode cX4_type 61 = .ok (.ireturn, 1) := by decide +kernel
theorem dX4_clear_0 : decode cX4_clear 0 = .ok (.aload_n 0, 1) := by decide +kernel
theorem dX4_clear_1 : decode cX4_clear 1 = .ok (.getfield 29, 3) := by decide +kernel
theorem dX4_clear_4 : decode cX4_clear 4 = .ok (.invokevirtual 183, 3) := by decide +kernel
theorem dX4_clear_7 : decode cX4_clear 7 = .ok (.istore_n 1, 1) := by decide +kernel
theorem dX4_clear_8 : decode cX4_clear 8 = .ok (.aload_n 0, 1) := by decide +kernel
theorem dX4_clear_9 : decode cX4_clear 9 = .ok (.getfield 29, 3) := by decide +kernel
theorem dX4_clear_12 : decode cX4_clear 12 = .ok (.iconst 0, 1) := by decide +kernel
theorem dX4_clear_13 : decode cX4_clear 13 = .ok (.invokevirtual 192, 3) := by decide +kernel
theorem dX4_clear_16 : decode cX4_clear 16 = .ok (.iload_n 1, 1) := by decide +kernel
theorem dX4_clear_17 : decode cX4_clear 17 = .ok (.ireturn, 1) := by decide +kernel
theorem dX4_fault_0 : decode cX4_fault 0 = .ok (.aload_n 0, 1) := by decide +kernel
theorem dX4_fault_1 : decode cX4_fault 1 = .ok (.invokevirtual 195, 3) := by decide +kernel
theorem dX4_fault_4 : decode cX4_fault 4 = .ok (.ireturn, 1) := by decide +kernel
theorem dX4_payByText_0 : decode cX4_payByText 0 = .ok (.aload_n 0, 1) := by decide +kernel
theorem dX4_payByText_1 : decode cX4_payByText 1 = .ok (.iload_n 1, 1) := by decide +kernel
theorem dX4_payByText_2 : decode cX4_payByText 2 = .ok (.iload_n 2, 1) := by decide +kernel
theorem dX4_payByText_3 : decode cX4_payByText 3 = .ok (.iload_n 3, 1) := by decide +kernel
theorem dX4_payByText_4 : decode cX4_payByText 4 = .ok (.invokevirtual 198, 3) := by decide +kernel
theorem dX4_payByText_7 : decode cX4_payByText 7 = .ok (.aload_n 0, 1) := by decide +kernel
theorem dX4_payByText_8 : decode cX4_payByText 8 = .ok (.invokevirtual 195, 3) := by decide +kernel
theorem dX4_payByText_11 : decode cX4_payByText 11 = .ok (.iconst (-1), 1) := by decide +kernel
theorem dX4_payByText_12 : decode cX4_payByText 12 = .ok (.if_icmp .eq 13, 3) := by decide +kernel
theorem dX4_payByText_15 : decode cX4_payByText 15 = .ok (.new 58, 3) := by decide +kernel
theorem dX4_payByText_18 : decode cX4_payByText 18 = .ok (.dup, 1) := by decide +kernel
theorem dX4_payByText_19 : decode cX4_payByText 19 = .ok (.ldc 201, 2) := by decide +kernel
theorem dX4_payByText_21 : decode cX4_payByText 21 = .ok (.invokespecial 62, 3) := by decide +kernel
theorem dX4_payByText_24 : decode cX4_payByText 24 = .ok (.athrow, 1) := by decide +kernel
theorem dX4_payByText_25 : decode cX4_payByText 25 = .ok (.aload_n 0, 1) := by decide +kernel
theorem dX4_payByText_26 : decode cX4_payByText 26 = .ok (.invokevirtual 203, 3) := by decide +kernel
theorem dX4_payByText_29 : decode cX4_payByText 29 = .ok (.istore 4, 2) := by decide +kernel
theorem dX4_payByText_31 : decode cX4_payByText 31 = .ok (.iload 4, 2) := by decide +kernel
theorem dX4_payByText_33 : decode cX4_payByText 33 = .ok (.aload_n 0, 1) := by decide +kernel
theorem dX4_payByText_34 : decode cX4_payByText 34 = .ok (.getfield 10, 3) := by decide +kernel
theorem dX4_payByText_37 : decode cX4_payByText 37 = .ok (.invokevirtual 54, 3) := by decide +kernel
theorem dX4_payByText_40 : decode cX4_payByText 40 = .ok (.if_icmp .lt 13, 3) := by decide +kernel
theorem dX4_payByText_43 : decode cX4_payByText 43 = .ok (.new 58, 3) := by decide +kernel
theorem dX4_payByText_46 : decode cX4_payByText 46 = .ok (.dup, 1) := by decide +kernel
theorem dX4_payByText_47 : decode cX4_payByText 47 = .ok (.ldc 206, 2) := by decide +kernel
theorem dX4_payByText_49 : decode cX4_payByText 49 = .ok (.invokespecial 62, 3) := by decide +kernel
theorem dX4_payByText_52 : decode cX4_payByText 52 = .ok (.athrow, 1) := by decide +kernel
theorem dX4_payByText_53 : decode cX4_payByText 53 = .ok (.aload_n 0, 1) := by decide +kernel
theorem dX4_payByText_54 : decode cX4_payByText 54 = .ok (.getfield 10, 3) := by decide +kernel
theorem dX4_payByText_57 : decode cX4_payByText 57 = .ok (.iload 4, 2) := by decide +kernel
theorem dX4_payByText_59 : decode cX4_payByText 59 = .ok (.invokevirtual 208, 3) := by decide +kernel
theorem dX4_payByText_62 : decode cX4_payByText 62 = .ok (.checkcast 65, 3) := by decide +kernel
theorem dX4_payByText_65 : decode cX4_payByText 65 = .ok (.astore 5, 2) := by decide +kernel
theorem dX4_payByText_67 : decode cX4_payByText 67 = .ok (.aload 5, 2) := by decide +kernel
theorem dX4_payByText_69 : decode cX4_payByText 69 = .ok (.getfield 151, 3) := by decide +kernel
theorem dX4_payByText_72 : decode cX4_payByText 72 = .ok (.iload_n 1, 1) := by decide +kernel
theorem dX4_payByText_73 : decode cX4_payByText 73 = .ok (.if_icmp .eq 13, 3) := by decide +kernel
theorem dX4_payByText_76 : decode cX4_payByText 76 = .ok (.new 58, 3) := by decide +kernel
theorem dX4_payByText_79 : decode cX4_payByText 79 = .ok (.dup, 1) := by decide +kernel
theorem dX4_payByText_80 : decode cX4_payByText 80 = .ok (.ldc 212, 2) := by decide +kernel
theorem dX4_payByText_82 : decode cX4_payByText 82 = .ok (.invokespecial 62, 3) := by decide +kernel
theorem dX4_payByText_85 : decode cX4_payByText 85 = .ok (.athrow, 1) := by decide +kernel
theorem dX4_payByText_86 : decode cX4_payByText 86 = .ok (.aload 5, 2) := by decide +kernel
theorem dX4_payByText_88 : decode cX4_payByText 88 = .ok (.getfield 159, 3) := by decide +kernel
theorem dX4_payByText_91 : decode cX4_payByText 91 = .ok (.iload_n 2, 1) := by decide +kernel
theorem dX4_payByText_92 : decode cX4_payByText 92 = .ok (.if_icmp .eq 13, 3) := by decide +kernel
theorem dX4_payByText_95 : decode cX4_payByText 95 = .ok (.new 58, 3) := by decide +kernel
theorem dX4_payByText_98 : decode cX4_payByText 98 = .ok (.dup, 1) := by decide +kernel
theorem dX4_payByText_99 : decode cX4_payByText 99 = .ok (.ldc 214, 2) := by decide +kernel
theorem dX4_payByText_101 : decode cX4_payByText 101 = .ok (.invokespecial 62, 3) := by decide +kernel
theorem dX4_payByText_104 : decode cX4_payByText 104 = .ok (.athrow, 1) := by decide +kernel
theorem dX4_payByText_105 : decode cX4_payByText 105 = .ok (.iload_n 3, 1) := by decide +kernel
theorem dX4_payByText_106 : decode cX4_payByText 106 = .ok (.aload 5, 2) := by decide +kernel
theorem dX4_payByText_108 : decode cX4_payByText 108 = .ok (.invokevirtual 108, 3) := by decide +kernel
theorem dX4_payByText_111 : decode cX4_payByText 111 = .ok (.if_icmp .le 13, 3) := by decide +kernel
theorem dX4_payByText_114 : decode cX4_payByText 114 = .ok (.new 58, 3) := by decide +kernel
theorem dX4_payByText_117 : decode cX4_payByText 117 = .ok (.dup, 1) := by decide +kernel
theorem dX4_payByText_118 : decode cX4_payByText 118 = .ok (.ldc 216, 2) := by decide +kernel
theorem dX4_payByText_120 : decode cX4_payByText 120 = .ok (.invokespecial 62, 3) := by decide +kernel
theorem dX4_payByText_123 : decode cX4_payByText 123 = .ok (.athrow, 1) := by decide +kernel
theorem dX4_payByText_124 : decode cX4_payByText 124 = .ok (.aload_n 0, 1) := by decide +kernel
theorem dX4_payByText_125 : decode cX4_payByText 125 = .ok (.invokevirtual 164, 3) := by decide +kernel
theorem dX4_payByText_128 : decode cX4_payByText 128 = .ok (.aload_n 0, 1) := by decide +kernel
theorem dX4_payByText_129 : decode cX4_payByText 129 = .ok (.aload 5, 2) := by decide +kernel
theorem dX4_payByText_131 : decode cX4_payByText 131 = .ok (.iload_n 3, 1) := by decide +kernel
theorem dX4_payByText_132 : decode cX4_payByText 132 = .ok (.invokevirtual 218, 3) := by decide +kernel
theorem dX4_payByText_135 : decode cX4_payByText 135 = .ok (.aload_n 0, 1) := by decide +kernel
theorem dX4_payByText_136 : decode cX4_payByText 136 = .ok (.getfield 29, 3) := by decide +kernel
theorem dX4_payByText_139 : decode cX4_payByText 139 = .ok (.iconst 0, 1) := by decide +kernel
theorem dX4_payByText_140 : decode cX4_payByText 140 = .ok (.invokevirtual 192, 3) := by decide +kernel
theorem dX4_payByText_143 : decode cX4_payByText 143 = .ok (.iload 4, 2) := by decide +kernel
theorem dX4_payByText_145 : decode cX4_payByText 145 = .ok (.ireturn, 1) := by decide +kernel
theorem dX4_payBySum_0 : decode cX4_payBySum 0 = .ok (.aload_n 0, 1) := by decide +kernel
theorem dX4_payBySum_1 : decode cX4_payBySum 1 = .ok (.iload_n 1, 1) := by decide +kernel
theorem dX4_payBySum_2 : decode cX4_payBySum 2 = .ok (.iload_n 2, 1) := by decide +kernel
theorem dX4_payBySum_3 : decode cX4_payBySum 3 = .ok (.iload_n 3, 1) := by decide +kernel
theorem dX4_payBySum_4 : decode cX4_payBySum 4 = .ok (.invokevirtual 198, 3) := by decide +kernel
theorem dX4_payBySum_7 : decode cX4_payBySum 7 = .ok (.iconst 0, 1) := by decide +kernel
theorem dX4_payBySum_8 : decode cX4_payBySum 8 = .ok (.istore 4, 2) := by decide +kernel
theorem dX4_payBySum_10 : decode cX4_payBySum 10 = .ok (.iload 4, 2) := by decide +kernel
theorem dX4_payBySum_12 : decode cX4_payBySum 12 = .ok (.aload_n 0, 1) := by decide +kernel
theorem dX4_payBySum_13 : decode cX4_payBySum 13 = .ok (.getfield 10, 3) := by decide +kernel
theorem dX4_payBySum_16 : decode cX4_payBySum 16 = .ok (.invokevirtual 54, 3) := by decide +kernel
theorem dX4_payBySum_19 : decode cX4_payBySum 19 = .ok (.if_icmp .ge 64, 3) := by decide +kernel
theorem dX4_payBySum_22 : decode cX4_payBySum 22 = .ok (.aload_n 0, 1) := by decide +kernel
theorem dX4_payBySum_23 : decode cX4_payBySum 23 = .ok (.getfield 10, 3) := by decide +kernel
theorem dX4_payBySum_26 : decode cX4_payBySum 26 = .ok (.iload 4, 2) := by decide +kernel
theorem dX4_payBySum_28 : decode cX4_payBySum 28 = .ok (.invokevirtual 208, 3) := by decide +kernel
theorem dX4_payBySum_31 : decode cX4_payBySum 31 = .ok (.checkcast 65, 3) := by decide +kernel
theorem dX4_payBySum_34 : decode cX4_payBySum 34 = .ok (.astore 5, 2) := by decide +kernel
theorem dX4_payBySum_36 : decode cX4_payBySum 36 = .ok (.aload 5, 2) := by decide +kernel
theorem dX4_payBySum_38 : decode cX4_payBySum 38 = .ok (.getfield 151, 3) := by decide +kernel
theorem dX4_payBySum_41 : decode cX4_payBySum 41 = .ok (.iload_n 1, 1) := by decide +kernel
theorem dX4_payBySum_42 : decode cX4_payBySum 42 = .ok (.if_icmp .ne 35, 3) := by decide +kernel
theorem dX4_payBySum_45 : decode cX4_payBySum 45 = .ok (.aload 5, 2) := by decide +kernel
theorem dX4_payBySum_47 : decode cX4_payBySum 47 = .ok (.getfield 159, 3) := by decide +kernel
theorem dX4_payBySum_50 : decode cX4_payBySum 50 = .ok (.iload_n 2, 1) := by decide +kernel
theorem dX4_payBySum_51 : decode cX4_payBySum 51 = .ok (.if_icmp .ne 26, 3) := by decide +kernel
theorem dX4_payBySum_54 : decode cX4_payBySum 54 = .ok (.aload 5, 2) := by decide +kernel
theorem dX4_payBySum_56 : decode cX4_payBySum 56 = .ok (.invokevirtual 108, 3) := by decide +kernel
theorem dX4_payBySum_59 : decode cX4_payBySum 59 = .ok (.iload_n 3, 1) := by decide +kernel
theorem dX4_payBySum_60 : decode cX4_payBySum 60 = .ok (.if_icmp .ne 17, 3) := by decide +kernel
theorem dX4_payBySum_63 : decode cX4_payBySum 63 = .ok (.aload_n 0, 1) := by decide +kernel
theorem dX4_payBySum_64 : decode cX4_payBySum 64 = .ok (.invokevirtual 164, 3) := by decide +kernel
theorem dX4_payBySum_67 : decode cX4_payBySum 67 = .ok (.aload_n 0, 1) := by decide +kernel
theorem dX4_payBySum_68 : decode cX4_payBySum 68 = .ok (.aload 5, 2) := by decide +kernel
theorem dX4_payBySum_70 : decode cX4_payBySum 70 = .ok (.iload_n 3, 1) := by decide +kernel
theorem dX4_payBySum_71 : decode cX4_payBySum 71 = .ok (.invokevirtual 218, 3) := by decide +kernel
theorem dX4_payBySum_74 : decode cX4_payBySum 74 = .ok (.iload 4, 2) := by decide +kernel
theorem dX4_payBySum_76 : decode cX4_payBySum 76 = .ok (.ireturn, 1) := by decide +kernel
theorem dX4_payBySum_77 : decode cX4_payBySum 77 = .ok (.iinc 4 1, 3) := by decide +kernel
theorem dX4_payBySum_80 : decode cX4_payBySum 80 = .ok (.goto (-70), 3) := by decide +kernel
theorem dX4_payBySum_83 : decode cX4_payBySum 83 = .ok (.new 58, 3) := by decide +kernel
theorem dX4_payBySum_86 : decode cX4_payBySum 86 = .ok (.dup, 1) := by decide +kernel
theorem dX4_payBySum_87 : decode cX4_payBySum 87 = .ok (.ldc 206, 2) := by decide +kernel
theorem dX4_payBySum_89 : decode cX4_payBySum 89 = .ok (.invokespecial 62, 3) := by decide +kernel
theorem dX4_payBySum_92 : decode cX4_payBySum 92 = .ok (.athrow, 1) := by decide +kernel
theorem dX4_pass_0 : decode cX4_pass 0 = .ok (.iload_n 1, 1) := by decide +kernel
theorem dX4_pass_1 : decode cX4_pass 1 = .ok (.iconst 1, 1) := by decide +kernel
theorem dX4_pass_2 : decode cX4_pass 2 = .ok (.if_icmp .lt 9, 3) := by decide +kernel
theorem dX4_pass_5 : decode cX4_pass 5 = .ok (.iload_n 1, 1) := by decide +kernel
theorem dX4_pass_6 : decode cX4_pass 6 = .ok (.bipush 60, 2) := by decide +kernel
theorem dX4_pass_8 : decode cX4_pass 8 = .ok (.if_icmp .le 13, 3) := by decide +kernel
theorem dX4_pass_11 : decode cX4_pass 11 = .ok (.new 121, 3) := by decide +kernel
theorem dX4_pass_14 : decode cX4_pass 14 = .ok (.dup, 1) := by decide +kernel
theorem dX4_pass_15 : decode cX4_pass 15 = .ok (.ldc 222, 2) := by decide +kernel
theorem dX4_pass_17 : decode cX4_pass 17 = .ok (.invokespecial 125, 3) := by decide +kernel
theorem dX4_pass_20 : decode cX4_pass 20 = .ok (.athrow, 1) := by decide +kernel
theorem dX4_pass_21 : decode cX4_pass 21 = .ok (.aload_n 0, 1) := by decide +kernel
theorem dX4_pass_22 : decode cX4_pass 22 = .ok (.getfield 33, 3) := by decide +kernel
theorem dX4_pass_25 : decode cX4_pass 25 = .ok (.iload_n 1, 1) := by decide +kernel
theorem dX4_pass_26 : decode cX4_pass 26 = .ok (.iadd, 1) := by decide +kernel
theorem dX4_pass_27 : decode cX4_pass 27 = .ok (.sipush 999, 3) := by decide +kernel
theorem dX4_pass_30 : decode cX4_pass 30 = .ok (.if_icmp .le 13, 3) := by decide +kernel
theorem dX4_pass_33 : decode cX4_pass 33 = .ok (.new 58, 3) := by decide +kernel
theorem dX4_pass_36 : decode cX4_pass 36 = .ok (.dup, 1) := by decide +kernel
theorem dX4_pass_37 : decode cX4_pass 37 = .ok (.ldc 224, 2) := by decide +kernel
theorem dX4_pass_39 : decode cX4_pass 39 = .ok (.invokespecial 62, 3) := by decide +kernel
theorem dX4_pass_42 : decode cX4_pass 42 = .ok (.athrow, 1) := by decide +kernel
theorem dX4_pass_43 : decode cX4_pass 43 = .ok (.aload_n 0, 1) := by decide +kernel
theorem dX4_pass_44 : decode cX4_pass 44 = .ok (.dup, 1) := by decide +kernel
theorem dX4_pass_45 : decode cX4_pass 45 = .ok (.getfield 33, 3) := by decide +kernel
theorem dX4_pass_48 : decode cX4_pass 48 = .ok (.iload_n 1, 1) := by decide +kernel
theorem dX4_pass_49 : decode cX4_pass 49 = .ok (.iadd, 1) := by decide +kernel
theorem dX4_pass_50 : decode cX4_pass 50 = .ok (.putfield 33, 3) := by decide +kernel
theorem dX4_pass_53 : decode cX4_pass 53 = .ok (.aload_n 0, 1) := by decide +kernel
theorem dX4_pass_54 : decode cX4_pass 54 = .ok (.getfield 33, 3) := by decide +kernel
theorem dX4_pass_57 : decode cX4_pass 57 = .ok (.invokestatic 226, 3) := by decide +kernel
theorem dX4_pass_60 : decode cX4_pass 60 = .ok (.ireturn, 1) := by decide +kernel
theorem dX4_about_0 : decode cX4_about 0 = .ok (.aload_n 0, 1) := by decide +kernel
theorem dX4_about_1 : decode cX4_about 1 = .ok (.iload_n 1, 1) := by decide +kernel
theorem dX4_about_2 : decode cX4_about 2 = .ok (.invokevirtual 81, 3) := by decide +kernel
theorem dX4_about_5 : decode cX4_about 5 = .ok (.astore_n 3, 1) := by decide +kernel
theorem dX4_about_6 : decode cX4_about 6 = .ok (.iload_n 2, 1) := by decide +kernel
theorem dX4_about_7 : decode cX4_about 7 = .ok (.tableswitch 106 0 9 #[53, 58, 63, 68, 73, 78, 83, 88, 96, 101], 53) := by decide +kernel
theorem dX4_about_60 : decode cX4_about 60 = .ok (.aload_n 3, 1) := by decide +kernel
theorem dX4_about_61 : decode cX4_about 61 = .ok (.getfield 102, 3) := by decide +kernel
theorem dX4_about_64 : decode cX4_about 64 = .ok (.ireturn, 1) := by decide +kernel
theorem dX4_about_65 : decode cX4_about 65 = .ok (.aload_n 3, 1) := by decide +kernel
theorem dX4_about_66 : decode cX4_about 66 = .ok (.getfield 148, 3) := by decide +kernel
theorem dX4_about_69 : decode cX4_about 69 = .ok (.ireturn, 1) := by decide +kernel
theorem dX4_about_70 : decode cX4_about 70 = .ok (.aload_n 3, 1) := by decide +kernel
theorem dX4_about_71 : decode cX4_about 71 = .ok (.getfield 151, 3) := by decide +kernel
theorem dX4_about_74 : decode cX4_about 74 = .ok (.ireturn, 1) := by decide +kernel
theorem dX4_about_75 : decode cX4_about 75 = .ok (.aload_n 3, 1) := by decide +kernel
theorem dX4_about_76 : decode cX4_about 76 = .ok (.getfield 159, 3) := by decide +kernel
theorem dX4_about_79 : decode cX4_about 79 = .ok (.ireturn, 1) := by decide +kernel
theorem dX4_about_80 : decode cX4_about 80 = .ok (.aload_n 3, 1) := by decide +kernel
theorem dX4_about_81 : decode cX4_about 81 = .ok (.invokevirtual 111, 3) := by decide +kernel
theorem dX4_about_84 : decode cX4_about 84 = .ok (.ireturn, 1) := by decide +kernel
theorem dX4_about_85 : decode cX4_about 85 = .ok (.aload_n 3, 1) := by decide +kernel
theorem dX4_about_86 : decode cX4_about 86 = .ok (.invokevirtual 108, 3) := by decide +kernel
theorem dX4_about_89 : decode cX4_about 89 = .ok (.ireturn, 1) := by decide +kernel
theorem dX4_about_90 : decode cX4_about 90 = .ok (.aload_n 3, 1) := by decide +kernel
theorem dX4_about_91 : decode cX4_about 91 = .ok (.getfield 230, 3) := by decide +kernel
theorem dX4_about_94 : decode cX4_about 94 = .ok (.ireturn, 1) := by decide +kernel
theorem dX4_about_95 : decode cX4_about 95 = .ok (.aload_n 3, 1) := by decide +kernel
theorem dX4_about_96 : decode cX4_about 96 = .ok (.getfield 70, 3) := by decide +kernel
theorem dX4_about_99 : decode cX4_about 99 = .ok (.invokevirtual 54, 3) := by decide +kernel
theorem dX4_about_102 : decode cX4_about 102 = .ok (.ireturn, 1) := by decide +kernel
theorem dX4_about_103 : decode cX4_about 103 = .ok (.aload_n 3, 1) := by decide +kernel
theorem dX4_about_104 : decode cX4_about 104 = .ok (.getfield 89, 3) := by decide +kernel
theorem dX4_about_107 : decode cX4_about 107 = .ok (.ireturn, 1) := by decide +kernel
theorem dX4_about_108 : decode cX4_about 108 = .ok (.aload_n 3, 1) := by decide +kernel
theorem dX4_about_109 : decode cX4_about 109 = .ok (.invokevirtual 233, 3) := by decide +kernel
theorem dX4_about_112 : decode cX4_about 112 = .ok (.ireturn, 1) := by decide +kernel
theorem dX4_about_113 : decode cX4_about 113 = .ok (.new 121, 3) := by decide +kernel
theorem dX4_about_116 : decode cX4_about 116 = .ok (.dup, 1) := by decide +kernel
theorem dX4_about_117 : decode cX4_about 117 = .ok (.ldc 236, 2) := by decide +kernel
theorem dX4_about_119 : decode cX4_about 119 = .ok (.invokespecial 125, 3) := by decide +kernel
theorem dX4_about_122 : decode cX4_about 122 = .ok (.athrow, 1) := by decide +kernel
theorem dX4_lineOf_0 : decode cX4_lineOf 0 = .ok (.aload_n 0, 1) := by decide +kernel
theorem dX4_lineOf_1 : decode cX4_lineOf 1 = .ok (.aload_n 0, 1) := by decide +kernel
theorem dX4_lineOf_2 : decode cX4_lineOf 2 = .ok (.iload_n 1, 1) := by decide +kernel
theorem dX4_lineOf_3 : decode cX4_lineOf 3 = .ok (.invokevirtual 81, 3) := by decide +kernel
theorem dX4_lineOf_6 : decode cX4_lineOf 6 = .ok (.iload_n 2, 1) := by decide +kernel
theorem dX4_lineOf_7 : decode cX4_lineOf 7 = .ok (.invokevirtual 114, 3) := by decide +kernel
theorem dX4_lineOf_10 : decode cX4_lineOf 10 = .ok (.astore 4, 2) := by decide +kernel
theorem dX4_lineOf_12 : decode cX4_lineOf 12 = .ok (.iload_n 3, 1) := by decide +kernel
theorem dX4_lineOf_13 : decode cX4_lineOf 13 = .ok (.tableswitch 73 0 4 #[35, 41, 47, 53, 67], 35) := by decide +kernel
theorem dX4_lineOf_48 : decode cX4_lineOf 48 = .ok (.aload 4, 2) := by decide +kernel
theorem dX4_lineOf_50 : decode cX4_lineOf 50 = .ok (.getfield 118, 3) := by decide +kernel
theorem dX4_lineOf_53 : decode cX4_lineOf 53 = .ok (.ireturn, 1) := by decide +kernel
theorem dX4_lineOf_54 : decode cX4_lineOf 54 = .ok (.aload 4, 2) := by decide +kernel
theorem dX4_lineOf_56 : decode cX4_lineOf 56 = .ok (.getfield 238, 3) := by decide +kernel
theorem dX4_lineOf_59 : decode cX4_lineOf 59 = .ok (.ireturn, 1) := by decide +kernel
theorem dX4_lineOf_60 : decode cX4_lineOf 60 = .ok (.aload 4, 2) := by decide +kernel
theorem dX4_lineOf_62 : decode cX4_lineOf 62 = .ok (.invokevirtual 241, 3) := by decide +kernel
theorem dX4_lineOf_65 : decode cX4_lineOf 65 = .ok (.ireturn, 1) := by decide +kernel
theorem dX4_lineOf_66 : decode cX4_lineOf 66 = .ok (.aload 4, 2) := by decide +kernel
theorem dX4_lineOf_68 : decode cX4_lineOf 68 = .ok (.getfield 137, 3) := by decide +kernel
theorem dX4_lineOf_71 : decode cX4_lineOf 71 = .ok (.ifCond .eq 7, 3) := by decide +kernel
theorem dX4_lineOf_74 : decode cX4_lineOf 74 = .ok (.iconst 1, 1) := by decide +kernel
theorem dX4_lineOf_75 : decode cX4_lineOf 75 = .ok (.goto 4, 3) := by decide +kernel
theorem dX4_lineOf_78 : decode cX4_lineOf 78 = .ok (.iconst 0, 1) := by decide +kernel
theorem dX4_lineOf_79 : decode cX4_lineOf 79 = .ok (.ireturn, 1) := by decide +kernel
theorem dX4_lineOf_80 : decode cX4_lineOf 80 = .ok (.aload 4, 2) := by decide +kernel
theorem dX4_lineOf_82 : decode cX4_lineOf 82 = .ok (.getfield 242, 3) := by decide +kernel
theorem dX4_lineOf_85 : decode cX4_lineOf 85 = .ok (.ireturn, 1) := by decide +kernel
theorem dX4_lineOf_86 : decode cX4_lineOf 86 = .ok (.new 121, 3) := by decide +kernel
theorem dX4_lineOf_89 : decode cX4_lineOf 89 = .ok (.dup, 1) := by decide +kernel
theorem dX4_lineOf_90 : decode cX4_lineOf 90 = .ok (.ldc 236, 2) := by decide +kernel
theorem dX4_lineOf_92 : decode cX4_lineOf 92 = .ok (.invokespecial 125, 3) := by decide +kernel
theorem dX4_lineOf_95 : decode cX4_lineOf 95 = .ok (.athrow, 1) := by decide +kernel
theorem dX4_cash_0 : decode cX4_cash 0 = .ok (.iload_n 1, 1) := by decide +kernel
theorem dX4_cash_1 : decode cX4_cash 1 = .ok (.ifCond .lt 12, 3) := by decide +kernel
theorem dX4_cash_4 : decode cX4_cash 4 = .ok (.iload_n 1, 1) := by decide +kernel
theorem dX4_cash_5 : decode cX4_cash 5 = .ok (.aload_n 0, 1) := by decide +kernel
theorem dX4_cash_6 : decode cX4_cash 6 = .ok (.getfield 22, 3) := by decide +kernel
theorem dX4_cash_9 : decode cX4_cash 9 = .ok (.arraylength, 1) := by decide +kernel
theorem dX4_cash_10 : decode cX4_cash 10 = .ok (.if_icmp .lt 13, 3) := by decide +kernel
theorem dX4_cash_13 : decode cX4_cash 13 = .ok (.new 245, 3) := by decide +kernel
theorem dX4_cash_16 : decode cX4_cash 16 = .ok (.dup, 1) := by decide +kernel
theorem dX4_cash_17 : decode cX4_cash 17 = .ok (.ldc 247, 2) := by decide +kernel
theorem dX4_cash_19 : decode cX4_cash 19 = .ok (.invokespecial 249, 3) := by decide +kernel
theorem dX4_cash_22 : decode cX4_cash 22 = .ok (.athrow, 1) := by decide +kernel
theorem dX4_cash_23 : decode cX4_cash 23 = .ok (.aload_n 0, 1) := by decide +kernel
theorem dX4_cash_24 : decode cX4_cash 24 = .ok (.getfield 22, 3) := by decide +kernel
theorem dX4_cash_27 : decode cX4_cash 27 = .ok (.iload_n 1, 1) := by decide +kernel
theorem dX4_cash_28 : decode cX4_cash 28 = .ok (.iaload, 1) := by decide +kernel
theorem dX4_cash_29 : decode cX4_cash 29 = .ok (.ireturn, 1) := by decide +kernel
theorem dX4_cashAnew_0 : decode cX4_cashAnew 0 = .ok (.aload_n 0, 1) := by decide +kernel
theorem dX4_cashAnew_1 : decode cX4_cashAnew 1 = .ok (.iload_n 1, 1) := by decide +kernel
theorem dX4_cashAnew_2 : decode cX4_cashAnew 2 = .ok (.invokevirtual 37, 3) := by decide +kernel
theorem dX4_cashAnew_5 : decode cX4_cashAnew 5 = .ok (.iconst 0, 1) := by decide +kernel
theorem dX4_cashAnew_6 : decode cX4_cashAnew 6 = .ok (.istore_n 2, 1) := by decide +kernel
theorem dX4_cashAnew_7 : decode cX4_cashAnew 7 = .ok (.iconst 0, 1) := by decide +kernel
theorem dX4_cashAnew_8 : decode cX4_cashAnew 8 = .ok (.istore_n 3, 1) := by decide +kernel
theorem dX4_cashAnew_9 : decode cX4_cashAnew 9 = .ok (.iload_n 3, 1) := by decide +kernel
theorem dX4_cashAnew_10 : decode cX4_cashAnew 10 = .ok (.aload_n 0, 1) := by decide +kernel
theorem dX4_cashAnew_11 : decode cX4_cashAnew 11 = .ok (.getfield 19, 3) := by decide +kernel
theorem dX4_cashAnew_14 : decode cX4_cashAnew 14 = .ok (.invokevirtual 54, 3) := by decide +kernel
theorem dX4_cashAnew_17 : decode cX4_cashAnew 17 = .ok (.if_icmp .ge 56, 3) := by decide +kernel
theorem dX4_cashAnew_20 : decode cX4_cashAnew 20 = .ok (.aload_n 0, 1) := by decide +kernel
theorem dX4_cashAnew_21 : decode cX4_cashAnew 21 = .ok (.getfield 19, 3) := by decide +kernel
theorem dX4_cashAnew_24 : decode cX4_cashAnew 24 = .ok (.iload_n 3, 1) := by decide +kernel
theorem dX4_cashAnew_25 : decode cX4_cashAnew 25 = .ok (.invokevirtual 208, 3) := by decide +kernel
theorem dX4_cashAnew_28 : decode cX4_cashAnew 28 = .ok (.checkcast 250, 3) := by decide +kernel
theorem dX4_cashAnew_31 : decode cX4_cashAnew 31 = .ok (.astore 4, 2) := by decide +kernel
theorem dX4_cashAnew_33 : decode cX4_cashAnew 33 = .ok (.aload 4, 2) := by decide +kernel
theorem dX4_cashAnew_35 : decode cX4_cashAnew 35 = .ok (.getfield 252, 3) := by decide +kernel
theorem dX4_cashAnew_38 : decode cX4_cashAnew 38 = .ok (.iload_n 1, 1) := by decide +kernel
theorem dX4_cashAnew_39 : decode cX4_cashAnew 39 = .ok (.if_icmp .ne 11, 3) := by decide +kernel
theorem dX4_cashAnew_42 : decode cX4_cashAnew 42 = .ok (.iload_n 2, 1) := by decide +kernel
theorem dX4_cashAnew_43 : decode cX4_cashAnew 43 = .ok (.aload 4, 2) := by decide +kernel
theorem dX4_cashAnew_45 : decode cX4_cashAnew 45 = .ok (.getfield 255, 3) := by decide +kernel
theorem dX4_cashAnew_48 : decode cX4_cashAnew 48 = .ok (.iadd, 1) := by decide +kernel
theorem dX4_cashAnew_49 : decode cX4_cashAnew 49 = .ok (.istore_n 2, 1) := by decide +kernel
theorem dX4_cashAnew_50 : decode cX4_cashAnew 50 = .ok (.aload 4, 2) := by decide +kernel
theorem dX4_cashAnew_52 : decode cX4_cashAnew 52 = .ok (.getfield 258, 3) := by decide +kernel
theorem dX4_cashAnew_55 : decode cX4_cashAnew 55 = .ok (.iload_n 1, 1) := by decide +kernel
theorem dX4_cashAnew_56 : decode cX4_cashAnew 56 = .ok (.if_icmp .ne 11, 3) := by decide +kernel
theorem dX4_cashAnew_59 : decode cX4_cashAnew 59 = .ok (.iload_n 2, 1) := by decide +kernel
theorem dX4_cashAnew_60 : decode cX4_cashAnew 60 = .ok (.aload 4, 2) := by decide +kernel
theorem dX4_cashAnew_62 : decode cX4_cashAnew 62 = .ok (.getfield 255, 3) := by decide +kernel
theorem dX4_cashAnew_65 : decode cX4_cashAnew 65 = .ok (.isub, 1) := by decide +kernel
theorem dX4_cashAnew_66 : decode cX4_cashAnew 66 = .ok (.istore_n 2, 1) := by decide +kernel
theorem dX4_cashAnew_67 : decode cX4_cashAnew 67 = .ok (.iinc 3 1, 3) := by decide +kernel
theorem dX4_cashAnew_70 : decode cX4_cashAnew 70 = .ok (.goto (-61), 3) := by decide +kernel
theorem dX4_cashAnew_73 : decode cX4_cashAnew 73 = .ok (.iload_n 2, 1) := by decide +kernel
theorem dX4_cashAnew_74 : decode cX4_cashAnew 74 = .ok (.ireturn, 1) := by decide +kernel
theorem dX4_owedTo_0 : decode cX4_owedTo 0 = .ok (.aload_n 0, 1) := by decide +kernel
theorem dX4_owedTo_1 : decode cX4_owedTo 1 = .ok (.iload_n 1, 1) := by decide +kernel
theorem dX4_owedTo_2 : decode cX4_owedTo 2 = .ok (.invokevirtual 37, 3) := by decide +kernel
theorem dX4_owedTo_5 : decode cX4_owedTo 5 = .ok (.iconst 0, 1) := by decide +kernel
theorem dX4_owedTo_6 : decode cX4_owedTo 6 = .ok (.istore_n 2, 1) := by decide +kernel
theorem dX4_owedTo_7 : decode cX4_owedTo 7 = .ok (.iconst 0, 1) := by decide +kernel
theorem dX4_owedTo_8 : decode cX4_owedTo 8 = .ok (.istore_n 3, 1) := by decide +kernel
theorem dX4_owedTo_9 : decode cX4_owedTo 9 = .ok (.iload_n 3, 1) := by decide +kernel
theorem dX4_owedTo_10 : decode cX4_owedTo 10 = .ok (.aload_n 0, 1) := by decide +kernel
theorem dX4_owedTo_11 : decode cX4_owedTo 11 = .ok (.getfield 10, 3) := by decide +kernel
theorem dX4_owedTo_14 : decode cX4_owedTo 14 = .ok (.invokevirtual 54, 3) := by decide +kernel
theorem dX4_owedTo_17 : decode cX4_owedTo 17 = .ok (.if_icmp .ge 39, 3) := by decide +kernel
theorem dX4_owedTo_20 : decode cX4_owedTo 20 = .ok (.aload_n 0, 1) := by decide +kernel
theorem dX4_owedTo_21 : decode cX4_owedTo 21 = .ok (.getfield 10, 3) := by decide +kernel
theorem dX4_owedTo_24 : decode cX4_owedTo 24 = .ok (.iload_n 3, 1) := by decide +kernel
theorem dX4_owedTo_25 : decode cX4_owedTo 25 = .ok (.invokevirtual 208, 3) := by decide +kernel
theorem dX4_owedTo_28 : decode cX4_owedTo 28 = .ok (.checkcast 65, 3) := by decide +kernel
theorem dX4_owedTo_31 : decode cX4_owedTo 31 = .ok (.astore 4, 2) := by decide +kernel
theorem dX4_owedTo_33 : decode cX4_owedTo 33 = .ok (.aload 4, 2) := by decide +kernel
theorem dX4_owedTo_35 : decode cX4_owedTo 35 = .ok (.getfield 159, 3) := by decide +kernel
theorem dX4_owedTo_38 : decode cX4_owedTo 38 = .ok (.iload_n 1, 1) := by decide +kernel
theorem dX4_owedTo_39 : decode cX4_owedTo 39 = .ok (.if_icmp .ne 11, 3) := by decide +kernel
theorem dX4_owedTo_42 : decode cX4_owedTo 42 = .ok (.iload_n 2, 1) := by decide +kernel
theorem dX4_owedTo_43 : decode cX4_owedTo 43 = .ok (.aload 4, 2) := by decide +kernel
theorem dX4_owedTo_45 : decode cX4_owedTo 45 = .ok (.invokevirtual 108, 3) := by decide +kernel
theorem dX4_owedTo_48 : decode cX4_owedTo 48 = .ok (.iadd, 1) := by decide +kernel
theorem dX4_owedTo_49 : decode cX4_owedTo 49 = .ok (.istore_n 2, 1) := by decide +kernel
theorem dX4_owedTo_50 : decode cX4_owedTo 50 = .ok (.iinc 3 1, 3) := by decide +kernel
theorem dX4_owedTo_53 : decode cX4_owedTo 53 = .ok (.goto (-44), 3) := by decide +kernel
theorem dX4_owedTo_56 : decode cX4_owedTo 56 = .ok (.iload_n 2, 1) := by decide +kernel
theorem dX4_owedTo_57 : decode cX4_owedTo 57 = .ok (.ireturn, 1) := by decide +kernel
theorem dX4_owes_0 : decode cX4_owes 0 = .ok (.aload_n 0, 1) := by decide +kernel
theorem dX4_owes_1 : decode cX4_owes 1 = .ok (.iload_n 1, 1) := by decide +kernel
theorem dX4_owes_2 : decode cX4_owes 2 = .ok (.invokevirtual 37, 3) := by decide +kernel
theorem dX4_owes_5 : decode cX4_owes 5 = .ok (.iconst 0, 1) := by decide +kernel
theorem dX4_owes_6 : decode cX4_owes 6 = .ok (.istore_n 2, 1) := by decide +kernel
theorem dX4_owes_7 : decode cX4_owes 7 = .ok (.iconst 0, 1) := by decide +kernel
theorem dX4_owes_8 : decode cX4_owes 8 = .ok (.istore_n 3, 1) := by decide +kernel
theorem dX4_owes_9 : decode cX4_owes 9 = .ok (.iload_n 3, 1) := by decide +kernel
theorem dX4_owes_10 : decode cX4_owes 10 = .ok (.aload_n 0, 1) := by decide +kernel
theorem dX4_owes_11 : decode cX4_owes 11 = .ok (.getfield 10, 3) := by decide +kernel
theorem dX4_owes_14 : decode cX4_owes 14 = .ok (.invokevirtual 54, 3) := by decide +kernel
theorem dX4_owes_17 : decode cX4_owes 17 = .ok (.if_icmp .ge 39, 3) := by decide +kernel
theorem dX4_owes_20 : decode cX4_owes 20 = .ok (.aload_n 0, 1) := by decide +kernel
theorem dX4_owes_21 : decode cX4_owes 21 = .ok (.getfield 10, 3) := by decide +kernel
theorem dX4_owes_24 : decode cX4_owes 24 = .ok (.iload_n 3, 1) := by decide +kernel
theorem dX4_owes_25 : decode cX4_owes 25 = .ok (.invokevirtual 208, 3) := by decide +kernel
theorem dX4_owes_28 : decode cX4_owes 28 = .ok (.checkcast 65, 3) := by decide +kernel
theorem dX4_owes_31 : decode cX4_owes 31 = .ok (.astore 4, 2) := by decide +kernel
theorem dX4_owes_33 : decode cX4_owes 33 = .ok (.aload 4, 2) := by decide +kernel
theorem dX4_owes_35 : decode cX4_owes 35 = .ok (.getfield 151, 3) := by decide +kernel
theorem dX4_owes_38 : decode cX4_owes 38 = .ok (.iload_n 1, 1) := by decide +kernel
theorem dX4_owes_39 : decode cX4_owes 39 = .ok (.if_icmp .ne 11, 3) := by decide +kernel
theorem dX4_owes_42 : decode cX4_owes 42 = .ok (.iload_n 2, 1) := by decide +kernel
theorem dX4_owes_43 : decode cX4_owes 43 = .ok (.aload 4, 2) := by decide +kernel
theorem dX4_owes_45 : decode cX4_owes 45 = .ok (.invokevirtual 108, 3) := by decide +kernel
theorem dX4_owes_48 : decode cX4_owes 48 = .ok (.iadd, 1) := by decide +kernel
theorem dX4_owes_49 : decode cX4_owes 49 = .ok (.istore_n 2, 1) := by decide +kernel
theorem dX4_owes_50 : decode cX4_owes 50 = .ok (.iinc 3 1, 3) := by decide +kernel
theorem dX4_owes_53 : decode cX4_owes 53 = .ok (.goto (-44), 3) := by decide +kernel
theorem dX4_owes_56 : decode cX4_owes 56 = .ok (.iload_n 2, 1) := by decide +kernel
theorem dX4_owes_57 : decode cX4_owes 57 = .ok (.ireturn, 1) := by decide +kernel
theorem dX4_tax_0 : decode cX4_tax 0 = .ok (.aload_n 0, 1) := by decide +kernel
theorem dX4_tax_1 : decode cX4_tax 1 = .ok (.iload_n 1, 1) := by decide +kernel
theorem dX4_tax_2 : decode cX4_tax 2 = .ok (.invokevirtual 37, 3) := by decide +kernel
theorem dX4_tax_5 : decode cX4_tax 5 = .ok (.aload_n 0, 1) := by decide +kernel
theorem dX4_tax_6 : decode cX4_tax 6 = .ok (.iload_n 2, 1) := by decide +kernel
theorem dX4_tax_7 : decode cX4_tax 7 = .ok (.invokevirtual 261, 3) := by decide +kernel
theorem dX4_tax_10 : decode cX4_tax 10 = .ok (.aload_n 0, 1) := by decide +kernel
theorem dX4_tax_11 : decode cX4_tax 11 = .ok (.iload_n 1, 1) := by decide +kernel
theorem dX4_tax_12 : decode cX4_tax 12 = .ok (.iload_n 2, 1) := by decide +kernel
theorem dX4_tax_13 : decode cX4_tax 13 = .ok (.invokevirtual 264, 3) := by decide +kernel
theorem dX4_tax_16 : decode cX4_tax 16 = .ok (.iconst 0, 1) := by decide +kernel
theorem dX4_tax_17 : decode cX4_tax 17 = .ok (.invokestatic 268, 3) := by decide +kernel
theorem dX4_tax_20 : decode cX4_tax 20 = .ok (.ireturn, 1) := by decide +kernel
theorem dX4_carried_0 : decode cX4_carried 0 = .ok (.aload_n 0, 1) := by decide +kernel
theorem dX4_carried_1 : decode cX4_carried 1 = .ok (.iload_n 1, 1) := by decide +kernel
theorem dX4_carried_2 : decode cX4_carried 2 = .ok (.invokevirtual 37, 3) := by decide +kernel
theorem dX4_carried_5 : decode cX4_carried 5 = .ok (.aload_n 0, 1) := by decide +kernel
theorem dX4_carried_6 : decode cX4_carried 6 = .ok (.iload_n 2, 1) := by decide +kernel
theorem dX4_carried_7 : decode cX4_carried 7 = .ok (.invokevirtual 261, 3) := by decide +kernel
theorem dX4_carried_10 : decode cX4_carried 10 = .ok (.aload_n 0, 1) := by decide +kernel
theorem dX4_carried_11 : decode cX4_carried 11 = .ok (.iload_n 1, 1) := by decide +kernel
theorem dX4_carried_12 : decode cX4_carried 12 = .ok (.iload_n 2, 1) := by decide +kernel
theorem dX4_carried_13 : decode cX4_carried 13 = .ok (.invokevirtual 264, 3) := by decide +kernel
theorem dX4_carried_16 : decode cX4_carried 16 = .ok (.iconst 0, 1) := by decide +kernel
theorem dX4_carried_17 : decode cX4_carried 17 = .ok (.invokestatic 273, 3) := by decide +kernel
theorem dX4_carried_20 : decode cX4_carried 20 = .ok (.ireturn, 1) := by decide +kernel
theorem dX4_chain_0 : decode cX4_chain 0 = .ok (.aload_n 0, 1) := by decide +kernel
theorem dX4_chain_1 : decode cX4_chain 1 = .ok (.iload_n 1, 1) := by decide +kernel
theorem dX4_chain_2 : decode cX4_chain 2 = .ok (.invokevirtual 41, 3) := by decide +kernel
theorem dX4_chain_5 : decode cX4_chain 5 = .ok (.iconst 0, 1) := by decide +kernel
theorem dX4_chain_6 : decode cX4_chain 6 = .ok (.istore_n 2, 1) := by decide +kernel
theorem dX4_chain_7 : decode cX4_chain 7 = .ok (.iconst 0, 1) := by decide +kernel
theorem dX4_chain_8 : decode cX4_chain 8 = .ok (.istore_n 3, 1) := by decide +kernel
theorem dX4_chain_9 : decode cX4_chain 9 = .ok (.iload_n 3, 1) := by decide +kernel
theorem dX4_chain_10 : decode cX4_chain 10 = .ok (.aload_n 0, 1) := by decide +kernel
theorem dX4_chain_11 : decode cX4_chain 11 = .ok (.getfield 10, 3) := by decide +kernel
theorem dX4_chain_14 : decode cX4_chain 14 = .ok (.invokevirtual 54, 3) := by decide +kernel
theorem dX4_chain_17 : decode cX4_chain 17 = .ok (.if_icmp .ge 51, 3) := by decide +kernel
theorem dX4_chain_20 : decode cX4_chain 20 = .ok (.aload_n 0, 1) := by decide +kernel
theorem dX4_chain_21 : decode cX4_chain 21 = .ok (.getfield 10, 3) := by decide +kernel
theorem dX4_chain_24 : decode cX4_chain 24 = .ok (.iload_n 3, 1) := by decide +kernel
theorem dX4_chain_25 : decode cX4_chain 25 = .ok (.invokevirtual 208, 3) := by decide +kernel
theorem dX4_chain_28 : decode cX4_chain 28 = .ok (.checkcast 65, 3) := by decide +kernel
theorem dX4_chain_31 : decode cX4_chain 31 = .ok (.astore 4, 2) := by decide +kernel
theorem dX4_chain_33 : decode cX4_chain 33 = .ok (.aload 4, 2) := by decide +kernel
theorem dX4_chain_35 : decode cX4_chain 35 = .ok (.iload_n 1, 1) := by decide +kernel
theorem dX4_chain_36 : decode cX4_chain 36 = .ok (.invokevirtual 276, 3) := by decide +kernel
theorem dX4_chain_39 : decode cX4_chain 39 = .ok (.ifCond .eq 23, 3) := by decide +kernel
theorem dX4_chain_42 : decode cX4_chain 42 = .ok (.iload_n 2, 1) := by decide +kernel
theorem dX4_chain_43 : decode cX4_chain 43 = .ok (.aload 4, 2) := by decide +kernel
theorem dX4_chain_45 : decode cX4_chain 45 = .ok (.invokevirtual 233, 3) := by decide +kernel
theorem dX4_chain_48 : decode cX4_chain 48 = .ok (.aload_n 0, 1) := by decide +kernel
theorem dX4_chain_49 : decode cX4_chain 49 = .ok (.iload_n 3, 1) := by decide +kernel
theorem dX4_chain_50 : decode cX4_chain 50 = .ok (.aload 4, 2) := by decide +kernel
theorem dX4_chain_52 : decode cX4_chain 52 = .ok (.invokevirtual 280, 3) := by decide +kernel
theorem dX4_chain_55 : decode cX4_chain 55 = .ok (.isub, 1) := by decide +kernel
theorem dX4_chain_56 : decode cX4_chain 56 = .ok (.iconst 0, 1) := by decide +kernel
theorem dX4_chain_57 : decode cX4_chain 57 = .ok (.invokestatic 268, 3) := by decide +kernel
theorem dX4_chain_60 : decode cX4_chain 60 = .ok (.iadd, 1) := by decide +kernel
theorem dX4_chain_61 : decode cX4_chain 61 = .ok (.istore_n 2, 1) := by decide +kernel
theorem dX4_chain_62 : decode cX4_chain 62 = .ok (.iinc 3 1, 3) := by decide +kernel
theorem dX4_chain_65 : decode cX4_chain 65 = .ok (.goto (-56), 3) := by decide +kernel
theorem dX4_chain_68 : decode cX4_chain 68 = .ok (.iload_n 2, 1) := by decide +kernel
theorem dX4_chain_69 : decode cX4_chain 69 = .ok (.ireturn, 1) := by decide +kernel
theorem dX4_day_0 : decode cX4_day 0 = .ok (.aload_n 0, 1) := by decide +kernel
theorem dX4_day_1 : decode cX4_day 1 = .ok (.getfield 33, 3) := by decide +kernel
theorem dX4_day_4 : decode cX4_day 4 = .ok (.ireturn, 1) := by decide +kernel
theorem dX4_checkCompany_0 : decode cX4_checkCompany 0 = .ok (.iload_n 1, 1) := by decide +kernel
theorem dX4_checkCompany_1 : decode cX4_checkCompany 1 = .ok (.ifCond .lt 9, 3) := by decide +kernel
theorem dX4_checkCompany_4 : decode cX4_checkCompany 4 = .ok (.iload_n 1, 1) := by decide +kernel
theorem dX4_checkCompany_5 : decode cX4_checkCompany 5 = .ok (.bipush 6, 2) := by decide +kernel
theorem dX4_checkCompany_7 : decode cX4_checkCompany 7 = .ok (.if_icmp .lt 13, 3) := by decide +kernel
theorem dX4_checkCompany_10 : decode cX4_checkCompany 10 = .ok (.new 245, 3) := by decide +kernel
theorem dX4_checkCompany_13 : decode cX4_checkCompany 13 = .ok (.dup, 1) := by decide +kernel
theorem dX4_checkCompany_14 : decode cX4_checkCompany 14 = .ok (.ldc 247, 2) := by decide +kernel
theorem dX4_checkCompany_16 : decode cX4_checkCompany 16 = .ok (.invokespecial 249, 3) := by decide +kernel
theorem dX4_checkCompany_19 : decode cX4_checkCompany 19 = .ok (.athrow, 1) := by decide +kernel
theorem dX4_checkCompany_20 : decode cX4_checkCompany 20 = .ok (.return_, 1) := by decide +kernel
theorem dX4_checkGoods_0 : decode cX4_checkGoods 0 = .ok (.iload_n 1, 1) := by decide +kernel
theorem dX4_checkGoods_1 : decode cX4_checkGoods 1 = .ok (.ifCond .lt 9, 3) := by decide +kernel
theorem dX4_checkGoods_4 : decode cX4_checkGoods 4 = .ok (.iload_n 1, 1) := by decide +kernel
theorem dX4_checkGoods_5 : decode cX4_checkGoods 5 = .ok (.bipush 8, 2) := by decide +kernel
theorem dX4_checkGoods_7 : decode cX4_checkGoods 7 = .ok (.if_icmp .lt 14, 3) := by decide +kernel
theorem dX4_checkGoods_10 : decode cX4_checkGoods 10 = .ok (.new 245, 3) := by decide +kernel
theorem dX4_checkGoods_13 : decode cX4_checkGoods 13 = .ok (.dup, 1) := by decide +kernel
theorem dX4_checkGoods_14 : decode cX4_checkGoods 14 = .ok (.ldc_w 284, 3) := by decide +kernel
theorem dX4_checkGoods_17 : decode cX4_checkGoods 17 = .ok (.invokespecial 249, 3) := by decide +kernel
theorem dX4_checkGoods_20 : decode cX4_checkGoods 20 = .ok (.athrow, 1) := by decide +kernel
theorem dX4_checkGoods_21 : decode cX4_checkGoods 21 = .ok (.return_, 1) := by decide +kernel
theorem dX4_checkMonth_0 : decode cX4_checkMonth 0 = .ok (.iload_n 1, 1) := by decide +kernel
theorem dX4_checkMonth_1 : decode cX4_checkMonth 1 = .ok (.ifCond .lt 14, 3) := by decide +kernel
theorem dX4_checkMonth_4 : decode cX4_checkMonth 4 = .ok (.iload_n 1, 1) := by decide +kernel
theorem dX4_checkMonth_5 : decode cX4_checkMonth 5 = .ok (.aload_n 0, 1) := by decide +kernel
theorem dX4_checkMonth_6 : decode cX4_checkMonth 6 = .ok (.getfield 33, 3) := by decide +kernel
theorem dX4_checkMonth_9 : decode cX4_checkMonth 9 = .ok (.invokestatic 226, 3) := by decide +kernel
theorem dX4_checkMonth_12 : decode cX4_checkMonth 12 = .ok (.if_icmp .le 14, 3) := by decide +kernel
theorem dX4_checkMonth_15 : decode cX4_checkMonth 15 = .ok (.new 245, 3) := by decide +kernel
theorem dX4_checkMonth_18 : decode cX4_checkMonth 18 = .ok (.dup, 1) := by decide +kernel
theorem dX4_checkMonth_19 : decode cX4_checkMonth 19 = .ok (.ldc_w 286, 3) := by decide +kernel
theorem dX4_checkMonth_22 : decode cX4_checkMonth 22 = .ok (.invokespecial 249, 3) := by decide +kernel
theorem dX4_checkMonth_25 : decode cX4_checkMonth 25 = .ok (.athrow, 1) := by decide +kernel
theorem dX4_checkMonth_26 : decode cX4_checkMonth 26 = .ok (.return_, 1) := by decide +kernel
theorem dX4_checkAmount_0 : decode cX4_checkAmount 0 = .ok (.iload_n 1, 1) := by decide +kernel
theorem dX4_checkAmount_1 : decode cX4_checkAmount 1 = .ok (.iconst 1, 1) := by decide +kernel
theorem dX4_checkAmount_2 : decode cX4_checkAmount 2 = .ok (.if_icmp .lt 10, 3) := by decide +kernel
theorem dX4_checkAmount_5 : decode cX4_checkAmount 5 = .ok (.iload_n 1, 1) := by decide +kernel
theorem dX4_checkAmount_6 : decode cX4_checkAmount 6 = .ok (.sipush 9999, 3) := by decide +kernel
theorem dX4_checkAmount_9 : decode cX4_checkAmount 9 = .ok (.if_icmp .le 14, 3) := by decide +kernel
theorem dX4_checkAmount_12 : decode cX4_checkAmount 12 = .ok (.new 121, 3) := by decide +kernel
theorem dX4_checkAmount_15 : decode cX4_checkAmount 15 = .ok (.dup, 1) := by decide +kernel
theorem dX4_checkAmount_16 : decode cX4_checkAmount 16 = .ok (.ldc_w 288, 3) := by decide +kernel
theorem dX4_checkAmount_19 : decode cX4_checkAmount 19 = .ok (.invokespecial 125, 3) := by decide +kernel
theorem dX4_checkAmount_22 : decode cX4_checkAmount 22 = .ok (.athrow, 1) := by decide +kernel
theorem dX4_checkAmount_23 : decode cX4_checkAmount 23 = .ok (.return_, 1) := by decide +kernel
theorem dX4_checkRate_0 : decode cX4_checkRate 0 = .ok (.iload_n 1, 1) := by decide +kernel
theorem dX4_checkRate_1 : decode cX4_checkRate 1 = .ok (.ifCond .eq 26, 3) := by decide +kernel
theorem dX4_checkRate_4 : decode cX4_checkRate 4 = .ok (.iload_n 1, 1) := by decide +kernel
theorem dX4_checkRate_5 : decode cX4_checkRate 5 = .ok (.bipush 7, 2) := by decide +kernel
theorem dX4_checkRate_7 : decode cX4_checkRate 7 = .ok (.if_icmp .eq 20, 3) := by decide +kernel
theorem dX4_checkRate_10 : decode cX4_checkRate 10 = .ok (.iload_n 1, 1) := by decide +kernel
theorem dX4_checkRate_11 : decode cX4_checkRate 11 = .ok (.bipush 19, 2) := by decide +kernel
theorem dX4_checkRate_13 : decode cX4_checkRate 13 = .ok (.if_icmp .eq 14, 3) := by decide +kernel
theorem dX4_checkRate_16 : decode cX4_checkRate 16 = .ok (.new 121, 3) := by decide +kernel
theorem dX4_checkRate_19 : decode cX4_checkRate 19 = .ok (.dup, 1) := by decide +kernel
theorem dX4_checkRate_20 : decode cX4_checkRate 20 = .ok (.ldc_w 290, 3) := by decide +kernel
theorem dX4_checkRate_23 : decode cX4_checkRate 23 = .ok (.invokespecial 125, 3) := by decide +kernel
theorem dX4_checkRate_26 : decode cX4_checkRate 26 = .ok (.athrow, 1) := by decide +kernel
theorem dX4_checkRate_27 : decode cX4_checkRate 27 = .ok (.return_, 1) := by decide +kernel
theorem dX4_checkTwoCompanies_0 : decode cX4_checkTwoCompanies 0 = .ok (.iload_n 1, 1) := by decide +kernel
theorem dX4_checkTwoCompanies_1 : decode cX4_checkTwoCompanies 1 = .ok (.iload_n 2, 1) := by decide +kernel
theorem dX4_checkTwoCompanies_2 : decode cX4_checkTwoCompanies 2 = .ok (.if_icmp .ne 14, 3) := by decide +kernel
theorem dX4_checkTwoCompanies_5 : decode cX4_checkTwoCompanies 5 = .ok (.new 121, 3) := by decide +kernel
theorem dX4_checkTwoCompanies_8 : decode cX4_checkTwoCompanies 8 = .ok (.dup, 1) := by decide +kernel
theorem dX4_checkTwoCompanies_9 : decode cX4_checkTwoCompanies 9 = .ok (.ldc_w 292, 3) := by decide +kernel
theorem dX4_checkTwoCompanies_12 : decode cX4_checkTwoCompanies 12 = .ok (.invokespecial 125, 3) := by decide +kernel
theorem dX4_checkTwoCompanies_15 : decode cX4_checkTwoCompanies 15 = .ok (.athrow, 1) := by decide +kernel
theorem dX4_checkTwoCompanies_16 : decode cX4_checkTwoCompanies 16 = .ok (.return_, 1) := by decide +kernel
theorem dX4_checkPayment_0 : decode cX4_checkPayment 0 = .ok (.aload_n 0, 1) := by decide +kernel
theorem dX4_checkPayment_1 : decode cX4_checkPayment 1 = .ok (.iload_n 1, 1) := by decide +kernel
theorem dX4_checkPayment_2 : decode cX4_checkPayment 2 = .ok (.invokevirtual 37, 3) := by decide +kernel
theorem dX4_checkPayment_5 : decode cX4_checkPayment 5 = .ok (.aload_n 0, 1) := by decide +kernel
theorem dX4_checkPayment_6 : decode cX4_checkPayment 6 = .ok (.iload_n 2, 1) := by decide +kernel
theorem dX4_checkPayment_7 : decode cX4_checkPayment 7 = .ok (.invokevirtual 37, 3) := by decide +kernel
theorem dX4_checkPayment_10 : decode cX4_checkPayment 10 = .ok (.iload_n 3, 1) := by decide +kernel
theorem dX4_checkPayment_11 : decode cX4_checkPayment 11 = .ok (.iconst 1, 1) := by decide +kernel
theorem dX4_checkPayment_12 : decode cX4_checkPayment 12 = .ok (.if_icmp .lt 10, 3) := by decide +kernel
theorem dX4_checkPayment_15 : decode cX4_checkPayment 15 = .ok (.iload_n 3, 1) := by decide +kernel
theorem dX4_checkPayment_16 : decode cX4_checkPayment 16 = .ok (.ldc_w 294, 3) := by decide +kernel
theorem dX4_checkPayment_19 : decode cX4_checkPayment 19 = .ok (.if_icmp .le 14, 3) := by decide +kernel
theorem dX4_checkPayment_22 : decode cX4_checkPayment 22 = .ok (.new 121, 3) := by decide +kernel
theorem dX4_checkPayment_25 : decode cX4_checkPayment 25 = .ok (.dup, 1) := by decide +kernel
theorem dX4_checkPayment_26 : decode cX4_checkPayment 26 = .ok (.ldc_w 295, 3) := by decide +kernel
theorem dX4_checkPayment_29 : decode cX4_checkPayment 29 = .ok (.invokespecial 125, 3) := by decide +kernel
theorem dX4_checkPayment_32 : decode cX4_checkPayment 32 = .ok (.athrow, 1) := by decide +kernel
theorem dX4_checkPayment_33 : decode cX4_checkPayment 33 = .ok (.aload_n 0, 1) := by decide +kernel
theorem dX4_checkPayment_34 : decode cX4_checkPayment 34 = .ok (.iload_n 1, 1) := by decide +kernel
theorem dX4_checkPayment_35 : decode cX4_checkPayment 35 = .ok (.iload_n 2, 1) := by decide +kernel
theorem dX4_checkPayment_36 : decode cX4_checkPayment 36 = .ok (.invokevirtual 50, 3) := by decide +kernel
theorem dX4_checkPayment_39 : decode cX4_checkPayment 39 = .ok (.return_, 1) := by decide +kernel
theorem dX4_checkSent_0 : decode cX4_checkSent 0 = .ok (.aload_n 1, 1) := by decide +kernel
theorem dX4_checkSent_1 : decode cX4_checkSent 1 = .ok (.getfield 102, 3) := by decide +kernel
theorem dX4_checkSent_4 : decode cX4_checkSent 4 = .ok (.ifCond .eq 14, 3) := by decide +kernel
theorem dX4_checkSent_7 : decode cX4_checkSent 7 = .ok (.new 58, 3) := by decide +kernel
theorem dX4_checkSent_10 : decode cX4_checkSent 10 = .ok (.dup, 1) := by decide +kernel
theorem dX4_checkSent_11 : decode cX4_checkSent 11 = .ok (.ldc_w 297, 3) := by decide +kernel
theorem dX4_checkSent_14 : decode cX4_checkSent 14 = .ok (.invokespecial 62, 3) := by decide +kernel
theorem dX4_checkSent_17 : decode cX4_checkSent 17 = .ok (.athrow, 1) := by decide +kernel
theorem dX4_checkSent_18 : decode cX4_checkSent 18 = .ok (.return_, 1) := by decide +kernel
theorem dX4_checkOwed_0 : decode cX4_checkOwed 0 = .ok (.aload_n 1, 1) := by decide +kernel
theorem dX4_checkOwed_1 : decode cX4_checkOwed 1 = .ok (.invokevirtual 108, 3) := by decide +kernel
theorem dX4_checkOwed_4 : decode cX4_checkOwed 4 = .ok (.ifCond .ne 14, 3) := by decide +kernel
theorem dX4_checkOwed_7 : decode cX4_checkOwed 7 = .ok (.new 58, 3) := by decide +kernel
theorem dX4_checkOwed_10 : decode cX4_checkOwed 10 = .ok (.dup, 1) := by decide +kernel
theorem dX4_checkOwed_11 : decode cX4_checkOwed 11 = .ok (.ldc_w 299, 3) := by decide +kernel
theorem dX4_checkOwed_14 : decode cX4_checkOwed 14 = .ok (.invokespecial 62, 3) := by decide +kernel
theorem dX4_checkOwed_17 : decode cX4_checkOwed 17 = .ok (.athrow, 1) := by decide +kernel
theorem dX4_checkOwed_18 : decode cX4_checkOwed 18 = .ok (.return_, 1) := by decide +kernel
theorem dX4_checkRoomForCredit_0 : decode cX4_checkRoomForCredit 0 = .ok (.aload_n 0, 1) := by decide +kernel
theorem dX4_checkRoomForCredit_1 : decode cX4_checkRoomForCredit 1 = .ok (.getfield 16, 3) := by decide +kernel
theorem dX4_checkRoomForCredit_4 : decode cX4_checkRoomForCredit 4 = .ok (.invokevirtual 54, 3) := by decide +kernel
theorem dX4_checkRoomForCredit_7 : decode cX4_checkRoomForCredit 7 = .ok (.bipush 24, 2) := by decide +kernel
theorem dX4_checkRoomForCredit_9 : decode cX4_checkRoomForCredit 9 = .ok (.if_icmp .lt 14, 3) := by decide +kernel
theorem dX4_checkRoomForCredit_12 : decode cX4_checkRoomForCredit 12 = .ok (.new 58, 3) := by decide +kernel
theorem dX4_checkRoomForCredit_15 : decode cX4_checkRoomForCredit 15 = .ok (.dup, 1) := by decide +kernel
theorem dX4_checkRoomForCredit_16 : decode cX4_checkRoomForCredit 16 = .ok (.ldc_w 301, 3) := by decide +kernel
theorem dX4_checkRoomForCredit_19 : decode cX4_checkRoomForCredit 19 = .ok (.invokespecial 62, 3) := by decide +kernel
theorem dX4_checkRoomForCredit_22 : decode cX4_checkRoomForCredit 22 = .ok (.athrow, 1) := by decide +kernel
theorem dX4_checkRoomForCredit_23 : decode cX4_checkRoomForCredit 23 = .ok (.return_, 1) := by decide +kernel
theorem dX4_checkRoomForDocument_0 : decode cX4_checkRoomForDocument 0 = .ok (.aload_n 0, 1) := by decide +kernel
theorem dX4_checkRoomForDocument_1 : decode cX4_checkRoomForDocument 1 = .ok (.getfield 19, 3) := by decide +kernel
theorem dX4_checkRoomForDocument_4 : decode cX4_checkRoomForDocument 4 = .ok (.invokevirtual 54, 3) := by decide +kernel
theorem dX4_checkRoomForDocument_7 : decode cX4_checkRoomForDocument 7 = .ok (.sipush 512, 3) := by decide +kernel
theorem dX4_checkRoomForDocument_10 : decode cX4_checkRoomForDocument 10 = .ok (.if_icmp .lt 14, 3) := by decide +kernel
theorem dX4_checkRoomForDocument_13 : decode cX4_checkRoomForDocument 13 = .ok (.new 58, 3) := by decide +kernel
theorem dX4_checkRoomForDocument_16 : decode cX4_checkRoomForDocument 16 = .ok (.dup, 1) := by decide +kernel
theorem dX4_checkRoomForDocument_17 : decode cX4_checkRoomForDocument 17 = .ok (.ldc_w 303, 3) := by decide +kernel
theorem dX4_checkRoomForDocument_20 : decode cX4_checkRoomForDocument 20 = .ok (.invokespecial 62, 3) := by decide +kernel
theorem dX4_checkRoomForDocument_23 : decode cX4_checkRoomForDocument 23 = .ok (.athrow, 1) := by decide +kernel
theorem dX4_checkRoomForDocument_24 : decode cX4_checkRoomForDocument 24 = .ok (.return_, 1) := by decide +kernel
theorem dX4_invoiceAt_0 : decode cX4_invoiceAt 0 = .ok (.iload_n 1, 1) := by decide +kernel
theorem dX4_invoiceAt_1 : decode cX4_invoiceAt 1 = .ok (.ifCond .lt 14, 3) := by decide +kernel
theorem dX4_invoiceAt_4 : decode cX4_invoiceAt 4 = .ok (.iload_n 1, 1) := by decide +kernel
theorem dX4_invoiceAt_5 : decode cX4_invoiceAt 5 = .ok (.aload_n 0, 1) := by decide +kernel
theorem dX4_invoiceAt_6 : decode cX4_invoiceAt 6 = .ok (.getfield 10, 3) := by decide +kernel
theorem dX4_invoiceAt_9 : decode cX4_invoiceAt 9 = .ok (.invokevirtual 54, 3) := by decide +kernel
theorem dX4_invoiceAt_12 : decode cX4_invoiceAt 12 = .ok (.if_icmp .lt 13, 3) := by decide +kernel
theorem dX4_invoiceAt_15 : decode cX4_invoiceAt 15 = .ok (.new 245, 3) := by decide +kernel
theorem dX4_invoiceAt_18 : decode cX4_invoiceAt 18 = .ok (.dup, 1) := by decide +kernel
theorem dX4_invoiceAt_19 : decode cX4_invoiceAt 19 = .ok (.ldc 206, 2) := by decide +kernel
theorem dX4_invoiceAt_21 : decode cX4_invoiceAt 21 = .ok (.invokespecial 249, 3) := by decide +kernel
theorem dX4_invoiceAt_24 : decode cX4_invoiceAt 24 = .ok (.athrow, 1) := by decide +kernel
theorem dX4_invoiceAt_25 : decode cX4_invoiceAt 25 = .ok (.aload_n 0, 1) := by decide +kernel
theorem dX4_invoiceAt_26 : decode cX4_invoiceAt 26 = .ok (.getfield 10, 3) := by decide +kernel
theorem dX4_invoiceAt_29 : decode cX4_invoiceAt 29 = .ok (.iload_n 1, 1) := by decide +kernel
theorem dX4_invoiceAt_30 : decode cX4_invoiceAt 30 = .ok (.invokevirtual 208, 3) := by decide +kernel
theorem dX4_invoiceAt_33 : decode cX4_invoiceAt 33 = .ok (.checkcast 65, 3) := by decide +kernel
theorem dX4_invoiceAt_36 : decode cX4_invoiceAt 36 = .ok (.areturn, 1) := by decide +kernel
theorem dX4_lineAt_0 : decode cX4_lineAt 0 = .ok (.iload_n 2, 1) := by decide +kernel
theorem dX4_lineAt_1 : decode cX4_lineAt 1 = .ok (.ifCond .lt 14, 3) := by decide +kernel
theorem dX4_lineAt_4 : decode cX4_lineAt 4 = .ok (.iload_n 2, 1) := by decide +kernel
theorem dX4_lineAt_5 : decode cX4_lineAt 5 = .ok (.aload_n 1, 1) := by decide +kernel
theorem dX4_lineAt_6 : decode cX4_lineAt 6 = .ok (.getfield 70, 3) := by decide +kernel
theorem dX4_lineAt_9 : decode cX4_lineAt 9 = .ok (.invokevirtual 54, 3) := by decide +kernel
theorem dX4_lineAt_12 : decode cX4_lineAt 12 = .ok (.if_icmp .lt 14, 3) := by decide +kernel
theorem dX4_lineAt_15 : decode cX4_lineAt 15 = .ok (.new 245, 3) := by decide +kernel
theorem dX4_lineAt_18 : decode cX4_lineAt 18 = .ok (.dup, 1) := by decide +kernel
theorem dX4_lineAt_19 : decode cX4_lineAt 19 = .ok (.ldc_w 305, 3) := by decide +kernel
theorem dX4_lineAt_22 : decode cX4_lineAt 22 = .ok (.invokespecial 249, 3) := by decide +kernel
theorem dX4_lineAt_25 : decode cX4_lineAt 25 = .ok (.athrow, 1) := by decide +kernel
theorem dX4_lineAt_26 : decode cX4_lineAt 26 = .ok (.aload_n 1, 1) := by decide +kernel
theorem dX4_lineAt_27 : decode cX4_lineAt 27 = .ok (.getfield 70, 3) := by decide +kernel
theorem dX4_lineAt_30 : decode cX4_lineAt 30 = .ok (.iload_n 2, 1) := by decide +kernel
theorem dX4_lineAt_31 : decode cX4_lineAt 31 = .ok (.invokevirtual 208, 3) := by decide +kernel
theorem dX4_lineAt_34 : decode cX4_lineAt 34 = .ok (.checkcast 73, 3) := by decide +kernel
theorem dX4_lineAt_37 : decode cX4_lineAt 37 = .ok (.areturn, 1) := by decide +kernel
theorem dX4_makeCredit_0 : decode cX4_makeCredit 0 = .ok (.aload_n 2, 1) := by decide +kernel
theorem dX4_makeCredit_1 : decode cX4_makeCredit 1 = .ok (.invokevirtual 241, 3) := by decide +kernel
theorem dX4_makeCredit_4 : decode cX4_makeCredit 4 = .ok (.istore 4, 2) := by decide +kernel
theorem dX4_makeCredit_6 : decode cX4_makeCredit 6 = .ok (.aload_n 2, 1) := by decide +kernel
theorem dX4_makeCredit_7 : decode cX4_makeCredit 7 = .ok (.dup, 1) := by decide +kernel
theorem dX4_makeCredit_8 : decode cX4_makeCredit 8 = .ok (.getfield 118, 3) := by decide +kernel
theorem dX4_makeCredit_11 : decode cX4_makeCredit 11 = .ok (.iload_n 3, 1) := by decide +kernel
theorem dX4_makeCredit_12 : decode cX4_makeCredit 12 = .ok (.isub, 1) := by decide +kernel
theorem dX4_makeCredit_13 : decode cX4_makeCredit 13 = .ok (.putfield 118, 3) := by decide +kernel
theorem dX4_makeCredit_16 : decode cX4_makeCredit 16 = .ok (.aload_n 1, 1) := by decide +kernel
theorem dX4_makeCredit_17 : decode cX4_makeCredit 17 = .ok (.iconst 1, 1) := by decide +kernel
theorem dX4_makeCredit_18 : decode cX4_makeCredit 18 = .ok (.putfield 96, 3) := by decide +kernel
theorem dX4_makeCredit_21 : decode cX4_makeCredit 21 = .ok (.aload_n 0, 1) := by decide +kernel
theorem dX4_makeCredit_22 : decode cX4_makeCredit 22 = .ok (.getfield 16, 3) := by decide +kernel
theorem dX4_makeCredit_25 : decode cX4_makeCredit 25 = .ok (.new 307, 3) := by decide +kernel
theorem dX4_makeCredit_28 : decode cX4_makeCredit 28 = .ok (.dup, 1) := by decide +kernel
theorem dX4_makeCredit_29 : decode cX4_makeCredit 29 = .ok (.aload_n 1, 1) := by decide +kernel
theorem dX4_makeCredit_30 : decode cX4_makeCredit 30 = .ok (.aload_n 0, 1) := by decide +kernel
theorem dX4_makeCredit_31 : decode cX4_makeCredit 31 = .ok (.getfield 33, 3) := by decide +kernel
theorem dX4_makeCredit_34 : decode cX4_makeCredit 34 = .ok (.invokestatic 226, 3) := by decide +kernel
theorem dX4_makeCredit_37 : decode cX4_makeCredit 37 = .ok (.iload 4, 2) := by decide +kernel
theorem dX4_makeCredit_39 : decode cX4_makeCredit 39 = .ok (.aload_n 2, 1) := by decide +kernel
theorem dX4_makeCredit_40 : decode cX4_makeCredit 40 = .ok (.invokevirtual 241, 3) := by decide +kernel
theorem dX4_makeCredit_43 : decode cX4_makeCredit 43 = .ok (.isub, 1) := by decide +kernel
theorem dX4_makeCredit_44 : decode cX4_makeCredit 44 = .ok (.invokespecial 309, 3) := by decide +kernel
theorem dX4_makeCredit_47 : decode cX4_makeCredit 47 = .ok (.invokevirtual 77, 3) := by decide +kernel
theorem dX4_makeCredit_50 : decode cX4_makeCredit 50 = .ok (.pop, 1) := by decide +kernel
theorem dX4_makeCredit_51 : decode cX4_makeCredit 51 = .ok (.return_, 1) := by decide +kernel
theorem dX4_takePayment_0 : decode cX4_takePayment 0 = .ok (.aload_n 1, 1) := by decide +kernel
theorem dX4_takePayment_1 : decode cX4_takePayment 1 = .ok (.dup, 1) := by decide +kernel
theorem dX4_takePayment_2 : decode cX4_takePayment 2 = .ok (.getfield 230, 3) := by decide +kernel
theorem dX4_takePayment_5 : decode cX4_takePayment 5 = .ok (.iload_n 2, 1) := by decide +kernel
theorem dX4_takePayment_6 : decode cX4_takePayment 6 = .ok (.iadd, 1) := by decide +kernel
theorem dX4_takePayment_7 : decode cX4_takePayment 7 = .ok (.putfield 230, 3) := by decide +kernel
theorem dX4_takePayment_10 : decode cX4_takePayment 10 = .ok (.aload_n 0, 1) := by decide +kernel
theorem dX4_takePayment_11 : decode cX4_takePayment 11 = .ok (.aload_n 1, 1) := by decide +kernel
theorem dX4_takePayment_12 : decode cX4_takePayment 12 = .ok (.getfield 151, 3) := by decide +kernel
theorem dX4_takePayment_15 : decode cX4_takePayment 15 = .ok (.aload_n 1, 1) := by decide +kernel
theorem dX4_takePayment_16 : decode cX4_takePayment 16 = .ok (.getfield 159, 3) := by decide +kernel
theorem dX4_takePayment_19 : decode cX4_takePayment 19 = .ok (.iload_n 2, 1) := by decide +kernel
theorem dX4_takePayment_20 : decode cX4_takePayment 20 = .ok (.invokevirtual 173, 3) := by decide +kernel
theorem dX4_takePayment_23 : decode cX4_takePayment 23 = .ok (.return_, 1) := by decide +kernel
theorem dX4_moveCash_0 : decode cX4_moveCash 0 = .ok (.aload_n 0, 1) := by decide +kernel
theorem dX4_moveCash_1 : decode cX4_moveCash 1 = .ok (.getfield 19, 3) := by decide +kernel
theorem dX4_moveCash_4 : decode cX4_moveCash 4 = .ok (.new 250, 3) := by decide +kernel
theorem dX4_moveCash_7 : decode cX4_moveCash 7 = .ok (.dup, 1) := by decide +kernel
theorem dX4_moveCash_8 : decode cX4_moveCash 8 = .ok (.iload_n 1, 1) := by decide +kernel
theorem dX4_moveCash_9 : decode cX4_moveCash 9 = .ok (.iload_n 2, 1) := by decide +kernel
theorem dX4_moveCash_10 : decode cX4_moveCash 10 = .ok (.iload_n 3, 1) := by decide +kernel
theorem dX4_moveCash_11 : decode cX4_moveCash 11 = .ok (.invokespecial 312, 3) := by decide +kernel
theorem dX4_moveCash_14 : decode cX4_moveCash 14 = .ok (.invokevirtual 77, 3) := by decide +kernel
theorem dX4_moveCash_17 : decode cX4_moveCash 17 = .ok (.pop, 1) := by decide +kernel
theorem dX4_moveCash_18 : decode cX4_moveCash 18 = .ok (.aload_n 0, 1) := by decide +kernel
theorem dX4_moveCash_19 : decode cX4_moveCash 19 = .ok (.iload_n 1, 1) := by decide +kernel
theorem dX4_moveCash_20 : decode cX4_moveCash 20 = .ok (.iload_n 3, 1) := by decide +kernel
theorem dX4_moveCash_21 : decode cX4_moveCash 21 = .ok (.ineg, 1) := by decide +kernel
theorem dX4_moveCash_22 : decode cX4_moveCash 22 = .ok (.invokevirtual 314, 3) := by decide +kernel
theorem dX4_moveCash_25 : decode cX4_moveCash 25 = .ok (.aload_n 0, 1) := by decide +kernel
theorem dX4_moveCash_26 : decode cX4_moveCash 26 = .ok (.iload_n 2, 1) := by decide +kernel
theorem dX4_moveCash_27 : decode cX4_moveCash 27 = .ok (.iload_n 3, 1) := by decide +kernel
theorem dX4_moveCash_28 : decode cX4_moveCash 28 = .ok (.invokevirtual 314, 3) := by decide +kernel
theorem dX4_moveCash_31 : decode cX4_moveCash 31 = .ok (.return_, 1) := by decide +kernel
theorem dX4_addCash_0 : decode cX4_addCash 0 = .ok (.iload_n 1, 1) := by decide +kernel
theorem dX4_addCash_1 : decode cX4_addCash 1 = .ok (.ifCond .lt 22, 3) := by decide +kernel
theorem dX4_addCash_4 : decode cX4_addCash 4 = .ok (.iload_n 1, 1) := by decide +kernel
theorem dX4_addCash_5 : decode cX4_addCash 5 = .ok (.aload_n 0, 1) := by decide +kernel
theorem dX4_addCash_6 : decode cX4_addCash 6 = .ok (.getfield 22, 3) := by decide +kernel
theorem dX4_addCash_9 : decode cX4_addCash 9 = .ok (.arraylength, 1) := by decide +kernel
theorem dX4_addCash_10 : decode cX4_addCash 10 = .ok (.if_icmp .ge 13, 3) := by decide +kernel
theorem dX4_addCash_13 : decode cX4_addCash 13 = .ok (.aload_n 0, 1) := by decide +kernel
theorem dX4_addCash_14 : decode cX4_addCash 14 = .ok (.getfield 22, 3) := by decide +kernel
theorem dX4_addCash_17 : decode cX4_addCash 17 = .ok (.iload_n 1, 1) := by decide +kernel
theorem dX4_addCash_18 : decode cX4_addCash 18 = .ok (.dup2, 1) := by decide +kernel
theorem dX4_addCash_19 : decode cX4_addCash 19 = .ok (.iaload, 1) := by decide +kernel
theorem dX4_addCash_20 : decode cX4_addCash 20 = .ok (.iload_n 2, 1) := by decide +kernel
theorem dX4_addCash_21 : decode cX4_addCash 21 = .ok (.iadd, 1) := by decide +kernel
theorem dX4_addCash_22 : decode cX4_addCash 22 = .ok (.iastore, 1) := by decide +kernel
theorem dX4_addCash_23 : decode cX4_addCash 23 = .ok (.return_, 1) := by decide +kernel
theorem dX4_faultOfDraft_0 : decode cX4_faultOfDraft 0 = .ok (.aload_n 0, 1) := by decide +kernel
theorem dX4_faultOfDraft_1 : decode cX4_faultOfDraft 1 = .ok (.getfield 29, 3) := by decide +kernel
theorem dX4_faultOfDraft_4 : decode cX4_faultOfDraft 4 = .ok (.invokevirtual 183, 3) := by decide +kernel
theorem dX4_faultOfDraft_7 : decode cX4_faultOfDraft 7 = .ok (.istore_n 1, 1) := by decide +kernel
theorem dX4_faultOfDraft_8 : decode cX4_faultOfDraft 8 = .ok (.iload_n 1, 1) := by decide +kernel
theorem dX4_faultOfDraft_9 : decode cX4_faultOfDraft 9 = .ok (.iconst 1, 1) := by decide +kernel
theorem dX4_faultOfDraft_10 : decode cX4_faultOfDraft 10 = .ok (.if_icmp .lt 16, 3) := by decide +kernel
theorem dX4_faultOfDraft_13 : decode cX4_faultOfDraft 13 = .ok (.aload_n 0, 1) := by decide +kernel
theorem dX4_faultOfDraft_14 : decode cX4_faultOfDraft 14 = .ok (.getfield 29, 3) := by decide +kernel
theorem dX4_faultOfDraft_17 : decode cX4_faultOfDraft 17 = .ok (.iconst 0, 1) := by decide +kernel
theorem dX4_faultOfDraft_18 : decode cX4_faultOfDraft 18 = .ok (.invokevirtual 317, 3) := by decide +kernel
theorem dX4_faultOfDraft_21 : decode cX4_faultOfDraft 21 = .ok (.bipush 82, 2) := by decide +kernel
theorem dX4_faultOfDraft_23 : decode cX4_faultOfDraft 23 = .ok (.if_icmp .eq 5, 3) := by decide +kernel
theorem dX4_faultOfDraft_26 : decode cX4_faultOfDraft 26 = .ok (.iconst 0, 1) := by decide +kernel
theorem dX4_faultOfDraft_27 : decode cX4_faultOfDraft 27 = .ok (.ireturn, 1) := by decide +kernel
theorem dX4_faultOfDraft_28 : decode cX4_faultOfDraft 28 = .ok (.iload_n 1, 1) := by decide +kernel
theorem dX4_faultOfDraft_29 : decode cX4_faultOfDraft 29 = .ok (.iconst 2, 1) := by decide +kernel
theorem dX4_faultOfDraft_30 : decode cX4_faultOfDraft 30 = .ok (.if_icmp .lt 17, 3) := by decide +kernel
theorem dX4_faultOfDraft_33 : decode cX4_faultOfDraft 33 = .ok (.aload_n 0, 1) := by decide +kernel
theorem dX4_faultOfDraft_34 : decode cX4_faultOfDraft 34 = .ok (.getfield 29, 3) := by decide +kernel
theorem dX4_faultOfDraft_37 : decode cX4_faultOfDraft 37 = .ok (.iconst 1, 1) := by decide +kernel
theorem dX4_faultOfDraft_38 : decode cX4_faultOfDraft 38 = .ok (.invokevirtual 317, 3) := by decide +kernel
theorem dX4_faultOfDraft_41 : decode cX4_faultOfDraft 41 = .ok (.invokestatic 321, 3) := by decide +kernel
theorem dX4_faultOfDraft_44 : decode cX4_faultOfDraft 44 = .ok (.ifCond .ne 5, 3) := by decide +kernel
theorem dX4_faultOfDraft_47 : decode cX4_faultOfDraft 47 = .ok (.iconst 1, 1) := by decide +kernel
theorem dX4_faultOfDraft_48 : decode cX4_faultOfDraft 48 = .ok (.ireturn, 1) := by decide +kernel
theorem dX4_faultOfDraft_49 : decode cX4_faultOfDraft 49 = .ok (.iload_n 1, 1) := by decide +kernel
theorem dX4_faultOfDraft_50 : decode cX4_faultOfDraft 50 = .ok (.iconst 3, 1) := by decide +kernel
theorem dX4_faultOfDraft_51 : decode cX4_faultOfDraft 51 = .ok (.if_icmp .ge 5, 3) := by decide +kernel
theorem dX4_faultOfDraft_54 : decode cX4_faultOfDraft 54 = .ok (.iconst (-1), 1) := by decide +kernel
theorem dX4_faultOfDraft_55 : decode cX4_faultOfDraft 55 = .ok (.ireturn, 1) := by decide +kernel
theorem dX4_faultOfDraft_56 : decode cX4_faultOfDraft 56 = .ok (.aload_n 0, 1) := by decide +kernel
theorem dX4_faultOfDraft_57 : decode cX4_faultOfDraft 57 = .ok (.getfield 29, 3) := by decide +kernel
theorem dX4_faultOfDraft_60 : decode cX4_faultOfDraft 60 = .ok (.iconst 2, 1) := by decide +kernel
theorem dX4_faultOfDraft_61 : decode cX4_faultOfDraft 61 = .ok (.invokevirtual 317, 3) := by decide +kernel
theorem dX4_faultOfDraft_64 : decode cX4_faultOfDraft 64 = .ok (.invokestatic 321, 3) := by decide +kernel
theorem dX4_faultOfDraft_67 : decode cX4_faultOfDraft 67 = .ok (.ifCond .ne 5, 3) := by decide +kernel
theorem dX4_faultOfDraft_70 : decode cX4_faultOfDraft 70 = .ok (.iconst 2, 1) := by decide +kernel
theorem dX4_faultOfDraft_71 : decode cX4_faultOfDraft 71 = .ok (.ireturn, 1) := by decide +kernel
theorem dX4_faultOfDraft_72 : decode cX4_faultOfDraft 72 = .ok (.iload_n 1, 1) := by decide +kernel
theorem dX4_faultOfDraft_73 : decode cX4_faultOfDraft 73 = .ok (.iconst 3, 1) := by decide +kernel
theorem dX4_faultOfDraft_74 : decode cX4_faultOfDraft 74 = .ok (.if_icmp .ne 7, 3) := by decide +kernel
theorem dX4_faultOfDraft_77 : decode cX4_faultOfDraft 77 = .ok (.iconst (-1), 1) := by decide +kernel
theorem dX4_faultOfDraft_78 : decode cX4_faultOfDraft 78 = .ok (.goto 4, 3) := by decide +kernel
theorem dX4_faultOfDraft_81 : decode cX4_faultOfDraft 81 = .ok (.iconst 3, 1) := by decide +kernel
theorem dX4_faultOfDraft_82 : decode cX4_faultOfDraft 82 = .ok (.ireturn, 1) := by decide +kernel
theorem dX4_numberOfDraft_0 : decode cX4_numberOfDraft 0 = .ok (.iconst 0, 1) := by decide +kernel
theorem dX4_numberOfDraft_1 : decode cX4_numberOfDraft 1 = .ok (.istore_n 1, 1) := by decide +kernel
theorem dX4_numberOfDraft_2 : decode cX4_numberOfDraft 2 = .ok (.iconst 1, 1) := by decide +kernel
theorem dX4_numberOfDraft_3 : decode cX4_numberOfDraft 3 = .ok (.istore_n 2, 1) := by decide +kernel
theorem dX4_numberOfDraft_4 : decode cX4_numberOfDraft 4 = .ok (.iload_n 2, 1) := by decide +kernel
theorem dX4_numberOfDraft_5 : decode cX4_numberOfDraft 5 = .ok (.aload_n 0, 1) := by decide +kernel
theorem dX4_numberOfDraft_6 : decode cX4_numberOfDraft 6 = .ok (.getfield 29, 3) := by decide +kernel
theorem dX4_numberOfDraft_9 : decode cX4_numberOfDraft 9 = .ok (.invokevirtual 183, 3) := by decide +kernel
theorem dX4_numberOfDraft_12 : decode cX4_numberOfDraft 12 = .ok (.if_icmp .ge 26, 3) := by decide +kernel
theorem dX4_numberOfDraft_15 : decode cX4_numberOfDraft 15 = .ok (.iload_n 1, 1) := by decide +kernel
theorem dX4_numberOfDraft_16 : decode cX4_numberOfDraft 16 = .ok (.bipush 10, 2) := by decide +kernel
theorem dX4_numberOfDraft_18 : decode cX4_numberOfDraft 18 = .ok (.imul, 1) := by decide +kernel
theorem dX4_numberOfDraft_19 : decode cX4_numberOfDraft 19 = .ok (.aload_n 0, 1) := by decide +kernel
theorem dX4_numberOfDraft_20 : decode cX4_numberOfDraft 20 = .ok (.getfield 29, 3) := by decide +kernel
theorem dX4_numberOfDraft_23 : decode cX4_numberOfDraft 23 = .ok (.iload_n 2, 1) := by decide +kernel
theorem dX4_numberOfDraft_24 : decode cX4_numberOfDraft 24 = .ok (.invokevirtual 317, 3) := by decide +kernel
theorem dX4_numberOfDraft_27 : decode cX4_numberOfDraft 27 = .ok (.bipush 48, 2) := by decide +kernel
theorem dX4_numberOfDraft_29 : decode cX4_numberOfDraft 29 = .ok (.isub, 1) := by decide +kernel
theorem dX4_numberOfDraft_30 : decode cX4_numberOfDraft 30 = .ok (.iadd, 1) := by decide +kernel
theorem dX4_numberOfDraft_31 : decode cX4_numberOfDraft 31 = .ok (.istore_n 1, 1) := by decide +kernel
theorem dX4_numberOfDraft_32 : decode cX4_numberOfDraft 32 = .ok (.iinc 2 1, 3) := by decide +kernel
theorem dX4_numberOfDraft_35 : decode cX4_numberOfDraft 35 = .ok (.goto (-31), 3) := by decide +kernel
theorem dX4_numberOfDraft_38 : decode cX4_numberOfDraft 38 = .ok (.iload_n 1, 1) := by decide +kernel
theorem dX4_numberOfDraft_39 : decode cX4_numberOfDraft 39 = .ok (.ireturn, 1) := by decide +kernel
theorem dX4_taxWithCarried_0 : decode cX4_taxWithCarried 0 = .ok (.iconst 0, 1) := by decide +kernel
theorem dX4_taxWithCarried_1 : decode cX4_taxWithCarried 1 = .ok (.istore_n 3, 1) := by decide +kernel
theorem dX4_taxWithCarried_2 : decode cX4_taxWithCarried 2 = .ok (.iconst 0, 1) := by decide +kernel
theorem dX4_taxWithCarried_3 : decode cX4_taxWithCarried 3 = .ok (.istore 4, 2) := by decide +kernel
theorem dX4_taxWithCarried_5 : decode cX4_taxWithCarried 5 = .ok (.iload 4, 2) := by decide +kernel
theorem dX4_taxWithCarried_7 : decode cX4_taxWithCarried 7 = .ok (.iload_n 2, 1) := by decide +kernel
theorem dX4_taxWithCarried_8 : decode cX4_taxWithCarried 8 = .ok (.if_icmp .gt 23, 3) := by decide +kernel
theorem dX4_taxWithCarried_11 : decode cX4_taxWithCarried 11 = .ok (.iload_n 3, 1) := by decide +kernel
theorem dX4_taxWithCarried_12 : decode cX4_taxWithCarried 12 = .ok (.iconst 0, 1) := by decide +kernel
theorem dX4_taxWithCarried_13 : decode cX4_taxWithCarried 13 = .ok (.invokestatic 273, 3) := by decide +kernel
theorem dX4_taxWithCarried_16 : decode cX4_taxWithCarried 16 = .ok (.aload_n 0, 1) := by decide +kernel
theorem dX4_taxWithCarried_17 : decode cX4_taxWithCarried 17 = .ok (.iload_n 1, 1) := by decide +kernel
theorem dX4_taxWithCarried_18 : decode cX4_taxWithCarried 18 = .ok (.iload 4, 2) := by decide +kernel
theorem dX4_taxWithCarried_20 : decode cX4_taxWithCarried 20 = .ok (.invokevirtual 325, 3) := by decide +kernel
theorem dX4_taxWithCarried_23 : decode cX4_taxWithCarried 23 = .ok (.iadd, 1) := by decide +kernel
theorem dX4_taxWithCarried_24 : decode cX4_taxWithCarried 24 = .ok (.istore_n 3, 1) := by decide +kernel
theorem dX4_taxWithCarried_25 : decode cX4_taxWithCarried 25 = .ok (.iinc 4 1, 3) := by decide +kernel
theorem dX4_taxWithCarried_28 : decode cX4_taxWithCarried 28 = .ok (.goto (-23), 3) := by decide +kernel
theorem dX4_taxWithCarried_31 : decode cX4_taxWithCarried 31 = .ok (.iload_n 3, 1) := by decide +kernel
theorem dX4_taxWithCarried_32 : decode cX4_taxWithCarried 32 = .ok (.ireturn, 1) := by decide +kernel
theorem dX4_taxOfMonth_0 : decode cX4_taxOfMonth 0 = .ok (.iconst 0, 1) := by decide +kernel
theorem dX4_taxOfMonth_1 : decode cX4_taxOfMonth 1 = .ok (.istore_n 3, 1) := by decide +kernel
theorem dX4_taxOfMonth_2 : decode cX4_taxOfMonth 2 = .ok (.iconst 0, 1) := by decide +kernel
theorem dX4_taxOfMonth_3 : decode cX4_taxOfMonth 3 = .ok (.istore 4, 2) := by decide +kernel
theorem dX4_taxOfMonth_5 : decode cX4_taxOfMonth 5 = .ok (.iload 4, 2) := by decide +kernel
theorem dX4_taxOfMonth_7 : decode cX4_taxOfMonth 7 = .ok (.aload_n 0, 1) := by decide +kernel
theorem dX4_taxOfMonth_8 : decode cX4_taxOfMonth 8 = .ok (.getfield 10, 3) := by decide +kernel
theorem dX4_taxOfMonth_11 : decode cX4_taxOfMonth 11 = .ok (.invokevirtual 54, 3) := by decide +kernel
theorem dX4_taxOfMonth_14 : decode cX4_taxOfMonth 14 = .ok (.if_icmp .ge 29, 3) := by decide +kernel
theorem dX4_taxOfMonth_17 : decode cX4_taxOfMonth 17 = .ok (.iload_n 3, 1) := by decide +kernel
theorem dX4_taxOfMonth_18 : decode cX4_taxOfMonth 18 = .ok (.aload_n 0, 1) := by decide +kernel
theorem dX4_taxOfMonth_19 : decode cX4_taxOfMonth 19 = .ok (.getfield 10, 3) := by decide +kernel
theorem dX4_taxOfMonth_22 : decode cX4_taxOfMonth 22 = .ok (.iload 4, 2) := by decide +kernel
theorem dX4_taxOfMonth_24 : decode cX4_taxOfMonth 24 = .ok (.invokevirtual 208, 3) := by decide +kernel
theorem dX4_taxOfMonth_27 : decode cX4_taxOfMonth 27 = .ok (.checkcast 65, 3) := by decide +kernel
theorem dX4_taxOfMonth_30 : decode cX4_taxOfMonth 30 = .ok (.iload_n 1, 1) := by decide +kernel
theorem dX4_taxOfMonth_31 : decode cX4_taxOfMonth 31 = .ok (.iload_n 2, 1) := by decide +kernel
theorem dX4_taxOfMonth_32 : decode cX4_taxOfMonth 32 = .ok (.invokevirtual 328, 3) := by decide +kernel
theorem dX4_taxOfMonth_35 : decode cX4_taxOfMonth 35 = .ok (.iadd, 1) := by decide +kernel
theorem dX4_taxOfMonth_36 : decode cX4_taxOfMonth 36 = .ok (.istore_n 3, 1) := by decide +kernel
theorem dX4_taxOfMonth_37 : decode cX4_taxOfMonth 37 = .ok (.iinc 4 1, 3) := by decide +kernel
theorem dX4_taxOfMonth_40 : decode cX4_taxOfMonth 40 = .ok (.goto (-35), 3) := by decide +kernel
theorem dX4_taxOfMonth_43 : decode cX4_taxOfMonth 43 = .ok (.iconst 0, 1) := by decide +kernel
theorem dX4_taxOfMonth_44 : decode cX4_taxOfMonth 44 = .ok (.istore 4, 2) := by decide +kernel
theorem dX4_taxOfMonth_46 : decode cX4_taxOfMonth 46 = .ok (.iload 4, 2) := by decide +kernel
theorem dX4_taxOfMonth_48 : decode cX4_taxOfMonth 48 = .ok (.aload_n 0, 1) := by decide +kernel
theorem dX4_taxOfMonth_49 : decode cX4_taxOfMonth 49 = .ok (.getfield 16, 3) := by decide +kernel
theorem dX4_taxOfMonth_52 : decode cX4_taxOfMonth 52 = .ok (.invokevirtual 54, 3) := by decide +kernel
theorem dX4_taxOfMonth_55 : decode cX4_taxOfMonth 55 = .ok (.if_icmp .ge 29, 3) := by decide +kernel
theorem dX4_taxOfMonth_58 : decode cX4_taxOfMonth 58 = .ok (.iload_n 3, 1) := by decide +kernel
theorem dX4_taxOfMonth_59 : decode cX4_taxOfMonth 59 = .ok (.aload_n 0, 1) := by decide +kernel
theorem dX4_taxOfMonth_60 : decode cX4_taxOfMonth 60 = .ok (.getfield 16, 3) := by decide +kernel
theorem dX4_taxOfMonth_63 : decode cX4_taxOfMonth 63 = .ok (.iload 4, 2) := by decide +kernel
theorem dX4_taxOfMonth_65 : decode cX4_taxOfMonth 65 = .ok (.invokevirtual 208, 3) := by decide +kernel
theorem dX4_taxOfMonth_68 : decode cX4_taxOfMonth 68 = .ok (.checkcast 307, 3) := by decide +kernel
theorem dX4_taxOfMonth_71 : decode cX4_taxOfMonth 71 = .ok (.iload_n 1, 1) := by decide +kernel
theorem dX4_taxOfMonth_72 : decode cX4_taxOfMonth 72 = .ok (.iload_n 2, 1) := by decide +kernel
theorem dX4_taxOfMonth_73 : decode cX4_taxOfMonth 73 = .ok (.invokevirtual 331, 3) := by decide +kernel
theorem dX4_taxOfMonth_76 : decode cX4_taxOfMonth 76 = .ok (.iadd, 1) := by decide +kernel
theorem dX4_taxOfMonth_77 : decode cX4_taxOfMonth 77 = .ok (.istore_n 3, 1) := by decide +kernel
theorem dX4_taxOfMonth_78 : decode cX4_taxOfMonth 78 = .ok (.iinc 4 1, 3) := by decide +kernel
theorem dX4_taxOfMonth_81 : decode cX4_taxOfMonth 81 = .ok (.goto (-35), 3) := by decide +kernel
theorem dX4_taxOfMonth_84 : decode cX4_taxOfMonth 84 = .ok (.iload_n 3, 1) := by decide +kernel
theorem dX4_taxOfMonth_85 : decode cX4_taxOfMonth 85 = .ok (.ireturn, 1) := by decide +kernel
theorem dX4_greatestTaxAhead_0 : decode cX4_greatestTaxAhead 0 = .ok (.iconst 0, 1) := by decide +kernel
theorem dX4_greatestTaxAhead_1 : decode cX4_greatestTaxAhead 1 = .ok (.istore_n 3, 1) := by decide +kernel
theorem dX4_greatestTaxAhead_2 : decode cX4_greatestTaxAhead 2 = .ok (.iconst 0, 1) := by decide +kernel
theorem dX4_greatestTaxAhead_3 : decode cX4_greatestTaxAhead 3 = .ok (.istore 4, 2) := by decide +kernel
theorem dX4_greatestTaxAhead_5 : decode cX4_greatestTaxAhead 5 = .ok (.iload 4, 2) := by decide +kernel
theorem dX4_greatestTaxAhead_7 : decode cX4_greatestTaxAhead 7 = .ok (.iload_n 1, 1) := by decide +kernel
theorem dX4_greatestTaxAhead_8 : decode cX4_greatestTaxAhead 8 = .ok (.if_icmp .ge 69, 3) := by decide +kernel
theorem dX4_greatestTaxAhead_11 : decode cX4_greatestTaxAhead 11 = .ok (.iload 4, 2) := by decide +kernel
theorem dX4_greatestTaxAhead_13 : decode cX4_greatestTaxAhead 13 = .ok (.aload_n 0, 1) := by decide +kernel
theorem dX4_greatestTaxAhead_14 : decode cX4_greatestTaxAhead 14 = .ok (.getfield 10, 3) := by decide +kernel
theorem dX4_greatestTaxAhead_17 : decode cX4_greatestTaxAhead 17 = .ok (.invokevirtual 54, 3) := by decide +kernel
theorem dX4_greatestTaxAhead_20 : decode cX4_greatestTaxAhead 20 = .ok (.if_icmp .ge 57, 3) := by decide +kernel
theorem dX4_greatestTaxAhead_23 : decode cX4_greatestTaxAhead 23 = .ok (.aload_n 0, 1) := by decide +kernel
theorem dX4_greatestTaxAhead_24 : decode cX4_greatestTaxAhead 24 = .ok (.getfield 10, 3) := by decide +kernel
theorem dX4_greatestTaxAhead_27 : decode cX4_greatestTaxAhead 27 = .ok (.iload 4, 2) := by decide +kernel
theorem dX4_greatestTaxAhead_29 : decode cX4_greatestTaxAhead 29 = .ok (.invokevirtual 208, 3) := by decide +kernel
theorem dX4_greatestTaxAhead_32 : decode cX4_greatestTaxAhead 32 = .ok (.checkcast 65, 3) := by decide +kernel
theorem dX4_greatestTaxAhead_35 : decode cX4_greatestTaxAhead 35 = .ok (.astore 5, 2) := by decide +kernel
theorem dX4_greatestTaxAhead_37 : decode cX4_greatestTaxAhead 37 = .ok (.aload 5, 2) := by decide +kernel
theorem dX4_greatestTaxAhead_39 : decode cX4_greatestTaxAhead 39 = .ok (.aload_n 2, 1) := by decide +kernel
theorem dX4_greatestTaxAhead_40 : decode cX4_greatestTaxAhead 40 = .ok (.getfield 332, 3) := by decide +kernel
theorem dX4_greatestTaxAhead_43 : decode cX4_greatestTaxAhead 43 = .ok (.invokevirtual 276, 3) := by decide +kernel
theorem dX4_greatestTaxAhead_46 : decode cX4_greatestTaxAhead 46 = .ok (.ifCond .eq 25, 3) := by decide +kernel
theorem dX4_greatestTaxAhead_49 : decode cX4_greatestTaxAhead 49 = .ok (.aload 5, 2) := by decide +kernel
theorem dX4_greatestTaxAhead_51 : decode cX4_greatestTaxAhead 51 = .ok (.getfield 151, 3) := by decide +kernel
theorem dX4_greatestTaxAhead_54 : decode cX4_greatestTaxAhead 54 = .ok (.aload_n 2, 1) := by decide +kernel
theorem dX4_greatestTaxAhead_55 : decode cX4_greatestTaxAhead 55 = .ok (.getfield 148, 3) := by decide +kernel
theorem dX4_greatestTaxAhead_58 : decode cX4_greatestTaxAhead 58 = .ok (.if_icmp .ne 13, 3) := by decide +kernel
theorem dX4_greatestTaxAhead_61 : decode cX4_greatestTaxAhead 61 = .ok (.iload_n 3, 1) := by decide +kernel
theorem dX4_greatestTaxAhead_62 : decode cX4_greatestTaxAhead 62 = .ok (.aload 5, 2) := by decide +kernel
theorem dX4_greatestTaxAhead_64 : decode cX4_greatestTaxAhead 64 = .ok (.invokevirtual 233, 3) := by decide +kernel
theorem dX4_greatestTaxAhead_67 : decode cX4_greatestTaxAhead 67 = .ok (.invokestatic 268, 3) := by decide +kernel
theorem dX4_greatestTaxAhead_70 : decode cX4_greatestTaxAhead 70 = .ok (.istore_n 3, 1) := by decide +kernel
theorem dX4_greatestTaxAhead_71 : decode cX4_greatestTaxAhead 71 = .ok (.iinc 4 1, 3) := by decide +kernel
theorem dX4_greatestTaxAhead_74 : decode cX4_greatestTaxAhead 74 = .ok (.goto (-69), 3) := by decide +kernel
theorem dX4_greatestTaxAhead_77 : decode cX4_greatestTaxAhead 77 = .ok (.iload_n 3, 1) := by decide +kernel
theorem dX4_greatestTaxAhead_78 : decode cX4_greatestTaxAhead 78 = .ok (.ireturn, 1) := by decide +kernel
theorem dX4_isDigit_0 : decode cX4_isDigit 0 = .ok (.iload_n 0, 1) := by decide +kernel
theorem dX4_isDigit_1 : decode cX4_isDigit 1 = .ok (.bipush 48, 2) := by decide +kernel
theorem dX4_isDigit_3 : decode cX4_isDigit 3 = .ok (.if_icmp .lt 13, 3) := by decide +kernel
theorem dX4_isDigit_6 : decode cX4_isDigit 6 = .ok (.iload_n 0, 1) := by decide +kernel
theorem dX4_isDigit_7 : decode cX4_isDigit 7 = .ok (.bipush 57, 2) := by decide +kernel
theorem dX4_isDigit_9 : decode cX4_isDigit 9 = .ok (.if_icmp .gt 7, 3) := by decide +kernel
theorem dX4_isDigit_12 : decode cX4_isDigit 12 = .ok (.iconst 1, 1) := by decide +kernel
theorem dX4_isDigit_13 : decode cX4_isDigit 13 = .ok (.goto 4, 3) := by decide +kernel
theorem dX4_isDigit_16 : decode cX4_isDigit 16 = .ok (.iconst 0, 1) := by decide +kernel
theorem dX4_isDigit_17 : decode cX4_isDigit 17 = .ok (.ireturn, 1) := by decide +kernel
theorem dX4_monthOf_0 : decode cX4_monthOf 0 = .ok (.iload_n 0, 1) := by decide +kernel
theorem dX4_monthOf_1 : decode cX4_monthOf 1 = .ok (.bipush 30, 2) := by decide +kernel
theorem dX4_monthOf_3 : decode cX4_monthOf 3 = .ok (.idiv, 1) := by decide +kernel
theorem dX4_monthOf_4 : decode cX4_monthOf 4 = .ok (.ireturn, 1) := by decide +kernel
theorem dX4_taxOf_0 : decode cX4_taxOf 0 = .ok (.iload_n 0, 1) := by decide +kernel
theorem dX4_taxOf_1 : decode cX4_taxOf 1 = .ok (.iload_n 1, 1) := by decide +kernel
theorem dX4_taxOf_2 : decode cX4_taxOf 2 = .ok (.imul, 1) := by decide +kernel
theorem dX4_taxOf_3 : decode cX4_taxOf 3 = .ok (.bipush 100, 2) := by decide +kernel
theorem dX4_taxOf_5 : decode cX4_taxOf 5 = .ok (.idiv, 1) := by decide +kernel
theorem dX4_taxOf_6 : decode cX4_taxOf 6 = .ok (.ireturn, 1) := by decide +kernel
end
section
theorem dX5_init_0 : decode cX5_init 0 = .ok (.aload_n 0, 1) := by decide +kernel
theorem dX5_init_1 : decode cX5_init 1 = .ok (.invokespecial 1, 3) := by decide +kernel
theorem dX5_init_4 : decode cX5_init 4 = .ok (.aload_n 0, 1) := by decide +kernel
theorem dX5_init_5 : decode cX5_init 5 = .ok (.bipush 6, 2) := by decide +kernel
theorem dX5_init_7 : decode cX5_init 7 = .ok (.newarray .int, 2) := by decide +kernel
theorem dX5_init_9 : decode cX5_init 9 = .ok (.putfield 7, 3) := by decide +kernel
theorem dX5_init_12 : decode cX5_init 12 = .ok (.aload_n 0, 1) := by decide +kernel
theorem dX5_init_13 : decode cX5_init 13 = .ok (.bipush 20, 2) := by decide +kernel
theorem dX5_init_15 : decode cX5_init 15 = .ok (.newarray .int, 2) := by decide +kernel
theorem dX5_init_17 : decode cX5_init 17 = .ok (.putfield 13, 3) := by decide +kernel
theorem dX5_init_20 : decode cX5_init 20 = .ok (.aload_n 0, 1) := by decide +kernel
theorem dX5_init_21 : decode cX5_init 21 = .ok (.bipush 20, 2) := by decide +kernel
theorem dX5_init_23 : decode cX5_init 23 = .ok (.newarray .int, 2) := by decide +kernel
theorem dX5_init_25 : decode cX5_init 25 = .ok (.putfield 16, 3) := by decide +kernel
theorem dX5_init_28 : decode cX5_init 28 = .ok (.aload_n 0, 1) := by decide +kernel
theorem dX5_init_29 : decode cX5_init 29 = .ok (.bipush 20, 2) := by decide +kernel
theorem dX5_init_31 : decode cX5_init 31 = .ok (.newarray .int, 2) := by decide +kernel
theorem dX5_init_33 : decode cX5_init 33 = .ok (.putfield 19, 3) := by decide +kernel
theorem dX5_init_36 : decode cX5_init 36 = .ok (.aload_n 0, 1) := by decide +kernel
theorem dX5_init_37 : decode cX5_init 37 = .ok (.bipush 20, 2) := by decide +kernel
theorem dX5_init_39 : decode cX5_init 39 = .ok (.newarray .int, 2) := by decide +kernel
theorem dX5_init_41 : decode cX5_init 41 = .ok (.putfield 22, 3) := by decide +kernel
theorem dX5_init_44 : decode cX5_init 44 = .ok (.aload_n 0, 1) := by decide +kernel
theorem dX5_init_45 : decode cX5_init 45 = .ok (.bipush 20, 2) := by decide +kernel
theorem dX5_init_47 : decode cX5_init 47 = .ok (.newarray .int, 2) := by decide +kernel
theorem dX5_init_49 : decode cX5_init 49 = .ok (.putfield 25, 3) := by decide +kernel
theorem dX5_init_52 : decode cX5_init 52 = .ok (.aload_n 0, 1) := by decide +kernel
theorem dX5_init_53 : decode cX5_init 53 = .ok (.bipush 20, 2) := by decide +kernel
theorem dX5_init_55 : decode cX5_init 55 = .ok (.newarray .int, 2) := by decide +kernel
theorem dX5_init_57 : decode cX5_init 57 = .ok (.putfield 28, 3) := by decide +kernel
theorem dX5_init_60 : decode cX5_init 60 = .ok (.aload_n 0, 1) := by decide +kernel
theorem dX5_init_61 : decode cX5_init 61 = .ok (.bipush 20, 2) := by decide +kernel
theorem dX5_init_63 : decode cX5_init 63 = .ok (.newarray .int, 2) := by decide +kernel
theorem dX5_init_65 : decode cX5_init 65 = .ok (.putfield 31, 3) := by decide +kernel
theorem dX5_init_68 : decode cX5_init 68 = .ok (.aload_n 0, 1) := by decide +kernel
theorem dX5_init_69 : decode cX5_init 69 = .ok (.bipush 20, 2) := by decide +kernel
theorem dX5_init_71 : decode cX5_init 71 = .ok (.newarray .int, 2) := by decide +kernel
theorem dX5_init_73 : decode cX5_init 73 = .ok (.putfield 34, 3) := by decide +kernel
theorem dX5_init_76 : decode cX5_init 76 = .ok (.aload_n 0, 1) := by decide +kernel
theorem dX5_init_77 : decode cX5_init 77 = .ok (.bipush 20, 2) := by decide +kernel
theorem dX5_init_79 : decode cX5_init 79 = .ok (.newarray .boolean, 2) := by decide +kernel
theorem dX5_init_81 : decode cX5_init 81 = .ok (.putfield 37, 3) := by decide +kernel
theorem dX5_init_84 : decode cX5_init 84 = .ok (.aload_n 0, 1) := by decide +kernel
theorem dX5_init_85 : decode cX5_init 85 = .ok (.bipush 20, 2) := by decide +kernel
theorem dX5_init_87 : decode cX5_init 87 = .ok (.newarray .int, 2) := by decide +kernel
theorem dX5_init_89 : decode cX5_init 89 = .ok (.putfield 41, 3) := by decide +kernel
theorem dX5_init_92 : decode cX5_init 92 = .ok (.aload_n 0, 1) := by decide +kernel
theorem dX5_init_93 : decode cX5_init 93 = .ok (.bipush 20, 2) := by decide +kernel
theorem dX5_init_95 : decode cX5_init 95 = .ok (.newarray .int, 2) := by decide +kernel
theorem dX5_init_97 : decode cX5_init 97 = .ok (.putfield 44, 3) := by decide +kernel
theorem dX5_init_100 : decode cX5_init 100 = .ok (.aload_n 0, 1) := by decide +kernel
theorem dX5_init_101 : decode cX5_init 101 = .ok (.bipush 60, 2) := by decide +kernel
theorem dX5_init_103 : decode cX5_init 103 = .ok (.newarray .int, 2) := by decide +kernel
theorem dX5_init_105 : decode cX5_init 105 = .ok (.putfield 47, 3) := by decide +kernel
theorem dX5_init_108 : decode cX5_init 108 = .ok (.aload_n 0, 1) := by decide +kernel
theorem dX5_init_109 : decode cX5_init 109 = .ok (.bipush 60, 2) := by decide +kernel
theorem dX5_init_111 : decode cX5_init 111 = .ok (.newarray .int, 2) := by decide +kernel
theorem dX5_init_113 : decode cX5_init 113 = .ok (.putfield 50, 3) := by decide +kernel
theorem dX5_init_116 : decode cX5_init 116 = .ok (.aload_n 0, 1) := by decide +kernel
theorem dX5_init_117 : decode cX5_init 117 = .ok (.bipush 60, 2) := by decide +kernel
theorem dX5_init_119 : decode cX5_init 119 = .ok (.newarray .int, 2) := by decide +kernel
theorem dX5_init_121 : decode cX5_init 121 = .ok (.putfield 53, 3) := by decide +kernel
theorem dX5_init_124 : decode cX5_init 124 = .ok (.aload_n 0, 1) := by decide +kernel
theorem dX5_init_125 : decode cX5_init 125 = .ok (.bipush 60, 2) := by decide +kernel
theorem dX5_init_127 : decode cX5_init 127 = .ok (.newarray .boolean, 2) := by decide +kernel
theorem dX5_init_129 : decode cX5_init 129 = .ok (.putfield 56, 3) := by decide +kernel
theorem dX5_init_132 : decode cX5_init 132 = .ok (.aload_n 0, 1) := by decide +kernel
theorem dX5_init_133 : decode cX5_init 133 = .ok (.bipush 24, 2) := by decide +kernel
theorem dX5_init_135 : decode cX5_init 135 = .ok (.newarray .int, 2) := by decide +kernel
theorem dX5_init_137 : decode cX5_init 137 = .ok (.putfield 59, 3) := by decide +kernel
theorem dX5_init_140 : decode cX5_init 140 = .ok (.aload_n 0, 1) := by decide +kernel
theorem dX5_init_141 : decode cX5_init 141 = .ok (.bipush 24, 2) := by decide +kernel
theorem dX5_init_143 : decode cX5_init 143 = .ok (.newarray .int, 2) := by decide +kernel
theorem dX5_init_145 : decode cX5_init 145 = .ok (.putfield 62, 3) := by decide +kernel
theorem dX5_init_148 : decode cX5_init 148 = .ok (.aload_n 0, 1) := by decide +kernel
theorem dX5_init_149 : decode cX5_init 149 = .ok (.bipush 24, 2) := by decide +kernel
theorem dX5_init_151 : decode cX5_init 151 = .ok (.newarray .int, 2) := by decide +kernel
theorem dX5_init_153 : decode cX5_init 153 = .ok (.putfield 65, 3) := by decide +kernel
theorem dX5_init_156 : decode cX5_init 156 = .ok (.aload_n 0, 1) := by decide +kernel
theorem dX5_init_157 : decode cX5_init 157 = .ok (.bipush 10, 2) := by decide +kernel
theorem dX5_init_159 : decode cX5_init 159 = .ok (.newarray .int, 2) := by decide +kernel
theorem dX5_init_161 : decode cX5_init 161 = .ok (.putfield 68, 3) := by decide +kernel
theorem dX5_init_164 : decode cX5_init 164 = .ok (.return_, 1) := by decide +kernel
theorem dX5_thrown_0 : decode cX5_thrown 0 = .ok (.aload_n 0, 1) := by decide +kernel
theorem dX5_thrown_1 : decode cX5_thrown 1 = .ok (.getfield 71, 3) := by decide +kernel
theorem dX5_thrown_4 : decode cX5_thrown 4 = .ok (.ireturn, 1) := by decide +kernel
theorem dX5_isIn_0 : decode cX5_isIn 0 = .ok (.iload_n 0, 1) := by decide +kernel
theorem dX5_isIn_1 : decode cX5_isIn 1 = .ok (.iload_n 1, 1) := by decide +kernel
theorem dX5_isIn_2 : decode cX5_isIn 2 = .ok (.if_icmp .lt 12, 3) := by decide +kernel
theorem dX5_isIn_5 : decode cX5_isIn 5 = .ok (.iload_n 0, 1) := by decide +kernel
theorem dX5_isIn_6 : decode cX5_isIn 6 = .ok (.iload_n 2, 1) := by decide +kernel
theorem dX5_isIn_7 : decode cX5_isIn 7 = .ok (.if_icmp .gt 7, 3) := by decide +kernel
theorem dX5_isIn_10 : decode cX5_isIn 10 = .ok (.iconst 1, 1) := by decide +kernel
theorem dX5_isIn_11 : decode cX5_isIn 11 = .ok (.goto 4, 3) := by decide +kernel
theorem dX5_isIn_14 : decode cX5_isIn 14 = .ok (.iconst 0, 1) := by decide +kernel
theorem dX5_isIn_15 : decode cX5_isIn 15 = .ok (.ireturn, 1) := by decide +kernel
theorem dX5_isCompany_0 : decode cX5_isCompany 0 = .ok (.iload_n 0, 1) := by decide +kernel
theorem dX5_isCompany_1 : decode cX5_isCompany 1 = .ok (.iconst 0, 1) := by decide +kernel
theorem dX5_isCompany_2 : decode cX5_isCompany 2 = .ok (.iconst 5, 1) := by decide +kernel
theorem dX5_isCompany_3 : decode cX5_isCompany 3 = .ok (.invokestatic 75, 3) := by decide +kernel
theorem dX5_isCompany_6 : decode cX5_isCompany 6 = .ok (.ireturn, 1) := by decide +kernel
theorem dX5_isInvoice_0 : decode cX5_isInvoice 0 = .ok (.iload_n 1, 1) := by decide +kernel
theorem dX5_isInvoice_1 : decode cX5_isInvoice 1 = .ok (.iconst 0, 1) := by decide +kernel
theorem dX5_isInvoice_2 : decode cX5_isInvoice 2 = .ok (.aload_n 0, 1) := by decide +kernel
theorem dX5_isInvoice_3 : decode cX5_isInvoice 3 = .ok (.getfield 79, 3) := by decide +kernel
theorem dX5_isInvoice_6 : decode cX5_isInvoice 6 = .ok (.iconst 1, 1) := by decide +kernel
theorem dX5_isInvoice_7 : decode cX5_isInvoice 7 = .ok (.isub, 1) := by decide +kernel
theorem dX5_isInvoice_8 : decode cX5_isInvoice 8 = .ok (.invokestatic 75, 3) := by decide +kernel
theorem dX5_isInvoice_11 : decode cX5_isInvoice 11 = .ok (.ireturn, 1) := by decide +kernel
theorem dX5_isLine_0 : decode cX5_isLine 0 = .ok (.aload_n 0, 1) := by decide +kernel
theorem dX5_isLine_1 : decode cX5_isLine 1 = .ok (.iload_n 1, 1) := by decide +kernel
theorem dX5_isLine_2 : decode cX5_isLine 2 = .ok (.invokevirtual 82, 3) := by decide +kernel
theorem dX5_isLine_5 : decode cX5_isLine 5 = .ok (.ifCond .eq 23, 3) := by decide +kernel
theorem dX5_isLine_8 : decode cX5_isLine 8 = .ok (.iload_n 2, 1) := by decide +kernel
theorem dX5_isLine_9 : decode cX5_isLine 9 = .ok (.iconst 0, 1) := by decide +kernel
theorem dX5_isLine_10 : decode cX5_isLine 10 = .ok (.aload_n 0, 1) := by decide +kernel
theorem dX5_isLine_11 : decode cX5_isLine 11 = .ok (.getfield 44, 3) := by decide +kernel
theorem dX5_isLine_14 : decode cX5_isLine 14 = .ok (.iload_n 1, 1) := by decide +kernel
theorem dX5_isLine_15 : decode cX5_isLine 15 = .ok (.iaload, 1) := by decide +kernel
theorem dX5_isLine_16 : decode cX5_isLine 16 = .ok (.iconst 1, 1) := by decide +kernel
theorem dX5_isLine_17 : decode cX5_isLine 17 = .ok (.isub, 1) := by decide +kernel
theorem dX5_isLine_18 : decode cX5_isLine 18 = .ok (.invokestatic 75, 3) := by decide +kernel
theorem dX5_isLine_21 : decode cX5_isLine 21 = .ok (.ifCond .eq 7, 3) := by decide +kernel
theorem dX5_isLine_24 : decode cX5_isLine 24 = .ok (.iconst 1, 1) := by decide +kernel
theorem dX5_isLine_25 : decode cX5_isLine 25 = .ok (.goto 4, 3) := by decide +kernel
theorem dX5_isLine_28 : decode cX5_isLine 28 = .ok (.iconst 0, 1) := by decide +kernel
theorem dX5_isLine_29 : decode cX5_isLine 29 = .ok (.ireturn, 1) := by decide +kernel
theorem dX5_isGood_0 : decode cX5_isGood 0 = .ok (.iload_n 0, 1) := by decide +kernel
theorem dX5_isGood_1 : decode cX5_isGood 1 = .ok (.iconst 1, 1) := by decide +kernel
theorem dX5_isGood_2 : decode cX5_isGood 2 = .ok (.sipush 9999, 3) := by decide +kernel
theorem dX5_isGood_5 : decode cX5_isGood 5 = .ok (.invokestatic 75, 3) := by decide +kernel
theorem dX5_isGood_8 : decode cX5_isGood 8 = .ok (.ifCond .eq 23, 3) := by decide +kernel
theorem dX5_isGood_11 : decode cX5_isGood 11 = .ok (.iload_n 1, 1) := by decide +kernel
theorem dX5_isGood_12 : decode cX5_isGood 12 = .ok (.ifCond .eq 15, 3) := by decide +kernel
theorem dX5_isGood_15 : decode cX5_isGood 15 = .ok (.iload_n 1, 1) := by decide +kernel
theorem dX5_isGood_16 : decode cX5_isGood 16 = .ok (.bipush 7, 2) := by decide +kernel
theorem dX5_isGood_18 : decode cX5_isGood 18 = .ok (.if_icmp .eq 9, 3) := by decide +kernel
theorem dX5_isGood_21 : decode cX5_isGood 21 = .ok (.iload_n 1, 1) := by decide +kernel
theorem dX5_isGood_22 : decode cX5_isGood 22 = .ok (.bipush 19, 2) := by decide +kernel
theorem dX5_isGood_24 : decode cX5_isGood 24 = .ok (.if_icmp .ne 7, 3) := by decide +kernel
theorem dX5_isGood_27 : decode cX5_isGood 27 = .ok (.iconst 1, 1) := by decide +kernel
theorem dX5_isGood_28 : decode cX5_isGood 28 = .ok (.goto 4, 3) := by decide +kernel
theorem dX5_isGood_31 : decode cX5_isGood 31 = .ok (.iconst 0, 1) := by decide +kernel
theorem dX5_isGood_32 : decode cX5_isGood 32 = .ok (.ireturn, 1) := by decide +kernel
theorem dX5_adds_0 : decode cX5_adds 0 = .ok (.iconst 3, 1) := by decide +kernel
theorem dX5_adds_1 : decode cX5_adds 1 = .ok (.iload_n 1, 1) := by decide +kernel
theorem dX5_adds_2 : decode cX5_adds 2 = .ok (.imul, 1) := by decide +kernel
theorem dX5_adds_3 : decode cX5_adds 3 = .ok (.aload_n 0, 1) := by decide +kernel
theorem dX5_adds_4 : decode cX5_adds 4 = .ok (.getfield 44, 3) := by decide +kernel
theorem dX5_adds_7 : decode cX5_adds 7 = .ok (.iload_n 1, 1) := by decide +kernel
theorem dX5_adds_8 : decode cX5_adds 8 = .ok (.iaload, 1) := by decide +kernel
theorem dX5_adds_9 : decode cX5_adds 9 = .ok (.iadd, 1) := by decide +kernel
theorem dX5_adds_10 : decode cX5_adds 10 = .ok (.istore 4, 2) := by decide +kernel
theorem dX5_adds_12 : decode cX5_adds 12 = .ok (.aload_n 0, 1) := by decide +kernel
theorem dX5_adds_13 : decode cX5_adds 13 = .ok (.getfield 47, 3) := by decide +kernel
theorem dX5_adds_16 : decode cX5_adds 16 = .ok (.iload 4, 2) := by decide +kernel
theorem dX5_adds_18 : decode cX5_adds 18 = .ok (.iload_n 2, 1) := by decide +kernel
theorem dX5_adds_19 : decode cX5_adds 19 = .ok (.iastore, 1) := by decide +kernel
theorem dX5_adds_20 : decode cX5_adds 20 = .ok (.aload_n 0, 1) := by decide +kernel
theorem dX5_adds_21 : decode cX5_adds 21 = .ok (.getfield 50, 3) := by decide +kernel
theorem dX5_adds_24 : decode cX5_adds 24 = .ok (.iload 4, 2) := by decide +kernel
theorem dX5_adds_26 : decode cX5_adds 26 = .ok (.iload_n 2, 1) := by decide +kernel
theorem dX5_adds_27 : decode cX5_adds 27 = .ok (.iastore, 1) := by decide +kernel
theorem dX5_adds_28 : decode cX5_adds 28 = .ok (.aload_n 0, 1) := by decide +kernel
theorem dX5_adds_29 : decode cX5_adds 29 = .ok (.getfield 53, 3) := by decide +kernel
theorem dX5_adds_32 : decode cX5_adds 32 = .ok (.iload 4, 2) := by decide +kernel
theorem dX5_adds_34 : decode cX5_adds 34 = .ok (.iload_n 3, 1) := by decide +kernel
theorem dX5_adds_35 : decode cX5_adds 35 = .ok (.iastore, 1) := by decide +kernel
theorem dX5_adds_36 : decode cX5_adds 36 = .ok (.aload_n 0, 1) := by decide +kernel
theorem dX5_adds_37 : decode cX5_adds 37 = .ok (.getfield 44, 3) := by decide +kernel
theorem dX5_adds_40 : decode cX5_adds 40 = .ok (.iload_n 1, 1) := by decide +kernel
theorem dX5_adds_41 : decode cX5_adds 41 = .ok (.dup2, 1) := by decide +kernel
theorem dX5_adds_42 : decode cX5_adds 42 = .ok (.iaload, 1) := by decide +kernel
theorem dX5_adds_43 : decode cX5_adds 43 = .ok (.iconst 1, 1) := by decide +kernel
theorem dX5_adds_44 : decode cX5_adds 44 = .ok (.iadd, 1) := by decide +kernel
theorem dX5_adds_45 : decode cX5_adds 45 = .ok (.iastore, 1) := by decide +kernel
theorem dX5_adds_46 : decode cX5_adds 46 = .ok (.return_, 1) := by decide +kernel
theorem dX5_send_0 : decode cX5_send 0 = .ok (.aload_n 0, 1) := by decide +kernel
theorem dX5_send_1 : decode cX5_send 1 = .ok (.iload_n 1, 1) := by decide +kernel
theorem dX5_send_2 : decode cX5_send 2 = .ok (.invokestatic 86, 3) := by decide +kernel
theorem dX5_send_5 : decode cX5_send 5 = .ok (.ifCond .eq 20, 3) := by decide +kernel
theorem dX5_send_8 : decode cX5_send 8 = .ok (.iload_n 2, 1) := by decide +kernel
theorem dX5_send_9 : decode cX5_send 9 = .ok (.invokestatic 86, 3) := by decide +kernel
theorem dX5_send_12 : decode cX5_send 12 = .ok (.ifCond .eq 13, 3) := by decide +kernel
theorem dX5_send_15 : decode cX5_send 15 = .ok (.iload_n 3, 1) := by decide +kernel
theorem dX5_send_16 : decode cX5_send 16 = .ok (.iconst 0, 1) := by decide +kernel
theorem dX5_send_17 : decode cX5_send 17 = .ok (.bipush 7, 2) := by decide +kernel
theorem dX5_send_19 : decode cX5_send 19 = .ok (.invokestatic 75, 3) := by decide +kernel
theorem dX5_send_22 : decode cX5_send 22 = .ok (.ifCond .ne 7, 3) := by decide +kernel
theorem dX5_send_25 : decode cX5_send 25 = .ok (.iconst 1, 1) := by decide +kernel
theorem dX5_send_26 : decode cX5_send 26 = .ok (.goto 36, 3) := by decide +kernel
theorem dX5_send_29 : decode cX5_send 29 = .ok (.iload 4, 2) := by decide +kernel
theorem dX5_send_31 : decode cX5_send 31 = .ok (.iload 5, 2) := by decide +kernel
theorem dX5_send_33 : decode cX5_send 33 = .ok (.invokestatic 89, 3) := by decide +kernel
theorem dX5_send_36 : decode cX5_send 36 = .ok (.ifCond .eq 8, 3) := by decide +kernel
theorem dX5_send_39 : decode cX5_send 39 = .ok (.iload_n 1, 1) := by decide +kernel
theorem dX5_send_40 : decode cX5_send 40 = .ok (.iload_n 2, 1) := by decide +kernel
theorem dX5_send_41 : decode cX5_send 41 = .ok (.if_icmp .ne 7, 3) := by decide +kernel
theorem dX5_send_44 : decode cX5_send 44 = .ok (.iconst 2, 1) := by decide +kernel
theorem dX5_send_45 : decode cX5_send 45 = .ok (.goto 17, 3) := by decide +kernel
theorem dX5_send_48 : decode cX5_send 48 = .ok (.aload_n 0, 1) := by decide +kernel
theorem dX5_send_49 : decode cX5_send 49 = .ok (.getfield 79, 3) := by decide +kernel
theorem dX5_send_52 : decode cX5_send 52 = .ok (.bipush 20, 2) := by decide +kernel
theorem dX5_send_54 : decode cX5_send 54 = .ok (.if_icmp .ne 7, 3) := by decide +kernel
theorem dX5_send_57 : decode cX5_send 57 = .ok (.iconst 3, 1) := by decide +kernel
theorem dX5_send_58 : decode cX5_send 58 = .ok (.goto 4, 3) := by decide +kernel
theorem dX5_send_61 : decode cX5_send 61 = .ok (.iconst 0, 1) := by decide +kernel
theorem dX5_send_62 : decode cX5_send 62 = .ok (.putfield 71, 3) := by decide +kernel
theorem dX5_send_65 : decode cX5_send 65 = .ok (.aload_n 0, 1) := by decide +kernel
theorem dX5_send_66 : decode cX5_send 66 = .ok (.getfield 71, 3) := by decide +kernel
theorem dX5_send_69 : decode cX5_send 69 = .ok (.ifCond .le 5, 3) := by decide +kernel
theorem dX5_send_72 : decode cX5_send 72 = .ok (.iconst 0, 1) := by decide +kernel
theorem dX5_send_73 : decode cX5_send 73 = .ok (.ireturn, 1) := by decide +kernel
theorem dX5_send_74 : decode cX5_send 74 = .ok (.aload_n 0, 1) := by decide +kernel
theorem dX5_send_75 : decode cX5_send 75 = .ok (.getfield 13, 3) := by decide +kernel
theorem dX5_send_78 : decode cX5_send 78 = .ok (.aload_n 0, 1) := by decide +kernel
theorem dX5_send_79 : decode cX5_send 79 = .ok (.getfield 79, 3) := by decide +kernel
theorem dX5_send_82 : decode cX5_send 82 = .ok (.iload_n 1, 1) := by decide +kernel
theorem dX5_send_83 : decode cX5_send 83 = .ok (.iastore, 1) := by decide +kernel
theorem dX5_send_84 : decode cX5_send 84 = .ok (.aload_n 0, 1) := by decide +kernel
theorem dX5_send_85 : decode cX5_send 85 = .ok (.getfield 16, 3) := by decide +kernel
theorem dX5_send_88 : decode cX5_send 88 = .ok (.aload_n 0, 1) := by decide +kernel
theorem dX5_send_89 : decode cX5_send 89 = .ok (.getfield 79, 3) := by decide +kernel
theorem dX5_send_92 : decode cX5_send 92 = .ok (.iload_n 2, 1) := by decide +kernel
theorem dX5_send_93 : decode cX5_send 93 = .ok (.iastore, 1) := by decide +kernel
theorem dX5_send_94 : decode cX5_send 94 = .ok (.aload_n 0, 1) := by decide +kernel
theorem dX5_send_95 : decode cX5_send 95 = .ok (.getfield 19, 3) := by decide +kernel
theorem dX5_send_98 : decode cX5_send 98 = .ok (.aload_n 0, 1) := by decide +kernel
theorem dX5_send_99 : decode cX5_send 99 = .ok (.getfield 79, 3) := by decide +kernel
theorem dX5_send_102 : decode cX5_send 102 = .ok (.iload_n 3, 1) := by decide +kernel
theorem dX5_send_103 : decode cX5_send 103 = .ok (.iastore, 1) := by decide +kernel
theorem dX5_send_104 : decode cX5_send 104 = .ok (.aload_n 0, 1) := by decide +kernel
theorem dX5_send_105 : decode cX5_send 105 = .ok (.getfield 22, 3) := by decide +kernel
theorem dX5_send_108 : decode cX5_send 108 = .ok (.aload_n 0, 1) := by decide +kernel
theorem dX5_send_109 : decode cX5_send 109 = .ok (.getfield 79, 3) := by decide +kernel
theorem dX5_send_112 : decode cX5_send 112 = .ok (.iconst 0, 1) := by decide +kernel
theorem dX5_send_113 : decode cX5_send 113 = .ok (.iastore, 1) := by decide +kernel
theorem dX5_send_114 : decode cX5_send 114 = .ok (.aload_n 0, 1) := by decide +kernel
theorem dX5_send_115 : decode cX5_send 115 = .ok (.getfield 25, 3) := by decide +kernel
theorem dX5_send_118 : decode cX5_send 118 = .ok (.aload_n 0, 1) := by decide +kernel
theorem dX5_send_119 : decode cX5_send 119 = .ok (.getfield 79, 3) := by decide +kernel
theorem dX5_send_122 : decode cX5_send 122 = .ok (.aload_n 0, 1) := by decide +kernel
theorem dX5_send_123 : decode cX5_send 123 = .ok (.getfield 93, 3) := by decide +kernel
theorem dX5_send_126 : decode cX5_send 126 = .ok (.iastore, 1) := by decide +kernel
theorem dX5_send_127 : decode cX5_send 127 = .ok (.aload_n 0, 1) := by decide +kernel
theorem dX5_send_128 : decode cX5_send 128 = .ok (.getfield 31, 3) := by decide +kernel
theorem dX5_send_131 : decode cX5_send 131 = .ok (.aload_n 0, 1) := by decide +kernel
theorem dX5_send_132 : decode cX5_send 132 = .ok (.getfield 79, 3) := by decide +kernel
theorem dX5_send_135 : decode cX5_send 135 = .ok (.iload_n 1, 1) := by decide +kernel
theorem dX5_send_136 : decode cX5_send 136 = .ok (.iastore, 1) := by decide +kernel
theorem dX5_send_137 : decode cX5_send 137 = .ok (.aload_n 0, 1) := by decide +kernel
theorem dX5_send_138 : decode cX5_send 138 = .ok (.aload_n 0, 1) := by decide +kernel
theorem dX5_send_139 : decode cX5_send 139 = .ok (.getfield 79, 3) := by decide +kernel
theorem dX5_send_142 : decode cX5_send 142 = .ok (.iload 4, 2) := by decide +kernel
theorem dX5_send_144 : decode cX5_send 144 = .ok (.iload 5, 2) := by decide +kernel
theorem dX5_send_146 : decode cX5_send 146 = .ok (.invokevirtual 96, 3) := by decide +kernel
theorem dX5_send_149 : decode cX5_send 149 = .ok (.aload_n 0, 1) := by decide +kernel
theorem dX5_send_150 : decode cX5_send 150 = .ok (.dup, 1) := by decide +kernel
theorem dX5_send_151 : decode cX5_send 151 = .ok (.getfield 79, 3) := by decide +kernel
theorem dX5_send_154 : decode cX5_send 154 = .ok (.iconst 1, 1) := by decide +kernel
theorem dX5_send_155 : decode cX5_send 155 = .ok (.iadd, 1) := by decide +kernel
theorem dX5_send_156 : decode cX5_send 156 = .ok (.putfield 79, 3) := by decide +kernel
theorem dX5_send_159 : decode cX5_send 159 = .ok (.aload_n 0, 1) := by decide +kernel
theorem dX5_send_160 : decode cX5_send 160 = .ok (.getfield 79, 3) := by decide +kernel
theorem dX5_send_163 : decode cX5_send 163 = .ok (.iconst 1, 1) := by decide +kernel
theorem dX5_send_164 : decode cX5_send 164 = .ok (.isub, 1) := by decide +kernel
theorem dX5_send_165 : decode cX5_send 165 = .ok (.ireturn, 1) := by decide +kernel
theorem dX5_hasCredit_0 : decode cX5_hasCredit 0 = .ok (.iconst 0, 1) := by decide +kernel
theorem dX5_hasCredit_1 : decode cX5_hasCredit 1 = .ok (.istore_n 2, 1) := by decide +kernel
theorem dX5_hasCredit_2 : decode cX5_hasCredit 2 = .ok (.iconst 0, 1) := by decide +kernel
theorem dX5_hasCredit_3 : decode cX5_hasCredit 3 = .ok (.istore_n 3, 1) := by decide +kernel
theorem dX5_hasCredit_4 : decode cX5_hasCredit 4 = .ok (.iload_n 3, 1) := by decide +kernel
theorem dX5_hasCredit_5 : decode cX5_hasCredit 5 = .ok (.aload_n 0, 1) := by decide +kernel
theorem dX5_hasCredit_6 : decode cX5_hasCredit 6 = .ok (.getfield 100, 3) := by decide +kernel
theorem dX5_hasCredit_9 : decode cX5_hasCredit 9 = .ok (.if_icmp .ge 27, 3) := by decide +kernel
theorem dX5_hasCredit_12 : decode cX5_hasCredit 12 = .ok (.iload_n 2, 1) := by decide +kernel
theorem dX5_hasCredit_13 : decode cX5_hasCredit 13 = .ok (.aload_n 0, 1) := by decide +kernel
theorem dX5_hasCredit_14 : decode cX5_hasCredit 14 = .ok (.getfield 59, 3) := by decide +kernel
theorem dX5_hasCredit_17 : decode cX5_hasCredit 17 = .ok (.iload_n 3, 1) := by decide +kernel
theorem dX5_hasCredit_18 : decode cX5_hasCredit 18 = .ok (.iaload, 1) := by decide +kernel
theorem dX5_hasCredit_19 : decode cX5_hasCredit 19 = .ok (.iload_n 1, 1) := by decide +kernel
theorem dX5_hasCredit_20 : decode cX5_hasCredit 20 = .ok (.if_icmp .ne 7, 3) := by decide +kernel
theorem dX5_hasCredit_23 : decode cX5_hasCredit 23 = .ok (.iconst 1, 1) := by decide +kernel
theorem dX5_hasCredit_24 : decode cX5_hasCredit 24 = .ok (.goto 4, 3) := by decide +kernel
theorem dX5_hasCredit_27 : decode cX5_hasCredit 27 = .ok (.iconst 0, 1) := by decide +kernel
theorem dX5_hasCredit_28 : decode cX5_hasCredit 28 = .ok (.ior, 1) := by decide +kernel
theorem dX5_hasCredit_29 : decode cX5_hasCredit 29 = .ok (.istore_n 2, 1) := by decide +kernel
theorem dX5_hasCredit_30 : decode cX5_hasCredit 30 = .ok (.iinc 3 1, 3) := by decide +kernel
theorem dX5_hasCredit_33 : decode cX5_hasCredit 33 = .ok (.goto (-29), 3) := by decide +kernel
theorem dX5_hasCredit_36 : decode cX5_hasCredit 36 = .ok (.iload_n 2, 1) := by decide +kernel
theorem dX5_hasCredit_37 : decode cX5_hasCredit 37 = .ok (.ireturn, 1) := by decide +kernel
theorem dX5_addLine_0 : decode cX5_addLine 0 = .ok (.aload_n 0, 1) := by decide +kernel
theorem dX5_addLine_1 : decode cX5_addLine 1 = .ok (.aload_n 0, 1) := by decide +kernel
theorem dX5_addLine_2 : decode cX5_addLine 2 = .ok (.iload_n 1, 1) := by decide +kernel
theorem dX5_addLine_3 : decode cX5_addLine 3 = .ok (.invokevirtual 82, 3) := by decide +kernel
theorem dX5_addLine_6 : decode cX5_addLine 6 = .ok (.ifCond .ne 7, 3) := by decide +kernel
theorem dX5_addLine_9 : decode cX5_addLine 9 = .ok (.iconst 1, 1) := by decide +kernel
theorem dX5_addLine_10 : decode cX5_addLine 10 = .ok (.goto 16, 3) := by decide +kernel
theorem dX5_addLine_13 : decode cX5_addLine 13 = .ok (.iload_n 2, 1) := by decide +kernel
theorem dX5_addLine_14 : decode cX5_addLine 14 = .ok (.iload_n 3, 1) := by decide +kernel
theorem dX5_addLine_15 : decode cX5_addLine 15 = .ok (.invokestatic 89, 3) := by decide +kernel
theorem dX5_addLine_18 : decode cX5_addLine 18 = .ok (.ifCond .ne 7, 3) := by decide +kernel
theorem dX5_addLine_21 : decode cX5_addLine 21 = .ok (.iconst 2, 1) := by decide +kernel
theorem dX5_addLine_22 : decode cX5_addLine 22 = .ok (.goto 4, 3) := by decide +kernel
theorem dX5_addLine_25 : decode cX5_addLine 25 = .ok (.iconst 0, 1) := by decide +kernel
theorem dX5_addLine_26 : decode cX5_addLine 26 = .ok (.putfield 71, 3) := by decide +kernel
theorem dX5_addLine_29 : decode cX5_addLine 29 = .ok (.aload_n 0, 1) := by decide +kernel
theorem dX5_addLine_30 : decode cX5_addLine 30 = .ok (.getfield 71, 3) := by decide +kernel
theorem dX5_addLine_33 : decode cX5_addLine 33 = .ok (.ifCond .le 5, 3) := by decide +kernel
theorem dX5_addLine_36 : decode cX5_addLine 36 = .ok (.iconst 0, 1) := by decide +kernel
theorem dX5_addLine_37 : decode cX5_addLine 37 = .ok (.ireturn, 1) := by decide +kernel
theorem dX5_addLine_38 : decode cX5_addLine 38 = .ok (.aload_n 0, 1) := by decide +kernel
theorem dX5_addLine_39 : decode cX5_addLine 39 = .ok (.aload_n 0, 1) := by decide +kernel
theorem dX5_addLine_40 : decode cX5_addLine 40 = .ok (.getfield 22, 3) := by decide +kernel
theorem dX5_addLine_43 : decode cX5_addLine 43 = .ok (.iload_n 1, 1) := by decide +kernel
theorem dX5_addLine_44 : decode cX5_addLine 44 = .ok (.iaload, 1) := by decide +kernel
theorem dX5_addLine_45 : decode cX5_addLine 45 = .ok (.ifCond .ne 34, 3) := by decide +kernel
theorem dX5_addLine_48 : decode cX5_addLine 48 = .ok (.aload_n 0, 1) := by decide +kernel
theorem dX5_addLine_49 : decode cX5_addLine 49 = .ok (.getfield 25, 3) := by decide +kernel
theorem dX5_addLine_52 : decode cX5_addLine 52 = .ok (.iload_n 1, 1) := by decide +kernel
theorem dX5_addLine_53 : decode cX5_addLine 53 = .ok (.iaload, 1) := by decide +kernel
theorem dX5_addLine_54 : decode cX5_addLine 54 = .ok (.aload_n 0, 1) := by decide +kernel
theorem dX5_addLine_55 : decode cX5_addLine 55 = .ok (.getfield 93, 3) := by decide +kernel
theorem dX5_addLine_58 : decode cX5_addLine 58 = .ok (.if_icmp .ne 21, 3) := by decide +kernel
theorem dX5_addLine_61 : decode cX5_addLine 61 = .ok (.aload_n 0, 1) := by decide +kernel
theorem dX5_addLine_62 : decode cX5_addLine 62 = .ok (.getfield 44, 3) := by decide +kernel
theorem dX5_addLine_65 : decode cX5_addLine 65 = .ok (.iload_n 1, 1) := by decide +kernel
theorem dX5_addLine_66 : decode cX5_addLine 66 = .ok (.iaload, 1) := by decide +kernel
theorem dX5_addLine_67 : decode cX5_addLine 67 = .ok (.iconst 3, 1) := by decide +kernel
theorem dX5_addLine_68 : decode cX5_addLine 68 = .ok (.if_icmp .eq 11, 3) := by decide +kernel
theorem dX5_addLine_71 : decode cX5_addLine 71 = .ok (.aload_n 0, 1) := by decide +kernel
theorem dX5_addLine_72 : decode cX5_addLine 72 = .ok (.iload_n 1, 1) := by decide +kernel
theorem dX5_addLine_73 : decode cX5_addLine 73 = .ok (.invokevirtual 103, 3) := by decide +kernel
theorem dX5_addLine_76 : decode cX5_addLine 76 = .ok (.ifCond .eq 7, 3) := by decide +kernel
theorem dX5_addLine_79 : decode cX5_addLine 79 = .ok (.iconst 3, 1) := by decide +kernel
theorem dX5_addLine_80 : decode cX5_addLine 80 = .ok (.goto 4, 3) := by decide +kernel
theorem dX5_addLine_83 : decode cX5_addLine 83 = .ok (.iconst 0, 1) := by decide +kernel
theorem dX5_addLine_84 : decode cX5_addLine 84 = .ok (.putfield 71, 3) := by decide +kernel
theorem dX5_addLine_87 : decode cX5_addLine 87 = .ok (.aload_n 0, 1) := by decide +kernel
theorem dX5_addLine_88 : decode cX5_addLine 88 = .ok (.getfield 71, 3) := by decide +kernel
theorem dX5_addLine_91 : decode cX5_addLine 91 = .ok (.ifCond .le 5, 3) := by decide +kernel
theorem dX5_addLine_94 : decode cX5_addLine 94 = .ok (.iconst 0, 1) := by decide +kernel
theorem dX5_addLine_95 : decode cX5_addLine 95 = .ok (.ireturn, 1) := by decide +kernel
theorem dX5_addLine_96 : decode cX5_addLine 96 = .ok (.aload_n 0, 1) := by decide +kernel
theorem dX5_addLine_97 : decode cX5_addLine 97 = .ok (.iload_n 1, 1) := by decide +kernel
theorem dX5_addLine_98 : decode cX5_addLine 98 = .ok (.iload_n 2, 1) := by decide +kernel
theorem dX5_addLine_99 : decode cX5_addLine 99 = .ok (.iload_n 3, 1) := by decide +kernel
theorem dX5_addLine_100 : decode cX5_addLine 100 = .ok (.invokevirtual 96, 3) := by decide +kernel
theorem dX5_addLine_103 : decode cX5_addLine 103 = .ok (.aload_n 0, 1) := by decide +kernel
theorem dX5_addLine_104 : decode cX5_addLine 104 = .ok (.getfield 44, 3) := by decide +kernel
theorem dX5_addLine_107 : decode cX5_addLine 107 = .ok (.iload_n 1, 1) := by decide +kernel
theorem dX5_addLine_108 : decode cX5_addLine 108 = .ok (.iaload, 1) := by decide +kernel
theorem dX5_addLine_109 : decode cX5_addLine 109 = .ok (.iconst 1, 1) := by decide +kernel
theorem dX5_addLine_110 : decode cX5_addLine 110 = .ok (.isub, 1) := by decide +kernel
theorem dX5_addLine_111 : decode cX5_addLine 111 = .ok (.ireturn, 1) := by decide +kernel
theorem dX5_taxOf_0 : decode cX5_taxOf 0 = .ok (.iload_n 0, 1) := by decide +kernel
theorem dX5_taxOf_1 : decode cX5_taxOf 1 = .ok (.iload_n 1, 1) := by decide +kernel
theorem dX5_taxOf_2 : decode cX5_taxOf 2 = .ok (.imul, 1) := by decide +kernel
theorem dX5_taxOf_3 : decode cX5_taxOf 3 = .ok (.bipush 100, 2) := by decide +kernel
theorem dX5_taxOf_5 : decode cX5_taxOf 5 = .ok (.idiv, 1) := by decide +kernel
theorem dX5_taxOf_6 : decode cX5_taxOf 6 = .ok (.ireturn, 1) := by decide +kernel
theorem dX5_costs_0 : decode cX5_costs 0 = .ok (.iconst 0, 1) := by decide +kernel
theorem dX5_costs_1 : decode cX5_costs 1 = .ok (.istore_n 3, 1) := by decide +kernel
theorem dX5_costs_2 : decode cX5_costs 2 = .ok (.iconst 3, 1) := by decide +kernel
theorem dX5_costs_3 : decode cX5_costs 3 = .ok (.iload_n 1, 1) := by decide +kernel
theorem dX5_costs_4 : decode cX5_costs 4 = .ok (.imul, 1) := by decide +kernel
theorem dX5_costs_5 : decode cX5_costs 5 = .ok (.istore 4, 2) := by decide +kernel
theorem dX5_costs_7 : decode cX5_costs 7 = .ok (.iload 4, 2) := by decide +kernel
theorem dX5_costs_9 : decode cX5_costs 9 = .ok (.iconst 3, 1) := by decide +kernel
theorem dX5_costs_10 : decode cX5_costs 10 = .ok (.iload_n 1, 1) := by decide +kernel
theorem dX5_costs_11 : decode cX5_costs 11 = .ok (.imul, 1) := by decide +kernel
theorem dX5_costs_12 : decode cX5_costs 12 = .ok (.aload_n 0, 1) := by decide +kernel
theorem dX5_costs_13 : decode cX5_costs 13 = .ok (.getfield 44, 3) := by decide +kernel
theorem dX5_costs_16 : decode cX5_costs 16 = .ok (.iload_n 1, 1) := by decide +kernel
theorem dX5_costs_17 : decode cX5_costs 17 = .ok (.iaload, 1) := by decide +kernel
theorem dX5_costs_18 : decode cX5_costs 18 = .ok (.iadd, 1) := by decide +kernel
theorem dX5_costs_19 : decode cX5_costs 19 = .ok (.if_icmp .ge 55, 3) := by decide +kernel
theorem dX5_costs_22 : decode cX5_costs 22 = .ok (.iload_n 3, 1) := by decide +kernel
theorem dX5_costs_23 : decode cX5_costs 23 = .ok (.iload_n 2, 1) := by decide +kernel
theorem dX5_costs_24 : decode cX5_costs 24 = .ok (.ifCond .ne 13, 3) := by decide +kernel
theorem dX5_costs_27 : decode cX5_costs 27 = .ok (.aload_n 0, 1) := by decide +kernel
theorem dX5_costs_28 : decode cX5_costs 28 = .ok (.getfield 56, 3) := by decide +kernel
theorem dX5_costs_31 : decode cX5_costs 31 = .ok (.iload 4, 2) := by decide +kernel
theorem dX5_costs_33 : decode cX5_costs 33 = .ok (.baload, 1) := by decide +kernel
theorem dX5_costs_34 : decode cX5_costs 34 = .ok (.ifCond .ne 31, 3) := by decide +kernel
theorem dX5_costs_37 : decode cX5_costs 37 = .ok (.aload_n 0, 1) := by decide +kernel
theorem dX5_costs_38 : decode cX5_costs 38 = .ok (.getfield 47, 3) := by decide +kernel
theorem dX5_costs_41 : decode cX5_costs 41 = .ok (.iload 4, 2) := by decide +kernel
theorem dX5_costs_43 : decode cX5_costs 43 = .ok (.iaload, 1) := by decide +kernel
theorem dX5_costs_44 : decode cX5_costs 44 = .ok (.aload_n 0, 1) := by decide +kernel
theorem dX5_costs_45 : decode cX5_costs 45 = .ok (.getfield 47, 3) := by decide +kernel
theorem dX5_costs_48 : decode cX5_costs 48 = .ok (.iload 4, 2) := by decide +kernel
theorem dX5_costs_50 : decode cX5_costs 50 = .ok (.iaload, 1) := by decide +kernel
theorem dX5_costs_51 : decode cX5_costs 51 = .ok (.aload_n 0, 1) := by decide +kernel
theorem dX5_costs_52 : decode cX5_costs 52 = .ok (.getfield 53, 3) := by decide +kernel
theorem dX5_costs_55 : decode cX5_costs 55 = .ok (.iload 4, 2) := by decide +kernel
theorem dX5_costs_57 : decode cX5_costs 57 = .ok (.iaload, 1) := by decide +kernel
theorem dX5_costs_58 : decode cX5_costs 58 = .ok (.invokestatic 106, 3) := by decide +kernel
theorem dX5_costs_61 : decode cX5_costs 61 = .ok (.iadd, 1) := by decide +kernel
theorem dX5_costs_62 : decode cX5_costs 62 = .ok (.goto 4, 3) := by decide +kernel
theorem dX5_costs_65 : decode cX5_costs 65 = .ok (.iconst 0, 1) := by decide +kernel
theorem dX5_costs_66 : decode cX5_costs 66 = .ok (.iadd, 1) := by decide +kernel
theorem dX5_costs_67 : decode cX5_costs 67 = .ok (.istore_n 3, 1) := by decide +kernel
theorem dX5_costs_68 : decode cX5_costs 68 = .ok (.iinc 4 1, 3) := by decide +kernel
theorem dX5_costs_71 : decode cX5_costs 71 = .ok (.goto (-64), 3) := by decide +kernel
theorem dX5_costs_74 : decode cX5_costs 74 = .ok (.iload_n 3, 1) := by decide +kernel
theorem dX5_costs_75 : decode cX5_costs 75 = .ok (.ireturn, 1) := by decide +kernel
theorem dX5_owed_0 : decode cX5_owed 0 = .ok (.aload_n 0, 1) := by decide +kernel
theorem dX5_owed_1 : decode cX5_owed 1 = .ok (.iload_n 1, 1) := by decide +kernel
theorem dX5_owed_2 : decode cX5_owed 2 = .ok (.iconst 0, 1) := by decide +kernel
theorem dX5_owed_3 : decode cX5_owed 3 = .ok (.invokevirtual 110, 3) := by decide +kernel
theorem dX5_owed_6 : decode cX5_owed 6 = .ok (.aload_n 0, 1) := by decide +kernel
theorem dX5_owed_7 : decode cX5_owed 7 = .ok (.getfield 41, 3) := by decide +kernel
theorem dX5_owed_10 : decode cX5_owed 10 = .ok (.iload_n 1, 1) := by decide +kernel
theorem dX5_owed_11 : decode cX5_owed 11 = .ok (.iaload, 1) := by decide +kernel
theorem dX5_owed_12 : decode cX5_owed 12 = .ok (.isub, 1) := by decide +kernel
theorem dX5_owed_13 : decode cX5_owed 13 = .ok (.istore_n 2, 1) := by decide +kernel
theorem dX5_owed_14 : decode cX5_owed 14 = .ok (.aload_n 0, 1) := by decide +kernel
theorem dX5_owed_15 : decode cX5_owed 15 = .ok (.getfield 22, 3) := by decide +kernel
theorem dX5_owed_18 : decode cX5_owed 18 = .ok (.iload_n 1, 1) := by decide +kernel
theorem dX5_owed_19 : decode cX5_owed 19 = .ok (.iaload, 1) := by decide +kernel
theorem dX5_owed_20 : decode cX5_owed 20 = .ok (.iconst 1, 1) := by decide +kernel
theorem dX5_owed_21 : decode cX5_owed 21 = .ok (.if_icmp .ne 11, 3) := by decide +kernel
theorem dX5_owed_24 : decode cX5_owed 24 = .ok (.iload_n 2, 1) := by decide +kernel
theorem dX5_owed_25 : decode cX5_owed 25 = .ok (.ifCond .le 7, 3) := by decide +kernel
theorem dX5_owed_28 : decode cX5_owed 28 = .ok (.iload_n 2, 1) := by decide +kernel
theorem dX5_owed_29 : decode cX5_owed 29 = .ok (.goto 4, 3) := by decide +kernel
theorem dX5_owed_32 : decode cX5_owed 32 = .ok (.iconst 0, 1) := by decide +kernel
theorem dX5_owed_33 : decode cX5_owed 33 = .ok (.ireturn, 1) := by decide +kernel
theorem dX5_accept_0 : decode cX5_accept 0 = .ok (.aload_n 0, 1) := by decide +kernel
theorem dX5_accept_1 : decode cX5_accept 1 = .ok (.aload_n 0, 1) := by decide +kernel
theorem dX5_accept_2 : decode cX5_accept 2 = .ok (.iload_n 1, 1) := by decide +kernel
theorem dX5_accept_3 : decode cX5_accept 3 = .ok (.invokevirtual 82, 3) := by decide +kernel
theorem dX5_accept_6 : decode cX5_accept 6 = .ok (.ifCond .ne 7, 3) := by decide +kernel
theorem dX5_accept_9 : decode cX5_accept 9 = .ok (.iconst 1, 1) := by decide +kernel
theorem dX5_accept_10 : decode cX5_accept 10 = .ok (.goto 17, 3) := by decide +kernel
theorem dX5_accept_13 : decode cX5_accept 13 = .ok (.aload_n 0, 1) := by decide +kernel
theorem dX5_accept_14 : decode cX5_accept 14 = .ok (.getfield 22, 3) := by decide +kernel
theorem dX5_accept_17 : decode cX5_accept 17 = .ok (.iload_n 1, 1) := by decide +kernel
theorem dX5_accept_18 : decode cX5_accept 18 = .ok (.iaload, 1) := by decide +kernel
theorem dX5_accept_19 : decode cX5_accept 19 = .ok (.ifCond .eq 7, 3) := by decide +kernel
theorem dX5_accept_22 : decode cX5_accept 22 = .ok (.iconst 2, 1) := by decide +kernel
theorem dX5_accept_23 : decode cX5_accept 23 = .ok (.goto 4, 3) := by decide +kernel
theorem dX5_accept_26 : decode cX5_accept 26 = .ok (.iconst 0, 1) := by decide +kernel
theorem dX5_accept_27 : decode cX5_accept 27 = .ok (.putfield 71, 3) := by decide +kernel
theorem dX5_accept_30 : decode cX5_accept 30 = .ok (.aload_n 0, 1) := by decide +kernel
theorem dX5_accept_31 : decode cX5_accept 31 = .ok (.getfield 71, 3) := by decide +kernel
theorem dX5_accept_34 : decode cX5_accept 34 = .ok (.ifCond .le 5, 3) := by decide +kernel
theorem dX5_accept_37 : decode cX5_accept 37 = .ok (.iconst 0, 1) := by decide +kernel
theorem dX5_accept_38 : decode cX5_accept 38 = .ok (.ireturn, 1) := by decide +kernel
theorem dX5_accept_39 : decode cX5_accept 39 = .ok (.aload_n 0, 1) := by decide +kernel
theorem dX5_accept_40 : decode cX5_accept 40 = .ok (.getfield 22, 3) := by decide +kernel
theorem dX5_accept_43 : decode cX5_accept 43 = .ok (.iload_n 1, 1) := by decide +kernel
theorem dX5_accept_44 : decode cX5_accept 44 = .ok (.iconst 1, 1) := by decide +kernel
theorem dX5_accept_45 : decode cX5_accept 45 = .ok (.iastore, 1) := by decide +kernel
theorem dX5_accept_46 : decode cX5_accept 46 = .ok (.aload_n 0, 1) := by decide +kernel
theorem dX5_accept_47 : decode cX5_accept 47 = .ok (.getfield 28, 3) := by decide +kernel
theorem dX5_accept_50 : decode cX5_accept 50 = .ok (.iload_n 1, 1) := by decide +kernel
theorem dX5_accept_51 : decode cX5_accept 51 = .ok (.aload_n 0, 1) := by decide +kernel
theorem dX5_accept_52 : decode cX5_accept 52 = .ok (.getfield 93, 3) := by decide +kernel
theorem dX5_accept_55 : decode cX5_accept 55 = .ok (.iastore, 1) := by decide +kernel
theorem dX5_accept_56 : decode cX5_accept 56 = .ok (.aload_n 0, 1) := by decide +kernel
theorem dX5_accept_57 : decode cX5_accept 57 = .ok (.iload_n 1, 1) := by decide +kernel
theorem dX5_accept_58 : decode cX5_accept 58 = .ok (.invokevirtual 114, 3) := by decide +kernel
theorem dX5_accept_61 : decode cX5_accept 61 = .ok (.ireturn, 1) := by decide +kernel
theorem dX5_refuse_0 : decode cX5_refuse 0 = .ok (.aload_n 0, 1) := by decide +kernel
theorem dX5_refuse_1 : decode cX5_refuse 1 = .ok (.aload_n 0, 1) := by decide +kernel
theorem dX5_refuse_2 : decode cX5_refuse 2 = .ok (.iload_n 1, 1) := by decide +kernel
theorem dX5_refuse_3 : decode cX5_refuse 3 = .ok (.invokevirtual 82, 3) := by decide +kernel
theorem dX5_refuse_6 : decode cX5_refuse 6 = .ok (.ifCond .ne 7, 3) := by decide +kernel
theorem dX5_refuse_9 : decode cX5_refuse 9 = .ok (.iconst 1, 1) := by decide +kernel
theorem dX5_refuse_10 : decode cX5_refuse 10 = .ok (.goto 17, 3) := by decide +kernel
theorem dX5_refuse_13 : decode cX5_refuse 13 = .ok (.aload_n 0, 1) := by decide +kernel
theorem dX5_refuse_14 : decode cX5_refuse 14 = .ok (.getfield 22, 3) := by decide +kernel
theorem dX5_refuse_17 : decode cX5_refuse 17 = .ok (.iload_n 1, 1) := by decide +kernel
theorem dX5_refuse_18 : decode cX5_refuse 18 = .ok (.iaload, 1) := by decide +kernel
theorem dX5_refuse_19 : decode cX5_refuse 19 = .ok (.ifCond .eq 7, 3) := by decide +kernel
theorem dX5_refuse_22 : decode cX5_refuse 22 = .ok (.iconst 2, 1) := by decide +kernel
theorem dX5_refuse_23 : decode cX5_refuse 23 = .ok (.goto 4, 3) := by decide +kernel
theorem dX5_refuse_26 : decode cX5_refuse 26 = .ok (.iconst 0, 1) := by decide +kernel
theorem dX5_refuse_27 : decode cX5_refuse 27 = .ok (.putfield 71, 3) := by decide +kernel
theorem dX5_refuse_30 : decode cX5_refuse 30 = .ok (.aload_n 0, 1) := by decide +kernel
theorem dX5_refuse_31 : decode cX5_refuse 31 = .ok (.getfield 71, 3) := by decide +kernel
theorem dX5_refuse_34 : decode cX5_refuse 34 = .ok (.ifCond .le 5, 3) := by decide +kernel
theorem dX5_refuse_37 : decode cX5_refuse 37 = .ok (.iconst 0, 1) := by decide +kernel
theorem dX5_refuse_38 : decode cX5_refuse 38 = .ok (.ireturn, 1) := by decide +kernel
theorem dX5_refuse_39 : decode cX5_refuse 39 = .ok (.aload_n 0, 1) := by decide +kernel
theorem dX5_refuse_40 : decode cX5_refuse 40 = .ok (.getfield 22, 3) := by decide +kernel
theorem dX5_refuse_43 : decode cX5_refuse 43 = .ok (.iload_n 1, 1) := by decide +kernel
theorem dX5_refuse_44 : decode cX5_refuse 44 = .ok (.iconst 2, 1) := by decide +kernel
theorem dX5_refuse_45 : decode cX5_refuse 45 = .ok (.iastore, 1) := by decide +kernel
theorem dX5_refuse_46 : decode cX5_refuse 46 = .ok (.aload_n 0, 1) := by decide +kernel
theorem dX5_refuse_47 : decode cX5_refuse 47 = .ok (.iload_n 1, 1) := by decide +kernel
theorem dX5_refuse_48 : decode cX5_refuse 48 = .ok (.iconst 1, 1) := by decide +kernel
theorem dX5_refuse_49 : decode cX5_refuse 49 = .ok (.invokevirtual 110, 3) := by decide +kernel
theorem dX5_refuse_52 : decode cX5_refuse 52 = .ok (.ireturn, 1) := by decide +kernel
theorem dX5_lessens_0 : decode cX5_lessens 0 = .ok (.iconst 3, 1) := by decide +kernel
theorem dX5_lessens_1 : decode cX5_lessens 1 = .ok (.iload_n 1, 1) := by decide +kernel
theorem dX5_lessens_2 : decode cX5_lessens 2 = .ok (.imul, 1) := by decide +kernel
theorem dX5_lessens_3 : decode cX5_lessens 3 = .ok (.iload_n 2, 1) := by decide +kernel
theorem dX5_lessens_4 : decode cX5_lessens 4 = .ok (.iadd, 1) := by decide +kernel
theorem dX5_lessens_5 : decode cX5_lessens 5 = .ok (.istore 4, 2) := by decide +kernel
theorem dX5_lessens_7 : decode cX5_lessens 7 = .ok (.aload_n 0, 1) := by decide +kernel
theorem dX5_lessens_8 : decode cX5_lessens 8 = .ok (.getfield 59, 3) := by decide +kernel
theorem dX5_lessens_11 : decode cX5_lessens 11 = .ok (.aload_n 0, 1) := by decide +kernel
theorem dX5_lessens_12 : decode cX5_lessens 12 = .ok (.getfield 100, 3) := by decide +kernel
theorem dX5_lessens_15 : decode cX5_lessens 15 = .ok (.iload_n 1, 1) := by decide +kernel
theorem dX5_lessens_16 : decode cX5_lessens 16 = .ok (.iastore, 1) := by decide +kernel
theorem dX5_lessens_17 : decode cX5_lessens 17 = .ok (.aload_n 0, 1) := by decide +kernel
theorem dX5_lessens_18 : decode cX5_lessens 18 = .ok (.getfield 62, 3) := by decide +kernel
theorem dX5_lessens_21 : decode cX5_lessens 21 = .ok (.aload_n 0, 1) := by decide +kernel
theorem dX5_lessens_22 : decode cX5_lessens 22 = .ok (.getfield 100, 3) := by decide +kernel
theorem dX5_lessens_25 : decode cX5_lessens 25 = .ok (.aload_n 0, 1) := by decide +kernel
theorem dX5_lessens_26 : decode cX5_lessens 26 = .ok (.getfield 93, 3) := by decide +kernel
theorem dX5_lessens_29 : decode cX5_lessens 29 = .ok (.iastore, 1) := by decide +kernel
theorem dX5_lessens_30 : decode cX5_lessens 30 = .ok (.aload_n 0, 1) := by decide +kernel
theorem dX5_lessens_31 : decode cX5_lessens 31 = .ok (.getfield 65, 3) := by decide +kernel
theorem dX5_lessens_34 : decode cX5_lessens 34 = .ok (.aload_n 0, 1) := by decide +kernel
theorem dX5_lessens_35 : decode cX5_lessens 35 = .ok (.getfield 100, 3) := by decide +kernel
theorem dX5_lessens_38 : decode cX5_lessens 38 = .ok (.aload_n 0, 1) := by decide +kernel
theorem dX5_lessens_39 : decode cX5_lessens 39 = .ok (.getfield 47, 3) := by decide +kernel
theorem dX5_lessens_42 : decode cX5_lessens 42 = .ok (.iload 4, 2) := by decide +kernel
theorem dX5_lessens_44 : decode cX5_lessens 44 = .ok (.iaload, 1) := by decide +kernel
theorem dX5_lessens_45 : decode cX5_lessens 45 = .ok (.aload_n 0, 1) := by decide +kernel
theorem dX5_lessens_46 : decode cX5_lessens 46 = .ok (.getfield 53, 3) := by decide +kernel
theorem dX5_lessens_49 : decode cX5_lessens 49 = .ok (.iload 4, 2) := by decide +kernel
theorem dX5_lessens_51 : decode cX5_lessens 51 = .ok (.iaload, 1) := by decide +kernel
theorem dX5_lessens_52 : decode cX5_lessens 52 = .ok (.invokestatic 106, 3) := by decide +kernel
theorem dX5_lessens_55 : decode cX5_lessens 55 = .ok (.aload_n 0, 1) := by decide +kernel
theorem dX5_lessens_56 : decode cX5_lessens 56 = .ok (.getfield 47, 3) := by decide +kernel
theorem dX5_lessens_59 : decode cX5_lessens 59 = .ok (.iload 4, 2) := by decide +kernel
theorem dX5_lessens_61 : decode cX5_lessens 61 = .ok (.iaload, 1) := by decide +kernel
theorem dX5_lessens_62 : decode cX5_lessens 62 = .ok (.iload_n 3, 1) := by decide +kernel
theorem dX5_lessens_63 : decode cX5_lessens 63 = .ok (.isub, 1) := by decide +kernel
theorem dX5_lessens_64 : decode cX5_lessens 64 = .ok (.aload_n 0, 1) := by decide +kernel
theorem dX5_lessens_65 : decode cX5_lessens 65 = .ok (.getfield 53, 3) := by decide +kernel
theorem dX5_lessens_68 : decode cX5_lessens 68 = .ok (.iload 4, 2) := by decide +kernel
theorem dX5_lessens_70 : decode cX5_lessens 70 = .ok (.iaload, 1) := by decide +kernel
theorem dX5_lessens_71 : decode cX5_lessens 71 = .ok (.invokestatic 106, 3) := by decide +kernel
theorem dX5_lessens_74 : decode cX5_lessens 74 = .ok (.isub, 1) := by decide +kernel
theorem dX5_lessens_75 : decode cX5_lessens 75 = .ok (.iastore, 1) := by decide +kernel
theorem dX5_lessens_76 : decode cX5_lessens 76 = .ok (.aload_n 0, 1) := by decide +kernel
theorem dX5_lessens_77 : decode cX5_lessens 77 = .ok (.getfield 47, 3) := by decide +kernel
theorem dX5_lessens_80 : decode cX5_lessens 80 = .ok (.iload 4, 2) := by decide +kernel
theorem dX5_lessens_82 : decode cX5_lessens 82 = .ok (.dup2, 1) := by decide +kernel
theorem dX5_lessens_83 : decode cX5_lessens 83 = .ok (.iaload, 1) := by decide +kernel
theorem dX5_lessens_84 : decode cX5_lessens 84 = .ok (.iload_n 3, 1) := by decide +kernel
theorem dX5_lessens_85 : decode cX5_lessens 85 = .ok (.isub, 1) := by decide +kernel
theorem dX5_lessens_86 : decode cX5_lessens 86 = .ok (.iastore, 1) := by decide +kernel
theorem dX5_lessens_87 : decode cX5_lessens 87 = .ok (.aload_n 0, 1) := by decide +kernel
theorem dX5_lessens_88 : decode cX5_lessens 88 = .ok (.dup, 1) := by decide +kernel
theorem dX5_lessens_89 : decode cX5_lessens 89 = .ok (.getfield 100, 3) := by decide +kernel
theorem dX5_lessens_92 : decode cX5_lessens 92 = .ok (.iconst 1, 1) := by decide +kernel
theorem dX5_lessens_93 : decode cX5_lessens 93 = .ok (.iadd, 1) := by decide +kernel
theorem dX5_lessens_94 : decode cX5_lessens 94 = .ok (.putfield 100, 3) := by decide +kernel
theorem dX5_lessens_97 : decode cX5_lessens 97 = .ok (.return_, 1) := by decide +kernel
theorem dX5_credit_0 : decode cX5_credit 0 = .ok (.aload_n 0, 1) := by decide +kernel
theorem dX5_credit_1 : decode cX5_credit 1 = .ok (.aload_n 0, 1) := by decide +kernel
theorem dX5_credit_2 : decode cX5_credit 2 = .ok (.iload_n 1, 1) := by decide +kernel
theorem dX5_credit_3 : decode cX5_credit 3 = .ok (.iload_n 2, 1) := by decide +kernel
theorem dX5_credit_4 : decode cX5_credit 4 = .ok (.invokevirtual 118, 3) := by decide +kernel
theorem dX5_credit_7 : decode cX5_credit 7 = .ok (.ifCond .ne 7, 3) := by decide +kernel
theorem dX5_credit_10 : decode cX5_credit 10 = .ok (.iconst 1, 1) := by decide +kernel
theorem dX5_credit_11 : decode cX5_credit 11 = .ok (.goto 56, 3) := by decide +kernel
theorem dX5_credit_14 : decode cX5_credit 14 = .ok (.iload_n 3, 1) := by decide +kernel
theorem dX5_credit_15 : decode cX5_credit 15 = .ok (.iconst 1, 1) := by decide +kernel
theorem dX5_credit_16 : decode cX5_credit 16 = .ok (.sipush 9999, 3) := by decide +kernel
theorem dX5_credit_19 : decode cX5_credit 19 = .ok (.invokestatic 75, 3) := by decide +kernel
theorem dX5_credit_22 : decode cX5_credit 22 = .ok (.ifCond .eq 17, 3) := by decide +kernel
theorem dX5_credit_25 : decode cX5_credit 25 = .ok (.iload_n 3, 1) := by decide +kernel
theorem dX5_credit_26 : decode cX5_credit 26 = .ok (.aload_n 0, 1) := by decide +kernel
theorem dX5_credit_27 : decode cX5_credit 27 = .ok (.getfield 47, 3) := by decide +kernel
theorem dX5_credit_30 : decode cX5_credit 30 = .ok (.iconst 3, 1) := by decide +kernel
theorem dX5_credit_31 : decode cX5_credit 31 = .ok (.iload_n 1, 1) := by decide +kernel
theorem dX5_credit_32 : decode cX5_credit 32 = .ok (.imul, 1) := by decide +kernel
theorem dX5_credit_33 : decode cX5_credit 33 = .ok (.iload_n 2, 1) := by decide +kernel
theorem dX5_credit_34 : decode cX5_credit 34 = .ok (.iadd, 1) := by decide +kernel
theorem dX5_credit_35 : decode cX5_credit 35 = .ok (.iaload, 1) := by decide +kernel
theorem dX5_credit_36 : decode cX5_credit 36 = .ok (.if_icmp .le 7, 3) := by decide +kernel
theorem dX5_credit_39 : decode cX5_credit 39 = .ok (.iconst 2, 1) := by decide +kernel
theorem dX5_credit_40 : decode cX5_credit 40 = .ok (.goto 27, 3) := by decide +kernel
theorem dX5_credit_43 : decode cX5_credit 43 = .ok (.aload_n 0, 1) := by decide +kernel
theorem dX5_credit_44 : decode cX5_credit 44 = .ok (.getfield 22, 3) := by decide +kernel
theorem dX5_credit_47 : decode cX5_credit 47 = .ok (.iload_n 1, 1) := by decide +kernel
theorem dX5_credit_48 : decode cX5_credit 48 = .ok (.iaload, 1) := by decide +kernel
theorem dX5_credit_49 : decode cX5_credit 49 = .ok (.iconst 2, 1) := by decide +kernel
theorem dX5_credit_50 : decode cX5_credit 50 = .ok (.if_icmp .eq 12, 3) := by decide +kernel
theorem dX5_credit_53 : decode cX5_credit 53 = .ok (.aload_n 0, 1) := by decide +kernel
theorem dX5_credit_54 : decode cX5_credit 54 = .ok (.getfield 100, 3) := by decide +kernel
theorem dX5_credit_57 : decode cX5_credit 57 = .ok (.bipush 24, 2) := by decide +kernel
theorem dX5_credit_59 : decode cX5_credit 59 = .ok (.if_icmp .ne 7, 3) := by decide +kernel
theorem dX5_credit_62 : decode cX5_credit 62 = .ok (.iconst 3, 1) := by decide +kernel
theorem dX5_credit_63 : decode cX5_credit 63 = .ok (.goto 4, 3) := by decide +kernel
theorem dX5_credit_66 : decode cX5_credit 66 = .ok (.iconst 0, 1) := by decide +kernel
theorem dX5_credit_67 : decode cX5_credit 67 = .ok (.putfield 71, 3) := by decide +kernel
theorem dX5_credit_70 : decode cX5_credit 70 = .ok (.aload_n 0, 1) := by decide +kernel
theorem dX5_credit_71 : decode cX5_credit 71 = .ok (.getfield 71, 3) := by decide +kernel
theorem dX5_credit_74 : decode cX5_credit 74 = .ok (.ifCond .le 5, 3) := by decide +kernel
theorem dX5_credit_77 : decode cX5_credit 77 = .ok (.iconst 0, 1) := by decide +kernel
theorem dX5_credit_78 : decode cX5_credit 78 = .ok (.ireturn, 1) := by decide +kernel
theorem dX5_credit_79 : decode cX5_credit 79 = .ok (.aload_n 0, 1) := by decide +kernel
theorem dX5_credit_80 : decode cX5_credit 80 = .ok (.iload_n 1, 1) := by decide +kernel
theorem dX5_credit_81 : decode cX5_credit 81 = .ok (.iload_n 2, 1) := by decide +kernel
theorem dX5_credit_82 : decode cX5_credit 82 = .ok (.iload_n 3, 1) := by decide +kernel
theorem dX5_credit_83 : decode cX5_credit 83 = .ok (.invokevirtual 121, 3) := by decide +kernel
theorem dX5_credit_86 : decode cX5_credit 86 = .ok (.aload_n 0, 1) := by decide +kernel
theorem dX5_credit_87 : decode cX5_credit 87 = .ok (.getfield 47, 3) := by decide +kernel
theorem dX5_credit_90 : decode cX5_credit 90 = .ok (.iconst 3, 1) := by decide +kernel
theorem dX5_credit_91 : decode cX5_credit 91 = .ok (.iload_n 1, 1) := by decide +kernel
theorem dX5_credit_92 : decode cX5_credit 92 = .ok (.imul, 1) := by decide +kernel
theorem dX5_credit_93 : decode cX5_credit 93 = .ok (.iload_n 2, 1) := by decide +kernel
theorem dX5_credit_94 : decode cX5_credit 94 = .ok (.iadd, 1) := by decide +kernel
theorem dX5_credit_95 : decode cX5_credit 95 = .ok (.iaload, 1) := by decide +kernel
theorem dX5_credit_96 : decode cX5_credit 96 = .ok (.ireturn, 1) := by decide +kernel
theorem dX5_dispute_0 : decode cX5_dispute 0 = .ok (.aload_n 0, 1) := by decide +kernel
theorem dX5_dispute_1 : decode cX5_dispute 1 = .ok (.aload_n 0, 1) := by decide +kernel
theorem dX5_dispute_2 : decode cX5_dispute 2 = .ok (.iload_n 1, 1) := by decide +kernel
theorem dX5_dispute_3 : decode cX5_dispute 3 = .ok (.iload_n 2, 1) := by decide +kernel
theorem dX5_dispute_4 : decode cX5_dispute 4 = .ok (.invokevirtual 118, 3) := by decide +kernel
theorem dX5_dispute_7 : decode cX5_dispute 7 = .ok (.ifCond .ne 7, 3) := by decide +kernel
theorem dX5_dispute_10 : decode cX5_dispute 10 = .ok (.iconst 1, 1) := by decide +kernel
theorem dX5_dispute_11 : decode cX5_dispute 11 = .ok (.goto 44, 3) := by decide +kernel
theorem dX5_dispute_14 : decode cX5_dispute 14 = .ok (.aload_n 0, 1) := by decide +kernel
theorem dX5_dispute_15 : decode cX5_dispute 15 = .ok (.getfield 22, 3) := by decide +kernel
theorem dX5_dispute_18 : decode cX5_dispute 18 = .ok (.iload_n 1, 1) := by decide +kernel
theorem dX5_dispute_19 : decode cX5_dispute 19 = .ok (.iaload, 1) := by decide +kernel
theorem dX5_dispute_20 : decode cX5_dispute 20 = .ok (.iconst 1, 1) := by decide +kernel
theorem dX5_dispute_21 : decode cX5_dispute 21 = .ok (.if_icmp .ne 29, 3) := by decide +kernel
theorem dX5_dispute_24 : decode cX5_dispute 24 = .ok (.aload_n 0, 1) := by decide +kernel
theorem dX5_dispute_25 : decode cX5_dispute 25 = .ok (.getfield 56, 3) := by decide +kernel
theorem dX5_dispute_28 : decode cX5_dispute 28 = .ok (.iconst 3, 1) := by decide +kernel
theorem dX5_dispute_29 : decode cX5_dispute 29 = .ok (.iload_n 1, 1) := by decide +kernel
theorem dX5_dispute_30 : decode cX5_dispute 30 = .ok (.imul, 1) := by decide +kernel
theorem dX5_dispute_31 : decode cX5_dispute 31 = .ok (.iload_n 2, 1) := by decide +kernel
theorem dX5_dispute_32 : decode cX5_dispute 32 = .ok (.iadd, 1) := by decide +kernel
theorem dX5_dispute_33 : decode cX5_dispute 33 = .ok (.baload, 1) := by decide +kernel
theorem dX5_dispute_34 : decode cX5_dispute 34 = .ok (.ifCond .ne 16, 3) := by decide +kernel
theorem dX5_dispute_37 : decode cX5_dispute 37 = .ok (.aload_n 0, 1) := by decide +kernel
theorem dX5_dispute_38 : decode cX5_dispute 38 = .ok (.getfield 47, 3) := by decide +kernel
theorem dX5_dispute_41 : decode cX5_dispute 41 = .ok (.iconst 3, 1) := by decide +kernel
theorem dX5_dispute_42 : decode cX5_dispute 42 = .ok (.iload_n 1, 1) := by decide +kernel
theorem dX5_dispute_43 : decode cX5_dispute 43 = .ok (.imul, 1) := by decide +kernel
theorem dX5_dispute_44 : decode cX5_dispute 44 = .ok (.iload_n 2, 1) := by decide +kernel
theorem dX5_dispute_45 : decode cX5_dispute 45 = .ok (.iadd, 1) := by decide +kernel
theorem dX5_dispute_46 : decode cX5_dispute 46 = .ok (.iaload, 1) := by decide +kernel
theorem dX5_dispute_47 : decode cX5_dispute 47 = .ok (.ifCond .ne 7, 3) := by decide +kernel
theorem dX5_dispute_50 : decode cX5_dispute 50 = .ok (.iconst 2, 1) := by decide +kernel
theorem dX5_dispute_51 : decode cX5_dispute 51 = .ok (.goto 4, 3) := by decide +kernel
theorem dX5_dispute_54 : decode cX5_dispute 54 = .ok (.iconst 0, 1) := by decide +kernel
theorem dX5_dispute_55 : decode cX5_dispute 55 = .ok (.putfield 71, 3) := by decide +kernel
theorem dX5_dispute_58 : decode cX5_dispute 58 = .ok (.aload_n 0, 1) := by decide +kernel
theorem dX5_dispute_59 : decode cX5_dispute 59 = .ok (.getfield 71, 3) := by decide +kernel
theorem dX5_dispute_62 : decode cX5_dispute 62 = .ok (.ifCond .le 5, 3) := by decide +kernel
theorem dX5_dispute_65 : decode cX5_dispute 65 = .ok (.iconst 0, 1) := by decide +kernel
theorem dX5_dispute_66 : decode cX5_dispute 66 = .ok (.ireturn, 1) := by decide +kernel
theorem dX5_dispute_67 : decode cX5_dispute 67 = .ok (.aload_n 0, 1) := by decide +kernel
theorem dX5_dispute_68 : decode cX5_dispute 68 = .ok (.getfield 56, 3) := by decide +kernel
theorem dX5_dispute_71 : decode cX5_dispute 71 = .ok (.iconst 3, 1) := by decide +kernel
theorem dX5_dispute_72 : decode cX5_dispute 72 = .ok (.iload_n 1, 1) := by decide +kernel
theorem dX5_dispute_73 : decode cX5_dispute 73 = .ok (.imul, 1) := by decide +kernel
theorem dX5_dispute_74 : decode cX5_dispute 74 = .ok (.iload_n 2, 1) := by decide +kernel
theorem dX5_dispute_75 : decode cX5_dispute 75 = .ok (.iadd, 1) := by decide +kernel
theorem dX5_dispute_76 : decode cX5_dispute 76 = .ok (.iconst 1, 1) := by decide +kernel
theorem dX5_dispute_77 : decode cX5_dispute 77 = .ok (.bastore, 1) := by decide +kernel
theorem dX5_dispute_78 : decode cX5_dispute 78 = .ok (.aload_n 0, 1) := by decide +kernel
theorem dX5_dispute_79 : decode cX5_dispute 79 = .ok (.iload_n 1, 1) := by decide +kernel
theorem dX5_dispute_80 : decode cX5_dispute 80 = .ok (.invokevirtual 114, 3) := by decide +kernel
theorem dX5_dispute_83 : decode cX5_dispute 83 = .ok (.ireturn, 1) := by decide +kernel
theorem dX5_settle_0 : decode cX5_settle 0 = .ok (.aload_n 0, 1) := by decide +kernel
theorem dX5_settle_1 : decode cX5_settle 1 = .ok (.aload_n 0, 1) := by decide +kernel
theorem dX5_settle_2 : decode cX5_settle 2 = .ok (.iload_n 1, 1) := by decide +kernel
theorem dX5_settle_3 : decode cX5_settle 3 = .ok (.iload_n 2, 1) := by decide +kernel
theorem dX5_settle_4 : decode cX5_settle 4 = .ok (.invokevirtual 118, 3) := by decide +kernel
theorem dX5_settle_7 : decode cX5_settle 7 = .ok (.ifCond .ne 7, 3) := by decide +kernel
theorem dX5_settle_10 : decode cX5_settle 10 = .ok (.iconst 1, 1) := by decide +kernel
theorem dX5_settle_11 : decode cX5_settle 11 = .ok (.goto 34, 3) := by decide +kernel
theorem dX5_settle_14 : decode cX5_settle 14 = .ok (.aload_n 0, 1) := by decide +kernel
theorem dX5_settle_15 : decode cX5_settle 15 = .ok (.getfield 56, 3) := by decide +kernel
theorem dX5_settle_18 : decode cX5_settle 18 = .ok (.iconst 3, 1) := by decide +kernel
theorem dX5_settle_19 : decode cX5_settle 19 = .ok (.iload_n 1, 1) := by decide +kernel
theorem dX5_settle_20 : decode cX5_settle 20 = .ok (.imul, 1) := by decide +kernel
theorem dX5_settle_21 : decode cX5_settle 21 = .ok (.iload_n 2, 1) := by decide +kernel
theorem dX5_settle_22 : decode cX5_settle 22 = .ok (.iadd, 1) := by decide +kernel
theorem dX5_settle_23 : decode cX5_settle 23 = .ok (.baload, 1) := by decide +kernel
theorem dX5_settle_24 : decode cX5_settle 24 = .ok (.ifCond .eq 16, 3) := by decide +kernel
theorem dX5_settle_27 : decode cX5_settle 27 = .ok (.iload_n 3, 1) := by decide +kernel
theorem dX5_settle_28 : decode cX5_settle 28 = .ok (.ifCond .eq 16, 3) := by decide +kernel
theorem dX5_settle_31 : decode cX5_settle 31 = .ok (.aload_n 0, 1) := by decide +kernel
theorem dX5_settle_32 : decode cX5_settle 32 = .ok (.getfield 100, 3) := by decide +kernel
theorem dX5_settle_35 : decode cX5_settle 35 = .ok (.bipush 24, 2) := by decide +kernel
theorem dX5_settle_37 : decode cX5_settle 37 = .ok (.if_icmp .ne 7, 3) := by decide +kernel
theorem dX5_settle_40 : decode cX5_settle 40 = .ok (.iconst 2, 1) := by decide +kernel
theorem dX5_settle_41 : decode cX5_settle 41 = .ok (.goto 4, 3) := by decide +kernel
theorem dX5_settle_44 : decode cX5_settle 44 = .ok (.iconst 0, 1) := by decide +kernel
theorem dX5_settle_45 : decode cX5_settle 45 = .ok (.putfield 71, 3) := by decide +kernel
theorem dX5_settle_48 : decode cX5_settle 48 = .ok (.aload_n 0, 1) := by decide +kernel
theorem dX5_settle_49 : decode cX5_settle 49 = .ok (.getfield 71, 3) := by decide +kernel
theorem dX5_settle_52 : decode cX5_settle 52 = .ok (.ifCond .le 5, 3) := by decide +kernel
theorem dX5_settle_55 : decode cX5_settle 55 = .ok (.iconst 0, 1) := by decide +kernel
theorem dX5_settle_56 : decode cX5_settle 56 = .ok (.ireturn, 1) := by decide +kernel
theorem dX5_settle_57 : decode cX5_settle 57 = .ok (.aload_n 0, 1) := by decide +kernel
theorem dX5_settle_58 : decode cX5_settle 58 = .ok (.getfield 56, 3) := by decide +kernel
theorem dX5_settle_61 : decode cX5_settle 61 = .ok (.iconst 3, 1) := by decide +kernel
theorem dX5_settle_62 : decode cX5_settle 62 = .ok (.iload_n 1, 1) := by decide +kernel
theorem dX5_settle_63 : decode cX5_settle 63 = .ok (.imul, 1) := by decide +kernel
theorem dX5_settle_64 : decode cX5_settle 64 = .ok (.iload_n 2, 1) := by decide +kernel
theorem dX5_settle_65 : decode cX5_settle 65 = .ok (.iadd, 1) := by decide +kernel
theorem dX5_settle_66 : decode cX5_settle 66 = .ok (.iconst 0, 1) := by decide +kernel
theorem dX5_settle_67 : decode cX5_settle 67 = .ok (.bastore, 1) := by decide +kernel
theorem dX5_settle_68 : decode cX5_settle 68 = .ok (.iload_n 3, 1) := by decide +kernel
theorem dX5_settle_69 : decode cX5_settle 69 = .ok (.ifCond .eq 19, 3) := by decide +kernel
theorem dX5_settle_72 : decode cX5_settle 72 = .ok (.aload_n 0, 1) := by decide +kernel
theorem dX5_settle_73 : decode cX5_settle 73 = .ok (.iload_n 1, 1) := by decide +kernel
theorem dX5_settle_74 : decode cX5_settle 74 = .ok (.iload_n 2, 1) := by decide +kernel
theorem dX5_settle_75 : decode cX5_settle 75 = .ok (.aload_n 0, 1) := by decide +kernel
theorem dX5_settle_76 : decode cX5_settle 76 = .ok (.getfield 47, 3) := by decide +kernel
theorem dX5_settle_79 : decode cX5_settle 79 = .ok (.iconst 3, 1) := by decide +kernel
theorem dX5_settle_80 : decode cX5_settle 80 = .ok (.iload_n 1, 1) := by decide +kernel
theorem dX5_settle_81 : decode cX5_settle 81 = .ok (.imul, 1) := by decide +kernel
theorem dX5_settle_82 : decode cX5_settle 82 = .ok (.iload_n 2, 1) := by decide +kernel
theorem dX5_settle_83 : decode cX5_settle 83 = .ok (.iadd, 1) := by decide +kernel
theorem dX5_settle_84 : decode cX5_settle 84 = .ok (.iaload, 1) := by decide +kernel
theorem dX5_settle_85 : decode cX5_settle 85 = .ok (.invokevirtual 121, 3) := by decide +kernel
theorem dX5_settle_88 : decode cX5_settle 88 = .ok (.aload_n 0, 1) := by decide +kernel
theorem dX5_settle_89 : decode cX5_settle 89 = .ok (.iload_n 1, 1) := by decide +kernel
theorem dX5_settle_90 : decode cX5_settle 90 = .ok (.invokevirtual 114, 3) := by decide +kernel
theorem dX5_settle_93 : decode cX5_settle 93 = .ok (.ireturn, 1) := by decide +kernel
theorem dX5_moves_0 : decode cX5_moves 0 = .ok (.aload_n 0, 1) := by decide +kernel
theorem dX5_moves_1 : decode cX5_moves 1 = .ok (.getfield 7, 3) := by decide +kernel
theorem dX5_moves_4 : decode cX5_moves 4 = .ok (.iload_n 1, 1) := by decide +kernel
theorem dX5_moves_5 : decode cX5_moves 5 = .ok (.dup2, 1) := by decide +kernel
theorem dX5_moves_6 : decode cX5_moves 6 = .ok (.iaload, 1) := by decide +kernel
theorem dX5_moves_7 : decode cX5_moves 7 = .ok (.iload_n 3, 1) := by decide +kernel
theorem dX5_moves_8 : decode cX5_moves 8 = .ok (.isub, 1) := by decide +kernel
theorem dX5_moves_9 : decode cX5_moves 9 = .ok (.iastore, 1) := by decide +kernel
theorem dX5_moves_10 : decode cX5_moves 10 = .ok (.aload_n 0, 1) := by decide +kernel
theorem dX5_moves_11 : decode cX5_moves 11 = .ok (.getfield 7, 3) := by decide +kernel
theorem dX5_moves_14 : decode cX5_moves 14 = .ok (.iload_n 2, 1) := by decide +kernel
theorem dX5_moves_15 : decode cX5_moves 15 = .ok (.dup2, 1) := by decide +kernel
theorem dX5_moves_16 : decode cX5_moves 16 = .ok (.iaload, 1) := by decide +kernel
theorem dX5_moves_17 : decode cX5_moves 17 = .ok (.iload_n 3, 1) := by decide +kernel
theorem dX5_moves_18 : decode cX5_moves 18 = .ok (.iadd, 1) := by decide +kernel
theorem dX5_moves_19 : decode cX5_moves 19 = .ok (.iastore, 1) := by decide +kernel
theorem dX5_moves_20 : decode cX5_moves 20 = .ok (.return_, 1) := by decide +kernel
theorem dX5_sell_0 : decode cX5_sell 0 = .ok (.aload_n 0, 1) := by decide +kernel
theorem dX5_sell_1 : decode cX5_sell 1 = .ok (.aload_n 0, 1) := by decide +kernel
theorem dX5_sell_2 : decode cX5_sell 2 = .ok (.iload_n 1, 1) := by decide +kernel
theorem dX5_sell_3 : decode cX5_sell 3 = .ok (.invokevirtual 82, 3) := by decide +kernel
theorem dX5_sell_6 : decode cX5_sell 6 = .ok (.ifCond .eq 10, 3) := by decide +kernel
theorem dX5_sell_9 : decode cX5_sell 9 = .ok (.iload_n 2, 1) := by decide +kernel
theorem dX5_sell_10 : decode cX5_sell 10 = .ok (.invokestatic 86, 3) := by decide +kernel
theorem dX5_sell_13 : decode cX5_sell 13 = .ok (.ifCond .ne 7, 3) := by decide +kernel
theorem dX5_sell_16 : decode cX5_sell 16 = .ok (.iconst 1, 1) := by decide +kernel
theorem dX5_sell_17 : decode cX5_sell 17 = .ok (.goto 65, 3) := by decide +kernel
theorem dX5_sell_20 : decode cX5_sell 20 = .ok (.iload_n 3, 1) := by decide +kernel
theorem dX5_sell_21 : decode cX5_sell 21 = .ok (.iconst 1, 1) := by decide +kernel
theorem dX5_sell_22 : decode cX5_sell 22 = .ok (.bipush 100, 2) := by decide +kernel
theorem dX5_sell_24 : decode cX5_sell 24 = .ok (.invokestatic 75, 3) := by decide +kernel
theorem dX5_sell_27 : decode cX5_sell 27 = .ok (.ifCond .eq 23, 3) := by decide +kernel
theorem dX5_sell_30 : decode cX5_sell 30 = .ok (.iload_n 2, 1) := by decide +kernel
theorem dX5_sell_31 : decode cX5_sell 31 = .ok (.aload_n 0, 1) := by decide +kernel
theorem dX5_sell_32 : decode cX5_sell 32 = .ok (.getfield 13, 3) := by decide +kernel
theorem dX5_sell_35 : decode cX5_sell 35 = .ok (.iload_n 1, 1) := by decide +kernel
theorem dX5_sell_36 : decode cX5_sell 36 = .ok (.iaload, 1) := by decide +kernel
theorem dX5_sell_37 : decode cX5_sell 37 = .ok (.if_icmp .eq 13, 3) := by decide +kernel
theorem dX5_sell_40 : decode cX5_sell 40 = .ok (.iload_n 2, 1) := by decide +kernel
theorem dX5_sell_41 : decode cX5_sell 41 = .ok (.aload_n 0, 1) := by decide +kernel
theorem dX5_sell_42 : decode cX5_sell 42 = .ok (.getfield 16, 3) := by decide +kernel
theorem dX5_sell_45 : decode cX5_sell 45 = .ok (.iload_n 1, 1) := by decide +kernel
theorem dX5_sell_46 : decode cX5_sell 46 = .ok (.iaload, 1) := by decide +kernel
theorem dX5_sell_47 : decode cX5_sell 47 = .ok (.if_icmp .ne 7, 3) := by decide +kernel
theorem dX5_sell_50 : decode cX5_sell 50 = .ok (.iconst 2, 1) := by decide +kernel
theorem dX5_sell_51 : decode cX5_sell 51 = .ok (.goto 31, 3) := by decide +kernel
theorem dX5_sell_54 : decode cX5_sell 54 = .ok (.aload_n 0, 1) := by decide +kernel
theorem dX5_sell_55 : decode cX5_sell 55 = .ok (.iload_n 1, 1) := by decide +kernel
theorem dX5_sell_56 : decode cX5_sell 56 = .ok (.invokevirtual 114, 3) := by decide +kernel
theorem dX5_sell_59 : decode cX5_sell 59 = .ok (.ifCond .eq 18, 3) := by decide +kernel
theorem dX5_sell_62 : decode cX5_sell 62 = .ok (.aload_n 0, 1) := by decide +kernel
theorem dX5_sell_63 : decode cX5_sell 63 = .ok (.getfield 31, 3) := by decide +kernel
theorem dX5_sell_66 : decode cX5_sell 66 = .ok (.iload_n 1, 1) := by decide +kernel
theorem dX5_sell_67 : decode cX5_sell 67 = .ok (.iaload, 1) := by decide +kernel
theorem dX5_sell_68 : decode cX5_sell 68 = .ok (.aload_n 0, 1) := by decide +kernel
theorem dX5_sell_69 : decode cX5_sell 69 = .ok (.getfield 13, 3) := by decide +kernel
theorem dX5_sell_72 : decode cX5_sell 72 = .ok (.iload_n 1, 1) := by decide +kernel
theorem dX5_sell_73 : decode cX5_sell 73 = .ok (.iaload, 1) := by decide +kernel
theorem dX5_sell_74 : decode cX5_sell 74 = .ok (.if_icmp .eq 7, 3) := by decide +kernel
theorem dX5_sell_77 : decode cX5_sell 77 = .ok (.iconst 3, 1) := by decide +kernel
theorem dX5_sell_78 : decode cX5_sell 78 = .ok (.goto 4, 3) := by decide +kernel
theorem dX5_sell_81 : decode cX5_sell 81 = .ok (.iconst 0, 1) := by decide +kernel
theorem dX5_sell_82 : decode cX5_sell 82 = .ok (.putfield 71, 3) := by decide +kernel
theorem dX5_sell_85 : decode cX5_sell 85 = .ok (.aload_n 0, 1) := by decide +kernel
theorem dX5_sell_86 : decode cX5_sell 86 = .ok (.getfield 71, 3) := by decide +kernel
theorem dX5_sell_89 : decode cX5_sell 89 = .ok (.ifCond .le 5, 3) := by decide +kernel
theorem dX5_sell_92 : decode cX5_sell 92 = .ok (.iconst 0, 1) := by decide +kernel
theorem dX5_sell_93 : decode cX5_sell 93 = .ok (.ireturn, 1) := by decide +kernel
theorem dX5_sell_94 : decode cX5_sell 94 = .ok (.aload_n 0, 1) := by decide +kernel
theorem dX5_sell_95 : decode cX5_sell 95 = .ok (.getfield 34, 3) := by decide +kernel
theorem dX5_sell_98 : decode cX5_sell 98 = .ok (.iload_n 1, 1) := by decide +kernel
theorem dX5_sell_99 : decode cX5_sell 99 = .ok (.aload_n 0, 1) := by decide +kernel
theorem dX5_sell_100 : decode cX5_sell 100 = .ok (.iload_n 1, 1) := by decide +kernel
theorem dX5_sell_101 : decode cX5_sell 101 = .ok (.invokevirtual 114, 3) := by decide +kernel
theorem dX5_sell_104 : decode cX5_sell 104 = .ok (.iload_n 3, 1) := by decide +kernel
theorem dX5_sell_105 : decode cX5_sell 105 = .ok (.imul, 1) := by decide +kernel
theorem dX5_sell_106 : decode cX5_sell 106 = .ok (.bipush 100, 2) := by decide +kernel
theorem dX5_sell_108 : decode cX5_sell 108 = .ok (.idiv, 1) := by decide +kernel
theorem dX5_sell_109 : decode cX5_sell 109 = .ok (.iastore, 1) := by decide +kernel
theorem dX5_sell_110 : decode cX5_sell 110 = .ok (.aload_n 0, 1) := by decide +kernel
theorem dX5_sell_111 : decode cX5_sell 111 = .ok (.getfield 37, 3) := by decide +kernel
theorem dX5_sell_114 : decode cX5_sell 114 = .ok (.iload_n 1, 1) := by decide +kernel
theorem dX5_sell_115 : decode cX5_sell 115 = .ok (.iload 4, 2) := by decide +kernel
theorem dX5_sell_117 : decode cX5_sell 117 = .ok (.bastore, 1) := by decide +kernel
theorem dX5_sell_118 : decode cX5_sell 118 = .ok (.aload_n 0, 1) := by decide +kernel
theorem dX5_sell_119 : decode cX5_sell 119 = .ok (.getfield 31, 3) := by decide +kernel
theorem dX5_sell_122 : decode cX5_sell 122 = .ok (.iload_n 1, 1) := by decide +kernel
theorem dX5_sell_123 : decode cX5_sell 123 = .ok (.iload_n 2, 1) := by decide +kernel
theorem dX5_sell_124 : decode cX5_sell 124 = .ok (.iastore, 1) := by decide +kernel
theorem dX5_sell_125 : decode cX5_sell 125 = .ok (.aload_n 0, 1) := by decide +kernel
theorem dX5_sell_126 : decode cX5_sell 126 = .ok (.iload_n 2, 1) := by decide +kernel
theorem dX5_sell_127 : decode cX5_sell 127 = .ok (.aload_n 0, 1) := by decide +kernel
theorem dX5_sell_128 : decode cX5_sell 128 = .ok (.getfield 13, 3) := by decide +kernel
theorem dX5_sell_131 : decode cX5_sell 131 = .ok (.iload_n 1, 1) := by decide +kernel
theorem dX5_sell_132 : decode cX5_sell 132 = .ok (.iaload, 1) := by decide +kernel
theorem dX5_sell_133 : decode cX5_sell 133 = .ok (.aload_n 0, 1) := by decide +kernel
theorem dX5_sell_134 : decode cX5_sell 134 = .ok (.getfield 34, 3) := by decide +kernel
theorem dX5_sell_137 : decode cX5_sell 137 = .ok (.iload_n 1, 1) := by decide +kernel
theorem dX5_sell_138 : decode cX5_sell 138 = .ok (.iaload, 1) := by decide +kernel
theorem dX5_sell_139 : decode cX5_sell 139 = .ok (.invokevirtual 124, 3) := by decide +kernel
theorem dX5_sell_142 : decode cX5_sell 142 = .ok (.aload_n 0, 1) := by decide +kernel
theorem dX5_sell_143 : decode cX5_sell 143 = .ok (.getfield 34, 3) := by decide +kernel
theorem dX5_sell_146 : decode cX5_sell 146 = .ok (.iload_n 1, 1) := by decide +kernel
theorem dX5_sell_147 : decode cX5_sell 147 = .ok (.iaload, 1) := by decide +kernel
theorem dX5_sell_148 : decode cX5_sell 148 = .ok (.ireturn, 1) := by decide +kernel
theorem dX5_giveBack_0 : decode cX5_giveBack 0 = .ok (.aload_n 0, 1) := by decide +kernel
theorem dX5_giveBack_1 : decode cX5_giveBack 1 = .ok (.aload_n 0, 1) := by decide +kernel
theorem dX5_giveBack_2 : decode cX5_giveBack 2 = .ok (.iload_n 1, 1) := by decide +kernel
theorem dX5_giveBack_3 : decode cX5_giveBack 3 = .ok (.invokevirtual 82, 3) := by decide +kernel
theorem dX5_giveBack_6 : decode cX5_giveBack 6 = .ok (.ifCond .ne 7, 3) := by decide +kernel
theorem dX5_giveBack_9 : decode cX5_giveBack 9 = .ok (.iconst 1, 1) := by decide +kernel
theorem dX5_giveBack_10 : decode cX5_giveBack 10 = .ok (.goto 40, 3) := by decide +kernel
theorem dX5_giveBack_13 : decode cX5_giveBack 13 = .ok (.aload_n 0, 1) := by decide +kernel
theorem dX5_giveBack_14 : decode cX5_giveBack 14 = .ok (.getfield 31, 3) := by decide +kernel
theorem dX5_giveBack_17 : decode cX5_giveBack 17 = .ok (.iload_n 1, 1) := by decide +kernel
theorem dX5_giveBack_18 : decode cX5_giveBack 18 = .ok (.iaload, 1) := by decide +kernel
theorem dX5_giveBack_19 : decode cX5_giveBack 19 = .ok (.aload_n 0, 1) := by decide +kernel
theorem dX5_giveBack_20 : decode cX5_giveBack 20 = .ok (.getfield 13, 3) := by decide +kernel
theorem dX5_giveBack_23 : decode cX5_giveBack 23 = .ok (.iload_n 1, 1) := by decide +kernel
theorem dX5_giveBack_24 : decode cX5_giveBack 24 = .ok (.iaload, 1) := by decide +kernel
theorem dX5_giveBack_25 : decode cX5_giveBack 25 = .ok (.if_icmp .eq 20, 3) := by decide +kernel
theorem dX5_giveBack_28 : decode cX5_giveBack 28 = .ok (.aload_n 0, 1) := by decide +kernel
theorem dX5_giveBack_29 : decode cX5_giveBack 29 = .ok (.getfield 37, 3) := by decide +kernel
theorem dX5_giveBack_32 : decode cX5_giveBack 32 = .ok (.iload_n 1, 1) := by decide +kernel
theorem dX5_giveBack_33 : decode cX5_giveBack 33 = .ok (.baload, 1) := by decide +kernel
theorem dX5_giveBack_34 : decode cX5_giveBack 34 = .ok (.ifCond .eq 11, 3) := by decide +kernel
theorem dX5_giveBack_37 : decode cX5_giveBack 37 = .ok (.aload_n 0, 1) := by decide +kernel
theorem dX5_giveBack_38 : decode cX5_giveBack 38 = .ok (.iload_n 1, 1) := by decide +kernel
theorem dX5_giveBack_39 : decode cX5_giveBack 39 = .ok (.invokevirtual 114, 3) := by decide +kernel
theorem dX5_giveBack_42 : decode cX5_giveBack 42 = .ok (.ifCond .ne 7, 3) := by decide +kernel
theorem dX5_giveBack_45 : decode cX5_giveBack 45 = .ok (.iconst 2, 1) := by decide +kernel
theorem dX5_giveBack_46 : decode cX5_giveBack 46 = .ok (.goto 4, 3) := by decide +kernel
theorem dX5_giveBack_49 : decode cX5_giveBack 49 = .ok (.iconst 0, 1) := by decide +kernel
theorem dX5_giveBack_50 : decode cX5_giveBack 50 = .ok (.putfield 71, 3) := by decide +kernel
theorem dX5_giveBack_53 : decode cX5_giveBack 53 = .ok (.aload_n 0, 1) := by decide +kernel
theorem dX5_giveBack_54 : decode cX5_giveBack 54 = .ok (.getfield 71, 3) := by decide +kernel
theorem dX5_giveBack_57 : decode cX5_giveBack 57 = .ok (.ifCond .le 5, 3) := by decide +kernel
theorem dX5_giveBack_60 : decode cX5_giveBack 60 = .ok (.iconst 0, 1) := by decide +kernel
theorem dX5_giveBack_61 : decode cX5_giveBack 61 = .ok (.ireturn, 1) := by decide +kernel
theorem dX5_giveBack_62 : decode cX5_giveBack 62 = .ok (.aload_n 0, 1) := by decide +kernel
theorem dX5_giveBack_63 : decode cX5_giveBack 63 = .ok (.aload_n 0, 1) := by decide +kernel
theorem dX5_giveBack_64 : decode cX5_giveBack 64 = .ok (.getfield 13, 3) := by decide +kernel
theorem dX5_giveBack_67 : decode cX5_giveBack 67 = .ok (.iload_n 1, 1) := by decide +kernel
theorem dX5_giveBack_68 : decode cX5_giveBack 68 = .ok (.iaload, 1) := by decide +kernel
theorem dX5_giveBack_69 : decode cX5_giveBack 69 = .ok (.aload_n 0, 1) := by decide +kernel
theorem dX5_giveBack_70 : decode cX5_giveBack 70 = .ok (.getfield 31, 3) := by decide +kernel
theorem dX5_giveBack_73 : decode cX5_giveBack 73 = .ok (.iload_n 1, 1) := by decide +kernel
theorem dX5_giveBack_74 : decode cX5_giveBack 74 = .ok (.iaload, 1) := by decide +kernel
theorem dX5_giveBack_75 : decode cX5_giveBack 75 = .ok (.aload_n 0, 1) := by decide +kernel
theorem dX5_giveBack_76 : decode cX5_giveBack 76 = .ok (.getfield 34, 3) := by decide +kernel
theorem dX5_giveBack_79 : decode cX5_giveBack 79 = .ok (.iload_n 1, 1) := by decide +kernel
theorem dX5_giveBack_80 : decode cX5_giveBack 80 = .ok (.iaload, 1) := by decide +kernel
theorem dX5_giveBack_81 : decode cX5_giveBack 81 = .ok (.invokevirtual 124, 3) := by decide +kernel
theorem dX5_giveBack_84 : decode cX5_giveBack 84 = .ok (.aload_n 0, 1) := by decide +kernel
theorem dX5_giveBack_85 : decode cX5_giveBack 85 = .ok (.getfield 31, 3) := by decide +kernel
theorem dX5_giveBack_88 : decode cX5_giveBack 88 = .ok (.iload_n 1, 1) := by decide +kernel
theorem dX5_giveBack_89 : decode cX5_giveBack 89 = .ok (.aload_n 0, 1) := by decide +kernel
theorem dX5_giveBack_90 : decode cX5_giveBack 90 = .ok (.getfield 13, 3) := by decide +kernel
theorem dX5_giveBack_93 : decode cX5_giveBack 93 = .ok (.iload_n 1, 1) := by decide +kernel
theorem dX5_giveBack_94 : decode cX5_giveBack 94 = .ok (.iaload, 1) := by decide +kernel
theorem dX5_giveBack_95 : decode cX5_giveBack 95 = .ok (.iastore, 1) := by decide +kernel
theorem dX5_giveBack_96 : decode cX5_giveBack 96 = .ok (.aload_n 0, 1) := by decide +kernel
theorem dX5_giveBack_97 : decode cX5_giveBack 97 = .ok (.getfield 34, 3) := by decide +kernel
theorem dX5_giveBack_100 : decode cX5_giveBack 100 = .ok (.iload_n 1, 1) := by decide +kernel
theorem dX5_giveBack_101 : decode cX5_giveBack 101 = .ok (.iaload, 1) := by decide +kernel
theorem dX5_giveBack_102 : decode cX5_giveBack 102 = .ok (.ireturn, 1) := by decide +kernel
theorem dX5_type_0 : decode cX5_type 0 = .ok (.aload_n 0, 1) := by decide +kernel
theorem dX5_type_1 : decode cX5_type 1 = .ok (.iload_n 1, 1) := by decide +kernel
theorem dX5_type_2 : decode cX5_type 2 = .ok (.bipush 32, 2) := by decide +kernel
theorem dX5_type_4 : decode cX5_type 4 = .ok (.bipush 126, 2) := by decide +kernel
theorem dX5_type_6 : decode cX5_type 6 = .ok (.invokestatic 75, 3) := by decide +kernel
theorem dX5_type_9 : decode cX5_type 9 = .ok (.ifCond .ne 7, 3) := by decide +kernel
theorem dX5_type_12 : decode cX5_type 12 = .ok (.iconst 1, 1) := by decide +kernel
theorem dX5_type_13 : decode cX5_type 13 = .ok (.goto 17, 3) := by decide +kernel
theorem dX5_type_16 : decode cX5_type 16 = .ok (.aload_n 0, 1) := by decide +kernel
theorem dX5_type_17 : decode cX5_type 17 = .ok (.getfield 127, 3) := by decide +kernel
theorem dX5_type_20 : decode cX5_type 20 = .ok (.bipush 10, 2) := by decide +kernel
theorem dX5_type_22 : decode cX5_type 22 = .ok (.if_icmp .ne 7, 3) := by decide +kernel
theorem dX5_type_25 : decode cX5_type 25 = .ok (.iconst 2, 1) := by decide +kernel
theorem dX5_type_26 : decode cX5_type 26 = .ok (.goto 4, 3) := by decide +kernel
theorem dX5_type_29 : decode cX5_type 29 = .ok (.iconst 0, 1) := by decide +kernel
theorem dX5_type_30 : decode cX5_type 30 = .ok (.putfield 71, 3) := by decide +kernel
theorem dX5_type_33 : decode cX5_type 33 = .ok (.aload_n 0, 1) := by decide +kernel
theorem dX5_type_34 : decode cX5_type 34 = .ok (.getfield 71, 3) := by decide +kernel
theorem dX5_type_37 : decode cX5_type 37 = .ok (.ifCond .le 5, 3) := by decide +kernel
theorem dX5_type_40 : decode cX5_type 40 = .ok (.iconst 0, 1) := by decide +kernel
theorem dX5_type_41 : decode cX5_type 41 = .ok (.ireturn, 1) := by decide +kernel
theorem dX5_type_42 : decode cX5_type 42 = .ok (.aload_n 0, 1) := by decide +kernel
theorem dX5_type_43 : decode cX5_type 43 = .ok (.getfield 68, 3) := by decide +kernel
theorem dX5_type_46 : decode cX5_type 46 = .ok (.aload_n 0, 1) := by decide +kernel
theorem dX5_type_47 : decode cX5_type 47 = .ok (.getfield 127, 3) := by decide +kernel
theorem dX5_type_50 : decode cX5_type 50 = .ok (.iload_n 1, 1) := by decide +kernel
theorem dX5_type_51 : decode cX5_type 51 = .ok (.iastore, 1) := by decide +kernel
theorem dX5_type_52 : decode cX5_type 52 = .ok (.aload_n 0, 1) := by decide +kernel
theorem dX5_type_53 : decode cX5_type 53 = .ok (.dup, 1) := by decide +kernel
theorem dX5_type_54 : decode cX5_type 54 = .ok (.getfield 127, 3) := by decide +kernel
theorem dX5_type_57 : decode cX5_type 57 = .ok (.iconst 1, 1) := by decide +kernel
theorem dX5_type_58 : decode cX5_type 58 = .ok (.iadd, 1) := by decide +kernel
theorem dX5_type_59 : decode cX5_type 59 = .ok (.putfield 127, 3) := by decide +kernel
theorem dX5_type_62 : decode cX5_type 62 = .ok (.aload_n 0, 1) := by decide +kernel
theorem dX5_type_63 : decode cX5_type 63 = .ok (.getfield 127, 3) := by decide +kernel
theorem dX5_type_66 : decode cX5_type 66 = .ok (.ireturn, 1) := by decide +kernel
theorem dX5_clear_0 : decode cX5_clear 0 = .ok (.aload_n 0, 1) := by decide +kernel
theorem dX5_clear_1 : decode cX5_clear 1 = .ok (.iconst 0, 1) := by decide +kernel
theorem dX5_clear_2 : decode cX5_clear 2 = .ok (.putfield 71, 3) := by decide +kernel
theorem dX5_clear_5 : decode cX5_clear 5 = .ok (.aload_n 0, 1) := by decide +kernel
theorem dX5_clear_6 : decode cX5_clear 6 = .ok (.getfield 127, 3) := by decide +kernel
theorem dX5_clear_9 : decode cX5_clear 9 = .ok (.istore_n 1, 1) := by decide +kernel
theorem dX5_clear_10 : decode cX5_clear 10 = .ok (.aload_n 0, 1) := by decide +kernel
theorem dX5_clear_11 : decode cX5_clear 11 = .ok (.iconst 0, 1) := by decide +kernel
theorem dX5_clear_12 : decode cX5_clear 12 = .ok (.putfield 127, 3) := by decide +kernel
theorem dX5_clear_15 : decode cX5_clear 15 = .ok (.iload_n 1, 1) := by decide +kernel
theorem dX5_clear_16 : decode cX5_clear 16 = .ok (.ireturn, 1) := by decide +kernel
theorem dX5_faultOf_0 : decode cX5_faultOf 0 = .ok (.iconst 0, 1) := by decide +kernel
theorem dX5_faultOf_1 : decode cX5_faultOf 1 = .ok (.istore_n 1, 1) := by decide +kernel
theorem dX5_faultOf_2 : decode cX5_faultOf 2 = .ok (.iload_n 1, 1) := by decide +kernel
theorem dX5_faultOf_3 : decode cX5_faultOf 3 = .ok (.aload_n 0, 1) := by decide +kernel
theorem dX5_faultOf_4 : decode cX5_faultOf 4 = .ok (.getfield 127, 3) := by decide +kernel
theorem dX5_faultOf_7 : decode cX5_faultOf 7 = .ok (.if_icmp .ge 65, 3) := by decide +kernel
theorem dX5_faultOf_10 : decode cX5_faultOf 10 = .ok (.iload_n 1, 1) := by decide +kernel
theorem dX5_faultOf_11 : decode cX5_faultOf 11 = .ok (.ifCond .ne 22, 3) := by decide +kernel
theorem dX5_faultOf_14 : decode cX5_faultOf 14 = .ok (.aload_n 0, 1) := by decide +kernel
theorem dX5_faultOf_15 : decode cX5_faultOf 15 = .ok (.getfield 68, 3) := by decide +kernel
theorem dX5_faultOf_18 : decode cX5_faultOf 18 = .ok (.iconst 0, 1) := by decide +kernel
theorem dX5_faultOf_19 : decode cX5_faultOf 19 = .ok (.iaload, 1) := by decide +kernel
theorem dX5_faultOf_20 : decode cX5_faultOf 20 = .ok (.bipush 82, 2) := by decide +kernel
theorem dX5_faultOf_22 : decode cX5_faultOf 22 = .ok (.if_icmp .ne 7, 3) := by decide +kernel
theorem dX5_faultOf_25 : decode cX5_faultOf 25 = .ok (.iconst 1, 1) := by decide +kernel
theorem dX5_faultOf_26 : decode cX5_faultOf 26 = .ok (.goto 33, 3) := by decide +kernel
theorem dX5_faultOf_29 : decode cX5_faultOf 29 = .ok (.iconst 0, 1) := by decide +kernel
theorem dX5_faultOf_30 : decode cX5_faultOf 30 = .ok (.goto 29, 3) := by decide +kernel
theorem dX5_faultOf_33 : decode cX5_faultOf 33 = .ok (.iload_n 1, 1) := by decide +kernel
theorem dX5_faultOf_34 : decode cX5_faultOf 34 = .ok (.iconst 3, 1) := by decide +kernel
theorem dX5_faultOf_35 : decode cX5_faultOf 35 = .ok (.if_icmp .ge 23, 3) := by decide +kernel
theorem dX5_faultOf_38 : decode cX5_faultOf 38 = .ok (.aload_n 0, 1) := by decide +kernel
theorem dX5_faultOf_39 : decode cX5_faultOf 39 = .ok (.getfield 68, 3) := by decide +kernel
theorem dX5_faultOf_42 : decode cX5_faultOf 42 = .ok (.iload_n 1, 1) := by decide +kernel
theorem dX5_faultOf_43 : decode cX5_faultOf 43 = .ok (.iaload, 1) := by decide +kernel
theorem dX5_faultOf_44 : decode cX5_faultOf 44 = .ok (.bipush 48, 2) := by decide +kernel
theorem dX5_faultOf_46 : decode cX5_faultOf 46 = .ok (.bipush 57, 2) := by decide +kernel
theorem dX5_faultOf_48 : decode cX5_faultOf 48 = .ok (.invokestatic 75, 3) := by decide +kernel
theorem dX5_faultOf_51 : decode cX5_faultOf 51 = .ok (.ifCond .eq 7, 3) := by decide +kernel
theorem dX5_faultOf_54 : decode cX5_faultOf 54 = .ok (.iconst 1, 1) := by decide +kernel
theorem dX5_faultOf_55 : decode cX5_faultOf 55 = .ok (.goto 4, 3) := by decide +kernel
theorem dX5_faultOf_58 : decode cX5_faultOf 58 = .ok (.iconst 0, 1) := by decide +kernel
theorem dX5_faultOf_59 : decode cX5_faultOf 59 = .ok (.istore_n 2, 1) := by decide +kernel
theorem dX5_faultOf_60 : decode cX5_faultOf 60 = .ok (.iload_n 2, 1) := by decide +kernel
theorem dX5_faultOf_61 : decode cX5_faultOf 61 = .ok (.ifCond .ne 5, 3) := by decide +kernel
theorem dX5_faultOf_64 : decode cX5_faultOf 64 = .ok (.iload_n 1, 1) := by decide +kernel
theorem dX5_faultOf_65 : decode cX5_faultOf 65 = .ok (.ireturn, 1) := by decide +kernel
theorem dX5_faultOf_66 : decode cX5_faultOf 66 = .ok (.iinc 1 1, 3) := by decide +kernel
theorem dX5_faultOf_69 : decode cX5_faultOf 69 = .ok (.goto (-67), 3) := by decide +kernel
theorem dX5_faultOf_72 : decode cX5_faultOf 72 = .ok (.aload_n 0, 1) := by decide +kernel
theorem dX5_faultOf_73 : decode cX5_faultOf 73 = .ok (.getfield 127, 3) := by decide +kernel
theorem dX5_faultOf_76 : decode cX5_faultOf 76 = .ok (.iconst 2, 1) := by decide +kernel
theorem dX5_faultOf_77 : decode cX5_faultOf 77 = .ok (.if_icmp .ge 10, 3) := by decide +kernel
theorem dX5_faultOf_80 : decode cX5_faultOf 80 = .ok (.aload_n 0, 1) := by decide +kernel
theorem dX5_faultOf_81 : decode cX5_faultOf 81 = .ok (.getfield 127, 3) := by decide +kernel
theorem dX5_faultOf_84 : decode cX5_faultOf 84 = .ok (.goto 4, 3) := by decide +kernel
theorem dX5_faultOf_87 : decode cX5_faultOf 87 = .ok (.iconst (-1), 1) := by decide +kernel
theorem dX5_faultOf_88 : decode cX5_faultOf 88 = .ok (.ireturn, 1) := by decide +kernel
theorem dX5_fault_0 : decode cX5_fault 0 = .ok (.aload_n 0, 1) := by decide +kernel
theorem dX5_fault_1 : decode cX5_fault 1 = .ok (.iconst 0, 1) := by decide +kernel
theorem dX5_fault_2 : decode cX5_fault 2 = .ok (.putfield 71, 3) := by decide +kernel
theorem dX5_fault_5 : decode cX5_fault 5 = .ok (.aload_n 0, 1) := by decide +kernel
theorem dX5_fault_6 : decode cX5_fault 6 = .ok (.invokevirtual 130, 3) := by decide +kernel
theorem dX5_fault_9 : decode cX5_fault 9 = .ok (.ireturn, 1) := by decide +kernel
theorem dX5_pays_0 : decode cX5_pays 0 = .ok (.iload_n 0, 1) := by decide +kernel
theorem dX5_pays_1 : decode cX5_pays 1 = .ok (.invokestatic 86, 3) := by decide +kernel
theorem dX5_pays_4 : decode cX5_pays 4 = .ok (.ifCond .eq 10, 3) := by decide +kernel
theorem dX5_pays_7 : decode cX5_pays 7 = .ok (.iload_n 1, 1) := by decide +kernel
theorem dX5_pays_8 : decode cX5_pays 8 = .ok (.invokestatic 86, 3) := by decide +kernel
theorem dX5_pays_11 : decode cX5_pays 11 = .ok (.ifCond .ne 7, 3) := by decide +kernel
theorem dX5_pays_14 : decode cX5_pays 14 = .ok (.iconst 1, 1) := by decide +kernel
theorem dX5_pays_15 : decode cX5_pays 15 = .ok (.goto 23, 3) := by decide +kernel
theorem dX5_pays_18 : decode cX5_pays 18 = .ok (.iload_n 2, 1) := by decide +kernel
theorem dX5_pays_19 : decode cX5_pays 19 = .ok (.iconst 1, 1) := by decide +kernel
theorem dX5_pays_20 : decode cX5_pays 20 = .ok (.ldc 134, 2) := by decide +kernel
theorem dX5_pays_22 : decode cX5_pays 22 = .ok (.invokestatic 75, 3) := by decide +kernel
theorem dX5_pays_25 : decode cX5_pays 25 = .ok (.ifCond .eq 8, 3) := by decide +kernel
theorem dX5_pays_28 : decode cX5_pays 28 = .ok (.iload_n 0, 1) := by decide +kernel
theorem dX5_pays_29 : decode cX5_pays 29 = .ok (.iload_n 1, 1) := by decide +kernel
theorem dX5_pays_30 : decode cX5_pays 30 = .ok (.if_icmp .ne 7, 3) := by decide +kernel
theorem dX5_pays_33 : decode cX5_pays 33 = .ok (.iconst 2, 1) := by decide +kernel
theorem dX5_pays_34 : decode cX5_pays 34 = .ok (.goto 4, 3) := by decide +kernel
theorem dX5_pays_37 : decode cX5_pays 37 = .ok (.iconst 0, 1) := by decide +kernel
theorem dX5_pays_38 : decode cX5_pays 38 = .ok (.ireturn, 1) := by decide +kernel
theorem dX5_payByText_0 : decode cX5_payByText 0 = .ok (.aload_n 0, 1) := by decide +kernel
theorem dX5_payByText_1 : decode cX5_payByText 1 = .ok (.iload_n 1, 1) := by decide +kernel
theorem dX5_payByText_2 : decode cX5_payByText 2 = .ok (.iload_n 2, 1) := by decide +kernel
theorem dX5_payByText_3 : decode cX5_payByText 3 = .ok (.iload_n 3, 1) := by decide +kernel
theorem dX5_payByText_4 : decode cX5_payByText 4 = .ok (.invokestatic 135, 3) := by decide +kernel
theorem dX5_payByText_7 : decode cX5_payByText 7 = .ok (.putfield 71, 3) := by decide +kernel
theorem dX5_payByText_10 : decode cX5_payByText 10 = .ok (.aload_n 0, 1) := by decide +kernel
theorem dX5_payByText_11 : decode cX5_payByText 11 = .ok (.getfield 71, 3) := by decide +kernel
theorem dX5_payByText_14 : decode cX5_payByText 14 = .ok (.ifCond .le 5, 3) := by decide +kernel
theorem dX5_payByText_17 : decode cX5_payByText 17 = .ok (.iconst 0, 1) := by decide +kernel
theorem dX5_payByText_18 : decode cX5_payByText 18 = .ok (.ireturn, 1) := by decide +kernel
theorem dX5_payByText_19 : decode cX5_payByText 19 = .ok (.aload_n 0, 1) := by decide +kernel
theorem dX5_payByText_20 : decode cX5_payByText 20 = .ok (.invokevirtual 130, 3) := by decide +kernel
theorem dX5_payByText_23 : decode cX5_payByText 23 = .ok (.iconst (-1), 1) := by decide +kernel
theorem dX5_payByText_24 : decode cX5_payByText 24 = .ok (.if_icmp .eq 7, 3) := by decide +kernel
theorem dX5_payByText_27 : decode cX5_payByText 27 = .ok (.iconst (-1), 1) := by decide +kernel
theorem dX5_payByText_28 : decode cX5_payByText 28 = .ok (.goto 45, 3) := by decide +kernel
theorem dX5_payByText_31 : decode cX5_payByText 31 = .ok (.aload_n 0, 1) := by decide +kernel
theorem dX5_payByText_32 : decode cX5_payByText 32 = .ok (.getfield 127, 3) := by decide +kernel
theorem dX5_payByText_35 : decode cX5_payByText 35 = .ok (.iconst 2, 1) := by decide +kernel
theorem dX5_payByText_36 : decode cX5_payByText 36 = .ok (.if_icmp .ne 15, 3) := by decide +kernel
theorem dX5_payByText_39 : decode cX5_payByText 39 = .ok (.aload_n 0, 1) := by decide +kernel
theorem dX5_payByText_40 : decode cX5_payByText 40 = .ok (.getfield 68, 3) := by decide +kernel
theorem dX5_payByText_43 : decode cX5_payByText 43 = .ok (.iconst 1, 1) := by decide +kernel
theorem dX5_payByText_44 : decode cX5_payByText 44 = .ok (.iaload, 1) := by decide +kernel
theorem dX5_payByText_45 : decode cX5_payByText 45 = .ok (.bipush 48, 2) := by decide +kernel
theorem dX5_payByText_47 : decode cX5_payByText 47 = .ok (.isub, 1) := by decide +kernel
theorem dX5_payByText_48 : decode cX5_payByText 48 = .ok (.goto 25, 3) := by decide +kernel
theorem dX5_payByText_51 : decode cX5_payByText 51 = .ok (.bipush 10, 2) := by decide +kernel
theorem dX5_payByText_53 : decode cX5_payByText 53 = .ok (.aload_n 0, 1) := by decide +kernel
theorem dX5_payByText_54 : decode cX5_payByText 54 = .ok (.getfield 68, 3) := by decide +kernel
theorem dX5_payByText_57 : decode cX5_payByText 57 = .ok (.iconst 1, 1) := by decide +kernel
theorem dX5_payByText_58 : decode cX5_payByText 58 = .ok (.iaload, 1) := by decide +kernel
theorem dX5_payByText_59 : decode cX5_payByText 59 = .ok (.bipush 48, 2) := by decide +kernel
theorem dX5_payByText_61 : decode cX5_payByText 61 = .ok (.isub, 1) := by decide +kernel
theorem dX5_payByText_62 : decode cX5_payByText 62 = .ok (.imul, 1) := by decide +kernel
theorem dX5_payByText_63 : decode cX5_payByText 63 = .ok (.aload_n 0, 1) := by decide +kernel
theorem dX5_payByText_64 : decode cX5_payByText 64 = .ok (.getfield 68, 3) := by decide +kernel
theorem dX5_payByText_67 : decode cX5_payByText 67 = .ok (.iconst 2, 1) := by decide +kernel
theorem dX5_payByText_68 : decode cX5_payByText 68 = .ok (.iaload, 1) := by decide +kernel
theorem dX5_payByText_69 : decode cX5_payByText 69 = .ok (.iadd, 1) := by decide +kernel
theorem dX5_payByText_70 : decode cX5_payByText 70 = .ok (.bipush 48, 2) := by decide +kernel
theorem dX5_payByText_72 : decode cX5_payByText 72 = .ok (.isub, 1) := by decide +kernel
theorem dX5_payByText_73 : decode cX5_payByText 73 = .ok (.istore 4, 2) := by decide +kernel
theorem dX5_payByText_75 : decode cX5_payByText 75 = .ok (.aload_n 0, 1) := by decide +kernel
theorem dX5_payByText_76 : decode cX5_payByText 76 = .ok (.iload 4, 2) := by decide +kernel
theorem dX5_payByText_78 : decode cX5_payByText 78 = .ok (.invokevirtual 82, 3) := by decide +kernel
theorem dX5_payByText_81 : decode cX5_payByText 81 = .ok (.ifCond .eq 39, 3) := by decide +kernel
theorem dX5_payByText_84 : decode cX5_payByText 84 = .ok (.aload_n 0, 1) := by decide +kernel
theorem dX5_payByText_85 : decode cX5_payByText 85 = .ok (.getfield 16, 3) := by decide +kernel
theorem dX5_payByText_88 : decode cX5_payByText 88 = .ok (.iload 4, 2) := by decide +kernel
theorem dX5_payByText_90 : decode cX5_payByText 90 = .ok (.iaload, 1) := by decide +kernel
theorem dX5_payByText_91 : decode cX5_payByText 91 = .ok (.iload_n 1, 1) := by decide +kernel
theorem dX5_payByText_92 : decode cX5_payByText 92 = .ok (.if_icmp .ne 28, 3) := by decide +kernel
theorem dX5_payByText_95 : decode cX5_payByText 95 = .ok (.aload_n 0, 1) := by decide +kernel
theorem dX5_payByText_96 : decode cX5_payByText 96 = .ok (.getfield 31, 3) := by decide +kernel
theorem dX5_payByText_99 : decode cX5_payByText 99 = .ok (.iload 4, 2) := by decide +kernel
theorem dX5_payByText_101 : decode cX5_payByText 101 = .ok (.iaload, 1) := by decide +kernel
theorem dX5_payByText_102 : decode cX5_payByText 102 = .ok (.iload_n 2, 1) := by decide +kernel
theorem dX5_payByText_103 : decode cX5_payByText 103 = .ok (.if_icmp .ne 17, 3) := by decide +kernel
theorem dX5_payByText_106 : decode cX5_payByText 106 = .ok (.iload_n 3, 1) := by decide +kernel
theorem dX5_payByText_107 : decode cX5_payByText 107 = .ok (.aload_n 0, 1) := by decide +kernel
theorem dX5_payByText_108 : decode cX5_payByText 108 = .ok (.iload 4, 2) := by decide +kernel
theorem dX5_payByText_110 : decode cX5_payByText 110 = .ok (.invokevirtual 114, 3) := by decide +kernel
theorem dX5_payByText_113 : decode cX5_payByText 113 = .ok (.if_icmp .gt 7, 3) := by decide +kernel
theorem dX5_payByText_116 : decode cX5_payByText 116 = .ok (.iconst 1, 1) := by decide +kernel
theorem dX5_payByText_117 : decode cX5_payByText 117 = .ok (.goto 4, 3) := by decide +kernel
theorem dX5_payByText_120 : decode cX5_payByText 120 = .ok (.iconst 0, 1) := by decide +kernel
theorem dX5_payByText_121 : decode cX5_payByText 121 = .ok (.istore 5, 2) := by decide +kernel
theorem dX5_payByText_123 : decode cX5_payByText 123 = .ok (.aload_n 0, 1) := by decide +kernel
theorem dX5_payByText_124 : decode cX5_payByText 124 = .ok (.iload 5, 2) := by decide +kernel
theorem dX5_payByText_126 : decode cX5_payByText 126 = .ok (.ifCond .eq 7, 3) := by decide +kernel
theorem dX5_payByText_129 : decode cX5_payByText 129 = .ok (.iconst 0, 1) := by decide +kernel
theorem dX5_payByText_130 : decode cX5_payByText 130 = .ok (.goto 4, 3) := by decide +kernel
theorem dX5_payByText_133 : decode cX5_payByText 133 = .ok (.iconst 3, 1) := by decide +kernel
theorem dX5_payByText_134 : decode cX5_payByText 134 = .ok (.putfield 71, 3) := by decide +kernel
theorem dX5_payByText_137 : decode cX5_payByText 137 = .ok (.aload_n 0, 1) := by decide +kernel
theorem dX5_payByText_138 : decode cX5_payByText 138 = .ok (.getfield 71, 3) := by decide +kernel
theorem dX5_payByText_141 : decode cX5_payByText 141 = .ok (.ifCond .le 5, 3) := by decide +kernel
theorem dX5_payByText_144 : decode cX5_payByText 144 = .ok (.iconst 0, 1) := by decide +kernel
theorem dX5_payByText_145 : decode cX5_payByText 145 = .ok (.ireturn, 1) := by decide +kernel
theorem dX5_payByText_146 : decode cX5_payByText 146 = .ok (.aload_n 0, 1) := by decide +kernel
theorem dX5_payByText_147 : decode cX5_payByText 147 = .ok (.getfield 41, 3) := by decide +kernel
theorem dX5_payByText_150 : decode cX5_payByText 150 = .ok (.iload 4, 2) := by decide +kernel
theorem dX5_payByText_152 : decode cX5_payByText 152 = .ok (.dup2, 1) := by decide +kernel
theorem dX5_payByText_153 : decode cX5_payByText 153 = .ok (.iaload, 1) := by decide +kernel
theorem dX5_payByText_154 : decode cX5_payByText 154 = .ok (.iload_n 3, 1) := by decide +kernel
theorem dX5_payByText_155 : decode cX5_payByText 155 = .ok (.iadd, 1) := by decide +kernel
theorem dX5_payByText_156 : decode cX5_payByText 156 = .ok (.iastore, 1) := by decide +kernel
theorem dX5_payByText_157 : decode cX5_payByText 157 = .ok (.aload_n 0, 1) := by decide +kernel
theorem dX5_payByText_158 : decode cX5_payByText 158 = .ok (.iload_n 1, 1) := by decide +kernel
theorem dX5_payByText_159 : decode cX5_payByText 159 = .ok (.iload_n 2, 1) := by decide +kernel
theorem dX5_payByText_160 : decode cX5_payByText 160 = .ok (.iload_n 3, 1) := by decide +kernel
theorem dX5_payByText_161 : decode cX5_payByText 161 = .ok (.invokevirtual 124, 3) := by decide +kernel
theorem dX5_payByText_164 : decode cX5_payByText 164 = .ok (.aload_n 0, 1) := by decide +kernel
theorem dX5_payByText_165 : decode cX5_payByText 165 = .ok (.iconst 0, 1) := by decide +kernel
theorem dX5_payByText_166 : decode cX5_payByText 166 = .ok (.putfield 127, 3) := by decide +kernel
theorem dX5_payByText_169 : decode cX5_payByText 169 = .ok (.iload 4, 2) := by decide +kernel
theorem dX5_payByText_171 : decode cX5_payByText 171 = .ok (.ireturn, 1) := by decide +kernel
theorem dX5_payBySum_0 : decode cX5_payBySum 0 = .ok (.aload_n 0, 1) := by decide +kernel
theorem dX5_payBySum_1 : decode cX5_payBySum 1 = .ok (.iload_n 1, 1) := by decide +kernel
theorem dX5_payBySum_2 : decode cX5_payBySum 2 = .ok (.iload_n 2, 1) := by decide +kernel
theorem dX5_payBySum_3 : decode cX5_payBySum 3 = .ok (.iload_n 3, 1) := by decide +kernel
theorem dX5_payBySum_4 : decode cX5_payBySum 4 = .ok (.invokestatic 135, 3) := by decide +kernel
theorem dX5_payBySum_7 : decode cX5_payBySum 7 = .ok (.putfield 71, 3) := by decide +kernel
theorem dX5_payBySum_10 : decode cX5_payBySum 10 = .ok (.aload_n 0, 1) := by decide +kernel
theorem dX5_payBySum_11 : decode cX5_payBySum 11 = .ok (.getfield 71, 3) := by decide +kernel
theorem dX5_payBySum_14 : decode cX5_payBySum 14 = .ok (.ifCond .le 5, 3) := by decide +kernel
theorem dX5_payBySum_17 : decode cX5_payBySum 17 = .ok (.iconst 0, 1) := by decide +kernel
theorem dX5_payBySum_18 : decode cX5_payBySum 18 = .ok (.ireturn, 1) := by decide +kernel
theorem dX5_payBySum_19 : decode cX5_payBySum 19 = .ok (.iconst (-1), 1) := by decide +kernel
theorem dX5_payBySum_20 : decode cX5_payBySum 20 = .ok (.istore 4, 2) := by decide +kernel
theorem dX5_payBySum_22 : decode cX5_payBySum 22 = .ok (.aload_n 0, 1) := by decide +kernel
theorem dX5_payBySum_23 : decode cX5_payBySum 23 = .ok (.getfield 79, 3) := by decide +kernel
theorem dX5_payBySum_26 : decode cX5_payBySum 26 = .ok (.iconst 1, 1) := by decide +kernel
theorem dX5_payBySum_27 : decode cX5_payBySum 27 = .ok (.isub, 1) := by decide +kernel
theorem dX5_payBySum_28 : decode cX5_payBySum 28 = .ok (.istore 5, 2) := by decide +kernel
theorem dX5_payBySum_30 : decode cX5_payBySum 30 = .ok (.iload 5, 2) := by decide +kernel
theorem dX5_payBySum_32 : decode cX5_payBySum 32 = .ok (.ifCond .lt 50, 3) := by decide +kernel
theorem dX5_payBySum_35 : decode cX5_payBySum 35 = .ok (.aload_n 0, 1) := by decide +kernel
theorem dX5_payBySum_36 : decode cX5_payBySum 36 = .ok (.getfield 16, 3) := by decide +kernel
theorem dX5_payBySum_39 : decode cX5_payBySum 39 = .ok (.iload 5, 2) := by decide +kernel
theorem dX5_payBySum_41 : decode cX5_payBySum 41 = .ok (.iaload, 1) := by decide +kernel
theorem dX5_payBySum_42 : decode cX5_payBySum 42 = .ok (.iload_n 1, 1) := by decide +kernel
theorem dX5_payBySum_43 : decode cX5_payBySum 43 = .ok (.if_icmp .ne 29, 3) := by decide +kernel
theorem dX5_payBySum_46 : decode cX5_payBySum 46 = .ok (.aload_n 0, 1) := by decide +kernel
theorem dX5_payBySum_47 : decode cX5_payBySum 47 = .ok (.getfield 31, 3) := by decide +kernel
theorem dX5_payBySum_50 : decode cX5_payBySum 50 = .ok (.iload 5, 2) := by decide +kernel
theorem dX5_payBySum_52 : decode cX5_payBySum 52 = .ok (.iaload, 1) := by decide +kernel
theorem dX5_payBySum_53 : decode cX5_payBySum 53 = .ok (.iload_n 2, 1) := by decide +kernel
theorem dX5_payBySum_54 : decode cX5_payBySum 54 = .ok (.if_icmp .ne 18, 3) := by decide +kernel
theorem dX5_payBySum_57 : decode cX5_payBySum 57 = .ok (.aload_n 0, 1) := by decide +kernel
theorem dX5_payBySum_58 : decode cX5_payBySum 58 = .ok (.iload 5, 2) := by decide +kernel
theorem dX5_payBySum_60 : decode cX5_payBySum 60 = .ok (.invokevirtual 114, 3) := by decide +kernel
theorem dX5_payBySum_63 : decode cX5_payBySum 63 = .ok (.iload_n 3, 1) := by decide +kernel
theorem dX5_payBySum_64 : decode cX5_payBySum 64 = .ok (.if_icmp .ne 8, 3) := by decide +kernel
theorem dX5_payBySum_67 : decode cX5_payBySum 67 = .ok (.iload 5, 2) := by decide +kernel
theorem dX5_payBySum_69 : decode cX5_payBySum 69 = .ok (.goto 5, 3) := by decide +kernel
theorem dX5_payBySum_72 : decode cX5_payBySum 72 = .ok (.iload 4, 2) := by decide +kernel
theorem dX5_payBySum_74 : decode cX5_payBySum 74 = .ok (.istore 4, 2) := by decide +kernel
theorem dX5_payBySum_76 : decode cX5_payBySum 76 = .ok (.iinc 5 (-1), 3) := by decide +kernel
theorem dX5_payBySum_79 : decode cX5_payBySum 79 = .ok (.goto (-49), 3) := by decide +kernel
theorem dX5_payBySum_82 : decode cX5_payBySum 82 = .ok (.aload_n 0, 1) := by decide +kernel
theorem dX5_payBySum_83 : decode cX5_payBySum 83 = .ok (.iload 4, 2) := by decide +kernel
theorem dX5_payBySum_85 : decode cX5_payBySum 85 = .ok (.iconst (-1), 1) := by decide +kernel
theorem dX5_payBySum_86 : decode cX5_payBySum 86 = .ok (.if_icmp .ne 7, 3) := by decide +kernel
theorem dX5_payBySum_89 : decode cX5_payBySum 89 = .ok (.iconst 3, 1) := by decide +kernel
theorem dX5_payBySum_90 : decode cX5_payBySum 90 = .ok (.goto 4, 3) := by decide +kernel
theorem dX5_payBySum_93 : decode cX5_payBySum 93 = .ok (.iconst 0, 1) := by decide +kernel
theorem dX5_payBySum_94 : decode cX5_payBySum 94 = .ok (.putfield 71, 3) := by decide +kernel
theorem dX5_payBySum_97 : decode cX5_payBySum 97 = .ok (.aload_n 0, 1) := by decide +kernel
theorem dX5_payBySum_98 : decode cX5_payBySum 98 = .ok (.getfield 71, 3) := by decide +kernel
theorem dX5_payBySum_101 : decode cX5_payBySum 101 = .ok (.ifCond .le 5, 3) := by decide +kernel
theorem dX5_payBySum_104 : decode cX5_payBySum 104 = .ok (.iconst 0, 1) := by decide +kernel
theorem dX5_payBySum_105 : decode cX5_payBySum 105 = .ok (.ireturn, 1) := by decide +kernel
theorem dX5_payBySum_106 : decode cX5_payBySum 106 = .ok (.aload_n 0, 1) := by decide +kernel
theorem dX5_payBySum_107 : decode cX5_payBySum 107 = .ok (.getfield 41, 3) := by decide +kernel
theorem dX5_payBySum_110 : decode cX5_payBySum 110 = .ok (.iload 4, 2) := by decide +kernel
theorem dX5_payBySum_112 : decode cX5_payBySum 112 = .ok (.dup2, 1) := by decide +kernel
theorem dX5_payBySum_113 : decode cX5_payBySum 113 = .ok (.iaload, 1) := by decide +kernel
theorem dX5_payBySum_114 : decode cX5_payBySum 114 = .ok (.iload_n 3, 1) := by decide +kernel
theorem dX5_payBySum_115 : decode cX5_payBySum 115 = .ok (.iadd, 1) := by decide +kernel
theorem dX5_payBySum_116 : decode cX5_payBySum 116 = .ok (.iastore, 1) := by decide +kernel
theorem dX5_payBySum_117 : decode cX5_payBySum 117 = .ok (.aload_n 0, 1) := by decide +kernel
theorem dX5_payBySum_118 : decode cX5_payBySum 118 = .ok (.iload_n 1, 1) := by decide +kernel
theorem dX5_payBySum_119 : decode cX5_payBySum 119 = .ok (.iload_n 2, 1) := by decide +kernel
theorem dX5_payBySum_120 : decode cX5_payBySum 120 = .ok (.iload_n 3, 1) := by decide +kernel
theorem dX5_payBySum_121 : decode cX5_payBySum 121 = .ok (.invokevirtual 124, 3) := by decide +kernel
theorem dX5_payBySum_124 : decode cX5_payBySum 124 = .ok (.iload 4, 2) := by decide +kernel
theorem dX5_payBySum_126 : decode cX5_payBySum 126 = .ok (.ireturn, 1) := by decide +kernel
theorem dX5_pass_0 : decode cX5_pass 0 = .ok (.aload_n 0, 1) := by decide +kernel
theorem dX5_pass_1 : decode cX5_pass 1 = .ok (.iload_n 1, 1) := by decide +kernel
theorem dX5_pass_2 : decode cX5_pass 2 = .ok (.iconst 1, 1) := by decide +kernel
theorem dX5_pass_3 : decode cX5_pass 3 = .ok (.bipush 60, 2) := by decide +kernel
theorem dX5_pass_5 : decode cX5_pass 5 = .ok (.invokestatic 75, 3) := by decide +kernel
theorem dX5_pass_8 : decode cX5_pass 8 = .ok (.ifCond .ne 7, 3) := by decide +kernel
theorem dX5_pass_11 : decode cX5_pass 11 = .ok (.iconst 1, 1) := by decide +kernel
theorem dX5_pass_12 : decode cX5_pass 12 = .ok (.goto 20, 3) := by decide +kernel
theorem dX5_pass_15 : decode cX5_pass 15 = .ok (.aload_n 0, 1) := by decide +kernel
theorem dX5_pass_16 : decode cX5_pass 16 = .ok (.getfield 93, 3) := by decide +kernel
theorem dX5_pass_19 : decode cX5_pass 19 = .ok (.iload_n 1, 1) := by decide +kernel
theorem dX5_pass_20 : decode cX5_pass 20 = .ok (.iadd, 1) := by decide +kernel
theorem dX5_pass_21 : decode cX5_pass 21 = .ok (.sipush 999, 3) := by decide +kernel
theorem dX5_pass_24 : decode cX5_pass 24 = .ok (.if_icmp .le 7, 3) := by decide +kernel
theorem dX5_pass_27 : decode cX5_pass 27 = .ok (.iconst 2, 1) := by decide +kernel
theorem dX5_pass_28 : decode cX5_pass 28 = .ok (.goto 4, 3) := by decide +kernel
theorem dX5_pass_31 : decode cX5_pass 31 = .ok (.iconst 0, 1) := by decide +kernel
theorem dX5_pass_32 : decode cX5_pass 32 = .ok (.putfield 71, 3) := by decide +kernel
theorem dX5_pass_35 : decode cX5_pass 35 = .ok (.aload_n 0, 1) := by decide +kernel
theorem dX5_pass_36 : decode cX5_pass 36 = .ok (.getfield 71, 3) := by decide +kernel
theorem dX5_pass_39 : decode cX5_pass 39 = .ok (.ifCond .le 5, 3) := by decide +kernel
theorem dX5_pass_42 : decode cX5_pass 42 = .ok (.iconst 0, 1) := by decide +kernel
theorem dX5_pass_43 : decode cX5_pass 43 = .ok (.ireturn, 1) := by decide +kernel
theorem dX5_pass_44 : decode cX5_pass 44 = .ok (.aload_n 0, 1) := by decide +kernel
theorem dX5_pass_45 : decode cX5_pass 45 = .ok (.dup, 1) := by decide +kernel
theorem dX5_pass_46 : decode cX5_pass 46 = .ok (.getfield 93, 3) := by decide +kernel
theorem dX5_pass_49 : decode cX5_pass 49 = .ok (.iload_n 1, 1) := by decide +kernel
theorem dX5_pass_50 : decode cX5_pass 50 = .ok (.iadd, 1) := by decide +kernel
theorem dX5_pass_51 : decode cX5_pass 51 = .ok (.putfield 93, 3) := by decide +kernel
theorem dX5_pass_54 : decode cX5_pass 54 = .ok (.aload_n 0, 1) := by decide +kernel
theorem dX5_pass_55 : decode cX5_pass 55 = .ok (.getfield 93, 3) := by decide +kernel
theorem dX5_pass_58 : decode cX5_pass 58 = .ok (.bipush 30, 2) := by decide +kernel
theorem dX5_pass_60 : decode cX5_pass 60 = .ok (.idiv, 1) := by decide +kernel
theorem dX5_pass_61 : decode cX5_pass 61 = .ok (.ireturn, 1) := by decide +kernel
theorem dX5_taxOfAll_0 : decode cX5_taxOfAll 0 = .ok (.iconst 0, 1) := by decide +kernel
theorem dX5_taxOfAll_1 : decode cX5_taxOfAll 1 = .ok (.istore_n 3, 1) := by decide +kernel
theorem dX5_taxOfAll_2 : decode cX5_taxOfAll 2 = .ok (.iconst 3, 1) := by decide +kernel
theorem dX5_taxOfAll_3 : decode cX5_taxOfAll 3 = .ok (.iload_n 1, 1) := by decide +kernel
theorem dX5_taxOfAll_4 : decode cX5_taxOfAll 4 = .ok (.imul, 1) := by decide +kernel
theorem dX5_taxOfAll_5 : decode cX5_taxOfAll 5 = .ok (.istore 4, 2) := by decide +kernel
theorem dX5_taxOfAll_7 : decode cX5_taxOfAll 7 = .ok (.iload 4, 2) := by decide +kernel
theorem dX5_taxOfAll_9 : decode cX5_taxOfAll 9 = .ok (.iconst 3, 1) := by decide +kernel
theorem dX5_taxOfAll_10 : decode cX5_taxOfAll 10 = .ok (.iload_n 1, 1) := by decide +kernel
theorem dX5_taxOfAll_11 : decode cX5_taxOfAll 11 = .ok (.imul, 1) := by decide +kernel
theorem dX5_taxOfAll_12 : decode cX5_taxOfAll 12 = .ok (.aload_n 0, 1) := by decide +kernel
theorem dX5_taxOfAll_13 : decode cX5_taxOfAll 13 = .ok (.getfield 44, 3) := by decide +kernel
theorem dX5_taxOfAll_16 : decode cX5_taxOfAll 16 = .ok (.iload_n 1, 1) := by decide +kernel
theorem dX5_taxOfAll_17 : decode cX5_taxOfAll 17 = .ok (.iaload, 1) := by decide +kernel
theorem dX5_taxOfAll_18 : decode cX5_taxOfAll 18 = .ok (.iadd, 1) := by decide +kernel
theorem dX5_taxOfAll_19 : decode cX5_taxOfAll 19 = .ok (.if_icmp .ge 43, 3) := by decide +kernel
theorem dX5_taxOfAll_22 : decode cX5_taxOfAll 22 = .ok (.iload_n 3, 1) := by decide +kernel
theorem dX5_taxOfAll_23 : decode cX5_taxOfAll 23 = .ok (.iload_n 2, 1) := by decide +kernel
theorem dX5_taxOfAll_24 : decode cX5_taxOfAll 24 = .ok (.ifCond .eq 13, 3) := by decide +kernel
theorem dX5_taxOfAll_27 : decode cX5_taxOfAll 27 = .ok (.aload_n 0, 1) := by decide +kernel
theorem dX5_taxOfAll_28 : decode cX5_taxOfAll 28 = .ok (.getfield 50, 3) := by decide +kernel
theorem dX5_taxOfAll_31 : decode cX5_taxOfAll 31 = .ok (.iload 4, 2) := by decide +kernel
theorem dX5_taxOfAll_33 : decode cX5_taxOfAll 33 = .ok (.iaload, 1) := by decide +kernel
theorem dX5_taxOfAll_34 : decode cX5_taxOfAll 34 = .ok (.goto 10, 3) := by decide +kernel
theorem dX5_taxOfAll_37 : decode cX5_taxOfAll 37 = .ok (.aload_n 0, 1) := by decide +kernel
theorem dX5_taxOfAll_38 : decode cX5_taxOfAll 38 = .ok (.getfield 47, 3) := by decide +kernel
theorem dX5_taxOfAll_41 : decode cX5_taxOfAll 41 = .ok (.iload 4, 2) := by decide +kernel
theorem dX5_taxOfAll_43 : decode cX5_taxOfAll 43 = .ok (.iaload, 1) := by decide +kernel
theorem dX5_taxOfAll_44 : decode cX5_taxOfAll 44 = .ok (.aload_n 0, 1) := by decide +kernel
theorem dX5_taxOfAll_45 : decode cX5_taxOfAll 45 = .ok (.getfield 53, 3) := by decide +kernel
theorem dX5_taxOfAll_48 : decode cX5_taxOfAll 48 = .ok (.iload 4, 2) := by decide +kernel
theorem dX5_taxOfAll_50 : decode cX5_taxOfAll 50 = .ok (.iaload, 1) := by decide +kernel
theorem dX5_taxOfAll_51 : decode cX5_taxOfAll 51 = .ok (.invokestatic 106, 3) := by decide +kernel
theorem dX5_taxOfAll_54 : decode cX5_taxOfAll 54 = .ok (.iadd, 1) := by decide +kernel
theorem dX5_taxOfAll_55 : decode cX5_taxOfAll 55 = .ok (.istore_n 3, 1) := by decide +kernel
theorem dX5_taxOfAll_56 : decode cX5_taxOfAll 56 = .ok (.iinc 4 1, 3) := by decide +kernel
theorem dX5_taxOfAll_59 : decode cX5_taxOfAll 59 = .ok (.goto (-52), 3) := by decide +kernel
theorem dX5_taxOfAll_62 : decode cX5_taxOfAll 62 = .ok (.iload_n 3, 1) := by decide +kernel
theorem dX5_taxOfAll_63 : decode cX5_taxOfAll 63 = .ok (.ireturn, 1) := by decide +kernel
theorem dX5_about_0 : decode cX5_about 0 = .ok (.aload_n 0, 1) := by decide +kernel
theorem dX5_about_1 : decode cX5_about 1 = .ok (.aload_n 0, 1) := by decide +kernel
theorem dX5_about_2 : decode cX5_about 2 = .ok (.iload_n 1, 1) := by decide +kernel
theorem dX5_about_3 : decode cX5_about 3 = .ok (.invokevirtual 82, 3) := by decide +kernel
theorem dX5_about_6 : decode cX5_about 6 = .ok (.ifCond .ne 7, 3) := by decide +kernel
theorem dX5_about_9 : decode cX5_about 9 = .ok (.iconst 1, 1) := by decide +kernel
theorem dX5_about_10 : decode cX5_about 10 = .ok (.goto 18, 3) := by decide +kernel
theorem dX5_about_13 : decode cX5_about 13 = .ok (.iload_n 2, 1) := by decide +kernel
theorem dX5_about_14 : decode cX5_about 14 = .ok (.iconst 0, 1) := by decide +kernel
theorem dX5_about_15 : decode cX5_about 15 = .ok (.bipush 9, 2) := by decide +kernel
theorem dX5_about_17 : decode cX5_about 17 = .ok (.invokestatic 75, 3) := by decide +kernel
theorem dX5_about_20 : decode cX5_about 20 = .ok (.ifCond .ne 7, 3) := by decide +kernel
theorem dX5_about_23 : decode cX5_about 23 = .ok (.iconst 2, 1) := by decide +kernel
theorem dX5_about_24 : decode cX5_about 24 = .ok (.goto 4, 3) := by decide +kernel
theorem dX5_about_27 : decode cX5_about 27 = .ok (.iconst 0, 1) := by decide +kernel
theorem dX5_about_28 : decode cX5_about 28 = .ok (.putfield 71, 3) := by decide +kernel
theorem dX5_about_31 : decode cX5_about 31 = .ok (.aload_n 0, 1) := by decide +kernel
theorem dX5_about_32 : decode cX5_about 32 = .ok (.getfield 71, 3) := by decide +kernel
theorem dX5_about_35 : decode cX5_about 35 = .ok (.ifCond .le 5, 3) := by decide +kernel
theorem dX5_about_38 : decode cX5_about 38 = .ok (.iconst 0, 1) := by decide +kernel
theorem dX5_about_39 : decode cX5_about 39 = .ok (.ireturn, 1) := by decide +kernel
theorem dX5_about_40 : decode cX5_about 40 = .ok (.iload_n 2, 1) := by decide +kernel
theorem dX5_about_41 : decode cX5_about 41 = .ok (.tableswitch 113 0 8 #[51, 58, 65, 72, 79, 86, 92, 99, 106], 51) := by decide +kernel
theorem dX5_about_92 : decode cX5_about 92 = .ok (.aload_n 0, 1) := by decide +kernel
theorem dX5_about_93 : decode cX5_about 93 = .ok (.getfield 22, 3) := by decide +kernel
theorem dX5_about_96 : decode cX5_about 96 = .ok (.iload_n 1, 1) := by decide +kernel
theorem dX5_about_97 : decode cX5_about 97 = .ok (.iaload, 1) := by decide +kernel
theorem dX5_about_98 : decode cX5_about 98 = .ok (.ireturn, 1) := by decide +kernel
theorem dX5_about_99 : decode cX5_about 99 = .ok (.aload_n 0, 1) := by decide +kernel
theorem dX5_about_100 : decode cX5_about 100 = .ok (.getfield 13, 3) := by decide +kernel
theorem dX5_about_103 : decode cX5_about 103 = .ok (.iload_n 1, 1) := by decide +kernel
theorem dX5_about_104 : decode cX5_about 104 = .ok (.iaload, 1) := by decide +kernel
theorem dX5_about_105 : decode cX5_about 105 = .ok (.ireturn, 1) := by decide +kernel
theorem dX5_about_106 : decode cX5_about 106 = .ok (.aload_n 0, 1) := by decide +kernel
theorem dX5_about_107 : decode cX5_about 107 = .ok (.getfield 16, 3) := by decide +kernel
theorem dX5_about_110 : decode cX5_about 110 = .ok (.iload_n 1, 1) := by decide +kernel
theorem dX5_about_111 : decode cX5_about 111 = .ok (.iaload, 1) := by decide +kernel
theorem dX5_about_112 : decode cX5_about 112 = .ok (.ireturn, 1) := by decide +kernel
theorem dX5_about_113 : decode cX5_about 113 = .ok (.aload_n 0, 1) := by decide +kernel
theorem dX5_about_114 : decode cX5_about 114 = .ok (.getfield 31, 3) := by decide +kernel
theorem dX5_about_117 : decode cX5_about 117 = .ok (.iload_n 1, 1) := by decide +kernel
theorem dX5_about_118 : decode cX5_about 118 = .ok (.iaload, 1) := by decide +kernel
theorem dX5_about_119 : decode cX5_about 119 = .ok (.ireturn, 1) := by decide +kernel
theorem dX5_about_120 : decode cX5_about 120 = .ok (.aload_n 0, 1) := by decide +kernel
theorem dX5_about_121 : decode cX5_about 121 = .ok (.iload_n 1, 1) := by decide +kernel
theorem dX5_about_122 : decode cX5_about 122 = .ok (.iconst 1, 1) := by decide +kernel
theorem dX5_about_123 : decode cX5_about 123 = .ok (.invokevirtual 110, 3) := by decide +kernel
theorem dX5_about_126 : decode cX5_about 126 = .ok (.ireturn, 1) := by decide +kernel
theorem dX5_about_127 : decode cX5_about 127 = .ok (.aload_n 0, 1) := by decide +kernel
theorem dX5_about_128 : decode cX5_about 128 = .ok (.iload_n 1, 1) := by decide +kernel
theorem dX5_about_129 : decode cX5_about 129 = .ok (.invokevirtual 114, 3) := by decide +kernel
theorem dX5_about_132 : decode cX5_about 132 = .ok (.ireturn, 1) := by decide +kernel
theorem dX5_about_133 : decode cX5_about 133 = .ok (.aload_n 0, 1) := by decide +kernel
theorem dX5_about_134 : decode cX5_about 134 = .ok (.getfield 41, 3) := by decide +kernel
theorem dX5_about_137 : decode cX5_about 137 = .ok (.iload_n 1, 1) := by decide +kernel
theorem dX5_about_138 : decode cX5_about 138 = .ok (.iaload, 1) := by decide +kernel
theorem dX5_about_139 : decode cX5_about 139 = .ok (.ireturn, 1) := by decide +kernel
theorem dX5_about_140 : decode cX5_about 140 = .ok (.aload_n 0, 1) := by decide +kernel
theorem dX5_about_141 : decode cX5_about 141 = .ok (.getfield 44, 3) := by decide +kernel
theorem dX5_about_144 : decode cX5_about 144 = .ok (.iload_n 1, 1) := by decide +kernel
theorem dX5_about_145 : decode cX5_about 145 = .ok (.iaload, 1) := by decide +kernel
theorem dX5_about_146 : decode cX5_about 146 = .ok (.ireturn, 1) := by decide +kernel
theorem dX5_about_147 : decode cX5_about 147 = .ok (.aload_n 0, 1) := by decide +kernel
theorem dX5_about_148 : decode cX5_about 148 = .ok (.getfield 25, 3) := by decide +kernel
theorem dX5_about_151 : decode cX5_about 151 = .ok (.iload_n 1, 1) := by decide +kernel
theorem dX5_about_152 : decode cX5_about 152 = .ok (.iaload, 1) := by decide +kernel
theorem dX5_about_153 : decode cX5_about 153 = .ok (.ireturn, 1) := by decide +kernel
theorem dX5_about_154 : decode cX5_about 154 = .ok (.aload_n 0, 1) := by decide +kernel
theorem dX5_about_155 : decode cX5_about 155 = .ok (.iload_n 1, 1) := by decide +kernel
theorem dX5_about_156 : decode cX5_about 156 = .ok (.iconst 0, 1) := by decide +kernel
theorem dX5_about_157 : decode cX5_about 157 = .ok (.invokevirtual 139, 3) := by decide +kernel
theorem dX5_about_160 : decode cX5_about 160 = .ok (.ireturn, 1) := by decide +kernel
theorem dX5_lineOf_0 : decode cX5_lineOf 0 = .ok (.aload_n 0, 1) := by decide +kernel
theorem dX5_lineOf_1 : decode cX5_lineOf 1 = .ok (.aload_n 0, 1) := by decide +kernel
theorem dX5_lineOf_2 : decode cX5_lineOf 2 = .ok (.iload_n 1, 1) := by decide +kernel
theorem dX5_lineOf_3 : decode cX5_lineOf 3 = .ok (.iload_n 2, 1) := by decide +kernel
theorem dX5_lineOf_4 : decode cX5_lineOf 4 = .ok (.invokevirtual 118, 3) := by decide +kernel
theorem dX5_lineOf_7 : decode cX5_lineOf 7 = .ok (.ifCond .ne 7, 3) := by decide +kernel
theorem dX5_lineOf_10 : decode cX5_lineOf 10 = .ok (.iconst 1, 1) := by decide +kernel
theorem dX5_lineOf_11 : decode cX5_lineOf 11 = .ok (.goto 17, 3) := by decide +kernel
theorem dX5_lineOf_14 : decode cX5_lineOf 14 = .ok (.iload_n 3, 1) := by decide +kernel
theorem dX5_lineOf_15 : decode cX5_lineOf 15 = .ok (.iconst 0, 1) := by decide +kernel
theorem dX5_lineOf_16 : decode cX5_lineOf 16 = .ok (.iconst 4, 1) := by decide +kernel
theorem dX5_lineOf_17 : decode cX5_lineOf 17 = .ok (.invokestatic 75, 3) := by decide +kernel
theorem dX5_lineOf_20 : decode cX5_lineOf 20 = .ok (.ifCond .ne 7, 3) := by decide +kernel
theorem dX5_lineOf_23 : decode cX5_lineOf 23 = .ok (.iconst 2, 1) := by decide +kernel
theorem dX5_lineOf_24 : decode cX5_lineOf 24 = .ok (.goto 4, 3) := by decide +kernel
theorem dX5_lineOf_27 : decode cX5_lineOf 27 = .ok (.iconst 0, 1) := by decide +kernel
theorem dX5_lineOf_28 : decode cX5_lineOf 28 = .ok (.putfield 71, 3) := by decide +kernel
theorem dX5_lineOf_31 : decode cX5_lineOf 31 = .ok (.aload_n 0, 1) := by decide +kernel
theorem dX5_lineOf_32 : decode cX5_lineOf 32 = .ok (.getfield 71, 3) := by decide +kernel
theorem dX5_lineOf_35 : decode cX5_lineOf 35 = .ok (.ifCond .le 5, 3) := by decide +kernel
theorem dX5_lineOf_38 : decode cX5_lineOf 38 = .ok (.iconst 0, 1) := by decide +kernel
theorem dX5_lineOf_39 : decode cX5_lineOf 39 = .ok (.ireturn, 1) := by decide +kernel
theorem dX5_lineOf_40 : decode cX5_lineOf 40 = .ok (.iconst 3, 1) := by decide +kernel
theorem dX5_lineOf_41 : decode cX5_lineOf 41 = .ok (.iload_n 1, 1) := by decide +kernel
theorem dX5_lineOf_42 : decode cX5_lineOf 42 = .ok (.imul, 1) := by decide +kernel
theorem dX5_lineOf_43 : decode cX5_lineOf 43 = .ok (.iload_n 2, 1) := by decide +kernel
theorem dX5_lineOf_44 : decode cX5_lineOf 44 = .ok (.iadd, 1) := by decide +kernel
theorem dX5_lineOf_45 : decode cX5_lineOf 45 = .ok (.istore 4, 2) := by decide +kernel
theorem dX5_lineOf_47 : decode cX5_lineOf 47 = .ok (.iload_n 3, 1) := by decide +kernel
theorem dX5_lineOf_48 : decode cX5_lineOf 48 = .ok (.ifCond .ne 13, 3) := by decide +kernel
theorem dX5_lineOf_51 : decode cX5_lineOf 51 = .ok (.aload_n 0, 1) := by decide +kernel
theorem dX5_lineOf_52 : decode cX5_lineOf 52 = .ok (.getfield 47, 3) := by decide +kernel
theorem dX5_lineOf_55 : decode cX5_lineOf 55 = .ok (.iload 4, 2) := by decide +kernel
theorem dX5_lineOf_57 : decode cX5_lineOf 57 = .ok (.iaload, 1) := by decide +kernel
theorem dX5_lineOf_58 : decode cX5_lineOf 58 = .ok (.goto 73, 3) := by decide +kernel
theorem dX5_lineOf_61 : decode cX5_lineOf 61 = .ok (.iload_n 3, 1) := by decide +kernel
theorem dX5_lineOf_62 : decode cX5_lineOf 62 = .ok (.iconst 1, 1) := by decide +kernel
theorem dX5_lineOf_63 : decode cX5_lineOf 63 = .ok (.if_icmp .ne 13, 3) := by decide +kernel
theorem dX5_lineOf_66 : decode cX5_lineOf 66 = .ok (.aload_n 0, 1) := by decide +kernel
theorem dX5_lineOf_67 : decode cX5_lineOf 67 = .ok (.getfield 53, 3) := by decide +kernel
theorem dX5_lineOf_70 : decode cX5_lineOf 70 = .ok (.iload 4, 2) := by decide +kernel
theorem dX5_lineOf_72 : decode cX5_lineOf 72 = .ok (.iaload, 1) := by decide +kernel
theorem dX5_lineOf_73 : decode cX5_lineOf 73 = .ok (.goto 58, 3) := by decide +kernel
theorem dX5_lineOf_76 : decode cX5_lineOf 76 = .ok (.iload_n 3, 1) := by decide +kernel
theorem dX5_lineOf_77 : decode cX5_lineOf 77 = .ok (.iconst 2, 1) := by decide +kernel
theorem dX5_lineOf_78 : decode cX5_lineOf 78 = .ok (.if_icmp .ne 23, 3) := by decide +kernel
theorem dX5_lineOf_81 : decode cX5_lineOf 81 = .ok (.aload_n 0, 1) := by decide +kernel
theorem dX5_lineOf_82 : decode cX5_lineOf 82 = .ok (.getfield 47, 3) := by decide +kernel
theorem dX5_lineOf_85 : decode cX5_lineOf 85 = .ok (.iload 4, 2) := by decide +kernel
theorem dX5_lineOf_87 : decode cX5_lineOf 87 = .ok (.iaload, 1) := by decide +kernel
theorem dX5_lineOf_88 : decode cX5_lineOf 88 = .ok (.aload_n 0, 1) := by decide +kernel
theorem dX5_lineOf_89 : decode cX5_lineOf 89 = .ok (.getfield 53, 3) := by decide +kernel
theorem dX5_lineOf_92 : decode cX5_lineOf 92 = .ok (.iload 4, 2) := by decide +kernel
theorem dX5_lineOf_94 : decode cX5_lineOf 94 = .ok (.iaload, 1) := by decide +kernel
theorem dX5_lineOf_95 : decode cX5_lineOf 95 = .ok (.invokestatic 106, 3) := by decide +kernel
theorem dX5_lineOf_98 : decode cX5_lineOf 98 = .ok (.goto 33, 3) := by decide +kernel
theorem dX5_lineOf_101 : decode cX5_lineOf 101 = .ok (.iload_n 3, 1) := by decide +kernel
theorem dX5_lineOf_102 : decode cX5_lineOf 102 = .ok (.iconst 3, 1) := by decide +kernel
theorem dX5_lineOf_103 : decode cX5_lineOf 103 = .ok (.if_icmp .ne 21, 3) := by decide +kernel
theorem dX5_lineOf_106 : decode cX5_lineOf 106 = .ok (.aload_n 0, 1) := by decide +kernel
theorem dX5_lineOf_107 : decode cX5_lineOf 107 = .ok (.getfield 56, 3) := by decide +kernel
theorem dX5_lineOf_110 : decode cX5_lineOf 110 = .ok (.iload 4, 2) := by decide +kernel
theorem dX5_lineOf_112 : decode cX5_lineOf 112 = .ok (.baload, 1) := by decide +kernel
theorem dX5_lineOf_113 : decode cX5_lineOf 113 = .ok (.ifCond .eq 7, 3) := by decide +kernel
theorem dX5_lineOf_116 : decode cX5_lineOf 116 = .ok (.iconst 1, 1) := by decide +kernel
theorem dX5_lineOf_117 : decode cX5_lineOf 117 = .ok (.goto 14, 3) := by decide +kernel
theorem dX5_lineOf_120 : decode cX5_lineOf 120 = .ok (.iconst 0, 1) := by decide +kernel
theorem dX5_lineOf_121 : decode cX5_lineOf 121 = .ok (.goto 10, 3) := by decide +kernel
theorem dX5_lineOf_124 : decode cX5_lineOf 124 = .ok (.aload_n 0, 1) := by decide +kernel
theorem dX5_lineOf_125 : decode cX5_lineOf 125 = .ok (.getfield 50, 3) := by decide +kernel
theorem dX5_lineOf_128 : decode cX5_lineOf 128 = .ok (.iload 4, 2) := by decide +kernel
theorem dX5_lineOf_130 : decode cX5_lineOf 130 = .ok (.iaload, 1) := by decide +kernel
theorem dX5_lineOf_131 : decode cX5_lineOf 131 = .ok (.ireturn, 1) := by decide +kernel
theorem dX5_cash_0 : decode cX5_cash 0 = .ok (.aload_n 0, 1) := by decide +kernel
theorem dX5_cash_1 : decode cX5_cash 1 = .ok (.iload_n 1, 1) := by decide +kernel
theorem dX5_cash_2 : decode cX5_cash 2 = .ok (.invokestatic 86, 3) := by decide +kernel
theorem dX5_cash_5 : decode cX5_cash 5 = .ok (.ifCond .eq 7, 3) := by decide +kernel
theorem dX5_cash_8 : decode cX5_cash 8 = .ok (.iconst 0, 1) := by decide +kernel
theorem dX5_cash_9 : decode cX5_cash 9 = .ok (.goto 4, 3) := by decide +kernel
theorem dX5_cash_12 : decode cX5_cash 12 = .ok (.iconst 1, 1) := by decide +kernel
theorem dX5_cash_13 : decode cX5_cash 13 = .ok (.putfield 71, 3) := by decide +kernel
theorem dX5_cash_16 : decode cX5_cash 16 = .ok (.aload_n 0, 1) := by decide +kernel
theorem dX5_cash_17 : decode cX5_cash 17 = .ok (.getfield 71, 3) := by decide +kernel
theorem dX5_cash_20 : decode cX5_cash 20 = .ok (.ifCond .le 7, 3) := by decide +kernel
theorem dX5_cash_23 : decode cX5_cash 23 = .ok (.iconst 0, 1) := by decide +kernel
theorem dX5_cash_24 : decode cX5_cash 24 = .ok (.goto 9, 3) := by decide +kernel
theorem dX5_cash_27 : decode cX5_cash 27 = .ok (.aload_n 0, 1) := by decide +kernel
theorem dX5_cash_28 : decode cX5_cash 28 = .ok (.getfield 7, 3) := by decide +kernel
theorem dX5_cash_31 : decode cX5_cash 31 = .ok (.iload_n 1, 1) := by decide +kernel
theorem dX5_cash_32 : decode cX5_cash 32 = .ok (.iaload, 1) := by decide +kernel
theorem dX5_cash_33 : decode cX5_cash 33 = .ok (.ireturn, 1) := by decide +kernel
theorem dX5_cashAnew_0 : decode cX5_cashAnew 0 = .ok (.aload_n 0, 1) := by decide +kernel
theorem dX5_cashAnew_1 : decode cX5_cashAnew 1 = .ok (.iload_n 1, 1) := by decide +kernel
theorem dX5_cashAnew_2 : decode cX5_cashAnew 2 = .ok (.invokestatic 86, 3) := by decide +kernel
theorem dX5_cashAnew_5 : decode cX5_cashAnew 5 = .ok (.ifCond .eq 7, 3) := by decide +kernel
theorem dX5_cashAnew_8 : decode cX5_cashAnew 8 = .ok (.iconst 0, 1) := by decide +kernel
theorem dX5_cashAnew_9 : decode cX5_cashAnew 9 = .ok (.goto 4, 3) := by decide +kernel
theorem dX5_cashAnew_12 : decode cX5_cashAnew 12 = .ok (.iconst 1, 1) := by decide +kernel
theorem dX5_cashAnew_13 : decode cX5_cashAnew 13 = .ok (.putfield 71, 3) := by decide +kernel
theorem dX5_cashAnew_16 : decode cX5_cashAnew 16 = .ok (.aload_n 0, 1) := by decide +kernel
theorem dX5_cashAnew_17 : decode cX5_cashAnew 17 = .ok (.getfield 71, 3) := by decide +kernel
theorem dX5_cashAnew_20 : decode cX5_cashAnew 20 = .ok (.ifCond .le 7, 3) := by decide +kernel
theorem dX5_cashAnew_23 : decode cX5_cashAnew 23 = .ok (.iconst 0, 1) := by decide +kernel
theorem dX5_cashAnew_24 : decode cX5_cashAnew 24 = .ok (.goto 9, 3) := by decide +kernel
theorem dX5_cashAnew_27 : decode cX5_cashAnew 27 = .ok (.aload_n 0, 1) := by decide +kernel
theorem dX5_cashAnew_28 : decode cX5_cashAnew 28 = .ok (.getfield 7, 3) := by decide +kernel
theorem dX5_cashAnew_31 : decode cX5_cashAnew 31 = .ok (.iload_n 1, 1) := by decide +kernel
theorem dX5_cashAnew_32 : decode cX5_cashAnew 32 = .ok (.iaload, 1) := by decide +kernel
theorem dX5_cashAnew_33 : decode cX5_cashAnew 33 = .ok (.ireturn, 1) := by decide +kernel
theorem dX5_sums_0 : decode cX5_sums 0 = .ok (.iconst 0, 1) := by decide +kernel
theorem dX5_sums_1 : decode cX5_sums 1 = .ok (.istore_n 3, 1) := by decide +kernel
theorem dX5_sums_2 : decode cX5_sums 2 = .ok (.iconst 0, 1) := by decide +kernel
theorem dX5_sums_3 : decode cX5_sums 3 = .ok (.istore 4, 2) := by decide +kernel
theorem dX5_sums_5 : decode cX5_sums 5 = .ok (.iload 4, 2) := by decide +kernel
theorem dX5_sums_7 : decode cX5_sums 7 = .ok (.aload_n 0, 1) := by decide +kernel
theorem dX5_sums_8 : decode cX5_sums 8 = .ok (.getfield 79, 3) := by decide +kernel
theorem dX5_sums_11 : decode cX5_sums 11 = .ok (.if_icmp .ge 47, 3) := by decide +kernel
theorem dX5_sums_14 : decode cX5_sums 14 = .ok (.iload_n 3, 1) := by decide +kernel
theorem dX5_sums_15 : decode cX5_sums 15 = .ok (.iload_n 2, 1) := by decide +kernel
theorem dX5_sums_16 : decode cX5_sums 16 = .ok (.ifCond .eq 13, 3) := by decide +kernel
theorem dX5_sums_19 : decode cX5_sums 19 = .ok (.aload_n 0, 1) := by decide +kernel
theorem dX5_sums_20 : decode cX5_sums 20 = .ok (.getfield 31, 3) := by decide +kernel
theorem dX5_sums_23 : decode cX5_sums 23 = .ok (.iload 4, 2) := by decide +kernel
theorem dX5_sums_25 : decode cX5_sums 25 = .ok (.iaload, 1) := by decide +kernel
theorem dX5_sums_26 : decode cX5_sums 26 = .ok (.goto 10, 3) := by decide +kernel
theorem dX5_sums_29 : decode cX5_sums 29 = .ok (.aload_n 0, 1) := by decide +kernel
theorem dX5_sums_30 : decode cX5_sums 30 = .ok (.getfield 16, 3) := by decide +kernel
theorem dX5_sums_33 : decode cX5_sums 33 = .ok (.iload 4, 2) := by decide +kernel
theorem dX5_sums_35 : decode cX5_sums 35 = .ok (.iaload, 1) := by decide +kernel
theorem dX5_sums_36 : decode cX5_sums 36 = .ok (.iload_n 1, 1) := by decide +kernel
theorem dX5_sums_37 : decode cX5_sums 37 = .ok (.if_icmp .ne 12, 3) := by decide +kernel
theorem dX5_sums_40 : decode cX5_sums 40 = .ok (.aload_n 0, 1) := by decide +kernel
theorem dX5_sums_41 : decode cX5_sums 41 = .ok (.iload 4, 2) := by decide +kernel
theorem dX5_sums_43 : decode cX5_sums 43 = .ok (.invokevirtual 114, 3) := by decide +kernel
theorem dX5_sums_46 : decode cX5_sums 46 = .ok (.goto 4, 3) := by decide +kernel
theorem dX5_sums_49 : decode cX5_sums 49 = .ok (.iconst 0, 1) := by decide +kernel
theorem dX5_sums_50 : decode cX5_sums 50 = .ok (.iadd, 1) := by decide +kernel
theorem dX5_sums_51 : decode cX5_sums 51 = .ok (.istore_n 3, 1) := by decide +kernel
theorem dX5_sums_52 : decode cX5_sums 52 = .ok (.iinc 4 1, 3) := by decide +kernel
theorem dX5_sums_55 : decode cX5_sums 55 = .ok (.goto (-50), 3) := by decide +kernel
theorem dX5_sums_58 : decode cX5_sums 58 = .ok (.iload_n 3, 1) := by decide +kernel
theorem dX5_sums_59 : decode cX5_sums 59 = .ok (.ireturn, 1) := by decide +kernel
theorem dX5_owedTo_0 : decode cX5_owedTo 0 = .ok (.aload_n 0, 1) := by decide +kernel
theorem dX5_owedTo_1 : decode cX5_owedTo 1 = .ok (.iload_n 1, 1) := by decide +kernel
theorem dX5_owedTo_2 : decode cX5_owedTo 2 = .ok (.invokestatic 86, 3) := by decide +kernel
theorem dX5_owedTo_5 : decode cX5_owedTo 5 = .ok (.ifCond .eq 7, 3) := by decide +kernel
theorem dX5_owedTo_8 : decode cX5_owedTo 8 = .ok (.iconst 0, 1) := by decide +kernel
theorem dX5_owedTo_9 : decode cX5_owedTo 9 = .ok (.goto 4, 3) := by decide +kernel
theorem dX5_owedTo_12 : decode cX5_owedTo 12 = .ok (.iconst 1, 1) := by decide +kernel
theorem dX5_owedTo_13 : decode cX5_owedTo 13 = .ok (.putfield 71, 3) := by decide +kernel
theorem dX5_owedTo_16 : decode cX5_owedTo 16 = .ok (.aload_n 0, 1) := by decide +kernel
theorem dX5_owedTo_17 : decode cX5_owedTo 17 = .ok (.getfield 71, 3) := by decide +kernel
theorem dX5_owedTo_20 : decode cX5_owedTo 20 = .ok (.ifCond .le 7, 3) := by decide +kernel
theorem dX5_owedTo_23 : decode cX5_owedTo 23 = .ok (.iconst 0, 1) := by decide +kernel
theorem dX5_owedTo_24 : decode cX5_owedTo 24 = .ok (.goto 9, 3) := by decide +kernel
theorem dX5_owedTo_27 : decode cX5_owedTo 27 = .ok (.aload_n 0, 1) := by decide +kernel
theorem dX5_owedTo_28 : decode cX5_owedTo 28 = .ok (.iload_n 1, 1) := by decide +kernel
theorem dX5_owedTo_29 : decode cX5_owedTo 29 = .ok (.iconst 1, 1) := by decide +kernel
theorem dX5_owedTo_30 : decode cX5_owedTo 30 = .ok (.invokevirtual 142, 3) := by decide +kernel
theorem dX5_owedTo_33 : decode cX5_owedTo 33 = .ok (.ireturn, 1) := by decide +kernel
theorem dX5_owes_0 : decode cX5_owes 0 = .ok (.aload_n 0, 1) := by decide +kernel
theorem dX5_owes_1 : decode cX5_owes 1 = .ok (.iload_n 1, 1) := by decide +kernel
theorem dX5_owes_2 : decode cX5_owes 2 = .ok (.invokestatic 86, 3) := by decide +kernel
theorem dX5_owes_5 : decode cX5_owes 5 = .ok (.ifCond .eq 7, 3) := by decide +kernel
theorem dX5_owes_8 : decode cX5_owes 8 = .ok (.iconst 0, 1) := by decide +kernel
theorem dX5_owes_9 : decode cX5_owes 9 = .ok (.goto 4, 3) := by decide +kernel
theorem dX5_owes_12 : decode cX5_owes 12 = .ok (.iconst 1, 1) := by decide +kernel
theorem dX5_owes_13 : decode cX5_owes 13 = .ok (.putfield 71, 3) := by decide +kernel
theorem dX5_owes_16 : decode cX5_owes 16 = .ok (.aload_n 0, 1) := by decide +kernel
theorem dX5_owes_17 : decode cX5_owes 17 = .ok (.getfield 71, 3) := by decide +kernel
theorem dX5_owes_20 : decode cX5_owes 20 = .ok (.ifCond .le 7, 3) := by decide +kernel
theorem dX5_owes_23 : decode cX5_owes 23 = .ok (.iconst 0, 1) := by decide +kernel
theorem dX5_owes_24 : decode cX5_owes 24 = .ok (.goto 9, 3) := by decide +kernel
theorem dX5_owes_27 : decode cX5_owes 27 = .ok (.aload_n 0, 1) := by decide +kernel
theorem dX5_owes_28 : decode cX5_owes 28 = .ok (.iload_n 1, 1) := by decide +kernel
theorem dX5_owes_29 : decode cX5_owes 29 = .ok (.iconst 0, 1) := by decide +kernel
theorem dX5_owes_30 : decode cX5_owes 30 = .ok (.invokevirtual 142, 3) := by decide +kernel
theorem dX5_owes_33 : decode cX5_owes 33 = .ok (.ireturn, 1) := by decide +kernel
theorem dX5_taxIn_0 : decode cX5_taxIn 0 = .ok (.iconst 0, 1) := by decide +kernel
theorem dX5_taxIn_1 : decode cX5_taxIn 1 = .ok (.istore_n 3, 1) := by decide +kernel
theorem dX5_taxIn_2 : decode cX5_taxIn 2 = .ok (.iconst 0, 1) := by decide +kernel
theorem dX5_taxIn_3 : decode cX5_taxIn 3 = .ok (.istore 4, 2) := by decide +kernel
theorem dX5_taxIn_5 : decode cX5_taxIn 5 = .ok (.iload 4, 2) := by decide +kernel
theorem dX5_taxIn_7 : decode cX5_taxIn 7 = .ok (.aload_n 0, 1) := by decide +kernel
theorem dX5_taxIn_8 : decode cX5_taxIn 8 = .ok (.getfield 79, 3) := by decide +kernel
theorem dX5_taxIn_11 : decode cX5_taxIn 11 = .ok (.if_icmp .ge 109, 3) := by decide +kernel
theorem dX5_taxIn_14 : decode cX5_taxIn 14 = .ok (.iload_n 3, 1) := by decide +kernel
theorem dX5_taxIn_15 : decode cX5_taxIn 15 = .ok (.aload_n 0, 1) := by decide +kernel
theorem dX5_taxIn_16 : decode cX5_taxIn 16 = .ok (.getfield 13, 3) := by decide +kernel
theorem dX5_taxIn_19 : decode cX5_taxIn 19 = .ok (.iload 4, 2) := by decide +kernel
theorem dX5_taxIn_21 : decode cX5_taxIn 21 = .ok (.iaload, 1) := by decide +kernel
theorem dX5_taxIn_22 : decode cX5_taxIn 22 = .ok (.iload_n 1, 1) := by decide +kernel
theorem dX5_taxIn_23 : decode cX5_taxIn 23 = .ok (.if_icmp .ne 38, 3) := by decide +kernel
theorem dX5_taxIn_26 : decode cX5_taxIn 26 = .ok (.aload_n 0, 1) := by decide +kernel
theorem dX5_taxIn_27 : decode cX5_taxIn 27 = .ok (.getfield 25, 3) := by decide +kernel
theorem dX5_taxIn_30 : decode cX5_taxIn 30 = .ok (.iload 4, 2) := by decide +kernel
theorem dX5_taxIn_32 : decode cX5_taxIn 32 = .ok (.iaload, 1) := by decide +kernel
theorem dX5_taxIn_33 : decode cX5_taxIn 33 = .ok (.bipush 30, 2) := by decide +kernel
theorem dX5_taxIn_35 : decode cX5_taxIn 35 = .ok (.idiv, 1) := by decide +kernel
theorem dX5_taxIn_36 : decode cX5_taxIn 36 = .ok (.iload_n 2, 1) := by decide +kernel
theorem dX5_taxIn_37 : decode cX5_taxIn 37 = .ok (.if_icmp .ne 24, 3) := by decide +kernel
theorem dX5_taxIn_40 : decode cX5_taxIn 40 = .ok (.aload_n 0, 1) := by decide +kernel
theorem dX5_taxIn_41 : decode cX5_taxIn 41 = .ok (.getfield 22, 3) := by decide +kernel
theorem dX5_taxIn_44 : decode cX5_taxIn 44 = .ok (.iload 4, 2) := by decide +kernel
theorem dX5_taxIn_46 : decode cX5_taxIn 46 = .ok (.iaload, 1) := by decide +kernel
theorem dX5_taxIn_47 : decode cX5_taxIn 47 = .ok (.iconst 2, 1) := by decide +kernel
theorem dX5_taxIn_48 : decode cX5_taxIn 48 = .ok (.if_icmp .eq 13, 3) := by decide +kernel
theorem dX5_taxIn_51 : decode cX5_taxIn 51 = .ok (.aload_n 0, 1) := by decide +kernel
theorem dX5_taxIn_52 : decode cX5_taxIn 52 = .ok (.iload 4, 2) := by decide +kernel
theorem dX5_taxIn_54 : decode cX5_taxIn 54 = .ok (.iconst 1, 1) := by decide +kernel
theorem dX5_taxIn_55 : decode cX5_taxIn 55 = .ok (.invokevirtual 139, 3) := by decide +kernel
theorem dX5_taxIn_58 : decode cX5_taxIn 58 = .ok (.goto 4, 3) := by decide +kernel
theorem dX5_taxIn_61 : decode cX5_taxIn 61 = .ok (.iconst 0, 1) := by decide +kernel
theorem dX5_taxIn_62 : decode cX5_taxIn 62 = .ok (.iadd, 1) := by decide +kernel
theorem dX5_taxIn_63 : decode cX5_taxIn 63 = .ok (.istore_n 3, 1) := by decide +kernel
theorem dX5_taxIn_64 : decode cX5_taxIn 64 = .ok (.iload_n 3, 1) := by decide +kernel
theorem dX5_taxIn_65 : decode cX5_taxIn 65 = .ok (.aload_n 0, 1) := by decide +kernel
theorem dX5_taxIn_66 : decode cX5_taxIn 66 = .ok (.getfield 16, 3) := by decide +kernel
theorem dX5_taxIn_69 : decode cX5_taxIn 69 = .ok (.iload 4, 2) := by decide +kernel
theorem dX5_taxIn_71 : decode cX5_taxIn 71 = .ok (.iaload, 1) := by decide +kernel
theorem dX5_taxIn_72 : decode cX5_taxIn 72 = .ok (.iload_n 1, 1) := by decide +kernel
theorem dX5_taxIn_73 : decode cX5_taxIn 73 = .ok (.if_icmp .ne 38, 3) := by decide +kernel
theorem dX5_taxIn_76 : decode cX5_taxIn 76 = .ok (.aload_n 0, 1) := by decide +kernel
theorem dX5_taxIn_77 : decode cX5_taxIn 77 = .ok (.getfield 22, 3) := by decide +kernel
theorem dX5_taxIn_80 : decode cX5_taxIn 80 = .ok (.iload 4, 2) := by decide +kernel
theorem dX5_taxIn_82 : decode cX5_taxIn 82 = .ok (.iaload, 1) := by decide +kernel
theorem dX5_taxIn_83 : decode cX5_taxIn 83 = .ok (.iconst 1, 1) := by decide +kernel
theorem dX5_taxIn_84 : decode cX5_taxIn 84 = .ok (.if_icmp .ne 27, 3) := by decide +kernel
theorem dX5_taxIn_87 : decode cX5_taxIn 87 = .ok (.aload_n 0, 1) := by decide +kernel
theorem dX5_taxIn_88 : decode cX5_taxIn 88 = .ok (.getfield 28, 3) := by decide +kernel
theorem dX5_taxIn_91 : decode cX5_taxIn 91 = .ok (.iload 4, 2) := by decide +kernel
theorem dX5_taxIn_93 : decode cX5_taxIn 93 = .ok (.iaload, 1) := by decide +kernel
theorem dX5_taxIn_94 : decode cX5_taxIn 94 = .ok (.bipush 30, 2) := by decide +kernel
theorem dX5_taxIn_96 : decode cX5_taxIn 96 = .ok (.idiv, 1) := by decide +kernel
theorem dX5_taxIn_97 : decode cX5_taxIn 97 = .ok (.iload_n 2, 1) := by decide +kernel
theorem dX5_taxIn_98 : decode cX5_taxIn 98 = .ok (.if_icmp .ne 13, 3) := by decide +kernel
theorem dX5_taxIn_101 : decode cX5_taxIn 101 = .ok (.aload_n 0, 1) := by decide +kernel
theorem dX5_taxIn_102 : decode cX5_taxIn 102 = .ok (.iload 4, 2) := by decide +kernel
theorem dX5_taxIn_104 : decode cX5_taxIn 104 = .ok (.iconst 1, 1) := by decide +kernel
theorem dX5_taxIn_105 : decode cX5_taxIn 105 = .ok (.invokevirtual 139, 3) := by decide +kernel
theorem dX5_taxIn_108 : decode cX5_taxIn 108 = .ok (.goto 4, 3) := by decide +kernel
theorem dX5_taxIn_111 : decode cX5_taxIn 111 = .ok (.iconst 0, 1) := by decide +kernel
theorem dX5_taxIn_112 : decode cX5_taxIn 112 = .ok (.isub, 1) := by decide +kernel
theorem dX5_taxIn_113 : decode cX5_taxIn 113 = .ok (.istore_n 3, 1) := by decide +kernel
theorem dX5_taxIn_114 : decode cX5_taxIn 114 = .ok (.iinc 4 1, 3) := by decide +kernel
theorem dX5_taxIn_117 : decode cX5_taxIn 117 = .ok (.goto (-112), 3) := by decide +kernel
theorem dX5_taxIn_120 : decode cX5_taxIn 120 = .ok (.iconst 0, 1) := by decide +kernel
theorem dX5_taxIn_121 : decode cX5_taxIn 121 = .ok (.istore 4, 2) := by decide +kernel
theorem dX5_taxIn_123 : decode cX5_taxIn 123 = .ok (.iload 4, 2) := by decide +kernel
theorem dX5_taxIn_125 : decode cX5_taxIn 125 = .ok (.aload_n 0, 1) := by decide +kernel
theorem dX5_taxIn_126 : decode cX5_taxIn 126 = .ok (.getfield 100, 3) := by decide +kernel
theorem dX5_taxIn_129 : decode cX5_taxIn 129 = .ok (.if_icmp .ge 121, 3) := by decide +kernel
theorem dX5_taxIn_132 : decode cX5_taxIn 132 = .ok (.aload_n 0, 1) := by decide +kernel
theorem dX5_taxIn_133 : decode cX5_taxIn 133 = .ok (.getfield 59, 3) := by decide +kernel
theorem dX5_taxIn_136 : decode cX5_taxIn 136 = .ok (.iload 4, 2) := by decide +kernel
theorem dX5_taxIn_138 : decode cX5_taxIn 138 = .ok (.iaload, 1) := by decide +kernel
theorem dX5_taxIn_139 : decode cX5_taxIn 139 = .ok (.istore 5, 2) := by decide +kernel
theorem dX5_taxIn_141 : decode cX5_taxIn 141 = .ok (.aload_n 0, 1) := by decide +kernel
theorem dX5_taxIn_142 : decode cX5_taxIn 142 = .ok (.getfield 62, 3) := by decide +kernel
theorem dX5_taxIn_145 : decode cX5_taxIn 145 = .ok (.iload 4, 2) := by decide +kernel
theorem dX5_taxIn_147 : decode cX5_taxIn 147 = .ok (.iaload, 1) := by decide +kernel
theorem dX5_taxIn_148 : decode cX5_taxIn 148 = .ok (.bipush 30, 2) := by decide +kernel
theorem dX5_taxIn_150 : decode cX5_taxIn 150 = .ok (.idiv, 1) := by decide +kernel
theorem dX5_taxIn_151 : decode cX5_taxIn 151 = .ok (.iload_n 2, 1) := by decide +kernel
theorem dX5_taxIn_152 : decode cX5_taxIn 152 = .ok (.if_icmp .ne 7, 3) := by decide +kernel
theorem dX5_taxIn_155 : decode cX5_taxIn 155 = .ok (.iconst 1, 1) := by decide +kernel
theorem dX5_taxIn_156 : decode cX5_taxIn 156 = .ok (.goto 4, 3) := by decide +kernel
theorem dX5_taxIn_159 : decode cX5_taxIn 159 = .ok (.iconst 0, 1) := by decide +kernel
theorem dX5_taxIn_160 : decode cX5_taxIn 160 = .ok (.istore 6, 2) := by decide +kernel
theorem dX5_taxIn_162 : decode cX5_taxIn 162 = .ok (.iload_n 3, 1) := by decide +kernel
theorem dX5_taxIn_163 : decode cX5_taxIn 163 = .ok (.iload 6, 2) := by decide +kernel
theorem dX5_taxIn_165 : decode cX5_taxIn 165 = .ok (.ifCond .eq 35, 3) := by decide +kernel
theorem dX5_taxIn_168 : decode cX5_taxIn 168 = .ok (.aload_n 0, 1) := by decide +kernel
theorem dX5_taxIn_169 : decode cX5_taxIn 169 = .ok (.getfield 13, 3) := by decide +kernel
theorem dX5_taxIn_172 : decode cX5_taxIn 172 = .ok (.iload 5, 2) := by decide +kernel
theorem dX5_taxIn_174 : decode cX5_taxIn 174 = .ok (.iaload, 1) := by decide +kernel
theorem dX5_taxIn_175 : decode cX5_taxIn 175 = .ok (.iload_n 1, 1) := by decide +kernel
theorem dX5_taxIn_176 : decode cX5_taxIn 176 = .ok (.if_icmp .ne 24, 3) := by decide +kernel
theorem dX5_taxIn_179 : decode cX5_taxIn 179 = .ok (.aload_n 0, 1) := by decide +kernel
theorem dX5_taxIn_180 : decode cX5_taxIn 180 = .ok (.getfield 22, 3) := by decide +kernel
theorem dX5_taxIn_183 : decode cX5_taxIn 183 = .ok (.iload 5, 2) := by decide +kernel
theorem dX5_taxIn_185 : decode cX5_taxIn 185 = .ok (.iaload, 1) := by decide +kernel
theorem dX5_taxIn_186 : decode cX5_taxIn 186 = .ok (.iconst 2, 1) := by decide +kernel
theorem dX5_taxIn_187 : decode cX5_taxIn 187 = .ok (.if_icmp .eq 13, 3) := by decide +kernel
theorem dX5_taxIn_190 : decode cX5_taxIn 190 = .ok (.aload_n 0, 1) := by decide +kernel
theorem dX5_taxIn_191 : decode cX5_taxIn 191 = .ok (.getfield 65, 3) := by decide +kernel
theorem dX5_taxIn_194 : decode cX5_taxIn 194 = .ok (.iload 4, 2) := by decide +kernel
theorem dX5_taxIn_196 : decode cX5_taxIn 196 = .ok (.iaload, 1) := by decide +kernel
theorem dX5_taxIn_197 : decode cX5_taxIn 197 = .ok (.goto 4, 3) := by decide +kernel
theorem dX5_taxIn_200 : decode cX5_taxIn 200 = .ok (.iconst 0, 1) := by decide +kernel
theorem dX5_taxIn_201 : decode cX5_taxIn 201 = .ok (.isub, 1) := by decide +kernel
theorem dX5_taxIn_202 : decode cX5_taxIn 202 = .ok (.istore_n 3, 1) := by decide +kernel
theorem dX5_taxIn_203 : decode cX5_taxIn 203 = .ok (.iload_n 3, 1) := by decide +kernel
theorem dX5_taxIn_204 : decode cX5_taxIn 204 = .ok (.iload 6, 2) := by decide +kernel
theorem dX5_taxIn_206 : decode cX5_taxIn 206 = .ok (.ifCond .eq 35, 3) := by decide +kernel
theorem dX5_taxIn_209 : decode cX5_taxIn 209 = .ok (.aload_n 0, 1) := by decide +kernel
theorem dX5_taxIn_210 : decode cX5_taxIn 210 = .ok (.getfield 16, 3) := by decide +kernel
theorem dX5_taxIn_213 : decode cX5_taxIn 213 = .ok (.iload 5, 2) := by decide +kernel
theorem dX5_taxIn_215 : decode cX5_taxIn 215 = .ok (.iaload, 1) := by decide +kernel
theorem dX5_taxIn_216 : decode cX5_taxIn 216 = .ok (.iload_n 1, 1) := by decide +kernel
theorem dX5_taxIn_217 : decode cX5_taxIn 217 = .ok (.if_icmp .ne 24, 3) := by decide +kernel
theorem dX5_taxIn_220 : decode cX5_taxIn 220 = .ok (.aload_n 0, 1) := by decide +kernel
theorem dX5_taxIn_221 : decode cX5_taxIn 221 = .ok (.getfield 22, 3) := by decide +kernel
theorem dX5_taxIn_224 : decode cX5_taxIn 224 = .ok (.iload 5, 2) := by decide +kernel
theorem dX5_taxIn_226 : decode cX5_taxIn 226 = .ok (.iaload, 1) := by decide +kernel
theorem dX5_taxIn_227 : decode cX5_taxIn 227 = .ok (.iconst 1, 1) := by decide +kernel
theorem dX5_taxIn_228 : decode cX5_taxIn 228 = .ok (.if_icmp .ne 13, 3) := by decide +kernel
theorem dX5_taxIn_231 : decode cX5_taxIn 231 = .ok (.aload_n 0, 1) := by decide +kernel
theorem dX5_taxIn_232 : decode cX5_taxIn 232 = .ok (.getfield 65, 3) := by decide +kernel
theorem dX5_taxIn_235 : decode cX5_taxIn 235 = .ok (.iload 4, 2) := by decide +kernel
theorem dX5_taxIn_237 : decode cX5_taxIn 237 = .ok (.iaload, 1) := by decide +kernel
theorem dX5_taxIn_238 : decode cX5_taxIn 238 = .ok (.goto 4, 3) := by decide +kernel
theorem dX5_taxIn_241 : decode cX5_taxIn 241 = .ok (.iconst 0, 1) := by decide +kernel
theorem dX5_taxIn_242 : decode cX5_taxIn 242 = .ok (.iadd, 1) := by decide +kernel
theorem dX5_taxIn_243 : decode cX5_taxIn 243 = .ok (.istore_n 3, 1) := by decide +kernel
theorem dX5_taxIn_244 : decode cX5_taxIn 244 = .ok (.iinc 4 1, 3) := by decide +kernel
theorem dX5_taxIn_247 : decode cX5_taxIn 247 = .ok (.goto (-124), 3) := by decide +kernel
theorem dX5_taxIn_250 : decode cX5_taxIn 250 = .ok (.iload_n 3, 1) := by decide +kernel
theorem dX5_taxIn_251 : decode cX5_taxIn 251 = .ok (.ireturn, 1) := by decide +kernel
theorem dX5_taxUpTo_0 : decode cX5_taxUpTo 0 = .ok (.iconst 0, 1) := by decide +kernel
theorem dX5_taxUpTo_1 : decode cX5_taxUpTo 1 = .ok (.istore_n 3, 1) := by decide +kernel
theorem dX5_taxUpTo_2 : decode cX5_taxUpTo 2 = .ok (.iconst 0, 1) := by decide +kernel
theorem dX5_taxUpTo_3 : decode cX5_taxUpTo 3 = .ok (.istore 4, 2) := by decide +kernel
theorem dX5_taxUpTo_5 : decode cX5_taxUpTo 5 = .ok (.iload 4, 2) := by decide +kernel
theorem dX5_taxUpTo_7 : decode cX5_taxUpTo 7 = .ok (.iload_n 2, 1) := by decide +kernel
theorem dX5_taxUpTo_8 : decode cX5_taxUpTo 8 = .ok (.if_icmp .gt 27, 3) := by decide +kernel
theorem dX5_taxUpTo_11 : decode cX5_taxUpTo 11 = .ok (.iload_n 3, 1) := by decide +kernel
theorem dX5_taxUpTo_12 : decode cX5_taxUpTo 12 = .ok (.ifCond .ge 7, 3) := by decide +kernel
theorem dX5_taxUpTo_15 : decode cX5_taxUpTo 15 = .ok (.iload_n 3, 1) := by decide +kernel
theorem dX5_taxUpTo_16 : decode cX5_taxUpTo 16 = .ok (.goto 4, 3) := by decide +kernel
theorem dX5_taxUpTo_19 : decode cX5_taxUpTo 19 = .ok (.iconst 0, 1) := by decide +kernel
theorem dX5_taxUpTo_20 : decode cX5_taxUpTo 20 = .ok (.aload_n 0, 1) := by decide +kernel
theorem dX5_taxUpTo_21 : decode cX5_taxUpTo 21 = .ok (.iload_n 1, 1) := by decide +kernel
theorem dX5_taxUpTo_22 : decode cX5_taxUpTo 22 = .ok (.iload 4, 2) := by decide +kernel
theorem dX5_taxUpTo_24 : decode cX5_taxUpTo 24 = .ok (.invokevirtual 145, 3) := by decide +kernel
theorem dX5_taxUpTo_27 : decode cX5_taxUpTo 27 = .ok (.iadd, 1) := by decide +kernel
theorem dX5_taxUpTo_28 : decode cX5_taxUpTo 28 = .ok (.istore_n 3, 1) := by decide +kernel
theorem dX5_taxUpTo_29 : decode cX5_taxUpTo 29 = .ok (.iinc 4 1, 3) := by decide +kernel
theorem dX5_taxUpTo_32 : decode cX5_taxUpTo 32 = .ok (.goto (-27), 3) := by decide +kernel
theorem dX5_taxUpTo_35 : decode cX5_taxUpTo 35 = .ok (.iload_n 3, 1) := by decide +kernel
theorem dX5_taxUpTo_36 : decode cX5_taxUpTo 36 = .ok (.ireturn, 1) := by decide +kernel
theorem dX5_isMonth_0 : decode cX5_isMonth 0 = .ok (.iload_n 1, 1) := by decide +kernel
theorem dX5_isMonth_1 : decode cX5_isMonth 1 = .ok (.iconst 0, 1) := by decide +kernel
theorem dX5_isMonth_2 : decode cX5_isMonth 2 = .ok (.aload_n 0, 1) := by decide +kernel
theorem dX5_isMonth_3 : decode cX5_isMonth 3 = .ok (.getfield 93, 3) := by decide +kernel
theorem dX5_isMonth_6 : decode cX5_isMonth 6 = .ok (.bipush 30, 2) := by decide +kernel
theorem dX5_isMonth_8 : decode cX5_isMonth 8 = .ok (.idiv, 1) := by decide +kernel
theorem dX5_isMonth_9 : decode cX5_isMonth 9 = .ok (.invokestatic 75, 3) := by decide +kernel
theorem dX5_isMonth_12 : decode cX5_isMonth 12 = .ok (.ireturn, 1) := by decide +kernel
theorem dX5_tax_0 : decode cX5_tax 0 = .ok (.aload_n 0, 1) := by decide +kernel
theorem dX5_tax_1 : decode cX5_tax 1 = .ok (.iload_n 1, 1) := by decide +kernel
theorem dX5_tax_2 : decode cX5_tax 2 = .ok (.invokestatic 86, 3) := by decide +kernel
theorem dX5_tax_5 : decode cX5_tax 5 = .ok (.ifCond .eq 15, 3) := by decide +kernel
theorem dX5_tax_8 : decode cX5_tax 8 = .ok (.aload_n 0, 1) := by decide +kernel
theorem dX5_tax_9 : decode cX5_tax 9 = .ok (.iload_n 2, 1) := by decide +kernel
theorem dX5_tax_10 : decode cX5_tax 10 = .ok (.invokevirtual 148, 3) := by decide +kernel
theorem dX5_tax_13 : decode cX5_tax 13 = .ok (.ifCond .eq 7, 3) := by decide +kernel
theorem dX5_tax_16 : decode cX5_tax 16 = .ok (.iconst 0, 1) := by decide +kernel
theorem dX5_tax_17 : decode cX5_tax 17 = .ok (.goto 4, 3) := by decide +kernel
theorem dX5_tax_20 : decode cX5_tax 20 = .ok (.iconst 1, 1) := by decide +kernel
theorem dX5_tax_21 : decode cX5_tax 21 = .ok (.putfield 71, 3) := by decide +kernel
theorem dX5_tax_24 : decode cX5_tax 24 = .ok (.aload_n 0, 1) := by decide +kernel
theorem dX5_tax_25 : decode cX5_tax 25 = .ok (.getfield 71, 3) := by decide +kernel
theorem dX5_tax_28 : decode cX5_tax 28 = .ok (.ifCond .le 5, 3) := by decide +kernel
theorem dX5_tax_31 : decode cX5_tax 31 = .ok (.iconst 0, 1) := by decide +kernel
theorem dX5_tax_32 : decode cX5_tax 32 = .ok (.ireturn, 1) := by decide +kernel
theorem dX5_tax_33 : decode cX5_tax 33 = .ok (.aload_n 0, 1) := by decide +kernel
theorem dX5_tax_34 : decode cX5_tax 34 = .ok (.iload_n 1, 1) := by decide +kernel
theorem dX5_tax_35 : decode cX5_tax 35 = .ok (.iload_n 2, 1) := by decide +kernel
theorem dX5_tax_36 : decode cX5_tax 36 = .ok (.invokevirtual 151, 3) := by decide +kernel
theorem dX5_tax_39 : decode cX5_tax 39 = .ok (.istore_n 3, 1) := by decide +kernel
theorem dX5_tax_40 : decode cX5_tax 40 = .ok (.iload_n 3, 1) := by decide +kernel
theorem dX5_tax_41 : decode cX5_tax 41 = .ok (.ifCond .le 7, 3) := by decide +kernel
theorem dX5_tax_44 : decode cX5_tax 44 = .ok (.iload_n 3, 1) := by decide +kernel
theorem dX5_tax_45 : decode cX5_tax 45 = .ok (.goto 4, 3) := by decide +kernel
theorem dX5_tax_48 : decode cX5_tax 48 = .ok (.iconst 0, 1) := by decide +kernel
theorem dX5_tax_49 : decode cX5_tax 49 = .ok (.ireturn, 1) := by decide +kernel
theorem dX5_carried_0 : decode cX5_carried 0 = .ok (.aload_n 0, 1) := by decide +kernel
theorem dX5_carried_1 : decode cX5_carried 1 = .ok (.iload_n 1, 1) := by decide +kernel
theorem dX5_carried_2 : decode cX5_carried 2 = .ok (.invokestatic 86, 3) := by decide +kernel
theorem dX5_carried_5 : decode cX5_carried 5 = .ok (.ifCond .eq 15, 3) := by decide +kernel
theorem dX5_carried_8 : decode cX5_carried 8 = .ok (.aload_n 0, 1) := by decide +kernel
theorem dX5_carried_9 : decode cX5_carried 9 = .ok (.iload_n 2, 1) := by decide +kernel
theorem dX5_carried_10 : decode cX5_carried 10 = .ok (.invokevirtual 148, 3) := by decide +kernel
theorem dX5_carried_13 : decode cX5_carried 13 = .ok (.ifCond .eq 7, 3) := by decide +kernel
theorem dX5_carried_16 : decode cX5_carried 16 = .ok (.iconst 0, 1) := by decide +kernel
theorem dX5_carried_17 : decode cX5_carried 17 = .ok (.goto 4, 3) := by decide +kernel
theorem dX5_carried_20 : decode cX5_carried 20 = .ok (.iconst 1, 1) := by decide +kernel
theorem dX5_carried_21 : decode cX5_carried 21 = .ok (.putfield 71, 3) := by decide +kernel
theorem dX5_carried_24 : decode cX5_carried 24 = .ok (.aload_n 0, 1) := by decide +kernel
theorem dX5_carried_25 : decode cX5_carried 25 = .ok (.getfield 71, 3) := by decide +kernel
theorem dX5_carried_28 : decode cX5_carried 28 = .ok (.ifCond .le 5, 3) := by decide +kernel
theorem dX5_carried_31 : decode cX5_carried 31 = .ok (.iconst 0, 1) := by decide +kernel
theorem dX5_carried_32 : decode cX5_carried 32 = .ok (.ireturn, 1) := by decide +kernel
theorem dX5_carried_33 : decode cX5_carried 33 = .ok (.aload_n 0, 1) := by decide +kernel
theorem dX5_carried_34 : decode cX5_carried 34 = .ok (.iload_n 1, 1) := by decide +kernel
theorem dX5_carried_35 : decode cX5_carried 35 = .ok (.iload_n 2, 1) := by decide +kernel
theorem dX5_carried_36 : decode cX5_carried 36 = .ok (.invokevirtual 151, 3) := by decide +kernel
theorem dX5_carried_39 : decode cX5_carried 39 = .ok (.istore_n 3, 1) := by decide +kernel
theorem dX5_carried_40 : decode cX5_carried 40 = .ok (.iload_n 3, 1) := by decide +kernel
theorem dX5_carried_41 : decode cX5_carried 41 = .ok (.ifCond .ge 7, 3) := by decide +kernel
theorem dX5_carried_44 : decode cX5_carried 44 = .ok (.iload_n 3, 1) := by decide +kernel
theorem dX5_carried_45 : decode cX5_carried 45 = .ok (.goto 4, 3) := by decide +kernel
theorem dX5_carried_48 : decode cX5_carried 48 = .ok (.iconst 0, 1) := by decide +kernel
theorem dX5_carried_49 : decode cX5_carried 49 = .ok (.ireturn, 1) := by decide +kernel
theorem dX5_chain_0 : decode cX5_chain 0 = .ok (.aload_n 0, 1) := by decide +kernel
theorem dX5_chain_1 : decode cX5_chain 1 = .ok (.iload_n 1, 1) := by decide +kernel
theorem dX5_chain_2 : decode cX5_chain 2 = .ok (.iconst 0, 1) := by decide +kernel
theorem dX5_chain_3 : decode cX5_chain 3 = .ok (.bipush 7, 2) := by decide +kernel
theorem dX5_chain_5 : decode cX5_chain 5 = .ok (.invokestatic 75, 3) := by decide +kernel
theorem dX5_chain_8 : decode cX5_chain 8 = .ok (.ifCond .eq 7, 3) := by decide +kernel
theorem dX5_chain_11 : decode cX5_chain 11 = .ok (.iconst 0, 1) := by decide +kernel
theorem dX5_chain_12 : decode cX5_chain 12 = .ok (.goto 4, 3) := by decide +kernel
theorem dX5_chain_15 : decode cX5_chain 15 = .ok (.iconst 1, 1) := by decide +kernel
theorem dX5_chain_16 : decode cX5_chain 16 = .ok (.putfield 71, 3) := by decide +kernel
theorem dX5_chain_19 : decode cX5_chain 19 = .ok (.iconst 0, 1) := by decide +kernel
theorem dX5_chain_20 : decode cX5_chain 20 = .ok (.istore_n 2, 1) := by decide +kernel
theorem dX5_chain_21 : decode cX5_chain 21 = .ok (.iconst 0, 1) := by decide +kernel
theorem dX5_chain_22 : decode cX5_chain 22 = .ok (.istore_n 3, 1) := by decide +kernel
theorem dX5_chain_23 : decode cX5_chain 23 = .ok (.iload_n 3, 1) := by decide +kernel
theorem dX5_chain_24 : decode cX5_chain 24 = .ok (.aload_n 0, 1) := by decide +kernel
theorem dX5_chain_25 : decode cX5_chain 25 = .ok (.getfield 79, 3) := by decide +kernel
theorem dX5_chain_28 : decode cX5_chain 28 = .ok (.if_icmp .ge 157, 3) := by decide +kernel
theorem dX5_chain_31 : decode cX5_chain 31 = .ok (.aload_n 0, 1) := by decide +kernel
theorem dX5_chain_32 : decode cX5_chain 32 = .ok (.getfield 71, 3) := by decide +kernel
theorem dX5_chain_35 : decode cX5_chain 35 = .ok (.ifCond .ne 150, 3) := by decide +kernel
theorem dX5_chain_38 : decode cX5_chain 38 = .ok (.aload_n 0, 1) := by decide +kernel
theorem dX5_chain_39 : decode cX5_chain 39 = .ok (.getfield 19, 3) := by decide +kernel
theorem dX5_chain_42 : decode cX5_chain 42 = .ok (.iload_n 3, 1) := by decide +kernel
theorem dX5_chain_43 : decode cX5_chain 43 = .ok (.iaload, 1) := by decide +kernel
theorem dX5_chain_44 : decode cX5_chain 44 = .ok (.iload_n 1, 1) := by decide +kernel
theorem dX5_chain_45 : decode cX5_chain 45 = .ok (.if_icmp .ne 134, 3) := by decide +kernel
theorem dX5_chain_48 : decode cX5_chain 48 = .ok (.aload_n 0, 1) := by decide +kernel
theorem dX5_chain_49 : decode cX5_chain 49 = .ok (.getfield 22, 3) := by decide +kernel
theorem dX5_chain_52 : decode cX5_chain 52 = .ok (.iload_n 3, 1) := by decide +kernel
theorem dX5_chain_53 : decode cX5_chain 53 = .ok (.iaload, 1) := by decide +kernel
theorem dX5_chain_54 : decode cX5_chain 54 = .ok (.iconst 1, 1) := by decide +kernel
theorem dX5_chain_55 : decode cX5_chain 55 = .ok (.if_icmp .ne 124, 3) := by decide +kernel
theorem dX5_chain_58 : decode cX5_chain 58 = .ok (.iconst 0, 1) := by decide +kernel
theorem dX5_chain_59 : decode cX5_chain 59 = .ok (.istore 4, 2) := by decide +kernel
theorem dX5_chain_61 : decode cX5_chain 61 = .ok (.iconst 0, 1) := by decide +kernel
theorem dX5_chain_62 : decode cX5_chain 62 = .ok (.istore 5, 2) := by decide +kernel
theorem dX5_chain_64 : decode cX5_chain 64 = .ok (.iload 5, 2) := by decide +kernel
theorem dX5_chain_66 : decode cX5_chain 66 = .ok (.iload_n 3, 1) := by decide +kernel
theorem dX5_chain_67 : decode cX5_chain 67 = .ok (.if_icmp .ge 85, 3) := by decide +kernel
theorem dX5_chain_70 : decode cX5_chain 70 = .ok (.aload_n 0, 1) := by decide +kernel
theorem dX5_chain_71 : decode cX5_chain 71 = .ok (.getfield 19, 3) := by decide +kernel
theorem dX5_chain_74 : decode cX5_chain 74 = .ok (.iload 5, 2) := by decide +kernel
theorem dX5_chain_76 : decode cX5_chain 76 = .ok (.iaload, 1) := by decide +kernel
theorem dX5_chain_77 : decode cX5_chain 77 = .ok (.iload_n 1, 1) := by decide +kernel
theorem dX5_chain_78 : decode cX5_chain 78 = .ok (.if_icmp .ne 34, 3) := by decide +kernel
theorem dX5_chain_81 : decode cX5_chain 81 = .ok (.aload_n 0, 1) := by decide +kernel
theorem dX5_chain_82 : decode cX5_chain 82 = .ok (.getfield 22, 3) := by decide +kernel
theorem dX5_chain_85 : decode cX5_chain 85 = .ok (.iload 5, 2) := by decide +kernel
theorem dX5_chain_87 : decode cX5_chain 87 = .ok (.iaload, 1) := by decide +kernel
theorem dX5_chain_88 : decode cX5_chain 88 = .ok (.iconst 1, 1) := by decide +kernel
theorem dX5_chain_89 : decode cX5_chain 89 = .ok (.if_icmp .ne 23, 3) := by decide +kernel
theorem dX5_chain_92 : decode cX5_chain 92 = .ok (.aload_n 0, 1) := by decide +kernel
theorem dX5_chain_93 : decode cX5_chain 93 = .ok (.getfield 16, 3) := by decide +kernel
theorem dX5_chain_96 : decode cX5_chain 96 = .ok (.iload 5, 2) := by decide +kernel
theorem dX5_chain_98 : decode cX5_chain 98 = .ok (.iaload, 1) := by decide +kernel
theorem dX5_chain_99 : decode cX5_chain 99 = .ok (.aload_n 0, 1) := by decide +kernel
theorem dX5_chain_100 : decode cX5_chain 100 = .ok (.getfield 13, 3) := by decide +kernel
theorem dX5_chain_103 : decode cX5_chain 103 = .ok (.iload_n 3, 1) := by decide +kernel
theorem dX5_chain_104 : decode cX5_chain 104 = .ok (.iaload, 1) := by decide +kernel
theorem dX5_chain_105 : decode cX5_chain 105 = .ok (.if_icmp .ne 7, 3) := by decide +kernel
theorem dX5_chain_108 : decode cX5_chain 108 = .ok (.iconst 1, 1) := by decide +kernel
theorem dX5_chain_109 : decode cX5_chain 109 = .ok (.goto 4, 3) := by decide +kernel
theorem dX5_chain_112 : decode cX5_chain 112 = .ok (.iconst 0, 1) := by decide +kernel
theorem dX5_chain_113 : decode cX5_chain 113 = .ok (.istore 6, 2) := by decide +kernel
theorem dX5_chain_115 : decode cX5_chain 115 = .ok (.iload 6, 2) := by decide +kernel
theorem dX5_chain_117 : decode cX5_chain 117 = .ok (.ifCond .eq 25, 3) := by decide +kernel
theorem dX5_chain_120 : decode cX5_chain 120 = .ok (.aload_n 0, 1) := by decide +kernel
theorem dX5_chain_121 : decode cX5_chain 121 = .ok (.iload 5, 2) := by decide +kernel
theorem dX5_chain_123 : decode cX5_chain 123 = .ok (.iconst 0, 1) := by decide +kernel
theorem dX5_chain_124 : decode cX5_chain 124 = .ok (.invokevirtual 139, 3) := by decide +kernel
theorem dX5_chain_127 : decode cX5_chain 127 = .ok (.iload 4, 2) := by decide +kernel
theorem dX5_chain_129 : decode cX5_chain 129 = .ok (.if_icmp .le 13, 3) := by decide +kernel
theorem dX5_chain_132 : decode cX5_chain 132 = .ok (.aload_n 0, 1) := by decide +kernel
theorem dX5_chain_133 : decode cX5_chain 133 = .ok (.iload 5, 2) := by decide +kernel
theorem dX5_chain_135 : decode cX5_chain 135 = .ok (.iconst 0, 1) := by decide +kernel
theorem dX5_chain_136 : decode cX5_chain 136 = .ok (.invokevirtual 139, 3) := by decide +kernel
theorem dX5_chain_139 : decode cX5_chain 139 = .ok (.goto 5, 3) := by decide +kernel
theorem dX5_chain_142 : decode cX5_chain 142 = .ok (.iload 4, 2) := by decide +kernel
theorem dX5_chain_144 : decode cX5_chain 144 = .ok (.istore 4, 2) := by decide +kernel
theorem dX5_chain_146 : decode cX5_chain 146 = .ok (.iinc 5 1, 3) := by decide +kernel
theorem dX5_chain_149 : decode cX5_chain 149 = .ok (.goto (-85), 3) := by decide +kernel
theorem dX5_chain_152 : decode cX5_chain 152 = .ok (.iload_n 2, 1) := by decide +kernel
theorem dX5_chain_153 : decode cX5_chain 153 = .ok (.aload_n 0, 1) := by decide +kernel
theorem dX5_chain_154 : decode cX5_chain 154 = .ok (.iload_n 3, 1) := by decide +kernel
theorem dX5_chain_155 : decode cX5_chain 155 = .ok (.iconst 0, 1) := by decide +kernel
theorem dX5_chain_156 : decode cX5_chain 156 = .ok (.invokevirtual 139, 3) := by decide +kernel
theorem dX5_chain_159 : decode cX5_chain 159 = .ok (.iload 4, 2) := by decide +kernel
theorem dX5_chain_161 : decode cX5_chain 161 = .ok (.if_icmp .le 15, 3) := by decide +kernel
theorem dX5_chain_164 : decode cX5_chain 164 = .ok (.aload_n 0, 1) := by decide +kernel
theorem dX5_chain_165 : decode cX5_chain 165 = .ok (.iload_n 3, 1) := by decide +kernel
theorem dX5_chain_166 : decode cX5_chain 166 = .ok (.iconst 0, 1) := by decide +kernel
theorem dX5_chain_167 : decode cX5_chain 167 = .ok (.invokevirtual 139, 3) := by decide +kernel
theorem dX5_chain_170 : decode cX5_chain 170 = .ok (.iload 4, 2) := by decide +kernel
theorem dX5_chain_172 : decode cX5_chain 172 = .ok (.isub, 1) := by decide +kernel
theorem dX5_chain_173 : decode cX5_chain 173 = .ok (.goto 4, 3) := by decide +kernel
theorem dX5_chain_176 : decode cX5_chain 176 = .ok (.iconst 0, 1) := by decide +kernel
theorem dX5_chain_177 : decode cX5_chain 177 = .ok (.iadd, 1) := by decide +kernel
theorem dX5_chain_178 : decode cX5_chain 178 = .ok (.istore_n 2, 1) := by decide +kernel
theorem dX5_chain_179 : decode cX5_chain 179 = .ok (.iinc 3 1, 3) := by decide +kernel
theorem dX5_chain_182 : decode cX5_chain 182 = .ok (.goto (-159), 3) := by decide +kernel
theorem dX5_chain_185 : decode cX5_chain 185 = .ok (.iload_n 2, 1) := by decide +kernel
theorem dX5_chain_186 : decode cX5_chain 186 = .ok (.ireturn, 1) := by decide +kernel
theorem dX5_day_0 : decode cX5_day 0 = .ok (.aload_n 0, 1) := by decide +kernel
theorem dX5_day_1 : decode cX5_day 1 = .ok (.iconst 0, 1) := by decide +kernel
theorem dX5_day_2 : decode cX5_day 2 = .ok (.putfield 71, 3) := by decide +kernel
theorem dX5_day_5 : decode cX5_day 5 = .ok (.aload_n 0, 1) := by decide +kernel
theorem dX5_day_6 : decode cX5_day 6 = .ok (.getfield 93, 3) := by decide +kernel
theorem dX5_day_9 : decode cX5_day 9 = .ok (.ireturn, 1) := by decide +kernel
end
section
theorem dJ5_init_d00df_0 : decode cJ5_init_d00df 0 = .ok (.aload_n 0, 1) := by decide +kernel
theorem dJ5_init_d00df_1 : decode cJ5_init_d00df 1 = .ok (.invokespecial 3, 3) := by decide +kernel
theorem dJ5_init_d00df_4 : decode cJ5_init_d00df 4 = .ok (.getstatic 18, 3) := by decide +kernel
theorem dJ5_init_d00df_7 : decode cJ5_init_d00df 7 = .ok (.ifCond .eq 18, 3) := by decide +kernel
theorem dJ5_init_d00df_10 : decode cJ5_init_d00df 10 = .ok (.aload_n 0, 1) := by decide +kernel
theorem dJ5_init_d00df_11 : decode cJ5_init_d00df 11 = .ok (.iload_n 1, 1) := by decide +kernel
theorem dJ5_init_d00df_12 : decode cJ5_init_d00df 12 = .ok (.newarray .byte, 2) := by decide +kernel
theorem dJ5_init_d00df_14 : decode cJ5_init_d00df 14 = .ok (.putfield 15, 3) := by decide +kernel
theorem dJ5_init_d00df_17 : decode cJ5_init_d00df 17 = .ok (.aload_n 0, 1) := by decide +kernel
theorem dJ5_init_d00df_18 : decode cJ5_init_d00df 18 = .ok (.iconst 0, 1) := by decide +kernel
theorem dJ5_init_d00df_19 : decode cJ5_init_d00df 19 = .ok (.putfield 22, 3) := by decide +kernel
theorem dJ5_init_d00df_22 : decode cJ5_init_d00df 22 = .ok (.goto 16, 3) := by decide +kernel
theorem dJ5_init_d00df_25 : decode cJ5_init_d00df 25 = .ok (.aload_n 0, 1) := by decide +kernel
theorem dJ5_init_d00df_26 : decode cJ5_init_d00df 26 = .ok (.iload_n 1, 1) := by decide +kernel
theorem dJ5_init_d00df_27 : decode cJ5_init_d00df 27 = .ok (.invokestatic 26, 3) := by decide +kernel
theorem dJ5_init_d00df_30 : decode cJ5_init_d00df 30 = .ok (.putfield 15, 3) := by decide +kernel
theorem dJ5_init_d00df_33 : decode cJ5_init_d00df 33 = .ok (.aload_n 0, 1) := by decide +kernel
theorem dJ5_init_d00df_34 : decode cJ5_init_d00df 34 = .ok (.iconst 1, 1) := by decide +kernel
theorem dJ5_init_d00df_35 : decode cJ5_init_d00df 35 = .ok (.putfield 22, 3) := by decide +kernel
theorem dJ5_init_d00df_38 : decode cJ5_init_d00df 38 = .ok (.return_, 1) := by decide +kernel
theorem dJ5_length_8abf5_0 : decode cJ5_length_8abf5 0 = .ok (.aload_n 0, 1) := by decide +kernel
theorem dJ5_length_8abf5_1 : decode cJ5_length_8abf5 1 = .ok (.getfield 79, 3) := by decide +kernel
theorem dJ5_length_8abf5_4 : decode cJ5_length_8abf5 4 = .ok (.ireturn, 1) := by decide +kernel
theorem dJ5_ensureCapacityInternal_d00df_0 : decode cJ5_ensureCapacityInternal_d00df 0 = .ok (.aload_n 0, 1) := by decide +kernel
theorem dJ5_ensureCapacityInternal_d00df_1 : decode cJ5_ensureCapacityInternal_d00df 1 = .ok (.getfield 15, 3) := by decide +kernel
theorem dJ5_ensureCapacityInternal_d00df_4 : decode cJ5_ensureCapacityInternal_d00df 4 = .ok (.arraylength, 1) := by decide +kernel
theorem dJ5_ensureCapacityInternal_d00df_5 : decode cJ5_ensureCapacityInternal_d00df 5 = .ok (.aload_n 0, 1) := by decide +kernel
theorem dJ5_ensureCapacityInternal_d00df_6 : decode cJ5_ensureCapacityInternal_d00df 6 = .ok (.getfield 22, 3) := by decide +kernel
theorem dJ5_ensureCapacityInternal_d00df_9 : decode cJ5_ensureCapacityInternal_d00df 9 = .ok (.ishr, 1) := by decide +kernel
theorem dJ5_ensureCapacityInternal_d00df_10 : decode cJ5_ensureCapacityInternal_d00df 10 = .ok (.istore_n 2, 1) := by decide +kernel
theorem dJ5_ensureCapacityInternal_d00df_11 : decode cJ5_ensureCapacityInternal_d00df 11 = .ok (.iload_n 1, 1) := by decide +kernel
theorem dJ5_ensureCapacityInternal_d00df_12 : decode cJ5_ensureCapacityInternal_d00df 12 = .ok (.iload_n 2, 1) := by decide +kernel
theorem dJ5_ensureCapacityInternal_d00df_13 : decode cJ5_ensureCapacityInternal_d00df 13 = .ok (.isub, 1) := by decide +kernel
theorem dJ5_ensureCapacityInternal_d00df_14 : decode cJ5_ensureCapacityInternal_d00df 14 = .ok (.ifCond .le 24, 3) := by decide +kernel
theorem dJ5_ensureCapacityInternal_d00df_17 : decode cJ5_ensureCapacityInternal_d00df 17 = .ok (.aload_n 0, 1) := by decide +kernel
theorem dJ5_ensureCapacityInternal_d00df_18 : decode cJ5_ensureCapacityInternal_d00df 18 = .ok (.aload_n 0, 1) := by decide +kernel
theorem dJ5_ensureCapacityInternal_d00df_19 : decode cJ5_ensureCapacityInternal_d00df 19 = .ok (.getfield 15, 3) := by decide +kernel
theorem dJ5_ensureCapacityInternal_d00df_22 : decode cJ5_ensureCapacityInternal_d00df 22 = .ok (.aload_n 0, 1) := by decide +kernel
theorem dJ5_ensureCapacityInternal_d00df_23 : decode cJ5_ensureCapacityInternal_d00df 23 = .ok (.iload_n 1, 1) := by decide +kernel
theorem dJ5_ensureCapacityInternal_d00df_24 : decode cJ5_ensureCapacityInternal_d00df 24 = .ok (.invokevirtual 104, 3) := by decide +kernel
theorem dJ5_ensureCapacityInternal_d00df_27 : decode cJ5_ensureCapacityInternal_d00df 27 = .ok (.aload_n 0, 1) := by decide +kernel
theorem dJ5_ensureCapacityInternal_d00df_28 : decode cJ5_ensureCapacityInternal_d00df 28 = .ok (.getfield 22, 3) := by decide +kernel
theorem dJ5_ensureCapacityInternal_d00df_31 : decode cJ5_ensureCapacityInternal_d00df 31 = .ok (.ishl, 1) := by decide +kernel
theorem dJ5_ensureCapacityInternal_d00df_32 : decode cJ5_ensureCapacityInternal_d00df 32 = .ok (.invokestatic 108, 3) := by decide +kernel
theorem dJ5_ensureCapacityInternal_d00df_35 : decode cJ5_ensureCapacityInternal_d00df 35 = .ok (.putfield 15, 3) := by decide +kernel
theorem dJ5_ensureCapacityInternal_d00df_38 : decode cJ5_ensureCapacityInternal_d00df 38 = .ok (.return_, 1) := by decide +kernel
theorem dJ5_newCapacity_0f7a4_0 : decode cJ5_newCapacity_0f7a4 0 = .ok (.aload_n 0, 1) := by decide +kernel
theorem dJ5_newCapacity_0f7a4_1 : decode cJ5_newCapacity_0f7a4 1 = .ok (.getfield 15, 3) := by decide +kernel
theorem dJ5_newCapacity_0f7a4_4 : decode cJ5_newCapacity_0f7a4 4 = .ok (.arraylength, 1) := by decide +kernel
theorem dJ5_newCapacity_0f7a4_5 : decode cJ5_newCapacity_0f7a4 5 = .ok (.istore_n 2, 1) := by decide +kernel
theorem dJ5_newCapacity_0f7a4_6 : decode cJ5_newCapacity_0f7a4 6 = .ok (.iload_n 1, 1) := by decide +kernel
theorem dJ5_newCapacity_0f7a4_7 : decode cJ5_newCapacity_0f7a4 7 = .ok (.aload_n 0, 1) := by decide +kernel
theorem dJ5_newCapacity_0f7a4_8 : decode cJ5_newCapacity_0f7a4 8 = .ok (.getfield 22, 3) := by decide +kernel
theorem dJ5_newCapacity_0f7a4_11 : decode cJ5_newCapacity_0f7a4 11 = .ok (.ishl, 1) := by decide +kernel
theorem dJ5_newCapacity_0f7a4_12 : decode cJ5_newCapacity_0f7a4 12 = .ok (.istore_n 3, 1) := by decide +kernel
theorem dJ5_newCapacity_0f7a4_13 : decode cJ5_newCapacity_0f7a4 13 = .ok (.iload_n 3, 1) := by decide +kernel
theorem dJ5_newCapacity_0f7a4_14 : decode cJ5_newCapacity_0f7a4 14 = .ok (.iload_n 2, 1) := by decide +kernel
theorem dJ5_newCapacity_0f7a4_15 : decode cJ5_newCapacity_0f7a4 15 = .ok (.isub, 1) := by decide +kernel
theorem dJ5_newCapacity_0f7a4_16 : decode cJ5_newCapacity_0f7a4 16 = .ok (.istore 4, 2) := by decide +kernel
theorem dJ5_newCapacity_0f7a4_18 : decode cJ5_newCapacity_0f7a4 18 = .ok (.iload_n 2, 1) := by decide +kernel
theorem dJ5_newCapacity_0f7a4_19 : decode cJ5_newCapacity_0f7a4 19 = .ok (.iload 4, 2) := by decide +kernel
theorem dJ5_newCapacity_0f7a4_21 : decode cJ5_newCapacity_0f7a4 21 = .ok (.iload_n 2, 1) := by decide +kernel
theorem dJ5_newCapacity_0f7a4_22 : decode cJ5_newCapacity_0f7a4 22 = .ok (.iconst 2, 1) := by decide +kernel
theorem dJ5_newCapacity_0f7a4_23 : decode cJ5_newCapacity_0f7a4 23 = .ok (.aload_n 0, 1) := by decide +kernel
theorem dJ5_newCapacity_0f7a4_24 : decode cJ5_newCapacity_0f7a4 24 = .ok (.getfield 22, 3) := by decide +kernel
theorem dJ5_newCapacity_0f7a4_27 : decode cJ5_newCapacity_0f7a4 27 = .ok (.ishl, 1) := by decide +kernel
theorem dJ5_newCapacity_0f7a4_28 : decode cJ5_newCapacity_0f7a4 28 = .ok (.iadd, 1) := by decide +kernel
theorem dJ5_newCapacity_0f7a4_29 : decode cJ5_newCapacity_0f7a4 29 = .ok (.invokestatic 114, 3) := by decide +kernel
theorem dJ5_newCapacity_0f7a4_32 : decode cJ5_newCapacity_0f7a4 32 = .ok (.istore 5, 2) := by decide +kernel
theorem dJ5_newCapacity_0f7a4_34 : decode cJ5_newCapacity_0f7a4 34 = .ok (.iload 5, 2) := by decide +kernel
theorem dJ5_newCapacity_0f7a4_36 : decode cJ5_newCapacity_0f7a4 36 = .ok (.ldc 39, 2) := by decide +kernel
theorem dJ5_newCapacity_0f7a4_38 : decode cJ5_newCapacity_0f7a4 38 = .ok (.if_icmp .ne 13, 3) := by decide +kernel
theorem dJ5_newCapacity_0f7a4_41 : decode cJ5_newCapacity_0f7a4 41 = .ok (.new 120, 3) := by decide +kernel
theorem dJ5_newCapacity_0f7a4_44 : decode cJ5_newCapacity_0f7a4 44 = .ok (.dup, 1) := by decide +kernel
theorem dJ5_newCapacity_0f7a4_45 : decode cJ5_newCapacity_0f7a4 45 = .ok (.ldc 122, 2) := by decide +kernel
theorem dJ5_newCapacity_0f7a4_47 : decode cJ5_newCapacity_0f7a4 47 = .ok (.invokespecial 124, 3) := by decide +kernel
theorem dJ5_newCapacity_0f7a4_50 : decode cJ5_newCapacity_0f7a4 50 = .ok (.athrow, 1) := by decide +kernel
theorem dJ5_newCapacity_0f7a4_51 : decode cJ5_newCapacity_0f7a4 51 = .ok (.iload 5, 2) := by decide +kernel
theorem dJ5_newCapacity_0f7a4_53 : decode cJ5_newCapacity_0f7a4 53 = .ok (.aload_n 0, 1) := by decide +kernel
theorem dJ5_newCapacity_0f7a4_54 : decode cJ5_newCapacity_0f7a4 54 = .ok (.getfield 22, 3) := by decide +kernel
theorem dJ5_newCapacity_0f7a4_57 : decode cJ5_newCapacity_0f7a4 57 = .ok (.ishr, 1) := by decide +kernel
theorem dJ5_newCapacity_0f7a4_58 : decode cJ5_newCapacity_0f7a4 58 = .ok (.ireturn, 1) := by decide +kernel
theorem dJ5_setLength_d00df_0 : decode cJ5_setLength_d00df 0 = .ok (.iload_n 1, 1) := by decide +kernel
theorem dJ5_setLength_d00df_1 : decode cJ5_setLength_d00df 1 = .ok (.ifCond .ge 12, 3) := by decide +kernel
theorem dJ5_setLength_d00df_4 : decode cJ5_setLength_d00df 4 = .ok (.new 129, 3) := by decide +kernel
theorem dJ5_setLength_d00df_7 : decode cJ5_setLength_d00df 7 = .ok (.dup, 1) := by decide +kernel
theorem dJ5_setLength_d00df_8 : decode cJ5_setLength_d00df 8 = .ok (.iload_n 1, 1) := by decide +kernel
theorem dJ5_setLength_d00df_9 : decode cJ5_setLength_d00df 9 = .ok (.invokespecial 131, 3) := by decide +kernel
theorem dJ5_setLength_d00df_12 : decode cJ5_setLength_d00df 12 = .ok (.athrow, 1) := by decide +kernel
theorem dJ5_setLength_d00df_13 : decode cJ5_setLength_d00df 13 = .ok (.aload_n 0, 1) := by decide +kernel
theorem dJ5_setLength_d00df_14 : decode cJ5_setLength_d00df 14 = .ok (.iload_n 1, 1) := by decide +kernel
theorem dJ5_setLength_d00df_15 : decode cJ5_setLength_d00df 15 = .ok (.invokevirtual 100, 3) := by decide +kernel
theorem dJ5_setLength_d00df_18 : decode cJ5_setLength_d00df 18 = .ok (.aload_n 0, 1) := by decide +kernel
theorem dJ5_setLength_d00df_19 : decode cJ5_setLength_d00df 19 = .ok (.getfield 79, 3) := by decide +kernel
theorem dJ5_setLength_d00df_22 : decode cJ5_setLength_d00df 22 = .ok (.iload_n 1, 1) := by decide +kernel
theorem dJ5_setLength_d00df_23 : decode cJ5_setLength_d00df 23 = .ok (.if_icmp .ge 40, 3) := by decide +kernel
theorem dJ5_setLength_d00df_26 : decode cJ5_setLength_d00df 26 = .ok (.aload_n 0, 1) := by decide +kernel
theorem dJ5_setLength_d00df_27 : decode cJ5_setLength_d00df 27 = .ok (.invokevirtual 83, 3) := by decide +kernel
theorem dJ5_setLength_d00df_30 : decode cJ5_setLength_d00df 30 = .ok (.ifCond .eq 18, 3) := by decide +kernel
theorem dJ5_setLength_d00df_33 : decode cJ5_setLength_d00df 33 = .ok (.aload_n 0, 1) := by decide +kernel
theorem dJ5_setLength_d00df_34 : decode cJ5_setLength_d00df 34 = .ok (.getfield 15, 3) := by decide +kernel
theorem dJ5_setLength_d00df_37 : decode cJ5_setLength_d00df 37 = .ok (.aload_n 0, 1) := by decide +kernel
theorem dJ5_setLength_d00df_38 : decode cJ5_setLength_d00df 38 = .ok (.getfield 79, 3) := by decide +kernel
theorem dJ5_setLength_d00df_41 : decode cJ5_setLength_d00df 41 = .ok (.iload_n 1, 1) := by decide +kernel
theorem dJ5_setLength_d00df_42 : decode cJ5_setLength_d00df 42 = .ok (.invokestatic 133, 3) := by decide +kernel
theorem dJ5_setLength_d00df_45 : decode cJ5_setLength_d00df 45 = .ok (.goto 31, 3) := by decide +kernel
theorem dJ5_setLength_d00df_48 : decode cJ5_setLength_d00df 48 = .ok (.aload_n 0, 1) := by decide +kernel
theorem dJ5_setLength_d00df_49 : decode cJ5_setLength_d00df 49 = .ok (.getfield 15, 3) := by decide +kernel
theorem dJ5_setLength_d00df_52 : decode cJ5_setLength_d00df 52 = .ok (.aload_n 0, 1) := by decide +kernel
theorem dJ5_setLength_d00df_53 : decode cJ5_setLength_d00df 53 = .ok (.getfield 79, 3) := by decide +kernel
theorem dJ5_setLength_d00df_56 : decode cJ5_setLength_d00df 56 = .ok (.iload_n 1, 1) := by decide +kernel
theorem dJ5_setLength_d00df_57 : decode cJ5_setLength_d00df 57 = .ok (.invokestatic 137, 3) := by decide +kernel
theorem dJ5_setLength_d00df_60 : decode cJ5_setLength_d00df 60 = .ok (.goto 16, 3) := by decide +kernel
theorem dJ5_setLength_d00df_63 : decode cJ5_setLength_d00df 63 = .ok (.aload_n 0, 1) := by decide +kernel
theorem dJ5_setLength_d00df_64 : decode cJ5_setLength_d00df 64 = .ok (.getfield 79, 3) := by decide +kernel
theorem dJ5_setLength_d00df_67 : decode cJ5_setLength_d00df 67 = .ok (.iload_n 1, 1) := by decide +kernel
theorem dJ5_setLength_d00df_68 : decode cJ5_setLength_d00df 68 = .ok (.if_icmp .le 8, 3) := by decide +kernel
theorem dJ5_setLength_d00df_71 : decode cJ5_setLength_d00df 71 = .ok (.aload_n 0, 1) := by decide +kernel
theorem dJ5_setLength_d00df_72 : decode cJ5_setLength_d00df 72 = .ok (.iconst 1, 1) := by decide +kernel
theorem dJ5_setLength_d00df_73 : decode cJ5_setLength_d00df 73 = .ok (.putfield 73, 3) := by decide +kernel
theorem dJ5_setLength_d00df_76 : decode cJ5_setLength_d00df 76 = .ok (.aload_n 0, 1) := by decide +kernel
theorem dJ5_setLength_d00df_77 : decode cJ5_setLength_d00df 77 = .ok (.iload_n 1, 1) := by decide +kernel
theorem dJ5_setLength_d00df_78 : decode cJ5_setLength_d00df 78 = .ok (.putfield 79, 3) := by decide +kernel
theorem dJ5_setLength_d00df_81 : decode cJ5_setLength_d00df 81 = .ok (.return_, 1) := by decide +kernel
theorem dJ5_charAt_5068e_0 : decode cJ5_charAt_5068e 0 = .ok (.aload_n 0, 1) := by decide +kernel
theorem dJ5_charAt_5068e_1 : decode cJ5_charAt_5068e 1 = .ok (.getfield 22, 3) := by decide +kernel
theorem dJ5_charAt_5068e_4 : decode cJ5_charAt_5068e 4 = .ok (.istore_n 2, 1) := by decide +kernel
theorem dJ5_charAt_5068e_5 : decode cJ5_charAt_5068e 5 = .ok (.aload_n 0, 1) := by decide +kernel
theorem dJ5_charAt_5068e_6 : decode cJ5_charAt_5068e 6 = .ok (.getfield 15, 3) := by decide +kernel
theorem dJ5_charAt_5068e_9 : decode cJ5_charAt_5068e 9 = .ok (.astore_n 3, 1) := by decide +kernel
theorem dJ5_charAt_5068e_10 : decode cJ5_charAt_5068e 10 = .ok (.aload_n 0, 1) := by decide +kernel
theorem dJ5_charAt_5068e_11 : decode cJ5_charAt_5068e 11 = .ok (.getfield 79, 3) := by decide +kernel
theorem dJ5_charAt_5068e_14 : decode cJ5_charAt_5068e 14 = .ok (.aload_n 3, 1) := by decide +kernel
theorem dJ5_charAt_5068e_15 : decode cJ5_charAt_5068e 15 = .ok (.arraylength, 1) := by decide +kernel
theorem dJ5_charAt_5068e_16 : decode cJ5_charAt_5068e 16 = .ok (.iload_n 2, 1) := by decide +kernel
theorem dJ5_charAt_5068e_17 : decode cJ5_charAt_5068e 17 = .ok (.ishr, 1) := by decide +kernel
theorem dJ5_charAt_5068e_18 : decode cJ5_charAt_5068e 18 = .ok (.invokestatic 138, 3) := by decide +kernel
theorem dJ5_charAt_5068e_21 : decode cJ5_charAt_5068e 21 = .ok (.istore 4, 2) := by decide +kernel
theorem dJ5_charAt_5068e_23 : decode cJ5_charAt_5068e 23 = .ok (.iload_n 1, 1) := by decide +kernel
theorem dJ5_charAt_5068e_24 : decode cJ5_charAt_5068e 24 = .ok (.iload 4, 2) := by decide +kernel
theorem dJ5_charAt_5068e_26 : decode cJ5_charAt_5068e 26 = .ok (.invokestatic 144, 3) := by decide +kernel
theorem dJ5_charAt_5068e_29 : decode cJ5_charAt_5068e 29 = .ok (.iload_n 2, 1) := by decide +kernel
theorem dJ5_charAt_5068e_30 : decode cJ5_charAt_5068e 30 = .ok (.ifCond .ne 12, 3) := by decide +kernel
theorem dJ5_charAt_5068e_33 : decode cJ5_charAt_5068e 33 = .ok (.aload_n 3, 1) := by decide +kernel
theorem dJ5_charAt_5068e_34 : decode cJ5_charAt_5068e 34 = .ok (.iload_n 1, 1) := by decide +kernel
theorem dJ5_charAt_5068e_35 : decode cJ5_charAt_5068e 35 = .ok (.baload, 1) := by decide +kernel
theorem dJ5_charAt_5068e_36 : decode cJ5_charAt_5068e 36 = .ok (.sipush 255, 3) := by decide +kernel
theorem dJ5_charAt_5068e_39 : decode cJ5_charAt_5068e 39 = .ok (.iand, 1) := by decide +kernel
theorem dJ5_charAt_5068e_40 : decode cJ5_charAt_5068e 40 = .ok (.i2c, 1) := by decide +kernel
theorem dJ5_charAt_5068e_41 : decode cJ5_charAt_5068e 41 = .ok (.ireturn, 1) := by decide +kernel
theorem dJ5_charAt_5068e_42 : decode cJ5_charAt_5068e 42 = .ok (.aload_n 3, 1) := by decide +kernel
theorem dJ5_charAt_5068e_43 : decode cJ5_charAt_5068e 43 = .ok (.iload_n 1, 1) := by decide +kernel
theorem dJ5_charAt_5068e_44 : decode cJ5_charAt_5068e 44 = .ok (.invokestatic 148, 3) := by decide +kernel
theorem dJ5_charAt_5068e_47 : decode cJ5_charAt_5068e 47 = .ok (.ireturn, 1) := by decide +kernel
theorem dJ5_append_cf1ce_0 : decode cJ5_append_cf1ce 0 = .ok (.aload_n 1, 1) := by decide +kernel
theorem dJ5_append_cf1ce_1 : decode cJ5_append_cf1ce 1 = .ok (.ifnonnull 8, 3) := by decide +kernel
theorem dJ5_append_cf1ce_4 : decode cJ5_append_cf1ce 4 = .ok (.aload_n 0, 1) := by decide +kernel
theorem dJ5_append_cf1ce_5 : decode cJ5_append_cf1ce 5 = .ok (.invokevirtual 204, 3) := by decide +kernel
theorem dJ5_append_cf1ce_8 : decode cJ5_append_cf1ce 8 = .ok (.areturn, 1) := by decide +kernel
theorem dJ5_append_cf1ce_9 : decode cJ5_append_cf1ce 9 = .ok (.aload_n 1, 1) := by decide +kernel
theorem dJ5_append_cf1ce_10 : decode cJ5_append_cf1ce 10 = .ok (.invokevirtual 32, 3) := by decide +kernel
theorem dJ5_append_cf1ce_13 : decode cJ5_append_cf1ce 13 = .ok (.istore_n 2, 1) := by decide +kernel
theorem dJ5_append_cf1ce_14 : decode cJ5_append_cf1ce 14 = .ok (.aload_n 0, 1) := by decide +kernel
theorem dJ5_append_cf1ce_15 : decode cJ5_append_cf1ce 15 = .ok (.aload_n 0, 1) := by decide +kernel
theorem dJ5_append_cf1ce_16 : decode cJ5_append_cf1ce 16 = .ok (.getfield 79, 3) := by decide +kernel
theorem dJ5_append_cf1ce_19 : decode cJ5_append_cf1ce 19 = .ok (.iload_n 2, 1) := by decide +kernel
theorem dJ5_append_cf1ce_20 : decode cJ5_append_cf1ce 20 = .ok (.iadd, 1) := by decide +kernel
theorem dJ5_append_cf1ce_21 : decode cJ5_append_cf1ce 21 = .ok (.invokevirtual 100, 3) := by decide +kernel
theorem dJ5_append_cf1ce_24 : decode cJ5_append_cf1ce 24 = .ok (.aload_n 0, 1) := by decide +kernel
theorem dJ5_append_cf1ce_25 : decode cJ5_append_cf1ce 25 = .ok (.aload_n 0, 1) := by decide +kernel
theorem dJ5_append_cf1ce_26 : decode cJ5_append_cf1ce 26 = .ok (.getfield 79, 3) := by decide +kernel
theorem dJ5_append_cf1ce_29 : decode cJ5_append_cf1ce 29 = .ok (.aload_n 1, 1) := by decide +kernel
theorem dJ5_append_cf1ce_30 : decode cJ5_append_cf1ce 30 = .ok (.invokevirtual 208, 3) := by decide +kernel
theorem dJ5_append_cf1ce_33 : decode cJ5_append_cf1ce 33 = .ok (.aload_n 0, 1) := by decide +kernel
theorem dJ5_append_cf1ce_34 : decode cJ5_append_cf1ce 34 = .ok (.dup, 1) := by decide +kernel
theorem dJ5_append_cf1ce_35 : decode cJ5_append_cf1ce 35 = .ok (.getfield 79, 3) := by decide +kernel
theorem dJ5_append_cf1ce_38 : decode cJ5_append_cf1ce 38 = .ok (.iload_n 2, 1) := by decide +kernel
theorem dJ5_append_cf1ce_39 : decode cJ5_append_cf1ce 39 = .ok (.iadd, 1) := by decide +kernel
theorem dJ5_append_cf1ce_40 : decode cJ5_append_cf1ce 40 = .ok (.putfield 79, 3) := by decide +kernel
theorem dJ5_append_cf1ce_43 : decode cJ5_append_cf1ce 43 = .ok (.aload_n 0, 1) := by decide +kernel
theorem dJ5_append_cf1ce_44 : decode cJ5_append_cf1ce 44 = .ok (.areturn, 1) := by decide +kernel
theorem dJ5_append_3fe6f_0 : decode cJ5_append_3fe6f 0 = .ok (.aload_n 0, 1) := by decide +kernel
theorem dJ5_append_3fe6f_1 : decode cJ5_append_3fe6f 1 = .ok (.aload_n 0, 1) := by decide +kernel
theorem dJ5_append_3fe6f_2 : decode cJ5_append_3fe6f 2 = .ok (.getfield 79, 3) := by decide +kernel
theorem dJ5_append_3fe6f_5 : decode cJ5_append_3fe6f 5 = .ok (.iconst 1, 1) := by decide +kernel
theorem dJ5_append_3fe6f_6 : decode cJ5_append_3fe6f 6 = .ok (.iadd, 1) := by decide +kernel
theorem dJ5_append_3fe6f_7 : decode cJ5_append_3fe6f 7 = .ok (.invokevirtual 100, 3) := by decide +kernel
theorem dJ5_append_3fe6f_10 : decode cJ5_append_3fe6f 10 = .ok (.aload_n 0, 1) := by decide +kernel
theorem dJ5_append_3fe6f_11 : decode cJ5_append_3fe6f 11 = .ok (.invokevirtual 83, 3) := by decide +kernel
theorem dJ5_append_3fe6f_14 : decode cJ5_append_3fe6f 14 = .ok (.ifCond .eq 31, 3) := by decide +kernel
theorem dJ5_append_3fe6f_17 : decode cJ5_append_3fe6f 17 = .ok (.iload_n 1, 1) := by decide +kernel
theorem dJ5_append_3fe6f_18 : decode cJ5_append_3fe6f 18 = .ok (.invokestatic 191, 3) := by decide +kernel
theorem dJ5_append_3fe6f_21 : decode cJ5_append_3fe6f 21 = .ok (.ifCond .eq 24, 3) := by decide +kernel
theorem dJ5_append_3fe6f_24 : decode cJ5_append_3fe6f 24 = .ok (.aload_n 0, 1) := by decide +kernel
theorem dJ5_append_3fe6f_25 : decode cJ5_append_3fe6f 25 = .ok (.getfield 15, 3) := by decide +kernel
theorem dJ5_append_3fe6f_28 : decode cJ5_append_3fe6f 28 = .ok (.aload_n 0, 1) := by decide +kernel
theorem dJ5_append_3fe6f_29 : decode cJ5_append_3fe6f 29 = .ok (.dup, 1) := by decide +kernel
theorem dJ5_append_3fe6f_30 : decode cJ5_append_3fe6f 30 = .ok (.getfield 79, 3) := by decide +kernel
theorem dJ5_append_3fe6f_33 : decode cJ5_append_3fe6f 33 = .ok (.dup_x1, 1) := by decide +kernel
theorem dJ5_append_3fe6f_34 : decode cJ5_append_3fe6f 34 = .ok (.iconst 1, 1) := by decide +kernel
theorem dJ5_append_3fe6f_35 : decode cJ5_append_3fe6f 35 = .ok (.iadd, 1) := by decide +kernel
theorem dJ5_append_3fe6f_36 : decode cJ5_append_3fe6f 36 = .ok (.putfield 79, 3) := by decide +kernel
theorem dJ5_append_3fe6f_39 : decode cJ5_append_3fe6f 39 = .ok (.iload_n 1, 1) := by decide +kernel
theorem dJ5_append_3fe6f_40 : decode cJ5_append_3fe6f 40 = .ok (.i2b, 1) := by decide +kernel
theorem dJ5_append_3fe6f_41 : decode cJ5_append_3fe6f 41 = .ok (.bastore, 1) := by decide +kernel
theorem dJ5_append_3fe6f_42 : decode cJ5_append_3fe6f 42 = .ok (.goto 33, 3) := by decide +kernel
theorem dJ5_append_3fe6f_45 : decode cJ5_append_3fe6f 45 = .ok (.aload_n 0, 1) := by decide +kernel
theorem dJ5_append_3fe6f_46 : decode cJ5_append_3fe6f 46 = .ok (.invokevirtual 83, 3) := by decide +kernel
theorem dJ5_append_3fe6f_49 : decode cJ5_append_3fe6f 49 = .ok (.ifCond .eq 7, 3) := by decide +kernel
theorem dJ5_append_3fe6f_52 : decode cJ5_append_3fe6f 52 = .ok (.aload_n 0, 1) := by decide +kernel
theorem dJ5_append_3fe6f_53 : decode cJ5_append_3fe6f 53 = .ok (.invokevirtual 195, 3) := by decide +kernel
theorem dJ5_append_3fe6f_56 : decode cJ5_append_3fe6f 56 = .ok (.aload_n 0, 1) := by decide +kernel
theorem dJ5_append_3fe6f_57 : decode cJ5_append_3fe6f 57 = .ok (.getfield 15, 3) := by decide +kernel
theorem dJ5_append_3fe6f_60 : decode cJ5_append_3fe6f 60 = .ok (.aload_n 0, 1) := by decide +kernel
theorem dJ5_append_3fe6f_61 : decode cJ5_append_3fe6f 61 = .ok (.dup, 1) := by decide +kernel
theorem dJ5_append_3fe6f_62 : decode cJ5_append_3fe6f 62 = .ok (.getfield 79, 3) := by decide +kernel
theorem dJ5_append_3fe6f_65 : decode cJ5_append_3fe6f 65 = .ok (.dup_x1, 1) := by decide +kernel
theorem dJ5_append_3fe6f_66 : decode cJ5_append_3fe6f 66 = .ok (.iconst 1, 1) := by decide +kernel
theorem dJ5_append_3fe6f_67 : decode cJ5_append_3fe6f 67 = .ok (.iadd, 1) := by decide +kernel
theorem dJ5_append_3fe6f_68 : decode cJ5_append_3fe6f 68 = .ok (.putfield 79, 3) := by decide +kernel
theorem dJ5_append_3fe6f_71 : decode cJ5_append_3fe6f 71 = .ok (.iload_n 1, 1) := by decide +kernel
theorem dJ5_append_3fe6f_72 : decode cJ5_append_3fe6f 72 = .ok (.invokestatic 197, 3) := by decide +kernel
theorem dJ5_append_3fe6f_75 : decode cJ5_append_3fe6f 75 = .ok (.aload_n 0, 1) := by decide +kernel
theorem dJ5_append_3fe6f_76 : decode cJ5_append_3fe6f 76 = .ok (.areturn, 1) := by decide +kernel
theorem dJ5_append_c97b9_0 : decode cJ5_append_c97b9 0 = .ok (.aload_n 0, 1) := by decide +kernel
theorem dJ5_append_c97b9_1 : decode cJ5_append_c97b9 1 = .ok (.getfield 79, 3) := by decide +kernel
theorem dJ5_append_c97b9_4 : decode cJ5_append_c97b9 4 = .ok (.istore_n 2, 1) := by decide +kernel
theorem dJ5_append_c97b9_5 : decode cJ5_append_c97b9 5 = .ok (.iload_n 2, 1) := by decide +kernel
theorem dJ5_append_c97b9_6 : decode cJ5_append_c97b9 6 = .ok (.iload_n 1, 1) := by decide +kernel
theorem dJ5_append_c97b9_7 : decode cJ5_append_c97b9 7 = .ok (.invokestatic 245, 3) := by decide +kernel
theorem dJ5_append_c97b9_10 : decode cJ5_append_c97b9 10 = .ok (.iadd, 1) := by decide +kernel
theorem dJ5_append_c97b9_11 : decode cJ5_append_c97b9 11 = .ok (.istore_n 3, 1) := by decide +kernel
theorem dJ5_append_c97b9_12 : decode cJ5_append_c97b9 12 = .ok (.aload_n 0, 1) := by decide +kernel
theorem dJ5_append_c97b9_13 : decode cJ5_append_c97b9 13 = .ok (.iload_n 3, 1) := by decide +kernel
theorem dJ5_append_c97b9_14 : decode cJ5_append_c97b9 14 = .ok (.invokevirtual 100, 3) := by decide +kernel
theorem dJ5_append_c97b9_17 : decode cJ5_append_c97b9 17 = .ok (.aload_n 0, 1) := by decide +kernel
theorem dJ5_append_c97b9_18 : decode cJ5_append_c97b9 18 = .ok (.invokevirtual 83, 3) := by decide +kernel
theorem dJ5_append_c97b9_21 : decode cJ5_append_c97b9 21 = .ok (.ifCond .eq 16, 3) := by decide +kernel
theorem dJ5_append_c97b9_24 : decode cJ5_append_c97b9 24 = .ok (.iload_n 1, 1) := by decide +kernel
theorem dJ5_append_c97b9_25 : decode cJ5_append_c97b9 25 = .ok (.iload_n 3, 1) := by decide +kernel
theorem dJ5_append_c97b9_26 : decode cJ5_append_c97b9 26 = .ok (.aload_n 0, 1) := by decide +kernel
theorem dJ5_append_c97b9_27 : decode cJ5_append_c97b9 27 = .ok (.getfield 15, 3) := by decide +kernel
theorem dJ5_append_c97b9_30 : decode cJ5_append_c97b9 30 = .ok (.invokestatic 248, 3) := by decide +kernel
theorem dJ5_append_c97b9_33 : decode cJ5_append_c97b9 33 = .ok (.pop, 1) := by decide +kernel
theorem dJ5_append_c97b9_34 : decode cJ5_append_c97b9 34 = .ok (.goto 14, 3) := by decide +kernel
theorem dJ5_append_c97b9_37 : decode cJ5_append_c97b9 37 = .ok (.iload_n 1, 1) := by decide +kernel
theorem dJ5_append_c97b9_38 : decode cJ5_append_c97b9 38 = .ok (.iload_n 2, 1) := by decide +kernel
theorem dJ5_append_c97b9_39 : decode cJ5_append_c97b9 39 = .ok (.iload_n 3, 1) := by decide +kernel
theorem dJ5_append_c97b9_40 : decode cJ5_append_c97b9 40 = .ok (.aload_n 0, 1) := by decide +kernel
theorem dJ5_append_c97b9_41 : decode cJ5_append_c97b9 41 = .ok (.getfield 15, 3) := by decide +kernel
theorem dJ5_append_c97b9_44 : decode cJ5_append_c97b9 44 = .ok (.invokestatic 251, 3) := by decide +kernel
theorem dJ5_append_c97b9_47 : decode cJ5_append_c97b9 47 = .ok (.pop, 1) := by decide +kernel
theorem dJ5_append_c97b9_48 : decode cJ5_append_c97b9 48 = .ok (.aload_n 0, 1) := by decide +kernel
theorem dJ5_append_c97b9_49 : decode cJ5_append_c97b9 49 = .ok (.iload_n 3, 1) := by decide +kernel
theorem dJ5_append_c97b9_50 : decode cJ5_append_c97b9 50 = .ok (.putfield 79, 3) := by decide +kernel
theorem dJ5_append_c97b9_53 : decode cJ5_append_c97b9 53 = .ok (.aload_n 0, 1) := by decide +kernel
theorem dJ5_append_c97b9_54 : decode cJ5_append_c97b9 54 = .ok (.areturn, 1) := by decide +kernel
theorem dJ5_isLatin1_aae02_0 : decode cJ5_isLatin1_aae02 0 = .ok (.getstatic 18, 3) := by decide +kernel
theorem dJ5_isLatin1_aae02_3 : decode cJ5_isLatin1_aae02 3 = .ok (.ifCond .eq 14, 3) := by decide +kernel
theorem dJ5_isLatin1_aae02_6 : decode cJ5_isLatin1_aae02 6 = .ok (.aload_n 0, 1) := by decide +kernel
theorem dJ5_isLatin1_aae02_7 : decode cJ5_isLatin1_aae02 7 = .ok (.getfield 22, 3) := by decide +kernel
theorem dJ5_isLatin1_aae02_10 : decode cJ5_isLatin1_aae02 10 = .ok (.ifCond .ne 7, 3) := by decide +kernel
theorem dJ5_isLatin1_aae02_13 : decode cJ5_isLatin1_aae02 13 = .ok (.iconst 1, 1) := by decide +kernel
theorem dJ5_isLatin1_aae02_14 : decode cJ5_isLatin1_aae02 14 = .ok (.goto 4, 3) := by decide +kernel
theorem dJ5_isLatin1_aae02_17 : decode cJ5_isLatin1_aae02 17 = .ok (.iconst 0, 1) := by decide +kernel
theorem dJ5_isLatin1_aae02_18 : decode cJ5_isLatin1_aae02 18 = .ok (.ireturn, 1) := by decide +kernel
theorem dJ9_max_7cf53_0 : decode cJ9_max_7cf53 0 = .ok (.iload_n 0, 1) := by decide +kernel
theorem dJ9_max_7cf53_1 : decode cJ9_max_7cf53 1 = .ok (.iload_n 1, 1) := by decide +kernel
theorem dJ9_max_7cf53_2 : decode cJ9_max_7cf53 2 = .ok (.if_icmp .lt 7, 3) := by decide +kernel
theorem dJ9_max_7cf53_5 : decode cJ9_max_7cf53 5 = .ok (.iload_n 0, 1) := by decide +kernel
theorem dJ9_max_7cf53_6 : decode cJ9_max_7cf53 6 = .ok (.goto 4, 3) := by decide +kernel
theorem dJ9_max_7cf53_9 : decode cJ9_max_7cf53 9 = .ok (.iload_n 1, 1) := by decide +kernel
theorem dJ9_max_7cf53_10 : decode cJ9_max_7cf53 10 = .ok (.ireturn, 1) := by decide +kernel
theorem dJ9_min_7cf53_0 : decode cJ9_min_7cf53 0 = .ok (.iload_n 0, 1) := by decide +kernel
theorem dJ9_min_7cf53_1 : decode cJ9_min_7cf53 1 = .ok (.iload_n 1, 1) := by decide +kernel
theorem dJ9_min_7cf53_2 : decode cJ9_min_7cf53 2 = .ok (.if_icmp .gt 7, 3) := by decide +kernel
theorem dJ9_min_7cf53_5 : decode cJ9_min_7cf53 5 = .ok (.iload_n 0, 1) := by decide +kernel
theorem dJ9_min_7cf53_6 : decode cJ9_min_7cf53 6 = .ok (.goto 4, 3) := by decide +kernel
theorem dJ9_min_7cf53_9 : decode cJ9_min_7cf53 9 = .ok (.iload_n 1, 1) := by decide +kernel
theorem dJ9_min_7cf53_10 : decode cJ9_min_7cf53 10 = .ok (.ireturn, 1) := by decide +kernel
theorem dJ0_checkIndex_df160_0 : decode cJ0_checkIndex_df160 0 = .ok (.iload_n 0, 1) := by decide +kernel
theorem dJ0_checkIndex_df160_1 : decode cJ0_checkIndex_df160 1 = .ok (.iload_n 1, 1) := by decide +kernel
theorem dJ0_checkIndex_df160_2 : decode cJ0_checkIndex_df160 2 = .ok (.getstatic 1053, 3) := by decide +kernel
theorem dJ0_checkIndex_df160_5 : decode cJ0_checkIndex_df160 5 = .ok (.invokestatic 1059, 3) := by decide +kernel
theorem dJ0_checkIndex_df160_8 : decode cJ0_checkIndex_df160 8 = .ok (.pop, 1) := by decide +kernel
theorem dJ0_checkIndex_df160_9 : decode cJ0_checkIndex_df160 9 = .ok (.return_, 1) := by decide +kernel
theorem dJ4_init_da8c8_0 : decode cJ4_init_da8c8 0 = .ok (.aload_n 0, 1) := by decide +kernel
theorem dJ4_init_da8c8_1 : decode cJ4_init_da8c8 1 = .ok (.bipush 16, 2) := by decide +kernel
theorem dJ4_init_da8c8_3 : decode cJ4_init_da8c8 3 = .ok (.invokespecial 1, 3) := by decide +kernel
theorem dJ4_init_da8c8_6 : decode cJ4_init_da8c8 6 = .ok (.return_, 1) := by decide +kernel
theorem dJ4_append_15ec4_0 : decode cJ4_append_15ec4 0 = .ok (.aload_n 0, 1) := by decide +kernel
theorem dJ4_append_15ec4_1 : decode cJ4_append_15ec4 1 = .ok (.aload_n 1, 1) := by decide +kernel
theorem dJ4_append_15ec4_2 : decode cJ4_append_15ec4 2 = .ok (.invokespecial 29, 3) := by decide +kernel
theorem dJ4_append_15ec4_5 : decode cJ4_append_15ec4 5 = .ok (.pop, 1) := by decide +kernel
theorem dJ4_append_15ec4_6 : decode cJ4_append_15ec4 6 = .ok (.aload_n 0, 1) := by decide +kernel
theorem dJ4_append_15ec4_7 : decode cJ4_append_15ec4 7 = .ok (.areturn, 1) := by decide +kernel
theorem dJ4_append_cf468_0 : decode cJ4_append_cf468 0 = .ok (.aload_n 0, 1) := by decide +kernel
theorem dJ4_append_cf468_1 : decode cJ4_append_cf468 1 = .ok (.iload_n 1, 1) := by decide +kernel
theorem dJ4_append_cf468_2 : decode cJ4_append_cf468 2 = .ok (.invokespecial 50, 3) := by decide +kernel
theorem dJ4_append_cf468_5 : decode cJ4_append_cf468 5 = .ok (.pop, 1) := by decide +kernel
theorem dJ4_append_cf468_6 : decode cJ4_append_cf468 6 = .ok (.aload_n 0, 1) := by decide +kernel
theorem dJ4_append_cf468_7 : decode cJ4_append_cf468 7 = .ok (.areturn, 1) := by decide +kernel
theorem dJ4_append_bf812_0 : decode cJ4_append_bf812 0 = .ok (.aload_n 0, 1) := by decide +kernel
theorem dJ4_append_bf812_1 : decode cJ4_append_bf812 1 = .ok (.iload_n 1, 1) := by decide +kernel
theorem dJ4_append_bf812_2 : decode cJ4_append_bf812 2 = .ok (.invokespecial 53, 3) := by decide +kernel
theorem dJ4_append_bf812_5 : decode cJ4_append_bf812 5 = .ok (.pop, 1) := by decide +kernel
theorem dJ4_append_bf812_6 : decode cJ4_append_bf812 6 = .ok (.aload_n 0, 1) := by decide +kernel
theorem dJ4_append_bf812_7 : decode cJ4_append_bf812 7 = .ok (.areturn, 1) := by decide +kernel
theorem dJ4_charAt_5068e_0 : decode cJ4_charAt_5068e 0 = .ok (.aload_n 0, 1) := by decide +kernel
theorem dJ4_charAt_5068e_1 : decode cJ4_charAt_5068e 1 = .ok (.iload_n 1, 1) := by decide +kernel
theorem dJ4_charAt_5068e_2 : decode cJ4_charAt_5068e 2 = .ok (.invokespecial 329, 3) := by decide +kernel
theorem dJ4_charAt_5068e_5 : decode cJ4_charAt_5068e 5 = .ok (.ireturn, 1) := by decide +kernel
theorem dJ4_setLength_d00df_0 : decode cJ4_setLength_d00df 0 = .ok (.aload_n 0, 1) := by decide +kernel
theorem dJ4_setLength_d00df_1 : decode cJ4_setLength_d00df 1 = .ok (.iload_n 1, 1) := by decide +kernel
theorem dJ4_setLength_d00df_2 : decode cJ4_setLength_d00df 2 = .ok (.invokespecial 333, 3) := by decide +kernel
theorem dJ4_setLength_d00df_5 : decode cJ4_setLength_d00df 5 = .ok (.return_, 1) := by decide +kernel
theorem dJ4_length_8abf5_0 : decode cJ4_length_8abf5 0 = .ok (.aload_n 0, 1) := by decide +kernel
theorem dJ4_length_8abf5_1 : decode cJ4_length_8abf5 1 = .ok (.invokespecial 343, 3) := by decide +kernel
theorem dJ4_length_8abf5_4 : decode cJ4_length_8abf5 4 = .ok (.ireturn, 1) := by decide +kernel
theorem dJ1_canEncode_fc78d_0 : decode cJ1_canEncode_fc78d 0 = .ok (.iload_n 0, 1) := by decide +kernel
theorem dJ1_canEncode_fc78d_1 : decode cJ1_canEncode_fc78d 1 = .ok (.sipush 255, 3) := by decide +kernel
theorem dJ1_canEncode_fc78d_4 : decode cJ1_canEncode_fc78d 4 = .ok (.if_icmp .gt 7, 3) := by decide +kernel
theorem dJ1_canEncode_fc78d_7 : decode cJ1_canEncode_fc78d 7 = .ok (.iconst 1, 1) := by decide +kernel
theorem dJ1_canEncode_fc78d_8 : decode cJ1_canEncode_fc78d 8 = .ok (.goto 4, 3) := by decide +kernel
theorem dJ1_canEncode_fc78d_11 : decode cJ1_canEncode_fc78d 11 = .ok (.iconst 0, 1) := by decide +kernel
theorem dJ1_canEncode_fc78d_12 : decode cJ1_canEncode_fc78d 12 = .ok (.ireturn, 1) := by decide +kernel
theorem dJ1_fillNull_b72d1_0 : decode cJ1_fillNull_b72d1 0 = .ok (.aload_n 0, 1) := by decide +kernel
theorem dJ1_fillNull_b72d1_1 : decode cJ1_fillNull_b72d1 1 = .ok (.iload_n 1, 1) := by decide +kernel
theorem dJ1_fillNull_b72d1_2 : decode cJ1_fillNull_b72d1 2 = .ok (.iload_n 2, 1) := by decide +kernel
theorem dJ1_fillNull_b72d1_3 : decode cJ1_fillNull_b72d1 3 = .ok (.iconst 0, 1) := by decide +kernel
theorem dJ1_fillNull_b72d1_4 : decode cJ1_fillNull_b72d1 4 = .ok (.invokestatic 236, 3) := by decide +kernel
theorem dJ1_fillNull_b72d1_7 : decode cJ1_fillNull_b72d1 7 = .ok (.return_, 1) := by decide +kernel
theorem dJxa1e45_init_da8c8_0 : decode cJxa1e45_init_da8c8 0 = .ok (.aload_n 0, 1) := by decide +kernel
theorem dJxa1e45_init_da8c8_1 : decode cJxa1e45_init_da8c8 1 = .ok (.invokespecial 1, 3) := by decide +kernel
theorem dJxa1e45_init_da8c8_4 : decode cJxa1e45_init_da8c8 4 = .ok (.return_, 1) := by decide +kernel
theorem dJxc12de_init_da8c8_0 : decode cJxc12de_init_da8c8 0 = .ok (.aload_n 0, 1) := by decide +kernel
theorem dJxc12de_init_da8c8_1 : decode cJxc12de_init_da8c8 1 = .ok (.invokespecial 1, 3) := by decide +kernel
theorem dJxc12de_init_da8c8_4 : decode cJxc12de_init_da8c8 4 = .ok (.aload_n 0, 1) := by decide +kernel
theorem dJxc12de_init_da8c8_5 : decode cJxc12de_init_da8c8 5 = .ok (.iconst 0, 1) := by decide +kernel
theorem dJxc12de_init_da8c8_6 : decode cJxc12de_init_da8c8 6 = .ok (.putfield 7, 3) := by decide +kernel
theorem dJxc12de_init_da8c8_9 : decode cJxc12de_init_da8c8 9 = .ok (.return_, 1) := by decide +kernel
theorem dJx4a65c_init_da8c8_0 : decode cJx4a65c_init_da8c8 0 = .ok (.aload_n 0, 1) := by decide +kernel
theorem dJx4a65c_init_da8c8_1 : decode cJx4a65c_init_da8c8 1 = .ok (.invokespecial 1, 3) := by decide +kernel
theorem dJx4a65c_init_da8c8_4 : decode cJx4a65c_init_da8c8 4 = .ok (.aload_n 0, 1) := by decide +kernel
theorem dJx4a65c_init_da8c8_5 : decode cJx4a65c_init_da8c8 5 = .ok (.getstatic 39, 3) := by decide +kernel
theorem dJx4a65c_init_da8c8_8 : decode cJx4a65c_init_da8c8 8 = .ok (.putfield 9, 3) := by decide +kernel
theorem dJx4a65c_init_da8c8_11 : decode cJx4a65c_init_da8c8 11 = .ok (.return_, 1) := by decide +kernel
theorem dJx4a65c_grow_92f84_0 : decode cJx4a65c_grow_92f84 0 = .ok (.aload_n 0, 1) := by decide +kernel
theorem dJx4a65c_grow_92f84_1 : decode cJx4a65c_grow_92f84 1 = .ok (.getfield 9, 3) := by decide +kernel
theorem dJx4a65c_grow_92f84_4 : decode cJx4a65c_grow_92f84 4 = .ok (.arraylength, 1) := by decide +kernel
theorem dJx4a65c_grow_92f84_5 : decode cJx4a65c_grow_92f84 5 = .ok (.istore_n 2, 1) := by decide +kernel
theorem dJx4a65c_grow_92f84_6 : decode cJx4a65c_grow_92f84 6 = .ok (.iload_n 2, 1) := by decide +kernel
theorem dJx4a65c_grow_92f84_7 : decode cJx4a65c_grow_92f84 7 = .ok (.ifCond .gt 13, 3) := by decide +kernel
theorem dJx4a65c_grow_92f84_10 : decode cJx4a65c_grow_92f84 10 = .ok (.aload_n 0, 1) := by decide +kernel
theorem dJx4a65c_grow_92f84_11 : decode cJx4a65c_grow_92f84 11 = .ok (.getfield 9, 3) := by decide +kernel
theorem dJx4a65c_grow_92f84_14 : decode cJx4a65c_grow_92f84 14 = .ok (.getstatic 39, 3) := by decide +kernel
theorem dJx4a65c_grow_92f84_17 : decode cJx4a65c_grow_92f84 17 = .ok (.if_acmp .eq 28, 3) := by decide +kernel
theorem dJx4a65c_grow_92f84_20 : decode cJx4a65c_grow_92f84 20 = .ok (.iload_n 2, 1) := by decide +kernel
theorem dJx4a65c_grow_92f84_21 : decode cJx4a65c_grow_92f84 21 = .ok (.iload_n 1, 1) := by decide +kernel
theorem dJx4a65c_grow_92f84_22 : decode cJx4a65c_grow_92f84 22 = .ok (.iload_n 2, 1) := by decide +kernel
theorem dJx4a65c_grow_92f84_23 : decode cJx4a65c_grow_92f84 23 = .ok (.isub, 1) := by decide +kernel
theorem dJx4a65c_grow_92f84_24 : decode cJx4a65c_grow_92f84 24 = .ok (.iload_n 2, 1) := by decide +kernel
theorem dJx4a65c_grow_92f84_25 : decode cJx4a65c_grow_92f84 25 = .ok (.iconst 1, 1) := by decide +kernel
theorem dJx4a65c_grow_92f84_26 : decode cJx4a65c_grow_92f84 26 = .ok (.ishr, 1) := by decide +kernel
theorem dJx4a65c_grow_92f84_27 : decode cJx4a65c_grow_92f84 27 = .ok (.invokestatic 73, 3) := by decide +kernel
theorem dJx4a65c_grow_92f84_30 : decode cJx4a65c_grow_92f84 30 = .ok (.istore_n 3, 1) := by decide +kernel
theorem dJx4a65c_grow_92f84_31 : decode cJx4a65c_grow_92f84 31 = .ok (.aload_n 0, 1) := by decide +kernel
theorem dJx4a65c_grow_92f84_32 : decode cJx4a65c_grow_92f84 32 = .ok (.aload_n 0, 1) := by decide +kernel
theorem dJx4a65c_grow_92f84_33 : decode cJx4a65c_grow_92f84 33 = .ok (.getfield 9, 3) := by decide +kernel
theorem dJx4a65c_grow_92f84_36 : decode cJx4a65c_grow_92f84 36 = .ok (.iload_n 3, 1) := by decide +kernel
theorem dJx4a65c_grow_92f84_37 : decode cJx4a65c_grow_92f84 37 = .ok (.invokestatic 66, 3) := by decide +kernel
theorem dJx4a65c_grow_92f84_40 : decode cJx4a65c_grow_92f84 40 = .ok (.dup_x1, 1) := by decide +kernel
theorem dJx4a65c_grow_92f84_41 : decode cJx4a65c_grow_92f84 41 = .ok (.putfield 9, 3) := by decide +kernel
theorem dJx4a65c_grow_92f84_44 : decode cJx4a65c_grow_92f84 44 = .ok (.areturn, 1) := by decide +kernel
theorem dJx4a65c_grow_92f84_45 : decode cJx4a65c_grow_92f84 45 = .ok (.aload_n 0, 1) := by decide +kernel
theorem dJx4a65c_grow_92f84_46 : decode cJx4a65c_grow_92f84 46 = .ok (.bipush 10, 2) := by decide +kernel
theorem dJx4a65c_grow_92f84_48 : decode cJx4a65c_grow_92f84 48 = .ok (.iload_n 1, 1) := by decide +kernel
theorem dJx4a65c_grow_92f84_49 : decode cJx4a65c_grow_92f84 49 = .ok (.invokestatic 79, 3) := by decide +kernel
theorem dJx4a65c_grow_92f84_52 : decode cJx4a65c_grow_92f84 52 = .ok (.anewarray 7, 3) := by decide +kernel
theorem dJx4a65c_grow_92f84_55 : decode cJx4a65c_grow_92f84 55 = .ok (.dup_x1, 1) := by decide +kernel
theorem dJx4a65c_grow_92f84_56 : decode cJx4a65c_grow_92f84 56 = .ok (.putfield 9, 3) := by decide +kernel
theorem dJx4a65c_grow_92f84_59 : decode cJx4a65c_grow_92f84 59 = .ok (.areturn, 1) := by decide +kernel
theorem dJx4a65c_grow_d5877_0 : decode cJx4a65c_grow_d5877 0 = .ok (.aload_n 0, 1) := by decide +kernel
theorem dJx4a65c_grow_d5877_1 : decode cJx4a65c_grow_d5877 1 = .ok (.aload_n 0, 1) := by decide +kernel
theorem dJx4a65c_grow_d5877_2 : decode cJx4a65c_grow_d5877 2 = .ok (.getfield 48, 3) := by decide +kernel
theorem dJx4a65c_grow_d5877_5 : decode cJx4a65c_grow_d5877 5 = .ok (.iconst 1, 1) := by decide +kernel
theorem dJx4a65c_grow_d5877_6 : decode cJx4a65c_grow_d5877 6 = .ok (.iadd, 1) := by decide +kernel
theorem dJx4a65c_grow_d5877_7 : decode cJx4a65c_grow_d5877 7 = .ok (.invokevirtual 69, 3) := by decide +kernel
theorem dJx4a65c_grow_d5877_10 : decode cJx4a65c_grow_d5877 10 = .ok (.areturn, 1) := by decide +kernel
theorem dJx4a65c_size_8abf5_0 : decode cJx4a65c_size_8abf5 0 = .ok (.aload_n 0, 1) := by decide +kernel
theorem dJx4a65c_size_8abf5_1 : decode cJx4a65c_size_8abf5 1 = .ok (.getfield 48, 3) := by decide +kernel
theorem dJx4a65c_size_8abf5_4 : decode cJx4a65c_size_8abf5 4 = .ok (.ireturn, 1) := by decide +kernel
theorem dJx4a65c_elementData_915e3_0 : decode cJx4a65c_elementData_915e3 0 = .ok (.aload_n 0, 1) := by decide +kernel
theorem dJx4a65c_elementData_915e3_1 : decode cJx4a65c_elementData_915e3 1 = .ok (.getfield 9, 3) := by decide +kernel
theorem dJx4a65c_elementData_915e3_4 : decode cJx4a65c_elementData_915e3 4 = .ok (.iload_n 1, 1) := by decide +kernel
theorem dJx4a65c_elementData_915e3_5 : decode cJx4a65c_elementData_915e3 5 = .ok (.aaload, 1) := by decide +kernel
theorem dJx4a65c_elementData_915e3_6 : decode cJx4a65c_elementData_915e3 6 = .ok (.areturn, 1) := by decide +kernel
theorem dJx4a65c_get_915e3_0 : decode cJx4a65c_get_915e3 0 = .ok (.iload_n 1, 1) := by decide +kernel
theorem dJx4a65c_get_915e3_1 : decode cJx4a65c_get_915e3 1 = .ok (.aload_n 0, 1) := by decide +kernel
theorem dJx4a65c_get_915e3_2 : decode cJx4a65c_get_915e3 2 = .ok (.getfield 48, 3) := by decide +kernel
theorem dJx4a65c_get_915e3_5 : decode cJx4a65c_get_915e3 5 = .ok (.invokestatic 118, 3) := by decide +kernel
theorem dJx4a65c_get_915e3_8 : decode cJx4a65c_get_915e3 8 = .ok (.pop, 1) := by decide +kernel
theorem dJx4a65c_get_915e3_9 : decode cJx4a65c_get_915e3 9 = .ok (.aload_n 0, 1) := by decide +kernel
theorem dJx4a65c_get_915e3_10 : decode cJx4a65c_get_915e3 10 = .ok (.iload_n 1, 1) := by decide +kernel
theorem dJx4a65c_get_915e3_11 : decode cJx4a65c_get_915e3 11 = .ok (.invokevirtual 123, 3) := by decide +kernel
theorem dJx4a65c_get_915e3_14 : decode cJx4a65c_get_915e3 14 = .ok (.areturn, 1) := by decide +kernel
theorem dJx4a65c_add_72be8_0 : decode cJx4a65c_add_72be8 0 = .ok (.iload_n 3, 1) := by decide +kernel
theorem dJx4a65c_add_72be8_1 : decode cJx4a65c_add_72be8 1 = .ok (.aload_n 2, 1) := by decide +kernel
theorem dJx4a65c_add_72be8_2 : decode cJx4a65c_add_72be8 2 = .ok (.arraylength, 1) := by decide +kernel
theorem dJx4a65c_add_72be8_3 : decode cJx4a65c_add_72be8 3 = .ok (.if_icmp .ne 8, 3) := by decide +kernel
theorem dJx4a65c_add_72be8_6 : decode cJx4a65c_add_72be8 6 = .ok (.aload_n 0, 1) := by decide +kernel
theorem dJx4a65c_add_72be8_7 : decode cJx4a65c_add_72be8 7 = .ok (.invokevirtual 129, 3) := by decide +kernel
theorem dJx4a65c_add_72be8_10 : decode cJx4a65c_add_72be8 10 = .ok (.astore_n 2, 1) := by decide +kernel
theorem dJx4a65c_add_72be8_11 : decode cJx4a65c_add_72be8 11 = .ok (.aload_n 2, 1) := by decide +kernel
theorem dJx4a65c_add_72be8_12 : decode cJx4a65c_add_72be8 12 = .ok (.iload_n 3, 1) := by decide +kernel
theorem dJx4a65c_add_72be8_13 : decode cJx4a65c_add_72be8 13 = .ok (.aload_n 1, 1) := by decide +kernel
theorem dJx4a65c_add_72be8_14 : decode cJx4a65c_add_72be8 14 = .ok (.aastore, 1) := by decide +kernel
theorem dJx4a65c_add_72be8_15 : decode cJx4a65c_add_72be8 15 = .ok (.aload_n 0, 1) := by decide +kernel
theorem dJx4a65c_add_72be8_16 : decode cJx4a65c_add_72be8 16 = .ok (.iload_n 3, 1) := by decide +kernel
theorem dJx4a65c_add_72be8_17 : decode cJx4a65c_add_72be8 17 = .ok (.iconst 1, 1) := by decide +kernel
theorem dJx4a65c_add_72be8_18 : decode cJx4a65c_add_72be8 18 = .ok (.iadd, 1) := by decide +kernel
theorem dJx4a65c_add_72be8_19 : decode cJx4a65c_add_72be8 19 = .ok (.putfield 48, 3) := by decide +kernel
theorem dJx4a65c_add_72be8_22 : decode cJx4a65c_add_72be8 22 = .ok (.return_, 1) := by decide +kernel
theorem dJx4a65c_add_9ea2d_0 : decode cJx4a65c_add_9ea2d 0 = .ok (.aload_n 0, 1) := by decide +kernel
theorem dJx4a65c_add_9ea2d_1 : decode cJx4a65c_add_9ea2d 1 = .ok (.dup, 1) := by decide +kernel
theorem dJx4a65c_add_9ea2d_2 : decode cJx4a65c_add_9ea2d 2 = .ok (.getfield 63, 3) := by decide +kernel
theorem dJx4a65c_add_9ea2d_5 : decode cJx4a65c_add_9ea2d 5 = .ok (.iconst 1, 1) := by decide +kernel
theorem dJx4a65c_add_9ea2d_6 : decode cJx4a65c_add_9ea2d 6 = .ok (.iadd, 1) := by decide +kernel
theorem dJx4a65c_add_9ea2d_7 : decode cJx4a65c_add_9ea2d 7 = .ok (.putfield 63, 3) := by decide +kernel
theorem dJx4a65c_add_9ea2d_10 : decode cJx4a65c_add_9ea2d 10 = .ok (.aload_n 0, 1) := by decide +kernel
theorem dJx4a65c_add_9ea2d_11 : decode cJx4a65c_add_9ea2d 11 = .ok (.aload_n 1, 1) := by decide +kernel
theorem dJx4a65c_add_9ea2d_12 : decode cJx4a65c_add_9ea2d 12 = .ok (.aload_n 0, 1) := by decide +kernel
theorem dJx4a65c_add_9ea2d_13 : decode cJx4a65c_add_9ea2d 13 = .ok (.getfield 9, 3) := by decide +kernel
theorem dJx4a65c_add_9ea2d_16 : decode cJx4a65c_add_9ea2d 16 = .ok (.aload_n 0, 1) := by decide +kernel
theorem dJx4a65c_add_9ea2d_17 : decode cJx4a65c_add_9ea2d 17 = .ok (.getfield 48, 3) := by decide +kernel
theorem dJx4a65c_add_9ea2d_20 : decode cJx4a65c_add_9ea2d 20 = .ok (.invokevirtual 131, 3) := by decide +kernel
theorem dJx4a65c_add_9ea2d_23 : decode cJx4a65c_add_9ea2d 23 = .ok (.iconst 1, 1) := by decide +kernel
theorem dJx4a65c_add_9ea2d_24 : decode cJx4a65c_add_9ea2d 24 = .ok (.ireturn, 1) := by decide +kernel
theorem dJ7_rangeCheck_23922_0 : decode cJ7_rangeCheck_23922 0 = .ok (.iload_n 1, 1) := by decide +kernel
theorem dJ7_rangeCheck_23922_1 : decode cJ7_rangeCheck_23922 1 = .ok (.iload_n 2, 1) := by decide +kernel
theorem dJ7_rangeCheck_23922_2 : decode cJ7_rangeCheck_23922 2 = .ok (.if_icmp .le 44, 3) := by decide +kernel
theorem dJ7_rangeCheck_23922_5 : decode cJ7_rangeCheck_23922 5 = .ok (.new 43, 3) := by decide +kernel
theorem dJ7_rangeCheck_23922_8 : decode cJ7_rangeCheck_23922 8 = .ok (.dup, 1) := by decide +kernel
theorem dJ7_rangeCheck_23922_9 : decode cJ7_rangeCheck_23922 9 = .ok (.new 45, 3) := by decide +kernel
theorem dJ7_rangeCheck_23922_12 : decode cJ7_rangeCheck_23922 12 = .ok (.dup, 1) := by decide +kernel
theorem dJ7_rangeCheck_23922_13 : decode cJ7_rangeCheck_23922 13 = .ok (.invokespecial 47, 3) := by decide +kernel
theorem dJ7_rangeCheck_23922_16 : decode cJ7_rangeCheck_23922 16 = .ok (.ldc 48, 2) := by decide +kernel
theorem dJ7_rangeCheck_23922_18 : decode cJ7_rangeCheck_23922 18 = .ok (.invokevirtual 50, 3) := by decide +kernel
theorem dJ7_rangeCheck_23922_21 : decode cJ7_rangeCheck_23922 21 = .ok (.iload_n 1, 1) := by decide +kernel
theorem dJ7_rangeCheck_23922_22 : decode cJ7_rangeCheck_23922 22 = .ok (.invokevirtual 54, 3) := by decide +kernel
theorem dJ7_rangeCheck_23922_25 : decode cJ7_rangeCheck_23922 25 = .ok (.ldc 57, 2) := by decide +kernel
theorem dJ7_rangeCheck_23922_27 : decode cJ7_rangeCheck_23922 27 = .ok (.invokevirtual 50, 3) := by decide +kernel
theorem dJ7_rangeCheck_23922_30 : decode cJ7_rangeCheck_23922 30 = .ok (.iload_n 2, 1) := by decide +kernel
theorem dJ7_rangeCheck_23922_31 : decode cJ7_rangeCheck_23922 31 = .ok (.invokevirtual 54, 3) := by decide +kernel
theorem dJ7_rangeCheck_23922_34 : decode cJ7_rangeCheck_23922 34 = .ok (.ldc 59, 2) := by decide +kernel
theorem dJ7_rangeCheck_23922_36 : decode cJ7_rangeCheck_23922 36 = .ok (.invokevirtual 50, 3) := by decide +kernel
theorem dJ7_rangeCheck_23922_39 : decode cJ7_rangeCheck_23922 39 = .ok (.invokevirtual 61, 3) := by decide +kernel
theorem dJ7_rangeCheck_23922_42 : decode cJ7_rangeCheck_23922 42 = .ok (.invokespecial 65, 3) := by decide +kernel
theorem dJ7_rangeCheck_23922_45 : decode cJ7_rangeCheck_23922 45 = .ok (.athrow, 1) := by decide +kernel
theorem dJ7_rangeCheck_23922_46 : decode cJ7_rangeCheck_23922 46 = .ok (.iload_n 1, 1) := by decide +kernel
theorem dJ7_rangeCheck_23922_47 : decode cJ7_rangeCheck_23922 47 = .ok (.ifCond .ge 12, 3) := by decide +kernel
theorem dJ7_rangeCheck_23922_50 : decode cJ7_rangeCheck_23922 50 = .ok (.new 68, 3) := by decide +kernel
theorem dJ7_rangeCheck_23922_53 : decode cJ7_rangeCheck_23922 53 = .ok (.dup, 1) := by decide +kernel
theorem dJ7_rangeCheck_23922_54 : decode cJ7_rangeCheck_23922 54 = .ok (.iload_n 1, 1) := by decide +kernel
theorem dJ7_rangeCheck_23922_55 : decode cJ7_rangeCheck_23922 55 = .ok (.invokespecial 70, 3) := by decide +kernel
theorem dJ7_rangeCheck_23922_58 : decode cJ7_rangeCheck_23922 58 = .ok (.athrow, 1) := by decide +kernel
theorem dJ7_rangeCheck_23922_59 : decode cJ7_rangeCheck_23922 59 = .ok (.iload_n 2, 1) := by decide +kernel
theorem dJ7_rangeCheck_23922_60 : decode cJ7_rangeCheck_23922 60 = .ok (.iload_n 0, 1) := by decide +kernel
theorem dJ7_rangeCheck_23922_61 : decode cJ7_rangeCheck_23922 61 = .ok (.if_icmp .le 12, 3) := by decide +kernel
theorem dJ7_rangeCheck_23922_64 : decode cJ7_rangeCheck_23922 64 = .ok (.new 68, 3) := by decide +kernel
theorem dJ7_rangeCheck_23922_67 : decode cJ7_rangeCheck_23922 67 = .ok (.dup, 1) := by decide +kernel
theorem dJ7_rangeCheck_23922_68 : decode cJ7_rangeCheck_23922 68 = .ok (.iload_n 2, 1) := by decide +kernel
theorem dJ7_rangeCheck_23922_69 : decode cJ7_rangeCheck_23922 69 = .ok (.invokespecial 70, 3) := by decide +kernel
theorem dJ7_rangeCheck_23922_72 : decode cJ7_rangeCheck_23922 72 = .ok (.athrow, 1) := by decide +kernel
theorem dJ7_rangeCheck_23922_73 : decode cJ7_rangeCheck_23922 73 = .ok (.return_, 1) := by decide +kernel
theorem dJ7_fill_eb02e_0 : decode cJ7_fill_eb02e 0 = .ok (.aload_n 0, 1) := by decide +kernel
theorem dJ7_fill_eb02e_1 : decode cJ7_fill_eb02e 1 = .ok (.arraylength, 1) := by decide +kernel
theorem dJ7_fill_eb02e_2 : decode cJ7_fill_eb02e 2 = .ok (.iload_n 1, 1) := by decide +kernel
theorem dJ7_fill_eb02e_3 : decode cJ7_fill_eb02e 3 = .ok (.iload_n 2, 1) := by decide +kernel
theorem dJ7_fill_eb02e_4 : decode cJ7_fill_eb02e 4 = .ok (.invokestatic 13, 3) := by decide +kernel
theorem dJ7_fill_eb02e_7 : decode cJ7_fill_eb02e 7 = .ok (.iload_n 1, 1) := by decide +kernel
theorem dJ7_fill_eb02e_8 : decode cJ7_fill_eb02e 8 = .ok (.istore 4, 2) := by decide +kernel
theorem dJ7_fill_eb02e_10 : decode cJ7_fill_eb02e 10 = .ok (.iload 4, 2) := by decide +kernel
theorem dJ7_fill_eb02e_12 : decode cJ7_fill_eb02e 12 = .ok (.iload_n 2, 1) := by decide +kernel
theorem dJ7_fill_eb02e_13 : decode cJ7_fill_eb02e 13 = .ok (.if_icmp .ge 14, 3) := by decide +kernel
theorem dJ7_fill_eb02e_16 : decode cJ7_fill_eb02e 16 = .ok (.aload_n 0, 1) := by decide +kernel
theorem dJ7_fill_eb02e_17 : decode cJ7_fill_eb02e 17 = .ok (.iload 4, 2) := by decide +kernel
theorem dJ7_fill_eb02e_19 : decode cJ7_fill_eb02e 19 = .ok (.iload_n 3, 1) := by decide +kernel
theorem dJ7_fill_eb02e_20 : decode cJ7_fill_eb02e 20 = .ok (.bastore, 1) := by decide +kernel
theorem dJ7_fill_eb02e_21 : decode cJ7_fill_eb02e 21 = .ok (.iinc 4 1, 3) := by decide +kernel
theorem dJ7_fill_eb02e_24 : decode cJ7_fill_eb02e 24 = .ok (.goto (-14), 3) := by decide +kernel
theorem dJ7_fill_eb02e_27 : decode cJ7_fill_eb02e 27 = .ok (.return_, 1) := by decide +kernel
theorem dJ7_copyOf_1904c_0 : decode cJ7_copyOf_1904c 0 = .ok (.aload_n 0, 1) := by decide +kernel
theorem dJ7_copyOf_1904c_1 : decode cJ7_copyOf_1904c 1 = .ok (.iload_n 1, 1) := by decide +kernel
theorem dJ7_copyOf_1904c_2 : decode cJ7_copyOf_1904c 2 = .ok (.aload_n 0, 1) := by decide +kernel
theorem dJ7_copyOf_1904c_3 : decode cJ7_copyOf_1904c 3 = .ok (.invokevirtual 86, 3) := by decide +kernel
theorem dJ7_copyOf_1904c_6 : decode cJ7_copyOf_1904c 6 = .ok (.invokestatic 300, 3) := by decide +kernel
theorem dJ7_copyOf_1904c_9 : decode cJ7_copyOf_1904c 9 = .ok (.areturn, 1) := by decide +kernel
theorem dJ7_copyOf_6403c_0 : decode cJ7_copyOf_6403c 0 = .ok (.aload_n 2, 1) := by decide +kernel
theorem dJ7_copyOf_6403c_1 : decode cJ7_copyOf_6403c 1 = .ok (.ldc 110, 2) := by decide +kernel
theorem dJ7_copyOf_6403c_3 : decode cJ7_copyOf_6403c 3 = .ok (.if_acmp .ne 10, 3) := by decide +kernel
theorem dJ7_copyOf_6403c_6 : decode cJ7_copyOf_6403c 6 = .ok (.iload_n 1, 1) := by decide +kernel
theorem dJ7_copyOf_6403c_7 : decode cJ7_copyOf_6403c 7 = .ok (.anewarray 2, 3) := by decide +kernel
theorem dJ7_copyOf_6403c_10 : decode cJ7_copyOf_6403c 10 = .ok (.goto 14, 3) := by decide +kernel
theorem dJ7_copyOf_6403c_13 : decode cJ7_copyOf_6403c 13 = .ok (.aload_n 2, 1) := by decide +kernel
theorem dJ7_copyOf_6403c_14 : decode cJ7_copyOf_6403c 14 = .ok (.invokevirtual 90, 3) := by decide +kernel
theorem dJ7_copyOf_6403c_17 : decode cJ7_copyOf_6403c 17 = .ok (.iload_n 1, 1) := by decide +kernel
theorem dJ7_copyOf_6403c_18 : decode cJ7_copyOf_6403c 18 = .ok (.invokestatic 95, 3) := by decide +kernel
theorem dJ7_copyOf_6403c_21 : decode cJ7_copyOf_6403c 21 = .ok (.checkcast 110, 3) := by decide +kernel
theorem dJ7_copyOf_6403c_24 : decode cJ7_copyOf_6403c 24 = .ok (.astore_n 3, 1) := by decide +kernel
theorem dJ7_copyOf_6403c_25 : decode cJ7_copyOf_6403c 25 = .ok (.aload_n 0, 1) := by decide +kernel
theorem dJ7_copyOf_6403c_26 : decode cJ7_copyOf_6403c 26 = .ok (.iconst 0, 1) := by decide +kernel
theorem dJ7_copyOf_6403c_27 : decode cJ7_copyOf_6403c 27 = .ok (.aload_n 3, 1) := by decide +kernel
theorem dJ7_copyOf_6403c_28 : decode cJ7_copyOf_6403c 28 = .ok (.iconst 0, 1) := by decide +kernel
theorem dJ7_copyOf_6403c_29 : decode cJ7_copyOf_6403c 29 = .ok (.aload_n 0, 1) := by decide +kernel
theorem dJ7_copyOf_6403c_30 : decode cJ7_copyOf_6403c 30 = .ok (.arraylength, 1) := by decide +kernel
theorem dJ7_copyOf_6403c_31 : decode cJ7_copyOf_6403c 31 = .ok (.iload_n 1, 1) := by decide +kernel
theorem dJ7_copyOf_6403c_32 : decode cJ7_copyOf_6403c 32 = .ok (.invokestatic 304, 3) := by decide +kernel
theorem dJ7_copyOf_6403c_35 : decode cJ7_copyOf_6403c 35 = .ok (.invokestatic 150, 3) := by decide +kernel
theorem dJ7_copyOf_6403c_38 : decode cJ7_copyOf_6403c 38 = .ok (.aload_n 3, 1) := by decide +kernel
theorem dJ7_copyOf_6403c_39 : decode cJ7_copyOf_6403c 39 = .ok (.areturn, 1) := by decide +kernel
theorem dJ7_copyOf_9075b_0 : decode cJ7_copyOf_9075b 0 = .ok (.iload_n 1, 1) := by decide +kernel
theorem dJ7_copyOf_9075b_1 : decode cJ7_copyOf_9075b 1 = .ok (.aload_n 0, 1) := by decide +kernel
theorem dJ7_copyOf_9075b_2 : decode cJ7_copyOf_9075b 2 = .ok (.arraylength, 1) := by decide +kernel
theorem dJ7_copyOf_9075b_3 : decode cJ7_copyOf_9075b 3 = .ok (.if_icmp .ne 11, 3) := by decide +kernel
theorem dJ7_copyOf_9075b_6 : decode cJ7_copyOf_9075b 6 = .ok (.aload_n 0, 1) := by decide +kernel
theorem dJ7_copyOf_9075b_7 : decode cJ7_copyOf_9075b 7 = .ok (.invokevirtual 310, 3) := by decide +kernel
theorem dJ7_copyOf_9075b_10 : decode cJ7_copyOf_9075b 10 = .ok (.checkcast 311, 3) := by decide +kernel
theorem dJ7_copyOf_9075b_13 : decode cJ7_copyOf_9075b 13 = .ok (.areturn, 1) := by decide +kernel
theorem dJ7_copyOf_9075b_14 : decode cJ7_copyOf_9075b 14 = .ok (.iload_n 1, 1) := by decide +kernel
theorem dJ7_copyOf_9075b_15 : decode cJ7_copyOf_9075b 15 = .ok (.newarray .byte, 2) := by decide +kernel
theorem dJ7_copyOf_9075b_17 : decode cJ7_copyOf_9075b 17 = .ok (.astore_n 2, 1) := by decide +kernel
theorem dJ7_copyOf_9075b_18 : decode cJ7_copyOf_9075b 18 = .ok (.aload_n 0, 1) := by decide +kernel
theorem dJ7_copyOf_9075b_19 : decode cJ7_copyOf_9075b 19 = .ok (.iconst 0, 1) := by decide +kernel
theorem dJ7_copyOf_9075b_20 : decode cJ7_copyOf_9075b 20 = .ok (.aload_n 2, 1) := by decide +kernel
theorem dJ7_copyOf_9075b_21 : decode cJ7_copyOf_9075b 21 = .ok (.iconst 0, 1) := by decide +kernel
theorem dJ7_copyOf_9075b_22 : decode cJ7_copyOf_9075b 22 = .ok (.aload_n 0, 1) := by decide +kernel
theorem dJ7_copyOf_9075b_23 : decode cJ7_copyOf_9075b 23 = .ok (.arraylength, 1) := by decide +kernel
theorem dJ7_copyOf_9075b_24 : decode cJ7_copyOf_9075b 24 = .ok (.iload_n 1, 1) := by decide +kernel
theorem dJ7_copyOf_9075b_25 : decode cJ7_copyOf_9075b 25 = .ok (.invokestatic 304, 3) := by decide +kernel
theorem dJ7_copyOf_9075b_28 : decode cJ7_copyOf_9075b 28 = .ok (.invokestatic 150, 3) := by decide +kernel
theorem dJ7_copyOf_9075b_31 : decode cJ7_copyOf_9075b 31 = .ok (.aload_n 2, 1) := by decide +kernel
theorem dJ7_copyOf_9075b_32 : decode cJ7_copyOf_9075b 32 = .ok (.areturn, 1) := by decide +kernel
theorem dJ15_checkIndex_7cf53_0 : decode cJ15_checkIndex_7cf53 0 = .ok (.iload_n 0, 1) := by decide +kernel
theorem dJ15_checkIndex_7cf53_1 : decode cJ15_checkIndex_7cf53 1 = .ok (.iload_n 1, 1) := by decide +kernel
theorem dJ15_checkIndex_7cf53_2 : decode cJ15_checkIndex_7cf53 2 = .ok (.aconst_null, 1) := by decide +kernel
theorem dJ15_checkIndex_7cf53_3 : decode cJ15_checkIndex_7cf53 3 = .ok (.invokestatic 105, 3) := by decide +kernel
theorem dJ15_checkIndex_7cf53_6 : decode cJ15_checkIndex_7cf53 6 = .ok (.ireturn, 1) := by decide +kernel
theorem dJ8_newLength_cabcc_0 : decode cJ8_newLength_cabcc 0 = .ok (.iload_n 0, 1) := by decide +kernel
theorem dJ8_newLength_cabcc_1 : decode cJ8_newLength_cabcc 1 = .ok (.iload_n 1, 1) := by decide +kernel
theorem dJ8_newLength_cabcc_2 : decode cJ8_newLength_cabcc 2 = .ok (.iload_n 2, 1) := by decide +kernel
theorem dJ8_newLength_cabcc_3 : decode cJ8_newLength_cabcc 3 = .ok (.invokestatic 194, 3) := by decide +kernel
theorem dJ8_newLength_cabcc_6 : decode cJ8_newLength_cabcc 6 = .ok (.iadd, 1) := by decide +kernel
theorem dJ8_newLength_cabcc_7 : decode cJ8_newLength_cabcc 7 = .ok (.istore_n 3, 1) := by decide +kernel
theorem dJ8_newLength_cabcc_8 : decode cJ8_newLength_cabcc 8 = .ok (.iconst 0, 1) := by decide +kernel
theorem dJ8_newLength_cabcc_9 : decode cJ8_newLength_cabcc 9 = .ok (.iload_n 3, 1) := by decide +kernel
theorem dJ8_newLength_cabcc_10 : decode cJ8_newLength_cabcc 10 = .ok (.if_icmp .ge 11, 3) := by decide +kernel
theorem dJ8_newLength_cabcc_13 : decode cJ8_newLength_cabcc 13 = .ok (.iload_n 3, 1) := by decide +kernel
theorem dJ8_newLength_cabcc_14 : decode cJ8_newLength_cabcc 14 = .ok (.ldc 200, 2) := by decide +kernel
theorem dJ8_newLength_cabcc_16 : decode cJ8_newLength_cabcc 16 = .ok (.if_icmp .gt 5, 3) := by decide +kernel
theorem dJ8_newLength_cabcc_19 : decode cJ8_newLength_cabcc 19 = .ok (.iload_n 3, 1) := by decide +kernel
theorem dJ8_newLength_cabcc_20 : decode cJ8_newLength_cabcc 20 = .ok (.ireturn, 1) := by decide +kernel
theorem dJ8_newLength_cabcc_21 : decode cJ8_newLength_cabcc 21 = .ok (.iload_n 0, 1) := by decide +kernel
theorem dJ8_newLength_cabcc_22 : decode cJ8_newLength_cabcc 22 = .ok (.iload_n 1, 1) := by decide +kernel
theorem dJ8_newLength_cabcc_23 : decode cJ8_newLength_cabcc 23 = .ok (.invokestatic 201, 3) := by decide +kernel
theorem dJ8_newLength_cabcc_26 : decode cJ8_newLength_cabcc 26 = .ok (.ireturn, 1) := by decide +kernel
theorem dJ3_checkIndex_8e157_0 : decode cJ3_checkIndex_8e157 0 = .ok (.iload_n 0, 1) := by decide +kernel
theorem dJ3_checkIndex_8e157_1 : decode cJ3_checkIndex_8e157 1 = .ok (.ifCond .lt 8, 3) := by decide +kernel
theorem dJ3_checkIndex_8e157_4 : decode cJ3_checkIndex_8e157 4 = .ok (.iload_n 0, 1) := by decide +kernel
theorem dJ3_checkIndex_8e157_5 : decode cJ3_checkIndex_8e157 5 = .ok (.iload_n 1, 1) := by decide +kernel
theorem dJ3_checkIndex_8e157_6 : decode cJ3_checkIndex_8e157 6 = .ok (.if_icmp .lt 10, 3) := by decide +kernel
theorem dJ3_checkIndex_8e157_9 : decode cJ3_checkIndex_8e157 9 = .ok (.aload_n 2, 1) := by decide +kernel
theorem dJ3_checkIndex_8e157_10 : decode cJ3_checkIndex_8e157 10 = .ok (.iload_n 0, 1) := by decide +kernel
theorem dJ3_checkIndex_8e157_11 : decode cJ3_checkIndex_8e157 11 = .ok (.iload_n 1, 1) := by decide +kernel
theorem dJ3_checkIndex_8e157_12 : decode cJ3_checkIndex_8e157 12 = .ok (.invokestatic 95, 3) := by decide +kernel
theorem dJ3_checkIndex_8e157_15 : decode cJ3_checkIndex_8e157 15 = .ok (.athrow, 1) := by decide +kernel
theorem dJ3_checkIndex_8e157_16 : decode cJ3_checkIndex_8e157 16 = .ok (.iload_n 0, 1) := by decide +kernel
theorem dJ3_checkIndex_8e157_17 : decode cJ3_checkIndex_8e157 17 = .ok (.ireturn, 1) := by decide +kernel
end
section
def W0 : List Cond := lw_tbl.filter goodWord
theorem q_mk {w : Cond} (i : Nat) (h : lw_tbl[i]? = some w) (hg : goodWord w = true) : w ∈ W0 := List.mem_filter.mpr ⟨List.mem_of_getElem? h, hg⟩
theorem kp_0 : (Cond.selects "java/lang/Throwable" ⟨"java/lang/Throwable", "fillInStackTrace", "(I)Ljava/lang/Throwable;"⟩ ⟨"java/lang/Throwable", "fillInStackTrace", "(I)Ljava/lang/Throwable;"⟩ : Cond) ∈ W0 := q_mk 0 (by decide +kernel) (by decide +kernel)
theorem kp_1 : (Cond.selects "Invoicebridge" ⟨"Invoicebridge", "faultOfDraft", "()I"⟩ ⟨"Invoicebridge", "faultOfDraft", "()I"⟩ : Cond) ∈ W0 := q_mk 1 (by decide +kernel) (by decide +kernel)
theorem kp_2 : (Cond.selects "Invoicebridge" ⟨"Invoicebridge", "checkCompany", "(I)V"⟩ ⟨"Invoicebridge", "checkCompany", "(I)V"⟩ : Cond) ∈ W0 := q_mk 2 (by decide +kernel) (by decide +kernel)
theorem kp_3 : (Cond.selects "Invoicebridge" ⟨"Invoicebridge", "checkGoods", "(I)V"⟩ ⟨"Invoicebridge", "checkGoods", "(I)V"⟩ : Cond) ∈ W0 := q_mk 3 (by decide +kernel) (by decide +kernel)
theorem kp_4 : (Cond.selects "Invoicebridge" ⟨"Invoicebridge", "checkAmount", "(I)V"⟩ ⟨"Invoicebridge", "checkAmount", "(I)V"⟩ : Cond) ∈ W0 := q_mk 4 (by decide +kernel) (by decide +kernel)
theorem kp_5 : (Cond.selects "Invoicebridge" ⟨"Invoicebridge", "checkRate", "(I)V"⟩ ⟨"Invoicebridge", "checkRate", "(I)V"⟩ : Cond) ∈ W0 := q_mk 5 (by decide +kernel) (by decide +kernel)
theorem kp_6 : (Cond.selects "Invoicebridge" ⟨"Invoicebridge", "checkTwoCompanies", "(II)V"⟩ ⟨"Invoicebridge", "checkTwoCompanies", "(II)V"⟩ : Cond) ∈ W0 := q_mk 6 (by decide +kernel) (by decide +kernel)
theorem kp_7 : (Cond.selects "java/util/ArrayList" ⟨"java/util/ArrayList", "add", "(Ljava/lang/Object;[Ljava/lang/Object;I)V"⟩ ⟨"java/util/ArrayList", "add", "(Ljava/lang/Object;[Ljava/lang/Object;I)V"⟩ : Cond) ∈ W0 := q_mk 7 (by decide +kernel) (by decide +kernel)
theorem kp_8 : (Cond.selects "java/util/ArrayList" ⟨"java/util/ArrayList", "grow", "()[Ljava/lang/Object;"⟩ ⟨"java/util/ArrayList", "grow", "()[Ljava/lang/Object;"⟩ : Cond) ∈ W0 := q_mk 8 (by decide +kernel) (by decide +kernel)
theorem kp_9 : (Cond.selects "java/util/ArrayList" ⟨"java/util/ArrayList", "grow", "(I)[Ljava/lang/Object;"⟩ ⟨"java/util/ArrayList", "grow", "(I)[Ljava/lang/Object;"⟩ : Cond) ∈ W0 := q_mk 9 (by decide +kernel) (by decide +kernel)
theorem kp_10 : (Cond.selects "Invoicebridge" ⟨"Invoicebridge", "invoiceAt", "(I)LInvoicebridge$Invoice;"⟩ ⟨"Invoicebridge", "invoiceAt", "(I)LInvoicebridge$Invoice;"⟩ : Cond) ∈ W0 := q_mk 10 (by decide +kernel) (by decide +kernel)
theorem kp_11 : (Cond.selects "Invoicebridge" ⟨"Invoicebridge", "checkSent", "(LInvoicebridge$Invoice;)V"⟩ ⟨"Invoicebridge", "checkSent", "(LInvoicebridge$Invoice;)V"⟩ : Cond) ∈ W0 := q_mk 11 (by decide +kernel) (by decide +kernel)
theorem kp_12 : (Cond.selects "Invoicebridge" ⟨"Invoicebridge", "lineAt", "(LInvoicebridge$Invoice;I)LInvoicebridge$Line;"⟩ ⟨"Invoicebridge", "lineAt", "(LInvoicebridge$Invoice;I)LInvoicebridge$Line;"⟩ : Cond) ∈ W0 := q_mk 12 (by decide +kernel) (by decide +kernel)
theorem kp_13 : (Cond.selects "Invoicebridge" ⟨"Invoicebridge", "checkRoomForCredit", "()V"⟩ ⟨"Invoicebridge", "checkRoomForCredit", "()V"⟩ : Cond) ∈ W0 := q_mk 13 (by decide +kernel) (by decide +kernel)
theorem kp_14 : (Cond.selects "Invoicebridge" ⟨"Invoicebridge", "makeCredit", "(LInvoicebridge$Invoice;LInvoicebridge$Line;I)V"⟩ ⟨"Invoicebridge", "makeCredit", "(LInvoicebridge$Invoice;LInvoicebridge$Line;I)V"⟩ : Cond) ∈ W0 := q_mk 14 (by decide +kernel) (by decide +kernel)
theorem kp_15 : (Cond.selects "Invoicebridge" ⟨"Invoicebridge", "checkOwed", "(LInvoicebridge$Invoice;)V"⟩ ⟨"Invoicebridge", "checkOwed", "(LInvoicebridge$Invoice;)V"⟩ : Cond) ∈ W0 := q_mk 15 (by decide +kernel) (by decide +kernel)
theorem kp_16 : (Cond.selects "Invoicebridge" ⟨"Invoicebridge", "checkRoomForDocument", "()V"⟩ ⟨"Invoicebridge", "checkRoomForDocument", "()V"⟩ : Cond) ∈ W0 := q_mk 16 (by decide +kernel) (by decide +kernel)
theorem kp_17 : (Cond.selects "Invoicebridge" ⟨"Invoicebridge", "moveCash", "(III)V"⟩ ⟨"Invoicebridge", "moveCash", "(III)V"⟩ : Cond) ∈ W0 := q_mk 17 (by decide +kernel) (by decide +kernel)
theorem kp_18 : (Cond.selects "Invoicebridge" ⟨"Invoicebridge", "addCash", "(II)V"⟩ ⟨"Invoicebridge", "addCash", "(II)V"⟩ : Cond) ∈ W0 := q_mk 18 (by decide +kernel) (by decide +kernel)
theorem kp_19 : (Cond.selects "Invoicebridge" ⟨"Invoicebridge", "checkPayment", "(III)V"⟩ ⟨"Invoicebridge", "checkPayment", "(III)V"⟩ : Cond) ∈ W0 := q_mk 19 (by decide +kernel) (by decide +kernel)
theorem kp_20 : (Cond.selects "Invoicebridge" ⟨"Invoicebridge", "numberOfDraft", "()I"⟩ ⟨"Invoicebridge", "numberOfDraft", "()I"⟩ : Cond) ∈ W0 := q_mk 20 (by decide +kernel) (by decide +kernel)
theorem kp_21 : (Cond.selects "Invoicebridge" ⟨"Invoicebridge", "takePayment", "(LInvoicebridge$Invoice;I)V"⟩ ⟨"Invoicebridge", "takePayment", "(LInvoicebridge$Invoice;I)V"⟩ : Cond) ∈ W0 := q_mk 21 (by decide +kernel) (by decide +kernel)
theorem kp_22 : (Cond.selects "Invoicebridge" ⟨"Invoicebridge", "checkMonth", "(I)V"⟩ ⟨"Invoicebridge", "checkMonth", "(I)V"⟩ : Cond) ∈ W0 := q_mk 22 (by decide +kernel) (by decide +kernel)
theorem kp_23 : (Cond.selects "Invoicebridge" ⟨"Invoicebridge", "taxWithCarried", "(II)I"⟩ ⟨"Invoicebridge", "taxWithCarried", "(II)I"⟩ : Cond) ∈ W0 := q_mk 23 (by decide +kernel) (by decide +kernel)
theorem kp_24 : (Cond.selects "Invoicebridge" ⟨"Invoicebridge", "taxOfMonth", "(II)I"⟩ ⟨"Invoicebridge", "taxOfMonth", "(II)I"⟩ : Cond) ∈ W0 := q_mk 24 (by decide +kernel) (by decide +kernel)
theorem kp_25 : (Cond.selects "Invoicebridge" ⟨"Invoicebridge", "greatestTaxAhead", "(ILInvoicebridge$Invoice;)I"⟩ ⟨"Invoicebridge", "greatestTaxAhead", "(ILInvoicebridge$Invoice;)I"⟩ : Cond) ∈ W0 := q_mk 25 (by decide +kernel) (by decide +kernel)
theorem kp_26 : (Cond.selects "InvoicebridgeModel" ⟨"InvoicebridgeModel", "adds", "(III)V"⟩ ⟨"InvoicebridgeModel", "adds", "(III)V"⟩ : Cond) ∈ W0 := q_mk 26 (by decide +kernel) (by decide +kernel)
theorem kp_27 : (Cond.selects "InvoicebridgeModel" ⟨"InvoicebridgeModel", "isInvoice", "(I)Z"⟩ ⟨"InvoicebridgeModel", "isInvoice", "(I)Z"⟩ : Cond) ∈ W0 := q_mk 27 (by decide +kernel) (by decide +kernel)
theorem kp_28 : (Cond.selects "InvoicebridgeModel" ⟨"InvoicebridgeModel", "hasCredit", "(I)Z"⟩ ⟨"InvoicebridgeModel", "hasCredit", "(I)Z"⟩ : Cond) ∈ W0 := q_mk 28 (by decide +kernel) (by decide +kernel)
theorem kp_29 : (Cond.selects "InvoicebridgeModel" ⟨"InvoicebridgeModel", "owed", "(I)I"⟩ ⟨"InvoicebridgeModel", "owed", "(I)I"⟩ : Cond) ∈ W0 := q_mk 29 (by decide +kernel) (by decide +kernel)
theorem kp_30 : (Cond.selects "InvoicebridgeModel" ⟨"InvoicebridgeModel", "costs", "(IZ)I"⟩ ⟨"InvoicebridgeModel", "costs", "(IZ)I"⟩ : Cond) ∈ W0 := q_mk 30 (by decide +kernel) (by decide +kernel)
theorem kp_31 : (Cond.selects "InvoicebridgeModel" ⟨"InvoicebridgeModel", "isLine", "(II)Z"⟩ ⟨"InvoicebridgeModel", "isLine", "(II)Z"⟩ : Cond) ∈ W0 := q_mk 31 (by decide +kernel) (by decide +kernel)
theorem kp_32 : (Cond.selects "InvoicebridgeModel" ⟨"InvoicebridgeModel", "lessens", "(III)V"⟩ ⟨"InvoicebridgeModel", "lessens", "(III)V"⟩ : Cond) ∈ W0 := q_mk 32 (by decide +kernel) (by decide +kernel)
theorem kp_33 : (Cond.selects "InvoicebridgeModel" ⟨"InvoicebridgeModel", "moves", "(III)V"⟩ ⟨"InvoicebridgeModel", "moves", "(III)V"⟩ : Cond) ∈ W0 := q_mk 33 (by decide +kernel) (by decide +kernel)
theorem kp_34 : (Cond.selects "InvoicebridgeModel" ⟨"InvoicebridgeModel", "faultOf", "()I"⟩ ⟨"InvoicebridgeModel", "faultOf", "()I"⟩ : Cond) ∈ W0 := q_mk 34 (by decide +kernel) (by decide +kernel)
theorem kp_35 : (Cond.selects "InvoicebridgeModel" ⟨"InvoicebridgeModel", "taxOfAll", "(IZ)I"⟩ ⟨"InvoicebridgeModel", "taxOfAll", "(IZ)I"⟩ : Cond) ∈ W0 := q_mk 35 (by decide +kernel) (by decide +kernel)
theorem kp_36 : (Cond.selects "InvoicebridgeModel" ⟨"InvoicebridgeModel", "sums", "(IZ)I"⟩ ⟨"InvoicebridgeModel", "sums", "(IZ)I"⟩ : Cond) ∈ W0 := q_mk 36 (by decide +kernel) (by decide +kernel)
theorem kp_37 : (Cond.selects "InvoicebridgeModel" ⟨"InvoicebridgeModel", "isMonth", "(I)Z"⟩ ⟨"InvoicebridgeModel", "isMonth", "(I)Z"⟩ : Cond) ∈ W0 := q_mk 37 (by decide +kernel) (by decide +kernel)
theorem kp_38 : (Cond.selects "InvoicebridgeModel" ⟨"InvoicebridgeModel", "taxUpTo", "(II)I"⟩ ⟨"InvoicebridgeModel", "taxUpTo", "(II)I"⟩ : Cond) ∈ W0 := q_mk 38 (by decide +kernel) (by decide +kernel)
theorem kp_39 : (Cond.selects "InvoicebridgeModel" ⟨"InvoicebridgeModel", "taxIn", "(II)I"⟩ ⟨"InvoicebridgeModel", "taxIn", "(II)I"⟩ : Cond) ∈ W0 := q_mk 39 (by decide +kernel) (by decide +kernel)
theorem k_0 : ((Cond.initialized "InvoicebridgeLaw") : Cond) ∈ W0 := q_mk 40 (by decide +kernel) (by decide +kernel)
theorem k_1 : ((Cond.initialized "Invoicebridge") : Cond) ∈ W0 := q_mk 41 (by decide +kernel) (by decide +kernel)
theorem k_2 : ((Cond.initialized "java/util/AbstractCollection") : Cond) ∈ W0 := q_mk 42 (by decide +kernel) (by decide +kernel)
theorem k_3 : ((Cond.initialized "java/util/AbstractList") : Cond) ∈ W0 := q_mk 43 (by decide +kernel) (by decide +kernel)
theorem k_4 : ((Cond.initialized "java/util/ArrayList") : Cond) ∈ W0 := q_mk 44 (by decide +kernel) (by decide +kernel)
theorem k_5 : ((Cond.initialized "java/lang/AbstractStringBuilder") : Cond) ∈ W0 := q_mk 45 (by decide +kernel) (by decide +kernel)
theorem k_6 : ((Cond.initialized "java/lang/StringBuilder") : Cond) ∈ W0 := q_mk 46 (by decide +kernel) (by decide +kernel)
theorem k_7 : ((Cond.initialized "java/lang/String") : Cond) ∈ W0 := q_mk 47 (by decide +kernel) (by decide +kernel)
theorem k_9 : ((Cond.initialized "InvoicebridgeModel") : Cond) ∈ W0 := q_mk 49 (by decide +kernel) (by decide +kernel)
theorem k_10 : ((Cond.initialized "java/lang/Throwable") : Cond) ∈ W0 := q_mk 50 (by decide +kernel) (by decide +kernel)
theorem k_11 : ((Cond.initialized "java/lang/Exception") : Cond) ∈ W0 := q_mk 51 (by decide +kernel) (by decide +kernel)
theorem k_12 : ((Cond.initialized "java/lang/RuntimeException") : Cond) ∈ W0 := q_mk 52 (by decide +kernel) (by decide +kernel)
theorem k_13 : ((Cond.initialized "java/lang/IndexOutOfBoundsException") : Cond) ∈ W0 := q_mk 53 (by decide +kernel) (by decide +kernel)
theorem k_14 : ((Cond.initialized "java/lang/IllegalArgumentException") : Cond) ∈ W0 := q_mk 54 (by decide +kernel) (by decide +kernel)
theorem k_15 : ((Cond.initialized "java/lang/IllegalStateException") : Cond) ∈ W0 := q_mk 55 (by decide +kernel) (by decide +kernel)
theorem k_16 : ((Cond.initialized "Invoicebridge$Invoice") : Cond) ∈ W0 := q_mk 56 (by decide +kernel) (by decide +kernel)
theorem k_17 : ((Cond.initialized "Invoicebridge$Line") : Cond) ∈ W0 := q_mk 57 (by decide +kernel) (by decide +kernel)
theorem k_18 : ((Cond.initialized "jdk/internal/util/ArraysSupport") : Cond) ∈ W0 := q_mk 58 (by decide +kernel) (by decide +kernel)
theorem k_19 : ((Cond.initialized "java/lang/Math") : Cond) ∈ W0 := q_mk 59 (by decide +kernel) (by decide +kernel)
theorem k_20 : ((Cond.initialized "java/util/Arrays") : Cond) ∈ W0 := q_mk 60 (by decide +kernel) (by decide +kernel)
theorem k_21 : ((Cond.initialized "java/lang/System") : Cond) ∈ W0 := q_mk 61 (by decide +kernel) (by decide +kernel)
theorem k_22 : ((Cond.initialized "java/util/Objects") : Cond) ∈ W0 := q_mk 62 (by decide +kernel) (by decide +kernel)
theorem k_23 : ((Cond.initialized "jdk/internal/util/Preconditions") : Cond) ∈ W0 := q_mk 63 (by decide +kernel) (by decide +kernel)
theorem k_24 : ((Cond.initialized "Invoicebridge$Credit") : Cond) ∈ W0 := q_mk 64 (by decide +kernel) (by decide +kernel)
theorem k_25 : ((Cond.initialized "Invoicebridge$Document") : Cond) ∈ W0 := q_mk 65 (by decide +kernel) (by decide +kernel)
theorem k_26 : ((Cond.initialized "java/lang/StringLatin1") : Cond) ∈ W0 := q_mk 66 (by decide +kernel) (by decide +kernel)
theorem k_27 : ((Cond.initialized "java/lang/StringIndexOutOfBoundsException") : Cond) ∈ W0 := q_mk 67 (by decide +kernel) (by decide +kernel)
theorem k_28 : ((Cond.initialized "java/lang/Number") : Cond) ∈ W0 := q_mk 68 (by decide +kernel) (by decide +kernel)
theorem k_29 : ((Cond.initialized "java/lang/Integer") : Cond) ∈ W0 := q_mk 69 (by decide +kernel) (by decide +kernel)
theorem k_30 : ((Cond.initialized "java/lang/ArrayIndexOutOfBoundsException") : Cond) ∈ W0 := q_mk 70 (by decide +kernel) (by decide +kernel)
theorem k_31 : ((Cond.classLink "InvoicebridgeLaw" 8 "Invoicebridge") : Cond) ∈ W0 := q_mk 71 (by decide +kernel) (by decide +kernel)
theorem k_32 : ((Cond.instantiable "Invoicebridge" 6) : Cond) ∈ W0 := q_mk 72 (by decide +kernel) (by decide +kernel)
theorem k_33 : ((Cond.methodLink "InvoicebridgeLaw" 87 ⟨"Invoicebridge", "<init>", "()V"⟩) : Cond) ∈ W0 := q_mk 73 (by decide +kernel) (by decide +kernel)
theorem k_34 : ((Cond.instanceMethod ⟨"Invoicebridge", "<init>", "()V"⟩) : Cond) ∈ W0 := q_mk 74 (by decide +kernel) (by decide +kernel)
theorem k_35 : ((Cond.code ⟨"Invoicebridge", "<init>", "()V"⟩ prog_1_method_1_code 1 (none : Option FieldType)) : Cond) ∈ W0 := q_mk 75 (by decide +kernel) (by decide +kernel)
theorem k_36 : ((Cond.methodLink "Invoicebridge" 1 ⟨"java/lang/Object", "<init>", "()V"⟩) : Cond) ∈ W0 := q_mk 76 (by decide +kernel) (by decide +kernel)
theorem k_37 : ((Cond.instanceMethod ⟨"java/lang/Object", "<init>", "()V"⟩) : Cond) ∈ W0 := q_mk 77 (by decide +kernel) (by decide +kernel)
theorem k_38 : ((Cond.code ⟨"java/lang/Object", "<init>", "()V"⟩ object_method_1_code 1 (none : Option FieldType)) : Cond) ∈ W0 := q_mk 78 (by decide +kernel) (by decide +kernel)
theorem k_39 : ((Cond.classLink "Invoicebridge" 7 "java/util/ArrayList") : Cond) ∈ W0 := q_mk 79 (by decide +kernel) (by decide +kernel)
theorem k_40 : ((Cond.instantiable "java/util/ArrayList" 3) : Cond) ∈ W0 := q_mk 80 (by decide +kernel) (by decide +kernel)
theorem k_41 : ((Cond.methodLink "Invoicebridge" 9 ⟨"java/util/ArrayList", "<init>", "()V"⟩) : Cond) ∈ W0 := q_mk 81 (by decide +kernel) (by decide +kernel)
theorem k_42 : ((Cond.instanceMethod ⟨"java/util/ArrayList", "<init>", "()V"⟩) : Cond) ∈ W0 := q_mk 82 (by decide +kernel) (by decide +kernel)
theorem k_43 : ((Cond.code ⟨"java/util/ArrayList", "<init>", "()V"⟩ prog_35_method_2_code 1 (none : Option FieldType)) : Cond) ∈ W0 := q_mk 83 (by decide +kernel) (by decide +kernel)
theorem k_44 : ((Cond.methodLink "java/util/ArrayList" 1 ⟨"java/util/AbstractList", "<init>", "()V"⟩) : Cond) ∈ W0 := q_mk 84 (by decide +kernel) (by decide +kernel)
theorem k_45 : ((Cond.instanceMethod ⟨"java/util/AbstractList", "<init>", "()V"⟩) : Cond) ∈ W0 := q_mk 85 (by decide +kernel) (by decide +kernel)
theorem k_46 : ((Cond.code ⟨"java/util/AbstractList", "<init>", "()V"⟩ prog_34_method_1_code 1 (none : Option FieldType)) : Cond) ∈ W0 := q_mk 86 (by decide +kernel) (by decide +kernel)
theorem k_47 : ((Cond.methodLink "java/util/AbstractList" 1 ⟨"java/util/AbstractCollection", "<init>", "()V"⟩) : Cond) ∈ W0 := q_mk 87 (by decide +kernel) (by decide +kernel)
theorem k_48 : ((Cond.instanceMethod ⟨"java/util/AbstractCollection", "<init>", "()V"⟩) : Cond) ∈ W0 := q_mk 88 (by decide +kernel) (by decide +kernel)
theorem k_49 : ((Cond.code ⟨"java/util/AbstractCollection", "<init>", "()V"⟩ prog_33_method_1_code 1 (none : Option FieldType)) : Cond) ∈ W0 := q_mk 89 (by decide +kernel) (by decide +kernel)
theorem k_50 : ((Cond.methodLink "java/util/AbstractCollection" 1 ⟨"java/lang/Object", "<init>", "()V"⟩) : Cond) ∈ W0 := q_mk 90 (by decide +kernel) (by decide +kernel)
theorem k_51 : ((Cond.fieldLink "java/util/ArrayList" 39 "java/util/ArrayList" "DEFAULTCAPACITY_EMPTY_ELEMENTDATA" "[Ljava/lang/Object;") : Cond) ∈ W0 := q_mk 91 (by decide +kernel) (by decide +kernel)
theorem k_53 : ((Cond.fieldLink "java/util/ArrayList" 9 "java/util/ArrayList" "elementData" "[Ljava/lang/Object;") : Cond) ∈ W0 := q_mk 93 (by decide +kernel) (by decide +kernel)
theorem k_54 : ((Cond.fieldLink "java/util/ArrayList" 48 "java/util/ArrayList" "size" "I") : Cond) ∈ W0 := q_mk 94 (by decide +kernel) (by decide +kernel)
theorem k_55 : ((Cond.fieldLink "java/util/AbstractList" 7 "java/util/AbstractList" "modCount" "I") : Cond) ∈ W0 := q_mk 95 (by decide +kernel) (by decide +kernel)
theorem k_56 : ((Cond.fieldLink "java/util/ArrayList" 63 "java/util/ArrayList" "modCount" "I") : Cond) ∈ W0 := q_mk 96 (by decide +kernel) (by decide +kernel)
theorem k_57 : ((Cond.sameField "java/util/ArrayList" "java/util/AbstractList" "modCount" "I") : Cond) ∈ W0 := q_mk 97 (by decide +kernel) (by decide +kernel)
theorem k_58 : ((Cond.lays "java/util/ArrayList" "java/util/ArrayList" "elementData" "[Ljava/lang/Object;") : Cond) ∈ W0 := q_mk 98 (by decide +kernel) (by decide +kernel)
theorem k_60 : ((Cond.lays "java/util/ArrayList" "java/util/ArrayList" "size" "I") : Cond) ∈ W0 := q_mk 100 (by decide +kernel) (by decide +kernel)
theorem k_62 : ((Cond.lays "java/util/ArrayList" "java/util/AbstractList" "modCount" "I") : Cond) ∈ W0 := q_mk 102 (by decide +kernel) (by decide +kernel)
theorem k_64 : ((Cond.superclass "java/util/ArrayList" "java/util/AbstractList") : Cond) ∈ W0 := q_mk 104 (by decide +kernel) (by decide +kernel)
theorem k_65 : ((Cond.classLink "Invoicebridge" 26 "java/lang/StringBuilder") : Cond) ∈ W0 := q_mk 105 (by decide +kernel) (by decide +kernel)
theorem k_66 : ((Cond.instantiable "java/lang/StringBuilder" 4) : Cond) ∈ W0 := q_mk 106 (by decide +kernel) (by decide +kernel)
theorem k_67 : ((Cond.methodLink "Invoicebridge" 28 ⟨"java/lang/StringBuilder", "<init>", "()V"⟩) : Cond) ∈ W0 := q_mk 107 (by decide +kernel) (by decide +kernel)
theorem k_68 : ((Cond.instanceMethod ⟨"java/lang/StringBuilder", "<init>", "()V"⟩) : Cond) ∈ W0 := q_mk 108 (by decide +kernel) (by decide +kernel)
theorem k_69 : ((Cond.code ⟨"java/lang/StringBuilder", "<init>", "()V"⟩ prog_25_method_1_code 1 (none : Option FieldType)) : Cond) ∈ W0 := q_mk 109 (by decide +kernel) (by decide +kernel)
theorem k_70 : ((Cond.methodLink "java/lang/StringBuilder" 1 ⟨"java/lang/AbstractStringBuilder", "<init>", "(I)V"⟩) : Cond) ∈ W0 := q_mk 110 (by decide +kernel) (by decide +kernel)
theorem k_71 : ((Cond.instanceMethod ⟨"java/lang/AbstractStringBuilder", "<init>", "(I)V"⟩) : Cond) ∈ W0 := q_mk 111 (by decide +kernel) (by decide +kernel)
theorem k_72 : ((Cond.code ⟨"java/lang/AbstractStringBuilder", "<init>", "(I)V"⟩ prog_9_method_2_code 2 (none : Option FieldType)) : Cond) ∈ W0 := q_mk 112 (by decide +kernel) (by decide +kernel)
theorem k_73 : ((Cond.methodLink "java/lang/AbstractStringBuilder" 3 ⟨"java/lang/Object", "<init>", "()V"⟩) : Cond) ∈ W0 := q_mk 113 (by decide +kernel) (by decide +kernel)
theorem k_74 : ((Cond.fieldLink "java/lang/AbstractStringBuilder" 18 "java/lang/String" "COMPACT_STRINGS" "Z") : Cond) ∈ W0 := q_mk 114 (by decide +kernel) (by decide +kernel)
theorem k_83 : ((Cond.fieldLink "java/lang/AbstractStringBuilder" 15 "java/lang/AbstractStringBuilder" "value" "[B") : Cond) ∈ W0 := q_mk 123 (by decide +kernel) (by decide +kernel)
theorem k_84 : ((Cond.fieldLink "java/lang/AbstractStringBuilder" 22 "java/lang/AbstractStringBuilder" "coder" "B") : Cond) ∈ W0 := q_mk 124 (by decide +kernel) (by decide +kernel)
theorem k_85 : ((Cond.fieldLink "java/lang/AbstractStringBuilder" 73 "java/lang/AbstractStringBuilder" "maybeLatin1" "Z") : Cond) ∈ W0 := q_mk 125 (by decide +kernel) (by decide +kernel)
theorem k_86 : ((Cond.fieldLink "java/lang/String" 1048 "java/lang/AbstractStringBuilder" "maybeLatin1" "Z") : Cond) ∈ W0 := q_mk 126 (by decide +kernel) (by decide +kernel)
theorem k_87 : ((Cond.fieldLink "java/lang/AbstractStringBuilder" 79 "java/lang/AbstractStringBuilder" "count" "I") : Cond) ∈ W0 := q_mk 127 (by decide +kernel) (by decide +kernel)
theorem k_88 : ((Cond.lays "java/lang/StringBuilder" "java/lang/AbstractStringBuilder" "value" "[B") : Cond) ∈ W0 := q_mk 128 (by decide +kernel) (by decide +kernel)
theorem k_90 : ((Cond.lays "java/lang/StringBuilder" "java/lang/AbstractStringBuilder" "coder" "B") : Cond) ∈ W0 := q_mk 130 (by decide +kernel) (by decide +kernel)
theorem k_92 : ((Cond.lays "java/lang/StringBuilder" "java/lang/AbstractStringBuilder" "maybeLatin1" "Z") : Cond) ∈ W0 := q_mk 132 (by decide +kernel) (by decide +kernel)
theorem k_94 : ((Cond.lays "java/lang/StringBuilder" "java/lang/AbstractStringBuilder" "count" "I") : Cond) ∈ W0 := q_mk 134 (by decide +kernel) (by decide +kernel)
theorem k_96 : ((Cond.superclass "java/lang/StringBuilder" "java/lang/AbstractStringBuilder") : Cond) ∈ W0 := q_mk 136 (by decide +kernel) (by decide +kernel)
theorem k_97 : ((Cond.arrayClass FieldType.int) : Cond) ∈ W0 := q_mk 137 (by decide +kernel) (by decide +kernel)
theorem k_98 : ((Cond.arrayClass FieldType.byte) : Cond) ∈ W0 := q_mk 138 (by decide +kernel) (by decide +kernel)
theorem k_99 : ((Cond.fieldLink "Invoicebridge" 10 "Invoicebridge" "invoices" "Ljava/util/ArrayList;") : Cond) ∈ W0 := q_mk 139 (by decide +kernel) (by decide +kernel)
theorem k_100 : ((Cond.fieldLink "Invoicebridge" 16 "Invoicebridge" "credits" "Ljava/util/ArrayList;") : Cond) ∈ W0 := q_mk 140 (by decide +kernel) (by decide +kernel)
theorem k_101 : ((Cond.fieldLink "Invoicebridge" 19 "Invoicebridge" "documents" "Ljava/util/ArrayList;") : Cond) ∈ W0 := q_mk 141 (by decide +kernel) (by decide +kernel)
theorem k_102 : ((Cond.fieldLink "Invoicebridge" 22 "Invoicebridge" "cashOf" "[I") : Cond) ∈ W0 := q_mk 142 (by decide +kernel) (by decide +kernel)
theorem k_103 : ((Cond.fieldLink "Invoicebridge" 29 "Invoicebridge" "draft" "Ljava/lang/StringBuilder;") : Cond) ∈ W0 := q_mk 143 (by decide +kernel) (by decide +kernel)
theorem k_104 : ((Cond.fieldLink "Invoicebridge" 33 "Invoicebridge" "today" "I") : Cond) ∈ W0 := q_mk 144 (by decide +kernel) (by decide +kernel)
theorem k_105 : ((Cond.laysFinal "Invoicebridge" "Invoicebridge" "invoices" "Ljava/util/ArrayList;") : Cond) ∈ W0 := q_mk 145 (by decide +kernel) (by decide +kernel)
theorem k_107 : ((Cond.laysFinal "Invoicebridge" "Invoicebridge" "credits" "Ljava/util/ArrayList;") : Cond) ∈ W0 := q_mk 147 (by decide +kernel) (by decide +kernel)
theorem k_109 : ((Cond.laysFinal "Invoicebridge" "Invoicebridge" "documents" "Ljava/util/ArrayList;") : Cond) ∈ W0 := q_mk 149 (by decide +kernel) (by decide +kernel)
theorem k_111 : ((Cond.laysFinal "Invoicebridge" "Invoicebridge" "cashOf" "[I") : Cond) ∈ W0 := q_mk 151 (by decide +kernel) (by decide +kernel)
theorem k_113 : ((Cond.laysFinal "Invoicebridge" "Invoicebridge" "draft" "Ljava/lang/StringBuilder;") : Cond) ∈ W0 := q_mk 153 (by decide +kernel) (by decide +kernel)
theorem k_115 : ((Cond.lays "Invoicebridge" "Invoicebridge" "today" "I") : Cond) ∈ W0 := q_mk 155 (by decide +kernel) (by decide +kernel)
theorem k_117 : ((Cond.superclass "Invoicebridge" "java/lang/Object") : Cond) ∈ W0 := q_mk 157 (by decide +kernel) (by decide +kernel)
theorem k_118 : ((Cond.methodLink "InvoicebridgeLaw" 133 ⟨"Invoicebridge", "clear", "()I"⟩) : Cond) ∈ W0 := q_mk 158 (by decide +kernel) (by decide +kernel)
theorem k_119 : ((Cond.instanceMethod ⟨"Invoicebridge", "clear", "()I"⟩) : Cond) ∈ W0 := q_mk 159 (by decide +kernel) (by decide +kernel)
theorem k_120 : ((Cond.selects "Invoicebridge" ⟨"Invoicebridge", "clear", "()I"⟩ ⟨"Invoicebridge", "clear", "()I"⟩) : Cond) ∈ W0 := q_mk 160 (by decide +kernel) (by decide +kernel)
theorem k_121 : ((Cond.code ⟨"Invoicebridge", "clear", "()I"⟩ prog_1_method_12_code 2 (some .int)) : Cond) ∈ W0 := q_mk 161 (by decide +kernel) (by decide +kernel)
theorem k_122 : ((Cond.methodLink "Invoicebridge" 183 ⟨"java/lang/StringBuilder", "length", "()I"⟩) : Cond) ∈ W0 := q_mk 162 (by decide +kernel) (by decide +kernel)
theorem k_123 : ((Cond.instanceMethod ⟨"java/lang/StringBuilder", "length", "()I"⟩) : Cond) ∈ W0 := q_mk 163 (by decide +kernel) (by decide +kernel)
theorem k_124 : ((Cond.selects "java/lang/StringBuilder" ⟨"java/lang/StringBuilder", "length", "()I"⟩ ⟨"java/lang/StringBuilder", "length", "()I"⟩) : Cond) ∈ W0 := q_mk 164 (by decide +kernel) (by decide +kernel)
theorem k_125 : ((Cond.code ⟨"java/lang/StringBuilder", "length", "()I"⟩ prog_25_method_93_code 1 (some .int)) : Cond) ∈ W0 := q_mk 165 (by decide +kernel) (by decide +kernel)
theorem k_126 : ((Cond.methodLink "java/lang/StringBuilder" 343 ⟨"java/lang/AbstractStringBuilder", "length", "()I"⟩) : Cond) ∈ W0 := q_mk 166 (by decide +kernel) (by decide +kernel)
theorem k_127 : ((Cond.instanceMethod ⟨"java/lang/AbstractStringBuilder", "length", "()I"⟩) : Cond) ∈ W0 := q_mk 167 (by decide +kernel) (by decide +kernel)
theorem k_128 : ((Cond.code ⟨"java/lang/AbstractStringBuilder", "length", "()I"⟩ prog_9_method_6_code 1 (some .int)) : Cond) ∈ W0 := q_mk 168 (by decide +kernel) (by decide +kernel)
theorem k_129 : ((Cond.methodLink "Invoicebridge" 192 ⟨"java/lang/StringBuilder", "setLength", "(I)V"⟩) : Cond) ∈ W0 := q_mk 169 (by decide +kernel) (by decide +kernel)
theorem k_130 : ((Cond.instanceMethod ⟨"java/lang/StringBuilder", "setLength", "(I)V"⟩) : Cond) ∈ W0 := q_mk 170 (by decide +kernel) (by decide +kernel)
theorem k_131 : ((Cond.selects "java/lang/StringBuilder" ⟨"java/lang/StringBuilder", "setLength", "(I)V"⟩ ⟨"java/lang/StringBuilder", "setLength", "(I)V"⟩) : Cond) ∈ W0 := q_mk 171 (by decide +kernel) (by decide +kernel)
theorem k_132 : ((Cond.code ⟨"java/lang/StringBuilder", "setLength", "(I)V"⟩ prog_25_method_89_code 2 (none : Option FieldType)) : Cond) ∈ W0 := q_mk 172 (by decide +kernel) (by decide +kernel)
theorem k_133 : ((Cond.methodLink "java/lang/StringBuilder" 333 ⟨"java/lang/AbstractStringBuilder", "setLength", "(I)V"⟩) : Cond) ∈ W0 := q_mk 173 (by decide +kernel) (by decide +kernel)
theorem k_134 : ((Cond.instanceMethod ⟨"java/lang/AbstractStringBuilder", "setLength", "(I)V"⟩) : Cond) ∈ W0 := q_mk 174 (by decide +kernel) (by decide +kernel)
theorem k_135 : ((Cond.code ⟨"java/lang/AbstractStringBuilder", "setLength", "(I)V"⟩ prog_9_method_13_code 2 (none : Option FieldType)) : Cond) ∈ W0 := q_mk 175 (by decide +kernel) (by decide +kernel)
theorem k_136 : ((Cond.classLink "java/lang/AbstractStringBuilder" 129 "java/lang/StringIndexOutOfBoundsException") : Cond) ∈ W0 := q_mk 176 (by decide +kernel) (by decide +kernel)
theorem k_137 : ((Cond.instantiable "java/lang/StringIndexOutOfBoundsException" 6) : Cond) ∈ W0 := q_mk 177 (by decide +kernel) (by decide +kernel)
theorem k_138 : ((Cond.methodLink "java/lang/AbstractStringBuilder" 131 ⟨"java/lang/StringIndexOutOfBoundsException", "<init>", "(I)V"⟩) : Cond) ∈ W0 := q_mk 178 (by decide +kernel) (by decide +kernel)
theorem k_139 : ((Cond.instanceMethod ⟨"java/lang/StringIndexOutOfBoundsException", "<init>", "(I)V"⟩) : Cond) ∈ W0 := q_mk 179 (by decide +kernel) (by decide +kernel)
theorem k_140 : ((Cond.code ⟨"java/lang/StringIndexOutOfBoundsException", "<init>", "(I)V"⟩ prog_26_method_3_code 2 (none : Option FieldType)) : Cond) ∈ W0 := q_mk 180 (by decide +kernel) (by decide +kernel)
theorem k_141 : ((Cond.classLink "java/lang/StringIndexOutOfBoundsException" 10 "java/lang/StringBuilder") : Cond) ∈ W0 := q_mk 181 (by decide +kernel) (by decide +kernel)
theorem k_142 : ((Cond.methodLink "java/lang/StringIndexOutOfBoundsException" 12 ⟨"java/lang/StringBuilder", "<init>", "()V"⟩) : Cond) ∈ W0 := q_mk 182 (by decide +kernel) (by decide +kernel)
theorem k_144 : ((Cond.methodLink "java/lang/StringIndexOutOfBoundsException" 15 ⟨"java/lang/StringBuilder", "append", "(Ljava/lang/String;)Ljava/lang/StringBuilder;"⟩) : Cond) ∈ W0 := q_mk 184 (by decide +kernel) (by decide +kernel)
theorem k_145 : ((Cond.instanceMethod ⟨"java/lang/StringBuilder", "append", "(Ljava/lang/String;)Ljava/lang/StringBuilder;"⟩) : Cond) ∈ W0 := q_mk 185 (by decide +kernel) (by decide +kernel)
theorem k_146 : ((Cond.selects "java/lang/StringBuilder" ⟨"java/lang/StringBuilder", "append", "(Ljava/lang/String;)Ljava/lang/StringBuilder;"⟩ ⟨"java/lang/StringBuilder", "append", "(Ljava/lang/String;)Ljava/lang/StringBuilder;"⟩) : Cond) ∈ W0 := q_mk 186 (by decide +kernel) (by decide +kernel)
theorem k_147 : ((Cond.code ⟨"java/lang/StringBuilder", "append", "(Ljava/lang/String;)Ljava/lang/StringBuilder;"⟩ prog_25_method_7_code 2 (Option.some (FieldType.object "java/lang/StringBuilder"))) : Cond) ∈ W0 := q_mk 187 (by decide +kernel) (by decide +kernel)
theorem k_148 : ((Cond.methodLink "java/lang/StringBuilder" 29 ⟨"java/lang/AbstractStringBuilder", "append", "(Ljava/lang/String;)Ljava/lang/AbstractStringBuilder;"⟩) : Cond) ∈ W0 := q_mk 188 (by decide +kernel) (by decide +kernel)
theorem k_149 : ((Cond.instanceMethod ⟨"java/lang/AbstractStringBuilder", "append", "(Ljava/lang/String;)Ljava/lang/AbstractStringBuilder;"⟩) : Cond) ∈ W0 := q_mk 189 (by decide +kernel) (by decide +kernel)
theorem k_150 : ((Cond.code ⟨"java/lang/AbstractStringBuilder", "append", "(Ljava/lang/String;)Ljava/lang/AbstractStringBuilder;"⟩ prog_9_method_22_code 3 (Option.some (FieldType.object "java/lang/AbstractStringBuilder"))) : Cond) ∈ W0 := q_mk 190 (by decide +kernel) (by decide +kernel)
theorem k_151 : ((Cond.methodLink "java/lang/AbstractStringBuilder" 204 ⟨"java/lang/AbstractStringBuilder", "appendNull", "()Ljava/lang/AbstractStringBuilder;"⟩) : Cond) ∈ W0 := q_mk 191 (by decide +kernel) (by decide +kernel)
theorem k_153 : ((Cond.instanceMethod ⟨"java/lang/AbstractStringBuilder", "appendNull", "()Ljava/lang/AbstractStringBuilder;"⟩) : Cond) ∈ W0 := q_mk 193 (by decide +kernel) (by decide +kernel)
theorem k_154 : ((Cond.code ⟨"java/lang/AbstractStringBuilder", "appendNull", "()Ljava/lang/AbstractStringBuilder;"⟩ prog_9_method_26_code 3 (Option.some (FieldType.object "java/lang/AbstractStringBuilder"))) : Cond) ∈ W0 := q_mk 194 (by decide +kernel) (by decide +kernel)
theorem k_155 : ((Cond.methodLink "java/lang/AbstractStringBuilder" 100 ⟨"java/lang/AbstractStringBuilder", "ensureCapacityInternal", "(I)V"⟩) : Cond) ∈ W0 := q_mk 195 (by decide +kernel) (by decide +kernel)
theorem k_157 : ((Cond.instanceMethod ⟨"java/lang/AbstractStringBuilder", "ensureCapacityInternal", "(I)V"⟩) : Cond) ∈ W0 := q_mk 197 (by decide +kernel) (by decide +kernel)
theorem k_158 : ((Cond.code ⟨"java/lang/AbstractStringBuilder", "ensureCapacityInternal", "(I)V"⟩ prog_9_method_9_code 3 (none : Option FieldType)) : Cond) ∈ W0 := q_mk 198 (by decide +kernel) (by decide +kernel)
theorem k_159 : ((Cond.methodLink "java/lang/AbstractStringBuilder" 104 ⟨"java/lang/AbstractStringBuilder", "newCapacity", "(I)I"⟩) : Cond) ∈ W0 := q_mk 199 (by decide +kernel) (by decide +kernel)
theorem k_161 : ((Cond.instanceMethod ⟨"java/lang/AbstractStringBuilder", "newCapacity", "(I)I"⟩) : Cond) ∈ W0 := q_mk 201 (by decide +kernel) (by decide +kernel)
theorem k_162 : ((Cond.code ⟨"java/lang/AbstractStringBuilder", "newCapacity", "(I)I"⟩ prog_9_method_10_code 6 (some .int)) : Cond) ∈ W0 := q_mk 202 (by decide +kernel) (by decide +kernel)
theorem k_163 : ((Cond.methodLink "java/lang/AbstractStringBuilder" 114 ⟨"jdk/internal/util/ArraysSupport", "newLength", "(III)I"⟩) : Cond) ∈ W0 := q_mk 203 (by decide +kernel) (by decide +kernel)
theorem k_164 : ((Cond.static ⟨"jdk/internal/util/ArraysSupport", "newLength", "(III)I"⟩) : Cond) ∈ W0 := q_mk 204 (by decide +kernel) (by decide +kernel)
theorem k_165 : ((Cond.code ⟨"jdk/internal/util/ArraysSupport", "newLength", "(III)I"⟩ prog_42_method_27_code 4 (some .int)) : Cond) ∈ W0 := q_mk 205 (by decide +kernel) (by decide +kernel)
theorem k_166 : ((Cond.methodLink "jdk/internal/util/ArraysSupport" 194 ⟨"java/lang/Math", "max", "(II)I"⟩) : Cond) ∈ W0 := q_mk 206 (by decide +kernel) (by decide +kernel)
theorem k_167 : ((Cond.static ⟨"java/lang/Math", "max", "(II)I"⟩) : Cond) ∈ W0 := q_mk 207 (by decide +kernel) (by decide +kernel)
theorem k_168 : ((Cond.code ⟨"java/lang/Math", "max", "(II)I"⟩ prog_21_method_65_code 2 (some .int)) : Cond) ∈ W0 := q_mk 208 (by decide +kernel) (by decide +kernel)
theorem k_169 : ((Cond.constant "jdk/internal/util/ArraysSupport" 200 (2147483639 : Int32)) : Cond) ∈ W0 := q_mk 209 (by decide +kernel) (by decide +kernel)
theorem k_170 : ((Cond.methodLink "jdk/internal/util/ArraysSupport" 201 ⟨"jdk/internal/util/ArraysSupport", "hugeLength", "(II)I"⟩) : Cond) ∈ W0 := q_mk 210 (by decide +kernel) (by decide +kernel)
theorem k_171 : ((Cond.static ⟨"jdk/internal/util/ArraysSupport", "hugeLength", "(II)I"⟩) : Cond) ∈ W0 := q_mk 211 (by decide +kernel) (by decide +kernel)
theorem k_172 : ((Cond.code ⟨"jdk/internal/util/ArraysSupport", "hugeLength", "(II)I"⟩ prog_42_method_28_code 3 (some .int)) : Cond) ∈ W0 := q_mk 212 (by decide +kernel) (by decide +kernel)
theorem k_173 : ((Cond.constant "java/lang/AbstractStringBuilder" 39 (2147483647 : Int32)) : Cond) ∈ W0 := q_mk 213 (by decide +kernel) (by decide +kernel)
theorem k_174 : ((Cond.methodLink "java/lang/AbstractStringBuilder" 108 ⟨"java/util/Arrays", "copyOf", "([BI)[B"⟩) : Cond) ∈ W0 := q_mk 214 (by decide +kernel) (by decide +kernel)
theorem k_175 : ((Cond.static ⟨"java/util/Arrays", "copyOf", "([BI)[B"⟩) : Cond) ∈ W0 := q_mk 215 (by decide +kernel) (by decide +kernel)
theorem k_176 : ((Cond.code ⟨"java/util/Arrays", "copyOf", "([BI)[B"⟩ prog_36_method_121_code 3 (Option.some (FieldType.array FieldType.byte))) : Cond) ∈ W0 := q_mk 216 (by decide +kernel) (by decide +kernel)
theorem k_177 : ((Cond.methodLink "java/util/Arrays" 310 ⟨"[B", "clone", "()Ljava/lang/Object;"⟩) : Cond) ∈ W0 := q_mk 217 (by decide +kernel) (by decide +kernel)
theorem k_178 : ((Cond.sameMethod "[B" "java/lang/Object" "clone" "()Ljava/lang/Object;") : Cond) ∈ W0 := q_mk 218 (by decide +kernel) (by decide +kernel)
theorem k_179 : ((Cond.native ⟨"java/lang/Object", "clone", "()Ljava/lang/Object;"⟩) : Cond) ∈ W0 := q_mk 219 (by decide +kernel) (by decide +kernel)
theorem k_180 : ((Cond.instanceMethod ⟨"java/lang/Object", "clone", "()Ljava/lang/Object;"⟩) : Cond) ∈ W0 := q_mk 220 (by decide +kernel) (by decide +kernel)
theorem k_181 : ((Cond.selects "[B" ⟨"[B", "clone", "()Ljava/lang/Object;"⟩ ⟨"java/lang/Object", "clone", "()Ljava/lang/Object;"⟩) : Cond) ∈ W0 := q_mk 221 (by decide +kernel) (by decide +kernel)
theorem k_183 : ((Cond.classLink "java/util/Arrays" 311 "[B") : Cond) ∈ W0 := q_mk 223 (by decide +kernel) (by decide +kernel)
theorem k_184 : ((Cond.methodLink "java/util/Arrays" 304 ⟨"java/lang/Math", "min", "(II)I"⟩) : Cond) ∈ W0 := q_mk 224 (by decide +kernel) (by decide +kernel)
theorem k_185 : ((Cond.static ⟨"java/lang/Math", "min", "(II)I"⟩) : Cond) ∈ W0 := q_mk 225 (by decide +kernel) (by decide +kernel)
theorem k_186 : ((Cond.code ⟨"java/lang/Math", "min", "(II)I"⟩ prog_21_method_69_code 2 (some .int)) : Cond) ∈ W0 := q_mk 226 (by decide +kernel) (by decide +kernel)
theorem k_187 : ((Cond.methodLink "java/util/Arrays" 150 ⟨"java/lang/System", "arraycopy", "(Ljava/lang/Object;ILjava/lang/Object;II)V"⟩) : Cond) ∈ W0 := q_mk 227 (by decide +kernel) (by decide +kernel)
theorem k_188 : ((Cond.static ⟨"java/lang/System", "arraycopy", "(Ljava/lang/Object;ILjava/lang/Object;II)V"⟩) : Cond) ∈ W0 := q_mk 228 (by decide +kernel) (by decide +kernel)
theorem k_189 : ((Cond.native ⟨"java/lang/System", "arraycopy", "(Ljava/lang/Object;ILjava/lang/Object;II)V"⟩) : Cond) ∈ W0 := q_mk 229 (by decide +kernel) (by decide +kernel)
theorem k_190 : ((Cond.methodLink "java/lang/AbstractStringBuilder" 83 ⟨"java/lang/AbstractStringBuilder", "isLatin1", "()Z"⟩) : Cond) ∈ W0 := q_mk 230 (by decide +kernel) (by decide +kernel)
theorem k_191 : ((Cond.instanceMethod ⟨"java/lang/AbstractStringBuilder", "isLatin1", "()Z"⟩) : Cond) ∈ W0 := q_mk 231 (by decide +kernel) (by decide +kernel)
theorem k_192 : ((Cond.sameMethod "java/lang/AbstractStringBuilder" "java/lang/AbstractStringBuilder" "isLatin1" "()Z") : Cond) ∈ W0 := q_mk 232 (by decide +kernel) (by decide +kernel)
theorem k_193 : ((Cond.selects "java/lang/StringBuilder" ⟨"java/lang/AbstractStringBuilder", "isLatin1", "()Z"⟩ ⟨"java/lang/AbstractStringBuilder", "isLatin1", "()Z"⟩) : Cond) ∈ W0 := q_mk 233 (by decide +kernel) (by decide +kernel)
theorem k_194 : ((Cond.code ⟨"java/lang/AbstractStringBuilder", "isLatin1", "()Z"⟩ prog_9_method_68_code 1 (some .boolean)) : Cond) ∈ W0 := q_mk 234 (by decide +kernel) (by decide +kernel)
theorem k_205 : ((Cond.static ⟨"java/lang/String", "checkBoundsBeginEnd", "(III)V"⟩) : Cond) ∈ W0 := q_mk 245 (by decide +kernel) (by decide +kernel)
theorem k_206 : ((Cond.code ⟨"java/lang/String", "checkBoundsBeginEnd", "(III)V"⟩ prog_24_method_158_code 3 (none : Option FieldType)) : Cond) ∈ W0 := q_mk 246 (by decide +kernel) (by decide +kernel)
theorem k_207 : ((Cond.fieldLink "java/lang/String" 1053 "jdk/internal/util/Preconditions" "SIOOBE_FORMATTER" "Ljava/util/function/BiFunction;") : Cond) ∈ W0 := q_mk 247 (by decide +kernel) (by decide +kernel)
theorem k_209 : ((Cond.methodLink "java/lang/String" 1062 ⟨"jdk/internal/util/Preconditions", "checkFromToIndex", "(IIILjava/util/function/BiFunction;)I"⟩) : Cond) ∈ W0 := q_mk 249 (by decide +kernel) (by decide +kernel)
theorem k_210 : ((Cond.static ⟨"jdk/internal/util/Preconditions", "checkFromToIndex", "(IIILjava/util/function/BiFunction;)I"⟩) : Cond) ∈ W0 := q_mk 250 (by decide +kernel) (by decide +kernel)
theorem k_211 : ((Cond.code ⟨"jdk/internal/util/Preconditions", "checkFromToIndex", "(IIILjava/util/function/BiFunction;)I"⟩ prog_43_method_12_code 4 (some .int)) : Cond) ∈ W0 := q_mk 251 (by decide +kernel) (by decide +kernel)
theorem k_221 : ((Cond.methodLink "java/lang/AbstractStringBuilder" 32 ⟨"java/lang/String", "length", "()I"⟩) : Cond) ∈ W0 := q_mk 261 (by decide +kernel) (by decide +kernel)
theorem k_222 : ((Cond.instanceMethod ⟨"java/lang/String", "length", "()I"⟩) : Cond) ∈ W0 := q_mk 262 (by decide +kernel) (by decide +kernel)
theorem k_223 : ((Cond.selects "java/lang/String" ⟨"java/lang/String", "length", "()I"⟩ ⟨"java/lang/String", "length", "()I"⟩) : Cond) ∈ W0 := q_mk 263 (by decide +kernel) (by decide +kernel)
theorem k_224 : ((Cond.code ⟨"java/lang/String", "length", "()I"⟩ prog_24_method_54_code 1 (some .int)) : Cond) ∈ W0 := q_mk 264 (by decide +kernel) (by decide +kernel)
theorem k_225 : ((Cond.methodLink "java/lang/String" 335 ⟨"java/lang/String", "coder", "()B"⟩) : Cond) ∈ W0 := q_mk 265 (by decide +kernel) (by decide +kernel)
theorem k_226 : ((Cond.instanceMethod ⟨"java/lang/String", "coder", "()B"⟩) : Cond) ∈ W0 := q_mk 266 (by decide +kernel) (by decide +kernel)
theorem k_227 : ((Cond.selects "java/lang/String" ⟨"java/lang/String", "coder", "()B"⟩ ⟨"java/lang/String", "coder", "()B"⟩) : Cond) ∈ W0 := q_mk 267 (by decide +kernel) (by decide +kernel)
theorem k_228 : ((Cond.code ⟨"java/lang/String", "coder", "()B"⟩ prog_24_method_152_code 1 (some .byte)) : Cond) ∈ W0 := q_mk 268 (by decide +kernel) (by decide +kernel)
theorem k_229 : ((Cond.fieldLink "java/lang/String" 38 "java/lang/String" "COMPACT_STRINGS" "Z") : Cond) ∈ W0 := q_mk 269 (by decide +kernel) (by decide +kernel)
theorem k_230 : ((Cond.methodLink "java/lang/AbstractStringBuilder" 208 ⟨"java/lang/AbstractStringBuilder", "putStringAt", "(ILjava/lang/String;)V"⟩) : Cond) ∈ W0 := q_mk 270 (by decide +kernel) (by decide +kernel)
theorem k_232 : ((Cond.instanceMethod ⟨"java/lang/AbstractStringBuilder", "putStringAt", "(ILjava/lang/String;)V"⟩) : Cond) ∈ W0 := q_mk 272 (by decide +kernel) (by decide +kernel)
theorem k_233 : ((Cond.code ⟨"java/lang/AbstractStringBuilder", "putStringAt", "(ILjava/lang/String;)V"⟩ prog_9_method_73_code 3 (none : Option FieldType)) : Cond) ∈ W0 := q_mk 273 (by decide +kernel) (by decide +kernel)
theorem k_234 : ((Cond.methodLink "java/lang/AbstractStringBuilder" 397 ⟨"java/lang/AbstractStringBuilder", "inflateIfNeededFor", "(Ljava/lang/String;)V"⟩) : Cond) ∈ W0 := q_mk 274 (by decide +kernel) (by decide +kernel)
theorem k_236 : ((Cond.instanceMethod ⟨"java/lang/AbstractStringBuilder", "inflateIfNeededFor", "(Ljava/lang/String;)V"⟩) : Cond) ∈ W0 := q_mk 276 (by decide +kernel) (by decide +kernel)
theorem k_237 : ((Cond.code ⟨"java/lang/AbstractStringBuilder", "inflateIfNeededFor", "(Ljava/lang/String;)V"⟩ prog_9_method_71_code 2 (none : Option FieldType)) : Cond) ∈ W0 := q_mk 277 (by decide +kernel) (by decide +kernel)
theorem k_238 : ((Cond.methodLink "java/lang/AbstractStringBuilder" 40 ⟨"java/lang/String", "coder", "()B"⟩) : Cond) ∈ W0 := q_mk 278 (by decide +kernel) (by decide +kernel)
theorem k_239 : ((Cond.methodLink "java/lang/AbstractStringBuilder" 195 ⟨"java/lang/AbstractStringBuilder", "inflate", "()V"⟩) : Cond) ∈ W0 := q_mk 279 (by decide +kernel) (by decide +kernel)
theorem k_241 : ((Cond.instanceMethod ⟨"java/lang/AbstractStringBuilder", "inflate", "()V"⟩) : Cond) ∈ W0 := q_mk 281 (by decide +kernel) (by decide +kernel)
theorem k_242 : ((Cond.code ⟨"java/lang/AbstractStringBuilder", "inflate", "()V"⟩ prog_9_method_11_code 2 (none : Option FieldType)) : Cond) ∈ W0 := q_mk 282 (by decide +kernel) (by decide +kernel)
theorem k_243 : ((Cond.methodLink "java/lang/AbstractStringBuilder" 125 ⟨"java/lang/StringLatin1", "inflate", "([BI[BII)V"⟩) : Cond) ∈ W0 := q_mk 283 (by decide +kernel) (by decide +kernel)
theorem k_244 : ((Cond.static ⟨"java/lang/StringLatin1", "inflate", "([BI[BII)V"⟩) : Cond) ∈ W0 := q_mk 284 (by decide +kernel) (by decide +kernel)
theorem k_245 : ((Cond.code ⟨"java/lang/StringLatin1", "inflate", "([BI[BII)V"⟩ prog_27_method_50_code 5 (none : Option FieldType)) : Cond) ∈ W0 := q_mk 285 (by decide +kernel) (by decide +kernel)
theorem k_253 : ((Cond.static ⟨"java/lang/String", "checkBoundsOffCount", "(III)I"⟩) : Cond) ∈ W0 := q_mk 293 (by decide +kernel) (by decide +kernel)
theorem k_254 : ((Cond.code ⟨"java/lang/String", "checkBoundsOffCount", "(III)I"⟩ prog_24_method_157_code 3 (some .int)) : Cond) ∈ W0 := q_mk 294 (by decide +kernel) (by decide +kernel)
theorem k_255 : ((Cond.methodLink "java/lang/String" 1065 ⟨"jdk/internal/util/Preconditions", "checkFromIndexSize", "(IIILjava/util/function/BiFunction;)I"⟩) : Cond) ∈ W0 := q_mk 295 (by decide +kernel) (by decide +kernel)
theorem k_256 : ((Cond.static ⟨"jdk/internal/util/Preconditions", "checkFromIndexSize", "(IIILjava/util/function/BiFunction;)I"⟩) : Cond) ∈ W0 := q_mk 296 (by decide +kernel) (by decide +kernel)
theorem k_257 : ((Cond.code ⟨"jdk/internal/util/Preconditions", "checkFromIndexSize", "(IIILjava/util/function/BiFunction;)I"⟩ prog_43_method_13_code 4 (some .int)) : Cond) ∈ W0 := q_mk 297 (by decide +kernel) (by decide +kernel)
theorem k_258 : ((Cond.methodLink "java/lang/AbstractStringBuilder" 399 ⟨"java/lang/String", "getBytes", "([BIB)V"⟩) : Cond) ∈ W0 := q_mk 298 (by decide +kernel) (by decide +kernel)
theorem k_259 : ((Cond.instanceMethod ⟨"java/lang/String", "getBytes", "([BIB)V"⟩) : Cond) ∈ W0 := q_mk 299 (by decide +kernel) (by decide +kernel)
theorem k_260 : ((Cond.selects "java/lang/String" ⟨"java/lang/String", "getBytes", "([BIB)V"⟩ ⟨"java/lang/String", "getBytes", "([BIB)V"⟩) : Cond) ∈ W0 := q_mk 300 (by decide +kernel) (by decide +kernel)
theorem k_261 : ((Cond.code ⟨"java/lang/String", "getBytes", "([BIB)V"⟩ prog_24_method_147_code 4 (none : Option FieldType)) : Cond) ∈ W0 := q_mk 301 (by decide +kernel) (by decide +kernel)
theorem k_262 : ((Cond.methodLink "java/lang/String" 212 ⟨"java/lang/System", "arraycopy", "(Ljava/lang/Object;ILjava/lang/Object;II)V"⟩) : Cond) ∈ W0 := q_mk 302 (by decide +kernel) (by decide +kernel)
theorem k_263 : ((Cond.methodLink "java/lang/String" 106 ⟨"java/lang/StringLatin1", "inflate", "([BI[BII)V"⟩) : Cond) ∈ W0 := q_mk 303 (by decide +kernel) (by decide +kernel)
theorem k_264 : ((Cond.methodLink "java/lang/StringIndexOutOfBoundsException" 19 ⟨"java/lang/StringBuilder", "append", "(I)Ljava/lang/StringBuilder;"⟩) : Cond) ∈ W0 := q_mk 304 (by decide +kernel) (by decide +kernel)
theorem k_265 : ((Cond.instanceMethod ⟨"java/lang/StringBuilder", "append", "(I)Ljava/lang/StringBuilder;"⟩) : Cond) ∈ W0 := q_mk 305 (by decide +kernel) (by decide +kernel)
theorem k_266 : ((Cond.selects "java/lang/StringBuilder" ⟨"java/lang/StringBuilder", "append", "(I)Ljava/lang/StringBuilder;"⟩ ⟨"java/lang/StringBuilder", "append", "(I)Ljava/lang/StringBuilder;"⟩) : Cond) ∈ W0 := q_mk 306 (by decide +kernel) (by decide +kernel)
theorem k_267 : ((Cond.code ⟨"java/lang/StringBuilder", "append", "(I)Ljava/lang/StringBuilder;"⟩ prog_25_method_15_code 2 (Option.some (FieldType.object "java/lang/StringBuilder"))) : Cond) ∈ W0 := q_mk 307 (by decide +kernel) (by decide +kernel)
theorem k_268 : ((Cond.methodLink "java/lang/StringBuilder" 53 ⟨"java/lang/AbstractStringBuilder", "append", "(I)Ljava/lang/AbstractStringBuilder;"⟩) : Cond) ∈ W0 := q_mk 308 (by decide +kernel) (by decide +kernel)
theorem k_269 : ((Cond.instanceMethod ⟨"java/lang/AbstractStringBuilder", "append", "(I)Ljava/lang/AbstractStringBuilder;"⟩) : Cond) ∈ W0 := q_mk 309 (by decide +kernel) (by decide +kernel)
theorem k_270 : ((Cond.code ⟨"java/lang/AbstractStringBuilder", "append", "(I)Ljava/lang/AbstractStringBuilder;"⟩ prog_9_method_32_code 4 (Option.some (FieldType.object "java/lang/AbstractStringBuilder"))) : Cond) ∈ W0 := q_mk 310 (by decide +kernel) (by decide +kernel)
theorem k_277 : ((Cond.fieldLink "java/lang/Integer" 83 "java/lang/Integer" "DigitOnes" "[B") : Cond) ∈ W0 := q_mk 317 (by decide +kernel) (by decide +kernel)
theorem k_279 : ((Cond.fieldLink "java/lang/Integer" 87 "java/lang/Integer" "DigitTens" "[B") : Cond) ∈ W0 := q_mk 319 (by decide +kernel) (by decide +kernel)
theorem k_289 : ((Cond.methodLink "java/lang/StringIndexOutOfBoundsException" 22 ⟨"java/lang/StringBuilder", "toString", "()Ljava/lang/String;"⟩) : Cond) ∈ W0 := q_mk 329 (by decide +kernel) (by decide +kernel)
theorem k_290 : ((Cond.instanceMethod ⟨"java/lang/StringBuilder", "toString", "()Ljava/lang/String;"⟩) : Cond) ∈ W0 := q_mk 330 (by decide +kernel) (by decide +kernel)
theorem k_291 : ((Cond.selects "java/lang/StringBuilder" ⟨"java/lang/StringBuilder", "toString", "()Ljava/lang/String;"⟩ ⟨"java/lang/StringBuilder", "toString", "()Ljava/lang/String;"⟩) : Cond) ∈ W0 := q_mk 331 (by decide +kernel) (by decide +kernel)
theorem k_292 : ((Cond.code ⟨"java/lang/StringBuilder", "toString", "()Ljava/lang/String;"⟩ prog_25_method_42_code 1 (Option.some (FieldType.object "java/lang/String"))) : Cond) ∈ W0 := q_mk 332 (by decide +kernel) (by decide +kernel)
theorem k_293 : ((Cond.classLink "java/lang/StringBuilder" 18 "java/lang/String") : Cond) ∈ W0 := q_mk 333 (by decide +kernel) (by decide +kernel)
theorem k_294 : ((Cond.instantiable "java/lang/String" 4) : Cond) ∈ W0 := q_mk 334 (by decide +kernel) (by decide +kernel)
theorem k_295 : ((Cond.methodLink "java/lang/StringBuilder" 137 ⟨"java/lang/String", "<init>", "(Ljava/lang/StringBuilder;)V"⟩) : Cond) ∈ W0 := q_mk 335 (by decide +kernel) (by decide +kernel)
theorem k_296 : ((Cond.instanceMethod ⟨"java/lang/String", "<init>", "(Ljava/lang/StringBuilder;)V"⟩) : Cond) ∈ W0 := q_mk 336 (by decide +kernel) (by decide +kernel)
theorem k_297 : ((Cond.code ⟨"java/lang/String", "<init>", "(Ljava/lang/StringBuilder;)V"⟩ prog_24_method_53_code 2 (none : Option FieldType)) : Cond) ∈ W0 := q_mk 337 (by decide +kernel) (by decide +kernel)
theorem k_298 : ((Cond.methodLink "java/lang/String" 489 ⟨"java/lang/String", "<init>", "(Ljava/lang/AbstractStringBuilder;Ljava/lang/Void;)V"⟩) : Cond) ∈ W0 := q_mk 338 (by decide +kernel) (by decide +kernel)
theorem k_299 : ((Cond.instanceMethod ⟨"java/lang/String", "<init>", "(Ljava/lang/AbstractStringBuilder;Ljava/lang/Void;)V"⟩) : Cond) ∈ W0 := q_mk 339 (by decide +kernel) (by decide +kernel)
theorem k_300 : ((Cond.code ⟨"java/lang/String", "<init>", "(Ljava/lang/AbstractStringBuilder;Ljava/lang/Void;)V"⟩ prog_24_method_150_code 5 (none : Option FieldType)) : Cond) ∈ W0 := q_mk 340 (by decide +kernel) (by decide +kernel)
theorem k_301 : ((Cond.methodLink "java/lang/String" 1 ⟨"java/lang/Object", "<init>", "()V"⟩) : Cond) ∈ W0 := q_mk 341 (by decide +kernel) (by decide +kernel)
theorem k_302 : ((Cond.methodLink "java/lang/String" 552 ⟨"java/lang/AbstractStringBuilder", "getValue", "()[B"⟩) : Cond) ∈ W0 := q_mk 342 (by decide +kernel) (by decide +kernel)
theorem k_303 : ((Cond.instanceMethod ⟨"java/lang/AbstractStringBuilder", "getValue", "()[B"⟩) : Cond) ∈ W0 := q_mk 343 (by decide +kernel) (by decide +kernel)
theorem k_304 : ((Cond.sameMethod "java/lang/AbstractStringBuilder" "java/lang/AbstractStringBuilder" "getValue" "()[B") : Cond) ∈ W0 := q_mk 344 (by decide +kernel) (by decide +kernel)
theorem k_305 : ((Cond.selects "java/lang/StringBuilder" ⟨"java/lang/AbstractStringBuilder", "getValue", "()[B"⟩ ⟨"java/lang/AbstractStringBuilder", "getValue", "()[B"⟩) : Cond) ∈ W0 := q_mk 345 (by decide +kernel) (by decide +kernel)
theorem k_306 : ((Cond.code ⟨"java/lang/AbstractStringBuilder", "getValue", "()[B"⟩ prog_9_method_64_code 1 (Option.some (FieldType.array FieldType.byte))) : Cond) ∈ W0 := q_mk 346 (by decide +kernel) (by decide +kernel)
theorem k_307 : ((Cond.methodLink "java/lang/String" 549 ⟨"java/lang/AbstractStringBuilder", "length", "()I"⟩) : Cond) ∈ W0 := q_mk 347 (by decide +kernel) (by decide +kernel)
theorem k_308 : ((Cond.methodLink "java/lang/String" 1047 ⟨"java/lang/AbstractStringBuilder", "isLatin1", "()Z"⟩) : Cond) ∈ W0 := q_mk 348 (by decide +kernel) (by decide +kernel)
theorem k_309 : ((Cond.methodLink "java/lang/String" 54 ⟨"java/util/Arrays", "copyOfRange", "([BII)[B"⟩) : Cond) ∈ W0 := q_mk 349 (by decide +kernel) (by decide +kernel)
theorem k_310 : ((Cond.static ⟨"java/util/Arrays", "copyOfRange", "([BII)[B"⟩) : Cond) ∈ W0 := q_mk 350 (by decide +kernel) (by decide +kernel)
theorem k_311 : ((Cond.code ⟨"java/util/Arrays", "copyOfRange", "([BII)[B"⟩ prog_36_method_132_code 3 (Option.some (FieldType.array FieldType.byte))) : Cond) ∈ W0 := q_mk 351 (by decide +kernel) (by decide +kernel)
theorem k_312 : ((Cond.methodLink "java/util/Arrays" 339 ⟨"java/util/Arrays", "copyOfRangeByte", "([BII)[B"⟩) : Cond) ∈ W0 := q_mk 352 (by decide +kernel) (by decide +kernel)
theorem k_313 : ((Cond.static ⟨"java/util/Arrays", "copyOfRangeByte", "([BII)[B"⟩) : Cond) ∈ W0 := q_mk 353 (by decide +kernel) (by decide +kernel)
theorem k_314 : ((Cond.code ⟨"java/util/Arrays", "copyOfRangeByte", "([BII)[B"⟩ prog_36_method_133_code 5 (Option.some (FieldType.array FieldType.byte))) : Cond) ∈ W0 := q_mk 354 (by decide +kernel) (by decide +kernel)
theorem k_315 : ((Cond.methodLink "java/util/Arrays" 343 ⟨"java/util/Arrays", "checkLength", "(II)V"⟩) : Cond) ∈ W0 := q_mk 355 (by decide +kernel) (by decide +kernel)
theorem k_316 : ((Cond.static ⟨"java/util/Arrays", "checkLength", "(II)V"⟩) : Cond) ∈ W0 := q_mk 356 (by decide +kernel) (by decide +kernel)
theorem k_317 : ((Cond.code ⟨"java/util/Arrays", "checkLength", "(II)V"⟩ prog_36_method_131_code 2 (none : Option FieldType)) : Cond) ∈ W0 := q_mk 357 (by decide +kernel) (by decide +kernel)
theorem k_318 : ((Cond.classLink "java/util/Arrays" 43 "java/lang/IllegalArgumentException") : Cond) ∈ W0 := q_mk 358 (by decide +kernel) (by decide +kernel)
theorem k_319 : ((Cond.instantiable "java/lang/IllegalArgumentException" 6) : Cond) ∈ W0 := q_mk 359 (by decide +kernel) (by decide +kernel)
theorem k_327 : ((Cond.selects "java/lang/IllegalArgumentException" ⟨"java/lang/Throwable", "fillInStackTrace", "(I)Ljava/lang/Throwable;"⟩ ⟨"java/lang/Throwable", "fillInStackTrace", "(I)Ljava/lang/Throwable;"⟩) : Cond) ∈ W0 := q_mk 367 (by decide +kernel) (by decide +kernel)
theorem k_328 : ((Cond.selects "java/lang/IllegalArgumentException" ⟨"java/lang/Throwable", "fillInStackTrace", "()Ljava/lang/Throwable;"⟩ ⟨"java/lang/Throwable", "fillInStackTrace", "()Ljava/lang/Throwable;"⟩) : Cond) ∈ W0 := q_mk 368 (by decide +kernel) (by decide +kernel)
theorem k_329 : ((Cond.lays "java/lang/IllegalArgumentException" "java/lang/Throwable" "cause" "Ljava/lang/Throwable;") : Cond) ∈ W0 := q_mk 369 (by decide +kernel) (by decide +kernel)
theorem k_330 : ((Cond.lays "java/lang/Throwable" "java/lang/Throwable" "cause" "Ljava/lang/Throwable;") : Cond) ∈ W0 := q_mk 370 (by decide +kernel) (by decide +kernel)
theorem k_331 : ((Cond.lays "java/lang/IllegalArgumentException" "java/lang/Throwable" "stackTrace" "[Ljava/lang/StackTraceElement;") : Cond) ∈ W0 := q_mk 371 (by decide +kernel) (by decide +kernel)
theorem k_332 : ((Cond.lays "java/lang/Throwable" "java/lang/Throwable" "stackTrace" "[Ljava/lang/StackTraceElement;") : Cond) ∈ W0 := q_mk 372 (by decide +kernel) (by decide +kernel)
theorem k_333 : ((Cond.lays "java/lang/IllegalArgumentException" "java/lang/Throwable" "suppressedExceptions" "Ljava/util/List;") : Cond) ∈ W0 := q_mk 373 (by decide +kernel) (by decide +kernel)
theorem k_334 : ((Cond.lays "java/lang/Throwable" "java/lang/Throwable" "suppressedExceptions" "Ljava/util/List;") : Cond) ∈ W0 := q_mk 374 (by decide +kernel) (by decide +kernel)
theorem k_335 : ((Cond.lays "java/lang/IllegalArgumentException" "java/lang/Throwable" "detailMessage" "Ljava/lang/String;") : Cond) ∈ W0 := q_mk 375 (by decide +kernel) (by decide +kernel)
theorem k_336 : ((Cond.lays "java/lang/Throwable" "java/lang/Throwable" "detailMessage" "Ljava/lang/String;") : Cond) ∈ W0 := q_mk 376 (by decide +kernel) (by decide +kernel)
theorem k_337 : ((Cond.lays "java/lang/IllegalArgumentException" "java/lang/Throwable" "backtrace" "Ljava/lang/Object;") : Cond) ∈ W0 := q_mk 377 (by decide +kernel) (by decide +kernel)
theorem k_338 : ((Cond.lays "java/lang/Throwable" "java/lang/Throwable" "backtrace" "Ljava/lang/Object;") : Cond) ∈ W0 := q_mk 378 (by decide +kernel) (by decide +kernel)
theorem k_339 : ((Cond.fieldLink "java/lang/Throwable" 198 "java/lang/Throwable" "backtrace" "Ljava/lang/Object;") : Cond) ∈ W0 := q_mk 379 (by decide +kernel) (by decide +kernel)
theorem k_340 : ((Cond.superclass "java/lang/Throwable" "java/lang/Object") : Cond) ∈ W0 := q_mk 380 (by decide +kernel) (by decide +kernel)
theorem k_341 : ((Cond.instanceMethod ⟨"java/lang/Throwable", "<init>", "()V"⟩) : Cond) ∈ W0 := q_mk 381 (by decide +kernel) (by decide +kernel)
theorem k_342 : ((Cond.code ⟨"java/lang/Throwable", "<init>", "()V"⟩ prog_30_method_1_code 1 (none : Option FieldType)) : Cond) ∈ W0 := q_mk 382 (by decide +kernel) (by decide +kernel)
theorem k_343 : ((Cond.methodLink "java/lang/Throwable" 1 ⟨"java/lang/Object", "<init>", "()V"⟩) : Cond) ∈ W0 := q_mk 383 (by decide +kernel) (by decide +kernel)
theorem k_344 : ((Cond.fieldLink "java/lang/Throwable" 13 "java/lang/Throwable" "UNASSIGNED_STACK" "[Ljava/lang/StackTraceElement;") : Cond) ∈ W0 := q_mk 384 (by decide +kernel) (by decide +kernel)
theorem k_346 : ((Cond.fieldLink "java/lang/Throwable" 20 "java/lang/Throwable" "SUPPRESSED_SENTINEL" "Ljava/util/List;") : Cond) ∈ W0 := q_mk 386 (by decide +kernel) (by decide +kernel)
theorem k_348 : ((Cond.methodLink "java/lang/Throwable" 27 ⟨"java/lang/Throwable", "fillInStackTrace", "()Ljava/lang/Throwable;"⟩) : Cond) ∈ W0 := q_mk 388 (by decide +kernel) (by decide +kernel)
theorem k_349 : ((Cond.instanceMethod ⟨"java/lang/Throwable", "fillInStackTrace", "()Ljava/lang/Throwable;"⟩) : Cond) ∈ W0 := q_mk 389 (by decide +kernel) (by decide +kernel)
theorem k_350 : ((Cond.sameMethod "java/lang/Throwable" "java/lang/Throwable" "fillInStackTrace" "()Ljava/lang/Throwable;") : Cond) ∈ W0 := q_mk 390 (by decide +kernel) (by decide +kernel)
theorem k_351 : ((Cond.selects "java/lang/ArrayIndexOutOfBoundsException" ⟨"java/lang/Throwable", "fillInStackTrace", "()Ljava/lang/Throwable;"⟩ ⟨"java/lang/Throwable", "fillInStackTrace", "()Ljava/lang/Throwable;"⟩) : Cond) ∈ W0 := q_mk 391 (by decide +kernel) (by decide +kernel)
theorem k_352 : ((Cond.selects "java/lang/IllegalStateException" ⟨"java/lang/Throwable", "fillInStackTrace", "()Ljava/lang/Throwable;"⟩ ⟨"java/lang/Throwable", "fillInStackTrace", "()Ljava/lang/Throwable;"⟩) : Cond) ∈ W0 := q_mk 392 (by decide +kernel) (by decide +kernel)
theorem k_353 : ((Cond.selects "java/lang/IndexOutOfBoundsException" ⟨"java/lang/Throwable", "fillInStackTrace", "()Ljava/lang/Throwable;"⟩ ⟨"java/lang/Throwable", "fillInStackTrace", "()Ljava/lang/Throwable;"⟩) : Cond) ∈ W0 := q_mk 393 (by decide +kernel) (by decide +kernel)
theorem k_354 : ((Cond.selects "java/lang/StringIndexOutOfBoundsException" ⟨"java/lang/Throwable", "fillInStackTrace", "()Ljava/lang/Throwable;"⟩ ⟨"java/lang/Throwable", "fillInStackTrace", "()Ljava/lang/Throwable;"⟩) : Cond) ∈ W0 := q_mk 394 (by decide +kernel) (by decide +kernel)
theorem k_356 : ((Cond.methodLink "java/lang/Throwable" 202 ⟨"java/lang/Throwable", "fillInStackTrace", "(I)Ljava/lang/Throwable;"⟩) : Cond) ∈ W0 := q_mk 396 (by decide +kernel) (by decide +kernel)
theorem k_358 : ((Cond.instanceMethod ⟨"java/lang/Throwable", "fillInStackTrace", "(I)Ljava/lang/Throwable;"⟩) : Cond) ∈ W0 := q_mk 398 (by decide +kernel) (by decide +kernel)
theorem k_359 : ((Cond.instantiable "java/lang/Throwable" 6) : Cond) ∈ W0 := q_mk 399 (by decide +kernel) (by decide +kernel)
theorem k_360 : ((Cond.native ⟨"java/lang/Throwable", "fillInStackTrace", "(I)Ljava/lang/Throwable;"⟩) : Cond) ∈ W0 := q_mk 400 (by decide +kernel) (by decide +kernel)
theorem k_361 : ((Cond.classLink "java/util/Arrays" 45 "java/lang/StringBuilder") : Cond) ∈ W0 := q_mk 401 (by decide +kernel) (by decide +kernel)
theorem k_362 : ((Cond.methodLink "java/util/Arrays" 47 ⟨"java/lang/StringBuilder", "<init>", "()V"⟩) : Cond) ∈ W0 := q_mk 402 (by decide +kernel) (by decide +kernel)
theorem k_363 : ((Cond.methodLink "java/util/Arrays" 54 ⟨"java/lang/StringBuilder", "append", "(I)Ljava/lang/StringBuilder;"⟩) : Cond) ∈ W0 := q_mk 403 (by decide +kernel) (by decide +kernel)
theorem k_365 : ((Cond.methodLink "java/util/Arrays" 50 ⟨"java/lang/StringBuilder", "append", "(Ljava/lang/String;)Ljava/lang/StringBuilder;"⟩) : Cond) ∈ W0 := q_mk 405 (by decide +kernel) (by decide +kernel)
theorem k_366 : ((Cond.methodLink "java/util/Arrays" 61 ⟨"java/lang/StringBuilder", "toString", "()Ljava/lang/String;"⟩) : Cond) ∈ W0 := q_mk 406 (by decide +kernel) (by decide +kernel)
theorem k_367 : ((Cond.methodLink "java/util/Arrays" 65 ⟨"java/lang/IllegalArgumentException", "<init>", "(Ljava/lang/String;)V"⟩) : Cond) ∈ W0 := q_mk 407 (by decide +kernel) (by decide +kernel)
theorem k_368 : ((Cond.instanceMethod ⟨"java/lang/IllegalArgumentException", "<init>", "(Ljava/lang/String;)V"⟩) : Cond) ∈ W0 := q_mk 408 (by decide +kernel) (by decide +kernel)
theorem k_369 : ((Cond.code ⟨"java/lang/IllegalArgumentException", "<init>", "(Ljava/lang/String;)V"⟩ prog_16_method_2_code 2 (none : Option FieldType)) : Cond) ∈ W0 := q_mk 409 (by decide +kernel) (by decide +kernel)
theorem k_370 : ((Cond.methodLink "java/lang/IllegalArgumentException" 7 ⟨"java/lang/RuntimeException", "<init>", "(Ljava/lang/String;)V"⟩) : Cond) ∈ W0 := q_mk 410 (by decide +kernel) (by decide +kernel)
theorem k_371 : ((Cond.instanceMethod ⟨"java/lang/RuntimeException", "<init>", "(Ljava/lang/String;)V"⟩) : Cond) ∈ W0 := q_mk 411 (by decide +kernel) (by decide +kernel)
theorem k_372 : ((Cond.code ⟨"java/lang/RuntimeException", "<init>", "(Ljava/lang/String;)V"⟩ prog_23_method_2_code 2 (none : Option FieldType)) : Cond) ∈ W0 := q_mk 412 (by decide +kernel) (by decide +kernel)
theorem k_373 : ((Cond.methodLink "java/lang/RuntimeException" 7 ⟨"java/lang/Exception", "<init>", "(Ljava/lang/String;)V"⟩) : Cond) ∈ W0 := q_mk 413 (by decide +kernel) (by decide +kernel)
theorem k_374 : ((Cond.instanceMethod ⟨"java/lang/Exception", "<init>", "(Ljava/lang/String;)V"⟩) : Cond) ∈ W0 := q_mk 414 (by decide +kernel) (by decide +kernel)
theorem k_375 : ((Cond.code ⟨"java/lang/Exception", "<init>", "(Ljava/lang/String;)V"⟩ prog_15_method_2_code 2 (none : Option FieldType)) : Cond) ∈ W0 := q_mk 415 (by decide +kernel) (by decide +kernel)
theorem k_376 : ((Cond.methodLink "java/lang/Exception" 7 ⟨"java/lang/Throwable", "<init>", "(Ljava/lang/String;)V"⟩) : Cond) ∈ W0 := q_mk 416 (by decide +kernel) (by decide +kernel)
theorem k_377 : ((Cond.instanceMethod ⟨"java/lang/Throwable", "<init>", "(Ljava/lang/String;)V"⟩) : Cond) ∈ W0 := q_mk 417 (by decide +kernel) (by decide +kernel)
theorem k_378 : ((Cond.code ⟨"java/lang/Throwable", "<init>", "(Ljava/lang/String;)V"⟩ prog_30_method_2_code 2 (none : Option FieldType)) : Cond) ∈ W0 := q_mk 418 (by decide +kernel) (by decide +kernel)
theorem k_379 : ((Cond.fieldLink "java/lang/Throwable" 198 "java/lang/Throwable" "backtrace" "Ljava/lang/Object;") : Cond) ∈ W0 := q_mk 419 (by decide +kernel) (by decide +kernel)
theorem k_380 : ((Cond.fieldLink "java/lang/Throwable" 31 "java/lang/Throwable" "detailMessage" "Ljava/lang/String;") : Cond) ∈ W0 := q_mk 420 (by decide +kernel) (by decide +kernel)
theorem k_381 : ((Cond.fieldLink "java/lang/Throwable" 7 "java/lang/Throwable" "cause" "Ljava/lang/Throwable;") : Cond) ∈ W0 := q_mk 421 (by decide +kernel) (by decide +kernel)
theorem k_382 : ((Cond.fieldLink "java/lang/Throwable" 17 "java/lang/Throwable" "stackTrace" "[Ljava/lang/StackTraceElement;") : Cond) ∈ W0 := q_mk 422 (by decide +kernel) (by decide +kernel)
theorem k_383 : ((Cond.fieldLink "java/lang/Throwable" 24 "java/lang/Throwable" "suppressedExceptions" "Ljava/util/List;") : Cond) ∈ W0 := q_mk 423 (by decide +kernel) (by decide +kernel)
theorem k_388 : ((Cond.lays "java/lang/IllegalArgumentException" "java/lang/Throwable" "depth" "I") : Cond) ∈ W0 := q_mk 428 (by decide +kernel) (by decide +kernel)
theorem k_391 : ((Cond.superclass "java/lang/IllegalArgumentException" "java/lang/RuntimeException") : Cond) ∈ W0 := q_mk 431 (by decide +kernel) (by decide +kernel)
theorem k_405 : ((Cond.fieldLink "java/lang/String" 9 "java/lang/String" "value" "[B") : Cond) ∈ W0 := q_mk 445 (by decide +kernel) (by decide +kernel)
theorem k_406 : ((Cond.fieldLink "java/lang/String" 15 "java/lang/String" "coder" "B") : Cond) ∈ W0 := q_mk 446 (by decide +kernel) (by decide +kernel)
theorem k_407 : ((Cond.laysFinal "java/lang/String" "java/lang/String" "value" "[B") : Cond) ∈ W0 := q_mk 447 (by decide +kernel) (by decide +kernel)
theorem k_409 : ((Cond.laysFinal "java/lang/String" "java/lang/String" "coder" "B") : Cond) ∈ W0 := q_mk 449 (by decide +kernel) (by decide +kernel)
theorem k_411 : ((Cond.lays "java/lang/String" "java/lang/String" "hash" "I") : Cond) ∈ W0 := q_mk 451 (by decide +kernel) (by decide +kernel)
theorem k_413 : ((Cond.lays "java/lang/String" "java/lang/String" "hashIsZero" "Z") : Cond) ∈ W0 := q_mk 453 (by decide +kernel) (by decide +kernel)
theorem k_415 : ((Cond.superclass "java/lang/String" "java/lang/Object") : Cond) ∈ W0 := q_mk 455 (by decide +kernel) (by decide +kernel)
theorem k_416 : ((Cond.methodLink "java/lang/StringIndexOutOfBoundsException" 7 ⟨"java/lang/IndexOutOfBoundsException", "<init>", "(Ljava/lang/String;)V"⟩) : Cond) ∈ W0 := q_mk 456 (by decide +kernel) (by decide +kernel)
theorem k_417 : ((Cond.instanceMethod ⟨"java/lang/IndexOutOfBoundsException", "<init>", "(Ljava/lang/String;)V"⟩) : Cond) ∈ W0 := q_mk 457 (by decide +kernel) (by decide +kernel)
theorem k_418 : ((Cond.code ⟨"java/lang/IndexOutOfBoundsException", "<init>", "(Ljava/lang/String;)V"⟩ prog_18_method_2_code 2 (none : Option FieldType)) : Cond) ∈ W0 := q_mk 458 (by decide +kernel) (by decide +kernel)
theorem k_419 : ((Cond.methodLink "java/lang/IndexOutOfBoundsException" 7 ⟨"java/lang/RuntimeException", "<init>", "(Ljava/lang/String;)V"⟩) : Cond) ∈ W0 := q_mk 459 (by decide +kernel) (by decide +kernel)
theorem k_420 : ((Cond.lays "java/lang/StringIndexOutOfBoundsException" "java/lang/Throwable" "backtrace" "Ljava/lang/Object;") : Cond) ∈ W0 := q_mk 460 (by decide +kernel) (by decide +kernel)
theorem k_421 : ((Cond.lays "java/lang/StringIndexOutOfBoundsException" "java/lang/Throwable" "detailMessage" "Ljava/lang/String;") : Cond) ∈ W0 := q_mk 461 (by decide +kernel) (by decide +kernel)
theorem k_422 : ((Cond.lays "java/lang/StringIndexOutOfBoundsException" "java/lang/Throwable" "cause" "Ljava/lang/Throwable;") : Cond) ∈ W0 := q_mk 462 (by decide +kernel) (by decide +kernel)
theorem k_423 : ((Cond.lays "java/lang/StringIndexOutOfBoundsException" "java/lang/Throwable" "stackTrace" "[Ljava/lang/StackTraceElement;") : Cond) ∈ W0 := q_mk 463 (by decide +kernel) (by decide +kernel)
theorem k_424 : ((Cond.lays "java/lang/StringIndexOutOfBoundsException" "java/lang/Throwable" "depth" "I") : Cond) ∈ W0 := q_mk 464 (by decide +kernel) (by decide +kernel)
theorem k_425 : ((Cond.lays "java/lang/StringIndexOutOfBoundsException" "java/lang/Throwable" "suppressedExceptions" "Ljava/util/List;") : Cond) ∈ W0 := q_mk 465 (by decide +kernel) (by decide +kernel)
theorem k_426 : ((Cond.superclass "java/lang/StringIndexOutOfBoundsException" "java/lang/IndexOutOfBoundsException") : Cond) ∈ W0 := q_mk 466 (by decide +kernel) (by decide +kernel)
theorem k_427 : ((Cond.methodLink "java/lang/AbstractStringBuilder" 133 ⟨"java/lang/StringLatin1", "fillNull", "([BII)V"⟩) : Cond) ∈ W0 := q_mk 467 (by decide +kernel) (by decide +kernel)
theorem k_428 : ((Cond.static ⟨"java/lang/StringLatin1", "fillNull", "([BII)V"⟩) : Cond) ∈ W0 := q_mk 468 (by decide +kernel) (by decide +kernel)
theorem k_429 : ((Cond.code ⟨"java/lang/StringLatin1", "fillNull", "([BII)V"⟩ prog_27_method_48_code 3 (none : Option FieldType)) : Cond) ∈ W0 := q_mk 469 (by decide +kernel) (by decide +kernel)
theorem k_430 : ((Cond.methodLink "java/lang/StringLatin1" 236 ⟨"java/util/Arrays", "fill", "([BIIB)V"⟩) : Cond) ∈ W0 := q_mk 470 (by decide +kernel) (by decide +kernel)
theorem k_431 : ((Cond.static ⟨"java/util/Arrays", "fill", "([BIIB)V"⟩) : Cond) ∈ W0 := q_mk 471 (by decide +kernel) (by decide +kernel)
theorem k_432 : ((Cond.code ⟨"java/util/Arrays", "fill", "([BIIB)V"⟩ prog_36_method_110_code 5 (none : Option FieldType)) : Cond) ∈ W0 := q_mk 472 (by decide +kernel) (by decide +kernel)
theorem k_433 : ((Cond.methodLink "java/util/Arrays" 13 ⟨"java/util/Arrays", "rangeCheck", "(III)V"⟩) : Cond) ∈ W0 := q_mk 473 (by decide +kernel) (by decide +kernel)
theorem k_434 : ((Cond.static ⟨"java/util/Arrays", "rangeCheck", "(III)V"⟩) : Cond) ∈ W0 := q_mk 474 (by decide +kernel) (by decide +kernel)
theorem k_435 : ((Cond.code ⟨"java/util/Arrays", "rangeCheck", "(III)V"⟩ prog_36_method_30_code 3 (none : Option FieldType)) : Cond) ∈ W0 := q_mk 475 (by decide +kernel) (by decide +kernel)
theorem k_439 : ((Cond.classLink "java/util/Arrays" 68 "java/lang/ArrayIndexOutOfBoundsException") : Cond) ∈ W0 := q_mk 479 (by decide +kernel) (by decide +kernel)
theorem k_440 : ((Cond.instantiable "java/lang/ArrayIndexOutOfBoundsException" 6) : Cond) ∈ W0 := q_mk 480 (by decide +kernel) (by decide +kernel)
theorem k_444 : ((Cond.selects "java/lang/ArrayIndexOutOfBoundsException" ⟨"java/lang/Throwable", "fillInStackTrace", "(I)Ljava/lang/Throwable;"⟩ ⟨"java/lang/Throwable", "fillInStackTrace", "(I)Ljava/lang/Throwable;"⟩) : Cond) ∈ W0 := q_mk 484 (by decide +kernel) (by decide +kernel)
theorem k_445 : ((Cond.lays "java/lang/ArrayIndexOutOfBoundsException" "java/lang/Throwable" "cause" "Ljava/lang/Throwable;") : Cond) ∈ W0 := q_mk 485 (by decide +kernel) (by decide +kernel)
theorem k_446 : ((Cond.lays "java/lang/ArrayIndexOutOfBoundsException" "java/lang/Throwable" "stackTrace" "[Ljava/lang/StackTraceElement;") : Cond) ∈ W0 := q_mk 486 (by decide +kernel) (by decide +kernel)
theorem k_447 : ((Cond.lays "java/lang/ArrayIndexOutOfBoundsException" "java/lang/Throwable" "suppressedExceptions" "Ljava/util/List;") : Cond) ∈ W0 := q_mk 487 (by decide +kernel) (by decide +kernel)
theorem k_448 : ((Cond.lays "java/lang/ArrayIndexOutOfBoundsException" "java/lang/Throwable" "detailMessage" "Ljava/lang/String;") : Cond) ∈ W0 := q_mk 488 (by decide +kernel) (by decide +kernel)
theorem k_449 : ((Cond.lays "java/lang/ArrayIndexOutOfBoundsException" "java/lang/Throwable" "backtrace" "Ljava/lang/Object;") : Cond) ∈ W0 := q_mk 489 (by decide +kernel) (by decide +kernel)
theorem k_450 : ((Cond.methodLink "java/util/Arrays" 70 ⟨"java/lang/ArrayIndexOutOfBoundsException", "<init>", "(I)V"⟩) : Cond) ∈ W0 := q_mk 490 (by decide +kernel) (by decide +kernel)
theorem k_451 : ((Cond.instanceMethod ⟨"java/lang/ArrayIndexOutOfBoundsException", "<init>", "(I)V"⟩) : Cond) ∈ W0 := q_mk 491 (by decide +kernel) (by decide +kernel)
theorem k_452 : ((Cond.code ⟨"java/lang/ArrayIndexOutOfBoundsException", "<init>", "(I)V"⟩ prog_11_method_3_code 2 (none : Option FieldType)) : Cond) ∈ W0 := q_mk 492 (by decide +kernel) (by decide +kernel)
theorem k_453 : ((Cond.classLink "java/lang/ArrayIndexOutOfBoundsException" 10 "java/lang/StringBuilder") : Cond) ∈ W0 := q_mk 493 (by decide +kernel) (by decide +kernel)
theorem k_454 : ((Cond.methodLink "java/lang/ArrayIndexOutOfBoundsException" 12 ⟨"java/lang/StringBuilder", "<init>", "()V"⟩) : Cond) ∈ W0 := q_mk 494 (by decide +kernel) (by decide +kernel)
theorem k_456 : ((Cond.methodLink "java/lang/ArrayIndexOutOfBoundsException" 15 ⟨"java/lang/StringBuilder", "append", "(Ljava/lang/String;)Ljava/lang/StringBuilder;"⟩) : Cond) ∈ W0 := q_mk 496 (by decide +kernel) (by decide +kernel)
theorem k_457 : ((Cond.methodLink "java/lang/ArrayIndexOutOfBoundsException" 19 ⟨"java/lang/StringBuilder", "append", "(I)Ljava/lang/StringBuilder;"⟩) : Cond) ∈ W0 := q_mk 497 (by decide +kernel) (by decide +kernel)
theorem k_458 : ((Cond.methodLink "java/lang/ArrayIndexOutOfBoundsException" 22 ⟨"java/lang/StringBuilder", "toString", "()Ljava/lang/String;"⟩) : Cond) ∈ W0 := q_mk 498 (by decide +kernel) (by decide +kernel)
theorem k_459 : ((Cond.methodLink "java/lang/ArrayIndexOutOfBoundsException" 7 ⟨"java/lang/IndexOutOfBoundsException", "<init>", "(Ljava/lang/String;)V"⟩) : Cond) ∈ W0 := q_mk 499 (by decide +kernel) (by decide +kernel)
theorem k_460 : ((Cond.lays "java/lang/ArrayIndexOutOfBoundsException" "java/lang/Throwable" "depth" "I") : Cond) ∈ W0 := q_mk 500 (by decide +kernel) (by decide +kernel)
theorem k_461 : ((Cond.superclass "java/lang/ArrayIndexOutOfBoundsException" "java/lang/IndexOutOfBoundsException") : Cond) ∈ W0 := q_mk 501 (by decide +kernel) (by decide +kernel)
theorem k_466 : ((Cond.methodLink "InvoicebridgeLaw" 137 ⟨"Invoicebridge", "fault", "()I"⟩) : Cond) ∈ W0 := q_mk 506 (by decide +kernel) (by decide +kernel)
theorem k_467 : ((Cond.instanceMethod ⟨"Invoicebridge", "fault", "()I"⟩) : Cond) ∈ W0 := q_mk 507 (by decide +kernel) (by decide +kernel)
theorem k_468 : ((Cond.selects "Invoicebridge" ⟨"Invoicebridge", "fault", "()I"⟩ ⟨"Invoicebridge", "fault", "()I"⟩) : Cond) ∈ W0 := q_mk 508 (by decide +kernel) (by decide +kernel)
theorem k_469 : ((Cond.code ⟨"Invoicebridge", "fault", "()I"⟩ prog_1_method_13_code 1 (some .int)) : Cond) ∈ W0 := q_mk 509 (by decide +kernel) (by decide +kernel)
theorem k_470 : ((Cond.methodLink "Invoicebridge" 195 ⟨"Invoicebridge", "faultOfDraft", "()I"⟩) : Cond) ∈ W0 := q_mk 510 (by decide +kernel) (by decide +kernel)
theorem k_472 : ((Cond.instanceMethod ⟨"Invoicebridge", "faultOfDraft", "()I"⟩) : Cond) ∈ W0 := q_mk 512 (by decide +kernel) (by decide +kernel)
theorem k_473 : ((Cond.code ⟨"Invoicebridge", "faultOfDraft", "()I"⟩ prog_1_method_44_code 2 (some .int)) : Cond) ∈ W0 := q_mk 513 (by decide +kernel) (by decide +kernel)
theorem k_474 : ((Cond.methodLink "Invoicebridge" 317 ⟨"java/lang/StringBuilder", "charAt", "(I)C"⟩) : Cond) ∈ W0 := q_mk 514 (by decide +kernel) (by decide +kernel)
theorem k_475 : ((Cond.instanceMethod ⟨"java/lang/StringBuilder", "charAt", "(I)C"⟩) : Cond) ∈ W0 := q_mk 515 (by decide +kernel) (by decide +kernel)
theorem k_476 : ((Cond.selects "java/lang/StringBuilder" ⟨"java/lang/StringBuilder", "charAt", "(I)C"⟩ ⟨"java/lang/StringBuilder", "charAt", "(I)C"⟩) : Cond) ∈ W0 := q_mk 516 (by decide +kernel) (by decide +kernel)
theorem k_477 : ((Cond.code ⟨"java/lang/StringBuilder", "charAt", "(I)C"⟩ prog_25_method_88_code 2 (some .char)) : Cond) ∈ W0 := q_mk 517 (by decide +kernel) (by decide +kernel)
theorem k_478 : ((Cond.methodLink "java/lang/StringBuilder" 329 ⟨"java/lang/AbstractStringBuilder", "charAt", "(I)C"⟩) : Cond) ∈ W0 := q_mk 518 (by decide +kernel) (by decide +kernel)
theorem k_479 : ((Cond.instanceMethod ⟨"java/lang/AbstractStringBuilder", "charAt", "(I)C"⟩) : Cond) ∈ W0 := q_mk 519 (by decide +kernel) (by decide +kernel)
theorem k_480 : ((Cond.code ⟨"java/lang/AbstractStringBuilder", "charAt", "(I)C"⟩ prog_9_method_14_code 5 (some .char)) : Cond) ∈ W0 := q_mk 520 (by decide +kernel) (by decide +kernel)
theorem k_481 : ((Cond.methodLink "java/lang/AbstractStringBuilder" 138 ⟨"java/lang/Math", "min", "(II)I"⟩) : Cond) ∈ W0 := q_mk 521 (by decide +kernel) (by decide +kernel)
theorem k_482 : ((Cond.methodLink "java/lang/AbstractStringBuilder" 144 ⟨"java/lang/String", "checkIndex", "(II)V"⟩) : Cond) ∈ W0 := q_mk 522 (by decide +kernel) (by decide +kernel)
theorem k_483 : ((Cond.static ⟨"java/lang/String", "checkIndex", "(II)V"⟩) : Cond) ∈ W0 := q_mk 523 (by decide +kernel) (by decide +kernel)
theorem k_484 : ((Cond.code ⟨"java/lang/String", "checkIndex", "(II)V"⟩ prog_24_method_155_code 2 (none : Option FieldType)) : Cond) ∈ W0 := q_mk 524 (by decide +kernel) (by decide +kernel)
theorem k_485 : ((Cond.methodLink "java/lang/String" 1059 ⟨"jdk/internal/util/Preconditions", "checkIndex", "(IILjava/util/function/BiFunction;)I"⟩) : Cond) ∈ W0 := q_mk 525 (by decide +kernel) (by decide +kernel)
theorem k_486 : ((Cond.static ⟨"jdk/internal/util/Preconditions", "checkIndex", "(IILjava/util/function/BiFunction;)I"⟩) : Cond) ∈ W0 := q_mk 526 (by decide +kernel) (by decide +kernel)
theorem k_487 : ((Cond.code ⟨"jdk/internal/util/Preconditions", "checkIndex", "(IILjava/util/function/BiFunction;)I"⟩ prog_43_method_11_code 3 (some .int)) : Cond) ∈ W0 := q_mk 527 (by decide +kernel) (by decide +kernel)
theorem k_489 : ((Cond.methodLink "Invoicebridge" 321 ⟨"Invoicebridge", "isDigit", "(C)Z"⟩) : Cond) ∈ W0 := q_mk 529 (by decide +kernel) (by decide +kernel)
theorem k_490 : ((Cond.static ⟨"Invoicebridge", "isDigit", "(C)Z"⟩) : Cond) ∈ W0 := q_mk 530 (by decide +kernel) (by decide +kernel)
theorem k_491 : ((Cond.code ⟨"Invoicebridge", "isDigit", "(C)Z"⟩ prog_1_method_49_code 1 (some .boolean)) : Cond) ∈ W0 := q_mk 531 (by decide +kernel) (by decide +kernel)
theorem k_492 : ((Cond.methodLink "InvoicebridgeLaw" 177 ⟨"Invoicebridge", "day", "()I"⟩) : Cond) ∈ W0 := q_mk 532 (by decide +kernel) (by decide +kernel)
theorem k_493 : ((Cond.instanceMethod ⟨"Invoicebridge", "day", "()I"⟩) : Cond) ∈ W0 := q_mk 533 (by decide +kernel) (by decide +kernel)
theorem k_494 : ((Cond.selects "Invoicebridge" ⟨"Invoicebridge", "day", "()I"⟩ ⟨"Invoicebridge", "day", "()I"⟩) : Cond) ∈ W0 := q_mk 534 (by decide +kernel) (by decide +kernel)
theorem k_495 : ((Cond.code ⟨"Invoicebridge", "day", "()I"⟩ prog_1_method_26_code 1 (some .int)) : Cond) ∈ W0 := q_mk 535 (by decide +kernel) (by decide +kernel)
theorem k_496 : ((Cond.methodLink "InvoicebridgeLaw" 91 ⟨"InvoicebridgeLaw", "send", "(LInvoicebridge;IIIII[J)I"⟩) : Cond) ∈ W0 := q_mk 536 (by decide +kernel) (by decide +kernel)
theorem k_497 : ((Cond.static ⟨"InvoicebridgeLaw", "send", "(LInvoicebridge;IIIII[J)I"⟩) : Cond) ∈ W0 := q_mk 537 (by decide +kernel) (by decide +kernel)
theorem k_498 : ((Cond.codeWith ⟨"InvoicebridgeLaw", "send", "(LInvoicebridge;IIIII[J)I"⟩ method_3_code 8 (some .int) [(0, 16, 19, 13), (0, 16, 23, 15), (0, 16, 27, 17)]) : Cond) ∈ W0 := q_mk 538 (by decide +kernel) (by decide +kernel)
theorem k_499 : ((Cond.classLink "InvoicebridgeLaw" 13 "java/lang/IndexOutOfBoundsException") : Cond) ∈ W0 := q_mk 539 (by decide +kernel) (by decide +kernel)
theorem k_500 : ((Cond.classLink "InvoicebridgeLaw" 15 "java/lang/IllegalArgumentException") : Cond) ∈ W0 := q_mk 540 (by decide +kernel) (by decide +kernel)
theorem k_501 : ((Cond.classLink "InvoicebridgeLaw" 17 "java/lang/IllegalStateException") : Cond) ∈ W0 := q_mk 541 (by decide +kernel) (by decide +kernel)
theorem k_502 : ((Cond.methodLink "InvoicebridgeLaw" 7 ⟨"Invoicebridge", "send", "(IIIII)I"⟩) : Cond) ∈ W0 := q_mk 542 (by decide +kernel) (by decide +kernel)
theorem k_503 : ((Cond.instanceMethod ⟨"Invoicebridge", "send", "(IIIII)I"⟩) : Cond) ∈ W0 := q_mk 543 (by decide +kernel) (by decide +kernel)
theorem k_504 : ((Cond.selects "Invoicebridge" ⟨"Invoicebridge", "send", "(IIIII)I"⟩ ⟨"Invoicebridge", "send", "(IIIII)I"⟩) : Cond) ∈ W0 := q_mk 544 (by decide +kernel) (by decide +kernel)
theorem k_505 : ((Cond.code ⟨"Invoicebridge", "send", "(IIIII)I"⟩ prog_1_method_2_code 7 (some .int)) : Cond) ∈ W0 := q_mk 545 (by decide +kernel) (by decide +kernel)
theorem k_506 : ((Cond.methodLink "Invoicebridge" 37 ⟨"Invoicebridge", "checkCompany", "(I)V"⟩) : Cond) ∈ W0 := q_mk 546 (by decide +kernel) (by decide +kernel)
theorem k_508 : ((Cond.instanceMethod ⟨"Invoicebridge", "checkCompany", "(I)V"⟩) : Cond) ∈ W0 := q_mk 548 (by decide +kernel) (by decide +kernel)
theorem k_509 : ((Cond.code ⟨"Invoicebridge", "checkCompany", "(I)V"⟩ prog_1_method_27_code 2 (none : Option FieldType)) : Cond) ∈ W0 := q_mk 549 (by decide +kernel) (by decide +kernel)
theorem k_510 : ((Cond.classLink "Invoicebridge" 245 "java/lang/IndexOutOfBoundsException") : Cond) ∈ W0 := q_mk 550 (by decide +kernel) (by decide +kernel)
theorem k_511 : ((Cond.instantiable "java/lang/IndexOutOfBoundsException" 6) : Cond) ∈ W0 := q_mk 551 (by decide +kernel) (by decide +kernel)
theorem k_513 : ((Cond.selects "java/lang/IndexOutOfBoundsException" ⟨"java/lang/Throwable", "fillInStackTrace", "(I)Ljava/lang/Throwable;"⟩ ⟨"java/lang/Throwable", "fillInStackTrace", "(I)Ljava/lang/Throwable;"⟩) : Cond) ∈ W0 := q_mk 553 (by decide +kernel) (by decide +kernel)
theorem k_514 : ((Cond.lays "java/lang/IndexOutOfBoundsException" "java/lang/Throwable" "cause" "Ljava/lang/Throwable;") : Cond) ∈ W0 := q_mk 554 (by decide +kernel) (by decide +kernel)
theorem k_515 : ((Cond.lays "java/lang/IndexOutOfBoundsException" "java/lang/Throwable" "stackTrace" "[Ljava/lang/StackTraceElement;") : Cond) ∈ W0 := q_mk 555 (by decide +kernel) (by decide +kernel)
theorem k_516 : ((Cond.lays "java/lang/IndexOutOfBoundsException" "java/lang/Throwable" "suppressedExceptions" "Ljava/util/List;") : Cond) ∈ W0 := q_mk 556 (by decide +kernel) (by decide +kernel)
theorem k_517 : ((Cond.lays "java/lang/IndexOutOfBoundsException" "java/lang/Throwable" "detailMessage" "Ljava/lang/String;") : Cond) ∈ W0 := q_mk 557 (by decide +kernel) (by decide +kernel)
theorem k_518 : ((Cond.lays "java/lang/IndexOutOfBoundsException" "java/lang/Throwable" "backtrace" "Ljava/lang/Object;") : Cond) ∈ W0 := q_mk 558 (by decide +kernel) (by decide +kernel)
theorem k_520 : ((Cond.methodLink "Invoicebridge" 249 ⟨"java/lang/IndexOutOfBoundsException", "<init>", "(Ljava/lang/String;)V"⟩) : Cond) ∈ W0 := q_mk 560 (by decide +kernel) (by decide +kernel)
theorem k_521 : ((Cond.lays "java/lang/IndexOutOfBoundsException" "java/lang/Throwable" "depth" "I") : Cond) ∈ W0 := q_mk 561 (by decide +kernel) (by decide +kernel)
theorem k_522 : ((Cond.superclass "java/lang/IndexOutOfBoundsException" "java/lang/RuntimeException") : Cond) ∈ W0 := q_mk 562 (by decide +kernel) (by decide +kernel)
theorem k_523 : ((Cond.methodLink "Invoicebridge" 41 ⟨"Invoicebridge", "checkGoods", "(I)V"⟩) : Cond) ∈ W0 := q_mk 563 (by decide +kernel) (by decide +kernel)
theorem k_525 : ((Cond.instanceMethod ⟨"Invoicebridge", "checkGoods", "(I)V"⟩) : Cond) ∈ W0 := q_mk 565 (by decide +kernel) (by decide +kernel)
theorem k_526 : ((Cond.code ⟨"Invoicebridge", "checkGoods", "(I)V"⟩ prog_1_method_28_code 2 (none : Option FieldType)) : Cond) ∈ W0 := q_mk 566 (by decide +kernel) (by decide +kernel)
theorem k_528 : ((Cond.methodLink "Invoicebridge" 44 ⟨"Invoicebridge", "checkAmount", "(I)V"⟩) : Cond) ∈ W0 := q_mk 568 (by decide +kernel) (by decide +kernel)
theorem k_530 : ((Cond.instanceMethod ⟨"Invoicebridge", "checkAmount", "(I)V"⟩) : Cond) ∈ W0 := q_mk 570 (by decide +kernel) (by decide +kernel)
theorem k_531 : ((Cond.code ⟨"Invoicebridge", "checkAmount", "(I)V"⟩ prog_1_method_30_code 2 (none : Option FieldType)) : Cond) ∈ W0 := q_mk 571 (by decide +kernel) (by decide +kernel)
theorem k_532 : ((Cond.classLink "Invoicebridge" 121 "java/lang/IllegalArgumentException") : Cond) ∈ W0 := q_mk 572 (by decide +kernel) (by decide +kernel)
theorem k_534 : ((Cond.methodLink "Invoicebridge" 125 ⟨"java/lang/IllegalArgumentException", "<init>", "(Ljava/lang/String;)V"⟩) : Cond) ∈ W0 := q_mk 574 (by decide +kernel) (by decide +kernel)
theorem k_535 : ((Cond.methodLink "Invoicebridge" 47 ⟨"Invoicebridge", "checkRate", "(I)V"⟩) : Cond) ∈ W0 := q_mk 575 (by decide +kernel) (by decide +kernel)
theorem k_537 : ((Cond.instanceMethod ⟨"Invoicebridge", "checkRate", "(I)V"⟩) : Cond) ∈ W0 := q_mk 577 (by decide +kernel) (by decide +kernel)
theorem k_538 : ((Cond.code ⟨"Invoicebridge", "checkRate", "(I)V"⟩ prog_1_method_31_code 2 (none : Option FieldType)) : Cond) ∈ W0 := q_mk 578 (by decide +kernel) (by decide +kernel)
theorem k_540 : ((Cond.methodLink "Invoicebridge" 50 ⟨"Invoicebridge", "checkTwoCompanies", "(II)V"⟩) : Cond) ∈ W0 := q_mk 580 (by decide +kernel) (by decide +kernel)
theorem k_542 : ((Cond.instanceMethod ⟨"Invoicebridge", "checkTwoCompanies", "(II)V"⟩) : Cond) ∈ W0 := q_mk 582 (by decide +kernel) (by decide +kernel)
theorem k_543 : ((Cond.code ⟨"Invoicebridge", "checkTwoCompanies", "(II)V"⟩ prog_1_method_32_code 3 (none : Option FieldType)) : Cond) ∈ W0 := q_mk 583 (by decide +kernel) (by decide +kernel)
theorem k_545 : ((Cond.methodLink "Invoicebridge" 54 ⟨"java/util/ArrayList", "size", "()I"⟩) : Cond) ∈ W0 := q_mk 585 (by decide +kernel) (by decide +kernel)
theorem k_546 : ((Cond.instanceMethod ⟨"java/util/ArrayList", "size", "()I"⟩) : Cond) ∈ W0 := q_mk 586 (by decide +kernel) (by decide +kernel)
theorem k_547 : ((Cond.selects "java/util/ArrayList" ⟨"java/util/ArrayList", "size", "()I"⟩ ⟨"java/util/ArrayList", "size", "()I"⟩) : Cond) ∈ W0 := q_mk 587 (by decide +kernel) (by decide +kernel)
theorem k_548 : ((Cond.code ⟨"java/util/ArrayList", "size", "()I"⟩ prog_35_method_8_code 1 (some .int)) : Cond) ∈ W0 := q_mk 588 (by decide +kernel) (by decide +kernel)
theorem k_549 : ((Cond.classLink "Invoicebridge" 58 "java/lang/IllegalStateException") : Cond) ∈ W0 := q_mk 589 (by decide +kernel) (by decide +kernel)
theorem k_550 : ((Cond.instantiable "java/lang/IllegalStateException" 6) : Cond) ∈ W0 := q_mk 590 (by decide +kernel) (by decide +kernel)
theorem k_552 : ((Cond.selects "java/lang/IllegalStateException" ⟨"java/lang/Throwable", "fillInStackTrace", "(I)Ljava/lang/Throwable;"⟩ ⟨"java/lang/Throwable", "fillInStackTrace", "(I)Ljava/lang/Throwable;"⟩) : Cond) ∈ W0 := q_mk 592 (by decide +kernel) (by decide +kernel)
theorem k_553 : ((Cond.lays "java/lang/IllegalStateException" "java/lang/Throwable" "cause" "Ljava/lang/Throwable;") : Cond) ∈ W0 := q_mk 593 (by decide +kernel) (by decide +kernel)
theorem k_554 : ((Cond.lays "java/lang/IllegalStateException" "java/lang/Throwable" "stackTrace" "[Ljava/lang/StackTraceElement;") : Cond) ∈ W0 := q_mk 594 (by decide +kernel) (by decide +kernel)
theorem k_555 : ((Cond.lays "java/lang/IllegalStateException" "java/lang/Throwable" "suppressedExceptions" "Ljava/util/List;") : Cond) ∈ W0 := q_mk 595 (by decide +kernel) (by decide +kernel)
theorem k_556 : ((Cond.lays "java/lang/IllegalStateException" "java/lang/Throwable" "detailMessage" "Ljava/lang/String;") : Cond) ∈ W0 := q_mk 596 (by decide +kernel) (by decide +kernel)
theorem k_557 : ((Cond.lays "java/lang/IllegalStateException" "java/lang/Throwable" "backtrace" "Ljava/lang/Object;") : Cond) ∈ W0 := q_mk 597 (by decide +kernel) (by decide +kernel)
theorem k_559 : ((Cond.methodLink "Invoicebridge" 62 ⟨"java/lang/IllegalStateException", "<init>", "(Ljava/lang/String;)V"⟩) : Cond) ∈ W0 := q_mk 599 (by decide +kernel) (by decide +kernel)
theorem k_560 : ((Cond.instanceMethod ⟨"java/lang/IllegalStateException", "<init>", "(Ljava/lang/String;)V"⟩) : Cond) ∈ W0 := q_mk 600 (by decide +kernel) (by decide +kernel)
theorem k_561 : ((Cond.code ⟨"java/lang/IllegalStateException", "<init>", "(Ljava/lang/String;)V"⟩ prog_17_method_2_code 2 (none : Option FieldType)) : Cond) ∈ W0 := q_mk 601 (by decide +kernel) (by decide +kernel)
theorem k_562 : ((Cond.methodLink "java/lang/IllegalStateException" 7 ⟨"java/lang/RuntimeException", "<init>", "(Ljava/lang/String;)V"⟩) : Cond) ∈ W0 := q_mk 602 (by decide +kernel) (by decide +kernel)
theorem k_563 : ((Cond.lays "java/lang/IllegalStateException" "java/lang/Throwable" "depth" "I") : Cond) ∈ W0 := q_mk 603 (by decide +kernel) (by decide +kernel)
theorem k_564 : ((Cond.superclass "java/lang/IllegalStateException" "java/lang/RuntimeException") : Cond) ∈ W0 := q_mk 604 (by decide +kernel) (by decide +kernel)
theorem k_565 : ((Cond.classLink "Invoicebridge" 65 "Invoicebridge$Invoice") : Cond) ∈ W0 := q_mk 605 (by decide +kernel) (by decide +kernel)
theorem k_566 : ((Cond.instantiable "Invoicebridge$Invoice" 12) : Cond) ∈ W0 := q_mk 606 (by decide +kernel) (by decide +kernel)
theorem k_567 : ((Cond.methodLink "Invoicebridge" 67 ⟨"Invoicebridge$Invoice", "<init>", "(IIII)V"⟩) : Cond) ∈ W0 := q_mk 607 (by decide +kernel) (by decide +kernel)
theorem k_568 : ((Cond.instanceMethod ⟨"Invoicebridge$Invoice", "<init>", "(IIII)V"⟩) : Cond) ∈ W0 := q_mk 608 (by decide +kernel) (by decide +kernel)
theorem k_569 : ((Cond.code ⟨"Invoicebridge$Invoice", "<init>", "(IIII)V"⟩ prog_4_method_1_code 5 (none : Option FieldType)) : Cond) ∈ W0 := q_mk 609 (by decide +kernel) (by decide +kernel)
theorem k_570 : ((Cond.methodLink "Invoicebridge$Invoice" 3 ⟨"java/lang/Object", "<init>", "()V"⟩) : Cond) ∈ W0 := q_mk 610 (by decide +kernel) (by decide +kernel)
theorem k_571 : ((Cond.classLink "Invoicebridge$Invoice" 9 "java/util/ArrayList") : Cond) ∈ W0 := q_mk 611 (by decide +kernel) (by decide +kernel)
theorem k_572 : ((Cond.methodLink "Invoicebridge$Invoice" 11 ⟨"java/util/ArrayList", "<init>", "()V"⟩) : Cond) ∈ W0 := q_mk 612 (by decide +kernel) (by decide +kernel)
theorem k_573 : ((Cond.fieldLink "Invoicebridge$Invoice" 38 "Invoicebridge$Invoice" "seller" "I") : Cond) ∈ W0 := q_mk 613 (by decide +kernel) (by decide +kernel)
theorem k_574 : ((Cond.fieldLink "Invoicebridge$Credit" 22 "Invoicebridge$Invoice" "seller" "I") : Cond) ∈ W0 := q_mk 614 (by decide +kernel) (by decide +kernel)
theorem k_575 : ((Cond.fieldLink "Invoicebridge" 148 "Invoicebridge$Invoice" "seller" "I") : Cond) ∈ W0 := q_mk 615 (by decide +kernel) (by decide +kernel)
theorem k_576 : ((Cond.fieldLink "Invoicebridge$Invoice" 41 "Invoicebridge$Invoice" "buyer" "I") : Cond) ∈ W0 := q_mk 616 (by decide +kernel) (by decide +kernel)
theorem k_577 : ((Cond.fieldLink "Invoicebridge$Credit" 30 "Invoicebridge$Invoice" "buyer" "I") : Cond) ∈ W0 := q_mk 617 (by decide +kernel) (by decide +kernel)
theorem k_578 : ((Cond.fieldLink "Invoicebridge" 151 "Invoicebridge$Invoice" "buyer" "I") : Cond) ∈ W0 := q_mk 618 (by decide +kernel) (by decide +kernel)
theorem k_579 : ((Cond.fieldLink "Invoicebridge$Invoice" 44 "Invoicebridge$Invoice" "goods" "I") : Cond) ∈ W0 := q_mk 619 (by decide +kernel) (by decide +kernel)
theorem k_580 : ((Cond.fieldLink "Invoicebridge" 332 "Invoicebridge$Invoice" "goods" "I") : Cond) ∈ W0 := q_mk 620 (by decide +kernel) (by decide +kernel)
theorem k_581 : ((Cond.fieldLink "Invoicebridge$Invoice" 47 "Invoicebridge$Invoice" "sentDay" "I") : Cond) ∈ W0 := q_mk 621 (by decide +kernel) (by decide +kernel)
theorem k_582 : ((Cond.fieldLink "Invoicebridge" 89 "Invoicebridge$Invoice" "sentDay" "I") : Cond) ∈ W0 := q_mk 622 (by decide +kernel) (by decide +kernel)
theorem k_583 : ((Cond.fieldLink "Invoicebridge$Invoice" 12 "Invoicebridge$Invoice" "lines" "Ljava/util/ArrayList;") : Cond) ∈ W0 := q_mk 623 (by decide +kernel) (by decide +kernel)
theorem k_584 : ((Cond.fieldLink "Invoicebridge" 70 "Invoicebridge$Invoice" "lines" "Ljava/util/ArrayList;") : Cond) ∈ W0 := q_mk 624 (by decide +kernel) (by decide +kernel)
theorem k_585 : ((Cond.fieldLink "Invoicebridge$Invoice" 18 "Invoicebridge$Invoice" "state" "I") : Cond) ∈ W0 := q_mk 625 (by decide +kernel) (by decide +kernel)
theorem k_586 : ((Cond.fieldLink "Invoicebridge$Credit" 27 "Invoicebridge$Invoice" "state" "I") : Cond) ∈ W0 := q_mk 626 (by decide +kernel) (by decide +kernel)
theorem k_587 : ((Cond.fieldLink "Invoicebridge" 102 "Invoicebridge$Invoice" "state" "I") : Cond) ∈ W0 := q_mk 627 (by decide +kernel) (by decide +kernel)
theorem k_588 : ((Cond.fieldLink "Invoicebridge$Invoice" 22 "Invoicebridge$Invoice" "acceptedDay" "I") : Cond) ∈ W0 := q_mk 628 (by decide +kernel) (by decide +kernel)
theorem k_589 : ((Cond.fieldLink "Invoicebridge" 105 "Invoicebridge$Invoice" "acceptedDay" "I") : Cond) ∈ W0 := q_mk 629 (by decide +kernel) (by decide +kernel)
theorem k_590 : ((Cond.fieldLink "Invoicebridge$Invoice" 25 "Invoicebridge$Invoice" "hasCredit" "Z") : Cond) ∈ W0 := q_mk 630 (by decide +kernel) (by decide +kernel)
theorem k_591 : ((Cond.fieldLink "Invoicebridge" 96 "Invoicebridge$Invoice" "hasCredit" "Z") : Cond) ∈ W0 := q_mk 631 (by decide +kernel) (by decide +kernel)
theorem k_592 : ((Cond.fieldLink "Invoicebridge$Invoice" 29 "Invoicebridge$Invoice" "paid" "I") : Cond) ∈ W0 := q_mk 632 (by decide +kernel) (by decide +kernel)
theorem k_593 : ((Cond.fieldLink "Invoicebridge" 230 "Invoicebridge$Invoice" "paid" "I") : Cond) ∈ W0 := q_mk 633 (by decide +kernel) (by decide +kernel)
theorem k_594 : ((Cond.fieldLink "Invoicebridge$Invoice" 50 "Invoicebridge$Invoice" "holder" "I") : Cond) ∈ W0 := q_mk 634 (by decide +kernel) (by decide +kernel)
theorem k_595 : ((Cond.fieldLink "Invoicebridge" 159 "Invoicebridge$Invoice" "holder" "I") : Cond) ∈ W0 := q_mk 635 (by decide +kernel) (by decide +kernel)
theorem k_596 : ((Cond.fieldLink "Invoicebridge$Invoice" 32 "Invoicebridge$Invoice" "price" "I") : Cond) ∈ W0 := q_mk 636 (by decide +kernel) (by decide +kernel)
theorem k_597 : ((Cond.fieldLink "Invoicebridge" 167 "Invoicebridge$Invoice" "price" "I") : Cond) ∈ W0 := q_mk 637 (by decide +kernel) (by decide +kernel)
theorem k_598 : ((Cond.fieldLink "Invoicebridge$Invoice" 35 "Invoicebridge$Invoice" "isRecourse" "Z") : Cond) ∈ W0 := q_mk 638 (by decide +kernel) (by decide +kernel)
theorem k_599 : ((Cond.fieldLink "Invoicebridge" 170 "Invoicebridge$Invoice" "isRecourse" "Z") : Cond) ∈ W0 := q_mk 639 (by decide +kernel) (by decide +kernel)
theorem k_600 : ((Cond.laysFinal "Invoicebridge$Invoice" "Invoicebridge$Invoice" "seller" "I") : Cond) ∈ W0 := q_mk 640 (by decide +kernel) (by decide +kernel)
theorem k_602 : ((Cond.laysFinal "Invoicebridge$Invoice" "Invoicebridge$Invoice" "buyer" "I") : Cond) ∈ W0 := q_mk 642 (by decide +kernel) (by decide +kernel)
theorem k_604 : ((Cond.laysFinal "Invoicebridge$Invoice" "Invoicebridge$Invoice" "goods" "I") : Cond) ∈ W0 := q_mk 644 (by decide +kernel) (by decide +kernel)
theorem k_606 : ((Cond.laysFinal "Invoicebridge$Invoice" "Invoicebridge$Invoice" "sentDay" "I") : Cond) ∈ W0 := q_mk 646 (by decide +kernel) (by decide +kernel)
theorem k_608 : ((Cond.laysFinal "Invoicebridge$Invoice" "Invoicebridge$Invoice" "lines" "Ljava/util/ArrayList;") : Cond) ∈ W0 := q_mk 648 (by decide +kernel) (by decide +kernel)
theorem k_610 : ((Cond.lays "Invoicebridge$Invoice" "Invoicebridge$Invoice" "state" "I") : Cond) ∈ W0 := q_mk 650 (by decide +kernel) (by decide +kernel)
theorem k_612 : ((Cond.lays "Invoicebridge$Invoice" "Invoicebridge$Invoice" "acceptedDay" "I") : Cond) ∈ W0 := q_mk 652 (by decide +kernel) (by decide +kernel)
theorem k_614 : ((Cond.lays "Invoicebridge$Invoice" "Invoicebridge$Invoice" "hasCredit" "Z") : Cond) ∈ W0 := q_mk 654 (by decide +kernel) (by decide +kernel)
theorem k_616 : ((Cond.lays "Invoicebridge$Invoice" "Invoicebridge$Invoice" "paid" "I") : Cond) ∈ W0 := q_mk 656 (by decide +kernel) (by decide +kernel)
theorem k_618 : ((Cond.lays "Invoicebridge$Invoice" "Invoicebridge$Invoice" "holder" "I") : Cond) ∈ W0 := q_mk 658 (by decide +kernel) (by decide +kernel)
theorem k_620 : ((Cond.lays "Invoicebridge$Invoice" "Invoicebridge$Invoice" "price" "I") : Cond) ∈ W0 := q_mk 660 (by decide +kernel) (by decide +kernel)
theorem k_622 : ((Cond.lays "Invoicebridge$Invoice" "Invoicebridge$Invoice" "isRecourse" "Z") : Cond) ∈ W0 := q_mk 662 (by decide +kernel) (by decide +kernel)
theorem k_624 : ((Cond.superclass "Invoicebridge$Invoice" "java/lang/Object") : Cond) ∈ W0 := q_mk 664 (by decide +kernel) (by decide +kernel)
theorem k_625 : ((Cond.classLink "Invoicebridge" 73 "Invoicebridge$Line") : Cond) ∈ W0 := q_mk 665 (by decide +kernel) (by decide +kernel)
theorem k_626 : ((Cond.instantiable "Invoicebridge$Line" 4) : Cond) ∈ W0 := q_mk 666 (by decide +kernel) (by decide +kernel)
theorem k_627 : ((Cond.methodLink "Invoicebridge" 75 ⟨"Invoicebridge$Line", "<init>", "(II)V"⟩) : Cond) ∈ W0 := q_mk 667 (by decide +kernel) (by decide +kernel)
theorem k_628 : ((Cond.instanceMethod ⟨"Invoicebridge$Line", "<init>", "(II)V"⟩) : Cond) ∈ W0 := q_mk 668 (by decide +kernel) (by decide +kernel)
theorem k_629 : ((Cond.code ⟨"Invoicebridge$Line", "<init>", "(II)V"⟩ prog_5_method_1_code 3 (none : Option FieldType)) : Cond) ∈ W0 := q_mk 669 (by decide +kernel) (by decide +kernel)
theorem k_630 : ((Cond.methodLink "Invoicebridge$Line" 1 ⟨"java/lang/Object", "<init>", "()V"⟩) : Cond) ∈ W0 := q_mk 670 (by decide +kernel) (by decide +kernel)
theorem k_631 : ((Cond.fieldLink "Invoicebridge$Line" 13 "Invoicebridge$Line" "made" "I") : Cond) ∈ W0 := q_mk 671 (by decide +kernel) (by decide +kernel)
theorem k_632 : ((Cond.fieldLink "Invoicebridge" 242 "Invoicebridge$Line" "made" "I") : Cond) ∈ W0 := q_mk 672 (by decide +kernel) (by decide +kernel)
theorem k_633 : ((Cond.fieldLink "Invoicebridge$Line" 17 "Invoicebridge$Line" "rate" "I") : Cond) ∈ W0 := q_mk 673 (by decide +kernel) (by decide +kernel)
theorem k_634 : ((Cond.fieldLink "Invoicebridge" 238 "Invoicebridge$Line" "rate" "I") : Cond) ∈ W0 := q_mk 674 (by decide +kernel) (by decide +kernel)
theorem k_635 : ((Cond.fieldLink "Invoicebridge$Line" 20 "Invoicebridge$Line" "amount" "I") : Cond) ∈ W0 := q_mk 675 (by decide +kernel) (by decide +kernel)
theorem k_636 : ((Cond.fieldLink "Invoicebridge" 118 "Invoicebridge$Line" "amount" "I") : Cond) ∈ W0 := q_mk 676 (by decide +kernel) (by decide +kernel)
theorem k_637 : ((Cond.fieldLink "Invoicebridge$Line" 7 "Invoicebridge$Line" "isDisputed" "Z") : Cond) ∈ W0 := q_mk 677 (by decide +kernel) (by decide +kernel)
theorem k_638 : ((Cond.fieldLink "Invoicebridge$Invoice" 66 "Invoicebridge$Line" "isDisputed" "Z") : Cond) ∈ W0 := q_mk 678 (by decide +kernel) (by decide +kernel)
theorem k_639 : ((Cond.fieldLink "Invoicebridge" 137 "Invoicebridge$Line" "isDisputed" "Z") : Cond) ∈ W0 := q_mk 679 (by decide +kernel) (by decide +kernel)
theorem k_640 : ((Cond.laysFinal "Invoicebridge$Line" "Invoicebridge$Line" "made" "I") : Cond) ∈ W0 := q_mk 680 (by decide +kernel) (by decide +kernel)
theorem k_642 : ((Cond.laysFinal "Invoicebridge$Line" "Invoicebridge$Line" "rate" "I") : Cond) ∈ W0 := q_mk 682 (by decide +kernel) (by decide +kernel)
theorem k_644 : ((Cond.lays "Invoicebridge$Line" "Invoicebridge$Line" "amount" "I") : Cond) ∈ W0 := q_mk 684 (by decide +kernel) (by decide +kernel)
theorem k_646 : ((Cond.lays "Invoicebridge$Line" "Invoicebridge$Line" "isDisputed" "Z") : Cond) ∈ W0 := q_mk 686 (by decide +kernel) (by decide +kernel)
theorem k_648 : ((Cond.superclass "Invoicebridge$Line" "java/lang/Object") : Cond) ∈ W0 := q_mk 688 (by decide +kernel) (by decide +kernel)
theorem k_649 : ((Cond.methodLink "Invoicebridge" 77 ⟨"java/util/ArrayList", "add", "(Ljava/lang/Object;)Z"⟩) : Cond) ∈ W0 := q_mk 689 (by decide +kernel) (by decide +kernel)
theorem k_650 : ((Cond.instanceMethod ⟨"java/util/ArrayList", "add", "(Ljava/lang/Object;)Z"⟩) : Cond) ∈ W0 := q_mk 690 (by decide +kernel) (by decide +kernel)
theorem k_651 : ((Cond.selects "java/util/ArrayList" ⟨"java/util/ArrayList", "add", "(Ljava/lang/Object;)Z"⟩ ⟨"java/util/ArrayList", "add", "(Ljava/lang/Object;)Z"⟩) : Cond) ∈ W0 := q_mk 691 (by decide +kernel) (by decide +kernel)
theorem k_652 : ((Cond.code ⟨"java/util/ArrayList", "add", "(Ljava/lang/Object;)Z"⟩ prog_35_method_25_code 2 (some .boolean)) : Cond) ∈ W0 := q_mk 692 (by decide +kernel) (by decide +kernel)
theorem k_653 : ((Cond.methodLink "java/util/ArrayList" 131 ⟨"java/util/ArrayList", "add", "(Ljava/lang/Object;[Ljava/lang/Object;I)V"⟩) : Cond) ∈ W0 := q_mk 693 (by decide +kernel) (by decide +kernel)
theorem k_655 : ((Cond.instanceMethod ⟨"java/util/ArrayList", "add", "(Ljava/lang/Object;[Ljava/lang/Object;I)V"⟩) : Cond) ∈ W0 := q_mk 695 (by decide +kernel) (by decide +kernel)
theorem k_656 : ((Cond.code ⟨"java/util/ArrayList", "add", "(Ljava/lang/Object;[Ljava/lang/Object;I)V"⟩ prog_35_method_24_code 4 (none : Option FieldType)) : Cond) ∈ W0 := q_mk 696 (by decide +kernel) (by decide +kernel)
theorem k_657 : ((Cond.methodLink "java/util/ArrayList" 129 ⟨"java/util/ArrayList", "grow", "()[Ljava/lang/Object;"⟩) : Cond) ∈ W0 := q_mk 697 (by decide +kernel) (by decide +kernel)
theorem k_659 : ((Cond.instanceMethod ⟨"java/util/ArrayList", "grow", "()[Ljava/lang/Object;"⟩) : Cond) ∈ W0 := q_mk 699 (by decide +kernel) (by decide +kernel)
theorem k_660 : ((Cond.code ⟨"java/util/ArrayList", "grow", "()[Ljava/lang/Object;"⟩ prog_35_method_7_code 1 (Option.some (FieldType.array (FieldType.object "java/lang/Object")))) : Cond) ∈ W0 := q_mk 700 (by decide +kernel) (by decide +kernel)
theorem k_661 : ((Cond.methodLink "java/util/ArrayList" 69 ⟨"java/util/ArrayList", "grow", "(I)[Ljava/lang/Object;"⟩) : Cond) ∈ W0 := q_mk 701 (by decide +kernel) (by decide +kernel)
theorem k_663 : ((Cond.instanceMethod ⟨"java/util/ArrayList", "grow", "(I)[Ljava/lang/Object;"⟩) : Cond) ∈ W0 := q_mk 703 (by decide +kernel) (by decide +kernel)
theorem k_664 : ((Cond.code ⟨"java/util/ArrayList", "grow", "(I)[Ljava/lang/Object;"⟩ prog_35_method_6_code 4 (Option.some (FieldType.array (FieldType.object "java/lang/Object")))) : Cond) ∈ W0 := q_mk 704 (by decide +kernel) (by decide +kernel)
theorem k_665 : ((Cond.methodLink "java/util/ArrayList" 73 ⟨"jdk/internal/util/ArraysSupport", "newLength", "(III)I"⟩) : Cond) ∈ W0 := q_mk 705 (by decide +kernel) (by decide +kernel)
theorem k_666 : ((Cond.methodLink "java/util/ArrayList" 66 ⟨"java/util/Arrays", "copyOf", "([Ljava/lang/Object;I)[Ljava/lang/Object;"⟩) : Cond) ∈ W0 := q_mk 706 (by decide +kernel) (by decide +kernel)
theorem k_667 : ((Cond.static ⟨"java/util/Arrays", "copyOf", "([Ljava/lang/Object;I)[Ljava/lang/Object;"⟩) : Cond) ∈ W0 := q_mk 707 (by decide +kernel) (by decide +kernel)
theorem k_668 : ((Cond.code ⟨"java/util/Arrays", "copyOf", "([Ljava/lang/Object;I)[Ljava/lang/Object;"⟩ prog_36_method_119_code 2 (Option.some (FieldType.array (FieldType.object "java/lang/Object")))) : Cond) ∈ W0 := q_mk 708 (by decide +kernel) (by decide +kernel)
theorem k_669 : ((Cond.methodLink "java/util/Arrays" 86 ⟨"java/lang/Object", "getClass", "()Ljava/lang/Class;"⟩) : Cond) ∈ W0 := q_mk 709 (by decide +kernel) (by decide +kernel)
theorem k_670 : ((Cond.instanceMethod ⟨"java/lang/Object", "getClass", "()Ljava/lang/Class;"⟩) : Cond) ∈ W0 := q_mk 710 (by decide +kernel) (by decide +kernel)
theorem k_671 : ((Cond.sameMethod "java/lang/Object" "java/lang/Object" "getClass" "()Ljava/lang/Class;") : Cond) ∈ W0 := q_mk 711 (by decide +kernel) (by decide +kernel)
theorem k_672 : ((Cond.selects "Invoicebridge" ⟨"java/lang/Object", "getClass", "()Ljava/lang/Class;"⟩ ⟨"java/lang/Object", "getClass", "()Ljava/lang/Class;"⟩) : Cond) ∈ W0 := q_mk 712 (by decide +kernel) (by decide +kernel)
theorem k_673 : ((Cond.selects "Invoicebridge$Credit" ⟨"java/lang/Object", "getClass", "()Ljava/lang/Class;"⟩ ⟨"java/lang/Object", "getClass", "()Ljava/lang/Class;"⟩) : Cond) ∈ W0 := q_mk 713 (by decide +kernel) (by decide +kernel)
theorem k_674 : ((Cond.selects "Invoicebridge$Document" ⟨"java/lang/Object", "getClass", "()Ljava/lang/Class;"⟩ ⟨"java/lang/Object", "getClass", "()Ljava/lang/Class;"⟩) : Cond) ∈ W0 := q_mk 714 (by decide +kernel) (by decide +kernel)
theorem k_675 : ((Cond.selects "Invoicebridge$Invoice" ⟨"java/lang/Object", "getClass", "()Ljava/lang/Class;"⟩ ⟨"java/lang/Object", "getClass", "()Ljava/lang/Class;"⟩) : Cond) ∈ W0 := q_mk 715 (by decide +kernel) (by decide +kernel)
theorem k_676 : ((Cond.selects "Invoicebridge$Line" ⟨"java/lang/Object", "getClass", "()Ljava/lang/Class;"⟩ ⟨"java/lang/Object", "getClass", "()Ljava/lang/Class;"⟩) : Cond) ∈ W0 := q_mk 716 (by decide +kernel) (by decide +kernel)
theorem k_677 : ((Cond.selects "InvoicebridgeModel" ⟨"java/lang/Object", "getClass", "()Ljava/lang/Class;"⟩ ⟨"java/lang/Object", "getClass", "()Ljava/lang/Class;"⟩) : Cond) ∈ W0 := q_mk 717 (by decide +kernel) (by decide +kernel)
theorem k_678 : ((Cond.selects "java/lang/ArrayIndexOutOfBoundsException" ⟨"java/lang/Object", "getClass", "()Ljava/lang/Class;"⟩ ⟨"java/lang/Object", "getClass", "()Ljava/lang/Class;"⟩) : Cond) ∈ W0 := q_mk 718 (by decide +kernel) (by decide +kernel)
theorem k_679 : ((Cond.selects "java/lang/IllegalArgumentException" ⟨"java/lang/Object", "getClass", "()Ljava/lang/Class;"⟩ ⟨"java/lang/Object", "getClass", "()Ljava/lang/Class;"⟩) : Cond) ∈ W0 := q_mk 719 (by decide +kernel) (by decide +kernel)
theorem k_680 : ((Cond.selects "java/lang/IllegalStateException" ⟨"java/lang/Object", "getClass", "()Ljava/lang/Class;"⟩ ⟨"java/lang/Object", "getClass", "()Ljava/lang/Class;"⟩) : Cond) ∈ W0 := q_mk 720 (by decide +kernel) (by decide +kernel)
theorem k_681 : ((Cond.selects "java/lang/IndexOutOfBoundsException" ⟨"java/lang/Object", "getClass", "()Ljava/lang/Class;"⟩ ⟨"java/lang/Object", "getClass", "()Ljava/lang/Class;"⟩) : Cond) ∈ W0 := q_mk 721 (by decide +kernel) (by decide +kernel)
theorem k_682 : ((Cond.selects "java/lang/String" ⟨"java/lang/Object", "getClass", "()Ljava/lang/Class;"⟩ ⟨"java/lang/Object", "getClass", "()Ljava/lang/Class;"⟩) : Cond) ∈ W0 := q_mk 722 (by decide +kernel) (by decide +kernel)
theorem k_683 : ((Cond.selects "java/lang/StringBuilder" ⟨"java/lang/Object", "getClass", "()Ljava/lang/Class;"⟩ ⟨"java/lang/Object", "getClass", "()Ljava/lang/Class;"⟩) : Cond) ∈ W0 := q_mk 723 (by decide +kernel) (by decide +kernel)
theorem k_684 : ((Cond.selects "java/lang/StringIndexOutOfBoundsException" ⟨"java/lang/Object", "getClass", "()Ljava/lang/Class;"⟩ ⟨"java/lang/Object", "getClass", "()Ljava/lang/Class;"⟩) : Cond) ∈ W0 := q_mk 724 (by decide +kernel) (by decide +kernel)
theorem k_685 : ((Cond.selects "java/util/ArrayList" ⟨"java/lang/Object", "getClass", "()Ljava/lang/Class;"⟩ ⟨"java/lang/Object", "getClass", "()Ljava/lang/Class;"⟩) : Cond) ∈ W0 := q_mk 725 (by decide +kernel) (by decide +kernel)
theorem k_686 : ((Cond.native ⟨"java/lang/Object", "getClass", "()Ljava/lang/Class;"⟩) : Cond) ∈ W0 := q_mk 726 (by decide +kernel) (by decide +kernel)
theorem k_687 : ((Cond.methodLink "java/util/Arrays" 300 ⟨"java/util/Arrays", "copyOf", "([Ljava/lang/Object;ILjava/lang/Class;)[Ljava/lang/Object;"⟩) : Cond) ∈ W0 := q_mk 727 (by decide +kernel) (by decide +kernel)
theorem k_688 : ((Cond.static ⟨"java/util/Arrays", "copyOf", "([Ljava/lang/Object;ILjava/lang/Class;)[Ljava/lang/Object;"⟩) : Cond) ∈ W0 := q_mk 728 (by decide +kernel) (by decide +kernel)
theorem k_689 : ((Cond.code ⟨"java/util/Arrays", "copyOf", "([Ljava/lang/Object;ILjava/lang/Class;)[Ljava/lang/Object;"⟩ prog_36_method_120_code 4 (Option.some (FieldType.array (FieldType.object "java/lang/Object")))) : Cond) ∈ W0 := q_mk 729 (by decide +kernel) (by decide +kernel)
theorem k_690 : ((Cond.classLink "java/util/Arrays" 110 "[Ljava/lang/Object;") : Cond) ∈ W0 := q_mk 730 (by decide +kernel) (by decide +kernel)
theorem k_692 : ((Cond.classLink "java/util/Arrays" 2 "java/lang/Object") : Cond) ∈ W0 := q_mk 732 (by decide +kernel) (by decide +kernel)
theorem k_693 : ((Cond.methodLink "java/util/ArrayList" 79 ⟨"java/lang/Math", "max", "(II)I"⟩) : Cond) ∈ W0 := q_mk 733 (by decide +kernel) (by decide +kernel)
theorem k_694 : ((Cond.classLink "java/util/ArrayList" 7 "java/lang/Object") : Cond) ∈ W0 := q_mk 734 (by decide +kernel) (by decide +kernel)
theorem k_695 : ((Cond.methodLink "InvoicebridgeLaw" 101 ⟨"InvoicebridgeLaw", "addLine", "(LInvoicebridge;III[J)I"⟩) : Cond) ∈ W0 := q_mk 735 (by decide +kernel) (by decide +kernel)
theorem k_696 : ((Cond.static ⟨"InvoicebridgeLaw", "addLine", "(LInvoicebridge;III[J)I"⟩) : Cond) ∈ W0 := q_mk 736 (by decide +kernel) (by decide +kernel)
theorem k_697 : ((Cond.codeWith ⟨"InvoicebridgeLaw", "addLine", "(LInvoicebridge;III[J)I"⟩ method_4_code 6 (some .int) [(0, 12, 15, 13), (0, 12, 19, 15), (0, 12, 23, 17)]) : Cond) ∈ W0 := q_mk 737 (by decide +kernel) (by decide +kernel)
theorem k_698 : ((Cond.methodLink "InvoicebridgeLaw" 19 ⟨"Invoicebridge", "addLine", "(III)I"⟩) : Cond) ∈ W0 := q_mk 738 (by decide +kernel) (by decide +kernel)
theorem k_699 : ((Cond.instanceMethod ⟨"Invoicebridge", "addLine", "(III)I"⟩) : Cond) ∈ W0 := q_mk 739 (by decide +kernel) (by decide +kernel)
theorem k_700 : ((Cond.selects "Invoicebridge" ⟨"Invoicebridge", "addLine", "(III)I"⟩ ⟨"Invoicebridge", "addLine", "(III)I"⟩) : Cond) ∈ W0 := q_mk 740 (by decide +kernel) (by decide +kernel)
theorem k_701 : ((Cond.code ⟨"Invoicebridge", "addLine", "(III)I"⟩ prog_1_method_3_code 5 (some .int)) : Cond) ∈ W0 := q_mk 741 (by decide +kernel) (by decide +kernel)
theorem k_702 : ((Cond.methodLink "Invoicebridge" 81 ⟨"Invoicebridge", "invoiceAt", "(I)LInvoicebridge$Invoice;"⟩) : Cond) ∈ W0 := q_mk 742 (by decide +kernel) (by decide +kernel)
theorem k_704 : ((Cond.instanceMethod ⟨"Invoicebridge", "invoiceAt", "(I)LInvoicebridge$Invoice;"⟩) : Cond) ∈ W0 := q_mk 744 (by decide +kernel) (by decide +kernel)
theorem k_705 : ((Cond.code ⟨"Invoicebridge", "invoiceAt", "(I)LInvoicebridge$Invoice;"⟩ prog_1_method_38_code 2 (Option.some (FieldType.object "Invoicebridge$Invoice"))) : Cond) ∈ W0 := q_mk 745 (by decide +kernel) (by decide +kernel)
theorem k_707 : ((Cond.methodLink "Invoicebridge" 208 ⟨"java/util/ArrayList", "get", "(I)Ljava/lang/Object;"⟩) : Cond) ∈ W0 := q_mk 747 (by decide +kernel) (by decide +kernel)
theorem k_708 : ((Cond.instanceMethod ⟨"java/util/ArrayList", "get", "(I)Ljava/lang/Object;"⟩) : Cond) ∈ W0 := q_mk 748 (by decide +kernel) (by decide +kernel)
theorem k_709 : ((Cond.selects "java/util/ArrayList" ⟨"java/util/ArrayList", "get", "(I)Ljava/lang/Object;"⟩ ⟨"java/util/ArrayList", "get", "(I)Ljava/lang/Object;"⟩) : Cond) ∈ W0 := q_mk 749 (by decide +kernel) (by decide +kernel)
theorem k_710 : ((Cond.code ⟨"java/util/ArrayList", "get", "(I)Ljava/lang/Object;"⟩ prog_35_method_20_code 2 (Option.some (FieldType.object "java/lang/Object"))) : Cond) ∈ W0 := q_mk 750 (by decide +kernel) (by decide +kernel)
theorem k_711 : ((Cond.methodLink "java/util/ArrayList" 118 ⟨"java/util/Objects", "checkIndex", "(II)I"⟩) : Cond) ∈ W0 := q_mk 751 (by decide +kernel) (by decide +kernel)
theorem k_712 : ((Cond.static ⟨"java/util/Objects", "checkIndex", "(II)I"⟩) : Cond) ∈ W0 := q_mk 752 (by decide +kernel) (by decide +kernel)
theorem k_713 : ((Cond.code ⟨"java/util/Objects", "checkIndex", "(II)I"⟩ prog_39_method_17_code 2 (some .int)) : Cond) ∈ W0 := q_mk 753 (by decide +kernel) (by decide +kernel)
theorem k_714 : ((Cond.methodLink "java/util/Objects" 105 ⟨"jdk/internal/util/Preconditions", "checkIndex", "(IILjava/util/function/BiFunction;)I"⟩) : Cond) ∈ W0 := q_mk 754 (by decide +kernel) (by decide +kernel)
theorem k_715 : ((Cond.methodLink "java/util/ArrayList" 123 ⟨"java/util/ArrayList", "elementData", "(I)Ljava/lang/Object;"⟩) : Cond) ∈ W0 := q_mk 755 (by decide +kernel) (by decide +kernel)
theorem k_716 : ((Cond.instanceMethod ⟨"java/util/ArrayList", "elementData", "(I)Ljava/lang/Object;"⟩) : Cond) ∈ W0 := q_mk 756 (by decide +kernel) (by decide +kernel)
theorem k_717 : ((Cond.selects "java/util/ArrayList" ⟨"java/util/ArrayList", "elementData", "(I)Ljava/lang/Object;"⟩ ⟨"java/util/ArrayList", "elementData", "(I)Ljava/lang/Object;"⟩) : Cond) ∈ W0 := q_mk 757 (by decide +kernel) (by decide +kernel)
theorem k_718 : ((Cond.code ⟨"java/util/ArrayList", "elementData", "(I)Ljava/lang/Object;"⟩ prog_35_method_18_code 2 (Option.some (FieldType.object "java/lang/Object"))) : Cond) ∈ W0 := q_mk 758 (by decide +kernel) (by decide +kernel)
theorem k_719 : ((Cond.methodLink "Invoicebridge" 85 ⟨"Invoicebridge", "checkSent", "(LInvoicebridge$Invoice;)V"⟩) : Cond) ∈ W0 := q_mk 759 (by decide +kernel) (by decide +kernel)
theorem k_721 : ((Cond.instanceMethod ⟨"Invoicebridge", "checkSent", "(LInvoicebridge$Invoice;)V"⟩) : Cond) ∈ W0 := q_mk 761 (by decide +kernel) (by decide +kernel)
theorem k_722 : ((Cond.code ⟨"Invoicebridge", "checkSent", "(LInvoicebridge$Invoice;)V"⟩ prog_1_method_34_code 2 (none : Option FieldType)) : Cond) ∈ W0 := q_mk 762 (by decide +kernel) (by decide +kernel)
theorem k_727 : ((Cond.methodLink "InvoicebridgeLaw" 105 ⟨"InvoicebridgeLaw", "accept", "(LInvoicebridge;I[J)I"⟩) : Cond) ∈ W0 := q_mk 767 (by decide +kernel) (by decide +kernel)
theorem k_728 : ((Cond.static ⟨"InvoicebridgeLaw", "accept", "(LInvoicebridge;I[J)I"⟩) : Cond) ∈ W0 := q_mk 768 (by decide +kernel) (by decide +kernel)
theorem k_729 : ((Cond.codeWith ⟨"InvoicebridgeLaw", "accept", "(LInvoicebridge;I[J)I"⟩ method_5_code 4 (some .int) [(0, 9, 12, 13), (0, 9, 15, 17)]) : Cond) ∈ W0 := q_mk 769 (by decide +kernel) (by decide +kernel)
theorem k_730 : ((Cond.methodLink "InvoicebridgeLaw" 23 ⟨"Invoicebridge", "accept", "(I)I"⟩) : Cond) ∈ W0 := q_mk 770 (by decide +kernel) (by decide +kernel)
theorem k_731 : ((Cond.instanceMethod ⟨"Invoicebridge", "accept", "(I)I"⟩) : Cond) ∈ W0 := q_mk 771 (by decide +kernel) (by decide +kernel)
theorem k_732 : ((Cond.selects "Invoicebridge" ⟨"Invoicebridge", "accept", "(I)I"⟩ ⟨"Invoicebridge", "accept", "(I)I"⟩) : Cond) ∈ W0 := q_mk 772 (by decide +kernel) (by decide +kernel)
theorem k_733 : ((Cond.code ⟨"Invoicebridge", "accept", "(I)I"⟩ prog_1_method_4_code 3 (some .int)) : Cond) ∈ W0 := q_mk 773 (by decide +kernel) (by decide +kernel)
theorem k_734 : ((Cond.methodLink "Invoicebridge" 108 ⟨"Invoicebridge$Invoice", "owedNow", "()I"⟩) : Cond) ∈ W0 := q_mk 774 (by decide +kernel) (by decide +kernel)
theorem k_735 : ((Cond.instanceMethod ⟨"Invoicebridge$Invoice", "owedNow", "()I"⟩) : Cond) ∈ W0 := q_mk 775 (by decide +kernel) (by decide +kernel)
theorem k_736 : ((Cond.selects "Invoicebridge$Invoice" ⟨"Invoicebridge$Invoice", "owedNow", "()I"⟩ ⟨"Invoicebridge$Invoice", "owedNow", "()I"⟩) : Cond) ∈ W0 := q_mk 776 (by decide +kernel) (by decide +kernel)
theorem k_737 : ((Cond.code ⟨"Invoicebridge$Invoice", "owedNow", "()I"⟩ prog_4_method_4_code 4 (some .int)) : Cond) ∈ W0 := q_mk 777 (by decide +kernel) (by decide +kernel)
theorem k_738 : ((Cond.methodLink "Invoicebridge$Invoice" 53 ⟨"java/util/ArrayList", "size", "()I"⟩) : Cond) ∈ W0 := q_mk 778 (by decide +kernel) (by decide +kernel)
theorem k_739 : ((Cond.methodLink "Invoicebridge$Invoice" 57 ⟨"java/util/ArrayList", "get", "(I)Ljava/lang/Object;"⟩) : Cond) ∈ W0 := q_mk 779 (by decide +kernel) (by decide +kernel)
theorem k_740 : ((Cond.classLink "Invoicebridge$Invoice" 61 "Invoicebridge$Line") : Cond) ∈ W0 := q_mk 780 (by decide +kernel) (by decide +kernel)
theorem k_741 : ((Cond.methodLink "Invoicebridge$Invoice" 63 ⟨"Invoicebridge$Line", "costNow", "()I"⟩) : Cond) ∈ W0 := q_mk 781 (by decide +kernel) (by decide +kernel)
theorem k_742 : ((Cond.instanceMethod ⟨"Invoicebridge$Line", "costNow", "()I"⟩) : Cond) ∈ W0 := q_mk 782 (by decide +kernel) (by decide +kernel)
theorem k_743 : ((Cond.selects "Invoicebridge$Line" ⟨"Invoicebridge$Line", "costNow", "()I"⟩ ⟨"Invoicebridge$Line", "costNow", "()I"⟩) : Cond) ∈ W0 := q_mk 783 (by decide +kernel) (by decide +kernel)
theorem k_744 : ((Cond.code ⟨"Invoicebridge$Line", "costNow", "()I"⟩ prog_5_method_4_code 1 (some .int)) : Cond) ∈ W0 := q_mk 784 (by decide +kernel) (by decide +kernel)
theorem k_745 : ((Cond.methodLink "Invoicebridge$Line" 29 ⟨"Invoicebridge$Line", "taxNow", "()I"⟩) : Cond) ∈ W0 := q_mk 785 (by decide +kernel) (by decide +kernel)
theorem k_746 : ((Cond.instanceMethod ⟨"Invoicebridge$Line", "taxNow", "()I"⟩) : Cond) ∈ W0 := q_mk 786 (by decide +kernel) (by decide +kernel)
theorem k_747 : ((Cond.selects "Invoicebridge$Line" ⟨"Invoicebridge$Line", "taxNow", "()I"⟩ ⟨"Invoicebridge$Line", "taxNow", "()I"⟩) : Cond) ∈ W0 := q_mk 787 (by decide +kernel) (by decide +kernel)
theorem k_748 : ((Cond.code ⟨"Invoicebridge$Line", "taxNow", "()I"⟩ prog_5_method_2_code 1 (some .int)) : Cond) ∈ W0 := q_mk 788 (by decide +kernel) (by decide +kernel)
theorem k_750 : ((Cond.static ⟨"Invoicebridge", "taxOf", "(II)I"⟩) : Cond) ∈ W0 := q_mk 790 (by decide +kernel) (by decide +kernel)
theorem k_751 : ((Cond.code ⟨"Invoicebridge", "taxOf", "(II)I"⟩ prog_1_method_51_code 2 (some .int)) : Cond) ∈ W0 := q_mk 791 (by decide +kernel) (by decide +kernel)
theorem k_752 : ((Cond.methodLink "Invoicebridge$Invoice" 69 ⟨"java/lang/Math", "max", "(II)I"⟩) : Cond) ∈ W0 := q_mk 792 (by decide +kernel) (by decide +kernel)
theorem k_753 : ((Cond.methodLink "InvoicebridgeLaw" 109 ⟨"InvoicebridgeLaw", "refuse", "(LInvoicebridge;I[J)I"⟩) : Cond) ∈ W0 := q_mk 793 (by decide +kernel) (by decide +kernel)
theorem k_754 : ((Cond.static ⟨"InvoicebridgeLaw", "refuse", "(LInvoicebridge;I[J)I"⟩) : Cond) ∈ W0 := q_mk 794 (by decide +kernel) (by decide +kernel)
theorem k_755 : ((Cond.codeWith ⟨"InvoicebridgeLaw", "refuse", "(LInvoicebridge;I[J)I"⟩ method_6_code 4 (some .int) [(0, 9, 12, 13), (0, 9, 15, 17)]) : Cond) ∈ W0 := q_mk 795 (by decide +kernel) (by decide +kernel)
theorem k_756 : ((Cond.methodLink "InvoicebridgeLaw" 27 ⟨"Invoicebridge", "refuse", "(I)I"⟩) : Cond) ∈ W0 := q_mk 796 (by decide +kernel) (by decide +kernel)
theorem k_757 : ((Cond.instanceMethod ⟨"Invoicebridge", "refuse", "(I)I"⟩) : Cond) ∈ W0 := q_mk 797 (by decide +kernel) (by decide +kernel)
theorem k_758 : ((Cond.selects "Invoicebridge" ⟨"Invoicebridge", "refuse", "(I)I"⟩ ⟨"Invoicebridge", "refuse", "(I)I"⟩) : Cond) ∈ W0 := q_mk 798 (by decide +kernel) (by decide +kernel)
theorem k_759 : ((Cond.code ⟨"Invoicebridge", "refuse", "(I)I"⟩ prog_1_method_5_code 3 (some .int)) : Cond) ∈ W0 := q_mk 799 (by decide +kernel) (by decide +kernel)
theorem k_760 : ((Cond.methodLink "Invoicebridge" 111 ⟨"Invoicebridge$Invoice", "costNow", "()I"⟩) : Cond) ∈ W0 := q_mk 800 (by decide +kernel) (by decide +kernel)
theorem k_761 : ((Cond.instanceMethod ⟨"Invoicebridge$Invoice", "costNow", "()I"⟩) : Cond) ∈ W0 := q_mk 801 (by decide +kernel) (by decide +kernel)
theorem k_762 : ((Cond.selects "Invoicebridge$Invoice" ⟨"Invoicebridge$Invoice", "costNow", "()I"⟩ ⟨"Invoicebridge$Invoice", "costNow", "()I"⟩) : Cond) ∈ W0 := q_mk 802 (by decide +kernel) (by decide +kernel)
theorem k_763 : ((Cond.code ⟨"Invoicebridge$Invoice", "costNow", "()I"⟩ prog_4_method_3_code 3 (some .int)) : Cond) ∈ W0 := q_mk 803 (by decide +kernel) (by decide +kernel)
theorem k_764 : ((Cond.methodLink "InvoicebridgeLaw" 112 ⟨"InvoicebridgeLaw", "credit", "(LInvoicebridge;III[J)I"⟩) : Cond) ∈ W0 := q_mk 804 (by decide +kernel) (by decide +kernel)
theorem k_765 : ((Cond.static ⟨"InvoicebridgeLaw", "credit", "(LInvoicebridge;III[J)I"⟩) : Cond) ∈ W0 := q_mk 805 (by decide +kernel) (by decide +kernel)
theorem k_766 : ((Cond.codeWith ⟨"InvoicebridgeLaw", "credit", "(LInvoicebridge;III[J)I"⟩ method_7_code 6 (some .int) [(0, 12, 15, 13), (0, 12, 19, 15), (0, 12, 23, 17)]) : Cond) ∈ W0 := q_mk 806 (by decide +kernel) (by decide +kernel)
theorem k_767 : ((Cond.methodLink "InvoicebridgeLaw" 30 ⟨"Invoicebridge", "credit", "(III)I"⟩) : Cond) ∈ W0 := q_mk 807 (by decide +kernel) (by decide +kernel)
theorem k_768 : ((Cond.instanceMethod ⟨"Invoicebridge", "credit", "(III)I"⟩) : Cond) ∈ W0 := q_mk 808 (by decide +kernel) (by decide +kernel)
theorem k_769 : ((Cond.selects "Invoicebridge" ⟨"Invoicebridge", "credit", "(III)I"⟩ ⟨"Invoicebridge", "credit", "(III)I"⟩) : Cond) ∈ W0 := q_mk 809 (by decide +kernel) (by decide +kernel)
theorem k_770 : ((Cond.code ⟨"Invoicebridge", "credit", "(III)I"⟩ prog_1_method_6_code 6 (some .int)) : Cond) ∈ W0 := q_mk 810 (by decide +kernel) (by decide +kernel)
theorem k_771 : ((Cond.methodLink "Invoicebridge" 114 ⟨"Invoicebridge", "lineAt", "(LInvoicebridge$Invoice;I)LInvoicebridge$Line;"⟩) : Cond) ∈ W0 := q_mk 811 (by decide +kernel) (by decide +kernel)
theorem k_773 : ((Cond.instanceMethod ⟨"Invoicebridge", "lineAt", "(LInvoicebridge$Invoice;I)LInvoicebridge$Line;"⟩) : Cond) ∈ W0 := q_mk 813 (by decide +kernel) (by decide +kernel)
theorem k_774 : ((Cond.code ⟨"Invoicebridge", "lineAt", "(LInvoicebridge$Invoice;I)LInvoicebridge$Line;"⟩ prog_1_method_39_code 3 (Option.some (FieldType.object "Invoicebridge$Line"))) : Cond) ∈ W0 := q_mk 814 (by decide +kernel) (by decide +kernel)
theorem k_778 : ((Cond.methodLink "Invoicebridge" 128 ⟨"Invoicebridge", "checkRoomForCredit", "()V"⟩) : Cond) ∈ W0 := q_mk 818 (by decide +kernel) (by decide +kernel)
theorem k_780 : ((Cond.instanceMethod ⟨"Invoicebridge", "checkRoomForCredit", "()V"⟩) : Cond) ∈ W0 := q_mk 820 (by decide +kernel) (by decide +kernel)
theorem k_781 : ((Cond.code ⟨"Invoicebridge", "checkRoomForCredit", "()V"⟩ prog_1_method_36_code 1 (none : Option FieldType)) : Cond) ∈ W0 := q_mk 821 (by decide +kernel) (by decide +kernel)
theorem k_783 : ((Cond.methodLink "Invoicebridge" 131 ⟨"Invoicebridge", "makeCredit", "(LInvoicebridge$Invoice;LInvoicebridge$Line;I)V"⟩) : Cond) ∈ W0 := q_mk 823 (by decide +kernel) (by decide +kernel)
theorem k_785 : ((Cond.instanceMethod ⟨"Invoicebridge", "makeCredit", "(LInvoicebridge$Invoice;LInvoicebridge$Line;I)V"⟩) : Cond) ∈ W0 := q_mk 825 (by decide +kernel) (by decide +kernel)
theorem k_786 : ((Cond.code ⟨"Invoicebridge", "makeCredit", "(LInvoicebridge$Invoice;LInvoicebridge$Line;I)V"⟩ prog_1_method_40_code 5 (none : Option FieldType)) : Cond) ∈ W0 := q_mk 826 (by decide +kernel) (by decide +kernel)
theorem k_787 : ((Cond.methodLink "Invoicebridge" 241 ⟨"Invoicebridge$Line", "taxNow", "()I"⟩) : Cond) ∈ W0 := q_mk 827 (by decide +kernel) (by decide +kernel)
theorem k_788 : ((Cond.classLink "Invoicebridge" 307 "Invoicebridge$Credit") : Cond) ∈ W0 := q_mk 828 (by decide +kernel) (by decide +kernel)
theorem k_789 : ((Cond.instantiable "Invoicebridge$Credit" 3) : Cond) ∈ W0 := q_mk 829 (by decide +kernel) (by decide +kernel)
theorem k_790 : ((Cond.methodLink "Invoicebridge" 226 ⟨"Invoicebridge", "monthOf", "(I)I"⟩) : Cond) ∈ W0 := q_mk 830 (by decide +kernel) (by decide +kernel)
theorem k_791 : ((Cond.static ⟨"Invoicebridge", "monthOf", "(I)I"⟩) : Cond) ∈ W0 := q_mk 831 (by decide +kernel) (by decide +kernel)
theorem k_792 : ((Cond.code ⟨"Invoicebridge", "monthOf", "(I)I"⟩ prog_1_method_50_code 1 (some .int)) : Cond) ∈ W0 := q_mk 832 (by decide +kernel) (by decide +kernel)
theorem k_793 : ((Cond.methodLink "Invoicebridge" 309 ⟨"Invoicebridge$Credit", "<init>", "(LInvoicebridge$Invoice;II)V"⟩) : Cond) ∈ W0 := q_mk 833 (by decide +kernel) (by decide +kernel)
theorem k_794 : ((Cond.instanceMethod ⟨"Invoicebridge$Credit", "<init>", "(LInvoicebridge$Invoice;II)V"⟩) : Cond) ∈ W0 := q_mk 834 (by decide +kernel) (by decide +kernel)
theorem k_795 : ((Cond.code ⟨"Invoicebridge$Credit", "<init>", "(LInvoicebridge$Invoice;II)V"⟩ prog_2_method_1_code 4 (none : Option FieldType)) : Cond) ∈ W0 := q_mk 835 (by decide +kernel) (by decide +kernel)
theorem k_796 : ((Cond.methodLink "Invoicebridge$Credit" 3 ⟨"java/lang/Object", "<init>", "()V"⟩) : Cond) ∈ W0 := q_mk 836 (by decide +kernel) (by decide +kernel)
theorem k_797 : ((Cond.fieldLink "Invoicebridge$Credit" 9 "Invoicebridge$Credit" "invoice" "LInvoicebridge$Invoice;") : Cond) ∈ W0 := q_mk 837 (by decide +kernel) (by decide +kernel)
theorem k_798 : ((Cond.fieldLink "Invoicebridge$Credit" 15 "Invoicebridge$Credit" "month" "I") : Cond) ∈ W0 := q_mk 838 (by decide +kernel) (by decide +kernel)
theorem k_799 : ((Cond.fieldLink "Invoicebridge$Credit" 19 "Invoicebridge$Credit" "taxLess" "I") : Cond) ∈ W0 := q_mk 839 (by decide +kernel) (by decide +kernel)
theorem k_800 : ((Cond.laysFinal "Invoicebridge$Credit" "Invoicebridge$Credit" "invoice" "LInvoicebridge$Invoice;") : Cond) ∈ W0 := q_mk 840 (by decide +kernel) (by decide +kernel)
theorem k_802 : ((Cond.laysFinal "Invoicebridge$Credit" "Invoicebridge$Credit" "month" "I") : Cond) ∈ W0 := q_mk 842 (by decide +kernel) (by decide +kernel)
theorem k_804 : ((Cond.laysFinal "Invoicebridge$Credit" "Invoicebridge$Credit" "taxLess" "I") : Cond) ∈ W0 := q_mk 844 (by decide +kernel) (by decide +kernel)
theorem k_806 : ((Cond.superclass "Invoicebridge$Credit" "java/lang/Object") : Cond) ∈ W0 := q_mk 846 (by decide +kernel) (by decide +kernel)
theorem k_807 : ((Cond.methodLink "InvoicebridgeLaw" 115 ⟨"InvoicebridgeLaw", "dispute", "(LInvoicebridge;II[J)I"⟩) : Cond) ∈ W0 := q_mk 847 (by decide +kernel) (by decide +kernel)
theorem k_808 : ((Cond.static ⟨"InvoicebridgeLaw", "dispute", "(LInvoicebridge;II[J)I"⟩) : Cond) ∈ W0 := q_mk 848 (by decide +kernel) (by decide +kernel)
theorem k_809 : ((Cond.codeWith ⟨"InvoicebridgeLaw", "dispute", "(LInvoicebridge;II[J)I"⟩ method_8_code 5 (some .int) [(0, 10, 13, 13), (0, 10, 17, 17)]) : Cond) ∈ W0 := q_mk 849 (by decide +kernel) (by decide +kernel)
theorem k_810 : ((Cond.methodLink "InvoicebridgeLaw" 33 ⟨"Invoicebridge", "dispute", "(II)I"⟩) : Cond) ∈ W0 := q_mk 850 (by decide +kernel) (by decide +kernel)
theorem k_811 : ((Cond.instanceMethod ⟨"Invoicebridge", "dispute", "(II)I"⟩) : Cond) ∈ W0 := q_mk 851 (by decide +kernel) (by decide +kernel)
theorem k_812 : ((Cond.selects "Invoicebridge" ⟨"Invoicebridge", "dispute", "(II)I"⟩ ⟨"Invoicebridge", "dispute", "(II)I"⟩) : Cond) ∈ W0 := q_mk 852 (by decide +kernel) (by decide +kernel)
theorem k_813 : ((Cond.code ⟨"Invoicebridge", "dispute", "(II)I"⟩ prog_1_method_7_code 5 (some .int)) : Cond) ∈ W0 := q_mk 853 (by decide +kernel) (by decide +kernel)
theorem k_817 : ((Cond.methodLink "InvoicebridgeLaw" 119 ⟨"InvoicebridgeLaw", "settle", "(LInvoicebridge;IIZ[J)I"⟩) : Cond) ∈ W0 := q_mk 857 (by decide +kernel) (by decide +kernel)
theorem k_818 : ((Cond.static ⟨"InvoicebridgeLaw", "settle", "(LInvoicebridge;IIZ[J)I"⟩) : Cond) ∈ W0 := q_mk 858 (by decide +kernel) (by decide +kernel)
theorem k_819 : ((Cond.codeWith ⟨"InvoicebridgeLaw", "settle", "(LInvoicebridge;IIZ[J)I"⟩ method_9_code 6 (some .int) [(0, 12, 15, 13), (0, 12, 19, 17)]) : Cond) ∈ W0 := q_mk 859 (by decide +kernel) (by decide +kernel)
theorem k_820 : ((Cond.methodLink "InvoicebridgeLaw" 37 ⟨"Invoicebridge", "settle", "(IIZ)I"⟩) : Cond) ∈ W0 := q_mk 860 (by decide +kernel) (by decide +kernel)
theorem k_821 : ((Cond.instanceMethod ⟨"Invoicebridge", "settle", "(IIZ)I"⟩) : Cond) ∈ W0 := q_mk 861 (by decide +kernel) (by decide +kernel)
theorem k_822 : ((Cond.selects "Invoicebridge" ⟨"Invoicebridge", "settle", "(IIZ)I"⟩ ⟨"Invoicebridge", "settle", "(IIZ)I"⟩) : Cond) ∈ W0 := q_mk 862 (by decide +kernel) (by decide +kernel)
theorem k_823 : ((Cond.code ⟨"Invoicebridge", "settle", "(IIZ)I"⟩ prog_1_method_8_code 6 (some .int)) : Cond) ∈ W0 := q_mk 863 (by decide +kernel) (by decide +kernel)
theorem k_825 : ((Cond.methodLink "InvoicebridgeLaw" 123 ⟨"InvoicebridgeLaw", "sell", "(LInvoicebridge;IIIZ[J)I"⟩) : Cond) ∈ W0 := q_mk 865 (by decide +kernel) (by decide +kernel)
theorem k_826 : ((Cond.static ⟨"InvoicebridgeLaw", "sell", "(LInvoicebridge;IIIZ[J)I"⟩) : Cond) ∈ W0 := q_mk 866 (by decide +kernel) (by decide +kernel)
theorem k_827 : ((Cond.codeWith ⟨"InvoicebridgeLaw", "sell", "(LInvoicebridge;IIIZ[J)I"⟩ method_10_code 7 (some .int) [(0, 14, 17, 13), (0, 14, 21, 15), (0, 14, 25, 17)]) : Cond) ∈ W0 := q_mk 867 (by decide +kernel) (by decide +kernel)
theorem k_828 : ((Cond.methodLink "InvoicebridgeLaw" 41 ⟨"Invoicebridge", "sell", "(IIIZ)I"⟩) : Cond) ∈ W0 := q_mk 868 (by decide +kernel) (by decide +kernel)
theorem k_829 : ((Cond.instanceMethod ⟨"Invoicebridge", "sell", "(IIIZ)I"⟩) : Cond) ∈ W0 := q_mk 869 (by decide +kernel) (by decide +kernel)
theorem k_830 : ((Cond.selects "Invoicebridge" ⟨"Invoicebridge", "sell", "(IIIZ)I"⟩ ⟨"Invoicebridge", "sell", "(IIIZ)I"⟩) : Cond) ∈ W0 := q_mk 870 (by decide +kernel) (by decide +kernel)
theorem k_831 : ((Cond.code ⟨"Invoicebridge", "sell", "(IIIZ)I"⟩ prog_1_method_9_code 6 (some .int)) : Cond) ∈ W0 := q_mk 871 (by decide +kernel) (by decide +kernel)
theorem k_834 : ((Cond.methodLink "Invoicebridge" 156 ⟨"Invoicebridge", "checkOwed", "(LInvoicebridge$Invoice;)V"⟩) : Cond) ∈ W0 := q_mk 874 (by decide +kernel) (by decide +kernel)
theorem k_836 : ((Cond.instanceMethod ⟨"Invoicebridge", "checkOwed", "(LInvoicebridge$Invoice;)V"⟩) : Cond) ∈ W0 := q_mk 876 (by decide +kernel) (by decide +kernel)
theorem k_837 : ((Cond.code ⟨"Invoicebridge", "checkOwed", "(LInvoicebridge$Invoice;)V"⟩ prog_1_method_35_code 2 (none : Option FieldType)) : Cond) ∈ W0 := q_mk 877 (by decide +kernel) (by decide +kernel)
theorem k_840 : ((Cond.methodLink "Invoicebridge" 164 ⟨"Invoicebridge", "checkRoomForDocument", "()V"⟩) : Cond) ∈ W0 := q_mk 880 (by decide +kernel) (by decide +kernel)
theorem k_842 : ((Cond.instanceMethod ⟨"Invoicebridge", "checkRoomForDocument", "()V"⟩) : Cond) ∈ W0 := q_mk 882 (by decide +kernel) (by decide +kernel)
theorem k_843 : ((Cond.code ⟨"Invoicebridge", "checkRoomForDocument", "()V"⟩ prog_1_method_37_code 1 (none : Option FieldType)) : Cond) ∈ W0 := q_mk 883 (by decide +kernel) (by decide +kernel)
theorem k_845 : ((Cond.methodLink "Invoicebridge" 173 ⟨"Invoicebridge", "moveCash", "(III)V"⟩) : Cond) ∈ W0 := q_mk 885 (by decide +kernel) (by decide +kernel)
theorem k_847 : ((Cond.instanceMethod ⟨"Invoicebridge", "moveCash", "(III)V"⟩) : Cond) ∈ W0 := q_mk 887 (by decide +kernel) (by decide +kernel)
theorem k_848 : ((Cond.code ⟨"Invoicebridge", "moveCash", "(III)V"⟩ prog_1_method_42_code 4 (none : Option FieldType)) : Cond) ∈ W0 := q_mk 888 (by decide +kernel) (by decide +kernel)
theorem k_849 : ((Cond.classLink "Invoicebridge" 250 "Invoicebridge$Document") : Cond) ∈ W0 := q_mk 889 (by decide +kernel) (by decide +kernel)
theorem k_850 : ((Cond.instantiable "Invoicebridge$Document" 3) : Cond) ∈ W0 := q_mk 890 (by decide +kernel) (by decide +kernel)
theorem k_851 : ((Cond.methodLink "Invoicebridge" 312 ⟨"Invoicebridge$Document", "<init>", "(III)V"⟩) : Cond) ∈ W0 := q_mk 891 (by decide +kernel) (by decide +kernel)
theorem k_852 : ((Cond.instanceMethod ⟨"Invoicebridge$Document", "<init>", "(III)V"⟩) : Cond) ∈ W0 := q_mk 892 (by decide +kernel) (by decide +kernel)
theorem k_853 : ((Cond.code ⟨"Invoicebridge$Document", "<init>", "(III)V"⟩ prog_3_method_1_code 4 (none : Option FieldType)) : Cond) ∈ W0 := q_mk 893 (by decide +kernel) (by decide +kernel)
theorem k_854 : ((Cond.methodLink "Invoicebridge$Document" 1 ⟨"java/lang/Object", "<init>", "()V"⟩) : Cond) ∈ W0 := q_mk 894 (by decide +kernel) (by decide +kernel)
theorem k_855 : ((Cond.fieldLink "Invoicebridge$Document" 7 "Invoicebridge$Document" "from" "I") : Cond) ∈ W0 := q_mk 895 (by decide +kernel) (by decide +kernel)
theorem k_856 : ((Cond.fieldLink "Invoicebridge" 258 "Invoicebridge$Document" "from" "I") : Cond) ∈ W0 := q_mk 896 (by decide +kernel) (by decide +kernel)
theorem k_857 : ((Cond.fieldLink "Invoicebridge$Document" 13 "Invoicebridge$Document" "to" "I") : Cond) ∈ W0 := q_mk 897 (by decide +kernel) (by decide +kernel)
theorem k_858 : ((Cond.fieldLink "Invoicebridge" 252 "Invoicebridge$Document" "to" "I") : Cond) ∈ W0 := q_mk 898 (by decide +kernel) (by decide +kernel)
theorem k_859 : ((Cond.fieldLink "Invoicebridge$Document" 16 "Invoicebridge$Document" "cents" "I") : Cond) ∈ W0 := q_mk 899 (by decide +kernel) (by decide +kernel)
theorem k_860 : ((Cond.fieldLink "Invoicebridge" 255 "Invoicebridge$Document" "cents" "I") : Cond) ∈ W0 := q_mk 900 (by decide +kernel) (by decide +kernel)
theorem k_861 : ((Cond.laysFinal "Invoicebridge$Document" "Invoicebridge$Document" "from" "I") : Cond) ∈ W0 := q_mk 901 (by decide +kernel) (by decide +kernel)
theorem k_863 : ((Cond.laysFinal "Invoicebridge$Document" "Invoicebridge$Document" "to" "I") : Cond) ∈ W0 := q_mk 903 (by decide +kernel) (by decide +kernel)
theorem k_865 : ((Cond.laysFinal "Invoicebridge$Document" "Invoicebridge$Document" "cents" "I") : Cond) ∈ W0 := q_mk 905 (by decide +kernel) (by decide +kernel)
theorem k_867 : ((Cond.superclass "Invoicebridge$Document" "java/lang/Object") : Cond) ∈ W0 := q_mk 907 (by decide +kernel) (by decide +kernel)
theorem k_868 : ((Cond.methodLink "Invoicebridge" 314 ⟨"Invoicebridge", "addCash", "(II)V"⟩) : Cond) ∈ W0 := q_mk 908 (by decide +kernel) (by decide +kernel)
theorem k_870 : ((Cond.instanceMethod ⟨"Invoicebridge", "addCash", "(II)V"⟩) : Cond) ∈ W0 := q_mk 910 (by decide +kernel) (by decide +kernel)
theorem k_871 : ((Cond.code ⟨"Invoicebridge", "addCash", "(II)V"⟩ prog_1_method_43_code 3 (none : Option FieldType)) : Cond) ∈ W0 := q_mk 911 (by decide +kernel) (by decide +kernel)
theorem k_872 : ((Cond.methodLink "InvoicebridgeLaw" 127 ⟨"InvoicebridgeLaw", "giveBack", "(LInvoicebridge;I[J)I"⟩) : Cond) ∈ W0 := q_mk 912 (by decide +kernel) (by decide +kernel)
theorem k_873 : ((Cond.static ⟨"InvoicebridgeLaw", "giveBack", "(LInvoicebridge;I[J)I"⟩) : Cond) ∈ W0 := q_mk 913 (by decide +kernel) (by decide +kernel)
theorem k_874 : ((Cond.codeWith ⟨"InvoicebridgeLaw", "giveBack", "(LInvoicebridge;I[J)I"⟩ method_11_code 4 (some .int) [(0, 9, 12, 13), (0, 9, 15, 17)]) : Cond) ∈ W0 := q_mk 914 (by decide +kernel) (by decide +kernel)
theorem k_875 : ((Cond.methodLink "InvoicebridgeLaw" 45 ⟨"Invoicebridge", "giveBack", "(I)I"⟩) : Cond) ∈ W0 := q_mk 915 (by decide +kernel) (by decide +kernel)
theorem k_876 : ((Cond.instanceMethod ⟨"Invoicebridge", "giveBack", "(I)I"⟩) : Cond) ∈ W0 := q_mk 916 (by decide +kernel) (by decide +kernel)
theorem k_877 : ((Cond.selects "Invoicebridge" ⟨"Invoicebridge", "giveBack", "(I)I"⟩ ⟨"Invoicebridge", "giveBack", "(I)I"⟩) : Cond) ∈ W0 := q_mk 917 (by decide +kernel) (by decide +kernel)
theorem k_878 : ((Cond.code ⟨"Invoicebridge", "giveBack", "(I)I"⟩ prog_1_method_10_code 3 (some .int)) : Cond) ∈ W0 := q_mk 918 (by decide +kernel) (by decide +kernel)
theorem k_881 : ((Cond.methodLink "InvoicebridgeLaw" 130 ⟨"InvoicebridgeLaw", "type", "(LInvoicebridge;I[J)I"⟩) : Cond) ∈ W0 := q_mk 921 (by decide +kernel) (by decide +kernel)
theorem k_882 : ((Cond.static ⟨"InvoicebridgeLaw", "type", "(LInvoicebridge;I[J)I"⟩) : Cond) ∈ W0 := q_mk 922 (by decide +kernel) (by decide +kernel)
theorem k_883 : ((Cond.codeWith ⟨"InvoicebridgeLaw", "type", "(LInvoicebridge;I[J)I"⟩ method_12_code 4 (some .int) [(0, 9, 12, 15), (0, 9, 15, 17)]) : Cond) ∈ W0 := q_mk 923 (by decide +kernel) (by decide +kernel)
theorem k_884 : ((Cond.methodLink "InvoicebridgeLaw" 48 ⟨"Invoicebridge", "type", "(I)I"⟩) : Cond) ∈ W0 := q_mk 924 (by decide +kernel) (by decide +kernel)
theorem k_885 : ((Cond.instanceMethod ⟨"Invoicebridge", "type", "(I)I"⟩) : Cond) ∈ W0 := q_mk 925 (by decide +kernel) (by decide +kernel)
theorem k_886 : ((Cond.selects "Invoicebridge" ⟨"Invoicebridge", "type", "(I)I"⟩ ⟨"Invoicebridge", "type", "(I)I"⟩) : Cond) ∈ W0 := q_mk 926 (by decide +kernel) (by decide +kernel)
theorem k_887 : ((Cond.code ⟨"Invoicebridge", "type", "(I)I"⟩ prog_1_method_11_code 2 (some .int)) : Cond) ∈ W0 := q_mk 927 (by decide +kernel) (by decide +kernel)
theorem k_890 : ((Cond.methodLink "Invoicebridge" 188 ⟨"java/lang/StringBuilder", "append", "(C)Ljava/lang/StringBuilder;"⟩) : Cond) ∈ W0 := q_mk 930 (by decide +kernel) (by decide +kernel)
theorem k_891 : ((Cond.instanceMethod ⟨"java/lang/StringBuilder", "append", "(C)Ljava/lang/StringBuilder;"⟩) : Cond) ∈ W0 := q_mk 931 (by decide +kernel) (by decide +kernel)
theorem k_892 : ((Cond.selects "java/lang/StringBuilder" ⟨"java/lang/StringBuilder", "append", "(C)Ljava/lang/StringBuilder;"⟩ ⟨"java/lang/StringBuilder", "append", "(C)Ljava/lang/StringBuilder;"⟩) : Cond) ∈ W0 := q_mk 932 (by decide +kernel) (by decide +kernel)
theorem k_893 : ((Cond.code ⟨"java/lang/StringBuilder", "append", "(C)Ljava/lang/StringBuilder;"⟩ prog_25_method_14_code 2 (Option.some (FieldType.object "java/lang/StringBuilder"))) : Cond) ∈ W0 := q_mk 933 (by decide +kernel) (by decide +kernel)
theorem k_894 : ((Cond.methodLink "java/lang/StringBuilder" 50 ⟨"java/lang/AbstractStringBuilder", "append", "(C)Ljava/lang/AbstractStringBuilder;"⟩) : Cond) ∈ W0 := q_mk 934 (by decide +kernel) (by decide +kernel)
theorem k_895 : ((Cond.instanceMethod ⟨"java/lang/AbstractStringBuilder", "append", "(C)Ljava/lang/AbstractStringBuilder;"⟩) : Cond) ∈ W0 := q_mk 935 (by decide +kernel) (by decide +kernel)
theorem k_896 : ((Cond.code ⟨"java/lang/AbstractStringBuilder", "append", "(C)Ljava/lang/AbstractStringBuilder;"⟩ prog_9_method_31_code 2 (Option.some (FieldType.object "java/lang/AbstractStringBuilder"))) : Cond) ∈ W0 := q_mk 936 (by decide +kernel) (by decide +kernel)
theorem k_897 : ((Cond.methodLink "java/lang/AbstractStringBuilder" 191 ⟨"java/lang/StringLatin1", "canEncode", "(C)Z"⟩) : Cond) ∈ W0 := q_mk 937 (by decide +kernel) (by decide +kernel)
theorem k_898 : ((Cond.static ⟨"java/lang/StringLatin1", "canEncode", "(C)Z"⟩) : Cond) ∈ W0 := q_mk 938 (by decide +kernel) (by decide +kernel)
theorem k_899 : ((Cond.code ⟨"java/lang/StringLatin1", "canEncode", "(C)Z"⟩ prog_27_method_3_code 1 (some .boolean)) : Cond) ∈ W0 := q_mk 939 (by decide +kernel) (by decide +kernel)
theorem k_907 : ((Cond.methodLink "InvoicebridgeLaw" 141 ⟨"InvoicebridgeLaw", "payByText", "(LInvoicebridge;III[J)I"⟩) : Cond) ∈ W0 := q_mk 947 (by decide +kernel) (by decide +kernel)
theorem k_908 : ((Cond.static ⟨"InvoicebridgeLaw", "payByText", "(LInvoicebridge;III[J)I"⟩) : Cond) ∈ W0 := q_mk 948 (by decide +kernel) (by decide +kernel)
theorem k_909 : ((Cond.codeWith ⟨"InvoicebridgeLaw", "payByText", "(LInvoicebridge;III[J)I"⟩ method_13_code 6 (some .int) [(0, 12, 15, 13), (0, 12, 19, 15), (0, 12, 23, 17)]) : Cond) ∈ W0 := q_mk 949 (by decide +kernel) (by decide +kernel)
theorem k_910 : ((Cond.methodLink "InvoicebridgeLaw" 51 ⟨"Invoicebridge", "payByText", "(III)I"⟩) : Cond) ∈ W0 := q_mk 950 (by decide +kernel) (by decide +kernel)
theorem k_911 : ((Cond.instanceMethod ⟨"Invoicebridge", "payByText", "(III)I"⟩) : Cond) ∈ W0 := q_mk 951 (by decide +kernel) (by decide +kernel)
theorem k_912 : ((Cond.selects "Invoicebridge" ⟨"Invoicebridge", "payByText", "(III)I"⟩ ⟨"Invoicebridge", "payByText", "(III)I"⟩) : Cond) ∈ W0 := q_mk 952 (by decide +kernel) (by decide +kernel)
theorem k_913 : ((Cond.code ⟨"Invoicebridge", "payByText", "(III)I"⟩ prog_1_method_14_code 6 (some .int)) : Cond) ∈ W0 := q_mk 953 (by decide +kernel) (by decide +kernel)
theorem k_914 : ((Cond.methodLink "Invoicebridge" 198 ⟨"Invoicebridge", "checkPayment", "(III)V"⟩) : Cond) ∈ W0 := q_mk 954 (by decide +kernel) (by decide +kernel)
theorem k_916 : ((Cond.instanceMethod ⟨"Invoicebridge", "checkPayment", "(III)V"⟩) : Cond) ∈ W0 := q_mk 956 (by decide +kernel) (by decide +kernel)
theorem k_917 : ((Cond.code ⟨"Invoicebridge", "checkPayment", "(III)V"⟩ prog_1_method_33_code 4 (none : Option FieldType)) : Cond) ∈ W0 := q_mk 957 (by decide +kernel) (by decide +kernel)
theorem k_918 : ((Cond.constant "Invoicebridge" 294 (99999 : Int32)) : Cond) ∈ W0 := q_mk 958 (by decide +kernel) (by decide +kernel)
theorem k_921 : ((Cond.methodLink "Invoicebridge" 203 ⟨"Invoicebridge", "numberOfDraft", "()I"⟩) : Cond) ∈ W0 := q_mk 961 (by decide +kernel) (by decide +kernel)
theorem k_923 : ((Cond.instanceMethod ⟨"Invoicebridge", "numberOfDraft", "()I"⟩) : Cond) ∈ W0 := q_mk 963 (by decide +kernel) (by decide +kernel)
theorem k_924 : ((Cond.code ⟨"Invoicebridge", "numberOfDraft", "()I"⟩ prog_1_method_45_code 3 (some .int)) : Cond) ∈ W0 := q_mk 964 (by decide +kernel) (by decide +kernel)
theorem k_928 : ((Cond.methodLink "Invoicebridge" 218 ⟨"Invoicebridge", "takePayment", "(LInvoicebridge$Invoice;I)V"⟩) : Cond) ∈ W0 := q_mk 968 (by decide +kernel) (by decide +kernel)
theorem k_930 : ((Cond.instanceMethod ⟨"Invoicebridge", "takePayment", "(LInvoicebridge$Invoice;I)V"⟩) : Cond) ∈ W0 := q_mk 970 (by decide +kernel) (by decide +kernel)
theorem k_931 : ((Cond.code ⟨"Invoicebridge", "takePayment", "(LInvoicebridge$Invoice;I)V"⟩ prog_1_method_41_code 3 (none : Option FieldType)) : Cond) ∈ W0 := q_mk 971 (by decide +kernel) (by decide +kernel)
theorem k_932 : ((Cond.methodLink "InvoicebridgeLaw" 144 ⟨"InvoicebridgeLaw", "payBySum", "(LInvoicebridge;III[J)I"⟩) : Cond) ∈ W0 := q_mk 972 (by decide +kernel) (by decide +kernel)
theorem k_933 : ((Cond.static ⟨"InvoicebridgeLaw", "payBySum", "(LInvoicebridge;III[J)I"⟩) : Cond) ∈ W0 := q_mk 973 (by decide +kernel) (by decide +kernel)
theorem k_934 : ((Cond.codeWith ⟨"InvoicebridgeLaw", "payBySum", "(LInvoicebridge;III[J)I"⟩ method_14_code 6 (some .int) [(0, 12, 15, 13), (0, 12, 19, 15), (0, 12, 23, 17)]) : Cond) ∈ W0 := q_mk 974 (by decide +kernel) (by decide +kernel)
theorem k_935 : ((Cond.methodLink "InvoicebridgeLaw" 54 ⟨"Invoicebridge", "payBySum", "(III)I"⟩) : Cond) ∈ W0 := q_mk 975 (by decide +kernel) (by decide +kernel)
theorem k_936 : ((Cond.instanceMethod ⟨"Invoicebridge", "payBySum", "(III)I"⟩) : Cond) ∈ W0 := q_mk 976 (by decide +kernel) (by decide +kernel)
theorem k_937 : ((Cond.selects "Invoicebridge" ⟨"Invoicebridge", "payBySum", "(III)I"⟩ ⟨"Invoicebridge", "payBySum", "(III)I"⟩) : Cond) ∈ W0 := q_mk 977 (by decide +kernel) (by decide +kernel)
theorem k_938 : ((Cond.code ⟨"Invoicebridge", "payBySum", "(III)I"⟩ prog_1_method_15_code 6 (some .int)) : Cond) ∈ W0 := q_mk 978 (by decide +kernel) (by decide +kernel)
theorem k_939 : ((Cond.methodLink "InvoicebridgeLaw" 147 ⟨"InvoicebridgeLaw", "pass", "(LInvoicebridge;I[J)I"⟩) : Cond) ∈ W0 := q_mk 979 (by decide +kernel) (by decide +kernel)
theorem k_940 : ((Cond.static ⟨"InvoicebridgeLaw", "pass", "(LInvoicebridge;I[J)I"⟩) : Cond) ∈ W0 := q_mk 980 (by decide +kernel) (by decide +kernel)
theorem k_941 : ((Cond.codeWith ⟨"InvoicebridgeLaw", "pass", "(LInvoicebridge;I[J)I"⟩ method_15_code 4 (some .int) [(0, 9, 12, 15), (0, 9, 15, 17)]) : Cond) ∈ W0 := q_mk 981 (by decide +kernel) (by decide +kernel)
theorem k_942 : ((Cond.methodLink "InvoicebridgeLaw" 57 ⟨"Invoicebridge", "pass", "(I)I"⟩) : Cond) ∈ W0 := q_mk 982 (by decide +kernel) (by decide +kernel)
theorem k_943 : ((Cond.instanceMethod ⟨"Invoicebridge", "pass", "(I)I"⟩) : Cond) ∈ W0 := q_mk 983 (by decide +kernel) (by decide +kernel)
theorem k_944 : ((Cond.selects "Invoicebridge" ⟨"Invoicebridge", "pass", "(I)I"⟩ ⟨"Invoicebridge", "pass", "(I)I"⟩) : Cond) ∈ W0 := q_mk 984 (by decide +kernel) (by decide +kernel)
theorem k_945 : ((Cond.code ⟨"Invoicebridge", "pass", "(I)I"⟩ prog_1_method_16_code 2 (some .int)) : Cond) ∈ W0 := q_mk 985 (by decide +kernel) (by decide +kernel)
theorem k_948 : ((Cond.methodLink "InvoicebridgeLaw" 150 ⟨"InvoicebridgeLaw", "about", "(LInvoicebridge;II[J)I"⟩) : Cond) ∈ W0 := q_mk 988 (by decide +kernel) (by decide +kernel)
theorem k_949 : ((Cond.static ⟨"InvoicebridgeLaw", "about", "(LInvoicebridge;II[J)I"⟩) : Cond) ∈ W0 := q_mk 989 (by decide +kernel) (by decide +kernel)
theorem k_950 : ((Cond.codeWith ⟨"InvoicebridgeLaw", "about", "(LInvoicebridge;II[J)I"⟩ method_16_code 5 (some .int) [(0, 10, 13, 13), (0, 10, 17, 15)]) : Cond) ∈ W0 := q_mk 990 (by decide +kernel) (by decide +kernel)
theorem k_951 : ((Cond.methodLink "InvoicebridgeLaw" 60 ⟨"Invoicebridge", "about", "(II)I"⟩) : Cond) ∈ W0 := q_mk 991 (by decide +kernel) (by decide +kernel)
theorem k_952 : ((Cond.instanceMethod ⟨"Invoicebridge", "about", "(II)I"⟩) : Cond) ∈ W0 := q_mk 992 (by decide +kernel) (by decide +kernel)
theorem k_953 : ((Cond.selects "Invoicebridge" ⟨"Invoicebridge", "about", "(II)I"⟩ ⟨"Invoicebridge", "about", "(II)I"⟩) : Cond) ∈ W0 := q_mk 993 (by decide +kernel) (by decide +kernel)
theorem k_954 : ((Cond.code ⟨"Invoicebridge", "about", "(II)I"⟩ prog_1_method_17_code 4 (some .int)) : Cond) ∈ W0 := q_mk 994 (by decide +kernel) (by decide +kernel)
theorem k_955 : ((Cond.methodLink "Invoicebridge" 233 ⟨"Invoicebridge$Invoice", "taxNow", "()I"⟩) : Cond) ∈ W0 := q_mk 995 (by decide +kernel) (by decide +kernel)
theorem k_956 : ((Cond.instanceMethod ⟨"Invoicebridge$Invoice", "taxNow", "()I"⟩) : Cond) ∈ W0 := q_mk 996 (by decide +kernel) (by decide +kernel)
theorem k_957 : ((Cond.selects "Invoicebridge$Invoice" ⟨"Invoicebridge$Invoice", "taxNow", "()I"⟩ ⟨"Invoicebridge$Invoice", "taxNow", "()I"⟩) : Cond) ∈ W0 := q_mk 997 (by decide +kernel) (by decide +kernel)
theorem k_958 : ((Cond.code ⟨"Invoicebridge$Invoice", "taxNow", "()I"⟩ prog_4_method_5_code 3 (some .int)) : Cond) ∈ W0 := q_mk 998 (by decide +kernel) (by decide +kernel)
theorem k_959 : ((Cond.methodLink "Invoicebridge$Invoice" 75 ⟨"Invoicebridge$Line", "taxNow", "()I"⟩) : Cond) ∈ W0 := q_mk 999 (by decide +kernel) (by decide +kernel)
theorem k_961 : ((Cond.methodLink "InvoicebridgeLaw" 153 ⟨"InvoicebridgeLaw", "lineOf", "(LInvoicebridge;III[J)I"⟩) : Cond) ∈ W0 := q_mk 1001 (by decide +kernel) (by decide +kernel)
theorem k_962 : ((Cond.static ⟨"InvoicebridgeLaw", "lineOf", "(LInvoicebridge;III[J)I"⟩) : Cond) ∈ W0 := q_mk 1002 (by decide +kernel) (by decide +kernel)
theorem k_963 : ((Cond.codeWith ⟨"InvoicebridgeLaw", "lineOf", "(LInvoicebridge;III[J)I"⟩ method_17_code 6 (some .int) [(0, 12, 15, 13), (0, 12, 19, 15)]) : Cond) ∈ W0 := q_mk 1003 (by decide +kernel) (by decide +kernel)
theorem k_964 : ((Cond.methodLink "InvoicebridgeLaw" 63 ⟨"Invoicebridge", "lineOf", "(III)I"⟩) : Cond) ∈ W0 := q_mk 1004 (by decide +kernel) (by decide +kernel)
theorem k_965 : ((Cond.instanceMethod ⟨"Invoicebridge", "lineOf", "(III)I"⟩) : Cond) ∈ W0 := q_mk 1005 (by decide +kernel) (by decide +kernel)
theorem k_966 : ((Cond.selects "Invoicebridge" ⟨"Invoicebridge", "lineOf", "(III)I"⟩ ⟨"Invoicebridge", "lineOf", "(III)I"⟩) : Cond) ∈ W0 := q_mk 1006 (by decide +kernel) (by decide +kernel)
theorem k_967 : ((Cond.code ⟨"Invoicebridge", "lineOf", "(III)I"⟩ prog_1_method_18_code 5 (some .int)) : Cond) ∈ W0 := q_mk 1007 (by decide +kernel) (by decide +kernel)
theorem k_968 : ((Cond.methodLink "InvoicebridgeLaw" 156 ⟨"InvoicebridgeLaw", "cash", "(LInvoicebridge;I[J)I"⟩) : Cond) ∈ W0 := q_mk 1008 (by decide +kernel) (by decide +kernel)
theorem k_969 : ((Cond.static ⟨"InvoicebridgeLaw", "cash", "(LInvoicebridge;I[J)I"⟩) : Cond) ∈ W0 := q_mk 1009 (by decide +kernel) (by decide +kernel)
theorem k_970 : ((Cond.codeWith ⟨"InvoicebridgeLaw", "cash", "(LInvoicebridge;I[J)I"⟩ method_18_code 4 (some .int) [(0, 9, 12, 13)]) : Cond) ∈ W0 := q_mk 1010 (by decide +kernel) (by decide +kernel)
theorem k_971 : ((Cond.methodLink "InvoicebridgeLaw" 66 ⟨"Invoicebridge", "cash", "(I)I"⟩) : Cond) ∈ W0 := q_mk 1011 (by decide +kernel) (by decide +kernel)
theorem k_972 : ((Cond.instanceMethod ⟨"Invoicebridge", "cash", "(I)I"⟩) : Cond) ∈ W0 := q_mk 1012 (by decide +kernel) (by decide +kernel)
theorem k_973 : ((Cond.selects "Invoicebridge" ⟨"Invoicebridge", "cash", "(I)I"⟩ ⟨"Invoicebridge", "cash", "(I)I"⟩) : Cond) ∈ W0 := q_mk 1013 (by decide +kernel) (by decide +kernel)
theorem k_974 : ((Cond.code ⟨"Invoicebridge", "cash", "(I)I"⟩ prog_1_method_19_code 2 (some .int)) : Cond) ∈ W0 := q_mk 1014 (by decide +kernel) (by decide +kernel)
theorem k_975 : ((Cond.methodLink "InvoicebridgeLaw" 159 ⟨"InvoicebridgeLaw", "cashAnew", "(LInvoicebridge;I[J)I"⟩) : Cond) ∈ W0 := q_mk 1015 (by decide +kernel) (by decide +kernel)
theorem k_976 : ((Cond.static ⟨"InvoicebridgeLaw", "cashAnew", "(LInvoicebridge;I[J)I"⟩) : Cond) ∈ W0 := q_mk 1016 (by decide +kernel) (by decide +kernel)
theorem k_977 : ((Cond.codeWith ⟨"InvoicebridgeLaw", "cashAnew", "(LInvoicebridge;I[J)I"⟩ method_19_code 4 (some .int) [(0, 9, 12, 13)]) : Cond) ∈ W0 := q_mk 1017 (by decide +kernel) (by decide +kernel)
theorem k_978 : ((Cond.methodLink "InvoicebridgeLaw" 69 ⟨"Invoicebridge", "cashAnew", "(I)I"⟩) : Cond) ∈ W0 := q_mk 1018 (by decide +kernel) (by decide +kernel)
theorem k_979 : ((Cond.instanceMethod ⟨"Invoicebridge", "cashAnew", "(I)I"⟩) : Cond) ∈ W0 := q_mk 1019 (by decide +kernel) (by decide +kernel)
theorem k_980 : ((Cond.selects "Invoicebridge" ⟨"Invoicebridge", "cashAnew", "(I)I"⟩ ⟨"Invoicebridge", "cashAnew", "(I)I"⟩) : Cond) ∈ W0 := q_mk 1020 (by decide +kernel) (by decide +kernel)
theorem k_981 : ((Cond.code ⟨"Invoicebridge", "cashAnew", "(I)I"⟩ prog_1_method_20_code 5 (some .int)) : Cond) ∈ W0 := q_mk 1021 (by decide +kernel) (by decide +kernel)
theorem k_982 : ((Cond.methodLink "InvoicebridgeLaw" 162 ⟨"InvoicebridgeLaw", "owedTo", "(LInvoicebridge;I[J)I"⟩) : Cond) ∈ W0 := q_mk 1022 (by decide +kernel) (by decide +kernel)
theorem k_983 : ((Cond.static ⟨"InvoicebridgeLaw", "owedTo", "(LInvoicebridge;I[J)I"⟩) : Cond) ∈ W0 := q_mk 1023 (by decide +kernel) (by decide +kernel)
theorem k_984 : ((Cond.codeWith ⟨"InvoicebridgeLaw", "owedTo", "(LInvoicebridge;I[J)I"⟩ method_20_code 4 (some .int) [(0, 9, 12, 13)]) : Cond) ∈ W0 := q_mk 1024 (by decide +kernel) (by decide +kernel)
theorem k_985 : ((Cond.methodLink "InvoicebridgeLaw" 72 ⟨"Invoicebridge", "owedTo", "(I)I"⟩) : Cond) ∈ W0 := q_mk 1025 (by decide +kernel) (by decide +kernel)
theorem k_986 : ((Cond.instanceMethod ⟨"Invoicebridge", "owedTo", "(I)I"⟩) : Cond) ∈ W0 := q_mk 1026 (by decide +kernel) (by decide +kernel)
theorem k_987 : ((Cond.selects "Invoicebridge" ⟨"Invoicebridge", "owedTo", "(I)I"⟩ ⟨"Invoicebridge", "owedTo", "(I)I"⟩) : Cond) ∈ W0 := q_mk 1027 (by decide +kernel) (by decide +kernel)
theorem k_988 : ((Cond.code ⟨"Invoicebridge", "owedTo", "(I)I"⟩ prog_1_method_21_code 5 (some .int)) : Cond) ∈ W0 := q_mk 1028 (by decide +kernel) (by decide +kernel)
theorem k_989 : ((Cond.methodLink "InvoicebridgeLaw" 165 ⟨"InvoicebridgeLaw", "owes", "(LInvoicebridge;I[J)I"⟩) : Cond) ∈ W0 := q_mk 1029 (by decide +kernel) (by decide +kernel)
theorem k_990 : ((Cond.static ⟨"InvoicebridgeLaw", "owes", "(LInvoicebridge;I[J)I"⟩) : Cond) ∈ W0 := q_mk 1030 (by decide +kernel) (by decide +kernel)
theorem k_991 : ((Cond.codeWith ⟨"InvoicebridgeLaw", "owes", "(LInvoicebridge;I[J)I"⟩ method_21_code 4 (some .int) [(0, 9, 12, 13)]) : Cond) ∈ W0 := q_mk 1031 (by decide +kernel) (by decide +kernel)
theorem k_992 : ((Cond.methodLink "InvoicebridgeLaw" 75 ⟨"Invoicebridge", "owes", "(I)I"⟩) : Cond) ∈ W0 := q_mk 1032 (by decide +kernel) (by decide +kernel)
theorem k_993 : ((Cond.instanceMethod ⟨"Invoicebridge", "owes", "(I)I"⟩) : Cond) ∈ W0 := q_mk 1033 (by decide +kernel) (by decide +kernel)
theorem k_994 : ((Cond.selects "Invoicebridge" ⟨"Invoicebridge", "owes", "(I)I"⟩ ⟨"Invoicebridge", "owes", "(I)I"⟩) : Cond) ∈ W0 := q_mk 1034 (by decide +kernel) (by decide +kernel)
theorem k_995 : ((Cond.code ⟨"Invoicebridge", "owes", "(I)I"⟩ prog_1_method_22_code 5 (some .int)) : Cond) ∈ W0 := q_mk 1035 (by decide +kernel) (by decide +kernel)
theorem k_996 : ((Cond.methodLink "InvoicebridgeLaw" 168 ⟨"InvoicebridgeLaw", "tax", "(LInvoicebridge;II[J)I"⟩) : Cond) ∈ W0 := q_mk 1036 (by decide +kernel) (by decide +kernel)
theorem k_997 : ((Cond.static ⟨"InvoicebridgeLaw", "tax", "(LInvoicebridge;II[J)I"⟩) : Cond) ∈ W0 := q_mk 1037 (by decide +kernel) (by decide +kernel)
theorem k_998 : ((Cond.codeWith ⟨"InvoicebridgeLaw", "tax", "(LInvoicebridge;II[J)I"⟩ method_22_code 5 (some .int) [(0, 10, 13, 13)]) : Cond) ∈ W0 := q_mk 1038 (by decide +kernel) (by decide +kernel)
theorem k_999 : ((Cond.methodLink "InvoicebridgeLaw" 78 ⟨"Invoicebridge", "tax", "(II)I"⟩) : Cond) ∈ W0 := q_mk 1039 (by decide +kernel) (by decide +kernel)
theorem k_1000 : ((Cond.instanceMethod ⟨"Invoicebridge", "tax", "(II)I"⟩) : Cond) ∈ W0 := q_mk 1040 (by decide +kernel) (by decide +kernel)
theorem k_1001 : ((Cond.selects "Invoicebridge" ⟨"Invoicebridge", "tax", "(II)I"⟩ ⟨"Invoicebridge", "tax", "(II)I"⟩) : Cond) ∈ W0 := q_mk 1041 (by decide +kernel) (by decide +kernel)
theorem k_1002 : ((Cond.code ⟨"Invoicebridge", "tax", "(II)I"⟩ prog_1_method_23_code 3 (some .int)) : Cond) ∈ W0 := q_mk 1042 (by decide +kernel) (by decide +kernel)
theorem k_1003 : ((Cond.methodLink "Invoicebridge" 261 ⟨"Invoicebridge", "checkMonth", "(I)V"⟩) : Cond) ∈ W0 := q_mk 1043 (by decide +kernel) (by decide +kernel)
theorem k_1005 : ((Cond.instanceMethod ⟨"Invoicebridge", "checkMonth", "(I)V"⟩) : Cond) ∈ W0 := q_mk 1045 (by decide +kernel) (by decide +kernel)
theorem k_1006 : ((Cond.code ⟨"Invoicebridge", "checkMonth", "(I)V"⟩ prog_1_method_29_code 2 (none : Option FieldType)) : Cond) ∈ W0 := q_mk 1046 (by decide +kernel) (by decide +kernel)
theorem k_1008 : ((Cond.methodLink "Invoicebridge" 264 ⟨"Invoicebridge", "taxWithCarried", "(II)I"⟩) : Cond) ∈ W0 := q_mk 1048 (by decide +kernel) (by decide +kernel)
theorem k_1010 : ((Cond.instanceMethod ⟨"Invoicebridge", "taxWithCarried", "(II)I"⟩) : Cond) ∈ W0 := q_mk 1050 (by decide +kernel) (by decide +kernel)
theorem k_1011 : ((Cond.code ⟨"Invoicebridge", "taxWithCarried", "(II)I"⟩ prog_1_method_46_code 5 (some .int)) : Cond) ∈ W0 := q_mk 1051 (by decide +kernel) (by decide +kernel)
theorem k_1012 : ((Cond.methodLink "Invoicebridge" 273 ⟨"java/lang/Math", "min", "(II)I"⟩) : Cond) ∈ W0 := q_mk 1052 (by decide +kernel) (by decide +kernel)
theorem k_1013 : ((Cond.methodLink "Invoicebridge" 325 ⟨"Invoicebridge", "taxOfMonth", "(II)I"⟩) : Cond) ∈ W0 := q_mk 1053 (by decide +kernel) (by decide +kernel)
theorem k_1015 : ((Cond.instanceMethod ⟨"Invoicebridge", "taxOfMonth", "(II)I"⟩) : Cond) ∈ W0 := q_mk 1055 (by decide +kernel) (by decide +kernel)
theorem k_1016 : ((Cond.code ⟨"Invoicebridge", "taxOfMonth", "(II)I"⟩ prog_1_method_47_code 5 (some .int)) : Cond) ∈ W0 := q_mk 1056 (by decide +kernel) (by decide +kernel)
theorem k_1017 : ((Cond.methodLink "Invoicebridge" 328 ⟨"Invoicebridge$Invoice", "taxFor", "(II)I"⟩) : Cond) ∈ W0 := q_mk 1057 (by decide +kernel) (by decide +kernel)
theorem k_1018 : ((Cond.instanceMethod ⟨"Invoicebridge$Invoice", "taxFor", "(II)I"⟩) : Cond) ∈ W0 := q_mk 1058 (by decide +kernel) (by decide +kernel)
theorem k_1019 : ((Cond.selects "Invoicebridge$Invoice" ⟨"Invoicebridge$Invoice", "taxFor", "(II)I"⟩ ⟨"Invoicebridge$Invoice", "taxFor", "(II)I"⟩) : Cond) ∈ W0 := q_mk 1059 (by decide +kernel) (by decide +kernel)
theorem k_1020 : ((Cond.code ⟨"Invoicebridge$Invoice", "taxFor", "(II)I"⟩ prog_4_method_7_code 3 (some .int)) : Cond) ∈ W0 := q_mk 1060 (by decide +kernel) (by decide +kernel)
theorem k_1022 : ((Cond.methodLink "Invoicebridge$Invoice" 85 ⟨"Invoicebridge$Invoice", "taxAsMade", "()I"⟩) : Cond) ∈ W0 := q_mk 1062 (by decide +kernel) (by decide +kernel)
theorem k_1023 : ((Cond.instanceMethod ⟨"Invoicebridge$Invoice", "taxAsMade", "()I"⟩) : Cond) ∈ W0 := q_mk 1063 (by decide +kernel) (by decide +kernel)
theorem k_1024 : ((Cond.selects "Invoicebridge$Invoice" ⟨"Invoicebridge$Invoice", "taxAsMade", "()I"⟩ ⟨"Invoicebridge$Invoice", "taxAsMade", "()I"⟩) : Cond) ∈ W0 := q_mk 1064 (by decide +kernel) (by decide +kernel)
theorem k_1025 : ((Cond.code ⟨"Invoicebridge$Invoice", "taxAsMade", "()I"⟩ prog_4_method_6_code 3 (some .int)) : Cond) ∈ W0 := q_mk 1065 (by decide +kernel) (by decide +kernel)
theorem k_1026 : ((Cond.methodLink "Invoicebridge$Invoice" 78 ⟨"Invoicebridge$Line", "taxAsMade", "()I"⟩) : Cond) ∈ W0 := q_mk 1066 (by decide +kernel) (by decide +kernel)
theorem k_1027 : ((Cond.instanceMethod ⟨"Invoicebridge$Line", "taxAsMade", "()I"⟩) : Cond) ∈ W0 := q_mk 1067 (by decide +kernel) (by decide +kernel)
theorem k_1028 : ((Cond.selects "Invoicebridge$Line" ⟨"Invoicebridge$Line", "taxAsMade", "()I"⟩ ⟨"Invoicebridge$Line", "taxAsMade", "()I"⟩) : Cond) ∈ W0 := q_mk 1068 (by decide +kernel) (by decide +kernel)
theorem k_1029 : ((Cond.code ⟨"Invoicebridge$Line", "taxAsMade", "()I"⟩ prog_5_method_3_code 1 (some .int)) : Cond) ∈ W0 := q_mk 1069 (by decide +kernel) (by decide +kernel)
theorem k_1030 : ((Cond.methodLink "Invoicebridge" 331 ⟨"Invoicebridge$Credit", "taxFor", "(II)I"⟩) : Cond) ∈ W0 := q_mk 1070 (by decide +kernel) (by decide +kernel)
theorem k_1031 : ((Cond.instanceMethod ⟨"Invoicebridge$Credit", "taxFor", "(II)I"⟩) : Cond) ∈ W0 := q_mk 1071 (by decide +kernel) (by decide +kernel)
theorem k_1032 : ((Cond.selects "Invoicebridge$Credit" ⟨"Invoicebridge$Credit", "taxFor", "(II)I"⟩ ⟨"Invoicebridge$Credit", "taxFor", "(II)I"⟩) : Cond) ∈ W0 := q_mk 1072 (by decide +kernel) (by decide +kernel)
theorem k_1033 : ((Cond.code ⟨"Invoicebridge$Credit", "taxFor", "(II)I"⟩ prog_2_method_2_code 3 (some .int)) : Cond) ∈ W0 := q_mk 1073 (by decide +kernel) (by decide +kernel)
theorem k_1034 : ((Cond.methodLink "Invoicebridge" 268 ⟨"java/lang/Math", "max", "(II)I"⟩) : Cond) ∈ W0 := q_mk 1074 (by decide +kernel) (by decide +kernel)
theorem k_1035 : ((Cond.methodLink "InvoicebridgeLaw" 171 ⟨"InvoicebridgeLaw", "carried", "(LInvoicebridge;II[J)I"⟩) : Cond) ∈ W0 := q_mk 1075 (by decide +kernel) (by decide +kernel)
theorem k_1036 : ((Cond.static ⟨"InvoicebridgeLaw", "carried", "(LInvoicebridge;II[J)I"⟩) : Cond) ∈ W0 := q_mk 1076 (by decide +kernel) (by decide +kernel)
theorem k_1037 : ((Cond.codeWith ⟨"InvoicebridgeLaw", "carried", "(LInvoicebridge;II[J)I"⟩ method_23_code 5 (some .int) [(0, 10, 13, 13)]) : Cond) ∈ W0 := q_mk 1077 (by decide +kernel) (by decide +kernel)
theorem k_1038 : ((Cond.methodLink "InvoicebridgeLaw" 81 ⟨"Invoicebridge", "carried", "(II)I"⟩) : Cond) ∈ W0 := q_mk 1078 (by decide +kernel) (by decide +kernel)
theorem k_1039 : ((Cond.instanceMethod ⟨"Invoicebridge", "carried", "(II)I"⟩) : Cond) ∈ W0 := q_mk 1079 (by decide +kernel) (by decide +kernel)
theorem k_1040 : ((Cond.selects "Invoicebridge" ⟨"Invoicebridge", "carried", "(II)I"⟩ ⟨"Invoicebridge", "carried", "(II)I"⟩) : Cond) ∈ W0 := q_mk 1080 (by decide +kernel) (by decide +kernel)
theorem k_1041 : ((Cond.code ⟨"Invoicebridge", "carried", "(II)I"⟩ prog_1_method_24_code 3 (some .int)) : Cond) ∈ W0 := q_mk 1081 (by decide +kernel) (by decide +kernel)
theorem k_1042 : ((Cond.methodLink "InvoicebridgeLaw" 174 ⟨"InvoicebridgeLaw", "chain", "(LInvoicebridge;I[J)I"⟩) : Cond) ∈ W0 := q_mk 1082 (by decide +kernel) (by decide +kernel)
theorem k_1043 : ((Cond.static ⟨"InvoicebridgeLaw", "chain", "(LInvoicebridge;I[J)I"⟩) : Cond) ∈ W0 := q_mk 1083 (by decide +kernel) (by decide +kernel)
theorem k_1044 : ((Cond.codeWith ⟨"InvoicebridgeLaw", "chain", "(LInvoicebridge;I[J)I"⟩ method_24_code 4 (some .int) [(0, 9, 12, 13)]) : Cond) ∈ W0 := q_mk 1084 (by decide +kernel) (by decide +kernel)
theorem k_1045 : ((Cond.methodLink "InvoicebridgeLaw" 84 ⟨"Invoicebridge", "chain", "(I)I"⟩) : Cond) ∈ W0 := q_mk 1085 (by decide +kernel) (by decide +kernel)
theorem k_1046 : ((Cond.instanceMethod ⟨"Invoicebridge", "chain", "(I)I"⟩) : Cond) ∈ W0 := q_mk 1086 (by decide +kernel) (by decide +kernel)
theorem k_1047 : ((Cond.selects "Invoicebridge" ⟨"Invoicebridge", "chain", "(I)I"⟩ ⟨"Invoicebridge", "chain", "(I)I"⟩) : Cond) ∈ W0 := q_mk 1087 (by decide +kernel) (by decide +kernel)
theorem k_1048 : ((Cond.code ⟨"Invoicebridge", "chain", "(I)I"⟩ prog_1_method_25_code 5 (some .int)) : Cond) ∈ W0 := q_mk 1088 (by decide +kernel) (by decide +kernel)
theorem k_1049 : ((Cond.methodLink "Invoicebridge" 276 ⟨"Invoicebridge$Invoice", "isAcceptedOf", "(I)Z"⟩) : Cond) ∈ W0 := q_mk 1089 (by decide +kernel) (by decide +kernel)
theorem k_1050 : ((Cond.instanceMethod ⟨"Invoicebridge$Invoice", "isAcceptedOf", "(I)Z"⟩) : Cond) ∈ W0 := q_mk 1090 (by decide +kernel) (by decide +kernel)
theorem k_1051 : ((Cond.selects "Invoicebridge$Invoice" ⟨"Invoicebridge$Invoice", "isAcceptedOf", "(I)Z"⟩ ⟨"Invoicebridge$Invoice", "isAcceptedOf", "(I)Z"⟩) : Cond) ∈ W0 := q_mk 1091 (by decide +kernel) (by decide +kernel)
theorem k_1052 : ((Cond.code ⟨"Invoicebridge$Invoice", "isAcceptedOf", "(I)Z"⟩ prog_4_method_2_code 2 (some .boolean)) : Cond) ∈ W0 := q_mk 1092 (by decide +kernel) (by decide +kernel)
theorem k_1053 : ((Cond.methodLink "Invoicebridge" 280 ⟨"Invoicebridge", "greatestTaxAhead", "(ILInvoicebridge$Invoice;)I"⟩) : Cond) ∈ W0 := q_mk 1093 (by decide +kernel) (by decide +kernel)
theorem k_1055 : ((Cond.instanceMethod ⟨"Invoicebridge", "greatestTaxAhead", "(ILInvoicebridge$Invoice;)I"⟩) : Cond) ∈ W0 := q_mk 1095 (by decide +kernel) (by decide +kernel)
theorem k_1056 : ((Cond.code ⟨"Invoicebridge", "greatestTaxAhead", "(ILInvoicebridge$Invoice;)I"⟩ prog_1_method_48_code 6 (some .int)) : Cond) ∈ W0 := q_mk 1096 (by decide +kernel) (by decide +kernel)
theorem k_1057 : ((Cond.classLink "InvoicebridgeLaw" 88 "InvoicebridgeModel") : Cond) ∈ W0 := q_mk 1097 (by decide +kernel) (by decide +kernel)
theorem k_1058 : ((Cond.instantiable "InvoicebridgeModel" 25) : Cond) ∈ W0 := q_mk 1098 (by decide +kernel) (by decide +kernel)
theorem k_1059 : ((Cond.methodLink "InvoicebridgeLaw" 90 ⟨"InvoicebridgeModel", "<init>", "()V"⟩) : Cond) ∈ W0 := q_mk 1099 (by decide +kernel) (by decide +kernel)
theorem k_1060 : ((Cond.instanceMethod ⟨"InvoicebridgeModel", "<init>", "()V"⟩) : Cond) ∈ W0 := q_mk 1100 (by decide +kernel) (by decide +kernel)
theorem k_1061 : ((Cond.code ⟨"InvoicebridgeModel", "<init>", "()V"⟩ prog_7_method_1_code 1 (none : Option FieldType)) : Cond) ∈ W0 := q_mk 1101 (by decide +kernel) (by decide +kernel)
theorem k_1062 : ((Cond.methodLink "InvoicebridgeModel" 1 ⟨"java/lang/Object", "<init>", "()V"⟩) : Cond) ∈ W0 := q_mk 1102 (by decide +kernel) (by decide +kernel)
theorem k_1063 : ((Cond.fieldLink "InvoicebridgeModel" 93 "InvoicebridgeModel" "day" "I") : Cond) ∈ W0 := q_mk 1103 (by decide +kernel) (by decide +kernel)
theorem k_1064 : ((Cond.fieldLink "InvoicebridgeModel" 7 "InvoicebridgeModel" "cash" "[I") : Cond) ∈ W0 := q_mk 1104 (by decide +kernel) (by decide +kernel)
theorem k_1065 : ((Cond.fieldLink "InvoicebridgeModel" 79 "InvoicebridgeModel" "invoices" "I") : Cond) ∈ W0 := q_mk 1105 (by decide +kernel) (by decide +kernel)
theorem k_1066 : ((Cond.fieldLink "InvoicebridgeModel" 13 "InvoicebridgeModel" "seller" "[I") : Cond) ∈ W0 := q_mk 1106 (by decide +kernel) (by decide +kernel)
theorem k_1067 : ((Cond.fieldLink "InvoicebridgeModel" 16 "InvoicebridgeModel" "buyer" "[I") : Cond) ∈ W0 := q_mk 1107 (by decide +kernel) (by decide +kernel)
theorem k_1068 : ((Cond.fieldLink "InvoicebridgeModel" 19 "InvoicebridgeModel" "goods" "[I") : Cond) ∈ W0 := q_mk 1108 (by decide +kernel) (by decide +kernel)
theorem k_1069 : ((Cond.fieldLink "InvoicebridgeModel" 22 "InvoicebridgeModel" "state" "[I") : Cond) ∈ W0 := q_mk 1109 (by decide +kernel) (by decide +kernel)
theorem k_1070 : ((Cond.fieldLink "InvoicebridgeModel" 25 "InvoicebridgeModel" "sentOn" "[I") : Cond) ∈ W0 := q_mk 1110 (by decide +kernel) (by decide +kernel)
theorem k_1071 : ((Cond.fieldLink "InvoicebridgeModel" 28 "InvoicebridgeModel" "acceptedOn" "[I") : Cond) ∈ W0 := q_mk 1111 (by decide +kernel) (by decide +kernel)
theorem k_1072 : ((Cond.fieldLink "InvoicebridgeModel" 31 "InvoicebridgeModel" "holder" "[I") : Cond) ∈ W0 := q_mk 1112 (by decide +kernel) (by decide +kernel)
theorem k_1073 : ((Cond.fieldLink "InvoicebridgeModel" 34 "InvoicebridgeModel" "soldFor" "[I") : Cond) ∈ W0 := q_mk 1113 (by decide +kernel) (by decide +kernel)
theorem k_1074 : ((Cond.fieldLink "InvoicebridgeModel" 37 "InvoicebridgeModel" "isRecourse" "[Z") : Cond) ∈ W0 := q_mk 1114 (by decide +kernel) (by decide +kernel)
theorem k_1075 : ((Cond.fieldLink "InvoicebridgeModel" 41 "InvoicebridgeModel" "paid" "[I") : Cond) ∈ W0 := q_mk 1115 (by decide +kernel) (by decide +kernel)
theorem k_1076 : ((Cond.fieldLink "InvoicebridgeModel" 44 "InvoicebridgeModel" "lines" "[I") : Cond) ∈ W0 := q_mk 1116 (by decide +kernel) (by decide +kernel)
theorem k_1077 : ((Cond.fieldLink "InvoicebridgeModel" 47 "InvoicebridgeModel" "amount" "[I") : Cond) ∈ W0 := q_mk 1117 (by decide +kernel) (by decide +kernel)
theorem k_1078 : ((Cond.fieldLink "InvoicebridgeModel" 50 "InvoicebridgeModel" "made" "[I") : Cond) ∈ W0 := q_mk 1118 (by decide +kernel) (by decide +kernel)
theorem k_1079 : ((Cond.fieldLink "InvoicebridgeModel" 53 "InvoicebridgeModel" "rate" "[I") : Cond) ∈ W0 := q_mk 1119 (by decide +kernel) (by decide +kernel)
theorem k_1080 : ((Cond.fieldLink "InvoicebridgeModel" 56 "InvoicebridgeModel" "isDisputed" "[Z") : Cond) ∈ W0 := q_mk 1120 (by decide +kernel) (by decide +kernel)
theorem k_1081 : ((Cond.fieldLink "InvoicebridgeModel" 100 "InvoicebridgeModel" "credits" "I") : Cond) ∈ W0 := q_mk 1121 (by decide +kernel) (by decide +kernel)
theorem k_1082 : ((Cond.fieldLink "InvoicebridgeModel" 59 "InvoicebridgeModel" "creditOf" "[I") : Cond) ∈ W0 := q_mk 1122 (by decide +kernel) (by decide +kernel)
theorem k_1083 : ((Cond.fieldLink "InvoicebridgeModel" 62 "InvoicebridgeModel" "creditOn" "[I") : Cond) ∈ W0 := q_mk 1123 (by decide +kernel) (by decide +kernel)
theorem k_1084 : ((Cond.fieldLink "InvoicebridgeModel" 65 "InvoicebridgeModel" "creditTax" "[I") : Cond) ∈ W0 := q_mk 1124 (by decide +kernel) (by decide +kernel)
theorem k_1085 : ((Cond.fieldLink "InvoicebridgeModel" 127 "InvoicebridgeModel" "drafted" "I") : Cond) ∈ W0 := q_mk 1125 (by decide +kernel) (by decide +kernel)
theorem k_1086 : ((Cond.fieldLink "InvoicebridgeModel" 68 "InvoicebridgeModel" "draft" "[I") : Cond) ∈ W0 := q_mk 1126 (by decide +kernel) (by decide +kernel)
theorem k_1087 : ((Cond.fieldLink "InvoicebridgeModel" 71 "InvoicebridgeModel" "thrown" "I") : Cond) ∈ W0 := q_mk 1127 (by decide +kernel) (by decide +kernel)
theorem k_1088 : ((Cond.lays "InvoicebridgeModel" "InvoicebridgeModel" "day" "I") : Cond) ∈ W0 := q_mk 1128 (by decide +kernel) (by decide +kernel)
theorem k_1090 : ((Cond.laysFinal "InvoicebridgeModel" "InvoicebridgeModel" "cash" "[I") : Cond) ∈ W0 := q_mk 1130 (by decide +kernel) (by decide +kernel)
theorem k_1092 : ((Cond.lays "InvoicebridgeModel" "InvoicebridgeModel" "invoices" "I") : Cond) ∈ W0 := q_mk 1132 (by decide +kernel) (by decide +kernel)
theorem k_1094 : ((Cond.laysFinal "InvoicebridgeModel" "InvoicebridgeModel" "seller" "[I") : Cond) ∈ W0 := q_mk 1134 (by decide +kernel) (by decide +kernel)
theorem k_1096 : ((Cond.laysFinal "InvoicebridgeModel" "InvoicebridgeModel" "buyer" "[I") : Cond) ∈ W0 := q_mk 1136 (by decide +kernel) (by decide +kernel)
theorem k_1098 : ((Cond.laysFinal "InvoicebridgeModel" "InvoicebridgeModel" "goods" "[I") : Cond) ∈ W0 := q_mk 1138 (by decide +kernel) (by decide +kernel)
theorem k_1100 : ((Cond.laysFinal "InvoicebridgeModel" "InvoicebridgeModel" "state" "[I") : Cond) ∈ W0 := q_mk 1140 (by decide +kernel) (by decide +kernel)
theorem k_1102 : ((Cond.laysFinal "InvoicebridgeModel" "InvoicebridgeModel" "sentOn" "[I") : Cond) ∈ W0 := q_mk 1142 (by decide +kernel) (by decide +kernel)
theorem k_1104 : ((Cond.laysFinal "InvoicebridgeModel" "InvoicebridgeModel" "acceptedOn" "[I") : Cond) ∈ W0 := q_mk 1144 (by decide +kernel) (by decide +kernel)
theorem k_1106 : ((Cond.laysFinal "InvoicebridgeModel" "InvoicebridgeModel" "holder" "[I") : Cond) ∈ W0 := q_mk 1146 (by decide +kernel) (by decide +kernel)
theorem k_1108 : ((Cond.laysFinal "InvoicebridgeModel" "InvoicebridgeModel" "soldFor" "[I") : Cond) ∈ W0 := q_mk 1148 (by decide +kernel) (by decide +kernel)
theorem k_1110 : ((Cond.laysFinal "InvoicebridgeModel" "InvoicebridgeModel" "isRecourse" "[Z") : Cond) ∈ W0 := q_mk 1150 (by decide +kernel) (by decide +kernel)
theorem k_1112 : ((Cond.laysFinal "InvoicebridgeModel" "InvoicebridgeModel" "paid" "[I") : Cond) ∈ W0 := q_mk 1152 (by decide +kernel) (by decide +kernel)
theorem k_1114 : ((Cond.laysFinal "InvoicebridgeModel" "InvoicebridgeModel" "lines" "[I") : Cond) ∈ W0 := q_mk 1154 (by decide +kernel) (by decide +kernel)
theorem k_1116 : ((Cond.laysFinal "InvoicebridgeModel" "InvoicebridgeModel" "amount" "[I") : Cond) ∈ W0 := q_mk 1156 (by decide +kernel) (by decide +kernel)
theorem k_1118 : ((Cond.laysFinal "InvoicebridgeModel" "InvoicebridgeModel" "made" "[I") : Cond) ∈ W0 := q_mk 1158 (by decide +kernel) (by decide +kernel)
theorem k_1120 : ((Cond.laysFinal "InvoicebridgeModel" "InvoicebridgeModel" "rate" "[I") : Cond) ∈ W0 := q_mk 1160 (by decide +kernel) (by decide +kernel)
theorem k_1122 : ((Cond.laysFinal "InvoicebridgeModel" "InvoicebridgeModel" "isDisputed" "[Z") : Cond) ∈ W0 := q_mk 1162 (by decide +kernel) (by decide +kernel)
theorem k_1124 : ((Cond.lays "InvoicebridgeModel" "InvoicebridgeModel" "credits" "I") : Cond) ∈ W0 := q_mk 1164 (by decide +kernel) (by decide +kernel)
theorem k_1126 : ((Cond.laysFinal "InvoicebridgeModel" "InvoicebridgeModel" "creditOf" "[I") : Cond) ∈ W0 := q_mk 1166 (by decide +kernel) (by decide +kernel)
theorem k_1128 : ((Cond.laysFinal "InvoicebridgeModel" "InvoicebridgeModel" "creditOn" "[I") : Cond) ∈ W0 := q_mk 1168 (by decide +kernel) (by decide +kernel)
theorem k_1130 : ((Cond.laysFinal "InvoicebridgeModel" "InvoicebridgeModel" "creditTax" "[I") : Cond) ∈ W0 := q_mk 1170 (by decide +kernel) (by decide +kernel)
theorem k_1132 : ((Cond.lays "InvoicebridgeModel" "InvoicebridgeModel" "drafted" "I") : Cond) ∈ W0 := q_mk 1172 (by decide +kernel) (by decide +kernel)
theorem k_1134 : ((Cond.laysFinal "InvoicebridgeModel" "InvoicebridgeModel" "draft" "[I") : Cond) ∈ W0 := q_mk 1174 (by decide +kernel) (by decide +kernel)
theorem k_1136 : ((Cond.lays "InvoicebridgeModel" "InvoicebridgeModel" "thrown" "I") : Cond) ∈ W0 := q_mk 1176 (by decide +kernel) (by decide +kernel)
theorem k_1138 : ((Cond.superclass "InvoicebridgeModel" "java/lang/Object") : Cond) ∈ W0 := q_mk 1178 (by decide +kernel) (by decide +kernel)
theorem k_1139 : ((Cond.arrayClass FieldType.boolean) : Cond) ∈ W0 := q_mk 1179 (by decide +kernel) (by decide +kernel)
theorem k_1140 : ((Cond.methodLink "InvoicebridgeLaw" 97 ⟨"InvoicebridgeModel", "thrown", "()I"⟩) : Cond) ∈ W0 := q_mk 1180 (by decide +kernel) (by decide +kernel)
theorem k_1141 : ((Cond.instanceMethod ⟨"InvoicebridgeModel", "thrown", "()I"⟩) : Cond) ∈ W0 := q_mk 1181 (by decide +kernel) (by decide +kernel)
theorem k_1142 : ((Cond.selects "InvoicebridgeModel" ⟨"InvoicebridgeModel", "thrown", "()I"⟩ ⟨"InvoicebridgeModel", "thrown", "()I"⟩) : Cond) ∈ W0 := q_mk 1182 (by decide +kernel) (by decide +kernel)
theorem k_1143 : ((Cond.code ⟨"InvoicebridgeModel", "thrown", "()I"⟩ prog_7_method_2_code 1 (some .int)) : Cond) ∈ W0 := q_mk 1183 (by decide +kernel) (by decide +kernel)
theorem k_1144 : ((Cond.methodLink "InvoicebridgeLaw" 96 ⟨"InvoicebridgeModel", "send", "(IIIII)I"⟩) : Cond) ∈ W0 := q_mk 1184 (by decide +kernel) (by decide +kernel)
theorem k_1145 : ((Cond.instanceMethod ⟨"InvoicebridgeModel", "send", "(IIIII)I"⟩) : Cond) ∈ W0 := q_mk 1185 (by decide +kernel) (by decide +kernel)
theorem k_1146 : ((Cond.selects "InvoicebridgeModel" ⟨"InvoicebridgeModel", "send", "(IIIII)I"⟩ ⟨"InvoicebridgeModel", "send", "(IIIII)I"⟩) : Cond) ∈ W0 := q_mk 1186 (by decide +kernel) (by decide +kernel)
theorem k_1147 : ((Cond.code ⟨"InvoicebridgeModel", "send", "(IIIII)I"⟩ prog_7_method_9_code 6 (some .int)) : Cond) ∈ W0 := q_mk 1187 (by decide +kernel) (by decide +kernel)
theorem k_1148 : ((Cond.methodLink "InvoicebridgeModel" 86 ⟨"InvoicebridgeModel", "isCompany", "(I)Z"⟩) : Cond) ∈ W0 := q_mk 1188 (by decide +kernel) (by decide +kernel)
theorem k_1149 : ((Cond.static ⟨"InvoicebridgeModel", "isCompany", "(I)Z"⟩) : Cond) ∈ W0 := q_mk 1189 (by decide +kernel) (by decide +kernel)
theorem k_1150 : ((Cond.code ⟨"InvoicebridgeModel", "isCompany", "(I)Z"⟩ prog_7_method_4_code 1 (some .boolean)) : Cond) ∈ W0 := q_mk 1190 (by decide +kernel) (by decide +kernel)
theorem k_1151 : ((Cond.methodLink "InvoicebridgeModel" 75 ⟨"InvoicebridgeModel", "isIn", "(III)Z"⟩) : Cond) ∈ W0 := q_mk 1191 (by decide +kernel) (by decide +kernel)
theorem k_1152 : ((Cond.static ⟨"InvoicebridgeModel", "isIn", "(III)Z"⟩) : Cond) ∈ W0 := q_mk 1192 (by decide +kernel) (by decide +kernel)
theorem k_1153 : ((Cond.code ⟨"InvoicebridgeModel", "isIn", "(III)Z"⟩ prog_7_method_3_code 3 (some .boolean)) : Cond) ∈ W0 := q_mk 1193 (by decide +kernel) (by decide +kernel)
theorem k_1154 : ((Cond.methodLink "InvoicebridgeModel" 89 ⟨"InvoicebridgeModel", "isGood", "(II)Z"⟩) : Cond) ∈ W0 := q_mk 1194 (by decide +kernel) (by decide +kernel)
theorem k_1155 : ((Cond.static ⟨"InvoicebridgeModel", "isGood", "(II)Z"⟩) : Cond) ∈ W0 := q_mk 1195 (by decide +kernel) (by decide +kernel)
theorem k_1156 : ((Cond.code ⟨"InvoicebridgeModel", "isGood", "(II)Z"⟩ prog_7_method_7_code 2 (some .boolean)) : Cond) ∈ W0 := q_mk 1196 (by decide +kernel) (by decide +kernel)
theorem k_1157 : ((Cond.methodLink "InvoicebridgeModel" 96 ⟨"InvoicebridgeModel", "adds", "(III)V"⟩) : Cond) ∈ W0 := q_mk 1197 (by decide +kernel) (by decide +kernel)
theorem k_1159 : ((Cond.instanceMethod ⟨"InvoicebridgeModel", "adds", "(III)V"⟩) : Cond) ∈ W0 := q_mk 1199 (by decide +kernel) (by decide +kernel)
theorem k_1160 : ((Cond.code ⟨"InvoicebridgeModel", "adds", "(III)V"⟩ prog_7_method_8_code 5 (none : Option FieldType)) : Cond) ∈ W0 := q_mk 1200 (by decide +kernel) (by decide +kernel)
theorem k_1161 : ((Cond.methodLink "InvoicebridgeLaw" 104 ⟨"InvoicebridgeModel", "addLine", "(III)I"⟩) : Cond) ∈ W0 := q_mk 1201 (by decide +kernel) (by decide +kernel)
theorem k_1162 : ((Cond.instanceMethod ⟨"InvoicebridgeModel", "addLine", "(III)I"⟩) : Cond) ∈ W0 := q_mk 1202 (by decide +kernel) (by decide +kernel)
theorem k_1163 : ((Cond.selects "InvoicebridgeModel" ⟨"InvoicebridgeModel", "addLine", "(III)I"⟩ ⟨"InvoicebridgeModel", "addLine", "(III)I"⟩) : Cond) ∈ W0 := q_mk 1203 (by decide +kernel) (by decide +kernel)
theorem k_1164 : ((Cond.code ⟨"InvoicebridgeModel", "addLine", "(III)I"⟩ prog_7_method_11_code 4 (some .int)) : Cond) ∈ W0 := q_mk 1204 (by decide +kernel) (by decide +kernel)
theorem k_1165 : ((Cond.methodLink "InvoicebridgeModel" 82 ⟨"InvoicebridgeModel", "isInvoice", "(I)Z"⟩) : Cond) ∈ W0 := q_mk 1205 (by decide +kernel) (by decide +kernel)
theorem k_1167 : ((Cond.instanceMethod ⟨"InvoicebridgeModel", "isInvoice", "(I)Z"⟩) : Cond) ∈ W0 := q_mk 1207 (by decide +kernel) (by decide +kernel)
theorem k_1168 : ((Cond.code ⟨"InvoicebridgeModel", "isInvoice", "(I)Z"⟩ prog_7_method_5_code 2 (some .boolean)) : Cond) ∈ W0 := q_mk 1208 (by decide +kernel) (by decide +kernel)
theorem k_1169 : ((Cond.methodLink "InvoicebridgeModel" 103 ⟨"InvoicebridgeModel", "hasCredit", "(I)Z"⟩) : Cond) ∈ W0 := q_mk 1209 (by decide +kernel) (by decide +kernel)
theorem k_1171 : ((Cond.instanceMethod ⟨"InvoicebridgeModel", "hasCredit", "(I)Z"⟩) : Cond) ∈ W0 := q_mk 1211 (by decide +kernel) (by decide +kernel)
theorem k_1172 : ((Cond.code ⟨"InvoicebridgeModel", "hasCredit", "(I)Z"⟩ prog_7_method_10_code 4 (some .boolean)) : Cond) ∈ W0 := q_mk 1212 (by decide +kernel) (by decide +kernel)
theorem k_1173 : ((Cond.methodLink "InvoicebridgeLaw" 108 ⟨"InvoicebridgeModel", "accept", "(I)I"⟩) : Cond) ∈ W0 := q_mk 1213 (by decide +kernel) (by decide +kernel)
theorem k_1174 : ((Cond.instanceMethod ⟨"InvoicebridgeModel", "accept", "(I)I"⟩) : Cond) ∈ W0 := q_mk 1214 (by decide +kernel) (by decide +kernel)
theorem k_1175 : ((Cond.selects "InvoicebridgeModel" ⟨"InvoicebridgeModel", "accept", "(I)I"⟩ ⟨"InvoicebridgeModel", "accept", "(I)I"⟩) : Cond) ∈ W0 := q_mk 1215 (by decide +kernel) (by decide +kernel)
theorem k_1176 : ((Cond.code ⟨"InvoicebridgeModel", "accept", "(I)I"⟩ prog_7_method_15_code 2 (some .int)) : Cond) ∈ W0 := q_mk 1216 (by decide +kernel) (by decide +kernel)
theorem k_1177 : ((Cond.methodLink "InvoicebridgeModel" 114 ⟨"InvoicebridgeModel", "owed", "(I)I"⟩) : Cond) ∈ W0 := q_mk 1217 (by decide +kernel) (by decide +kernel)
theorem k_1179 : ((Cond.instanceMethod ⟨"InvoicebridgeModel", "owed", "(I)I"⟩) : Cond) ∈ W0 := q_mk 1219 (by decide +kernel) (by decide +kernel)
theorem k_1180 : ((Cond.code ⟨"InvoicebridgeModel", "owed", "(I)I"⟩ prog_7_method_14_code 3 (some .int)) : Cond) ∈ W0 := q_mk 1220 (by decide +kernel) (by decide +kernel)
theorem k_1181 : ((Cond.methodLink "InvoicebridgeModel" 110 ⟨"InvoicebridgeModel", "costs", "(IZ)I"⟩) : Cond) ∈ W0 := q_mk 1221 (by decide +kernel) (by decide +kernel)
theorem k_1183 : ((Cond.instanceMethod ⟨"InvoicebridgeModel", "costs", "(IZ)I"⟩) : Cond) ∈ W0 := q_mk 1223 (by decide +kernel) (by decide +kernel)
theorem k_1184 : ((Cond.code ⟨"InvoicebridgeModel", "costs", "(IZ)I"⟩ prog_7_method_13_code 5 (some .int)) : Cond) ∈ W0 := q_mk 1224 (by decide +kernel) (by decide +kernel)
theorem k_1185 : ((Cond.methodLink "InvoicebridgeModel" 106 ⟨"InvoicebridgeModel", "taxOf", "(II)I"⟩) : Cond) ∈ W0 := q_mk 1225 (by decide +kernel) (by decide +kernel)
theorem k_1186 : ((Cond.static ⟨"InvoicebridgeModel", "taxOf", "(II)I"⟩) : Cond) ∈ W0 := q_mk 1226 (by decide +kernel) (by decide +kernel)
theorem k_1187 : ((Cond.code ⟨"InvoicebridgeModel", "taxOf", "(II)I"⟩ prog_7_method_12_code 2 (some .int)) : Cond) ∈ W0 := q_mk 1227 (by decide +kernel) (by decide +kernel)
theorem k_1188 : ((Cond.methodLink "InvoicebridgeLaw" 111 ⟨"InvoicebridgeModel", "refuse", "(I)I"⟩) : Cond) ∈ W0 := q_mk 1228 (by decide +kernel) (by decide +kernel)
theorem k_1189 : ((Cond.instanceMethod ⟨"InvoicebridgeModel", "refuse", "(I)I"⟩) : Cond) ∈ W0 := q_mk 1229 (by decide +kernel) (by decide +kernel)
theorem k_1190 : ((Cond.selects "InvoicebridgeModel" ⟨"InvoicebridgeModel", "refuse", "(I)I"⟩ ⟨"InvoicebridgeModel", "refuse", "(I)I"⟩) : Cond) ∈ W0 := q_mk 1230 (by decide +kernel) (by decide +kernel)
theorem k_1191 : ((Cond.code ⟨"InvoicebridgeModel", "refuse", "(I)I"⟩ prog_7_method_16_code 2 (some .int)) : Cond) ∈ W0 := q_mk 1231 (by decide +kernel) (by decide +kernel)
theorem k_1192 : ((Cond.methodLink "InvoicebridgeLaw" 114 ⟨"InvoicebridgeModel", "credit", "(III)I"⟩) : Cond) ∈ W0 := q_mk 1232 (by decide +kernel) (by decide +kernel)
theorem k_1193 : ((Cond.instanceMethod ⟨"InvoicebridgeModel", "credit", "(III)I"⟩) : Cond) ∈ W0 := q_mk 1233 (by decide +kernel) (by decide +kernel)
theorem k_1194 : ((Cond.selects "InvoicebridgeModel" ⟨"InvoicebridgeModel", "credit", "(III)I"⟩ ⟨"InvoicebridgeModel", "credit", "(III)I"⟩) : Cond) ∈ W0 := q_mk 1234 (by decide +kernel) (by decide +kernel)
theorem k_1195 : ((Cond.code ⟨"InvoicebridgeModel", "credit", "(III)I"⟩ prog_7_method_18_code 4 (some .int)) : Cond) ∈ W0 := q_mk 1235 (by decide +kernel) (by decide +kernel)
theorem k_1196 : ((Cond.methodLink "InvoicebridgeModel" 118 ⟨"InvoicebridgeModel", "isLine", "(II)Z"⟩) : Cond) ∈ W0 := q_mk 1236 (by decide +kernel) (by decide +kernel)
theorem k_1198 : ((Cond.instanceMethod ⟨"InvoicebridgeModel", "isLine", "(II)Z"⟩) : Cond) ∈ W0 := q_mk 1238 (by decide +kernel) (by decide +kernel)
theorem k_1199 : ((Cond.code ⟨"InvoicebridgeModel", "isLine", "(II)Z"⟩ prog_7_method_6_code 3 (some .boolean)) : Cond) ∈ W0 := q_mk 1239 (by decide +kernel) (by decide +kernel)
theorem k_1200 : ((Cond.methodLink "InvoicebridgeModel" 121 ⟨"InvoicebridgeModel", "lessens", "(III)V"⟩) : Cond) ∈ W0 := q_mk 1240 (by decide +kernel) (by decide +kernel)
theorem k_1202 : ((Cond.instanceMethod ⟨"InvoicebridgeModel", "lessens", "(III)V"⟩) : Cond) ∈ W0 := q_mk 1242 (by decide +kernel) (by decide +kernel)
theorem k_1203 : ((Cond.code ⟨"InvoicebridgeModel", "lessens", "(III)V"⟩ prog_7_method_17_code 5 (none : Option FieldType)) : Cond) ∈ W0 := q_mk 1243 (by decide +kernel) (by decide +kernel)
theorem k_1204 : ((Cond.methodLink "InvoicebridgeLaw" 118 ⟨"InvoicebridgeModel", "dispute", "(II)I"⟩) : Cond) ∈ W0 := q_mk 1244 (by decide +kernel) (by decide +kernel)
theorem k_1205 : ((Cond.instanceMethod ⟨"InvoicebridgeModel", "dispute", "(II)I"⟩) : Cond) ∈ W0 := q_mk 1245 (by decide +kernel) (by decide +kernel)
theorem k_1206 : ((Cond.selects "InvoicebridgeModel" ⟨"InvoicebridgeModel", "dispute", "(II)I"⟩ ⟨"InvoicebridgeModel", "dispute", "(II)I"⟩) : Cond) ∈ W0 := q_mk 1246 (by decide +kernel) (by decide +kernel)
theorem k_1207 : ((Cond.code ⟨"InvoicebridgeModel", "dispute", "(II)I"⟩ prog_7_method_19_code 3 (some .int)) : Cond) ∈ W0 := q_mk 1247 (by decide +kernel) (by decide +kernel)
theorem k_1208 : ((Cond.methodLink "InvoicebridgeLaw" 122 ⟨"InvoicebridgeModel", "settle", "(IIZ)I"⟩) : Cond) ∈ W0 := q_mk 1248 (by decide +kernel) (by decide +kernel)
theorem k_1209 : ((Cond.instanceMethod ⟨"InvoicebridgeModel", "settle", "(IIZ)I"⟩) : Cond) ∈ W0 := q_mk 1249 (by decide +kernel) (by decide +kernel)
theorem k_1210 : ((Cond.selects "InvoicebridgeModel" ⟨"InvoicebridgeModel", "settle", "(IIZ)I"⟩ ⟨"InvoicebridgeModel", "settle", "(IIZ)I"⟩) : Cond) ∈ W0 := q_mk 1250 (by decide +kernel) (by decide +kernel)
theorem k_1211 : ((Cond.code ⟨"InvoicebridgeModel", "settle", "(IIZ)I"⟩ prog_7_method_20_code 4 (some .int)) : Cond) ∈ W0 := q_mk 1251 (by decide +kernel) (by decide +kernel)
theorem k_1212 : ((Cond.methodLink "InvoicebridgeLaw" 126 ⟨"InvoicebridgeModel", "sell", "(IIIZ)I"⟩) : Cond) ∈ W0 := q_mk 1252 (by decide +kernel) (by decide +kernel)
theorem k_1213 : ((Cond.instanceMethod ⟨"InvoicebridgeModel", "sell", "(IIIZ)I"⟩) : Cond) ∈ W0 := q_mk 1253 (by decide +kernel) (by decide +kernel)
theorem k_1214 : ((Cond.selects "InvoicebridgeModel" ⟨"InvoicebridgeModel", "sell", "(IIIZ)I"⟩ ⟨"InvoicebridgeModel", "sell", "(IIIZ)I"⟩) : Cond) ∈ W0 := q_mk 1254 (by decide +kernel) (by decide +kernel)
theorem k_1215 : ((Cond.code ⟨"InvoicebridgeModel", "sell", "(IIIZ)I"⟩ prog_7_method_22_code 5 (some .int)) : Cond) ∈ W0 := q_mk 1255 (by decide +kernel) (by decide +kernel)
theorem k_1216 : ((Cond.methodLink "InvoicebridgeModel" 124 ⟨"InvoicebridgeModel", "moves", "(III)V"⟩) : Cond) ∈ W0 := q_mk 1256 (by decide +kernel) (by decide +kernel)
theorem k_1218 : ((Cond.instanceMethod ⟨"InvoicebridgeModel", "moves", "(III)V"⟩) : Cond) ∈ W0 := q_mk 1258 (by decide +kernel) (by decide +kernel)
theorem k_1219 : ((Cond.code ⟨"InvoicebridgeModel", "moves", "(III)V"⟩ prog_7_method_21_code 4 (none : Option FieldType)) : Cond) ∈ W0 := q_mk 1259 (by decide +kernel) (by decide +kernel)
theorem k_1220 : ((Cond.methodLink "InvoicebridgeLaw" 129 ⟨"InvoicebridgeModel", "giveBack", "(I)I"⟩) : Cond) ∈ W0 := q_mk 1260 (by decide +kernel) (by decide +kernel)
theorem k_1221 : ((Cond.instanceMethod ⟨"InvoicebridgeModel", "giveBack", "(I)I"⟩) : Cond) ∈ W0 := q_mk 1261 (by decide +kernel) (by decide +kernel)
theorem k_1222 : ((Cond.selects "InvoicebridgeModel" ⟨"InvoicebridgeModel", "giveBack", "(I)I"⟩ ⟨"InvoicebridgeModel", "giveBack", "(I)I"⟩) : Cond) ∈ W0 := q_mk 1262 (by decide +kernel) (by decide +kernel)
theorem k_1223 : ((Cond.code ⟨"InvoicebridgeModel", "giveBack", "(I)I"⟩ prog_7_method_23_code 2 (some .int)) : Cond) ∈ W0 := q_mk 1263 (by decide +kernel) (by decide +kernel)
theorem k_1224 : ((Cond.methodLink "InvoicebridgeLaw" 132 ⟨"InvoicebridgeModel", "type", "(I)I"⟩) : Cond) ∈ W0 := q_mk 1264 (by decide +kernel) (by decide +kernel)
theorem k_1225 : ((Cond.instanceMethod ⟨"InvoicebridgeModel", "type", "(I)I"⟩) : Cond) ∈ W0 := q_mk 1265 (by decide +kernel) (by decide +kernel)
theorem k_1226 : ((Cond.selects "InvoicebridgeModel" ⟨"InvoicebridgeModel", "type", "(I)I"⟩ ⟨"InvoicebridgeModel", "type", "(I)I"⟩) : Cond) ∈ W0 := q_mk 1266 (by decide +kernel) (by decide +kernel)
theorem k_1227 : ((Cond.code ⟨"InvoicebridgeModel", "type", "(I)I"⟩ prog_7_method_24_code 2 (some .int)) : Cond) ∈ W0 := q_mk 1267 (by decide +kernel) (by decide +kernel)
theorem k_1228 : ((Cond.methodLink "InvoicebridgeLaw" 136 ⟨"InvoicebridgeModel", "clear", "()I"⟩) : Cond) ∈ W0 := q_mk 1268 (by decide +kernel) (by decide +kernel)
theorem k_1229 : ((Cond.instanceMethod ⟨"InvoicebridgeModel", "clear", "()I"⟩) : Cond) ∈ W0 := q_mk 1269 (by decide +kernel) (by decide +kernel)
theorem k_1230 : ((Cond.selects "InvoicebridgeModel" ⟨"InvoicebridgeModel", "clear", "()I"⟩ ⟨"InvoicebridgeModel", "clear", "()I"⟩) : Cond) ∈ W0 := q_mk 1270 (by decide +kernel) (by decide +kernel)
theorem k_1231 : ((Cond.code ⟨"InvoicebridgeModel", "clear", "()I"⟩ prog_7_method_25_code 2 (some .int)) : Cond) ∈ W0 := q_mk 1271 (by decide +kernel) (by decide +kernel)
theorem k_1232 : ((Cond.methodLink "InvoicebridgeLaw" 140 ⟨"InvoicebridgeModel", "fault", "()I"⟩) : Cond) ∈ W0 := q_mk 1272 (by decide +kernel) (by decide +kernel)
theorem k_1233 : ((Cond.instanceMethod ⟨"InvoicebridgeModel", "fault", "()I"⟩) : Cond) ∈ W0 := q_mk 1273 (by decide +kernel) (by decide +kernel)
theorem k_1234 : ((Cond.selects "InvoicebridgeModel" ⟨"InvoicebridgeModel", "fault", "()I"⟩ ⟨"InvoicebridgeModel", "fault", "()I"⟩) : Cond) ∈ W0 := q_mk 1274 (by decide +kernel) (by decide +kernel)
theorem k_1235 : ((Cond.code ⟨"InvoicebridgeModel", "fault", "()I"⟩ prog_7_method_27_code 1 (some .int)) : Cond) ∈ W0 := q_mk 1275 (by decide +kernel) (by decide +kernel)
theorem k_1236 : ((Cond.methodLink "InvoicebridgeModel" 130 ⟨"InvoicebridgeModel", "faultOf", "()I"⟩) : Cond) ∈ W0 := q_mk 1276 (by decide +kernel) (by decide +kernel)
theorem k_1238 : ((Cond.instanceMethod ⟨"InvoicebridgeModel", "faultOf", "()I"⟩) : Cond) ∈ W0 := q_mk 1278 (by decide +kernel) (by decide +kernel)
theorem k_1239 : ((Cond.code ⟨"InvoicebridgeModel", "faultOf", "()I"⟩ prog_7_method_26_code 3 (some .int)) : Cond) ∈ W0 := q_mk 1279 (by decide +kernel) (by decide +kernel)
theorem k_1240 : ((Cond.methodLink "InvoicebridgeLaw" 143 ⟨"InvoicebridgeModel", "payByText", "(III)I"⟩) : Cond) ∈ W0 := q_mk 1280 (by decide +kernel) (by decide +kernel)
theorem k_1241 : ((Cond.instanceMethod ⟨"InvoicebridgeModel", "payByText", "(III)I"⟩) : Cond) ∈ W0 := q_mk 1281 (by decide +kernel) (by decide +kernel)
theorem k_1242 : ((Cond.selects "InvoicebridgeModel" ⟨"InvoicebridgeModel", "payByText", "(III)I"⟩ ⟨"InvoicebridgeModel", "payByText", "(III)I"⟩) : Cond) ∈ W0 := q_mk 1282 (by decide +kernel) (by decide +kernel)
theorem k_1243 : ((Cond.code ⟨"InvoicebridgeModel", "payByText", "(III)I"⟩ prog_7_method_29_code 6 (some .int)) : Cond) ∈ W0 := q_mk 1283 (by decide +kernel) (by decide +kernel)
theorem k_1244 : ((Cond.methodLink "InvoicebridgeModel" 135 ⟨"InvoicebridgeModel", "pays", "(III)I"⟩) : Cond) ∈ W0 := q_mk 1284 (by decide +kernel) (by decide +kernel)
theorem k_1245 : ((Cond.static ⟨"InvoicebridgeModel", "pays", "(III)I"⟩) : Cond) ∈ W0 := q_mk 1285 (by decide +kernel) (by decide +kernel)
theorem k_1246 : ((Cond.code ⟨"InvoicebridgeModel", "pays", "(III)I"⟩ prog_7_method_28_code 3 (some .int)) : Cond) ∈ W0 := q_mk 1286 (by decide +kernel) (by decide +kernel)
theorem k_1247 : ((Cond.constant "InvoicebridgeModel" 134 (99999 : Int32)) : Cond) ∈ W0 := q_mk 1287 (by decide +kernel) (by decide +kernel)
theorem k_1248 : ((Cond.methodLink "InvoicebridgeLaw" 146 ⟨"InvoicebridgeModel", "payBySum", "(III)I"⟩) : Cond) ∈ W0 := q_mk 1288 (by decide +kernel) (by decide +kernel)
theorem k_1249 : ((Cond.instanceMethod ⟨"InvoicebridgeModel", "payBySum", "(III)I"⟩) : Cond) ∈ W0 := q_mk 1289 (by decide +kernel) (by decide +kernel)
theorem k_1250 : ((Cond.selects "InvoicebridgeModel" ⟨"InvoicebridgeModel", "payBySum", "(III)I"⟩ ⟨"InvoicebridgeModel", "payBySum", "(III)I"⟩) : Cond) ∈ W0 := q_mk 1290 (by decide +kernel) (by decide +kernel)
theorem k_1251 : ((Cond.code ⟨"InvoicebridgeModel", "payBySum", "(III)I"⟩ prog_7_method_30_code 6 (some .int)) : Cond) ∈ W0 := q_mk 1291 (by decide +kernel) (by decide +kernel)
theorem k_1252 : ((Cond.methodLink "InvoicebridgeLaw" 149 ⟨"InvoicebridgeModel", "pass", "(I)I"⟩) : Cond) ∈ W0 := q_mk 1292 (by decide +kernel) (by decide +kernel)
theorem k_1253 : ((Cond.instanceMethod ⟨"InvoicebridgeModel", "pass", "(I)I"⟩) : Cond) ∈ W0 := q_mk 1293 (by decide +kernel) (by decide +kernel)
theorem k_1254 : ((Cond.selects "InvoicebridgeModel" ⟨"InvoicebridgeModel", "pass", "(I)I"⟩ ⟨"InvoicebridgeModel", "pass", "(I)I"⟩) : Cond) ∈ W0 := q_mk 1294 (by decide +kernel) (by decide +kernel)
theorem k_1255 : ((Cond.code ⟨"InvoicebridgeModel", "pass", "(I)I"⟩ prog_7_method_31_code 2 (some .int)) : Cond) ∈ W0 := q_mk 1295 (by decide +kernel) (by decide +kernel)
theorem k_1256 : ((Cond.methodLink "InvoicebridgeLaw" 152 ⟨"InvoicebridgeModel", "about", "(II)I"⟩) : Cond) ∈ W0 := q_mk 1296 (by decide +kernel) (by decide +kernel)
theorem k_1257 : ((Cond.instanceMethod ⟨"InvoicebridgeModel", "about", "(II)I"⟩) : Cond) ∈ W0 := q_mk 1297 (by decide +kernel) (by decide +kernel)
theorem k_1258 : ((Cond.selects "InvoicebridgeModel" ⟨"InvoicebridgeModel", "about", "(II)I"⟩ ⟨"InvoicebridgeModel", "about", "(II)I"⟩) : Cond) ∈ W0 := q_mk 1298 (by decide +kernel) (by decide +kernel)
theorem k_1259 : ((Cond.code ⟨"InvoicebridgeModel", "about", "(II)I"⟩ prog_7_method_33_code 3 (some .int)) : Cond) ∈ W0 := q_mk 1299 (by decide +kernel) (by decide +kernel)
theorem k_1260 : ((Cond.methodLink "InvoicebridgeModel" 139 ⟨"InvoicebridgeModel", "taxOfAll", "(IZ)I"⟩) : Cond) ∈ W0 := q_mk 1300 (by decide +kernel) (by decide +kernel)
theorem k_1262 : ((Cond.instanceMethod ⟨"InvoicebridgeModel", "taxOfAll", "(IZ)I"⟩) : Cond) ∈ W0 := q_mk 1302 (by decide +kernel) (by decide +kernel)
theorem k_1263 : ((Cond.code ⟨"InvoicebridgeModel", "taxOfAll", "(IZ)I"⟩ prog_7_method_32_code 5 (some .int)) : Cond) ∈ W0 := q_mk 1303 (by decide +kernel) (by decide +kernel)
theorem k_1264 : ((Cond.methodLink "InvoicebridgeLaw" 155 ⟨"InvoicebridgeModel", "lineOf", "(III)I"⟩) : Cond) ∈ W0 := q_mk 1304 (by decide +kernel) (by decide +kernel)
theorem k_1265 : ((Cond.instanceMethod ⟨"InvoicebridgeModel", "lineOf", "(III)I"⟩) : Cond) ∈ W0 := q_mk 1305 (by decide +kernel) (by decide +kernel)
theorem k_1266 : ((Cond.selects "InvoicebridgeModel" ⟨"InvoicebridgeModel", "lineOf", "(III)I"⟩ ⟨"InvoicebridgeModel", "lineOf", "(III)I"⟩) : Cond) ∈ W0 := q_mk 1306 (by decide +kernel) (by decide +kernel)
theorem k_1267 : ((Cond.code ⟨"InvoicebridgeModel", "lineOf", "(III)I"⟩ prog_7_method_34_code 5 (some .int)) : Cond) ∈ W0 := q_mk 1307 (by decide +kernel) (by decide +kernel)
theorem k_1268 : ((Cond.methodLink "InvoicebridgeLaw" 158 ⟨"InvoicebridgeModel", "cash", "(I)I"⟩) : Cond) ∈ W0 := q_mk 1308 (by decide +kernel) (by decide +kernel)
theorem k_1269 : ((Cond.instanceMethod ⟨"InvoicebridgeModel", "cash", "(I)I"⟩) : Cond) ∈ W0 := q_mk 1309 (by decide +kernel) (by decide +kernel)
theorem k_1270 : ((Cond.selects "InvoicebridgeModel" ⟨"InvoicebridgeModel", "cash", "(I)I"⟩ ⟨"InvoicebridgeModel", "cash", "(I)I"⟩) : Cond) ∈ W0 := q_mk 1310 (by decide +kernel) (by decide +kernel)
theorem k_1271 : ((Cond.code ⟨"InvoicebridgeModel", "cash", "(I)I"⟩ prog_7_method_35_code 2 (some .int)) : Cond) ∈ W0 := q_mk 1311 (by decide +kernel) (by decide +kernel)
theorem k_1272 : ((Cond.methodLink "InvoicebridgeLaw" 161 ⟨"InvoicebridgeModel", "cashAnew", "(I)I"⟩) : Cond) ∈ W0 := q_mk 1312 (by decide +kernel) (by decide +kernel)
theorem k_1273 : ((Cond.instanceMethod ⟨"InvoicebridgeModel", "cashAnew", "(I)I"⟩) : Cond) ∈ W0 := q_mk 1313 (by decide +kernel) (by decide +kernel)
theorem k_1274 : ((Cond.selects "InvoicebridgeModel" ⟨"InvoicebridgeModel", "cashAnew", "(I)I"⟩ ⟨"InvoicebridgeModel", "cashAnew", "(I)I"⟩) : Cond) ∈ W0 := q_mk 1314 (by decide +kernel) (by decide +kernel)
theorem k_1275 : ((Cond.code ⟨"InvoicebridgeModel", "cashAnew", "(I)I"⟩ prog_7_method_36_code 2 (some .int)) : Cond) ∈ W0 := q_mk 1315 (by decide +kernel) (by decide +kernel)
theorem k_1276 : ((Cond.methodLink "InvoicebridgeLaw" 164 ⟨"InvoicebridgeModel", "owedTo", "(I)I"⟩) : Cond) ∈ W0 := q_mk 1316 (by decide +kernel) (by decide +kernel)
theorem k_1277 : ((Cond.instanceMethod ⟨"InvoicebridgeModel", "owedTo", "(I)I"⟩) : Cond) ∈ W0 := q_mk 1317 (by decide +kernel) (by decide +kernel)
theorem k_1278 : ((Cond.selects "InvoicebridgeModel" ⟨"InvoicebridgeModel", "owedTo", "(I)I"⟩ ⟨"InvoicebridgeModel", "owedTo", "(I)I"⟩) : Cond) ∈ W0 := q_mk 1318 (by decide +kernel) (by decide +kernel)
theorem k_1279 : ((Cond.code ⟨"InvoicebridgeModel", "owedTo", "(I)I"⟩ prog_7_method_38_code 2 (some .int)) : Cond) ∈ W0 := q_mk 1319 (by decide +kernel) (by decide +kernel)
theorem k_1280 : ((Cond.methodLink "InvoicebridgeModel" 142 ⟨"InvoicebridgeModel", "sums", "(IZ)I"⟩) : Cond) ∈ W0 := q_mk 1320 (by decide +kernel) (by decide +kernel)
theorem k_1282 : ((Cond.instanceMethod ⟨"InvoicebridgeModel", "sums", "(IZ)I"⟩) : Cond) ∈ W0 := q_mk 1322 (by decide +kernel) (by decide +kernel)
theorem k_1283 : ((Cond.code ⟨"InvoicebridgeModel", "sums", "(IZ)I"⟩ prog_7_method_37_code 5 (some .int)) : Cond) ∈ W0 := q_mk 1323 (by decide +kernel) (by decide +kernel)
theorem k_1284 : ((Cond.methodLink "InvoicebridgeLaw" 167 ⟨"InvoicebridgeModel", "owes", "(I)I"⟩) : Cond) ∈ W0 := q_mk 1324 (by decide +kernel) (by decide +kernel)
theorem k_1285 : ((Cond.instanceMethod ⟨"InvoicebridgeModel", "owes", "(I)I"⟩) : Cond) ∈ W0 := q_mk 1325 (by decide +kernel) (by decide +kernel)
theorem k_1286 : ((Cond.selects "InvoicebridgeModel" ⟨"InvoicebridgeModel", "owes", "(I)I"⟩ ⟨"InvoicebridgeModel", "owes", "(I)I"⟩) : Cond) ∈ W0 := q_mk 1326 (by decide +kernel) (by decide +kernel)
theorem k_1287 : ((Cond.code ⟨"InvoicebridgeModel", "owes", "(I)I"⟩ prog_7_method_39_code 2 (some .int)) : Cond) ∈ W0 := q_mk 1327 (by decide +kernel) (by decide +kernel)
theorem k_1288 : ((Cond.methodLink "InvoicebridgeLaw" 170 ⟨"InvoicebridgeModel", "tax", "(II)I"⟩) : Cond) ∈ W0 := q_mk 1328 (by decide +kernel) (by decide +kernel)
theorem k_1289 : ((Cond.instanceMethod ⟨"InvoicebridgeModel", "tax", "(II)I"⟩) : Cond) ∈ W0 := q_mk 1329 (by decide +kernel) (by decide +kernel)
theorem k_1290 : ((Cond.selects "InvoicebridgeModel" ⟨"InvoicebridgeModel", "tax", "(II)I"⟩ ⟨"InvoicebridgeModel", "tax", "(II)I"⟩) : Cond) ∈ W0 := q_mk 1330 (by decide +kernel) (by decide +kernel)
theorem k_1291 : ((Cond.code ⟨"InvoicebridgeModel", "tax", "(II)I"⟩ prog_7_method_43_code 4 (some .int)) : Cond) ∈ W0 := q_mk 1331 (by decide +kernel) (by decide +kernel)
theorem k_1292 : ((Cond.methodLink "InvoicebridgeModel" 148 ⟨"InvoicebridgeModel", "isMonth", "(I)Z"⟩) : Cond) ∈ W0 := q_mk 1332 (by decide +kernel) (by decide +kernel)
theorem k_1294 : ((Cond.instanceMethod ⟨"InvoicebridgeModel", "isMonth", "(I)Z"⟩) : Cond) ∈ W0 := q_mk 1334 (by decide +kernel) (by decide +kernel)
theorem k_1295 : ((Cond.code ⟨"InvoicebridgeModel", "isMonth", "(I)Z"⟩ prog_7_method_42_code 2 (some .boolean)) : Cond) ∈ W0 := q_mk 1335 (by decide +kernel) (by decide +kernel)
theorem k_1296 : ((Cond.methodLink "InvoicebridgeModel" 151 ⟨"InvoicebridgeModel", "taxUpTo", "(II)I"⟩) : Cond) ∈ W0 := q_mk 1336 (by decide +kernel) (by decide +kernel)
theorem k_1298 : ((Cond.instanceMethod ⟨"InvoicebridgeModel", "taxUpTo", "(II)I"⟩) : Cond) ∈ W0 := q_mk 1338 (by decide +kernel) (by decide +kernel)
theorem k_1299 : ((Cond.code ⟨"InvoicebridgeModel", "taxUpTo", "(II)I"⟩ prog_7_method_41_code 5 (some .int)) : Cond) ∈ W0 := q_mk 1339 (by decide +kernel) (by decide +kernel)
theorem k_1300 : ((Cond.methodLink "InvoicebridgeModel" 145 ⟨"InvoicebridgeModel", "taxIn", "(II)I"⟩) : Cond) ∈ W0 := q_mk 1340 (by decide +kernel) (by decide +kernel)
theorem k_1302 : ((Cond.instanceMethod ⟨"InvoicebridgeModel", "taxIn", "(II)I"⟩) : Cond) ∈ W0 := q_mk 1342 (by decide +kernel) (by decide +kernel)
theorem k_1303 : ((Cond.code ⟨"InvoicebridgeModel", "taxIn", "(II)I"⟩ prog_7_method_40_code 7 (some .int)) : Cond) ∈ W0 := q_mk 1343 (by decide +kernel) (by decide +kernel)
theorem k_1304 : ((Cond.methodLink "InvoicebridgeLaw" 173 ⟨"InvoicebridgeModel", "carried", "(II)I"⟩) : Cond) ∈ W0 := q_mk 1344 (by decide +kernel) (by decide +kernel)
theorem k_1305 : ((Cond.instanceMethod ⟨"InvoicebridgeModel", "carried", "(II)I"⟩) : Cond) ∈ W0 := q_mk 1345 (by decide +kernel) (by decide +kernel)
theorem k_1306 : ((Cond.selects "InvoicebridgeModel" ⟨"InvoicebridgeModel", "carried", "(II)I"⟩ ⟨"InvoicebridgeModel", "carried", "(II)I"⟩) : Cond) ∈ W0 := q_mk 1346 (by decide +kernel) (by decide +kernel)
theorem k_1307 : ((Cond.code ⟨"InvoicebridgeModel", "carried", "(II)I"⟩ prog_7_method_44_code 4 (some .int)) : Cond) ∈ W0 := q_mk 1347 (by decide +kernel) (by decide +kernel)
theorem k_1308 : ((Cond.methodLink "InvoicebridgeLaw" 176 ⟨"InvoicebridgeModel", "chain", "(I)I"⟩) : Cond) ∈ W0 := q_mk 1348 (by decide +kernel) (by decide +kernel)
theorem k_1309 : ((Cond.instanceMethod ⟨"InvoicebridgeModel", "chain", "(I)I"⟩) : Cond) ∈ W0 := q_mk 1349 (by decide +kernel) (by decide +kernel)
theorem k_1310 : ((Cond.selects "InvoicebridgeModel" ⟨"InvoicebridgeModel", "chain", "(I)I"⟩ ⟨"InvoicebridgeModel", "chain", "(I)I"⟩) : Cond) ∈ W0 := q_mk 1350 (by decide +kernel) (by decide +kernel)
theorem k_1311 : ((Cond.code ⟨"InvoicebridgeModel", "chain", "(I)I"⟩ prog_7_method_45_code 7 (some .int)) : Cond) ∈ W0 := q_mk 1351 (by decide +kernel) (by decide +kernel)
theorem k_1312 : ((Cond.methodLink "InvoicebridgeLaw" 180 ⟨"InvoicebridgeModel", "day", "()I"⟩) : Cond) ∈ W0 := q_mk 1352 (by decide +kernel) (by decide +kernel)
theorem k_1313 : ((Cond.instanceMethod ⟨"InvoicebridgeModel", "day", "()I"⟩) : Cond) ∈ W0 := q_mk 1353 (by decide +kernel) (by decide +kernel)
theorem k_1314 : ((Cond.selects "InvoicebridgeModel" ⟨"InvoicebridgeModel", "day", "()I"⟩ ⟨"InvoicebridgeModel", "day", "()I"⟩) : Cond) ∈ W0 := q_mk 1354 (by decide +kernel) (by decide +kernel)
theorem k_1315 : ((Cond.code ⟨"InvoicebridgeModel", "day", "()I"⟩ prog_7_method_46_code 1 (some .int)) : Cond) ∈ W0 := q_mk 1355 (by decide +kernel) (by decide +kernel)
theorem k_1316 : ((Cond.arrayClass FieldType.long) : Cond) ∈ W0 := q_mk 1356 (by decide +kernel) (by decide +kernel)
theorem k_1317 : ((Cond.sameMethod "java/lang/AbstractStringBuilder" "java/lang/AbstractStringBuilder" "length" "()I") : Cond) ∈ W0 := q_mk 1357 (by decide +kernel) (by decide +kernel)
theorem k_1318 : ((Cond.sameMethod "java/lang/AbstractStringBuilder" "java/lang/AbstractStringBuilder" "setLength" "(I)V") : Cond) ∈ W0 := q_mk 1358 (by decide +kernel) (by decide +kernel)
theorem k_1319 : ((Cond.sameMethod "java/lang/AbstractStringBuilder" "java/lang/AbstractStringBuilder" "append" "(Ljava/lang/String;)Ljava/lang/AbstractStringBuilder;") : Cond) ∈ W0 := q_mk 1359 (by decide +kernel) (by decide +kernel)
theorem k_1320 : ((Cond.sameMethod "java/lang/AbstractStringBuilder" "java/lang/AbstractStringBuilder" "appendNull" "()Ljava/lang/AbstractStringBuilder;") : Cond) ∈ W0 := q_mk 1360 (by decide +kernel) (by decide +kernel)
theorem k_1321 : ((Cond.sameMethod "java/lang/AbstractStringBuilder" "java/lang/AbstractStringBuilder" "ensureCapacityInternal" "(I)V") : Cond) ∈ W0 := q_mk 1361 (by decide +kernel) (by decide +kernel)
theorem k_1322 : ((Cond.sameMethod "java/lang/AbstractStringBuilder" "java/lang/AbstractStringBuilder" "newCapacity" "(I)I") : Cond) ∈ W0 := q_mk 1362 (by decide +kernel) (by decide +kernel)
theorem k_1323 : ((Cond.sameMethod "java/lang/AbstractStringBuilder" "java/lang/AbstractStringBuilder" "putStringAt" "(ILjava/lang/String;)V") : Cond) ∈ W0 := q_mk 1363 (by decide +kernel) (by decide +kernel)
theorem k_1324 : ((Cond.sameMethod "java/lang/AbstractStringBuilder" "java/lang/AbstractStringBuilder" "inflateIfNeededFor" "(Ljava/lang/String;)V") : Cond) ∈ W0 := q_mk 1364 (by decide +kernel) (by decide +kernel)
theorem k_1325 : ((Cond.sameMethod "java/lang/AbstractStringBuilder" "java/lang/AbstractStringBuilder" "inflate" "()V") : Cond) ∈ W0 := q_mk 1365 (by decide +kernel) (by decide +kernel)
theorem k_1326 : ((Cond.sameMethod "java/lang/AbstractStringBuilder" "java/lang/AbstractStringBuilder" "append" "(I)Ljava/lang/AbstractStringBuilder;") : Cond) ∈ W0 := q_mk 1366 (by decide +kernel) (by decide +kernel)
theorem k_1327 : ((Cond.selects "java/lang/StringBuilder" ⟨"java/lang/AbstractStringBuilder", "length", "()I"⟩ ⟨"java/lang/StringBuilder", "length", "()I"⟩) : Cond) ∈ W0 := q_mk 1367 (by decide +kernel) (by decide +kernel)
theorem k_1328 : ((Cond.sameMethod "java/lang/Throwable" "java/lang/Throwable" "fillInStackTrace" "(I)Ljava/lang/Throwable;") : Cond) ∈ W0 := q_mk 1368 (by decide +kernel) (by decide +kernel)
theorem k_1329 : ((Cond.sameMethod "java/lang/AbstractStringBuilder" "java/lang/AbstractStringBuilder" "charAt" "(I)C") : Cond) ∈ W0 := q_mk 1369 (by decide +kernel) (by decide +kernel)
theorem k_1330 : ((Cond.sameMethod "java/lang/AbstractStringBuilder" "java/lang/AbstractStringBuilder" "append" "(C)Ljava/lang/AbstractStringBuilder;") : Cond) ∈ W0 := q_mk 1370 (by decide +kernel) (by decide +kernel)
theorem k_1348 : ((Cond.sameMethod "[Ljava/lang/Object;" "java/lang/Object" "getClass" "()Ljava/lang/Class;") : Cond) ∈ W0 := q_mk 1388 (by decide +kernel) (by decide +kernel)
theorem k_1349 : ((Cond.selects "[Ljava/lang/Object;" ⟨"java/lang/Object", "getClass", "()Ljava/lang/Class;"⟩ ⟨"java/lang/Object", "getClass", "()Ljava/lang/Class;"⟩) : Cond) ∈ W0 := q_mk 1389 (by decide +kernel) (by decide +kernel)
end
section
/-! the world is one pool: addresses L, what each holds F; class numbers, array classes, the empty default array: γ -/
abbrev kG : Type := va_G × (Nat → ClassId) × Nat
def kT (γ : kG) : List (ClassId × FieldType) := [(γ.2.1 0, .byte), (γ.2.1 1, .int), (γ.2.1 2, .boolean), (γ.2.1 3, .long), (γ.2.1 4, .object "java/lang/Object")]
abbrev kF : Type := Nat → va_E
def kK (γ : kG) (U : State) : Prop := va_K γ.1 vwCl (kT γ) U
def kA (L : List Nat) (sz : Nat) : Nat → Prop := fun q => q ∈ L ∨ sz ≤ q
def kStr : List (String × Nat × String) := [("Invoicebridge", 247, "there is no such company"), ("Invoicebridge", 284, "there are no such goods"), ("Invoicebridge", 288, "the amount is out of range"), ("Invoicebridge", 290, "the rate is out of range"), ("Invoicebridge", 292, "both companies are the same"), ("Invoicebridge", 60, "there are 20 invoices"), ("Invoicebridge", 206, "there is no such invoice"), ("Invoicebridge", 297, "the invoice is accepted or refused"), ("Invoicebridge", 92, "the invoice was sent on an earlier day"), ("Invoicebridge", 94, "the invoice has 3 lines"), ("Invoicebridge", 100, "the invoice has a credit"), ("Invoicebridge", 305, "the invoice has no such line"), ("Invoicebridge", 123, "the amount is above that of the line"), ("Invoicebridge", 126, "the invoice is refused"), ("Invoicebridge", 301, "there are 24 credits"), ("Invoicebridge", 135, "the invoice is not accepted"), ("Invoicebridge", 140, "the line is disputed"), ("Invoicebridge", 142, "the amount of the line is 0"), ("Invoicebridge", 144, "the line is not disputed"), ("Invoicebridge", 146, "the part is out of range"), ("Invoicebridge", 154, "the company is the seller or the buyer"), ("Invoicebridge", 299, "nothing is owed of the invoice"), ("Invoicebridge", 162, "the seller does not hold the invoice"), ("Invoicebridge", 303, "there are 512 documents"), ("Invoicebridge", 177, "the seller holds the invoice"), ("Invoicebridge", 179, "the invoice was sold without recourse"), ("Invoicebridge", 181, "the sign is out of range"), ("Invoicebridge", 186, "the draft has 10 signs"), ("Invoicebridge", 295, "the cents are out of range"), ("Invoicebridge", 201, "the draft has a fault"), ("Invoicebridge", 212, "the payer is not the buyer of the invoice"), ("Invoicebridge", 214, "the paid company does not hold the invoice"), ("Invoicebridge", 216, "less is owed of the invoice"), ("Invoicebridge", 222, "the days are out of range"), ("Invoicebridge", 224, "it would be above the day 999"), ("Invoicebridge", 236, "what is out of range"), ("Invoicebridge", 286, "there is no such month")]
def kN1 : Cond := .methodLinkNest "Invoicebridge$Line" 23 ⟨"Invoicebridge", "taxOf", "(II)I"⟩ "Invoicebridge"
def kN2 : Cond := .methodLinkNest "Invoicebridge$Invoice" 81 ⟨"Invoicebridge", "monthOf", "(I)I"⟩ "Invoicebridge"
def kIO : String := "java/lang/IndexOutOfBoundsException"
def kIA : String := "java/lang/IllegalArgumentException"
def kIS : String := "java/lang/IllegalStateException"
def kDcs : List MethodName := [⟨"java/lang/RuntimeException", "<init>", "(Ljava/lang/String;)V"⟩, ⟨"java/lang/Exception", "<init>", "(Ljava/lang/String;)V"⟩, ⟨"java/lang/Throwable", "<init>", "(Ljava/lang/String;)V"⟩]
theorem kDc_moved {y : MethodName} {u U : State} (hvm : u.vm.Alike U.vm) (h : va_Nw (.declares y) u) : va_Nw (.declares y) U := by
  have h1 : (Cond.declares y).before #[] (u.setVm U.vm) = true := by
    rw [Cond.declares_setVm hvm]
    exact h
  have e := Cond.onTables_vm (A := #[]) (A' := #[]) (U := u) (U' := U) U.vm (Cond.declares y) rfl
  have hU : U.setVm U.vm = U := rfl
  rw [hU] at e
  unfold va_Nw
  rw [← e]
  exact h1
/-- what was there before and nobody writes: statics, texts, links of the nest, castings, class objects -/
def kZ (γ : kG) (A : Nat → Prop) (U : State) (H : Heap) : Prop :=
  vx_Zq Bundle.tN "UNASSIGNED_STACK" Bundle.steD A U H ∧ vx_Zq Bundle.tN "SUPPRESSED_SENTINEL" Bundle.listD A U H ∧
  (∀ q ∈ kStr, ∃ a, vk_R q.1 q.2.1 q.2.2 a U) ∧ va_Nw kN1 U ∧ va_Nw kN2 U ∧
  va_Z "java/lang/String" "COMPACT_STRINGS" "Z" (.int 1) A U H ∧
  va_Zq "jdk/internal/util/Preconditions" "SIOOBE_FORMATTER" "Ljava/util/function/BiFunction;" A U H ∧
  va_Z "java/util/ArrayList" "DEFAULTCAPACITY_EMPTY_ELEMENTDATA" "[Ljava/lang/Object;" (.ref γ.2.2) A U H ∧
  va_T (.object "java/lang/Object") γ.2.2 0 (fun _ => .null) A U H ∧ va_AO "java/lang/Object" U ∧
  (va_Nw (.castable kIO kIO) U ∧ va_Nw (.castable kIA kIA) U ∧ va_Nw (.castable kIS kIS) U) ∧
  (va_Nc kIA kIO U ∧ va_Nc kIS kIO U ∧ va_Nc kIS kIA U) ∧ (∃ mi, va_Mi "[Ljava/lang/Object;" mi U) ∧ va_Dc U ∧
  (va_Nw (.castable "Invoicebridge$Invoice" "java/lang/Object") U ∧ va_Nw (.castable "Invoicebridge$Line" "java/lang/Object") U ∧ va_Nw (.castable "Invoicebridge$Credit" "java/lang/Object") U ∧ va_Nw (.castable "Invoicebridge$Document" "java/lang/Object") U) ∧ ∀ y ∈ kDcs, va_Nw (.declares y) U
theorem kZ.to {γ : kG} {A B : Nat → Prop} {s U : State} {H : Heap} {locs : List Loc} (h : kZ γ A s s.heap) (hS : va_S A s.heap H locs) (hU : U.heap = H) (hW : s.WarmedH U.vm) (hAB : ∀ q, B q → A q) : kZ γ B U U.heap := by
  subst hU
  obtain ⟨h1, h2, h3, h4, h5, h6, h7, h8, h9, h10, ⟨h11, h12, h13⟩, ⟨h14, h15, h16⟩, ⟨mi, h17⟩, h18, ⟨h19, h20, h21, h22⟩, h23⟩ := h
  exact ⟨((h1.kept hS.2.1).moved hW.alike).narrow hAB, ((h2.kept hS.2.1).moved hW.alike).narrow hAB, fun q hq => (h3 q hq).imp fun a ha => ha.warm hW, h4.warmM hW, h5.warmM hW,
    ((h6.kept hS.2.1).moved hW.alike).narrow hAB, ((h7.kept hS.2.1).moved hW.alike).narrow hAB, ((h8.kept hS.2.1).moved hW.alike).narrow hAB, ((h9.kept hS.2.1).moved hW.alike).narrow hAB, h10.moved hW.alike,
    ⟨h11.warmC hW, h12.warmC hW, h13.warmC hW⟩, ⟨h14.moved hW.alike, h15.moved hW.alike, h16.moved hW.alike⟩, ⟨mi, h17.moved hW.alike⟩, h18.moved hW.alike, ⟨h19.warmC hW, h20.warmC hW, h21.warmC hW, h22.warmC hW⟩, fun y hy => kDc_moved hW.alike (h23 y hy)⟩
theorem kZ.blind {γ : kG} {A : Nat → Prop} {U V : State} (hv : V.vm = U.vm) (hh : V.heap = U.heap) (h : kZ γ A U U.heap) : kZ γ A V V.heap := by
  have ha : U.vm.Alike V.vm := by rw [hv]; exact Vm.Alike.refl U.vm
  rw [hh]
  obtain ⟨h1, h2, h3, h4, h5, h6, h7, h8, h9, h10, ⟨h11, h12, h13⟩, ⟨h14, h15, h16⟩, ⟨mi, h17⟩, h18, ⟨h19, h20, h21, h22⟩, h23⟩ := h
  exact ⟨h1.moved ha, h2.moved ha, fun q hq => (h3 q hq).imp fun a h9 => h9.same hv, h4.same rfl hv.symm, h5.same rfl hv.symm,
    h6.moved ha, h7.moved ha, h8.moved ha, h9.moved ha, h10.moved ha, ⟨h11.same rfl hv.symm, h12.same rfl hv.symm, h13.same rfl hv.symm⟩, ⟨h14.moved ha, h15.moved ha, h16.moved ha⟩, ⟨mi, h17.moved ha⟩, h18.moved ha, ⟨h19.same rfl hv.symm, h20.same rfl hv.symm, h21.same rfl hv.symm, h22.same rfl hv.symm⟩, fun y hy => kDc_moved ha (h23 y hy)⟩
/-- at a method's entry -/
def kIn (γ : kG) (L : List Nat) (F : kF) (sz : Nat) (U : State) : Prop :=
  U.heap.size = sz ∧ va_P γ.1 vwCl (va_pl L F) U.heap ∧ kK γ U ∧ L.Nodup ∧ kZ γ (kA L sz) U U.heap
theorem kIn_blind {γ : kG} {L : List Nat} {F : kF} {sz : Nat} {av : List Value} : FrameBlind (va_Pc av (kIn γ L F sz)) := fun a U g mk ⟨h1, h2, h3, h4, h5, h6⟩ =>
  ⟨h1, h2, h3, va_K.moved (u := U) (U := U.calling g mk a) (Vm.Alike.refl U.vm) h4, h5, kZ.blind (U := U) (V := U.calling g mk a) rfl rfl h6⟩
/-- at its end -/
def kOut (γ : kG) (L : List Nat) (sz : Nat) (u : List Nat × kF) (t : State) : Prop :=
  va_P γ.1 vwCl (va_pl u.1 u.2) t.heap ∧ u.1.Nodup ∧ ∀ a ∈ u.1, kA L sz a
abbrev kOk : Type := Option Value → List Nat → kF → Prop
def kQ (γ : kG) (L : List Nat) (sz : Nat) (ok : kOk) : Array Value → State → Outcome → State → Prop := fun _ st oc t =>
  (∃ (v : Option Value) (u : List Nat × kF), oc = .returned v ∧ ok v u.1 u.2 ∧ kOut γ L sz u t) ∧ va_F (kA L sz) st t
/-- where it throws, the world is as it was -/
def kXC (γ : kG) (L : List Nat) (F : kF) (sz : Nat) (no : String → Prop) : String → State → State → Prop := fun E st t => no E ∧ kOut γ L sz (L, F) t ∧ va_F (kA L sz) st t
def kWs (y : MethodName) (b : ByteArray) (n : Nat) (ret : Option FieldType) : List Cond := Cond.code y b n ret :: W0
/-- the contract of a method that returns -/
def kC (l : Launch) (y : MethodName) (b : ByteArray) (n : Nat) (ret : Option FieldType) (rm : Room) (γ : kG) (L : List Nat) (F : kF) (av : List Value) (ok : kOk) : Prop :=
  ∀ sz, Met l y (kWs y b n ret) rm (va_Pc av (kIn γ L F sz)) (kQ γ L sz ok) rm.cells rm.slots (kA L sz)
/-- .. of one that returns or throws -/
def kD (l : Launch) (y : MethodName) (b : ByteArray) (n : Nat) (ret : Option FieldType) (rm : Room) (γ : kG) (L : List Nat) (F : kF) (av : List Value) (ok : kOk) (no : String → Prop) : Prop :=
  ∀ sz, vx_Met l y (kWs y b n ret) rm (va_Pc av (kIn γ L F sz)) (kQ γ L sz ok) (kXC γ L F sz no) rm.cells rm.slots (kA L sz)
/-- what a method's body knows all along -/
def kM (p : Program) (s : State) (m : MethodId) (args : Array Value) (meth : Method) (c : Code) (cc : ByteArray) (nL : Nat) (ret : Option FieldType) (own : String) : Prop :=
  p.tables.exec = Jvm.exec ∧ c.code = cc ∧ c.maxLocals = nL ∧ s.vm.findClass own = some m.cls ∧ (∀ w ∈ W0, w.before args s = true) ∧ meth.sig.returnType = ret ∧ meth.locks = false ∧ meth.name = meth.name
def kE (γ : kG) (A : Nat → Prop) (s : State) : Prop := kK γ s ∧ kZ γ A s s.heap ∧ ∀ q, s.heap.size ≤ q → A q
/-- the world now -/
def kX (γ : kG) (A : Nat → Prop) (s : State) (L : List Nat) (F : kF) (H : Heap) (locs : List Loc) : Prop :=
  va_P γ.1 vwCl (va_pl L F) H ∧ (L.Nodup ∧ ∀ a ∈ L, A a) ∧ va_S A s.heap H locs
theorem kN_D {A : Nat → Prop} {L : List Nat} {F : kF} (h : L.Nodup ∧ ∀ a ∈ L, A a) : va_D A (va_pl L F) := by
  refine ⟨fun i j p q hi hj e => ?_, fun k q hk => ?_⟩
  · simp only [va_pl, List.getElem?_map] at hi hj
    obtain ⟨a, ha, rfl⟩ := Option.map_eq_some_iff.mp hi
    obtain ⟨b, hb, rfl⟩ := Option.map_eq_some_iff.mp hj
    have e' : a = b := e
    subst e'
    obtain ⟨hi1, hi2⟩ := List.getElem?_eq_some_iff.mp ha
    obtain ⟨hj1, hj2⟩ := List.getElem?_eq_some_iff.mp hb
    have hp := List.pairwise_iff_getElem.mp h.1
    rcases Nat.lt_trichotomy i j with hlt | heq | hgt
    · exact absurd (hi2.trans hj2.symm) (hp i j hi1 hj1 hlt)
    · exact heq
    · exact absurd (hj2.trans hi2.symm) (hp j i hj1 hi1 hgt)
  · simp only [va_pl, List.getElem?_map] at hk
    obtain ⟨a, ha, rfl⟩ := Option.map_eq_some_iff.mp hk
    exact h.2 a (List.mem_of_getElem? ha)
theorem kX_get {γ : kG} {A : Nat → Prop} {s : State} {L : List Nat} {F : kF} {H : Heap} {locs : List Loc} (h : kX γ A s L F H locs) {a : Nat} {e : va_E} (ha : a ∈ L) (hF : F a = e) : ∃ k : Nat, (va_pl L F)[k]? = some (a, e) := by
  obtain ⟨k, hk⟩ := va_pl_get (X := []) (f := F) ha
  exact ⟨k, by rw [← hF]; simpa using hk⟩
theorem kX_lt {γ : kG} {A : Nat → Prop} {s : State} {L : List Nat} {F : kF} {H : Heap} {locs : List Loc} (h : kX γ A s L F H locs) {a : Nat} (ha : a ∈ L) : a < H.size := va_pl_lt (X := []) (L := L) (f := F) (H := H) (by simpa using h.1) ha
theorem kX_set {γ : kG} {A : Nat → Prop} {s : State} {L : List Nat} {F : kF} {H H1 : Heap} {locs locs1 : List Loc} (h : kX γ A s L F H locs) {a k : Nat} {e0 e : va_E} (ha : a ∈ L) (hF : F a = e0) (hk : (va_pl L F)[k]? = some (a, e0)) (hP : va_P γ.1 vwCl ((va_pl L F).set k (a, e)) H1) (hS : va_S A s.heap H1 locs1) : kX γ A s L (va_up F a e) H1 locs1 := by
  refine ⟨?_, h.2.1, hS⟩
  have h1 := va_pl_set (X := []) (e := e) (A := A) (by simpa using kN_D (F := F) h.2.1) ha (by simpa [hF] using hk)
  simp only [List.nil_append] at h1
  rw [← h1]; exact hP
theorem kX_push {γ : kG} {A : Nat → Prop} {s : State} {L : List Nat} {F : kF} {H H1 : Heap} {locs locs1 : List Loc} (h : kX γ A s L F H locs) {q : Nat} {e : va_E} (hP : va_P γ.1 vwCl (va_pl L F ++ [(q, e)]) H1) (hD : va_D A (va_pl L F ++ [(q, e)])) (hS : va_S A s.heap H1 locs1) : q ∉ L ∧ kX γ A s (L ++ [q]) (va_up F q e) H1 locs1 := by
  have hq : q ∉ L := va_pl_fresh2 (X := []) (L := L) (f := F) (q := q) (e := e) (A := A) (by simpa using hD)
  refine ⟨hq, ?_, ⟨?_, ?_⟩, hS⟩
  · rw [← va_pl_push hq]; exact hP
  · rw [List.nodup_append]
    exact ⟨h.2.1.1, by simp, fun a ha b hb => by rw [List.mem_singleton.mp hb]; exact fun e => hq (e ▸ ha)⟩
  · intro a ha
    rcases List.mem_append.mp ha with ha | ha
    · exact h.2.1.2 a ha
    · rw [List.mem_singleton.mp ha]
      exact hD.2 (va_pl L F).length (q, e) (by simp)
theorem kX_sub {γ : kG} {A : Nat → Prop} {s : State} {L : List Nat} {F : kF} {H : Heap} {locs : List Loc} (h : kX γ A s L F H locs) (hA : ∀ q, s.heap.size ≤ q → A q) : ∀ q, kA L H.size q → A q := fun q hq => hq.elim (fun h1 => h.2.1.2 q h1) (fun h1 => hA q (Nat.le_trans h.2.2.1 h1))
section KB
variable {l : Launch} {y : MethodName} {b : ByteArray} {n : Nat} {ret : Option FieldType} {rm : Room} {γ : kG} {L : List Nat} {F : kF} {av : List Value} {ok : kOk} {no : String → Prop}
theorem kBody {p : Program} {e : Env} {s : State} {m : MethodId} {args : Array Value} {below : List Frame} {meth : Method} {c : Code} {s₁ : State} {sz : Nat} (B : BodyLoose p l y (headSpec (kWs y b n ret) rm) b n ret e s m args below meth c s₁) (hml : c.maxLocals = n) (hv : va_Pc av (kIn γ L F sz) args s) :
    args = av.toArray ∧ s.heap.size = sz ∧ kM p s m args meth c b n ret y.cls ∧ kE γ (kA L sz) s ∧ kX γ (kA L sz) s L F s.heap [] := by
  obtain ⟨h0, h1, h2, h3, h4, h5⟩ := hv
  refine ⟨h0, h1, ⟨B.exec, B.bytes, hml, findClass_of_methodNamed B.named, fun w hw => atoms_spec (ws := kWs y b n ret) B.pre w (List.mem_cons_of_mem _ hw), B.returns, B.notSynchronized, rfl⟩, ⟨h3, h5, fun q hq => Or.inr (h1 ▸ hq)⟩, h2, ⟨h4, fun a ha => Or.inl ha⟩, va_S.rf⟩
theorem kC_of (hy : plainFor y = true) (hn : (lg_sl av).length ≤ n) (body : ∀ p e s m args below meth c sz ls, args = av.toArray → s.heap.size = sz → kM p s m args meth c b n ret y.cls → (y.name = "<init>" → meth.name = "<init>") → kE γ (kA L sz) s → kX γ (kA L sz) s L F s.heap [] → lv_has ls n (lv_args 0 av) → W p l e rm s m args below meth c s.heap [] 0 0 (MQ below (kQ γ L sz ok) args s rm.cells rm.slots (kA L sz)) (F0 m 0 ls [])) : kC l y b n ret rm γ L F av ok := by
  intro sz
  refine va_MetF (cc := b) (maxL := n) (ret := ret) hy rfl ?_
  intro p e s m args below meth c s₁ B hml hv
  obtain ⟨e0, e1, hM, hE, hX⟩ := kBody B hml hv
  have hl := lv_entry av hn
  subst e0
  rw [lg_entry_eq]
  exact body p e s m _ below meth c sz _ rfl e1 hM (fun hi => by rw [← hi]; exact (name_of_methodNamed B.named B.method).1) hE hX hl
theorem kD_of (hy : plainName y.cls = true) (hn : (lg_sl av).length ≤ n) (body : ∀ p e s m args below meth c sz ls, args = av.toArray → s.heap.size = sz → kM p s m args meth c b n ret y.cls → (∀ x ∈ c.exceptionTable.toList, False) → kE γ (kA L sz) s → kX γ (kA L sz) s L F s.heap [] → lv_has ls n (lv_args 0 av) → W p l e rm s m args below meth c s.heap [] 0 0 (vx_MQ below (kQ γ L sz ok) (kXC γ L F sz no) args s rm.cells rm.slots (kA L sz)) (F0 m 0 ls [])) : kD l y b n ret rm γ L F av ok no := by
  intro sz
  refine vx_ofW (cc := b) (maxL := n) (ret := ret) hy rfl ?_
  intro p e s m args below meth c s₁ B hml ht hv
  obtain ⟨e0, e1, hM, hE, hX⟩ := kBody B hml hv
  have hl := lv_entry av hn
  subst e0
  rw [lg_entry_eq]
  exact body p e s m _ below meth c sz _ rfl e1 hM ht hE hX hl
end KB
section KR
variable {p : Program} {l : Launch} {e : Env} {R : Room} {s : State} {m : MethodId} {args : Array Value} {below : List Frame} {meth : Method} {c : Code} {H : Heap} {locs : List Loc} {cells slots : Nat} {Q : State → Prop}
variable {cc : ByteArray} {nL : Nat} {ret : Option FieldType} {own : String} {γ : kG} {A : Nat → Prop} {L : List Nat} {F : kF} {pc : Nat} {ls : Array Slot} {rest : List Value}
/-- a field is read -/
theorem k_get (hM : kM p s m args meth c cc nL ret own) (hE : kE γ A s) (hX : kX γ A s L F H locs) {ci N : Nat} {C ref : String} {T : u_T} {a : Nat} {fs : List Value} (ha : a ∈ L) (hF : F a = .inr (ci, fs)) (hc : vwCl[ci]? = some (C, T, N)) (k : Nat) (hk : k < N) (hin : ∀ w ∈ u_ws C T N, w ∈ W0) {index : Nat} (hlink : Cond.fieldLink own index ref (T k).2.1 (T k).2.2.1 ∈ W0) (hsame : ∀ x, s.fieldFound? (T k).1 (T k).2.1 (T k).2.2.1 = some x → s.fieldFound? ref (T k).2.1 (T k).2.2.1 = some x) {v : Value} (hv : fs[k]? = some v) (hdg : decode cc pc = .ok (.getfield index, 3))
    (kk : W p l e R s m args below meth c H locs cells slots Q (F0 m (pc + 3) ls (v :: rest))) : W p l e R s m args below meth c H locs cells slots Q (F0 m pc ls (.ref a :: rest)) := by
  obtain ⟨hx, hb, hml, hown, hts, -⟩ := hM
  obtain ⟨k0, hk0⟩ := kX_get hX ha hF
  exact va_get hx hb hts hin hown hE.1 hX.1 k0 hk0 hc k hk (hts _ hlink) hsame hv hdg kk
/-- a field is written -/
theorem k_put (hM : kM p s m args meth c cc nL ret own) (hE : kE γ A s) (hX : kX γ A s L F H locs) {ci N : Nat} {C ref : String} {T : u_T} {a : Nat} {fs : List Value} (ha : a ∈ L) (hF : F a = .inr (ci, fs)) (hc : vwCl[ci]? = some (C, T, N)) (k : Nat) (hk : k < N) (hin : ∀ w ∈ u_ws C T N, w ∈ W0) (ty0 : Nat → FieldType) (hty : ∀ k, k < N → parseFieldDescriptor (T k).2.2.1 = some (ty0 k)) (hnm : ∀ a, a < N → ∀ b, b < N → a ≠ b → (T a).2.1 ≠ (T b).2.1) {index : Nat} (hlink : Cond.fieldLink own index ref (T k).2.1 (T k).2.2.1 ∈ W0) (hsame : ∀ x, s.fieldFound? (T k).1 (T k).2.1 (T k).2.2.1 = some x → s.fieldFound? ref (T k).2.1 (T k).2.2.1 = some x) (hfin : (T k).2.2.2 = false ∨ (meth.name = "<init>" ∧ (T k).1 = own)) {v : Value} (hn : narrow (ty0 k) v = v) (hfit : fits (ty0 k) v = true) (hl : k < fs.length) (hdg : decode cc pc = .ok (.putfield index, 3))
    (kk : ∀ (H1 : Heap) (locs1 : List Loc), kX γ A s L (va_up F a (.inr (ci, fs.set k v))) H1 locs1 → W p l e R s m args below meth c H1 locs1 cells slots Q (F0 m (pc + 3) ls rest)) : W p l e R s m args below meth c H locs cells slots Q (F0 m pc ls (v :: .ref a :: rest)) := by
  obtain ⟨hx, hb, hml, hown, hts, -⟩ := hM
  obtain ⟨k0, hk0⟩ := kX_get hX ha hF
  rcases hfin with hf | ⟨hi, ho⟩
  · exact va_put hx hb hts hin ty0 hty hnm hown hE.1 hX.1 (kN_D hX.2.1) hX.2.2 k0 hk0 hc k hk (hts _ hlink) hsame hf (hty k hk) hn hfit hl hdg fun H1 locs1 hP hD hS => kk H1 locs1 (kX_set hX ha hF hk0 hP hS)
  · by_cases hf : (T k).2.2.2 = true
    · exact va_putF hx hb hts hin ty0 hty hnm hown hE.1 hX.1 (kN_D hX.2.1) hX.2.2 k0 hk0 hc k hk (hts _ hlink) hsame hf hi ho (hty k hk) hn hfit hl hdg fun H1 locs1 hP hD hS => kk H1 locs1 (kX_set hX ha hF hk0 hP hS)
    · exact va_put hx hb hts hin ty0 hty hnm hown hE.1 hX.1 (kN_D hX.2.1) hX.2.2 k0 hk0 hc k hk (hts _ hlink) hsame (by simpa using hf) (hty k hk) hn hfit hl hdg fun H1 locs1 hP hD hS => kk H1 locs1 (kX_set hX ha hF hk0 hP hS)
theorem k_iald (hM : kM p s m args meth c cc nL ret own) (hE : kE γ A s) (hX : kX γ A s L F H locs) {a n : Nat} {f : Nat → Int32} (ha : a ∈ L) (hF : F a = .inl (γ.2.1 1, n, .inl f)) {i : Int32} (hin : vp_in i n) (hdg : decode cc pc = .ok (.iaload, 1))
    (kk : W p l e R s m args below meth c H locs cells slots Q (F0 m (pc + 1) ls (.int (f i.toNatClampNeg) :: rest))) : W p l e R s m args below meth c H locs cells slots Q (F0 m pc ls (.int i :: .ref a :: rest)) := by
  obtain ⟨k0, hk0⟩ := kX_get hX ha hF
  exact va_iald hM.1 hM.2.1 hE.1 hX.1 k0 1 hk0 rfl hin hdg kk
theorem k_zald (hM : kM p s m args meth c cc nL ret own) (hE : kE γ A s) (hX : kX γ A s L F H locs) {a n : Nat} {f : Nat → Int32} (ha : a ∈ L) (hF : F a = .inl (γ.2.1 2, n, .inl f)) {i : Int32} (hin : vp_in i n) (hdg : decode cc pc = .ok (.baload, 1))
    (kk : W p l e R s m args below meth c H locs cells slots Q (F0 m (pc + 1) ls (.int (f i.toNatClampNeg) :: rest))) : W p l e R s m args below meth c H locs cells slots Q (F0 m pc ls (.int i :: .ref a :: rest)) := by
  obtain ⟨k0, hk0⟩ := kX_get hX ha hF
  exact va_zald hM.1 hM.2.1 hE.1 hX.1 k0 2 hk0 rfl hin hdg kk
theorem k_bald (hM : kM p s m args meth c cc nL ret own) (hE : kE γ A s) (hX : kX γ A s L F H locs) {a n : Nat} {f : Nat → Int32} (ha : a ∈ L) (hF : F a = .inl (γ.2.1 0, n, .inl f)) {i : Int32} (hin : vp_in i n) (hdg : decode cc pc = .ok (.baload, 1))
    (kk : W p l e R s m args below meth c H locs cells slots Q (F0 m (pc + 1) ls (.int (f i.toNatClampNeg) :: rest))) : W p l e R s m args below meth c H locs cells slots Q (F0 m pc ls (.int i :: .ref a :: rest)) := by
  obtain ⟨k0, hk0⟩ := kX_get hX ha hF
  exact va_bald hM.1 hM.2.1 hE.1 hX.1 k0 0 hk0 rfl hin hdg kk
theorem k_lald (hM : kM p s m args meth c cc nL ret own) (hE : kE γ A s) (hX : kX γ A s L F H locs) {a n : Nat} {f : Nat → Int64} (ha : a ∈ L) (hF : F a = .inl (γ.2.1 3, n, .inr (.inl f))) {i : Int32} (hin : vp_in i n) (hdg : decode cc pc = .ok (.laload, 1))
    (kk : W p l e R s m args below meth c H locs cells slots Q (F0 m (pc + 1) ls (.long (f i.toNatClampNeg) :: rest))) : W p l e R s m args below meth c H locs cells slots Q (F0 m pc ls (.int i :: .ref a :: rest)) := by
  obtain ⟨k0, hk0⟩ := kX_get hX ha hF
  exact va_lald hM.1 hM.2.1 hE.1 hX.1 k0 3 hk0 rfl hin hdg kk
theorem k_aald (hM : kM p s m args meth c cc nL ret own) (hE : kE γ A s) (hX : kX γ A s L F H locs) {a n : Nat} {f : Nat → Option Nat} (ha : a ∈ L) (hF : F a = .inl (γ.2.1 4, n, .inr (.inr (.inr (.inr f))))) {i : Int32} (hin : vp_in i n) (hdg : decode cc pc = .ok (.aaload, 1))
    (kk : W p l e R s m args below meth c H locs cells slots Q (F0 m (pc + 1) ls (va_rf (f i.toNatClampNeg) :: rest))) : W p l e R s m args below meth c H locs cells slots Q (F0 m pc ls (.int i :: .ref a :: rest)) := by
  obtain ⟨k0, hk0⟩ := kX_get hX ha hF
  exact va_aldq hM.1 hM.2.1 hE.1 hX.1 k0 4 hk0 rfl hin hdg kk
theorem k_iast (hM : kM p s m args meth c cc nL ret own) (hE : kE γ A s) (hX : kX γ A s L F H locs) {a n : Nat} {f : Nat → Int32} (ha : a ∈ L) (hF : F a = .inl (γ.2.1 1, n, .inl f)) {i x : Int32} (hin : vp_in i n) (hdg : decode cc pc = .ok (.iastore, 1))
    (kk : ∀ (H1 : Heap) (locs1 : List Loc), kX γ A s L (va_up F a (.inl (γ.2.1 1, n, .inl (upd f i.toNatClampNeg x)))) H1 locs1 → W p l e R s m args below meth c H1 locs1 cells slots Q (F0 m (pc + 1) ls rest)) : W p l e R s m args below meth c H locs cells slots Q (F0 m pc ls (.int x :: .int i :: .ref a :: rest)) := by
  obtain ⟨k0, hk0⟩ := kX_get hX ha hF
  exact va_iast hM.1 hM.2.1 hE.1 hX.1 (kN_D hX.2.1) hX.2.2 k0 1 hk0 rfl hin hdg fun H1 locs1 hP hD hS => kk H1 locs1 (kX_set hX ha hF hk0 hP hS)
theorem k_zast (hM : kM p s m args meth c cc nL ret own) (hE : kE γ A s) (hX : kX γ A s L F H locs) {a n : Nat} {f : Nat → Int32} (ha : a ∈ L) (hF : F a = .inl (γ.2.1 2, n, .inl f)) {i x : Int32} (hin : vp_in i n) (hdg : decode cc pc = .ok (.bastore, 1))
    (kk : ∀ (H1 : Heap) (locs1 : List Loc), kX γ A s L (va_up F a (.inl (γ.2.1 2, n, .inl (upd f i.toNatClampNeg (vp_nar .boolean x))))) H1 locs1 → W p l e R s m args below meth c H1 locs1 cells slots Q (F0 m (pc + 1) ls rest)) : W p l e R s m args below meth c H locs cells slots Q (F0 m pc ls (.int x :: .int i :: .ref a :: rest)) := by
  obtain ⟨k0, hk0⟩ := kX_get hX ha hF
  exact va_zast hM.1 hM.2.1 hE.1 hX.1 (kN_D hX.2.1) hX.2.2 k0 2 hk0 rfl hin hdg fun H1 locs1 hP hD hS => kk H1 locs1 (kX_set hX ha hF hk0 hP hS)
theorem k_bast (hM : kM p s m args meth c cc nL ret own) (hE : kE γ A s) (hX : kX γ A s L F H locs) {a n : Nat} {f : Nat → Int32} (ha : a ∈ L) (hF : F a = .inl (γ.2.1 0, n, .inl f)) {i x : Int32} (hin : vp_in i n) (hdg : decode cc pc = .ok (.bastore, 1))
    (kk : ∀ (H1 : Heap) (locs1 : List Loc), kX γ A s L (va_up F a (.inl (γ.2.1 0, n, .inl (upd f i.toNatClampNeg (vp_nar .byte x))))) H1 locs1 → W p l e R s m args below meth c H1 locs1 cells slots Q (F0 m (pc + 1) ls rest)) : W p l e R s m args below meth c H locs cells slots Q (F0 m pc ls (.int x :: .int i :: .ref a :: rest)) := by
  obtain ⟨k0, hk0⟩ := kX_get hX ha hF
  exact va_bast hM.1 hM.2.1 hE.1 hX.1 (kN_D hX.2.1) hX.2.2 k0 0 hk0 rfl hin hdg fun H1 locs1 hP hD hS => kk H1 locs1 (kX_set hX ha hF hk0 hP hS)
theorem k_last (hM : kM p s m args meth c cc nL ret own) (hE : kE γ A s) (hX : kX γ A s L F H locs) {a n : Nat} {f : Nat → Int64} (ha : a ∈ L) (hF : F a = .inl (γ.2.1 3, n, .inr (.inl f))) {i : Int32} {x : Int64} (hin : vp_in i n) (hdg : decode cc pc = .ok (.lastore, 1))
    (kk : ∀ (H1 : Heap) (locs1 : List Loc), kX γ A s L (va_up F a (.inl (γ.2.1 3, n, .inr (.inl (vp_updL f i.toNatClampNeg x))))) H1 locs1 → W p l e R s m args below meth c H1 locs1 cells slots Q (F0 m (pc + 1) ls rest)) : W p l e R s m args below meth c H locs cells slots Q (F0 m pc ls (.long x :: .int i :: .ref a :: rest)) := by
  obtain ⟨k0, hk0⟩ := kX_get hX ha hF
  exact va_last hM.1 hM.2.1 hE.1 hX.1 (kN_D hX.2.1) hX.2.2 k0 3 hk0 rfl hin hdg fun H1 locs1 hP hD hS => kk H1 locs1 (kX_set hX ha hF hk0 hP hS)
theorem k_alen (hM : kM p s m args meth c cc nL ret own) (hE : kE γ A s) (hX : kX γ A s L F H locs) {a t0 : Nat} {cA : ClassId} {x : vp_A} (ha : a ∈ L) (hF : F a = .inl (cA, x)) {ty : FieldType} (ht : (kT γ)[t0]? = some (cA, ty)) {v : Int32} (hv : nI x.1 = v) (hdg : decode cc pc = .ok (.arraylength, 1))
    (kk : W p l e R s m args below meth c H locs cells slots Q (F0 m (pc + 1) ls (.int v :: rest))) : W p l e R s m args below meth c H locs cells slots Q (F0 m pc ls (.ref a :: rest)) := by
  obtain ⟨k0, hk0⟩ := kX_get hX ha hF
  exact va_alen hM.1 hM.2.1 hE.1 hX.1 k0 t0 hk0 ht hv hdg kk
/-- a new object -/
theorem k_new (hM : kM p s m args meth c cc nL ret own) (hE : kE γ A s) (hX : kX γ A s L F H locs) {ci N : Nat} {C : String} {T : u_T} (hc : vwCl[ci]? = some (C, T, N)) (hin : ∀ w ∈ u_ws C T N, w ∈ W0) (ty : Nat → FieldType) (hty : ∀ k, k < N → parseFieldDescriptor (T k).2.2.1 = some (ty k)) {index : Nat} (hcl : Cond.classLink own index C ∈ W0) (hinst : Cond.instantiable C N ∈ W0) (hini : Cond.initialized C ∈ W0) {fs : List Value} (hfs : ∀ j, j < N → defaultValue (ty j) = vp_V fs j) (hcells : cells + 1 ≤ R.cells) (hslots : slots + N ≤ R.slots) (hdg : decode cc pc = .ok (.new index, 3))
    (kk : ∀ (q : Nat) (H1 : Heap), q ∉ L → kX γ A s (L ++ [q]) (va_up F q (.inr (ci, fs))) H1 locs → W p l e R s m args below meth c H1 locs (cells + 1) (slots + N) Q (F0 m (pc + 3) ls (.ref q :: rest))) : W p l e R s m args below meth c H locs cells slots Q (F0 m pc ls rest) := by
  obtain ⟨hx, hb, hml, hown, hts, -⟩ := hM
  exact va_new hx hb hts hin ty hty hown (hts _ hcl) (hts _ hinst) (hts _ hini) hE.1 hX.1 (kN_D hX.2.1) hX.2.2 hE.2.2 hc hfs hcells hslots hdg fun q H1 hP hD hS => kk q H1 (kX_push hX hP hD hS).1 (kX_push hX hP hD hS).2
/-- the class of a new array is the one that is known -/
theorem kK_arr {γ : kG} {s : State} (hK : kK γ s) {t0 : Nat} {c1 c2 : ClassId} {ty : FieldType} (h1 : (kT γ)[t0]? = some (c1, ty)) (hK2 : va_K γ.1 vwCl (kT γ ++ [(c2, ty)]) s) : c2 = c1 := by
  have a1 := (hK.2 t0 _ h1).2
  have a2 := (hK2.2 (kT γ).length (c2, ty) (by simp)).2
  cases ty
  case object C =>
    obtain ⟨-, -, -, -, -, e1⟩ := a1
    obtain ⟨-, -, -, -, -, e2⟩ := a2
    exact Option.some.inj (e2.symm.trans e1)
  all_goals
    have e1 : s.vm.findClass _ = some c1 := a1
    have e2 : s.vm.findClass _ = some c2 := a2
    exact Option.some.inj (e2.symm.trans e1)
theorem k_newa (hM : kM p s m args meth c cc nL ret own) (hE : kE γ A s) (hX : kX γ A s L F H locs) {t0 : Nat} {atype : ArrayType} {ty : FieldType} {cA : ClassId} (hty : newarray.typeOf atype = ty) (ht : (kT γ)[t0]? = some (cA, ty)) (harr : Cond.arrayClass ty ∈ W0) {n : Int32} {N' : Nat} {a0 : vp_A} (ha : ∀ cA : ClassId, vp_cell cA a0 = arrV cA N' (fun _ => defaultValue ty)) (hn : ¬ n < 0) (hN : n.toNatClampNeg = N') (hbytes : N' * componentBytes ty ≤ 536870912) (hcells : cells + 1 ≤ R.cells) (hslots : slots + N' ≤ R.slots) (hdg : decode cc pc = .ok (.newarray atype, 2))
    (kk : ∀ (q : Nat) (H1 : Heap), q ∉ L → kX γ A s (L ++ [q]) (va_up F q (.inl (cA, a0))) H1 locs → W p l e R s m args below meth c H1 locs (cells + 1) (slots + N') Q (F0 m (pc + 2) ls (.ref q :: rest))) : W p l e R s m args below meth c H locs cells slots Q (F0 m pc ls (.int n :: rest)) := by
  obtain ⟨hx, hb, hml, hown, hts, -⟩ := hM
  refine va_newa hx hb (by rw [hty]; exact hts _ harr) hty hE.1 hX.1 (kN_D hX.2.1) hX.2.2 hE.2.2 ha hn hN hbytes hcells hslots hdg fun q cA' H1 hK hP hD hS => ?_
  have e0 := kK_arr hE.1 ht hK
  subst e0
  exact kk q H1 (kX_push hX hP hD hS).1 (kX_push hX hP hD hS).2
theorem k_newq (hM : kM p s m args meth c cc nL ret own) (hE : kE γ A s) (hX : kX γ A s L F H locs) {index : Nat} (hcl : Cond.classLink own index "java/lang/Object" ∈ W0) {n : Int32} {N' : Nat} (hn : ¬ n < 0) (hN : n.toNatClampNeg = N') (hbytes : N' * 4 ≤ 536870912) (hcells : cells + 1 ≤ R.cells) (hslots : slots + N' ≤ R.slots) (hdg : decode cc pc = .ok (.anewarray index, 3))
    (kk : ∀ (q : Nat) (H1 : Heap), q ∉ L → kX γ A s (L ++ [q]) (va_up F q (.inl (γ.2.1 4, N', .inr (.inr (.inr (.inr (fun _ => none))))))) H1 locs → W p l e R s m args below meth c H1 locs (cells + 1) (slots + N') Q (F0 m (pc + 3) ls (.ref q :: rest))) : W p l e R s m args below meth c H locs cells slots Q (F0 m pc ls (.int n :: rest)) := by
  obtain ⟨hx, hb, hml, hown, hts, -⟩ := hM
  obtain ⟨-, -, -, -, -, -, -, -, -, hAO, -⟩ := hE.2.1
  refine va_newq hx hb hown (hts _ hcl) hAO hE.1 hX.1 (kN_D hX.2.1) hX.2.2 hE.2.2 hn hN hbytes hcells hslots hdg fun q cA' H1 hK hP hD hS => ?_
  have e0 := kK_arr (t0 := 4) hE.1 rfl hK
  subst e0
  exact kk q H1 (kX_push hX hP hD hS).1 (kX_push hX hP hD hS).2
/-- a method's end -/
theorem k_end {sz : Nat} {ok : kOk} {L0 : List Nat} {v : Option Value} (hsz : s.heap.size = sz) (hX : kX γ (kA L0 sz) s L F H locs) (hok : ok v L F) (t : State) (ht : t.heap = H) : kQ γ L0 sz ok args s (.returned v) t :=
  ⟨⟨v, (L, F), rfl, hok, by rw [ht]; exact hX.1, hX.2.1.1, hX.2.1.2⟩, hX.2.2.F ht⟩
theorem k_iret {sz mc ms : Nat} {ok : kOk} {L0 : List Nat} {x : Int32} (hM : kM p s m args meth c cc nL (some .int) own) (hsz : s.heap.size = sz) (hX : kX γ (kA L0 sz) s L F H locs) (hok : ok (some (.int x)) L F) (h1 : cells ≤ mc) (h2 : slots ≤ ms) (hdg : decode cc pc = .ok (.ireturn, 1)) : W p l e R s m args below meth c H locs cells slots (MQ below (kQ γ L0 sz ok) args s mc ms (kA L0 sz)) (F0 m pc ls [.int x]) :=
  W.widen h1 h2 (W.iret hM.1 hM.2.1 hM.2.2.2.2.2.1 (fun t ht _ => k_end hsz hX hok t ht) hX.2.2.2.2 hdg hM.2.2.2.2.2.2.1)
theorem k_zret {sz mc ms : Nat} {ok : kOk} {L0 : List Nat} {x : Int32} {ty : FieldType} (hM : kM p s m args meth c cc nL (some ty) own) (hn : narrow ty (.int x) = .int x) (hsz : s.heap.size = sz) (hX : kX γ (kA L0 sz) s L F H locs) (hok : ok (some (.int x)) L F) (h1 : cells ≤ mc) (h2 : slots ≤ ms) (hdg : decode cc pc = .ok (.ireturn, 1)) : W p l e R s m args below meth c H locs cells slots (MQ below (kQ γ L0 sz ok) args s mc ms (kA L0 sz)) (F0 m pc ls [.int x]) :=
  W.widen h1 h2 (W.zret hM.1 hM.2.1 hM.2.2.2.2.2.1 hn (fun t ht _ => k_end hsz hX hok t ht) hX.2.2.2.2 hdg hM.2.2.2.2.2.2.1)
theorem k_vret {sz mc ms : Nat} {ok : kOk} {L0 : List Nat} (hM : kM p s m args meth c cc nL none own) (hsz : s.heap.size = sz) (hX : kX γ (kA L0 sz) s L F H locs) (hok : ok none L F) (h1 : cells ≤ mc) (h2 : slots ≤ ms) (hdg : decode cc pc = .ok (.return_, 1)) : W p l e R s m args below meth c H locs cells slots (MQ below (kQ γ L0 sz ok) args s mc ms (kA L0 sz)) (F0 m pc ls []) :=
  W.widen h1 h2 (W.vret hM.1 hM.2.1 hM.2.2.2.2.2.1 (fun t ht _ => k_end hsz hX hok t ht) hX.2.2.2.2 hdg hM.2.2.2.2.2.2.1)
theorem k_aret {sz mc ms : Nat} {ok : kOk} {L0 : List Nat} {a : Nat} {ty : FieldType} (hM : kM p s m args meth c cc nL (some ty) own) (hty : (∃ n, ty = .object n) ∨ ∃ t, ty = .array t) (hsz : s.heap.size = sz) (hX : kX γ (kA L0 sz) s L F H locs) (hok : ok (some (.ref a)) L F) (h1 : cells ≤ mc) (h2 : slots ≤ ms) (hdg : decode cc pc = .ok (.areturn, 1)) : W p l e R s m args below meth c H locs cells slots (MQ below (kQ γ L0 sz ok) args s mc ms (kA L0 sz)) (F0 m pc ls [.ref a]) :=
  W.widen h1 h2 (W.aret hM.1 hM.2.1 hM.2.2.2.2.2.1 hty (Or.inr ⟨a, rfl⟩) (fun t ht _ => k_end hsz hX hok t ht) hX.2.2.2.2 hdg hM.2.2.2.2.2.2.1)
/-- a callee's entry, from here -/
theorem k_in (hE : kE γ A s) (hX : kX γ A s L F H locs) (av : List Value) (U : State) (hU : U.heap = H) (hW : s.WarmedH U.vm) : va_Pc av (kIn γ L F H.size) av.toArray U :=
  ⟨rfl, by rw [hU], by rw [hU]; exact hX.1, va_K.moved hW.alike hE.1, hX.2.1.1, hE.2.1.to hX.2.2 hU hW (kX_sub hX hE.2.2)⟩
theorem k_recv (hE : kE γ A s) (hX : kX γ A s L F H locs) {ci : Nat} {q : vw_C} {a : Nat} {fs : List Value} (ha : a ∈ L) (hF : F a = .inr (ci, fs)) (hc : vwCl[ci]? = some q) : ∃ cell : Cell, H[a]? = some cell ∧ cell.vm.isStatics = false ∧ s.vm.findClass q.1 = some cell.cls := by
  obtain ⟨k0, hk0⟩ := kX_get hX ha hF
  exact va_recv hE.1 hX.1 hc hk0
/-- behind a callee -/
theorem k_back (hE : kE γ A s) (hX : kX γ A s L F H locs) {u : List Nat × kF} {t : State} {H1 : Heap} {locs1 : List Loc} (ht : t.heap = H1) (hB : kOut γ L H.size u t) (hS : va_S A s.heap H1 locs1) : kX γ A s u.1 u.2 H1 locs1 :=
  ⟨by rw [← ht]; exact hB.1, ⟨hB.2.1, fun a ha => kX_sub hX hE.2.2 a (hB.2.2 a ha)⟩, hS⟩
theorem k_go {ok : kOk} {mc ms : Nat} {st0 : List Value} {a : Array Value} (hr : va_Run p l e R s m args below meth c H locs cells slots mc ms (F0 m pc ls st0) rest (kQ γ L H.size ok a) (kA L H.size)) (hE : kE γ A s) (hX : kX γ A s L F H locs)
    (kk : ∀ (v : Option Value) (L1 : List Nat) (F1 : kF) (H1 : Heap) (locs1 : List Loc), ok v L1 F1 → kX γ A s L1 F1 H1 locs1 → W p l e R s m args below meth c H1 locs1 (cells + mc) (slots + ms) Q (F0 m (pc + 3) ls (v.toList ++ rest))) : W p l e R s m args below meth c H locs cells slots Q (F0 m pc ls st0) := by
  intro T hT X
  obtain ⟨v, st₀, t, T', L9, h0, X', hL, e1, e2, ⟨⟨v', u, hv, hok, hB⟩, hF⟩, st⟩ := hr T hT X
  cases hv
  obtain ⟨k1, k2, k3⟩ := vx_keep h0 e1 hX.2.2 (fun q _ h => kX_sub hX hE.2.2 q h) (kX_sub hX hE.2.2) hL hF
  obtain ⟨t2, a1, b1⟩ := kk v u.1 u.2 T'.heap (locs ++ L9) hok (k_back hE hX e1.symm hB k3) T' rfl X'
  exact ⟨t2, st t2 a1, b1⟩
end KR
end
section
/-! calls, throws -/
def kI (P : Int32 → List Nat → kF → Prop) : kOk := fun v L F => ∃ r : Int32, v = some (.int r) ∧ P r L F
def kU (P : List Nat → kF → Prop) : kOk := fun v L F => v = none ∧ P L F
def kR (P : Nat → List Nat → kF → Prop) : kOk := fun v L F => ∃ a : Nat, v = some (.ref a) ∧ P a L F
theorem W0_good {w : Cond} (h : w ∈ W0) : w ∈ W0 ∧ ((w.onTables && w.keeps) = true ∨ ∃ ty, w = .arrayClass ty) := ⟨h, good_of_word (List.mem_filter.mp h).2⟩
theorem kG_0 {y : MethodName} {b : ByteArray} {n : Nat} {ret : Option FieldType} (w5 : Cond.code y b n ret ∈ W0) : GoodIn W0 (kWs y b n ret) := by
  intro w hw
  rcases List.mem_cons.mp hw with rfl | hw
  · exact W0_good w5
  · exact W0_good hw
theorem kG_V {own C : String} {idx : Nat} {y : MethodName} {b : ByteArray} {n : Nat} {ret : Option FieldType} (w1 : Cond.methodLink own idx y ∈ W0) (w2 : Cond.instanceMethod y ∈ W0) (w3 : Cond.selects C y y ∈ W0) (w4 : Cond.initialized C ∈ W0) (w5 : Cond.code y b n ret ∈ W0) : GoodIn W0 (wsV own idx C y (kWs y b n ret)) := by
  intro w hw
  rcases List.mem_append.mp hw with hw | hw
  · simp only [List.mem_cons, List.not_mem_nil, or_false] at hw
    rcases hw with rfl | rfl | rfl | rfl <;> exact W0_good (by assumption)
  · exact kG_0 w5 w hw
theorem kG_S {own : String} {idx : Nat} {y : MethodName} {b : ByteArray} {n : Nat} {ret : Option FieldType} (w1 : Cond.methodLink own idx y ∈ W0) (w2 : Cond.static y ∈ W0) (w4 : Cond.initialized y.cls ∈ W0) (w5 : Cond.code y b n ret ∈ W0) : GoodIn W0 (va_wsS own idx y (kWs y b n ret)) := by
  intro w hw
  rcases List.mem_append.mp hw with hw | hw
  · simp only [List.mem_cons, List.not_mem_nil, or_false] at hw
    rcases hw with rfl | rfl | rfl <;> exact W0_good (by assumption)
  · exact kG_0 w5 w hw
theorem kG_U {own C owner : String} {idx : Nat} {x y : MethodName} {b : ByteArray} {n : Nat} {ret : Option FieldType} (w1 : Cond.methodLink own idx x ∈ W0) (w2 : Cond.sameMethod x.cls owner x.name x.desc ∈ W0) (w3 : Cond.selects C x y ∈ W0) (w4 : Cond.instanceMethod y ∈ W0) (w6 : Cond.initialized y.cls ∈ W0) (w5 : Cond.code y b n ret ∈ W0) : GoodIn W0 (va_wsU own idx C owner x y (kWs y b n ret)) := by
  intro w hw
  rcases List.mem_append.mp hw with hw | hw
  · simp only [List.mem_cons, List.not_mem_nil, or_false] at hw
    rcases hw with rfl | rfl | rfl | rfl | rfl <;> exact W0_good (by assumption)
  · exact kG_0 w5 w hw
theorem kG_SU {own : String} {idx : Nat} {y : MethodName} {b : ByteArray} {n : Nat} {ret : Option FieldType} (w1 : Cond.methodLink own idx y ∈ W0) (w2 : Cond.sameMethod y.cls y.cls y.name y.desc ∈ W0) (w3 : Cond.superclass own y.cls ∈ W0) (w4 : Cond.instanceMethod y ∈ W0) (w6 : Cond.initialized y.cls ∈ W0) (w5 : Cond.code y b n ret ∈ W0) : GoodIn W0 (va_wsSU own idx y (kWs y b n ret)) := by
  intro w hw
  rcases List.mem_append.mp hw with hw | hw
  · simp only [List.mem_cons, List.not_mem_nil, or_false] at hw
    rcases hw with rfl | rfl | rfl | rfl | rfl <;> exact W0_good (by assumption)
  · exact kG_0 w5 w hw
section KC
variable {p : Program} {l : Launch} {e : Env} {R : Room} {s : State} {m : MethodId} {args : Array Value} {below : List Frame} {meth : Method} {c : Code} {H : Heap} {locs : List Loc} {cells slots : Nat} {Q : State → Prop}
variable {cc : ByteArray} {nL : Nat} {ret : Option FieldType} {own : String} {γ : kG} {A : Nat → Prop} {L : List Nat} {F : kF} {pc : Nat} {ls : Array Slot} {rest st0 : List Value}
variable {y : MethodName} {bytes : ByteArray} {maxL n index : Nat} {rt : Option FieldType} {rm : Room} {As : List Value} {ok : kOk} {no : String → Prop} {lv : List (Nat × Value)}
/-- invokevirtual of the receiver's own class -/
theorem k_V (hM : kM p s m args meth c cc nL ret own) (hE : kE γ A s) (hX : kX γ A s L F H locs) (hl : lv_has ls nL lv) {ci N a : Nat} {C : String} {T : u_T} {fs : List Value} (hC : kC l y bytes maxL rt rm γ L F (.ref a :: As) ok) (ha : a ∈ L) (hF : F a = .inr (ci, fs)) (hc : vwCl[ci]? = some (C, T, N)) (w1 : Cond.methodLink own index y ∈ W0) (w2 : Cond.instanceMethod y ∈ W0) (w3 : Cond.selects C y y ∈ W0) (w4 : Cond.initialized C ∈ W0) (w5 : Cond.code y bytes maxL rt ∈ W0)
    (hd : y.cls = C ∧ y.cls ≠ "java/lang/invoke/MethodHandle" ∧ y.cls ≠ "java/lang/invoke/VarHandle" ∧ (parseMethodDescriptor y.desc).map (fun d => d.parameters.length) = some n) (hR : rm.frames + 1 ≤ R.frames ∧ 8 + (maxL + 11) + rm.locals ≤ R.locals) (hn : As.length = n) (hst : st0 = As.reverse ++ .ref a :: rest) (hW : (rest.map fun v => v.category).sum ≤ 8) (hdg : decode cc pc = .ok (.invokevirtual index, 3)) (hf : cells + rm.cells ≤ R.cells ∧ slots + rm.slots ≤ R.slots) :
    va_Run p l e R s m args below meth c H locs cells slots rm.cells rm.slots (F0 m pc ls st0) rest (kQ γ L H.size ok (Value.ref a :: As).toArray) (kA L H.size) :=
  va_runV (As := As) (rest := rest) ⟨hM.1, hM.2.1, hM.2.2.1, hM.2.2.2.1, hM.2.2.2.2.1⟩ (hC H.size) (cwV n hM.2.2.2.2.1 (kG_V w1 w2 w3 w4 w5) rfl rfl rfl hd hR) ⟨kIn_blind, k_recv hE hX ha hF hc, fun U hU hW => k_in hE hX _ U hU hW⟩ rfl hn hl.1 hst (lv_room hW) hdg hf
/-- invokestatic -/
theorem k_S (hM : kM p s m args meth c cc nL ret own) (hE : kE γ A s) (hX : kX γ A s L F H locs) (hl : lv_has ls nL lv) (hC : kC l y bytes maxL rt rm γ L F As ok) (w1 : Cond.methodLink own index y ∈ W0) (w2 : Cond.static y ∈ W0) (w4 : Cond.initialized y.cls ∈ W0) (w5 : Cond.code y bytes maxL rt ∈ W0)
    (hd : y.cls ≠ "java/lang/invoke/MethodHandle" ∧ y.cls ≠ "java/lang/invoke/VarHandle" ∧ (parseMethodDescriptor y.desc).map (fun d => d.parameters.length) = some n) (hR : rm.frames + 1 ≤ R.frames ∧ 8 + (maxL + 11) + rm.locals ≤ R.locals) (hn : As.length = n) (hst : st0 = As.reverse ++ rest) (hW : (rest.map fun v => v.category).sum ≤ 8) (hdg : decode cc pc = .ok (.invokestatic index, 3)) (hf : cells + rm.cells ≤ R.cells ∧ slots + rm.slots ≤ R.slots) :
    va_Run p l e R s m args below meth c H locs cells slots rm.cells rm.slots (F0 m pc ls st0) rest (kQ γ L H.size ok As.toArray) (kA L H.size) :=
  va_runS (As := As) (rest := rest) ⟨hM.1, hM.2.1, hM.2.2.1, hM.2.2.2.1, hM.2.2.2.2.1⟩ (hC H.size) (va_cwS n hM.2.2.2.2.1 (kG_S w1 w2 w4 w5) rfl rfl rfl hd hR) ⟨kIn_blind, fun U hU hW => k_in hE hX _ U hU hW⟩ rfl hn hl.1 hst (lv_room hW) hdg hf
/-- invokespecial of a constructor -/
theorem k_I (hM : kM p s m args meth c cc nL ret own) (hE : kE γ A s) (hX : kX γ A s L F H locs) (hl : lv_has ls nL lv) {a : Nat} (hC : kC l y bytes maxL none rm γ L F (.ref a :: As) ok) (w1 : Cond.methodLink own index y ∈ W0) (w2 : Cond.instanceMethod y ∈ W0) (w4 : Cond.initialized y.cls ∈ W0) (w5 : Cond.code y bytes maxL none ∈ W0)
    (hi : y.name = "<init>") (hd : y.cls ≠ "java/lang/invoke/MethodHandle" ∧ y.cls ≠ "java/lang/invoke/VarHandle" ∧ (parseMethodDescriptor y.desc).map (fun d => d.parameters.length) = some n) (hR : rm.frames + 1 ≤ R.frames ∧ 8 + (maxL + 11) + rm.locals ≤ R.locals) (hn : As.length = n) (hst : st0 = As.reverse ++ .ref a :: rest) (hW : (rest.map fun v => v.category).sum ≤ 8) (hdg : decode cc pc = .ok (.invokespecial index, 3)) (hf : cells + rm.cells ≤ R.cells ∧ slots + rm.slots ≤ R.slots) :
    va_Run p l e R s m args below meth c H locs cells slots rm.cells rm.slots (F0 m pc ls st0) rest (kQ γ L H.size ok (Value.ref a :: As).toArray) (kA L H.size) :=
  va_runI (As := As) (rest := rest) ⟨hM.1, hM.2.1, hM.2.2.1, hM.2.2.2.1, hM.2.2.2.2.1⟩ (hC H.size) (cwI n hM.2.2.2.2.1 (kG_0 w5) rfl rfl rfl (hM.2.2.2.2.1 _ w4) (hM.2.2.2.2.1 _ w1) (hM.2.2.2.2.1 _ w2) hi hd hR) ⟨kIn_blind, fun U hU hW => k_in hE hX _ U hU hW⟩ rfl hn hl.1 hst (lv_room hW) hdg hf
/-- a private static of the nest's host -/
theorem k_SN (hM : kM p s m args meth c cc nL ret own) (hE : kE γ A s) (hX : kX γ A s L F H locs) (hl : lv_has ls nL lv) {host : String} (hC : kC l y bytes maxL rt rm γ L F As ok) (w1 : va_Nw (.methodLinkNest own index y host) s) (w2 : Cond.static y ∈ W0) (w4 : Cond.initialized y.cls ∈ W0) (w5 : Cond.code y bytes maxL rt ∈ W0)
    (hd : y.cls ≠ "java/lang/invoke/MethodHandle" ∧ y.cls ≠ "java/lang/invoke/VarHandle" ∧ (parseMethodDescriptor y.desc).map (fun d => d.parameters.length) = some n) (hR : rm.frames + 1 ≤ R.frames ∧ 8 + (maxL + 11) + rm.locals ≤ R.locals) (hn : As.length = n) (hst : st0 = As.reverse ++ rest) (hW : (rest.map fun v => v.category).sum ≤ 8) (hdg : decode cc pc = .ok (.invokestatic index, 3)) (hf : cells + rm.cells ≤ R.cells ∧ slots + rm.slots ≤ R.slots) :
    va_Run p l e R s m args below meth c H locs cells slots rm.cells rm.slots (F0 m pc ls st0) rest (kQ γ L H.size ok As.toArray) (kA L H.size) :=
  va_runSN (As := As) (rest := rest) ⟨hM.1, hM.2.1, hM.2.2.1, hM.2.2.2.1, hM.2.2.2.2.1⟩ (hC H.size) ⟨va_cnB n hM.2.2.2.2.1 (kG_0 w5) rfl rfl rfl w1 (hM.2.2.2.2.1 _ w4) hd hR, hM.2.2.2.2.1 _ w2, trivial⟩ ⟨kIn_blind, fun U hU hW => k_in hE hX _ U hU hW⟩ rfl hn hl.1 hst (lv_room hW) hdg hf
/-- a method of a class above -/
theorem k_UU (hM : kM p s m args meth c cc nL ret own) (hE : kE γ A s) (hX : kX γ A s L F H locs) (hl : lv_has ls nL lv) {ci N a : Nat} {C owner : String} {T : u_T} {x : MethodName} {fs : List Value} (hC : kC l y bytes maxL rt rm γ L F (.ref a :: As) ok) (ha : a ∈ L) (hF : F a = .inr (ci, fs)) (hc : vwCl[ci]? = some (C, T, N)) (w1 : Cond.methodLink own index x ∈ W0) (w2 : Cond.sameMethod x.cls owner x.name x.desc ∈ W0) (w3 : Cond.selects C x y ∈ W0) (w4 : Cond.instanceMethod y ∈ W0) (w6 : Cond.initialized y.cls ∈ W0) (w5 : Cond.code y bytes maxL rt ∈ W0) (hyx : y = ⟨owner, x.name, x.desc⟩)
    (hd : owner ≠ "java/lang/invoke/MethodHandle" ∧ owner ≠ "java/lang/invoke/VarHandle" ∧ (parseMethodDescriptor x.desc).map (fun d => d.parameters.length) = some n) (hR : rm.frames + 1 ≤ R.frames ∧ 8 + (maxL + 11) + rm.locals ≤ R.locals) (hn : As.length = n) (hst : st0 = As.reverse ++ .ref a :: rest) (hW : (rest.map fun v => v.category).sum ≤ 8) (hdg : decode cc pc = .ok (.invokevirtual index, 3)) (hf : cells + rm.cells ≤ R.cells ∧ slots + rm.slots ≤ R.slots) :
    va_Run p l e R s m args below meth c H locs cells slots rm.cells rm.slots (F0 m pc ls st0) rest (kQ γ L H.size ok (Value.ref a :: As).toArray) (kA L H.size) :=
  va_runU (As := As) (rest := rest) ⟨hM.1, hM.2.1, hM.2.2.1, hM.2.2.2.1, hM.2.2.2.2.1⟩ (hC H.size) (va_cwU n hM.2.2.2.2.1 (kG_U w1 w2 w3 w4 w6 w5) rfl rfl rfl hyx hd hR) ⟨kIn_blind, k_recv hE hX ha hF hc, fun U hU hW => k_in hE hX _ U hU hW⟩ rfl hn hl.1 hst (lv_room hW) hdg hf
/-- super.m(..) -/
theorem k_SU (hM : kM p s m args meth c cc nL ret own) (hE : kE γ A s) (hX : kX γ A s L F H locs) (hl : lv_has ls nL lv) {ci N a : Nat} {C : String} {T : u_T} {fs : List Value} (hC : kC l y bytes maxL rt rm γ L F (.ref a :: As) ok) (ha : a ∈ L) (hF : F a = .inr (ci, fs)) (hc : vwCl[ci]? = some (C, T, N)) (w1 : Cond.methodLink own index y ∈ W0) (w2 : Cond.sameMethod y.cls y.cls y.name y.desc ∈ W0) (w3 : Cond.superclass own y.cls ∈ W0) (w4 : Cond.instanceMethod y ∈ W0) (w6 : Cond.initialized y.cls ∈ W0) (w5 : Cond.code y bytes maxL rt ∈ W0)
    (hd : y.name ≠ "<init>" ∧ (parseMethodDescriptor y.desc).map (fun d => d.parameters.length) = some n) (hR : rm.frames + 1 ≤ R.frames ∧ 8 + (maxL + 11) + rm.locals ≤ R.locals) (hn : As.length = n) (hst : st0 = As.reverse ++ .ref a :: rest) (hW : (rest.map fun v => v.category).sum ≤ 8) (hdg : decode cc pc = .ok (.invokespecial index, 3)) (hf : cells + rm.cells ≤ R.cells ∧ slots + rm.slots ≤ R.slots) :
    va_Run p l e R s m args below meth c H locs cells slots rm.cells rm.slots (F0 m pc ls st0) rest (kQ γ L H.size ok (Value.ref a :: As).toArray) (kA L H.size) :=
  va_runSU (As := As) (rest := rest) (hE.1.1 ci _ hc).2 ⟨hM.1, hM.2.1, hM.2.2.1, hM.2.2.2.1, hM.2.2.2.2.1⟩ (hC H.size) (va_cwSU n hM.2.2.2.2.1 (kG_SU w1 w2 w3 w4 w6 w5) rfl rfl rfl hd hR) ⟨kIn_blind, k_recv hE hX ha hF hc, fun U hU hW => k_in hE hX _ U hU hW⟩ rfl hn hl.1 hst (lv_room hW) hdg hf
variable {mc ms : Nat} {a0 : Array Value}
theorem k_goi {P : Int32 → List Nat → kF → Prop} (hr : va_Run p l e R s m args below meth c H locs cells slots mc ms (F0 m pc ls st0) rest (kQ γ L H.size (kI P) a0) (kA L H.size)) (hE : kE γ A s) (hX : kX γ A s L F H locs)
    (kk : ∀ (r : Int32) (L1 : List Nat) (F1 : kF) (H1 : Heap) (locs1 : List Loc), P r L1 F1 → kX γ A s L1 F1 H1 locs1 → W p l e R s m args below meth c H1 locs1 (cells + mc) (slots + ms) Q (F0 m (pc + 3) ls (.int r :: rest))) : W p l e R s m args below meth c H locs cells slots Q (F0 m pc ls st0) :=
  k_go hr hE hX fun v L1 F1 H1 locs1 ⟨r, hv, hp⟩ hX1 => by subst hv; exact kk r L1 F1 H1 locs1 hp hX1
theorem k_gou {P : List Nat → kF → Prop} (hr : va_Run p l e R s m args below meth c H locs cells slots mc ms (F0 m pc ls st0) rest (kQ γ L H.size (kU P) a0) (kA L H.size)) (hE : kE γ A s) (hX : kX γ A s L F H locs)
    (kk : ∀ (L1 : List Nat) (F1 : kF) (H1 : Heap) (locs1 : List Loc), P L1 F1 → kX γ A s L1 F1 H1 locs1 → W p l e R s m args below meth c H1 locs1 (cells + mc) (slots + ms) Q (F0 m (pc + 3) ls rest)) : W p l e R s m args below meth c H locs cells slots Q (F0 m pc ls st0) :=
  k_go hr hE hX fun v L1 F1 H1 locs1 ⟨hv, hp⟩ hX1 => by subst hv; exact kk L1 F1 H1 locs1 hp hX1
theorem k_gor {P : Nat → List Nat → kF → Prop} (hr : va_Run p l e R s m args below meth c H locs cells slots mc ms (F0 m pc ls st0) rest (kQ γ L H.size (kR P) a0) (kA L H.size)) (hE : kE γ A s) (hX : kX γ A s L F H locs)
    (kk : ∀ (r : Nat) (L1 : List Nat) (F1 : kF) (H1 : Heap) (locs1 : List Loc), P r L1 F1 → kX γ A s L1 F1 H1 locs1 → W p l e R s m args below meth c H1 locs1 (cells + mc) (slots + ms) Q (F0 m (pc + 3) ls (.ref r :: rest))) : W p l e R s m args below meth c H locs cells slots Q (F0 m pc ls st0) :=
  k_go hr hE hX fun v L1 F1 H1 locs1 ⟨r, hv, hp⟩ hX1 => by subst hv; exact kk r L1 F1 H1 locs1 hp hX1
/-- an object that comes from a list is of the class that the cast asks -/
theorem k_cast (hM : kM p s m args meth c cc nL ret own) (hE : kE γ A s) (hX : kX γ A s L F H locs) {ci N a : Nat} {C : String} {T : u_T} {fs : List Value} (ha : a ∈ L) (hF : F a = .inr (ci, fs)) (hc : vwCl[ci]? = some (C, T, N)) (hlink : Cond.classLink own index C ∈ W0) (hdg : decode cc pc = .ok (.checkcast index, 3))
    (kk : W p l e R s m args below meth c H locs cells slots Q (F0 m (pc + 3) ls (.ref a :: rest))) : W p l e R s m args below meth c H locs cells slots Q (F0 m pc ls (.ref a :: rest)) :=
  va_castS hM.1 hM.2.1 hM.2.2.2.1 (hM.2.2.2.2.1 _ hlink) (hE.1.1 ci _ hc).2 (k_recv hE hX ha hF hc) hdg kk
/-- Math.max, Math.min -/
theorem k_max (hM : kM p s m args meth c cc nL ret own) (hl : lv_has ls nL lv) (w1 : Cond.methodLink own index Lib.Math.max.name ∈ W0) (w2 : Cond.static Lib.Math.max.name ∈ W0) (w3 : Cond.initialized "java/lang/Math" ∈ W0) (w4 : Cond.code Lib.Math.max.name Lib.Math.max.code 2 (some .int) ∈ W0) (hR : 1 ≤ R.frames ∧ (rest.map fun v => v.category).sum + 13 ≤ R.locals) (hc : cells ≤ R.cells ∧ slots ≤ R.slots) {x z : Int32} (hdg : decode cc pc = .ok (.invokestatic index, 3))
    (kk : W p l e R s m args below meth c H locs cells slots Q (F0 m (pc + 3) ls (.int (if x < z then z else x) :: rest))) : W p l e R s m args below meth c H locs cells slots Q (F0 m pc ls (.int z :: .int x :: rest)) :=
  va_mmax hM.1 hM.2.1 (hM.2.2.1.trans hl.1.symm) hM.2.2.2.1 (hM.2.2.2.2.1 _ w1) (hM.2.2.2.2.1 _ w2) (hM.2.2.2.2.1 _ w3) (hM.2.2.2.2.1 _ w4) hR.1 hR.2 hc.1 hc.2 hdg kk
theorem k_min (hM : kM p s m args meth c cc nL ret own) (hl : lv_has ls nL lv) (w1 : Cond.methodLink own index Lib.Math.min.name ∈ W0) (w2 : Cond.static Lib.Math.min.name ∈ W0) (w3 : Cond.initialized "java/lang/Math" ∈ W0) (w4 : Cond.code Lib.Math.min.name Lib.Math.min.code 2 (some .int) ∈ W0) (hR : 1 ≤ R.frames ∧ (rest.map fun v => v.category).sum + 13 ≤ R.locals) (hc : cells ≤ R.cells ∧ slots ≤ R.slots) {x z : Int32} (hdg : decode cc pc = .ok (.invokestatic index, 3))
    (kk : W p l e R s m args below meth c H locs cells slots Q (F0 m (pc + 3) ls (.int (if z < x then z else x) :: rest))) : W p l e R s m args below meth c H locs cells slots Q (F0 m pc ls (.int z :: .int x :: rest)) :=
  va_mmin hM.1 hM.2.1 (hM.2.2.1.trans hl.1.symm) hM.2.2.2.1 (hM.2.2.2.2.1 _ w1) (hM.2.2.2.2.1 _ w2) (hM.2.2.2.2.1 _ w3) (hM.2.2.2.2.1 _ w4) hR.1 hR.2 hc.1 hc.2 hdg kk
/-- a throwing callee -/
theorem x_V (hM : kM p s m args meth c cc nL ret own) (hE : kE γ A s) (hX : kX γ A s L F H locs) (hl : lv_has ls nL lv) {ci N a : Nat} {C : String} {T : u_T} {fs : List Value} (hC : kD l y bytes maxL rt rm γ L F (.ref a :: As) ok no) (ha : a ∈ L) (hF : F a = .inr (ci, fs)) (hc : vwCl[ci]? = some (C, T, N)) (w1 : Cond.methodLink own index y ∈ W0) (w2 : Cond.instanceMethod y ∈ W0) (w3 : Cond.selects C y y ∈ W0) (w4 : Cond.initialized C ∈ W0) (w5 : Cond.code y bytes maxL rt ∈ W0)
    (hd : y.cls = C ∧ y.cls ≠ "java/lang/invoke/MethodHandle" ∧ y.cls ≠ "java/lang/invoke/VarHandle" ∧ (parseMethodDescriptor y.desc).map (fun d => d.parameters.length) = some n) (hR : rm.frames + 1 ≤ R.frames ∧ 8 + (maxL + 11) + rm.locals ≤ R.locals) (hn : As.length = n) (hst : st0 = As.reverse ++ .ref a :: rest) (hW : (rest.map fun v => v.category).sum ≤ 8) (hdg : decode cc pc = .ok (.invokevirtual index, 3)) (hf : cells + rm.cells ≤ R.cells ∧ slots + rm.slots ≤ R.slots) :
    vx_Run p l e R s m args below meth c H locs cells slots rm.cells rm.slots (F0 m pc ls st0) rest (kQ γ L H.size ok (Value.ref a :: As).toArray) (kXC γ L F H.size no) (kA L H.size) :=
  vx_runV (As := As) (rest := rest) ⟨hM.1, hM.2.1, hM.2.2.1, hM.2.2.2.1, hM.2.2.2.2.1⟩ (hC H.size) (cwV n hM.2.2.2.2.1 (kG_V w1 w2 w3 w4 w5) rfl rfl rfl hd hR) ⟨kIn_blind, k_recv hE hX ha hF hc, fun U hU hW => k_in hE hX _ U hU hW⟩ rfl hn hl.1 hst (lv_room hW) hdg hf
/-- .. in a method without a table: what it throws goes on to the caller -/
theorem x_go {L0 : List Nat} {F9 : kF} {sz mc0 ms0 : Nat} {ok0 : kOk} {no0 : String → Prop} (hr : vx_Run p l e R s m args below meth c H locs cells slots mc ms (F0 m pc ls st0) rest (kQ γ L H.size ok a0) (kXC γ L F H.size no) (kA L H.size)) (hM : kM p s m args meth c cc nL ret own) (hE : kE γ (kA L0 sz) s) (hX : kX γ (kA L0 sz) s L F H locs) (htab : ∀ x ∈ c.exceptionTable.toList, False) (h0 : L = L0 ∧ F = F9) (hno : ∀ E, no E → no0 E) (hmc : cells + mc ≤ mc0) (hms : slots + ms ≤ ms0)
    (kk : ∀ (v : Option Value) (L1 : List Nat) (F1 : kF) (H1 : Heap) (locs1 : List Loc), ok v L1 F1 → kX γ (kA L0 sz) s L1 F1 H1 locs1 → W p l e R s m args below meth c H1 locs1 (cells + mc) (slots + ms) (vx_MQ below (kQ γ L0 sz ok0) (kXC γ L0 F9 sz no0) args s mc0 ms0 (kA L0 sz)) (F0 m (pc + 3) ls (v.toList ++ rest))) : W p l e R s m args below meth c H locs cells slots (vx_MQ below (kQ γ L0 sz ok0) (kXC γ L0 F9 sz no0) args s mc0 ms0 (kA L0 sz)) (F0 m pc ls st0) := by
  obtain ⟨rfl, rfl⟩ := h0
  intro T hT X
  rcases hr T hT X with ⟨v, st₀, t, T', L9, h0, X', hL, e1, e2, ⟨⟨v', u, hv, hok, hB⟩, hF⟩, st⟩ | ⟨q, st₀, t, T', L9, E, ce, h0, X', hL, e1, e2, ⟨hn, hB, hF⟩, hce, hcv, hcl, st⟩
  · cases hv
    obtain ⟨k1, k2, k3⟩ := vx_keep h0 e1 hX.2.2 (fun q _ h => kX_sub hX hE.2.2 q h) (kX_sub hX hE.2.2) hL hF
    obtain ⟨t2, a1, b1⟩ := kk v u.1 u.2 T'.heap (locs ++ L9) hok (k_back hE hX e1.symm hB k3) T' rfl X'
    exact ⟨t2, st t2 a1, b1⟩
  · obtain ⟨k1, k2, k3⟩ := vx_keep h0 e1 hX.2.2 (fun q _ h => kX_sub hX hE.2.2 q h) (kX_sub hX hE.2.2) hL hF
    have hX1 := k_back hE hX (t := t) (H1 := T'.heap) e1.symm hB k3
    obtain ⟨t2, a1, b1⟩ := vx_out (E := E) (XC := kXC γ L F sz no0) (Qc := kQ γ L sz ok0) (free := kA L sz) (mc := mc0) (ms := ms0) (pc := pc) (ls := ls) (rest := rest) (H := T'.heap) (locs := locs ++ L9) (fun x hx => (htab x hx).elim) hM.2.2.2.2.2.2.1 (by rw [e1]; exact hce) hcv hcl (fun t3 h3 _ => ⟨hno E hn, ⟨by rw [h3]; exact hX1.1, hX1.2.1.1, hX1.2.1.2⟩, hX1.2.2.F h3⟩) hX1.2.2.2.2 hmc hms T' rfl X'
    exact ⟨t2, st.trans a1, b1⟩
theorem x_goi {P : Int32 → List Nat → kF → Prop} {L0 : List Nat} {F9 : kF} {sz mc0 ms0 : Nat} {ok0 : kOk} {no0 : String → Prop} (hr : vx_Run p l e R s m args below meth c H locs cells slots mc ms (F0 m pc ls st0) rest (kQ γ L H.size (kI P) a0) (kXC γ L F H.size no) (kA L H.size)) (hM : kM p s m args meth c cc nL ret own) (hE : kE γ (kA L0 sz) s) (hX : kX γ (kA L0 sz) s L F H locs) (htab : ∀ x ∈ c.exceptionTable.toList, False) (h0 : L = L0 ∧ F = F9) (hno : ∀ E, no E → no0 E) (hmc : cells + mc ≤ mc0) (hms : slots + ms ≤ ms0)
    (kk : ∀ (r : Int32) (L1 : List Nat) (F1 : kF) (H1 : Heap) (locs1 : List Loc), P r L1 F1 → kX γ (kA L0 sz) s L1 F1 H1 locs1 → W p l e R s m args below meth c H1 locs1 (cells + mc) (slots + ms) (vx_MQ below (kQ γ L0 sz ok0) (kXC γ L0 F9 sz no0) args s mc0 ms0 (kA L0 sz)) (F0 m (pc + 3) ls (.int r :: rest))) : W p l e R s m args below meth c H locs cells slots (vx_MQ below (kQ γ L0 sz ok0) (kXC γ L0 F9 sz no0) args s mc0 ms0 (kA L0 sz)) (F0 m pc ls st0) :=
  x_go hr hM hE hX htab h0 hno hmc hms fun v L1 F1 H1 locs1 ⟨r, hv, hp⟩ hX1 => by subst hv; exact kk r L1 F1 H1 locs1 hp hX1
theorem x_gou {P : List Nat → kF → Prop} {L0 : List Nat} {F9 : kF} {sz mc0 ms0 : Nat} {ok0 : kOk} {no0 : String → Prop} (hr : vx_Run p l e R s m args below meth c H locs cells slots mc ms (F0 m pc ls st0) rest (kQ γ L H.size (kU P) a0) (kXC γ L F H.size no) (kA L H.size)) (hM : kM p s m args meth c cc nL ret own) (hE : kE γ (kA L0 sz) s) (hX : kX γ (kA L0 sz) s L F H locs) (htab : ∀ x ∈ c.exceptionTable.toList, False) (h0 : L = L0 ∧ F = F9) (hno : ∀ E, no E → no0 E) (hmc : cells + mc ≤ mc0) (hms : slots + ms ≤ ms0)
    (kk : ∀ (L1 : List Nat) (F1 : kF) (H1 : Heap) (locs1 : List Loc), P L1 F1 → kX γ (kA L0 sz) s L1 F1 H1 locs1 → W p l e R s m args below meth c H1 locs1 (cells + mc) (slots + ms) (vx_MQ below (kQ γ L0 sz ok0) (kXC γ L0 F9 sz no0) args s mc0 ms0 (kA L0 sz)) (F0 m (pc + 3) ls rest)) : W p l e R s m args below meth c H locs cells slots (vx_MQ below (kQ γ L0 sz ok0) (kXC γ L0 F9 sz no0) args s mc0 ms0 (kA L0 sz)) (F0 m pc ls st0) :=
  x_go hr hM hE hX htab h0 hno hmc hms fun v L1 F1 H1 locs1 ⟨hv, hp⟩ hX1 => by subst hv; exact kk L1 F1 H1 locs1 hp hX1
theorem x_gor {P : Nat → List Nat → kF → Prop} {L0 : List Nat} {F9 : kF} {sz mc0 ms0 : Nat} {ok0 : kOk} {no0 : String → Prop} (hr : vx_Run p l e R s m args below meth c H locs cells slots mc ms (F0 m pc ls st0) rest (kQ γ L H.size (kR P) a0) (kXC γ L F H.size no) (kA L H.size)) (hM : kM p s m args meth c cc nL ret own) (hE : kE γ (kA L0 sz) s) (hX : kX γ (kA L0 sz) s L F H locs) (htab : ∀ x ∈ c.exceptionTable.toList, False) (h0 : L = L0 ∧ F = F9) (hno : ∀ E, no E → no0 E) (hmc : cells + mc ≤ mc0) (hms : slots + ms ≤ ms0)
    (kk : ∀ (r : Nat) (L1 : List Nat) (F1 : kF) (H1 : Heap) (locs1 : List Loc), P r L1 F1 → kX γ (kA L0 sz) s L1 F1 H1 locs1 → W p l e R s m args below meth c H1 locs1 (cells + mc) (slots + ms) (vx_MQ below (kQ γ L0 sz ok0) (kXC γ L0 F9 sz no0) args s mc0 ms0 (kA L0 sz)) (F0 m (pc + 3) ls (.ref r :: rest))) : W p l e R s m args below meth c H locs cells slots (vx_MQ below (kQ γ L0 sz ok0) (kXC γ L0 F9 sz no0) args s mc0 ms0 (kA L0 sz)) (F0 m pc ls st0) :=
  x_go hr hM hE hX htab h0 hno hmc hms fun v L1 F1 H1 locs1 ⟨r, hv, hp⟩ hX1 => by subst hv; exact kk r L1 F1 H1 locs1 hp hX1
end KC
theorem kat_IO : ∀ w ∈ vx_atS "Invoicebridge" 249 kIO ["java/lang/RuntimeException", "java/lang/Exception"], (w ∈ lw_tbl ∧ goodWord w = true) ∨ w = Cond.castable kIO kIO ∨ w ∈ kDcs.map Cond.declares := by decide +kernel
theorem kat_IA : ∀ w ∈ vx_atS "Invoicebridge" 125 kIA ["java/lang/RuntimeException", "java/lang/Exception"], (w ∈ lw_tbl ∧ goodWord w = true) ∨ w = Cond.castable kIA kIA ∨ w ∈ kDcs.map Cond.declares := by decide +kernel
theorem kat_IS : ∀ w ∈ vx_atS "Invoicebridge" 62 kIS ["java/lang/RuntimeException", "java/lang/Exception"], (w ∈ lw_tbl ∧ goodWord w = true) ∨ w = Cond.castable kIS kIS ∨ w ∈ kDcs.map Cond.declares := by decide +kernel
section KX
variable {p : Program} {l : Launch} {e : Env} {R : Room} {s : State} {m : MethodId} {args : Array Value} {below : List Frame} {meth : Method} {c : Code} {H : Heap} {locs : List Loc} {cells slots : Nat}
variable {cc : ByteArray} {nL : Nat} {ret : Option FieldType} {γ : kG} {L : List Nat} {F : kF} {pc : Nat} {ls : Array Slot} {rest : List Value} {ok : kOk} {no : String → Prop} {lv : List (Nat × Value)} {sz mc ms ik ic is : Nat} {cls text : String}
theorem x_throw0 (hM : kM p s m args meth c cc nL ret "Invoicebridge") (hE : kE γ (kA L sz) s) (hX : kX γ (kA L sz) s L F H locs) (hl : lv_has ls nL lv) (htab : ∀ x ∈ c.exceptionTable.toList, False) (hfl : l.stackTraces = false)
    (hat : ∀ w ∈ vx_atS "Invoicebridge" ic cls ["java/lang/RuntimeException", "java/lang/Exception"], (w ∈ lw_tbl ∧ goodWord w = true) ∨ w = Cond.castable cls cls ∨ w ∈ kDcs.map Cond.declares) (hcs : va_Nw (.castable cls cls) s) (hcls : Bundle.fit cls = true) (hk : Cond.classLink "Invoicebridge" ik cls ∈ W0) (hini : Cond.initialized cls ∈ W0) (hg : vx_ot (Cond.classLink "Invoicebridge" ik cls) = true ∧ vx_ot (Cond.initialized cls) = true) (hstr : ("Invoicebridge", is, text) ∈ kStr) (hno : no cls)
    (d0 : decode cc pc = .ok (.new ik, 3)) (d3 : decode cc (pc + 3) = .ok (.dup, 1)) (d4 : (decode cc (pc + 4) = .ok (.ldc is, 2) ∧ decode cc (pc + 6) = .ok (.invokespecial ic, 3) ∧ decode cc (pc + 9) = .ok (.athrow, 1)) ∨ (decode cc (pc + 4) = .ok (.ldc_w is, 3) ∧ decode cc (pc + 7) = .ok (.invokespecial ic, 3) ∧ decode cc (pc + 10) = .ok (.athrow, 1)))
    (hR : 5 < R.frames ∧ (rest.map fun v => v.category).sum + 82 ≤ R.locals ∧ cells + 1 ≤ R.cells ∧ slots + 6 ≤ R.slots) (hc : cells + 1 ≤ mc) (hs : slots + 6 ≤ ms) :
    W p l e R s m args below meth c H locs cells slots (vx_MQ below (kQ γ L sz ok) (kXC γ L F sz no) args s mc ms (kA L sz)) (F0 m pc ls rest) := by
  obtain ⟨hx, hb, hml, hown, hts, -, hlk, -⟩ := hM
  obtain ⟨hU, hN, hst, -, -, -, -, -, -, -, -, -, -, -, -, hdc⟩ := id hE.2.1
  obtain ⟨sa, hsa⟩ := hst _ hstr
  have hat' : ∀ w ∈ vx_atS "Invoicebridge" ic cls ["java/lang/RuntimeException", "java/lang/Exception"], w.before args s = true := fun w hw => (hat w hw).elim (fun h => hts w (List.mem_filter.mpr h)) (fun h => h.elim (fun h => by rw [h]; exact hcs.use rfl) (fun h => by
    obtain ⟨y, hy, rfl⟩ := List.mem_map.mp h
    exact (hdc y hy).use rfl))
  have hgood : ∀ w ∈ Cond.classLink "Invoicebridge" ik cls :: Cond.initialized cls :: vx_atS "Invoicebridge" ic cls ["java/lang/RuntimeException", "java/lang/Exception"], vx_ot w = true := by
    intro w hw
    rcases List.mem_cons.mp hw with rfl | hw
    · exact hg.1
    · rcases List.mem_cons.mp hw with rfl | hw
      · exact hg.2
      · rcases hat w hw with h | h
        · simp [vx_ot, h.2]
        · rcases h with h | h
          · rw [h]; rfl
          · obtain ⟨y, hy, rfl⟩ := List.mem_map.mp h
            rfl
  have hnames : ∀ n ∈ (["java/lang/RuntimeException", "java/lang/Exception"] : List String), Bundle.fit n = true := by decide +kernel
  have hxx : ∀ t : State, s.vm.Alike t.vm → H.size ≤ t.heap.size → (∀ q : Nat, q < H.size → t.heap[q]? = H[q]?) → kXC γ L F sz no cls s t := fun t _ h1 h2 =>
    ⟨hno, ⟨va_P.kept hX.1 (fun k q hq => h2 q.1 (va_at.lt (hX.1 k q hq))), hX.2.1.1, hX.2.1.2⟩, Nat.le_trans hX.2.2.1 h1, fun q hq hA => (h2 q (Nat.lt_of_lt_of_le hq hX.2.2.1)).trans (hX.2.2.2.1 q hq hA)⟩
  rcases d4 with ⟨d4, d6, d9⟩ | ⟨d4, d6, d9⟩
  · exact vx_throwS hx hb hfl hown hcls hnames (hts _ hk) (hts _ hini) hsa hat' hgood hU hN hX.2.2 (hl.1.trans hml.symm) d0 d3 d4 d6 d9 (fun x hx => (htab x hx).elim) hR.1 hR.2.1 hR.2.2.1 hR.2.2.2 hlk hxx hX.2.2.2.2 hc hs
  · exact vx_throwSW hx hb hfl hown hcls hnames (hts _ hk) (hts _ hini) hsa hat' hgood hU hN hX.2.2 (hl.1.trans hml.symm) d0 d3 d4 d6 d9 (fun x hx => (htab x hx).elim) hR.1 hR.2.1 hR.2.2.1 hR.2.2.2 hlk hxx hX.2.2.2.2 hc hs
end KX
end
section
/-! the reference: its state is a table M of ints, field by field (0 day, 1 cash, 2 invoices, 3 seller .. 13 lines, 14 amount, 15 made, 16 rate, 17 isDisputed, 18 credits, 19 creditOf, 20 creditOn, 21 creditTax, 22 drafted, 23 draft, 24 thrown) -/
abbrev kRm (d c z : Nat) : Room := { frames := 10 * d + 10, cells := c, slots := z, locals := 120 * d + 120 }
abbrev mM : Type := Nat → Nat → Int32
def mArr : Nat → Bool := fun k => !(k == 0 || k == 2 || k == 18 || k == 22 || k == 24)
def mLen : Nat → Nat := fun k => if k = 1 then 6 else if k < 14 then 20 else if k < 18 then 60 else if k < 22 then 24 else 10
def mTy : Nat → Nat := fun k => if k = 11 ∨ k = 17 then 2 else 1
def mset (M : mM) (k j : Nat) (x : Int32) : mM := fun k' => if k' = k then upd (M k) j x else M k'
def mFs (ad : Nat → Nat) (M : mM) : List Value := [.int (M 0 0), .ref (ad 1), .int (M 2 0), .ref (ad 3), .ref (ad 4), .ref (ad 5), .ref (ad 6), .ref (ad 7), .ref (ad 8), .ref (ad 9), .ref (ad 10), .ref (ad 11), .ref (ad 12), .ref (ad 13), .ref (ad 14), .ref (ad 15), .ref (ad 16), .ref (ad 17), .int (M 18 0), .ref (ad 19), .ref (ad 20), .ref (ad 21), .int (M 22 0), .ref (ad 23), .int (M 24 0)]
def RepM (γ : kG) (L : List Nat) (F : kF) (o : Nat) (ad : Nat → Nat) (M : mM) : Prop :=
  o ∈ L ∧ F o = .inr (10, mFs ad M) ∧ (∀ k, k < 25 → mArr k = true → ad k ∈ L ∧ F (ad k) = .inl (γ.2.1 (mTy k), mLen k, .inl (M k))) ∧ ∀ k k', k < 25 → k' < 25 → mArr k = true → mArr k' = true → ad k = ad k' → k = k'
theorem RepM.put {γ : kG} {L : List Nat} {F : kF} {o : Nat} {ad : Nat → Nat} {M : mM} (h : RepM γ L F o ad M) (k : Nat) (v : Int32) (hk : mArr k = false) (hs : (mFs ad M).set k (.int v) = mFs ad (mset M k 0 v)) : RepM γ L (va_up F o (.inr (10, (mFs ad M).set k (.int v)))) o ad (mset M k 0 v) := by
  obtain ⟨h1, h2, h3, h4⟩ := h
  refine ⟨h1, by rw [va_up_self, hs], fun k' hk' ha => ?_, h4⟩
  obtain ⟨h5, h6⟩ := h3 k' hk' ha
  have hne : ad k' ≠ o := fun e => by rw [e, h2] at h6; cases h6
  have hkk : k' ≠ k := fun e => by rw [e, hk] at ha; cases ha
  refine ⟨h5, ?_⟩
  rw [va_up_ne _ _ hne, h6]
  show _ = Sum.inl (_, _, Sum.inl (if k' = k then _ else M k'))
  rw [if_neg hkk]
theorem mFs_arr {ad : Nat → Nat} {M : mM} {k : Nat} (hk : mArr k = true) (j : Nat) (x : Int32) : mFs ad (mset M k j x) = mFs ad M := by
  have h0 : (0 : Nat) ≠ k := fun e => by subst e; exact absurd hk (by decide)
  have h2 : (2 : Nat) ≠ k := fun e => by subst e; exact absurd hk (by decide)
  have h18 : (18 : Nat) ≠ k := fun e => by subst e; exact absurd hk (by decide)
  have h22 : (22 : Nat) ≠ k := fun e => by subst e; exact absurd hk (by decide)
  have h24 : (24 : Nat) ≠ k := fun e => by subst e; exact absurd hk (by decide)
  simp only [mFs, mset, if_neg h0, if_neg h2, if_neg h18, if_neg h22, if_neg h24]
theorem RepM.st {γ : kG} {L : List Nat} {F : kF} {o : Nat} {ad : Nat → Nat} {M : mM} (h : RepM γ L F o ad M) (k j : Nat) (x : Int32) (hk : k < 25) (ha : mArr k = true) : RepM γ L (va_up F (ad k) (.inl (γ.2.1 (mTy k), mLen k, .inl (upd (M k) j x)))) o ad (mset M k j x) := by
  obtain ⟨h1, h2, h3, h4⟩ := h
  obtain ⟨h5, h6⟩ := h3 k hk ha
  have hne : o ≠ ad k := fun e => by rw [← e, h2] at h6; cases h6
  refine ⟨h1, by rw [va_up_ne _ _ hne, h2, mFs_arr ha], fun k' hk' ha' => ?_, h4⟩
  obtain ⟨h7, h8⟩ := h3 k' hk' ha'
  refine ⟨h7, ?_⟩
  by_cases e : k' = k
  · subst e
    rw [va_up_self]
    show _ = Sum.inl (_, _, Sum.inl (if k' = k' then _ else M k'))
    rw [if_pos rfl]
  · rw [va_up_ne _ _ (fun e2 => e (h4 k' k hk' hk ha' ha e2)), h8]
    show _ = Sum.inl (_, _, Sum.inl (if k' = k then _ else M k'))
    rw [if_neg e]
theorem in_u {C : String} {T : u_T} {N : Nat} (h : ∀ k, k < N → u_lay C T k ∈ W0) : ∀ w ∈ u_ws C T N, w ∈ W0 := by
  intro w hw
  obtain ⟨k, hk, rfl⟩ := List.mem_map.mp hw
  exact h k (List.mem_range.mp hk)
theorem u_all {C : String} {T : u_T} {N : Nat} (h : (u_ws C T N).all (fun w => decide (w ∈ lw_tbl) && goodWord w) = true) : ∀ w ∈ u_ws C T N, w ∈ W0 := by
  intro w hw
  have h1 := List.all_eq_true.mp h w hw
  simp only [Bool.and_eq_true, decide_eq_true_eq] at h1
  exact List.mem_filter.mpr h1
theorem inX0 : ∀ w ∈ u_ws RX0 TX0 3, w ∈ W0 := u_all (by decide +kernel)
theorem inX1 : ∀ w ∈ u_ws RX1 TX1 3, w ∈ W0 := u_all (by decide +kernel)
theorem inX2 : ∀ w ∈ u_ws RX2 TX2 12, w ∈ W0 := u_all (by decide +kernel)
theorem inX3 : ∀ w ∈ u_ws RX3 TX3 4, w ∈ W0 := u_all (by decide +kernel)
theorem inX4 : ∀ w ∈ u_ws RX4 TX4 6, w ∈ W0 := u_all (by decide +kernel)
theorem inX5 : ∀ w ∈ u_ws RX5 TX5 25, w ∈ W0 := u_all (by decide +kernel)
theorem inAL : ∀ w ∈ u_ws RJx4a65c TJx4a65c 3, w ∈ W0 := u_all (by decide +kernel)
theorem inSB : ∀ w ∈ u_ws RJ4 TJ4 4, w ∈ W0 := u_all (by decide +kernel)
section MR
variable {p : Program} {l : Launch} {e : Env} {R : Room} {s : State} {m : MethodId} {args : Array Value} {below : List Frame} {meth : Method} {c : Code} {H : Heap} {locs : List Loc} {cells slots : Nat} {Q : State → Prop}
variable {cc : ByteArray} {nL : Nat} {ret : Option FieldType} {γ : kG} {A : Nat → Prop} {L : List Nat} {F : kF} {pc : Nat} {ls : Array Slot} {rest : List Value} {o : Nat} {ad : Nat → Nat} {M : mM}
theorem m_get (hM : kM p s m args meth c cc nL ret RX5) (hE : kE γ A s) (hX : kX γ A s L F H locs) (hR : RepM γ L F o ad M) (k : Nat) (hk : k < 25) {index : Nat} (hlink : Cond.fieldLink RX5 index RX5 (TX5 k).2.1 (TX5 k).2.2.1 ∈ W0) (hsame : (TX5 k).1 = RX5) {v : Value} (hv : (mFs ad M)[k]? = some v) (hdg : decode cc pc = .ok (.getfield index, 3))
    (kk : W p l e R s m args below meth c H locs cells slots Q (F0 m (pc + 3) ls (v :: rest))) : W p l e R s m args below meth c H locs cells slots Q (F0 m pc ls (.ref o :: rest)) :=
  k_get hM hE hX hR.1 hR.2.1 rfl k hk inX5 hlink (fun x h => by rw [hsame] at h; exact h) hv hdg kk
theorem m_put (hM : kM p s m args meth c cc nL ret RX5) (hE : kE γ A s) (hX : kX γ A s L F H locs) (hR : RepM γ L F o ad M) (k : Nat) (hk : k < 25) {v : Int32} (ha : mArr k = false) (hs : (mFs ad M).set k (.int v) = mFs ad (mset M k 0 v)) {index : Nat} (hlink : Cond.fieldLink RX5 index RX5 (TX5 k).2.1 (TX5 k).2.2.1 ∈ W0) (hsame : (TX5 k).1 = RX5) (hfin : (TX5 k).2.2.2 = false) (hn : narrow (tyX5 k) (.int v) = .int v) (hfit : fits (tyX5 k) (.int v) = true) (hdg : decode cc pc = .ok (.putfield index, 3))
    (kk : ∀ (F1 : kF) (H1 : Heap) (locs1 : List Loc), kX γ A s L F1 H1 locs1 → RepM γ L F1 o ad (mset M k 0 v) → W p l e R s m args below meth c H1 locs1 cells slots Q (F0 m (pc + 3) ls rest)) : W p l e R s m args below meth c H locs cells slots Q (F0 m pc ls (.int v :: .ref o :: rest)) :=
  k_put hM hE hX hR.1 hR.2.1 rfl k hk inX5 tyX5 tyX5_ok nmX5 hlink (fun x h => by rw [hsame] at h; exact h) (Or.inl hfin) hn hfit (by simpa [mFs] using hk) hdg fun H1 locs1 hX1 => kk _ H1 locs1 hX1 (hR.put k v ha hs)
theorem m_iald (hM : kM p s m args meth c cc nL ret RX5) (hE : kE γ A s) (hX : kX γ A s L F H locs) (hR : RepM γ L F o ad M) (k j : Nat) (hk : k < 25) (ha : mArr k = true) (ht : mTy k = 1) {i : Int32} (hi : i = nI j) (hj : j < mLen k) (hdg : decode cc pc = .ok (.iaload, 1))
    (kk : W p l e R s m args below meth c H locs cells slots Q (F0 m (pc + 1) ls (.int (M k j) :: rest))) : W p l e R s m args below meth c H locs cells slots Q (F0 m pc ls (.int i :: .ref (ad k) :: rest)) := by
  subst hi
  have h3 := hR.2.2.1 k hk ha
  rw [ht] at h3
  have hl : mLen k < 2 ^ 31 := by unfold mLen; split <;> (try split) <;> (try split) <;> (try split) <;> decide
  refine k_iald hM hE hX h3.1 h3.2 (vp_in_nI hj hl) hdg ?_
  rw [nI_clamp (by omega)]
  exact kk
theorem m_zald (hM : kM p s m args meth c cc nL ret RX5) (hE : kE γ A s) (hX : kX γ A s L F H locs) (hR : RepM γ L F o ad M) (k j : Nat) (hk : k < 25) (ha : mArr k = true) (ht : mTy k = 2) {i : Int32} (hi : i = nI j) (hj : j < mLen k) (hdg : decode cc pc = .ok (.baload, 1))
    (kk : W p l e R s m args below meth c H locs cells slots Q (F0 m (pc + 1) ls (.int (M k j) :: rest))) : W p l e R s m args below meth c H locs cells slots Q (F0 m pc ls (.int i :: .ref (ad k) :: rest)) := by
  subst hi
  have h3 := hR.2.2.1 k hk ha
  rw [ht] at h3
  have hl : mLen k < 2 ^ 31 := by unfold mLen; split <;> (try split) <;> (try split) <;> (try split) <;> decide
  refine k_zald hM hE hX h3.1 h3.2 (vp_in_nI hj hl) hdg ?_
  rw [nI_clamp (by omega)]
  exact kk
theorem m_iast (hM : kM p s m args meth c cc nL ret RX5) (hE : kE γ A s) (hX : kX γ A s L F H locs) (hR : RepM γ L F o ad M) (k j : Nat) (hk : k < 25) (ha : mArr k = true) (ht : mTy k = 1) {i x : Int32} (hi : i = nI j) (hj : j < mLen k) (hdg : decode cc pc = .ok (.iastore, 1))
    (kk : ∀ (F1 : kF) (H1 : Heap) (locs1 : List Loc), kX γ A s L F1 H1 locs1 → RepM γ L F1 o ad (mset M k j x) → W p l e R s m args below meth c H1 locs1 cells slots Q (F0 m (pc + 1) ls rest)) : W p l e R s m args below meth c H locs cells slots Q (F0 m pc ls (.int x :: .int i :: .ref (ad k) :: rest)) := by
  subst hi
  have h3 := hR.2.2.1 k hk ha
  rw [ht] at h3
  have hl : mLen k < 2 ^ 31 := by unfold mLen; split <;> (try split) <;> (try split) <;> (try split) <;> decide
  refine k_iast hM hE hX h3.1 h3.2 (vp_in_nI hj hl) hdg fun H1 locs1 hX1 => ?_
  rw [nI_clamp (by omega)] at hX1
  have h4 := hR.st k j x hk ha
  rw [ht] at h4
  exact kk _ H1 locs1 hX1 h4
theorem m_zast (hM : kM p s m args meth c cc nL ret RX5) (hE : kE γ A s) (hX : kX γ A s L F H locs) (hR : RepM γ L F o ad M) (k j : Nat) (hk : k < 25) (ha : mArr k = true) (ht : mTy k = 2) {i x : Int32} (hi : i = nI j) (hj : j < mLen k) (h01 : vp_nar .boolean x = x) (hdg : decode cc pc = .ok (.bastore, 1))
    (kk : ∀ (F1 : kF) (H1 : Heap) (locs1 : List Loc), kX γ A s L F1 H1 locs1 → RepM γ L F1 o ad (mset M k j x) → W p l e R s m args below meth c H1 locs1 cells slots Q (F0 m (pc + 1) ls rest)) : W p l e R s m args below meth c H locs cells slots Q (F0 m pc ls (.int x :: .int i :: .ref (ad k) :: rest)) := by
  subst hi
  have h3 := hR.2.2.1 k hk ha
  rw [ht] at h3
  have hl : mLen k < 2 ^ 31 := by unfold mLen; split <;> (try split) <;> (try split) <;> (try split) <;> decide
  refine k_zast hM hE hX h3.1 h3.2 (vp_in_nI hj hl) hdg fun H1 locs1 hX1 => ?_
  rw [nI_clamp (by omega), h01] at hX1
  have h4 := hR.st k j x hk ha
  rw [ht] at h4
  exact kk _ H1 locs1 hX1 h4
end MR
/-! folds; the words for what is told come with the contracts -/
def l_fold (f : Nat → Int32 → Int32) (s : Int32) : Nat → Int32
  | 0 => s
  | k + 1 => f k (l_fold f s k)
def tx (a r : Int32) : Int32 := a * r / 100
def kk (M : mM) (i : Nat) : Nat := (M 13 i).toNatClampNeg
def nn (M : mM) : Nat := (M 2 0).toNatClampNeg
def cc (M : mM) : Nat := (M 18 0).toNatClampNeg
def dd (M : mM) : Nat := (M 22 0).toNatClampNeg
theorem k3 (j : Nat) : (3 : Int32) * nI j = nI (3 * j) := pk_mul 3 j
/-- the numbers of lines, invoices, credits, signs are small naturals -/
def okL (M : mM) (i : Nat) : Prop := M 13 i = nI (kk M i) ∧ kk M i ≤ 3
def okN (M : mM) : Prop := M 2 0 = nI (nn M) ∧ nn M ≤ 20
def okC (M : mM) : Prop := M 18 0 = nI (cc M) ∧ cc M ≤ 24
def okD (M : mM) : Prop := M 22 0 = nI (dd M) ∧ dd M ≤ 10
def kj (x : Int32) : Nat := x.toNatClampNeg
def okI (x : Int32) (n : Nat) : Prop := x = nI (kj x) ∧ kj x < n
theorem okI_of {x : Int32} {n : Nat} (hn : n < 2 ^ 30) (h1 : 0 ≤ x) (h2 : x ≤ nI n - 1) : okI x n := by
  obtain ⟨j, hj, rfl⟩ := nI_of (x := x) (Int32.not_lt.mpr h1)
  have e : kj (nI j) = j := nI_clamp hj
  refine ⟨by rw [e], ?_⟩
  rw [e]
  rw [Int32.le_iff_toInt_le, nI_toInt hj, show (1 : Int32) = nI 1 from rfl, pk_sub_toInt hn (by decide)] at h2
  omega
theorem okI_5 {x : Int32} (h : 0 ≤ x ∧ x ≤ 5) : okI x 6 := okI_of (n := 6) (by decide) h.1 h.2
theorem ixM {M : mM} (hn : okN M) {a : Int32} (h : 0 ≤ a ∧ a ≤ M 2 0 - 1) : okI a (nn M) := okI_of (by have := hn.2; omega) h.1 (hn.1 ▸ h.2)
theorem ixL {M : mM} {i : Nat} (hk : okL M i) {b : Int32} (h : 0 ≤ b ∧ b ≤ M 13 i - 1) : okI b (kk M i) := okI_of (by have := hk.2; omega) h.1 (hk.1 ▸ h.2)
theorem lp_in {a b : Nat} (ha : a < 2 ^ 31) (_hb : b < 2 ^ 31) (h : ¬ nI b ≤ nI a) : a < b := by
  rcases Nat.lt_or_ge a b with q | q
  · exact q
  · exact absurd (nI_le q ha) h
theorem lp_out {a b : Nat} (ha : a < 2 ^ 31) (hb : b < 2 ^ 31) (h : nI b ≤ nI a) : b ≤ a := (nI_leI hb ha).mp h
end
section
set_option maxHeartbeats 4000000 in
set_option maxRecDepth 100000 in
theorem c_X5_isIn (l : Launch) (γ : kG) (L : List Nat) (F : kF) (a b z : Int32) : kC l yX5_isIn cX5_isIn 3 (some .boolean) (kRm 0 0 0) γ L F [.int a, .int b, .int z] (kI fun r L1 F1 => L = L1 ∧ F = F1 ∧ ((r = 1 ∧ b ≤ a ∧ a ≤ z) ∨ (r = 0 ∧ ¬ (b ≤ a ∧ a ≤ z)))) := by
  refine kC_of (by decide +kernel) (Nat.le_of_ble_eq_true rfl) ?_
  intro p e s m args below meth c sz ls hargs hsz hM hin hE hX hl
  have hx := hM.1
  have hb := hM.2.1
  have hl : lv_has ls 3 [(0, .int a), (1, .int b), (2, .int z)] := hl
  refine lv_iload_n hx hb dX5_isIn_0 rfl (lv_at hl 0 rfl) ?_
  refine lv_iload_n hx hb dX5_isIn_1 rfl (lv_at hl 1 rfl) ?_
  refine lv_icmp_lt (tgt := 14) hx hb dX5_isIn_2 (by decide) (fun c_1 => ?_) (fun c_1 => ?_)
  · refine lv_iconst (v := 0) hx hb dX5_isIn_14 (by decide) ?_
    exact k_zret hM rfl hsz hX ⟨_, rfl, rfl, rfl, Or.inr ⟨rfl, fun h => absurd c_1 (Int32.not_lt.mpr h.1)⟩⟩ (by decide) (by decide) dX5_isIn_15
  · refine lv_iload_n hx hb dX5_isIn_5 rfl (lv_at hl 0 rfl) ?_
    refine lv_iload_n hx hb dX5_isIn_6 rfl (lv_at hl 2 rfl) ?_
    refine lv_icmp_gt (tgt := 14) hx hb dX5_isIn_7 (by decide) (fun c_2 => ?_) (fun c_2 => ?_)
    · refine lv_iconst (v := 0) hx hb dX5_isIn_14 (by decide) ?_
      exact k_zret hM rfl hsz hX ⟨_, rfl, rfl, rfl, Or.inr ⟨rfl, fun h => absurd c_2 (Int32.not_lt.mpr h.2)⟩⟩ (by decide) (by decide) dX5_isIn_15
    · refine lv_iconst (v := 1) hx hb dX5_isIn_10 (by decide) ?_
      refine lv_goto (tgt := 15) hx hb dX5_isIn_11 (by decide) ?_
      exact k_zret hM rfl hsz hX ⟨_, rfl, rfl, rfl, Or.inl ⟨rfl, ⟨Int32.not_lt.mp c_1, Int32.not_lt.mp c_2⟩⟩⟩ (by decide) (by decide) dX5_isIn_15
set_option maxHeartbeats 4000000 in
set_option maxRecDepth 100000 in
theorem c_X5_isCompany (l : Launch) (γ : kG) (L : List Nat) (F : kF) (a : Int32) : kC l yX5_isCompany cX5_isCompany 1 (some .boolean) (kRm 1 0 0) γ L F [.int a] (kI fun r L1 F1 => L = L1 ∧ F = F1 ∧ ((r = 1 ∧ 0 ≤ a ∧ a ≤ 5) ∨ (r = 0 ∧ ¬ (0 ≤ a ∧ a ≤ 5)))) := by
  refine kC_of (by decide +kernel) (Nat.le_of_ble_eq_true rfl) ?_
  intro p e s m args below meth c sz ls hargs hsz hM hin hE hX hl
  have hx := hM.1
  have hb := hM.2.1
  have hl : lv_has ls 1 [(0, .int a)] := hl
  refine lv_iload_n hx hb dX5_isCompany_0 rfl (lv_at hl 0 rfl) ?_
  refine lv_iconst (v := 0) hx hb dX5_isCompany_1 (by decide) ?_
  refine lv_iconst (v := 5) hx hb dX5_isCompany_2 (by decide) ?_
  refine k_goi (k_S (n := 3) (As := [.int a, .int 0, .int 5]) (rest := []) hM hE hX hl (c_X5_isIn l γ L F a 0 5) k_1151 k_1152 k_9 k_1153 ⟨by decide, by decide, by decide +kernel⟩ (by decide) rfl rfl (Nat.le_of_ble_eq_true rfl) dX5_isCompany_3 (by decide)) hE hX (fun r L1 F1 H locs hp hX => ?_)
  obtain ⟨rfl, rfl, ⟨rfl, h_1⟩ | ⟨rfl, h_1⟩⟩ := hp
  · exact k_zret hM rfl hsz hX ⟨_, rfl, rfl, rfl, Or.inl ⟨rfl, h_1⟩⟩ (by decide) (by decide) dX5_isCompany_6
  · exact k_zret hM rfl hsz hX ⟨_, rfl, rfl, rfl, Or.inr ⟨rfl, h_1⟩⟩ (by decide) (by decide) dX5_isCompany_6
set_option maxHeartbeats 4000000 in
set_option maxRecDepth 100000 in
theorem c_X5_isInvoice (l : Launch) (γ : kG) (L : List Nat) (F : kF) (o : Nat) (ad : Nat → Nat) (M : mM) (hR : RepM γ L F o ad M) (a : Int32) : kC l yX5_isInvoice cX5_isInvoice 2 (some .boolean) (kRm 1 0 0) γ L F [.ref o, .int a] (kI fun r L1 F1 => L = L1 ∧ F = F1 ∧ ((r = 1 ∧ 0 ≤ a ∧ a ≤ M 2 0 - 1) ∨ (r = 0 ∧ ¬ (0 ≤ a ∧ a ≤ M 2 0 - 1)))) := by
  refine kC_of (by decide +kernel) (Nat.le_of_ble_eq_true rfl) ?_
  intro p e s m args below meth c sz ls hargs hsz hM hin hE hX hl
  have hx := hM.1
  have hb := hM.2.1
  have hl : lv_has ls 2 [(0, .ref o), (1, .int a)] := hl
  refine lv_iload_n hx hb dX5_isInvoice_0 rfl (lv_at hl 1 rfl) ?_
  refine lv_iconst (v := 0) hx hb dX5_isInvoice_1 (by decide) ?_
  refine lv_aload_n hx hb dX5_isInvoice_2 rfl (lv_at hl 0 rfl) ?_
  refine m_get hM hE hX hR 2 (by decide) k_1065 rfl rfl dX5_isInvoice_3 ?_
  refine lv_iconst (v := 1) hx hb dX5_isInvoice_6 (by decide) ?_
  refine lv_isub hx hb dX5_isInvoice_7 ?_
  refine k_goi (k_S (n := 3) (As := [.int a, .int 0, .int ((M 2 0) - 1)]) (rest := []) hM hE hX hl (c_X5_isIn l γ L F a 0 ((M 2 0) - 1)) k_1151 k_1152 k_9 k_1153 ⟨by decide, by decide, by decide +kernel⟩ (by decide) rfl rfl (Nat.le_of_ble_eq_true rfl) dX5_isInvoice_8 (by decide)) hE hX (fun r L1 F1 H locs hp hX => ?_)
  obtain ⟨rfl, rfl, ⟨rfl, h_1⟩ | ⟨rfl, h_1⟩⟩ := hp
  · exact k_zret hM rfl hsz hX ⟨_, rfl, rfl, rfl, Or.inl ⟨rfl, h_1⟩⟩ (by decide) (by decide) dX5_isInvoice_11
  · exact k_zret hM rfl hsz hX ⟨_, rfl, rfl, rfl, Or.inr ⟨rfl, h_1⟩⟩ (by decide) (by decide) dX5_isInvoice_11
set_option maxHeartbeats 4000000 in
set_option maxRecDepth 100000 in
theorem c_X5_isMonth (l : Launch) (γ : kG) (L : List Nat) (F : kF) (o : Nat) (ad : Nat → Nat) (M : mM) (hR : RepM γ L F o ad M) (a : Int32) : kC l yX5_isMonth cX5_isMonth 2 (some .boolean) (kRm 1 0 0) γ L F [.ref o, .int a] (kI fun r L1 F1 => L = L1 ∧ F = F1 ∧ ((r = 1 ∧ 0 ≤ a ∧ a ≤ M 0 0 / 30) ∨ (r = 0 ∧ ¬ (0 ≤ a ∧ a ≤ M 0 0 / 30)))) := by
  refine kC_of (by decide +kernel) (Nat.le_of_ble_eq_true rfl) ?_
  intro p e s m args below meth c sz ls hargs hsz hM hin hE hX hl
  have hx := hM.1
  have hb := hM.2.1
  have hl : lv_has ls 2 [(0, .ref o), (1, .int a)] := hl
  refine lv_iload_n hx hb dX5_isMonth_0 rfl (lv_at hl 1 rfl) ?_
  refine lv_iconst (v := 0) hx hb dX5_isMonth_1 (by decide) ?_
  refine lv_aload_n hx hb dX5_isMonth_2 rfl (lv_at hl 0 rfl) ?_
  refine m_get hM hE hX hR 0 (by decide) k_1063 rfl rfl dX5_isMonth_3 ?_
  refine lv_bipush (v := 30) hx hb dX5_isMonth_6 (by decide) ?_
  refine lv_idiv hx hb dX5_isMonth_8 (by decide) ?_
  refine k_goi (k_S (n := 3) (As := [.int a, .int 0, .int ((M 0 0) / 30)]) (rest := []) hM hE hX hl (c_X5_isIn l γ L F a 0 ((M 0 0) / 30)) k_1151 k_1152 k_9 k_1153 ⟨by decide, by decide, by decide +kernel⟩ (by decide) rfl rfl (Nat.le_of_ble_eq_true rfl) dX5_isMonth_9 (by decide)) hE hX (fun r L1 F1 H locs hp hX => ?_)
  obtain ⟨rfl, rfl, ⟨rfl, h_1⟩ | ⟨rfl, h_1⟩⟩ := hp
  · exact k_zret hM rfl hsz hX ⟨_, rfl, rfl, rfl, Or.inl ⟨rfl, h_1⟩⟩ (by decide) (by decide) dX5_isMonth_12
  · exact k_zret hM rfl hsz hX ⟨_, rfl, rfl, rfl, Or.inr ⟨rfl, h_1⟩⟩ (by decide) (by decide) dX5_isMonth_12
set_option maxHeartbeats 4000000 in
set_option maxRecDepth 100000 in
theorem c_X5_isGood (l : Launch) (γ : kG) (L : List Nat) (F : kF) (a b : Int32) : kC l yX5_isGood cX5_isGood 2 (some .boolean) (kRm 1 0 0) γ L F [.int a, .int b] (kI fun r L1 F1 => L = L1 ∧ F = F1 ∧ ((r = 1 ∧ (1 ≤ a ∧ a ≤ 9999) ∧ (b = 0 ∨ b = 7 ∨ b = 19)) ∨ (r = 0 ∧ ¬ ((1 ≤ a ∧ a ≤ 9999) ∧ (b = 0 ∨ b = 7 ∨ b = 19))))) := by
  refine kC_of (by decide +kernel) (Nat.le_of_ble_eq_true rfl) ?_
  intro p e s m args below meth c sz ls hargs hsz hM hin hE hX hl
  have hx := hM.1
  have hb := hM.2.1
  have hl : lv_has ls 2 [(0, .int a), (1, .int b)] := hl
  refine lv_iload_n hx hb dX5_isGood_0 rfl (lv_at hl 0 rfl) ?_
  refine lv_iconst (v := 1) hx hb dX5_isGood_1 (by decide) ?_
  refine lv_sipush (v := 9999) hx hb dX5_isGood_2 (by decide) ?_
  refine k_goi (k_S (n := 3) (As := [.int a, .int 1, .int 9999]) (rest := []) hM hE hX hl (c_X5_isIn l γ L F a 1 9999) k_1151 k_1152 k_9 k_1153 ⟨by decide, by decide, by decide +kernel⟩ (by decide) rfl rfl (Nat.le_of_ble_eq_true rfl) dX5_isGood_5 (by decide)) hE hX (fun r L1 F1 H locs hp hX => ?_)
  obtain ⟨rfl, rfl, ⟨rfl, h_1⟩ | ⟨rfl, h_1⟩⟩ := hp
  · refine lv_if_eq (tgt := 31) hx hb dX5_isGood_8 (by decide) (fun c_2 => absurd (show (1 : Int32) = 0 from c_2) (by decide)) (fun _ => ?_)
    refine lv_iload_n hx hb dX5_isGood_11 rfl (lv_at hl 1 rfl) ?_
    refine lv_if_eq (tgt := 27) hx hb dX5_isGood_12 (by decide) (fun c_3 => ?_) (fun c_3 => ?_)
    · refine lv_iconst (v := 1) hx hb dX5_isGood_27 (by decide) ?_
      refine lv_goto (tgt := 32) hx hb dX5_isGood_28 (by decide) ?_
      exact k_zret hM rfl hsz hX ⟨_, rfl, rfl, rfl, Or.inl ⟨rfl, ⟨h_1, Or.inl c_3⟩⟩⟩ (by decide) (by decide) dX5_isGood_32
    · refine lv_iload_n hx hb dX5_isGood_15 rfl (lv_at hl 1 rfl) ?_
      refine lv_bipush (v := 7) hx hb dX5_isGood_16 (by decide) ?_
      refine lv_icmp_eq (tgt := 27) hx hb dX5_isGood_18 (by decide) (fun c_4 => ?_) (fun c_4 => ?_)
      · refine lv_iconst (v := 1) hx hb dX5_isGood_27 (by decide) ?_
        refine lv_goto (tgt := 32) hx hb dX5_isGood_28 (by decide) ?_
        exact k_zret hM rfl hsz hX ⟨_, rfl, rfl, rfl, Or.inl ⟨rfl, ⟨h_1, Or.inr (Or.inl c_4)⟩⟩⟩ (by decide) (by decide) dX5_isGood_32
      · refine lv_iload_n hx hb dX5_isGood_21 rfl (lv_at hl 1 rfl) ?_
        refine lv_bipush (v := 19) hx hb dX5_isGood_22 (by decide) ?_
        refine lv_icmp_ne (tgt := 31) hx hb dX5_isGood_24 (by decide) (fun c_5 => ?_) (fun c_5 => ?_)
        · refine lv_iconst (v := 0) hx hb dX5_isGood_31 (by decide) ?_
          exact k_zret hM rfl hsz hX ⟨_, rfl, rfl, rfl, Or.inr ⟨rfl, fun h => h.2.elim c_3 (fun h => h.elim c_4 c_5)⟩⟩ (by decide) (by decide) dX5_isGood_32
        · refine lv_iconst (v := 1) hx hb dX5_isGood_27 (by decide) ?_
          refine lv_goto (tgt := 32) hx hb dX5_isGood_28 (by decide) ?_
          exact k_zret hM rfl hsz hX ⟨_, rfl, rfl, rfl, Or.inl ⟨rfl, ⟨h_1, Or.inr (Or.inr c_5)⟩⟩⟩ (by decide) (by decide) dX5_isGood_32
  · refine lv_if_eq (tgt := 31) hx hb dX5_isGood_8 (by decide) (fun _ => ?_) (fun c_6 => absurd (show ¬ (0 : Int32) = 0 from c_6) (by decide))
    refine lv_iconst (v := 0) hx hb dX5_isGood_31 (by decide) ?_
    exact k_zret hM rfl hsz hX ⟨_, rfl, rfl, rfl, Or.inr ⟨rfl, fun h => h_1 h.1⟩⟩ (by decide) (by decide) dX5_isGood_32
set_option maxHeartbeats 4000000 in
set_option maxRecDepth 100000 in
theorem c_X5_taxOf (l : Launch) (γ : kG) (L : List Nat) (F : kF) (a b : Int32) : kC l yX5_taxOf cX5_taxOf 2 (some .int) (kRm 0 0 0) γ L F [.int a, .int b] (kI fun r L1 F1 => L = L1 ∧ F = F1 ∧ r = tx a b) := by
  refine kC_of (by decide +kernel) (Nat.le_of_ble_eq_true rfl) ?_
  intro p e s m args below meth c sz ls hargs hsz hM hin hE hX hl
  have hx := hM.1
  have hb := hM.2.1
  have hl : lv_has ls 2 [(0, .int a), (1, .int b)] := hl
  refine lv_iload_n hx hb dX5_taxOf_0 rfl (lv_at hl 0 rfl) ?_
  refine lv_iload_n hx hb dX5_taxOf_1 rfl (lv_at hl 1 rfl) ?_
  refine lv_imul hx hb dX5_taxOf_2 ?_
  refine lv_bipush (v := 100) hx hb dX5_taxOf_3 (by decide) ?_
  refine lv_idiv hx hb dX5_taxOf_5 (by decide) ?_
  exact k_iret hM hsz hX ⟨_, rfl, rfl, rfl, rfl⟩ (by decide) (by decide) dX5_taxOf_6
set_option maxHeartbeats 4000000 in
set_option maxRecDepth 100000 in
theorem c_X5_isLine (l : Launch) (γ : kG) (L : List Nat) (F : kF) (o : Nat) (ad : Nat → Nat) (M : mM) (hR : RepM γ L F o ad M) (a b : Int32) (hn : okN M) (hk : ∀ i, i < nn M → okL M i) : kC l yX5_isLine cX5_isLine 3 (some .boolean) (kRm 2 0 0) γ L F [.ref o, .int a, .int b] (kI fun r L1 F1 => L = L1 ∧ F = F1 ∧ ((r = 1 ∧ (0 ≤ a ∧ a ≤ M 2 0 - 1) ∧ 0 ≤ b ∧ b ≤ M 13 (kj a) - 1) ∨ (r = 0 ∧ ¬ ((0 ≤ a ∧ a ≤ M 2 0 - 1) ∧ 0 ≤ b ∧ b ≤ M 13 (kj a) - 1)))) := by
  refine kC_of (by decide +kernel) (Nat.le_of_ble_eq_true rfl) ?_
  intro p e s m args below meth c sz ls hargs hsz hM hin hE hX hl
  have hx := hM.1
  have hb := hM.2.1
  have hl : lv_has ls 3 [(0, .ref o), (1, .int a), (2, .int b)] := hl
  refine lv_aload_n hx hb dX5_isLine_0 rfl (lv_at hl 0 rfl) ?_
  refine lv_iload_n hx hb dX5_isLine_1 rfl (lv_at hl 1 rfl) ?_
  refine k_goi (k_V (n := 1) (As := [.int a]) (rest := []) hM hE hX hl (c_X5_isInvoice l γ L F o ad M hR a) hR.1 hR.2.1 rfl k_1165 k_1167 kp_27 k_9 k_1168 ⟨rfl, by decide, by decide, by decide +kernel⟩ (by decide) rfl rfl (Nat.le_of_ble_eq_true rfl) dX5_isLine_2 (by decide)) hE hX (fun r L1 F1 H locs hp hX => ?_)
  obtain ⟨rfl, rfl, ⟨rfl, h_1⟩ | ⟨rfl, h_1⟩⟩ := hp
  · have hj := ixM (M := M) hn h_1
    have hj2 := hj.2
    refine lv_if_eq (tgt := 28) hx hb dX5_isLine_5 (by decide) (fun c_2 => absurd (show (1 : Int32) = 0 from c_2) (by decide)) (fun _ => ?_)
    have hj := ixM hn h_1
    have hj2 := hj.2
    have hn2 := hn.2
    refine lv_iload_n hx hb dX5_isLine_8 rfl (lv_at hl 2 rfl) ?_
    refine lv_iconst (v := 0) hx hb dX5_isLine_9 (by decide) ?_
    refine lv_aload_n hx hb dX5_isLine_10 rfl (lv_at hl 0 rfl) ?_
    refine m_get hM hE hX hR 13 (by decide) k_1076 rfl rfl dX5_isLine_11 ?_
    refine lv_iload_n hx hb dX5_isLine_14 rfl (lv_at hl 1 rfl) ?_
    refine m_iald hM hE hX hR 13 (kj a) (by decide) rfl rfl hj.1 (show kj a < 20 by omega) dX5_isLine_15 ?_
    refine lv_iconst (v := 1) hx hb dX5_isLine_16 (by decide) ?_
    refine lv_isub hx hb dX5_isLine_17 ?_
    refine k_goi (k_S (n := 3) (As := [.int b, .int 0, .int ((M 13 (kj a)) - 1)]) (rest := []) hM hE hX hl (c_X5_isIn l γ L F b 0 ((M 13 (kj a)) - 1)) k_1151 k_1152 k_9 k_1153 ⟨by decide, by decide, by decide +kernel⟩ (by decide) rfl rfl (Nat.le_of_ble_eq_true rfl) dX5_isLine_18 (by decide)) hE hX (fun r L1 F1 H locs hp hX => ?_)
    obtain ⟨rfl, rfl, ⟨rfl, h_3⟩ | ⟨rfl, h_3⟩⟩ := hp
    · refine lv_if_eq (tgt := 28) hx hb dX5_isLine_21 (by decide) (fun c_4 => absurd (show (1 : Int32) = 0 from c_4) (by decide)) (fun _ => ?_)
      refine lv_iconst (v := 1) hx hb dX5_isLine_24 (by decide) ?_
      refine lv_goto (tgt := 29) hx hb dX5_isLine_25 (by decide) ?_
      exact k_zret hM rfl hsz hX ⟨_, rfl, rfl, rfl, Or.inl ⟨rfl, h_1, h_3⟩⟩ (by decide) (by decide) dX5_isLine_29
    · refine lv_if_eq (tgt := 28) hx hb dX5_isLine_21 (by decide) (fun _ => ?_) (fun c_5 => absurd (show ¬ (0 : Int32) = 0 from c_5) (by decide))
      refine lv_iconst (v := 0) hx hb dX5_isLine_28 (by decide) ?_
      exact k_zret hM rfl hsz hX ⟨_, rfl, rfl, rfl, Or.inr ⟨rfl, fun h => h_3 h.2⟩⟩ (by decide) (by decide) dX5_isLine_29
  · refine lv_if_eq (tgt := 28) hx hb dX5_isLine_5 (by decide) (fun _ => ?_) (fun c_6 => absurd (show ¬ (0 : Int32) = 0 from c_6) (by decide))
    refine lv_iconst (v := 0) hx hb dX5_isLine_28 (by decide) ?_
    exact k_zret hM rfl hsz hX ⟨_, rfl, rfl, rfl, Or.inr ⟨rfl, fun h => h_1 h.1⟩⟩ (by decide) (by decide) dX5_isLine_29
def costs_st (M : mM) (i : Nat) (w : Int32) (j : Nat) (x : Int32) : Int32 := (if w = 0 then (if (M 17 (3 * i + j)) = 0 then (x + ((M 14 (3 * i + j)) + (tx (M 14 (3 * i + j)) (M 16 (3 * i + j))))) else (x + 0)) else (x + ((M 14 (3 * i + j)) + (tx (M 14 (3 * i + j)) (M 16 (3 * i + j))))))
def costs (M : mM) (i : Nat) (w : Int32) : Int32 := l_fold (costs_st M i w) 0 (kk M i)
set_option maxHeartbeats 4000000 in
set_option maxRecDepth 100000 in
theorem c_X5_costs (l : Launch) (γ : kG) (L : List Nat) (F : kF) (o : Nat) (ad : Nat → Nat) (M : mM) (hR : RepM γ L F o ad M) (i : Nat) (a w : Int32) (ha : a = nI i) (hi : i < 20) (hk : okL M i) : kC l yX5_costs cX5_costs 5 (some .int) (kRm 1 0 0) γ L F [.ref o, .int a, .int w] (kI fun r L1 F1 => L = L1 ∧ F = F1 ∧ r = costs M i w) := by
  subst ha
  refine kC_of (by decide +kernel) (Nat.le_of_ble_eq_true rfl) ?_
  intro p e s m args below meth c sz ls hargs hsz hM hin hE hX hl
  have hx := hM.1
  have hb := hM.2.1
  have hl : lv_has ls 5 [(0, .ref o), (1, .int (nI i)), (2, .int w)] := hl
  have hk2 := hk.2
  have hloop : ∀ (n j : Nat) (x : Int32), kk M i < j + n → j ≤ kk M i → x = l_fold (costs_st M i w) 0 j → ∀ (H : Heap) (locs : List Loc) (ls : Array Slot), kX γ (kA L sz) s L F H locs → lv_has ls 5 [(3, .int x), (4, .int (nI (3 * i + j))), (0, .ref o), (1, .int (nI i)), (2, .int w)] → W p l e (kRm 1 0 0) s m args below meth c H locs 0 0 (MQ below (kQ γ L sz (kI fun r L1 F1 => L = L1 ∧ F = F1 ∧ r = costs M i w)) args s (kRm 1 0 0).cells (kRm 1 0 0).slots (kA L sz)) (F0 m 7 ls []) := by
    intro n
    induction n with
    | zero => intro j x h1 h2; exact absurd h1 (by omega)
    | succ n ih =>
      intro j x h1 h2 hxj H locs ls hX hl
      refine lv_iload hx hb dX5_costs_7 (lv_at hl 1 rfl) ?_
      refine lv_iconst (v := 3) hx hb dX5_costs_9 (by decide) ?_
      refine lv_iload_n hx hb dX5_costs_10 rfl (lv_at hl 3 rfl) ?_
      refine lv_imul hx hb dX5_costs_11 ?_
      rw [show (3 : Int32) * (nI i) = (nI (3 * i)) from k3 i]
      refine lv_aload_n hx hb dX5_costs_12 rfl (lv_at hl 2 rfl) ?_
      refine m_get hM hE hX hR 13 (by decide) k_1076 rfl rfl dX5_costs_13 ?_
      refine lv_iload_n hx hb dX5_costs_16 rfl (lv_at hl 3 rfl) ?_
      refine m_iald hM hE hX hR 13 i (by decide) rfl rfl rfl (show i < 20 by omega) dX5_costs_17 ?_
      refine lv_iadd hx hb dX5_costs_18 ?_
      rw [show (nI (3 * i)) + (M 13 i) = (nI (3 * i + kk M i)) from by rw [hk.1, nI_add]]
      refine lv_icmp_ge (tgt := 74) hx hb dX5_costs_19 (by decide) (fun c_1 => ?_) (fun c_1 => ?_)
      · have ej : j = kk M i := by
          have h9 := lp_out (a := (3 * i + j)) (b := (3 * i + kk M i)) (by omega) (by omega) (c_1)
          omega
        refine lv_iload_n hx hb dX5_costs_74 rfl (lv_at hl 0 rfl) ?_
        exact k_iret hM hsz hX ⟨_, rfl, rfl, rfl, by rw [hxj, ej]; rfl⟩ (by decide) (by decide) dX5_costs_75
      · have hj : j < kk M i := by
          have h9 := lp_in (a := (3 * i + j)) (b := (3 * i + kk M i)) (by omega) (by omega) (c_1)
          omega
        refine lv_iload_n hx hb dX5_costs_22 rfl (lv_at hl 0 rfl) ?_
        refine lv_iload_n hx hb dX5_costs_23 rfl (lv_at hl 4 rfl) ?_
        refine lv_if_ne (tgt := 37) hx hb dX5_costs_24 (by decide) (fun c_2 => ?_) (fun c_2 => ?_)
        · refine lv_aload_n hx hb dX5_costs_37 rfl (lv_at hl 2 rfl) ?_
          refine m_get hM hE hX hR 14 (by decide) k_1077 rfl rfl dX5_costs_38 ?_
          refine lv_iload hx hb dX5_costs_41 (lv_at hl 1 rfl) ?_
          refine m_iald hM hE hX hR 14 (3 * i + j) (by decide) rfl rfl rfl (show 3 * i + j < 60 by omega) dX5_costs_43 ?_
          refine lv_aload_n hx hb dX5_costs_44 rfl (lv_at hl 2 rfl) ?_
          refine m_get hM hE hX hR 14 (by decide) k_1077 rfl rfl dX5_costs_45 ?_
          refine lv_iload hx hb dX5_costs_48 (lv_at hl 1 rfl) ?_
          refine m_iald hM hE hX hR 14 (3 * i + j) (by decide) rfl rfl rfl (show 3 * i + j < 60 by omega) dX5_costs_50 ?_
          refine lv_aload_n hx hb dX5_costs_51 rfl (lv_at hl 2 rfl) ?_
          refine m_get hM hE hX hR 16 (by decide) k_1079 rfl rfl dX5_costs_52 ?_
          refine lv_iload hx hb dX5_costs_55 (lv_at hl 1 rfl) ?_
          refine m_iald hM hE hX hR 16 (3 * i + j) (by decide) rfl rfl rfl (show 3 * i + j < 60 by omega) dX5_costs_57 ?_
          refine k_goi (k_S (n := 2) (As := [.int (M 14 (3 * i + j)), .int (M 16 (3 * i + j))]) (rest := [.int (M 14 (3 * i + j)), .int x]) hM hE hX hl (c_X5_taxOf l γ L F (M 14 (3 * i + j)) (M 16 (3 * i + j))) k_1185 k_1186 k_9 k_1187 ⟨by decide, by decide, by decide +kernel⟩ (by decide) rfl rfl (Nat.le_of_ble_eq_true rfl) dX5_costs_58 (by decide)) hE hX (fun r L1 F1 H locs hp hX => ?_)
          obtain ⟨rfl, rfl, rfl⟩ := hp
          refine lv_iadd hx hb dX5_costs_61 ?_
          refine lv_goto (tgt := 66) hx hb dX5_costs_62 (by decide) ?_
          refine lv_iadd hx hb dX5_costs_66 ?_
          refine lv_istore_n (lv' := [(3, .int (x + ((M 14 (3 * i + j)) + (tx (M 14 (3 * i + j)) (M 16 (3 * i + j)))))), (4, .int (nI (3 * i + j))), (0, .ref o), (1, .int (nI i)), (2, .int w)]) hx hb dX5_costs_67 rfl hl (by decide) rfl (fun ls hl => ?_)
          refine lv_iinc (v := (nI (3 * i + (j + 1)))) (lv' := [(4, .int (nI (3 * i + (j + 1)))), (3, .int (x + ((M 14 (3 * i + j)) + (tx (M 14 (3 * i + j)) (M 16 (3 * i + j)))))), (0, .ref o), (1, .int (nI i)), (2, .int w)]) hx hb dX5_costs_68 hl (k := 1) rfl (nI_1 _) (by decide) rfl (fun ls hl => ?_)
          refine lv_goto (tgt := 7) hx hb dX5_costs_71 (by decide) ?_
          exact ih (j + 1) _ (by omega) (by omega) (show (x + ((M 14 (3 * i + j)) + (tx (M 14 (3 * i + j)) (M 16 (3 * i + j))))) = l_fold (costs_st M i w) 0 (j + 1) from by rw [l_fold, ← hxj]; exact (show costs_st M i w j x = _ from ((if_neg c_2).trans rfl)).symm) _ _ _ hX (lv_sub hl [1, 0, 2, 3, 4] rfl)
        · refine lv_aload_n hx hb dX5_costs_27 rfl (lv_at hl 2 rfl) ?_
          refine m_get hM hE hX hR 17 (by decide) k_1080 rfl rfl dX5_costs_28 ?_
          refine lv_iload hx hb dX5_costs_31 (lv_at hl 1 rfl) ?_
          refine m_zald hM hE hX hR 17 (3 * i + j) (by decide) rfl rfl rfl (show 3 * i + j < 60 by omega) dX5_costs_33 ?_
          refine lv_if_ne (tgt := 65) hx hb dX5_costs_34 (by decide) (fun c_3 => ?_) (fun c_3 => ?_)
          · refine lv_iconst (v := 0) hx hb dX5_costs_65 (by decide) ?_
            refine lv_iadd hx hb dX5_costs_66 ?_
            refine lv_istore_n (lv' := [(3, .int (x + 0)), (4, .int (nI (3 * i + j))), (0, .ref o), (1, .int (nI i)), (2, .int w)]) hx hb dX5_costs_67 rfl hl (by decide) rfl (fun ls hl => ?_)
            refine lv_iinc (v := (nI (3 * i + (j + 1)))) (lv' := [(4, .int (nI (3 * i + (j + 1)))), (3, .int (x + 0)), (0, .ref o), (1, .int (nI i)), (2, .int w)]) hx hb dX5_costs_68 hl (k := 1) rfl (nI_1 _) (by decide) rfl (fun ls hl => ?_)
            refine lv_goto (tgt := 7) hx hb dX5_costs_71 (by decide) ?_
            exact ih (j + 1) _ (by omega) (by omega) (show (x + 0) = l_fold (costs_st M i w) 0 (j + 1) from by rw [l_fold, ← hxj]; exact (show costs_st M i w j x = _ from ((if_pos c_2).trans ((if_neg c_3).trans rfl))).symm) _ _ _ hX (lv_sub hl [1, 0, 2, 3, 4] rfl)
          · refine lv_aload_n hx hb dX5_costs_37 rfl (lv_at hl 2 rfl) ?_
            refine m_get hM hE hX hR 14 (by decide) k_1077 rfl rfl dX5_costs_38 ?_
            refine lv_iload hx hb dX5_costs_41 (lv_at hl 1 rfl) ?_
            refine m_iald hM hE hX hR 14 (3 * i + j) (by decide) rfl rfl rfl (show 3 * i + j < 60 by omega) dX5_costs_43 ?_
            refine lv_aload_n hx hb dX5_costs_44 rfl (lv_at hl 2 rfl) ?_
            refine m_get hM hE hX hR 14 (by decide) k_1077 rfl rfl dX5_costs_45 ?_
            refine lv_iload hx hb dX5_costs_48 (lv_at hl 1 rfl) ?_
            refine m_iald hM hE hX hR 14 (3 * i + j) (by decide) rfl rfl rfl (show 3 * i + j < 60 by omega) dX5_costs_50 ?_
            refine lv_aload_n hx hb dX5_costs_51 rfl (lv_at hl 2 rfl) ?_
            refine m_get hM hE hX hR 16 (by decide) k_1079 rfl rfl dX5_costs_52 ?_
            refine lv_iload hx hb dX5_costs_55 (lv_at hl 1 rfl) ?_
            refine m_iald hM hE hX hR 16 (3 * i + j) (by decide) rfl rfl rfl (show 3 * i + j < 60 by omega) dX5_costs_57 ?_
            refine k_goi (k_S (n := 2) (As := [.int (M 14 (3 * i + j)), .int (M 16 (3 * i + j))]) (rest := [.int (M 14 (3 * i + j)), .int x]) hM hE hX hl (c_X5_taxOf l γ L F (M 14 (3 * i + j)) (M 16 (3 * i + j))) k_1185 k_1186 k_9 k_1187 ⟨by decide, by decide, by decide +kernel⟩ (by decide) rfl rfl (Nat.le_of_ble_eq_true rfl) dX5_costs_58 (by decide)) hE hX (fun r L1 F1 H locs hp hX => ?_)
            obtain ⟨rfl, rfl, rfl⟩ := hp
            refine lv_iadd hx hb dX5_costs_61 ?_
            refine lv_goto (tgt := 66) hx hb dX5_costs_62 (by decide) ?_
            refine lv_iadd hx hb dX5_costs_66 ?_
            refine lv_istore_n (lv' := [(3, .int (x + ((M 14 (3 * i + j)) + (tx (M 14 (3 * i + j)) (M 16 (3 * i + j)))))), (4, .int (nI (3 * i + j))), (0, .ref o), (1, .int (nI i)), (2, .int w)]) hx hb dX5_costs_67 rfl hl (by decide) rfl (fun ls hl => ?_)
            refine lv_iinc (v := (nI (3 * i + (j + 1)))) (lv' := [(4, .int (nI (3 * i + (j + 1)))), (3, .int (x + ((M 14 (3 * i + j)) + (tx (M 14 (3 * i + j)) (M 16 (3 * i + j)))))), (0, .ref o), (1, .int (nI i)), (2, .int w)]) hx hb dX5_costs_68 hl (k := 1) rfl (nI_1 _) (by decide) rfl (fun ls hl => ?_)
            refine lv_goto (tgt := 7) hx hb dX5_costs_71 (by decide) ?_
            exact ih (j + 1) _ (by omega) (by omega) (show (x + ((M 14 (3 * i + j)) + (tx (M 14 (3 * i + j)) (M 16 (3 * i + j))))) = l_fold (costs_st M i w) 0 (j + 1) from by rw [l_fold, ← hxj]; exact (show costs_st M i w j x = _ from ((if_pos c_2).trans ((if_pos c_3).trans rfl))).symm) _ _ _ hX (lv_sub hl [1, 0, 2, 3, 4] rfl)
  refine lv_iconst (v := 0) hx hb dX5_costs_0 (by decide) ?_
  refine lv_istore_n (lv' := [(3, .int 0), (0, .ref o), (1, .int (nI i)), (2, .int w)]) hx hb dX5_costs_1 rfl hl (by decide) rfl (fun ls hl => ?_)
  refine lv_iconst (v := 3) hx hb dX5_costs_2 (by decide) ?_
  refine lv_iload_n hx hb dX5_costs_3 rfl (lv_at hl 2 rfl) ?_
  refine lv_imul hx hb dX5_costs_4 ?_
  rw [show (3 : Int32) * (nI i) = (nI (3 * i)) from k3 i]
  refine lv_istore (lv' := [(4, .int (nI (3 * i))), (3, .int 0), (0, .ref o), (1, .int (nI i)), (2, .int w)]) hx hb dX5_costs_5 hl (by decide) rfl (fun ls hl => ?_)
  exact hloop (kk M i + 1) 0 _ (by omega) (Nat.zero_le _) rfl _ _ _ hX (lv_sub hl [1, 0, 2, 3, 4] rfl)
def taxAll_st (M : mM) (i : Nat) (w : Int32) (j : Nat) (x : Int32) : Int32 := (if w = 0 then (x + (tx (M 14 (3 * i + j)) (M 16 (3 * i + j)))) else (x + (tx (M 15 (3 * i + j)) (M 16 (3 * i + j)))))
def taxAll (M : mM) (i : Nat) (w : Int32) : Int32 := l_fold (taxAll_st M i w) 0 (kk M i)
set_option maxHeartbeats 4000000 in
set_option maxRecDepth 100000 in
theorem c_X5_taxOfAll (l : Launch) (γ : kG) (L : List Nat) (F : kF) (o : Nat) (ad : Nat → Nat) (M : mM) (hR : RepM γ L F o ad M) (i : Nat) (a w : Int32) (ha : a = nI i) (hi : i < 20) (hk : okL M i) : kC l yX5_taxOfAll cX5_taxOfAll 5 (some .int) (kRm 1 0 0) γ L F [.ref o, .int a, .int w] (kI fun r L1 F1 => L = L1 ∧ F = F1 ∧ r = taxAll M i w) := by
  subst ha
  refine kC_of (by decide +kernel) (Nat.le_of_ble_eq_true rfl) ?_
  intro p e s m args below meth c sz ls hargs hsz hM hin hE hX hl
  have hx := hM.1
  have hb := hM.2.1
  have hl : lv_has ls 5 [(0, .ref o), (1, .int (nI i)), (2, .int w)] := hl
  have hk2 := hk.2
  have hloop : ∀ (n j : Nat) (x : Int32), kk M i < j + n → j ≤ kk M i → x = l_fold (taxAll_st M i w) 0 j → ∀ (H : Heap) (locs : List Loc) (ls : Array Slot), kX γ (kA L sz) s L F H locs → lv_has ls 5 [(3, .int x), (4, .int (nI (3 * i + j))), (0, .ref o), (1, .int (nI i)), (2, .int w)] → W p l e (kRm 1 0 0) s m args below meth c H locs 0 0 (MQ below (kQ γ L sz (kI fun r L1 F1 => L = L1 ∧ F = F1 ∧ r = taxAll M i w)) args s (kRm 1 0 0).cells (kRm 1 0 0).slots (kA L sz)) (F0 m 7 ls []) := by
    intro n
    induction n with
    | zero => intro j x h1 h2; exact absurd h1 (by omega)
    | succ n ih =>
      intro j x h1 h2 hxj H locs ls hX hl
      refine lv_iload hx hb dX5_taxOfAll_7 (lv_at hl 1 rfl) ?_
      refine lv_iconst (v := 3) hx hb dX5_taxOfAll_9 (by decide) ?_
      refine lv_iload_n hx hb dX5_taxOfAll_10 rfl (lv_at hl 3 rfl) ?_
      refine lv_imul hx hb dX5_taxOfAll_11 ?_
      rw [show (3 : Int32) * (nI i) = (nI (3 * i)) from k3 i]
      refine lv_aload_n hx hb dX5_taxOfAll_12 rfl (lv_at hl 2 rfl) ?_
      refine m_get hM hE hX hR 13 (by decide) k_1076 rfl rfl dX5_taxOfAll_13 ?_
      refine lv_iload_n hx hb dX5_taxOfAll_16 rfl (lv_at hl 3 rfl) ?_
      refine m_iald hM hE hX hR 13 i (by decide) rfl rfl rfl (show i < 20 by omega) dX5_taxOfAll_17 ?_
      refine lv_iadd hx hb dX5_taxOfAll_18 ?_
      rw [show (nI (3 * i)) + (M 13 i) = (nI (3 * i + kk M i)) from by rw [hk.1, nI_add]]
      refine lv_icmp_ge (tgt := 62) hx hb dX5_taxOfAll_19 (by decide) (fun c_1 => ?_) (fun c_1 => ?_)
      · have ej : j = kk M i := by
          have h9 := lp_out (a := (3 * i + j)) (b := (3 * i + kk M i)) (by omega) (by omega) (c_1)
          omega
        refine lv_iload_n hx hb dX5_taxOfAll_62 rfl (lv_at hl 0 rfl) ?_
        exact k_iret hM hsz hX ⟨_, rfl, rfl, rfl, by rw [hxj, ej]; rfl⟩ (by decide) (by decide) dX5_taxOfAll_63
      · have hj : j < kk M i := by
          have h9 := lp_in (a := (3 * i + j)) (b := (3 * i + kk M i)) (by omega) (by omega) (c_1)
          omega
        refine lv_iload_n hx hb dX5_taxOfAll_22 rfl (lv_at hl 0 rfl) ?_
        refine lv_iload_n hx hb dX5_taxOfAll_23 rfl (lv_at hl 4 rfl) ?_
        refine lv_if_eq (tgt := 37) hx hb dX5_taxOfAll_24 (by decide) (fun c_2 => ?_) (fun c_2 => ?_)
        · refine lv_aload_n hx hb dX5_taxOfAll_37 rfl (lv_at hl 2 rfl) ?_
          refine m_get hM hE hX hR 14 (by decide) k_1077 rfl rfl dX5_taxOfAll_38 ?_
          refine lv_iload hx hb dX5_taxOfAll_41 (lv_at hl 1 rfl) ?_
          refine m_iald hM hE hX hR 14 (3 * i + j) (by decide) rfl rfl rfl (show 3 * i + j < 60 by omega) dX5_taxOfAll_43 ?_
          refine lv_aload_n hx hb dX5_taxOfAll_44 rfl (lv_at hl 2 rfl) ?_
          refine m_get hM hE hX hR 16 (by decide) k_1079 rfl rfl dX5_taxOfAll_45 ?_
          refine lv_iload hx hb dX5_taxOfAll_48 (lv_at hl 1 rfl) ?_
          refine m_iald hM hE hX hR 16 (3 * i + j) (by decide) rfl rfl rfl (show 3 * i + j < 60 by omega) dX5_taxOfAll_50 ?_
          refine k_goi (k_S (n := 2) (As := [.int (M 14 (3 * i + j)), .int (M 16 (3 * i + j))]) (rest := [.int x]) hM hE hX hl (c_X5_taxOf l γ L F (M 14 (3 * i + j)) (M 16 (3 * i + j))) k_1185 k_1186 k_9 k_1187 ⟨by decide, by decide, by decide +kernel⟩ (by decide) rfl rfl (Nat.le_of_ble_eq_true rfl) dX5_taxOfAll_51 (by decide)) hE hX (fun r L1 F1 H locs hp hX => ?_)
          obtain ⟨rfl, rfl, rfl⟩ := hp
          refine lv_iadd hx hb dX5_taxOfAll_54 ?_
          refine lv_istore_n (lv' := [(3, .int (x + (tx (M 14 (3 * i + j)) (M 16 (3 * i + j))))), (4, .int (nI (3 * i + j))), (0, .ref o), (1, .int (nI i)), (2, .int w)]) hx hb dX5_taxOfAll_55 rfl hl (by decide) rfl (fun ls hl => ?_)
          refine lv_iinc (v := (nI (3 * i + (j + 1)))) (lv' := [(4, .int (nI (3 * i + (j + 1)))), (3, .int (x + (tx (M 14 (3 * i + j)) (M 16 (3 * i + j))))), (0, .ref o), (1, .int (nI i)), (2, .int w)]) hx hb dX5_taxOfAll_56 hl (k := 1) rfl (nI_1 _) (by decide) rfl (fun ls hl => ?_)
          refine lv_goto (tgt := 7) hx hb dX5_taxOfAll_59 (by decide) ?_
          exact ih (j + 1) _ (by omega) (by omega) (show (x + (tx (M 14 (3 * i + j)) (M 16 (3 * i + j)))) = l_fold (taxAll_st M i w) 0 (j + 1) from by rw [l_fold, ← hxj]; exact (show taxAll_st M i w j x = _ from ((if_pos c_2).trans rfl)).symm) _ _ _ hX (lv_sub hl [1, 0, 2, 3, 4] rfl)
        · refine lv_aload_n hx hb dX5_taxOfAll_27 rfl (lv_at hl 2 rfl) ?_
          refine m_get hM hE hX hR 15 (by decide) k_1078 rfl rfl dX5_taxOfAll_28 ?_
          refine lv_iload hx hb dX5_taxOfAll_31 (lv_at hl 1 rfl) ?_
          refine m_iald hM hE hX hR 15 (3 * i + j) (by decide) rfl rfl rfl (show 3 * i + j < 60 by omega) dX5_taxOfAll_33 ?_
          refine lv_goto (tgt := 44) hx hb dX5_taxOfAll_34 (by decide) ?_
          refine lv_aload_n hx hb dX5_taxOfAll_44 rfl (lv_at hl 2 rfl) ?_
          refine m_get hM hE hX hR 16 (by decide) k_1079 rfl rfl dX5_taxOfAll_45 ?_
          refine lv_iload hx hb dX5_taxOfAll_48 (lv_at hl 1 rfl) ?_
          refine m_iald hM hE hX hR 16 (3 * i + j) (by decide) rfl rfl rfl (show 3 * i + j < 60 by omega) dX5_taxOfAll_50 ?_
          refine k_goi (k_S (n := 2) (As := [.int (M 15 (3 * i + j)), .int (M 16 (3 * i + j))]) (rest := [.int x]) hM hE hX hl (c_X5_taxOf l γ L F (M 15 (3 * i + j)) (M 16 (3 * i + j))) k_1185 k_1186 k_9 k_1187 ⟨by decide, by decide, by decide +kernel⟩ (by decide) rfl rfl (Nat.le_of_ble_eq_true rfl) dX5_taxOfAll_51 (by decide)) hE hX (fun r L1 F1 H locs hp hX => ?_)
          obtain ⟨rfl, rfl, rfl⟩ := hp
          refine lv_iadd hx hb dX5_taxOfAll_54 ?_
          refine lv_istore_n (lv' := [(3, .int (x + (tx (M 15 (3 * i + j)) (M 16 (3 * i + j))))), (4, .int (nI (3 * i + j))), (0, .ref o), (1, .int (nI i)), (2, .int w)]) hx hb dX5_taxOfAll_55 rfl hl (by decide) rfl (fun ls hl => ?_)
          refine lv_iinc (v := (nI (3 * i + (j + 1)))) (lv' := [(4, .int (nI (3 * i + (j + 1)))), (3, .int (x + (tx (M 15 (3 * i + j)) (M 16 (3 * i + j))))), (0, .ref o), (1, .int (nI i)), (2, .int w)]) hx hb dX5_taxOfAll_56 hl (k := 1) rfl (nI_1 _) (by decide) rfl (fun ls hl => ?_)
          refine lv_goto (tgt := 7) hx hb dX5_taxOfAll_59 (by decide) ?_
          exact ih (j + 1) _ (by omega) (by omega) (show (x + (tx (M 15 (3 * i + j)) (M 16 (3 * i + j)))) = l_fold (taxAll_st M i w) 0 (j + 1) from by rw [l_fold, ← hxj]; exact (show taxAll_st M i w j x = _ from ((if_neg c_2).trans rfl)).symm) _ _ _ hX (lv_sub hl [1, 0, 2, 3, 4] rfl)
  refine lv_iconst (v := 0) hx hb dX5_taxOfAll_0 (by decide) ?_
  refine lv_istore_n (lv' := [(3, .int 0), (0, .ref o), (1, .int (nI i)), (2, .int w)]) hx hb dX5_taxOfAll_1 rfl hl (by decide) rfl (fun ls hl => ?_)
  refine lv_iconst (v := 3) hx hb dX5_taxOfAll_2 (by decide) ?_
  refine lv_iload_n hx hb dX5_taxOfAll_3 rfl (lv_at hl 2 rfl) ?_
  refine lv_imul hx hb dX5_taxOfAll_4 ?_
  rw [show (3 : Int32) * (nI i) = (nI (3 * i)) from k3 i]
  refine lv_istore (lv' := [(4, .int (nI (3 * i))), (3, .int 0), (0, .ref o), (1, .int (nI i)), (2, .int w)]) hx hb dX5_taxOfAll_5 hl (by decide) rfl (fun ls hl => ?_)
  exact hloop (kk M i + 1) 0 _ (by omega) (Nat.zero_le _) rfl _ _ _ hX (lv_sub hl [1, 0, 2, 3, 4] rfl)
def owed (M : mM) (i : Nat) : Int32 := (if (M 6 i) = 1 then (if ((costs M i 0) - (M 12 i)) ≤ 0 then 0 else ((costs M i 0) - (M 12 i))) else 0)
set_option maxHeartbeats 4000000 in
set_option maxRecDepth 100000 in
theorem c_X5_owed (l : Launch) (γ : kG) (L : List Nat) (F : kF) (o : Nat) (ad : Nat → Nat) (M : mM) (hR : RepM γ L F o ad M) (i : Nat) (a : Int32) (ha : a = nI i) (hi : i < 20) (hk : okL M i) : kC l yX5_owed cX5_owed 3 (some .int) (kRm 2 0 0) γ L F [.ref o, .int a] (kI fun r L1 F1 => L = L1 ∧ F = F1 ∧ r = owed M i) := by
  subst ha
  refine kC_of (by decide +kernel) (Nat.le_of_ble_eq_true rfl) ?_
  intro p e s m args below meth c sz ls hargs hsz hM hin hE hX hl
  have hx := hM.1
  have hb := hM.2.1
  have hl : lv_has ls 3 [(0, .ref o), (1, .int (nI i))] := hl
  refine lv_aload_n hx hb dX5_owed_0 rfl (lv_at hl 0 rfl) ?_
  refine lv_iload_n hx hb dX5_owed_1 rfl (lv_at hl 1 rfl) ?_
  refine lv_iconst (v := 0) hx hb dX5_owed_2 (by decide) ?_
  refine k_goi (k_V (n := 2) (As := [.int (nI i), .int 0]) (rest := []) hM hE hX hl (c_X5_costs l γ L F o ad M hR i (nI i) 0 rfl hi hk) hR.1 hR.2.1 rfl k_1181 k_1183 kp_30 k_9 k_1184 ⟨rfl, by decide, by decide, by decide +kernel⟩ (by decide) rfl rfl (Nat.le_of_ble_eq_true rfl) dX5_owed_3 (by decide)) hE hX (fun r L1 F1 H locs hp hX => ?_)
  obtain ⟨rfl, rfl, rfl⟩ := hp
  refine lv_aload_n hx hb dX5_owed_6 rfl (lv_at hl 0 rfl) ?_
  refine m_get hM hE hX hR 12 (by decide) k_1075 rfl rfl dX5_owed_7 ?_
  refine lv_iload_n hx hb dX5_owed_10 rfl (lv_at hl 1 rfl) ?_
  refine m_iald hM hE hX hR 12 i (by decide) rfl rfl rfl (show i < 20 by omega) dX5_owed_11 ?_
  refine lv_isub hx hb dX5_owed_12 ?_
  refine lv_istore_n (lv' := [(2, .int ((costs M i 0) - (M 12 i))), (0, .ref o), (1, .int (nI i))]) hx hb dX5_owed_13 rfl hl (by decide) rfl (fun ls hl => ?_)
  refine lv_aload_n hx hb dX5_owed_14 rfl (lv_at hl 1 rfl) ?_
  refine m_get hM hE hX hR 6 (by decide) k_1069 rfl rfl dX5_owed_15 ?_
  refine lv_iload_n hx hb dX5_owed_18 rfl (lv_at hl 2 rfl) ?_
  refine m_iald hM hE hX hR 6 i (by decide) rfl rfl rfl (show i < 20 by omega) dX5_owed_19 ?_
  refine lv_iconst (v := 1) hx hb dX5_owed_20 (by decide) ?_
  refine lv_icmp_ne (tgt := 32) hx hb dX5_owed_21 (by decide) (fun c_1 => ?_) (fun c_1 => ?_)
  · refine lv_iconst (v := 0) hx hb dX5_owed_32 (by decide) ?_
    exact k_iret hM hsz hX ⟨_, rfl, rfl, rfl, (show owed M i = _ from ((if_neg c_1).trans rfl)).symm⟩ (by decide) (by decide) dX5_owed_33
  · refine lv_iload_n hx hb dX5_owed_24 rfl (lv_at hl 0 rfl) ?_
    refine lv_if_le (tgt := 32) hx hb dX5_owed_25 (by decide) (fun c_2 => ?_) (fun c_2 => ?_)
    · refine lv_iconst (v := 0) hx hb dX5_owed_32 (by decide) ?_
      exact k_iret hM hsz hX ⟨_, rfl, rfl, rfl, (show owed M i = _ from ((if_pos c_1).trans ((if_pos c_2).trans rfl))).symm⟩ (by decide) (by decide) dX5_owed_33
    · refine lv_iload_n hx hb dX5_owed_28 rfl (lv_at hl 0 rfl) ?_
      refine lv_goto (tgt := 33) hx hb dX5_owed_29 (by decide) ?_
      exact k_iret hM hsz hX ⟨_, rfl, rfl, rfl, (show owed M i = _ from ((if_pos c_1).trans ((if_neg c_2).trans rfl))).symm⟩ (by decide) (by decide) dX5_owed_33
def hasC_st (M : mM) (a : Int32) (j : Nat) (x : Int32) : Int32 := (if (M 19 j) = a then (x ||| 1) else (x ||| 0))
def hasC (M : mM) (a : Int32) : Int32 := l_fold (hasC_st M a) 0 (cc M)
theorem hasC_01 (M : mM) (a : Int32) : ∀ j, l_fold (hasC_st M a) 0 j = 0 ∨ l_fold (hasC_st M a) 0 j = 1 := by
  intro j
  induction j with
  | zero => exact Or.inl rfl
  | succ k ih =>
    rw [l_fold]
    generalize l_fold (hasC_st M a) 0 k = y at ih
    unfold hasC_st
    split <;> rcases ih with rfl | rfl <;> decide
theorem hasC_z (M : mM) (a : Int32) (j : Nat) : narrow .boolean (.int (l_fold (hasC_st M a) 0 j)) = .int (l_fold (hasC_st M a) 0 j) := by
  rcases hasC_01 M a j with h | h <;> rw [h] <;> rfl
set_option maxHeartbeats 4000000 in
set_option maxRecDepth 100000 in
theorem c_X5_hasCredit (l : Launch) (γ : kG) (L : List Nat) (F : kF) (o : Nat) (ad : Nat → Nat) (M : mM) (hR : RepM γ L F o ad M) (a : Int32) (hc : okC M) : kC l yX5_hasCredit cX5_hasCredit 4 (some .boolean) (kRm 0 0 0) γ L F [.ref o, .int a] (kI fun r L1 F1 => L = L1 ∧ F = F1 ∧ r = hasC M a) := by
  refine kC_of (by decide +kernel) (Nat.le_of_ble_eq_true rfl) ?_
  intro p e s m args below meth c sz ls hargs hsz hM hin hE hX hl
  have hx := hM.1
  have hb := hM.2.1
  have hl : lv_has ls 4 [(0, .ref o), (1, .int a)] := hl
  have hc2 := hc.2
  have hloop : ∀ (n j : Nat) (x : Int32), cc M < j + n → j ≤ cc M → x = l_fold (hasC_st M a) 0 j → ∀ (H : Heap) (locs : List Loc) (ls : Array Slot), kX γ (kA L sz) s L F H locs → lv_has ls 4 [(2, .int x), (3, .int (nI j)), (0, .ref o), (1, .int a)] → W p l e (kRm 0 0 0) s m args below meth c H locs 0 0 (MQ below (kQ γ L sz (kI fun r L1 F1 => L = L1 ∧ F = F1 ∧ r = hasC M a)) args s (kRm 0 0 0).cells (kRm 0 0 0).slots (kA L sz)) (F0 m 4 ls []) := by
    intro n
    induction n with
    | zero => intro j x h1 h2; exact absurd h1 (by omega)
    | succ n ih =>
      intro j x h1 h2 hxj H locs ls hX hl
      refine lv_iload_n hx hb dX5_hasCredit_4 rfl (lv_at hl 1 rfl) ?_
      refine lv_aload_n hx hb dX5_hasCredit_5 rfl (lv_at hl 2 rfl) ?_
      refine m_get hM hE hX hR 18 (by decide) k_1081 rfl rfl dX5_hasCredit_6 ?_
      refine lv_icmp_ge (tgt := 36) hx hb dX5_hasCredit_9 (by decide) (fun c_1 => ?_) (fun c_1 => ?_)
      · have ej : j = cc M := by
          have h9 := lp_out (a := j) (b := (cc M)) (by omega) (by omega) (by rw [← hc.1]; exact c_1)
          omega
        refine lv_iload_n hx hb dX5_hasCredit_36 rfl (lv_at hl 0 rfl) ?_
        exact k_zret hM (by rw [hxj]; exact hasC_z M a j) hsz hX ⟨_, rfl, rfl, rfl, by rw [hxj, ej]; rfl⟩ (by decide) (by decide) dX5_hasCredit_37
      · have hj : j < cc M := by
          have h9 := lp_in (a := j) (b := (cc M)) (by omega) (by omega) (by rw [← hc.1]; exact c_1)
          omega
        refine lv_iload_n hx hb dX5_hasCredit_12 rfl (lv_at hl 0 rfl) ?_
        refine lv_aload_n hx hb dX5_hasCredit_13 rfl (lv_at hl 2 rfl) ?_
        refine m_get hM hE hX hR 19 (by decide) k_1082 rfl rfl dX5_hasCredit_14 ?_
        refine lv_iload_n hx hb dX5_hasCredit_17 rfl (lv_at hl 1 rfl) ?_
        refine m_iald hM hE hX hR 19 j (by decide) rfl rfl rfl (show j < 24 by omega) dX5_hasCredit_18 ?_
        refine lv_iload_n hx hb dX5_hasCredit_19 rfl (lv_at hl 3 rfl) ?_
        refine lv_icmp_ne (tgt := 27) hx hb dX5_hasCredit_20 (by decide) (fun c_2 => ?_) (fun c_2 => ?_)
        · refine lv_iconst (v := 0) hx hb dX5_hasCredit_27 (by decide) ?_
          refine lv_ior hx hb dX5_hasCredit_28 ?_
          refine lv_istore_n (lv' := [(2, .int (x ||| 0)), (3, .int (nI j)), (0, .ref o), (1, .int a)]) hx hb dX5_hasCredit_29 rfl hl (by decide) rfl (fun ls hl => ?_)
          refine lv_iinc (v := (nI (j + 1))) (lv' := [(3, .int (nI (j + 1))), (2, .int (x ||| 0)), (0, .ref o), (1, .int a)]) hx hb dX5_hasCredit_30 hl (k := 1) rfl (nI_1 _) (by decide) rfl (fun ls hl => ?_)
          refine lv_goto (tgt := 4) hx hb dX5_hasCredit_33 (by decide) ?_
          exact ih (j + 1) _ (by omega) (by omega) (show (x ||| 0) = l_fold (hasC_st M a) 0 (j + 1) from by rw [l_fold, ← hxj]; exact (show hasC_st M a j x = _ from ((if_neg c_2).trans rfl)).symm) _ _ _ hX (lv_sub hl [1, 0, 2, 3] rfl)
        · refine lv_iconst (v := 1) hx hb dX5_hasCredit_23 (by decide) ?_
          refine lv_goto (tgt := 28) hx hb dX5_hasCredit_24 (by decide) ?_
          refine lv_ior hx hb dX5_hasCredit_28 ?_
          refine lv_istore_n (lv' := [(2, .int (x ||| 1)), (3, .int (nI j)), (0, .ref o), (1, .int a)]) hx hb dX5_hasCredit_29 rfl hl (by decide) rfl (fun ls hl => ?_)
          refine lv_iinc (v := (nI (j + 1))) (lv' := [(3, .int (nI (j + 1))), (2, .int (x ||| 1)), (0, .ref o), (1, .int a)]) hx hb dX5_hasCredit_30 hl (k := 1) rfl (nI_1 _) (by decide) rfl (fun ls hl => ?_)
          refine lv_goto (tgt := 4) hx hb dX5_hasCredit_33 (by decide) ?_
          exact ih (j + 1) _ (by omega) (by omega) (show (x ||| 1) = l_fold (hasC_st M a) 0 (j + 1) from by rw [l_fold, ← hxj]; exact (show hasC_st M a j x = _ from ((if_pos c_2).trans rfl)).symm) _ _ _ hX (lv_sub hl [1, 0, 2, 3] rfl)
  refine lv_iconst (v := 0) hx hb dX5_hasCredit_0 (by decide) ?_
  refine lv_istore_n (lv' := [(2, .int 0), (0, .ref o), (1, .int a)]) hx hb dX5_hasCredit_1 rfl hl (by decide) rfl (fun ls hl => ?_)
  refine lv_iconst (v := 0) hx hb dX5_hasCredit_2 (by decide) ?_
  refine lv_istore_n (lv' := [(3, .int 0), (2, .int 0), (0, .ref o), (1, .int a)]) hx hb dX5_hasCredit_3 rfl hl (by decide) rfl (fun ls hl => ?_)
  exact hloop (cc M + 1) 0 _ (by omega) (Nat.zero_le _) rfl _ _ _ hX (lv_sub hl [1, 0, 2, 3] rfl)
def addsM (M : mM) (i : Nat) (x z : Int32) : mM := (mset (mset (mset (mset M 14 (3 * i + kk M i) x) 15 (3 * i + kk M i) x) 16 (3 * i + kk M i) z) 13 i ((M 13 i) + 1))
set_option maxHeartbeats 4000000 in
set_option maxRecDepth 100000 in
theorem c_X5_adds (l : Launch) (γ : kG) (L : List Nat) (F : kF) (o : Nat) (ad : Nat → Nat) (M : mM) (hR : RepM γ L F o ad M) (i : Nat) (a x z : Int32) (ha : a = nI i) (hi : i < 20) (hk : okL M i) (h3 : kk M i < 3) : kC l yX5_adds cX5_adds 5 none (kRm 0 0 0) γ L F [.ref o, .int a, .int x, .int z] (kU fun L1 F1 => L = L1 ∧ ∃ M1, RepM γ L1 F1 o ad M1 ∧ M1 = addsM M i x z) := by
  subst ha
  refine kC_of (by decide +kernel) (Nat.le_of_ble_eq_true rfl) ?_
  intro p e s m args below meth c sz ls hargs hsz hM hin hE hX hl
  have hx := hM.1
  have hb := hM.2.1
  have hl : lv_has ls 5 [(0, .ref o), (1, .int (nI i)), (2, .int x), (3, .int z)] := hl
  refine lv_iconst (v := 3) hx hb dX5_adds_0 (by decide) ?_
  refine lv_iload_n hx hb dX5_adds_1 rfl (lv_at hl 1 rfl) ?_
  refine lv_imul hx hb dX5_adds_2 ?_
  rw [show (3 : Int32) * (nI i) = (nI (3 * i)) from k3 i]
  refine lv_aload_n hx hb dX5_adds_3 rfl (lv_at hl 0 rfl) ?_
  refine m_get hM hE hX hR 13 (by decide) k_1076 rfl rfl dX5_adds_4 ?_
  refine lv_iload_n hx hb dX5_adds_7 rfl (lv_at hl 1 rfl) ?_
  refine m_iald hM hE hX hR 13 i (by decide) rfl rfl rfl (show i < 20 by omega) dX5_adds_8 ?_
  refine lv_iadd hx hb dX5_adds_9 ?_
  rw [show (nI (3 * i)) + (M 13 i) = (nI (3 * i + kk M i)) from by rw [hk.1, nI_add]]
  refine lv_istore (lv' := [(4, .int (nI (3 * i + kk M i))), (0, .ref o), (1, .int (nI i)), (2, .int x), (3, .int z)]) hx hb dX5_adds_10 hl (by decide) rfl (fun ls hl => ?_)
  refine lv_aload_n hx hb dX5_adds_12 rfl (lv_at hl 1 rfl) ?_
  refine m_get hM hE hX hR 14 (by decide) k_1077 rfl rfl dX5_adds_13 ?_
  refine lv_iload hx hb dX5_adds_16 (lv_at hl 0 rfl) ?_
  refine lv_iload_n hx hb dX5_adds_18 rfl (lv_at hl 3 rfl) ?_
  refine m_iast hM hE hX hR 14 (3 * i + kk M i) (by decide) rfl rfl rfl (show 3 * i + kk M i < 60 by omega) dX5_adds_19 (fun F H locs hX hR => ?_)
  refine lv_aload_n hx hb dX5_adds_20 rfl (lv_at hl 1 rfl) ?_
  refine m_get hM hE hX hR 15 (by decide) k_1078 rfl rfl dX5_adds_21 ?_
  refine lv_iload hx hb dX5_adds_24 (lv_at hl 0 rfl) ?_
  refine lv_iload_n hx hb dX5_adds_26 rfl (lv_at hl 3 rfl) ?_
  refine m_iast hM hE hX hR 15 (3 * i + kk M i) (by decide) rfl rfl rfl (show 3 * i + kk M i < 60 by omega) dX5_adds_27 (fun F H locs hX hR => ?_)
  refine lv_aload_n hx hb dX5_adds_28 rfl (lv_at hl 1 rfl) ?_
  refine m_get hM hE hX hR 16 (by decide) k_1079 rfl rfl dX5_adds_29 ?_
  refine lv_iload hx hb dX5_adds_32 (lv_at hl 0 rfl) ?_
  refine lv_iload_n hx hb dX5_adds_34 rfl (lv_at hl 4 rfl) ?_
  refine m_iast hM hE hX hR 16 (3 * i + kk M i) (by decide) rfl rfl rfl (show 3 * i + kk M i < 60 by omega) dX5_adds_35 (fun F H locs hX hR => ?_)
  refine lv_aload_n hx hb dX5_adds_36 rfl (lv_at hl 1 rfl) ?_
  refine m_get hM hE hX hR 13 (by decide) k_1076 rfl rfl dX5_adds_37 ?_
  refine lv_iload_n hx hb dX5_adds_40 rfl (lv_at hl 2 rfl) ?_
  refine lv_dup2_11 hx hb dX5_adds_41 rfl rfl ?_
  refine m_iald hM hE hX hR 13 i (by decide) rfl rfl rfl (show i < 20 by omega) dX5_adds_42 ?_
  refine lv_iconst (v := 1) hx hb dX5_adds_43 (by decide) ?_
  refine lv_iadd hx hb dX5_adds_44 ?_
  refine m_iast hM hE hX hR 13 i (by decide) rfl rfl rfl (show i < 20 by omega) dX5_adds_45 (fun F H locs hX hR => ?_)
  exact k_vret hM hsz hX ⟨rfl, rfl, _, hR, (show addsM M i x z = _ from rfl).symm⟩ (by decide) (by decide) dX5_adds_46
def lessM (M : mM) (i q : Nat) (x : Int32) : mM := (mset (mset (mset (mset (mset M 19 (cc M) (nI i)) 20 (cc M) (M 0 0)) 21 (cc M) ((tx (M 14 (3 * i + q)) (M 16 (3 * i + q))) - (tx ((M 14 (3 * i + q)) - x) (M 16 (3 * i + q))))) 14 (3 * i + q) ((M 14 (3 * i + q)) - x)) 18 0 ((M 18 0) + 1))
set_option maxHeartbeats 4000000 in
set_option maxRecDepth 100000 in
theorem c_X5_lessens (l : Launch) (γ : kG) (L : List Nat) (F : kF) (o : Nat) (ad : Nat → Nat) (M : mM) (hR : RepM γ L F o ad M) (i q : Nat) (a b x : Int32) (ha : a = nI i) (hb2 : b = nI q) (hi : i < 20) (hq : q < 3) (hc : okC M) (hc2 : cc M < 24) : kC l yX5_lessens cX5_lessens 5 none (kRm 1 0 0) γ L F [.ref o, .int a, .int b, .int x] (kU fun L1 F1 => L = L1 ∧ ∃ M1, RepM γ L1 F1 o ad M1 ∧ M1 = lessM M i q x) := by
  subst ha
  subst hb2
  refine kC_of (by decide +kernel) (Nat.le_of_ble_eq_true rfl) ?_
  intro p e s m args below meth c sz ls hargs hsz hM hin hE hX hl
  have hx := hM.1
  have hb := hM.2.1
  have hl : lv_has ls 5 [(0, .ref o), (1, .int (nI i)), (2, .int (nI q)), (3, .int x)] := hl
  refine lv_iconst (v := 3) hx hb dX5_lessens_0 (by decide) ?_
  refine lv_iload_n hx hb dX5_lessens_1 rfl (lv_at hl 1 rfl) ?_
  refine lv_imul hx hb dX5_lessens_2 ?_
  rw [show (3 : Int32) * (nI i) = (nI (3 * i)) from k3 i]
  refine lv_iload_n hx hb dX5_lessens_3 rfl (lv_at hl 2 rfl) ?_
  refine lv_iadd hx hb dX5_lessens_4 ?_
  rw [show (nI (3 * i)) + (nI q) = (nI (3 * i + q)) from nI_add _ _]
  refine lv_istore (lv' := [(4, .int (nI (3 * i + q))), (0, .ref o), (1, .int (nI i)), (2, .int (nI q)), (3, .int x)]) hx hb dX5_lessens_5 hl (by decide) rfl (fun ls hl => ?_)
  refine lv_aload_n hx hb dX5_lessens_7 rfl (lv_at hl 1 rfl) ?_
  refine m_get hM hE hX hR 19 (by decide) k_1082 rfl rfl dX5_lessens_8 ?_
  refine lv_aload_n hx hb dX5_lessens_11 rfl (lv_at hl 1 rfl) ?_
  refine m_get hM hE hX hR 18 (by decide) k_1081 rfl rfl dX5_lessens_12 ?_
  refine lv_iload_n hx hb dX5_lessens_15 rfl (lv_at hl 2 rfl) ?_
  refine m_iast hM hE hX hR 19 (cc M) (by decide) rfl rfl hc.1 (show cc M < 24 by omega) dX5_lessens_16 (fun F H locs hX hR => ?_)
  refine lv_aload_n hx hb dX5_lessens_17 rfl (lv_at hl 1 rfl) ?_
  refine m_get hM hE hX hR 20 (by decide) k_1083 rfl rfl dX5_lessens_18 ?_
  refine lv_aload_n hx hb dX5_lessens_21 rfl (lv_at hl 1 rfl) ?_
  refine m_get hM hE hX hR 18 (by decide) k_1081 rfl rfl dX5_lessens_22 ?_
  refine lv_aload_n hx hb dX5_lessens_25 rfl (lv_at hl 1 rfl) ?_
  refine m_get hM hE hX hR 0 (by decide) k_1063 rfl rfl dX5_lessens_26 ?_
  refine m_iast hM hE hX hR 20 (cc M) (by decide) rfl rfl hc.1 (show cc M < 24 by omega) dX5_lessens_29 (fun F H locs hX hR => ?_)
  refine lv_aload_n hx hb dX5_lessens_30 rfl (lv_at hl 1 rfl) ?_
  refine m_get hM hE hX hR 21 (by decide) k_1084 rfl rfl dX5_lessens_31 ?_
  refine lv_aload_n hx hb dX5_lessens_34 rfl (lv_at hl 1 rfl) ?_
  refine m_get hM hE hX hR 18 (by decide) k_1081 rfl rfl dX5_lessens_35 ?_
  refine lv_aload_n hx hb dX5_lessens_38 rfl (lv_at hl 1 rfl) ?_
  refine m_get hM hE hX hR 14 (by decide) k_1077 rfl rfl dX5_lessens_39 ?_
  refine lv_iload hx hb dX5_lessens_42 (lv_at hl 0 rfl) ?_
  refine m_iald hM hE hX hR 14 (3 * i + q) (by decide) rfl rfl rfl (show 3 * i + q < 60 by omega) dX5_lessens_44 ?_
  refine lv_aload_n hx hb dX5_lessens_45 rfl (lv_at hl 1 rfl) ?_
  refine m_get hM hE hX hR 16 (by decide) k_1079 rfl rfl dX5_lessens_46 ?_
  refine lv_iload hx hb dX5_lessens_49 (lv_at hl 0 rfl) ?_
  refine m_iald hM hE hX hR 16 (3 * i + q) (by decide) rfl rfl rfl (show 3 * i + q < 60 by omega) dX5_lessens_51 ?_
  refine k_goi (k_S (n := 2) (As := [.int (M 14 (3 * i + q)), .int (M 16 (3 * i + q))]) (rest := [.int (M 18 0), .ref (ad 21)]) hM hE hX hl (c_X5_taxOf l γ L F (M 14 (3 * i + q)) (M 16 (3 * i + q))) k_1185 k_1186 k_9 k_1187 ⟨by decide, by decide, by decide +kernel⟩ (by decide) rfl rfl (Nat.le_of_ble_eq_true rfl) dX5_lessens_52 (by decide)) hE hX (fun r L1 F1 H locs hp hX => ?_)
  obtain ⟨rfl, rfl, rfl⟩ := hp
  refine lv_aload_n hx hb dX5_lessens_55 rfl (lv_at hl 1 rfl) ?_
  refine m_get hM hE hX hR 14 (by decide) k_1077 rfl rfl dX5_lessens_56 ?_
  refine lv_iload hx hb dX5_lessens_59 (lv_at hl 0 rfl) ?_
  refine m_iald hM hE hX hR 14 (3 * i + q) (by decide) rfl rfl rfl (show 3 * i + q < 60 by omega) dX5_lessens_61 ?_
  refine lv_iload_n hx hb dX5_lessens_62 rfl (lv_at hl 4 rfl) ?_
  refine lv_isub hx hb dX5_lessens_63 ?_
  refine lv_aload_n hx hb dX5_lessens_64 rfl (lv_at hl 1 rfl) ?_
  refine m_get hM hE hX hR 16 (by decide) k_1079 rfl rfl dX5_lessens_65 ?_
  refine lv_iload hx hb dX5_lessens_68 (lv_at hl 0 rfl) ?_
  refine m_iald hM hE hX hR 16 (3 * i + q) (by decide) rfl rfl rfl (show 3 * i + q < 60 by omega) dX5_lessens_70 ?_
  refine k_goi (k_S (n := 2) (As := [.int ((M 14 (3 * i + q)) - x), .int (M 16 (3 * i + q))]) (rest := [.int (tx (M 14 (3 * i + q)) (M 16 (3 * i + q))), .int (M 18 0), .ref (ad 21)]) hM hE hX hl (c_X5_taxOf l γ L F ((M 14 (3 * i + q)) - x) (M 16 (3 * i + q))) k_1185 k_1186 k_9 k_1187 ⟨by decide, by decide, by decide +kernel⟩ (by decide) rfl rfl (Nat.le_of_ble_eq_true rfl) dX5_lessens_71 (by decide)) hE hX (fun r L1 F1 H locs hp hX => ?_)
  obtain ⟨rfl, rfl, rfl⟩ := hp
  refine lv_isub hx hb dX5_lessens_74 ?_
  refine m_iast hM hE hX hR 21 (cc M) (by decide) rfl rfl hc.1 (show cc M < 24 by omega) dX5_lessens_75 (fun F H locs hX hR => ?_)
  refine lv_aload_n hx hb dX5_lessens_76 rfl (lv_at hl 1 rfl) ?_
  refine m_get hM hE hX hR 14 (by decide) k_1077 rfl rfl dX5_lessens_77 ?_
  refine lv_iload hx hb dX5_lessens_80 (lv_at hl 0 rfl) ?_
  refine lv_dup2_11 hx hb dX5_lessens_82 rfl rfl ?_
  refine m_iald hM hE hX hR 14 (3 * i + q) (by decide) rfl rfl rfl (show 3 * i + q < 60 by omega) dX5_lessens_83 ?_
  refine lv_iload_n hx hb dX5_lessens_84 rfl (lv_at hl 4 rfl) ?_
  refine lv_isub hx hb dX5_lessens_85 ?_
  refine m_iast hM hE hX hR 14 (3 * i + q) (by decide) rfl rfl rfl (show 3 * i + q < 60 by omega) dX5_lessens_86 (fun F H locs hX hR => ?_)
  refine lv_aload_n hx hb dX5_lessens_87 rfl (lv_at hl 1 rfl) ?_
  refine lv_dup hx hb dX5_lessens_88 rfl ?_
  refine m_get hM hE hX hR 18 (by decide) k_1081 rfl rfl dX5_lessens_89 ?_
  refine lv_iconst (v := 1) hx hb dX5_lessens_92 (by decide) ?_
  refine lv_iadd hx hb dX5_lessens_93 ?_
  refine m_put hM hE hX hR 18 (by decide) rfl rfl k_1081 rfl rfl rfl rfl dX5_lessens_94 (fun F H locs hX hR => ?_)
  exact k_vret hM hsz hX ⟨rfl, rfl, _, hR, (show lessM M i q x = _ from rfl).symm⟩ (by decide) (by decide) dX5_lessens_97
def movesM (M : mM) (f g : Nat) (x : Int32) : mM := (mset (mset M 1 f ((M 1 f) - x)) 1 g (((mset M 1 f ((M 1 f) - x)) 1 g) + x))
set_option maxHeartbeats 4000000 in
set_option maxRecDepth 100000 in
theorem c_X5_moves (l : Launch) (γ : kG) (L : List Nat) (F : kF) (o : Nat) (ad : Nat → Nat) (M : mM) (hR : RepM γ L F o ad M) (f g : Nat) (a b x : Int32) (ha : a = nI f) (hb2 : b = nI g) (hf : f < 6) (hg : g < 6) : kC l yX5_moves cX5_moves 4 none (kRm 0 0 0) γ L F [.ref o, .int a, .int b, .int x] (kU fun L1 F1 => L = L1 ∧ ∃ M1, RepM γ L1 F1 o ad M1 ∧ M1 = movesM M f g x) := by
  subst ha
  subst hb2
  refine kC_of (by decide +kernel) (Nat.le_of_ble_eq_true rfl) ?_
  intro p e s m args below meth c sz ls hargs hsz hM hin hE hX hl
  have hx := hM.1
  have hb := hM.2.1
  have hl : lv_has ls 4 [(0, .ref o), (1, .int (nI f)), (2, .int (nI g)), (3, .int x)] := hl
  refine lv_aload_n hx hb dX5_moves_0 rfl (lv_at hl 0 rfl) ?_
  refine m_get hM hE hX hR 1 (by decide) k_1064 rfl rfl dX5_moves_1 ?_
  refine lv_iload_n hx hb dX5_moves_4 rfl (lv_at hl 1 rfl) ?_
  refine lv_dup2_11 hx hb dX5_moves_5 rfl rfl ?_
  refine m_iald hM hE hX hR 1 f (by decide) rfl rfl rfl (show f < 6 by omega) dX5_moves_6 ?_
  refine lv_iload_n hx hb dX5_moves_7 rfl (lv_at hl 3 rfl) ?_
  refine lv_isub hx hb dX5_moves_8 ?_
  refine m_iast hM hE hX hR 1 f (by decide) rfl rfl rfl (show f < 6 by omega) dX5_moves_9 (fun F H locs hX hR => ?_)
  refine lv_aload_n hx hb dX5_moves_10 rfl (lv_at hl 0 rfl) ?_
  refine m_get hM hE hX hR 1 (by decide) k_1064 rfl rfl dX5_moves_11 ?_
  refine lv_iload_n hx hb dX5_moves_14 rfl (lv_at hl 2 rfl) ?_
  refine lv_dup2_11 hx hb dX5_moves_15 rfl rfl ?_
  refine m_iald hM hE hX hR 1 g (by decide) rfl rfl rfl (show g < 6 by omega) dX5_moves_16 ?_
  refine lv_iload_n hx hb dX5_moves_17 rfl (lv_at hl 3 rfl) ?_
  refine lv_iadd hx hb dX5_moves_18 ?_
  refine m_iast hM hE hX hR 1 g (by decide) rfl rfl rfl (show g < 6 by omega) dX5_moves_19 (fun F H locs hX hR => ?_)
  exact k_vret hM hsz hX ⟨rfl, rfl, _, hR, (show movesM M f g x = _ from rfl).symm⟩ (by decide) (by decide) dX5_moves_20
def frun (M : mM) : Nat → Nat → Int32
  | 0, _ => 0
  | n + 1, j => (if (M 22 0) ≤ (nI j) then (if 2 ≤ (M 22 0) then (-1) else (M 22 0)) else (if (nI j) = 0 then (if (M 23 0) = 82 then (frun M n (j + 1)) else (nI j)) else (if 3 ≤ (nI j) then (nI j) else (if 48 ≤ (M 23 j) ∧ (M 23 j) ≤ 57 then (frun M n (j + 1)) else (nI j)))))
def faultM (M : mM) : Int32 := frun M (dd M + 1) 0
set_option maxHeartbeats 4000000 in
set_option maxRecDepth 100000 in
theorem c_X5_faultOf (l : Launch) (γ : kG) (L : List Nat) (F : kF) (o : Nat) (ad : Nat → Nat) (M : mM) (hR : RepM γ L F o ad M) (hd : okD M) : kC l yX5_faultOf cX5_faultOf 3 (some .int) (kRm 1 0 0) γ L F [.ref o] (kI fun r L1 F1 => L = L1 ∧ F = F1 ∧ r = faultM M) := by
  refine kC_of (by decide +kernel) (Nat.le_of_ble_eq_true rfl) ?_
  intro p e s m args below meth c sz ls hargs hsz hM hin hE hX hl
  have hx := hM.1
  have hb := hM.2.1
  have hl : lv_has ls 3 [(0, .ref o)] := hl
  have hd2 := hd.2
  have hloop : ∀ (n j : Nat), dd M < j + n → j ≤ dd M → frun M n j = faultM M → ∀ (H : Heap) (locs : List Loc) (ls : Array Slot), kX γ (kA L sz) s L F H locs → lv_has ls 3 [(1, .int (nI j)), (0, .ref o)] → W p l e (kRm 1 0 0) s m args below meth c H locs 0 0 (MQ below (kQ γ L sz (kI fun r L1 F1 => L = L1 ∧ F = F1 ∧ r = faultM M)) args s (kRm 1 0 0).cells (kRm 1 0 0).slots (kA L sz)) (F0 m 2 ls []) := by
    intro n
    induction n with
    | zero => intro j h1 h2; exact absurd h1 (by omega)
    | succ n ih =>
      intro j h1 h2 hxj H locs ls hX hl
      refine lv_iload_n hx hb dX5_faultOf_2 rfl (lv_at hl 0 rfl) ?_
      refine lv_aload_n hx hb dX5_faultOf_3 rfl (lv_at hl 1 rfl) ?_
      refine m_get hM hE hX hR 22 (by decide) k_1085 rfl rfl dX5_faultOf_4 ?_
      refine lv_icmp_ge (tgt := 72) hx hb dX5_faultOf_7 (by decide) (fun c_1 => ?_) (fun c_1 => ?_)
      · refine lv_aload_n hx hb dX5_faultOf_72 rfl (lv_at hl 1 rfl) ?_
        refine m_get hM hE hX hR 22 (by decide) k_1085 rfl rfl dX5_faultOf_73 ?_
        refine lv_iconst (v := 2) hx hb dX5_faultOf_76 (by decide) ?_
        refine lv_icmp_ge (tgt := 87) hx hb dX5_faultOf_77 (by decide) (fun c_2 => ?_) (fun c_2 => ?_)
        · refine lv_iconst (v := (-1)) hx hb dX5_faultOf_87 (by decide) ?_
          exact k_iret hM hsz hX ⟨_, rfl, rfl, rfl, (show frun M (n + 1) j = _ from ((if_pos c_1).trans ((if_pos c_2).trans rfl))).symm.trans hxj⟩ (by decide) (by decide) dX5_faultOf_88
        · refine lv_aload_n hx hb dX5_faultOf_80 rfl (lv_at hl 1 rfl) ?_
          refine m_get hM hE hX hR 22 (by decide) k_1085 rfl rfl dX5_faultOf_81 ?_
          refine lv_goto (tgt := 88) hx hb dX5_faultOf_84 (by decide) ?_
          exact k_iret hM hsz hX ⟨_, rfl, rfl, rfl, (show frun M (n + 1) j = _ from ((if_pos c_1).trans ((if_neg c_2).trans rfl))).symm.trans hxj⟩ (by decide) (by decide) dX5_faultOf_88
      · have hj : j < dd M := lp_in (by omega) (by omega) (by rw [← hd.1]; exact c_1)
        refine lv_iload_n hx hb dX5_faultOf_10 rfl (lv_at hl 0 rfl) ?_
        refine lv_if_ne (tgt := 33) hx hb dX5_faultOf_11 (by decide) (fun c_3 => ?_) (fun c_3 => ?_)
        · refine lv_iload_n hx hb dX5_faultOf_33 rfl (lv_at hl 0 rfl) ?_
          refine lv_iconst (v := 3) hx hb dX5_faultOf_34 (by decide) ?_
          refine lv_icmp_ge (tgt := 58) hx hb dX5_faultOf_35 (by decide) (fun c_4 => ?_) (fun c_4 => ?_)
          · refine lv_iconst (v := 0) hx hb dX5_faultOf_58 (by decide) ?_
            refine lv_istore_n (lv' := [(2, .int 0), (1, .int (nI j)), (0, .ref o)]) hx hb dX5_faultOf_59 rfl hl (by decide) rfl (fun ls hl => ?_)
            refine lv_iload_n hx hb dX5_faultOf_60 rfl (lv_at hl 0 rfl) ?_
            refine lv_if_ne (tgt := 66) hx hb dX5_faultOf_61 (by decide) (fun c_5 => absurd (show ¬ (0 : Int32) = 0 from c_5) (by decide)) (fun _ => ?_)
            refine lv_iload_n hx hb dX5_faultOf_64 rfl (lv_at hl 1 rfl) ?_
            exact k_iret hM hsz hX ⟨_, rfl, rfl, rfl, (show frun M (n + 1) j = _ from ((if_neg c_1).trans ((if_neg c_3).trans ((if_pos c_4).trans rfl)))).symm.trans hxj⟩ (by decide) (by decide) dX5_faultOf_65
          · refine lv_aload_n hx hb dX5_faultOf_38 rfl (lv_at hl 1 rfl) ?_
            refine m_get hM hE hX hR 23 (by decide) k_1086 rfl rfl dX5_faultOf_39 ?_
            refine lv_iload_n hx hb dX5_faultOf_42 rfl (lv_at hl 0 rfl) ?_
            refine m_iald hM hE hX hR 23 j (by decide) rfl rfl rfl (show j < 10 by omega) dX5_faultOf_43 ?_
            refine lv_bipush (v := 48) hx hb dX5_faultOf_44 (by decide) ?_
            refine lv_bipush (v := 57) hx hb dX5_faultOf_46 (by decide) ?_
            refine k_goi (k_S (n := 3) (As := [.int (M 23 j), .int 48, .int 57]) (rest := []) hM hE hX hl (c_X5_isIn l γ L F (M 23 j) 48 57) k_1151 k_1152 k_9 k_1153 ⟨by decide, by decide, by decide +kernel⟩ (by decide) rfl rfl (Nat.le_of_ble_eq_true rfl) dX5_faultOf_48 (by decide)) hE hX (fun r L1 F1 H locs hp hX => ?_)
            obtain ⟨rfl, rfl, ⟨rfl, h_6⟩ | ⟨rfl, h_6⟩⟩ := hp
            · refine lv_if_eq (tgt := 58) hx hb dX5_faultOf_51 (by decide) (fun c_7 => absurd (show (1 : Int32) = 0 from c_7) (by decide)) (fun _ => ?_)
              refine lv_iconst (v := 1) hx hb dX5_faultOf_54 (by decide) ?_
              refine lv_goto (tgt := 59) hx hb dX5_faultOf_55 (by decide) ?_
              refine lv_istore_n (lv' := [(2, .int 1), (1, .int (nI j)), (0, .ref o)]) hx hb dX5_faultOf_59 rfl hl (by decide) rfl (fun ls hl => ?_)
              refine lv_iload_n hx hb dX5_faultOf_60 rfl (lv_at hl 0 rfl) ?_
              refine lv_if_ne (tgt := 66) hx hb dX5_faultOf_61 (by decide) (fun _ => ?_) (fun c_8 => absurd (show (1 : Int32) = 0 from c_8) (by decide))
              refine lv_iinc (v := (nI (j + 1))) (lv' := [(1, .int (nI (j + 1))), (2, .int 1), (0, .ref o)]) hx hb dX5_faultOf_66 hl (k := 1) rfl (nI_1 _) (by decide) rfl (fun ls hl => ?_)
              refine lv_goto (tgt := 2) hx hb dX5_faultOf_69 (by decide) ?_
              exact ih (j + 1) (by omega) (by omega) ((show frun M (n + 1) j = frun M n (j + 1) from ((if_neg c_1).trans ((if_neg c_3).trans ((if_neg c_4).trans ((if_pos h_6).trans rfl))))).symm.trans hxj) _ _ _ hX (lv_sub hl [0, 2] rfl)
            · refine lv_if_eq (tgt := 58) hx hb dX5_faultOf_51 (by decide) (fun _ => ?_) (fun c_9 => absurd (show ¬ (0 : Int32) = 0 from c_9) (by decide))
              refine lv_iconst (v := 0) hx hb dX5_faultOf_58 (by decide) ?_
              refine lv_istore_n (lv' := [(2, .int 0), (1, .int (nI j)), (0, .ref o)]) hx hb dX5_faultOf_59 rfl hl (by decide) rfl (fun ls hl => ?_)
              refine lv_iload_n hx hb dX5_faultOf_60 rfl (lv_at hl 0 rfl) ?_
              refine lv_if_ne (tgt := 66) hx hb dX5_faultOf_61 (by decide) (fun c_10 => absurd (show ¬ (0 : Int32) = 0 from c_10) (by decide)) (fun _ => ?_)
              refine lv_iload_n hx hb dX5_faultOf_64 rfl (lv_at hl 1 rfl) ?_
              exact k_iret hM hsz hX ⟨_, rfl, rfl, rfl, (show frun M (n + 1) j = _ from ((if_neg c_1).trans ((if_neg c_3).trans ((if_neg c_4).trans ((if_neg h_6).trans rfl))))).symm.trans hxj⟩ (by decide) (by decide) dX5_faultOf_65
        · refine lv_aload_n hx hb dX5_faultOf_14 rfl (lv_at hl 1 rfl) ?_
          refine m_get hM hE hX hR 23 (by decide) k_1086 rfl rfl dX5_faultOf_15 ?_
          refine lv_iconst (v := 0) hx hb dX5_faultOf_18 (by decide) ?_
          refine m_iald hM hE hX hR 23 0 (by decide) rfl rfl rfl (show 0 < 10 by omega) dX5_faultOf_19 ?_
          refine lv_bipush (v := 82) hx hb dX5_faultOf_20 (by decide) ?_
          refine lv_icmp_ne (tgt := 29) hx hb dX5_faultOf_22 (by decide) (fun c_11 => ?_) (fun c_11 => ?_)
          · refine lv_iconst (v := 0) hx hb dX5_faultOf_29 (by decide) ?_
            refine lv_goto (tgt := 59) hx hb dX5_faultOf_30 (by decide) ?_
            refine lv_istore_n (lv' := [(2, .int 0), (1, .int (nI j)), (0, .ref o)]) hx hb dX5_faultOf_59 rfl hl (by decide) rfl (fun ls hl => ?_)
            refine lv_iload_n hx hb dX5_faultOf_60 rfl (lv_at hl 0 rfl) ?_
            refine lv_if_ne (tgt := 66) hx hb dX5_faultOf_61 (by decide) (fun c_12 => absurd (show ¬ (0 : Int32) = 0 from c_12) (by decide)) (fun _ => ?_)
            refine lv_iload_n hx hb dX5_faultOf_64 rfl (lv_at hl 1 rfl) ?_
            exact k_iret hM hsz hX ⟨_, rfl, rfl, rfl, (show frun M (n + 1) j = _ from ((if_neg c_1).trans ((if_pos c_3).trans ((if_neg c_11).trans rfl)))).symm.trans hxj⟩ (by decide) (by decide) dX5_faultOf_65
          · refine lv_iconst (v := 1) hx hb dX5_faultOf_25 (by decide) ?_
            refine lv_goto (tgt := 59) hx hb dX5_faultOf_26 (by decide) ?_
            refine lv_istore_n (lv' := [(2, .int 1), (1, .int (nI j)), (0, .ref o)]) hx hb dX5_faultOf_59 rfl hl (by decide) rfl (fun ls hl => ?_)
            refine lv_iload_n hx hb dX5_faultOf_60 rfl (lv_at hl 0 rfl) ?_
            refine lv_if_ne (tgt := 66) hx hb dX5_faultOf_61 (by decide) (fun _ => ?_) (fun c_13 => absurd (show (1 : Int32) = 0 from c_13) (by decide))
            refine lv_iinc (v := (nI (j + 1))) (lv' := [(1, .int (nI (j + 1))), (2, .int 1), (0, .ref o)]) hx hb dX5_faultOf_66 hl (k := 1) rfl (nI_1 _) (by decide) rfl (fun ls hl => ?_)
            refine lv_goto (tgt := 2) hx hb dX5_faultOf_69 (by decide) ?_
            exact ih (j + 1) (by omega) (by omega) ((show frun M (n + 1) j = frun M n (j + 1) from ((if_neg c_1).trans ((if_pos c_3).trans ((if_pos c_11).trans rfl)))).symm.trans hxj) _ _ _ hX (lv_sub hl [0, 2] rfl)
  refine lv_iconst (v := 0) hx hb dX5_faultOf_0 (by decide) ?_
  refine lv_istore_n (lv' := [(1, .int 0), (0, .ref o)]) hx hb dX5_faultOf_1 rfl hl (by decide) rfl (fun ls hl => ?_)
  exact hloop (dd M + 1) 0 (by omega) (Nat.zero_le _) rfl _ _ _ hX (lv_sub hl [0, 1] rfl)
def paysC (a b x : Int32) : Int32 := (if 0 ≤ a ∧ a ≤ 5 then (if 0 ≤ b ∧ b ≤ 5 then (if 1 ≤ x ∧ x ≤ 99999 then (if a = b then 2 else 0) else 2) else 1) else 1)
set_option maxHeartbeats 4000000 in
set_option maxRecDepth 100000 in
theorem c_X5_pays (l : Launch) (γ : kG) (L : List Nat) (F : kF)  (a b x : Int32) : kC l yX5_pays cX5_pays 3 (some .int) (kRm 2 0 0) γ L F [.int a, .int b, .int x] (kI fun r L1 F1 => L = L1 ∧ F = F1 ∧ r = paysC a b x) := by
  refine kC_of (by decide +kernel) (Nat.le_of_ble_eq_true rfl) ?_
  intro p e s m args below meth c sz ls hargs hsz hM hin hE hX hl
  have hx := hM.1
  have hb := hM.2.1
  have hl : lv_has ls 3 [(0, .int a), (1, .int b), (2, .int x)] := hl
  refine lv_iload_n hx hb dX5_pays_0 rfl (lv_at hl 0 rfl) ?_
  refine k_goi (k_S (n := 1) (As := [.int a]) (rest := []) hM hE hX hl (c_X5_isCompany l γ L F a) k_1148 k_1149 k_9 k_1150 ⟨by decide, by decide, by decide +kernel⟩ (by decide) rfl rfl (Nat.le_of_ble_eq_true rfl) dX5_pays_1 (by decide)) hE hX (fun r L1 F1 H locs hp hX => ?_)
  obtain ⟨rfl, rfl, ⟨rfl, h_1⟩ | ⟨rfl, h_1⟩⟩ := hp
  · refine lv_if_eq (tgt := 14) hx hb dX5_pays_4 (by decide) (fun c_2 => absurd (show (1 : Int32) = 0 from c_2) (by decide)) (fun _ => ?_)
    refine lv_iload_n hx hb dX5_pays_7 rfl (lv_at hl 1 rfl) ?_
    refine k_goi (k_S (n := 1) (As := [.int b]) (rest := []) hM hE hX hl (c_X5_isCompany l γ L F b) k_1148 k_1149 k_9 k_1150 ⟨by decide, by decide, by decide +kernel⟩ (by decide) rfl rfl (Nat.le_of_ble_eq_true rfl) dX5_pays_8 (by decide)) hE hX (fun r L1 F1 H locs hp hX => ?_)
    obtain ⟨rfl, rfl, ⟨rfl, h_3⟩ | ⟨rfl, h_3⟩⟩ := hp
    · refine lv_if_ne (tgt := 18) hx hb dX5_pays_11 (by decide) (fun _ => ?_) (fun c_4 => absurd (show (1 : Int32) = 0 from c_4) (by decide))
      refine lv_iload_n hx hb dX5_pays_18 rfl (lv_at hl 2 rfl) ?_
      refine lv_iconst (v := 1) hx hb dX5_pays_19 (by decide) ?_
      refine lv_ldc hx hb hM.2.2.2.1 (hM.2.2.2.2.1 _ k_1247) dX5_pays_20 ?_
      refine k_goi (k_S (n := 3) (As := [.int x, .int 1, .int 99999]) (rest := []) hM hE hX hl (c_X5_isIn l γ L F x 1 99999) k_1151 k_1152 k_9 k_1153 ⟨by decide, by decide, by decide +kernel⟩ (by decide) rfl rfl (Nat.le_of_ble_eq_true rfl) dX5_pays_22 (by decide)) hE hX (fun r L1 F1 H locs hp hX => ?_)
      obtain ⟨rfl, rfl, ⟨rfl, h_5⟩ | ⟨rfl, h_5⟩⟩ := hp
      · refine lv_if_eq (tgt := 33) hx hb dX5_pays_25 (by decide) (fun c_6 => absurd (show (1 : Int32) = 0 from c_6) (by decide)) (fun _ => ?_)
        refine lv_iload_n hx hb dX5_pays_28 rfl (lv_at hl 0 rfl) ?_
        refine lv_iload_n hx hb dX5_pays_29 rfl (lv_at hl 1 rfl) ?_
        refine lv_icmp_ne (tgt := 37) hx hb dX5_pays_30 (by decide) (fun c_7 => ?_) (fun c_7 => ?_)
        · refine lv_iconst (v := 0) hx hb dX5_pays_37 (by decide) ?_
          exact k_iret hM hsz hX ⟨_, rfl, rfl, rfl, (show paysC a b x = _ from ((if_pos h_1).trans ((if_pos h_3).trans ((if_pos h_5).trans ((if_neg c_7).trans rfl))))).symm⟩ (by decide) (by decide) dX5_pays_38
        · refine lv_iconst (v := 2) hx hb dX5_pays_33 (by decide) ?_
          refine lv_goto (tgt := 38) hx hb dX5_pays_34 (by decide) ?_
          exact k_iret hM hsz hX ⟨_, rfl, rfl, rfl, (show paysC a b x = _ from ((if_pos h_1).trans ((if_pos h_3).trans ((if_pos h_5).trans ((if_pos c_7).trans rfl))))).symm⟩ (by decide) (by decide) dX5_pays_38
      · refine lv_if_eq (tgt := 33) hx hb dX5_pays_25 (by decide) (fun _ => ?_) (fun c_8 => absurd (show ¬ (0 : Int32) = 0 from c_8) (by decide))
        refine lv_iconst (v := 2) hx hb dX5_pays_33 (by decide) ?_
        refine lv_goto (tgt := 38) hx hb dX5_pays_34 (by decide) ?_
        exact k_iret hM hsz hX ⟨_, rfl, rfl, rfl, (show paysC a b x = _ from ((if_pos h_1).trans ((if_pos h_3).trans ((if_neg h_5).trans rfl)))).symm⟩ (by decide) (by decide) dX5_pays_38
    · refine lv_if_ne (tgt := 18) hx hb dX5_pays_11 (by decide) (fun c_9 => absurd (show ¬ (0 : Int32) = 0 from c_9) (by decide)) (fun _ => ?_)
      refine lv_iconst (v := 1) hx hb dX5_pays_14 (by decide) ?_
      refine lv_goto (tgt := 38) hx hb dX5_pays_15 (by decide) ?_
      exact k_iret hM hsz hX ⟨_, rfl, rfl, rfl, (show paysC a b x = _ from ((if_pos h_1).trans ((if_neg h_3).trans rfl))).symm⟩ (by decide) (by decide) dX5_pays_38
  · refine lv_if_eq (tgt := 14) hx hb dX5_pays_4 (by decide) (fun _ => ?_) (fun c_10 => absurd (show ¬ (0 : Int32) = 0 from c_10) (by decide))
    refine lv_iconst (v := 1) hx hb dX5_pays_14 (by decide) ?_
    refine lv_goto (tgt := 38) hx hb dX5_pays_15 (by decide) ?_
    exact k_iret hM hsz hX ⟨_, rfl, rfl, rfl, (show paysC a b x = _ from ((if_neg h_1).trans rfl)).symm⟩ (by decide) (by decide) dX5_pays_38
def sumsM_st (M : mM) (a w : Int32) (j : Nat) (x : Int32) : Int32 := (if w = 0 then (if (M 4 j) = a then (x + (owed M j)) else (x + 0)) else (if (M 9 j) = a then (x + (owed M j)) else (x + 0)))
def sumsM (M : mM) (a w : Int32) : Int32 := l_fold (sumsM_st M a w) 0 (nn M)
set_option maxHeartbeats 4000000 in
set_option maxRecDepth 100000 in
theorem c_X5_sums (l : Launch) (γ : kG) (L : List Nat) (F : kF) (o : Nat) (ad : Nat → Nat) (M : mM) (hR : RepM γ L F o ad M) (a w : Int32) (hn : okN M) (hk : ∀ i, i < nn M → okL M i) : kC l yX5_sums cX5_sums 5 (some .int) (kRm 3 0 0) γ L F [.ref o, .int a, .int w] (kI fun r L1 F1 => L = L1 ∧ F = F1 ∧ r = sumsM M a w) := by
  refine kC_of (by decide +kernel) (Nat.le_of_ble_eq_true rfl) ?_
  intro p e s m args below meth c sz ls hargs hsz hM hin hE hX hl
  have hx := hM.1
  have hb := hM.2.1
  have hl : lv_has ls 5 [(0, .ref o), (1, .int a), (2, .int w)] := hl
  have hn2 := hn.2
  have hloop : ∀ (n j : Nat) (x : Int32), nn M < j + n → j ≤ nn M → x = l_fold (sumsM_st M a w) 0 j → ∀ (H : Heap) (locs : List Loc) (ls : Array Slot), kX γ (kA L sz) s L F H locs → lv_has ls 5 [(3, .int x), (4, .int (nI j)), (0, .ref o), (1, .int a), (2, .int w)] → W p l e (kRm 3 0 0) s m args below meth c H locs 0 0 (MQ below (kQ γ L sz (kI fun r L1 F1 => L = L1 ∧ F = F1 ∧ r = sumsM M a w)) args s (kRm 3 0 0).cells (kRm 3 0 0).slots (kA L sz)) (F0 m 5 ls []) := by
    intro n
    induction n with
    | zero => intro j x h1 h2; exact absurd h1 (by omega)
    | succ n ih =>
      intro j x h1 h2 hxj H locs ls hX hl
      refine lv_iload hx hb dX5_sums_5 (lv_at hl 1 rfl) ?_
      refine lv_aload_n hx hb dX5_sums_7 rfl (lv_at hl 2 rfl) ?_
      refine m_get hM hE hX hR 2 (by decide) k_1065 rfl rfl dX5_sums_8 ?_
      refine lv_icmp_ge (tgt := 58) hx hb dX5_sums_11 (by decide) (fun c_1 => ?_) (fun c_1 => ?_)
      · have ej : j = nn M := by
          have h9 := lp_out (a := j) (b := (nn M)) (by omega) (by omega) (by rw [← hn.1]; exact c_1)
          omega
        refine lv_iload_n hx hb dX5_sums_58 rfl (lv_at hl 0 rfl) ?_
        exact k_iret hM hsz hX ⟨_, rfl, rfl, rfl, by rw [hxj, ej]; rfl⟩ (by decide) (by decide) dX5_sums_59
      · have hj : j < nn M := by
          have h9 := lp_in (a := j) (b := (nn M)) (by omega) (by omega) (by rw [← hn.1]; exact c_1)
          omega
        refine lv_iload_n hx hb dX5_sums_14 rfl (lv_at hl 0 rfl) ?_
        refine lv_iload_n hx hb dX5_sums_15 rfl (lv_at hl 4 rfl) ?_
        refine lv_if_eq (tgt := 29) hx hb dX5_sums_16 (by decide) (fun c_2 => ?_) (fun c_2 => ?_)
        · refine lv_aload_n hx hb dX5_sums_29 rfl (lv_at hl 2 rfl) ?_
          refine m_get hM hE hX hR 4 (by decide) k_1067 rfl rfl dX5_sums_30 ?_
          refine lv_iload hx hb dX5_sums_33 (lv_at hl 1 rfl) ?_
          refine m_iald hM hE hX hR 4 j (by decide) rfl rfl rfl (show j < 20 by omega) dX5_sums_35 ?_
          refine lv_iload_n hx hb dX5_sums_36 rfl (lv_at hl 3 rfl) ?_
          refine lv_icmp_ne (tgt := 49) hx hb dX5_sums_37 (by decide) (fun c_3 => ?_) (fun c_3 => ?_)
          · refine lv_iconst (v := 0) hx hb dX5_sums_49 (by decide) ?_
            refine lv_iadd hx hb dX5_sums_50 ?_
            refine lv_istore_n (lv' := [(3, .int (x + 0)), (4, .int (nI j)), (0, .ref o), (1, .int a), (2, .int w)]) hx hb dX5_sums_51 rfl hl (by decide) rfl (fun ls hl => ?_)
            refine lv_iinc (v := (nI (j + 1))) (lv' := [(4, .int (nI (j + 1))), (3, .int (x + 0)), (0, .ref o), (1, .int a), (2, .int w)]) hx hb dX5_sums_52 hl (k := 1) rfl (nI_1 _) (by decide) rfl (fun ls hl => ?_)
            refine lv_goto (tgt := 5) hx hb dX5_sums_55 (by decide) ?_
            exact ih (j + 1) _ (by omega) (by omega) (show (x + 0) = l_fold (sumsM_st M a w) 0 (j + 1) from by rw [l_fold, ← hxj]; exact (show sumsM_st M a w j x = _ from ((if_pos c_2).trans ((if_neg c_3).trans rfl))).symm) _ _ _ hX (lv_sub hl [1, 0, 2, 3, 4] rfl)
          · refine lv_aload_n hx hb dX5_sums_40 rfl (lv_at hl 2 rfl) ?_
            refine lv_iload hx hb dX5_sums_41 (lv_at hl 1 rfl) ?_
            refine k_goi (k_V (n := 1) (As := [.int (nI j)]) (rest := [.int x]) hM hE hX hl (c_X5_owed l γ L F o ad M hR j (nI j) rfl (by omega) (hk j hj)) hR.1 hR.2.1 rfl k_1177 k_1179 kp_29 k_9 k_1180 ⟨rfl, by decide, by decide, by decide +kernel⟩ (by decide) rfl rfl (Nat.le_of_ble_eq_true rfl) dX5_sums_43 (by decide)) hE hX (fun r L1 F1 H locs hp hX => ?_)
            obtain ⟨rfl, rfl, rfl⟩ := hp
            refine lv_goto (tgt := 50) hx hb dX5_sums_46 (by decide) ?_
            refine lv_iadd hx hb dX5_sums_50 ?_
            refine lv_istore_n (lv' := [(3, .int (x + (owed M j))), (4, .int (nI j)), (0, .ref o), (1, .int a), (2, .int w)]) hx hb dX5_sums_51 rfl hl (by decide) rfl (fun ls hl => ?_)
            refine lv_iinc (v := (nI (j + 1))) (lv' := [(4, .int (nI (j + 1))), (3, .int (x + (owed M j))), (0, .ref o), (1, .int a), (2, .int w)]) hx hb dX5_sums_52 hl (k := 1) rfl (nI_1 _) (by decide) rfl (fun ls hl => ?_)
            refine lv_goto (tgt := 5) hx hb dX5_sums_55 (by decide) ?_
            exact ih (j + 1) _ (by omega) (by omega) (show (x + (owed M j)) = l_fold (sumsM_st M a w) 0 (j + 1) from by rw [l_fold, ← hxj]; exact (show sumsM_st M a w j x = _ from ((if_pos c_2).trans ((if_pos c_3).trans rfl))).symm) _ _ _ hX (lv_sub hl [1, 0, 2, 3, 4] rfl)
        · refine lv_aload_n hx hb dX5_sums_19 rfl (lv_at hl 2 rfl) ?_
          refine m_get hM hE hX hR 9 (by decide) k_1072 rfl rfl dX5_sums_20 ?_
          refine lv_iload hx hb dX5_sums_23 (lv_at hl 1 rfl) ?_
          refine m_iald hM hE hX hR 9 j (by decide) rfl rfl rfl (show j < 20 by omega) dX5_sums_25 ?_
          refine lv_goto (tgt := 36) hx hb dX5_sums_26 (by decide) ?_
          refine lv_iload_n hx hb dX5_sums_36 rfl (lv_at hl 3 rfl) ?_
          refine lv_icmp_ne (tgt := 49) hx hb dX5_sums_37 (by decide) (fun c_4 => ?_) (fun c_4 => ?_)
          · refine lv_iconst (v := 0) hx hb dX5_sums_49 (by decide) ?_
            refine lv_iadd hx hb dX5_sums_50 ?_
            refine lv_istore_n (lv' := [(3, .int (x + 0)), (4, .int (nI j)), (0, .ref o), (1, .int a), (2, .int w)]) hx hb dX5_sums_51 rfl hl (by decide) rfl (fun ls hl => ?_)
            refine lv_iinc (v := (nI (j + 1))) (lv' := [(4, .int (nI (j + 1))), (3, .int (x + 0)), (0, .ref o), (1, .int a), (2, .int w)]) hx hb dX5_sums_52 hl (k := 1) rfl (nI_1 _) (by decide) rfl (fun ls hl => ?_)
            refine lv_goto (tgt := 5) hx hb dX5_sums_55 (by decide) ?_
            exact ih (j + 1) _ (by omega) (by omega) (show (x + 0) = l_fold (sumsM_st M a w) 0 (j + 1) from by rw [l_fold, ← hxj]; exact (show sumsM_st M a w j x = _ from ((if_neg c_2).trans ((if_neg c_4).trans rfl))).symm) _ _ _ hX (lv_sub hl [1, 0, 2, 3, 4] rfl)
          · refine lv_aload_n hx hb dX5_sums_40 rfl (lv_at hl 2 rfl) ?_
            refine lv_iload hx hb dX5_sums_41 (lv_at hl 1 rfl) ?_
            refine k_goi (k_V (n := 1) (As := [.int (nI j)]) (rest := [.int x]) hM hE hX hl (c_X5_owed l γ L F o ad M hR j (nI j) rfl (by omega) (hk j hj)) hR.1 hR.2.1 rfl k_1177 k_1179 kp_29 k_9 k_1180 ⟨rfl, by decide, by decide, by decide +kernel⟩ (by decide) rfl rfl (Nat.le_of_ble_eq_true rfl) dX5_sums_43 (by decide)) hE hX (fun r L1 F1 H locs hp hX => ?_)
            obtain ⟨rfl, rfl, rfl⟩ := hp
            refine lv_goto (tgt := 50) hx hb dX5_sums_46 (by decide) ?_
            refine lv_iadd hx hb dX5_sums_50 ?_
            refine lv_istore_n (lv' := [(3, .int (x + (owed M j))), (4, .int (nI j)), (0, .ref o), (1, .int a), (2, .int w)]) hx hb dX5_sums_51 rfl hl (by decide) rfl (fun ls hl => ?_)
            refine lv_iinc (v := (nI (j + 1))) (lv' := [(4, .int (nI (j + 1))), (3, .int (x + (owed M j))), (0, .ref o), (1, .int a), (2, .int w)]) hx hb dX5_sums_52 hl (k := 1) rfl (nI_1 _) (by decide) rfl (fun ls hl => ?_)
            refine lv_goto (tgt := 5) hx hb dX5_sums_55 (by decide) ?_
            exact ih (j + 1) _ (by omega) (by omega) (show (x + (owed M j)) = l_fold (sumsM_st M a w) 0 (j + 1) from by rw [l_fold, ← hxj]; exact (show sumsM_st M a w j x = _ from ((if_neg c_2).trans ((if_pos c_4).trans rfl))).symm) _ _ _ hX (lv_sub hl [1, 0, 2, 3, 4] rfl)
  refine lv_iconst (v := 0) hx hb dX5_sums_0 (by decide) ?_
  refine lv_istore_n (lv' := [(3, .int 0), (0, .ref o), (1, .int a), (2, .int w)]) hx hb dX5_sums_1 rfl hl (by decide) rfl (fun ls hl => ?_)
  refine lv_iconst (v := 0) hx hb dX5_sums_2 (by decide) ?_
  refine lv_istore (lv' := [(4, .int 0), (3, .int 0), (0, .ref o), (1, .int a), (2, .int w)]) hx hb dX5_sums_3 hl (by decide) rfl (fun ls hl => ?_)
  exact hloop (nn M + 1) 0 _ (by omega) (Nat.zero_le _) rfl _ _ _ hX (lv_sub hl [1, 0, 2, 3, 4] rfl)
def tin1 (M : mM) (a b : Int32) (j : Nat) (x : Int32) : Int32 := (if (M 3 j) = a then (if ((M 7 j) / 30) = b then (if (M 6 j) = 2 then (if (M 4 j) = a then (if (M 6 j) = 1 then (if ((M 8 j) / 30) = b then ((x + 0) - (taxAll M j 1)) else ((x + 0) - 0)) else ((x + 0) - 0)) else ((x + 0) - 0)) else (if (M 4 j) = a then (if (M 6 j) = 1 then (if ((M 8 j) / 30) = b then ((x + (taxAll M j 1)) - (taxAll M j 1)) else ((x + (taxAll M j 1)) - 0)) else ((x + (taxAll M j 1)) - 0)) else ((x + (taxAll M j 1)) - 0))) else (if (M 4 j) = a then (if (M 6 j) = 1 then (if ((M 8 j) / 30) = b then ((x + 0) - (taxAll M j 1)) else ((x + 0) - 0)) else ((x + 0) - 0)) else ((x + 0) - 0))) else (if (M 4 j) = a then (if (M 6 j) = 1 then (if ((M 8 j) / 30) = b then ((x + 0) - (taxAll M j 1)) else ((x + 0) - 0)) else ((x + 0) - 0)) else ((x + 0) - 0)))
def tin2 (M : mM) (a b : Int32) (j : Nat) (x : Int32) : Int32 := (if ((M 20 j) / 30) = b then (if (M 3 (kj (M 19 j))) = a then (if (M 6 (kj (M 19 j))) = 2 then (if (M 4 (kj (M 19 j))) = a then (if (M 6 (kj (M 19 j))) = 1 then ((x - 0) + (M 21 j)) else ((x - 0) + 0)) else ((x - 0) + 0)) else (if (M 4 (kj (M 19 j))) = a then (if (M 6 (kj (M 19 j))) = 1 then ((x - (M 21 j)) + (M 21 j)) else ((x - (M 21 j)) + 0)) else ((x - (M 21 j)) + 0))) else (if (M 4 (kj (M 19 j))) = a then (if (M 6 (kj (M 19 j))) = 1 then ((x - 0) + (M 21 j)) else ((x - 0) + 0)) else ((x - 0) + 0))) else ((x - 0) + 0))
def taxIn (M : mM) (a b : Int32) : Int32 := l_fold (tin2 M a b) (l_fold (tin1 M a b) 0 (nn M)) (cc M)
set_option maxHeartbeats 4000000 in
set_option maxRecDepth 100000 in
theorem c_X5_taxIn (l : Launch) (γ : kG) (L : List Nat) (F : kF) (o : Nat) (ad : Nat → Nat) (M : mM) (hR : RepM γ L F o ad M) (a b : Int32) (hn : okN M) (hk : ∀ i, i < nn M → okL M i) (hc : okC M) (hci : ∀ k, k < cc M → okI (M 19 k) 20) : kC l yX5_taxIn cX5_taxIn 7 (some .int) (kRm 2 0 0) γ L F [.ref o, .int a, .int b] (kI fun r L1 F1 => L = L1 ∧ F = F1 ∧ r = taxIn M a b) := by
  refine kC_of (by decide +kernel) (Nat.le_of_ble_eq_true rfl) ?_
  intro p e s m args below meth c sz ls hargs hsz hM hin hE hX hl
  have hx := hM.1
  have hb := hM.2.1
  have hl : lv_has ls 7 [(0, .ref o), (1, .int a), (2, .int b)] := hl
  have hn2 := hn.2
  have hc2 := hc.2
  have hloop2 : ∀ (n j : Nat) (x : Int32), cc M < j + n → j ≤ cc M → x = l_fold (tin2 M a b) (l_fold (tin1 M a b) 0 (nn M)) j → ∀ (H : Heap) (locs : List Loc) (ls : Array Slot), kX γ (kA L sz) s L F H locs → lv_has ls 7 [(3, .int x), (4, .int (nI j)), (0, .ref o), (1, .int a), (2, .int b)] → W p l e (kRm 2 0 0) s m args below meth c H locs 0 0 (MQ below (kQ γ L sz (kI fun r L1 F1 => L = L1 ∧ F = F1 ∧ r = taxIn M a b)) args s (kRm 2 0 0).cells (kRm 2 0 0).slots (kA L sz)) (F0 m 123 ls []) := by
    intro n
    induction n with
    | zero => intro j x h1 h2; exact absurd h1 (by omega)
    | succ n ih =>
      intro j x h1 h2 hxj H locs ls hX hl
      refine lv_iload hx hb dX5_taxIn_123 (lv_at hl 1 rfl) ?_
      refine lv_aload_n hx hb dX5_taxIn_125 rfl (lv_at hl 2 rfl) ?_
      refine m_get hM hE hX hR 18 (by decide) k_1081 rfl rfl dX5_taxIn_126 ?_
      refine lv_icmp_ge (tgt := 250) hx hb dX5_taxIn_129 (by decide) (fun c_1 => ?_) (fun c_1 => ?_)
      · have ej : j = cc M := by
          have h9 := lp_out (a := j) (b := cc M) (by omega) (by omega) (by rw [← hc.1]; exact c_1)
          omega
        refine lv_iload_n hx hb dX5_taxIn_250 rfl (lv_at hl 0 rfl) ?_
        exact k_iret hM hsz hX ⟨_, rfl, rfl, rfl, by rw [hxj, ej]; rfl⟩ (by decide) (by decide) dX5_taxIn_251
      · have hj : j < cc M := by
          have h9 := lp_in (a := j) (b := cc M) (by omega) (by omega) (by rw [← hc.1]; exact c_1)
          omega
        have h19 := (hci j hj).2
        refine lv_aload_n hx hb dX5_taxIn_132 rfl (lv_at hl 2 rfl) ?_
        refine m_get hM hE hX hR 19 (by decide) k_1082 rfl rfl dX5_taxIn_133 ?_
        refine lv_iload hx hb dX5_taxIn_136 (lv_at hl 1 rfl) ?_
        refine m_iald hM hE hX hR 19 j (by decide) rfl rfl rfl (show j < 24 by omega) dX5_taxIn_138 ?_
        refine lv_istore (lv' := [(5, .int (M 19 j)), (3, .int x), (4, .int (nI j)), (0, .ref o), (1, .int a), (2, .int b)]) hx hb dX5_taxIn_139 hl (by decide) rfl (fun ls hl => ?_)
        refine lv_aload_n hx hb dX5_taxIn_141 rfl (lv_at hl 3 rfl) ?_
        refine m_get hM hE hX hR 20 (by decide) k_1083 rfl rfl dX5_taxIn_142 ?_
        refine lv_iload hx hb dX5_taxIn_145 (lv_at hl 2 rfl) ?_
        refine m_iald hM hE hX hR 20 j (by decide) rfl rfl rfl (show j < 24 by omega) dX5_taxIn_147 ?_
        refine lv_bipush (v := 30) hx hb dX5_taxIn_148 (by decide) ?_
        refine lv_idiv hx hb dX5_taxIn_150 (by decide) ?_
        refine lv_iload_n hx hb dX5_taxIn_151 rfl (lv_at hl 5 rfl) ?_
        refine lv_icmp_ne (tgt := 159) hx hb dX5_taxIn_152 (by decide) (fun c_2 => ?_) (fun c_2 => ?_)
        · refine lv_iconst (v := 0) hx hb dX5_taxIn_159 (by decide) ?_
          refine lv_istore (lv' := [(6, .int 0), (5, .int (M 19 j)), (3, .int x), (4, .int (nI j)), (0, .ref o), (1, .int a), (2, .int b)]) hx hb dX5_taxIn_160 hl (by decide) rfl (fun ls hl => ?_)
          refine lv_iload_n hx hb dX5_taxIn_162 rfl (lv_at hl 2 rfl) ?_
          refine lv_iload hx hb dX5_taxIn_163 (lv_at hl 0 rfl) ?_
          refine lv_if_eq (tgt := 200) hx hb dX5_taxIn_165 (by decide) (fun _ => ?_) (fun c_3 => absurd (show ¬ (0 : Int32) = 0 from c_3) (by decide))
          refine lv_iconst (v := 0) hx hb dX5_taxIn_200 (by decide) ?_
          refine lv_isub hx hb dX5_taxIn_201 ?_
          refine lv_istore_n (lv' := [(3, .int (x - 0)), (6, .int 0), (5, .int (M 19 j)), (4, .int (nI j)), (0, .ref o), (1, .int a), (2, .int b)]) hx hb dX5_taxIn_202 rfl hl (by decide) rfl (fun ls hl => ?_)
          refine lv_iload_n hx hb dX5_taxIn_203 rfl (lv_at hl 0 rfl) ?_
          refine lv_iload hx hb dX5_taxIn_204 (lv_at hl 1 rfl) ?_
          refine lv_if_eq (tgt := 241) hx hb dX5_taxIn_206 (by decide) (fun _ => ?_) (fun c_4 => absurd (show ¬ (0 : Int32) = 0 from c_4) (by decide))
          refine lv_iconst (v := 0) hx hb dX5_taxIn_241 (by decide) ?_
          refine lv_iadd hx hb dX5_taxIn_242 ?_
          refine lv_istore_n (lv' := [(3, .int ((x - 0) + 0)), (6, .int 0), (5, .int (M 19 j)), (4, .int (nI j)), (0, .ref o), (1, .int a), (2, .int b)]) hx hb dX5_taxIn_243 rfl hl (by decide) rfl (fun ls hl => ?_)
          refine lv_iinc (v := (nI (j + 1))) (lv' := [(4, .int (nI (j + 1))), (3, .int ((x - 0) + 0)), (6, .int 0), (5, .int (M 19 j)), (0, .ref o), (1, .int a), (2, .int b)]) hx hb dX5_taxIn_244 hl (k := 3) rfl (nI_1 _) (by decide) rfl (fun ls hl => ?_)
          refine lv_goto (tgt := 123) hx hb dX5_taxIn_247 (by decide) ?_
          exact ih (j + 1) _ (by omega) (by omega) (show ((x - 0) + 0) = l_fold (tin2 M a b) (l_fold (tin1 M a b) 0 (nn M)) (j + 1) from by rw [l_fold, ← hxj]; exact (show tin2 M a b j x = _ from ((if_neg c_2).trans rfl)).symm) _ _ _ hX (lv_sub hl [1, 0, 4, 5, 6] rfl)
        · refine lv_iconst (v := 1) hx hb dX5_taxIn_155 (by decide) ?_
          refine lv_goto (tgt := 160) hx hb dX5_taxIn_156 (by decide) ?_
          refine lv_istore (lv' := [(6, .int 1), (5, .int (M 19 j)), (3, .int x), (4, .int (nI j)), (0, .ref o), (1, .int a), (2, .int b)]) hx hb dX5_taxIn_160 hl (by decide) rfl (fun ls hl => ?_)
          refine lv_iload_n hx hb dX5_taxIn_162 rfl (lv_at hl 2 rfl) ?_
          refine lv_iload hx hb dX5_taxIn_163 (lv_at hl 0 rfl) ?_
          refine lv_if_eq (tgt := 200) hx hb dX5_taxIn_165 (by decide) (fun c_5 => absurd (show (1 : Int32) = 0 from c_5) (by decide)) (fun _ => ?_)
          refine lv_aload_n hx hb dX5_taxIn_168 rfl (lv_at hl 4 rfl) ?_
          refine m_get hM hE hX hR 3 (by decide) k_1066 rfl rfl dX5_taxIn_169 ?_
          refine lv_iload hx hb dX5_taxIn_172 (lv_at hl 1 rfl) ?_
          refine m_iald hM hE hX hR 3 (kj (M 19 j)) (by decide) rfl rfl ((hci j hj).1) (show kj (M 19 j) < 20 by omega) dX5_taxIn_174 ?_
          refine lv_iload_n hx hb dX5_taxIn_175 rfl (lv_at hl 5 rfl) ?_
          refine lv_icmp_ne (tgt := 200) hx hb dX5_taxIn_176 (by decide) (fun c_6 => ?_) (fun c_6 => ?_)
          · refine lv_iconst (v := 0) hx hb dX5_taxIn_200 (by decide) ?_
            refine lv_isub hx hb dX5_taxIn_201 ?_
            refine lv_istore_n (lv' := [(3, .int (x - 0)), (6, .int 1), (5, .int (M 19 j)), (4, .int (nI j)), (0, .ref o), (1, .int a), (2, .int b)]) hx hb dX5_taxIn_202 rfl hl (by decide) rfl (fun ls hl => ?_)
            refine lv_iload_n hx hb dX5_taxIn_203 rfl (lv_at hl 0 rfl) ?_
            refine lv_iload hx hb dX5_taxIn_204 (lv_at hl 1 rfl) ?_
            refine lv_if_eq (tgt := 241) hx hb dX5_taxIn_206 (by decide) (fun c_7 => absurd (show (1 : Int32) = 0 from c_7) (by decide)) (fun _ => ?_)
            refine lv_aload_n hx hb dX5_taxIn_209 rfl (lv_at hl 4 rfl) ?_
            refine m_get hM hE hX hR 4 (by decide) k_1067 rfl rfl dX5_taxIn_210 ?_
            refine lv_iload hx hb dX5_taxIn_213 (lv_at hl 2 rfl) ?_
            refine m_iald hM hE hX hR 4 (kj (M 19 j)) (by decide) rfl rfl ((hci j hj).1) (show kj (M 19 j) < 20 by omega) dX5_taxIn_215 ?_
            refine lv_iload_n hx hb dX5_taxIn_216 rfl (lv_at hl 5 rfl) ?_
            refine lv_icmp_ne (tgt := 241) hx hb dX5_taxIn_217 (by decide) (fun c_8 => ?_) (fun c_8 => ?_)
            · refine lv_iconst (v := 0) hx hb dX5_taxIn_241 (by decide) ?_
              refine lv_iadd hx hb dX5_taxIn_242 ?_
              refine lv_istore_n (lv' := [(3, .int ((x - 0) + 0)), (6, .int 1), (5, .int (M 19 j)), (4, .int (nI j)), (0, .ref o), (1, .int a), (2, .int b)]) hx hb dX5_taxIn_243 rfl hl (by decide) rfl (fun ls hl => ?_)
              refine lv_iinc (v := (nI (j + 1))) (lv' := [(4, .int (nI (j + 1))), (3, .int ((x - 0) + 0)), (6, .int 1), (5, .int (M 19 j)), (0, .ref o), (1, .int a), (2, .int b)]) hx hb dX5_taxIn_244 hl (k := 3) rfl (nI_1 _) (by decide) rfl (fun ls hl => ?_)
              refine lv_goto (tgt := 123) hx hb dX5_taxIn_247 (by decide) ?_
              exact ih (j + 1) _ (by omega) (by omega) (show ((x - 0) + 0) = l_fold (tin2 M a b) (l_fold (tin1 M a b) 0 (nn M)) (j + 1) from by rw [l_fold, ← hxj]; exact (show tin2 M a b j x = _ from ((if_pos c_2).trans ((if_neg c_6).trans ((if_neg c_8).trans rfl)))).symm) _ _ _ hX (lv_sub hl [1, 0, 4, 5, 6] rfl)
            · refine lv_aload_n hx hb dX5_taxIn_220 rfl (lv_at hl 4 rfl) ?_
              refine m_get hM hE hX hR 6 (by decide) k_1069 rfl rfl dX5_taxIn_221 ?_
              refine lv_iload hx hb dX5_taxIn_224 (lv_at hl 2 rfl) ?_
              refine m_iald hM hE hX hR 6 (kj (M 19 j)) (by decide) rfl rfl ((hci j hj).1) (show kj (M 19 j) < 20 by omega) dX5_taxIn_226 ?_
              refine lv_iconst (v := 1) hx hb dX5_taxIn_227 (by decide) ?_
              refine lv_icmp_ne (tgt := 241) hx hb dX5_taxIn_228 (by decide) (fun c_9 => ?_) (fun c_9 => ?_)
              · refine lv_iconst (v := 0) hx hb dX5_taxIn_241 (by decide) ?_
                refine lv_iadd hx hb dX5_taxIn_242 ?_
                refine lv_istore_n (lv' := [(3, .int ((x - 0) + 0)), (6, .int 1), (5, .int (M 19 j)), (4, .int (nI j)), (0, .ref o), (1, .int a), (2, .int b)]) hx hb dX5_taxIn_243 rfl hl (by decide) rfl (fun ls hl => ?_)
                refine lv_iinc (v := (nI (j + 1))) (lv' := [(4, .int (nI (j + 1))), (3, .int ((x - 0) + 0)), (6, .int 1), (5, .int (M 19 j)), (0, .ref o), (1, .int a), (2, .int b)]) hx hb dX5_taxIn_244 hl (k := 3) rfl (nI_1 _) (by decide) rfl (fun ls hl => ?_)
                refine lv_goto (tgt := 123) hx hb dX5_taxIn_247 (by decide) ?_
                exact ih (j + 1) _ (by omega) (by omega) (show ((x - 0) + 0) = l_fold (tin2 M a b) (l_fold (tin1 M a b) 0 (nn M)) (j + 1) from by rw [l_fold, ← hxj]; exact (show tin2 M a b j x = _ from ((if_pos c_2).trans ((if_neg c_6).trans ((if_pos c_8).trans ((if_neg c_9).trans rfl))))).symm) _ _ _ hX (lv_sub hl [1, 0, 4, 5, 6] rfl)
              · refine lv_aload_n hx hb dX5_taxIn_231 rfl (lv_at hl 4 rfl) ?_
                refine m_get hM hE hX hR 21 (by decide) k_1084 rfl rfl dX5_taxIn_232 ?_
                refine lv_iload hx hb dX5_taxIn_235 (lv_at hl 3 rfl) ?_
                refine m_iald hM hE hX hR 21 j (by decide) rfl rfl rfl (show j < 24 by omega) dX5_taxIn_237 ?_
                refine lv_goto (tgt := 242) hx hb dX5_taxIn_238 (by decide) ?_
                refine lv_iadd hx hb dX5_taxIn_242 ?_
                refine lv_istore_n (lv' := [(3, .int ((x - 0) + (M 21 j))), (6, .int 1), (5, .int (M 19 j)), (4, .int (nI j)), (0, .ref o), (1, .int a), (2, .int b)]) hx hb dX5_taxIn_243 rfl hl (by decide) rfl (fun ls hl => ?_)
                refine lv_iinc (v := (nI (j + 1))) (lv' := [(4, .int (nI (j + 1))), (3, .int ((x - 0) + (M 21 j))), (6, .int 1), (5, .int (M 19 j)), (0, .ref o), (1, .int a), (2, .int b)]) hx hb dX5_taxIn_244 hl (k := 3) rfl (nI_1 _) (by decide) rfl (fun ls hl => ?_)
                refine lv_goto (tgt := 123) hx hb dX5_taxIn_247 (by decide) ?_
                exact ih (j + 1) _ (by omega) (by omega) (show ((x - 0) + (M 21 j)) = l_fold (tin2 M a b) (l_fold (tin1 M a b) 0 (nn M)) (j + 1) from by rw [l_fold, ← hxj]; exact (show tin2 M a b j x = _ from ((if_pos c_2).trans ((if_neg c_6).trans ((if_pos c_8).trans ((if_pos c_9).trans rfl))))).symm) _ _ _ hX (lv_sub hl [1, 0, 4, 5, 6] rfl)
          · refine lv_aload_n hx hb dX5_taxIn_179 rfl (lv_at hl 4 rfl) ?_
            refine m_get hM hE hX hR 6 (by decide) k_1069 rfl rfl dX5_taxIn_180 ?_
            refine lv_iload hx hb dX5_taxIn_183 (lv_at hl 1 rfl) ?_
            refine m_iald hM hE hX hR 6 (kj (M 19 j)) (by decide) rfl rfl ((hci j hj).1) (show kj (M 19 j) < 20 by omega) dX5_taxIn_185 ?_
            refine lv_iconst (v := 2) hx hb dX5_taxIn_186 (by decide) ?_
            refine lv_icmp_eq (tgt := 200) hx hb dX5_taxIn_187 (by decide) (fun c_10 => ?_) (fun c_10 => ?_)
            · refine lv_iconst (v := 0) hx hb dX5_taxIn_200 (by decide) ?_
              refine lv_isub hx hb dX5_taxIn_201 ?_
              refine lv_istore_n (lv' := [(3, .int (x - 0)), (6, .int 1), (5, .int (M 19 j)), (4, .int (nI j)), (0, .ref o), (1, .int a), (2, .int b)]) hx hb dX5_taxIn_202 rfl hl (by decide) rfl (fun ls hl => ?_)
              refine lv_iload_n hx hb dX5_taxIn_203 rfl (lv_at hl 0 rfl) ?_
              refine lv_iload hx hb dX5_taxIn_204 (lv_at hl 1 rfl) ?_
              refine lv_if_eq (tgt := 241) hx hb dX5_taxIn_206 (by decide) (fun c_11 => absurd (show (1 : Int32) = 0 from c_11) (by decide)) (fun _ => ?_)
              refine lv_aload_n hx hb dX5_taxIn_209 rfl (lv_at hl 4 rfl) ?_
              refine m_get hM hE hX hR 4 (by decide) k_1067 rfl rfl dX5_taxIn_210 ?_
              refine lv_iload hx hb dX5_taxIn_213 (lv_at hl 2 rfl) ?_
              refine m_iald hM hE hX hR 4 (kj (M 19 j)) (by decide) rfl rfl ((hci j hj).1) (show kj (M 19 j) < 20 by omega) dX5_taxIn_215 ?_
              refine lv_iload_n hx hb dX5_taxIn_216 rfl (lv_at hl 5 rfl) ?_
              refine lv_icmp_ne (tgt := 241) hx hb dX5_taxIn_217 (by decide) (fun c_12 => ?_) (fun c_12 => ?_)
              · refine lv_iconst (v := 0) hx hb dX5_taxIn_241 (by decide) ?_
                refine lv_iadd hx hb dX5_taxIn_242 ?_
                refine lv_istore_n (lv' := [(3, .int ((x - 0) + 0)), (6, .int 1), (5, .int (M 19 j)), (4, .int (nI j)), (0, .ref o), (1, .int a), (2, .int b)]) hx hb dX5_taxIn_243 rfl hl (by decide) rfl (fun ls hl => ?_)
                refine lv_iinc (v := (nI (j + 1))) (lv' := [(4, .int (nI (j + 1))), (3, .int ((x - 0) + 0)), (6, .int 1), (5, .int (M 19 j)), (0, .ref o), (1, .int a), (2, .int b)]) hx hb dX5_taxIn_244 hl (k := 3) rfl (nI_1 _) (by decide) rfl (fun ls hl => ?_)
                refine lv_goto (tgt := 123) hx hb dX5_taxIn_247 (by decide) ?_
                exact ih (j + 1) _ (by omega) (by omega) (show ((x - 0) + 0) = l_fold (tin2 M a b) (l_fold (tin1 M a b) 0 (nn M)) (j + 1) from by rw [l_fold, ← hxj]; exact (show tin2 M a b j x = _ from ((if_pos c_2).trans ((if_pos c_6).trans ((if_pos c_10).trans ((if_neg c_12).trans rfl))))).symm) _ _ _ hX (lv_sub hl [1, 0, 4, 5, 6] rfl)
              · refine lv_aload_n hx hb dX5_taxIn_220 rfl (lv_at hl 4 rfl) ?_
                refine m_get hM hE hX hR 6 (by decide) k_1069 rfl rfl dX5_taxIn_221 ?_
                refine lv_iload hx hb dX5_taxIn_224 (lv_at hl 2 rfl) ?_
                refine m_iald hM hE hX hR 6 (kj (M 19 j)) (by decide) rfl rfl ((hci j hj).1) (show kj (M 19 j) < 20 by omega) dX5_taxIn_226 ?_
                refine lv_iconst (v := 1) hx hb dX5_taxIn_227 (by decide) ?_
                refine lv_icmp_ne (tgt := 241) hx hb dX5_taxIn_228 (by decide) (fun c_13 => ?_) (fun c_13 => ?_)
                · refine lv_iconst (v := 0) hx hb dX5_taxIn_241 (by decide) ?_
                  refine lv_iadd hx hb dX5_taxIn_242 ?_
                  refine lv_istore_n (lv' := [(3, .int ((x - 0) + 0)), (6, .int 1), (5, .int (M 19 j)), (4, .int (nI j)), (0, .ref o), (1, .int a), (2, .int b)]) hx hb dX5_taxIn_243 rfl hl (by decide) rfl (fun ls hl => ?_)
                  refine lv_iinc (v := (nI (j + 1))) (lv' := [(4, .int (nI (j + 1))), (3, .int ((x - 0) + 0)), (6, .int 1), (5, .int (M 19 j)), (0, .ref o), (1, .int a), (2, .int b)]) hx hb dX5_taxIn_244 hl (k := 3) rfl (nI_1 _) (by decide) rfl (fun ls hl => ?_)
                  refine lv_goto (tgt := 123) hx hb dX5_taxIn_247 (by decide) ?_
                  exact ih (j + 1) _ (by omega) (by omega) (show ((x - 0) + 0) = l_fold (tin2 M a b) (l_fold (tin1 M a b) 0 (nn M)) (j + 1) from by rw [l_fold, ← hxj]; exact (show tin2 M a b j x = _ from ((if_pos c_2).trans ((if_pos c_6).trans ((if_pos c_10).trans ((if_pos c_12).trans ((if_neg c_13).trans rfl)))))).symm) _ _ _ hX (lv_sub hl [1, 0, 4, 5, 6] rfl)
                · refine lv_aload_n hx hb dX5_taxIn_231 rfl (lv_at hl 4 rfl) ?_
                  refine m_get hM hE hX hR 21 (by decide) k_1084 rfl rfl dX5_taxIn_232 ?_
                  refine lv_iload hx hb dX5_taxIn_235 (lv_at hl 3 rfl) ?_
                  refine m_iald hM hE hX hR 21 j (by decide) rfl rfl rfl (show j < 24 by omega) dX5_taxIn_237 ?_
                  refine lv_goto (tgt := 242) hx hb dX5_taxIn_238 (by decide) ?_
                  refine lv_iadd hx hb dX5_taxIn_242 ?_
                  refine lv_istore_n (lv' := [(3, .int ((x - 0) + (M 21 j))), (6, .int 1), (5, .int (M 19 j)), (4, .int (nI j)), (0, .ref o), (1, .int a), (2, .int b)]) hx hb dX5_taxIn_243 rfl hl (by decide) rfl (fun ls hl => ?_)
                  refine lv_iinc (v := (nI (j + 1))) (lv' := [(4, .int (nI (j + 1))), (3, .int ((x - 0) + (M 21 j))), (6, .int 1), (5, .int (M 19 j)), (0, .ref o), (1, .int a), (2, .int b)]) hx hb dX5_taxIn_244 hl (k := 3) rfl (nI_1 _) (by decide) rfl (fun ls hl => ?_)
                  refine lv_goto (tgt := 123) hx hb dX5_taxIn_247 (by decide) ?_
                  exact ih (j + 1) _ (by omega) (by omega) (show ((x - 0) + (M 21 j)) = l_fold (tin2 M a b) (l_fold (tin1 M a b) 0 (nn M)) (j + 1) from by rw [l_fold, ← hxj]; exact (show tin2 M a b j x = _ from ((if_pos c_2).trans ((if_pos c_6).trans ((if_pos c_10).trans ((if_pos c_12).trans ((if_pos c_13).trans rfl)))))).symm) _ _ _ hX (lv_sub hl [1, 0, 4, 5, 6] rfl)
            · refine lv_aload_n hx hb dX5_taxIn_190 rfl (lv_at hl 4 rfl) ?_
              refine m_get hM hE hX hR 21 (by decide) k_1084 rfl rfl dX5_taxIn_191 ?_
              refine lv_iload hx hb dX5_taxIn_194 (lv_at hl 3 rfl) ?_
              refine m_iald hM hE hX hR 21 j (by decide) rfl rfl rfl (show j < 24 by omega) dX5_taxIn_196 ?_
              refine lv_goto (tgt := 201) hx hb dX5_taxIn_197 (by decide) ?_
              refine lv_isub hx hb dX5_taxIn_201 ?_
              refine lv_istore_n (lv' := [(3, .int (x - (M 21 j))), (6, .int 1), (5, .int (M 19 j)), (4, .int (nI j)), (0, .ref o), (1, .int a), (2, .int b)]) hx hb dX5_taxIn_202 rfl hl (by decide) rfl (fun ls hl => ?_)
              refine lv_iload_n hx hb dX5_taxIn_203 rfl (lv_at hl 0 rfl) ?_
              refine lv_iload hx hb dX5_taxIn_204 (lv_at hl 1 rfl) ?_
              refine lv_if_eq (tgt := 241) hx hb dX5_taxIn_206 (by decide) (fun c_14 => absurd (show (1 : Int32) = 0 from c_14) (by decide)) (fun _ => ?_)
              refine lv_aload_n hx hb dX5_taxIn_209 rfl (lv_at hl 4 rfl) ?_
              refine m_get hM hE hX hR 4 (by decide) k_1067 rfl rfl dX5_taxIn_210 ?_
              refine lv_iload hx hb dX5_taxIn_213 (lv_at hl 2 rfl) ?_
              refine m_iald hM hE hX hR 4 (kj (M 19 j)) (by decide) rfl rfl ((hci j hj).1) (show kj (M 19 j) < 20 by omega) dX5_taxIn_215 ?_
              refine lv_iload_n hx hb dX5_taxIn_216 rfl (lv_at hl 5 rfl) ?_
              refine lv_icmp_ne (tgt := 241) hx hb dX5_taxIn_217 (by decide) (fun c_15 => ?_) (fun c_15 => ?_)
              · refine lv_iconst (v := 0) hx hb dX5_taxIn_241 (by decide) ?_
                refine lv_iadd hx hb dX5_taxIn_242 ?_
                refine lv_istore_n (lv' := [(3, .int ((x - (M 21 j)) + 0)), (6, .int 1), (5, .int (M 19 j)), (4, .int (nI j)), (0, .ref o), (1, .int a), (2, .int b)]) hx hb dX5_taxIn_243 rfl hl (by decide) rfl (fun ls hl => ?_)
                refine lv_iinc (v := (nI (j + 1))) (lv' := [(4, .int (nI (j + 1))), (3, .int ((x - (M 21 j)) + 0)), (6, .int 1), (5, .int (M 19 j)), (0, .ref o), (1, .int a), (2, .int b)]) hx hb dX5_taxIn_244 hl (k := 3) rfl (nI_1 _) (by decide) rfl (fun ls hl => ?_)
                refine lv_goto (tgt := 123) hx hb dX5_taxIn_247 (by decide) ?_
                exact ih (j + 1) _ (by omega) (by omega) (show ((x - (M 21 j)) + 0) = l_fold (tin2 M a b) (l_fold (tin1 M a b) 0 (nn M)) (j + 1) from by rw [l_fold, ← hxj]; exact (show tin2 M a b j x = _ from ((if_pos c_2).trans ((if_pos c_6).trans ((if_neg c_10).trans ((if_neg c_15).trans rfl))))).symm) _ _ _ hX (lv_sub hl [1, 0, 4, 5, 6] rfl)
              · refine lv_aload_n hx hb dX5_taxIn_220 rfl (lv_at hl 4 rfl) ?_
                refine m_get hM hE hX hR 6 (by decide) k_1069 rfl rfl dX5_taxIn_221 ?_
                refine lv_iload hx hb dX5_taxIn_224 (lv_at hl 2 rfl) ?_
                refine m_iald hM hE hX hR 6 (kj (M 19 j)) (by decide) rfl rfl ((hci j hj).1) (show kj (M 19 j) < 20 by omega) dX5_taxIn_226 ?_
                refine lv_iconst (v := 1) hx hb dX5_taxIn_227 (by decide) ?_
                refine lv_icmp_ne (tgt := 241) hx hb dX5_taxIn_228 (by decide) (fun c_16 => ?_) (fun c_16 => ?_)
                · refine lv_iconst (v := 0) hx hb dX5_taxIn_241 (by decide) ?_
                  refine lv_iadd hx hb dX5_taxIn_242 ?_
                  refine lv_istore_n (lv' := [(3, .int ((x - (M 21 j)) + 0)), (6, .int 1), (5, .int (M 19 j)), (4, .int (nI j)), (0, .ref o), (1, .int a), (2, .int b)]) hx hb dX5_taxIn_243 rfl hl (by decide) rfl (fun ls hl => ?_)
                  refine lv_iinc (v := (nI (j + 1))) (lv' := [(4, .int (nI (j + 1))), (3, .int ((x - (M 21 j)) + 0)), (6, .int 1), (5, .int (M 19 j)), (0, .ref o), (1, .int a), (2, .int b)]) hx hb dX5_taxIn_244 hl (k := 3) rfl (nI_1 _) (by decide) rfl (fun ls hl => ?_)
                  refine lv_goto (tgt := 123) hx hb dX5_taxIn_247 (by decide) ?_
                  exact ih (j + 1) _ (by omega) (by omega) (show ((x - (M 21 j)) + 0) = l_fold (tin2 M a b) (l_fold (tin1 M a b) 0 (nn M)) (j + 1) from by rw [l_fold, ← hxj]; exact (show tin2 M a b j x = _ from ((if_pos c_2).trans ((if_pos c_6).trans ((if_neg c_10).trans ((if_pos c_15).trans ((if_neg c_16).trans rfl)))))).symm) _ _ _ hX (lv_sub hl [1, 0, 4, 5, 6] rfl)
                · refine lv_aload_n hx hb dX5_taxIn_231 rfl (lv_at hl 4 rfl) ?_
                  refine m_get hM hE hX hR 21 (by decide) k_1084 rfl rfl dX5_taxIn_232 ?_
                  refine lv_iload hx hb dX5_taxIn_235 (lv_at hl 3 rfl) ?_
                  refine m_iald hM hE hX hR 21 j (by decide) rfl rfl rfl (show j < 24 by omega) dX5_taxIn_237 ?_
                  refine lv_goto (tgt := 242) hx hb dX5_taxIn_238 (by decide) ?_
                  refine lv_iadd hx hb dX5_taxIn_242 ?_
                  refine lv_istore_n (lv' := [(3, .int ((x - (M 21 j)) + (M 21 j))), (6, .int 1), (5, .int (M 19 j)), (4, .int (nI j)), (0, .ref o), (1, .int a), (2, .int b)]) hx hb dX5_taxIn_243 rfl hl (by decide) rfl (fun ls hl => ?_)
                  refine lv_iinc (v := (nI (j + 1))) (lv' := [(4, .int (nI (j + 1))), (3, .int ((x - (M 21 j)) + (M 21 j))), (6, .int 1), (5, .int (M 19 j)), (0, .ref o), (1, .int a), (2, .int b)]) hx hb dX5_taxIn_244 hl (k := 3) rfl (nI_1 _) (by decide) rfl (fun ls hl => ?_)
                  refine lv_goto (tgt := 123) hx hb dX5_taxIn_247 (by decide) ?_
                  exact ih (j + 1) _ (by omega) (by omega) (show ((x - (M 21 j)) + (M 21 j)) = l_fold (tin2 M a b) (l_fold (tin1 M a b) 0 (nn M)) (j + 1) from by rw [l_fold, ← hxj]; exact (show tin2 M a b j x = _ from ((if_pos c_2).trans ((if_pos c_6).trans ((if_neg c_10).trans ((if_pos c_15).trans ((if_pos c_16).trans rfl)))))).symm) _ _ _ hX (lv_sub hl [1, 0, 4, 5, 6] rfl)
  have hloop1 : ∀ (n j : Nat) (x : Int32), nn M < j + n → j ≤ nn M → x = l_fold (tin1 M a b) 0 j → ∀ (H : Heap) (locs : List Loc) (ls : Array Slot), kX γ (kA L sz) s L F H locs → lv_has ls 7 [(3, .int x), (4, .int (nI j)), (0, .ref o), (1, .int a), (2, .int b)] → W p l e (kRm 2 0 0) s m args below meth c H locs 0 0 (MQ below (kQ γ L sz (kI fun r L1 F1 => L = L1 ∧ F = F1 ∧ r = taxIn M a b)) args s (kRm 2 0 0).cells (kRm 2 0 0).slots (kA L sz)) (F0 m 5 ls []) := by
    intro n
    induction n with
    | zero => intro j x h1 h2; exact absurd h1 (by omega)
    | succ n ih =>
      intro j x h1 h2 hxj H locs ls hX hl
      refine lv_iload hx hb dX5_taxIn_5 (lv_at hl 1 rfl) ?_
      refine lv_aload_n hx hb dX5_taxIn_7 rfl (lv_at hl 2 rfl) ?_
      refine m_get hM hE hX hR 2 (by decide) k_1065 rfl rfl dX5_taxIn_8 ?_
      refine lv_icmp_ge (tgt := 120) hx hb dX5_taxIn_11 (by decide) (fun c_1 => ?_) (fun c_1 => ?_)
      · have ej : j = nn M := by
          have h9 := lp_out (a := j) (b := nn M) (by omega) (by omega) (by rw [← hn.1]; exact c_1)
          omega
        refine lv_iconst (v := 0) hx hb dX5_taxIn_120 (by decide) ?_
        refine lv_istore (lv' := [(4, .int 0), (3, .int x), (0, .ref o), (1, .int a), (2, .int b)]) hx hb dX5_taxIn_121 hl (by decide) rfl (fun ls hl => ?_)
        exact hloop2 (cc M + 1) 0 _ (by omega) (Nat.zero_le _) (by rw [hxj, ej]; rfl) _ _ _ hX (lv_sub hl [1, 0, 2, 3, 4] rfl)
      · have hj : j < nn M := by
          have h9 := lp_in (a := j) (b := nn M) (by omega) (by omega) (by rw [← hn.1]; exact c_1)
          omega
        refine lv_iload_n hx hb dX5_taxIn_14 rfl (lv_at hl 0 rfl) ?_
        refine lv_aload_n hx hb dX5_taxIn_15 rfl (lv_at hl 2 rfl) ?_
        refine m_get hM hE hX hR 3 (by decide) k_1066 rfl rfl dX5_taxIn_16 ?_
        refine lv_iload hx hb dX5_taxIn_19 (lv_at hl 1 rfl) ?_
        refine m_iald hM hE hX hR 3 j (by decide) rfl rfl rfl (show j < 20 by omega) dX5_taxIn_21 ?_
        refine lv_iload_n hx hb dX5_taxIn_22 rfl (lv_at hl 3 rfl) ?_
        refine lv_icmp_ne (tgt := 61) hx hb dX5_taxIn_23 (by decide) (fun c_2 => ?_) (fun c_2 => ?_)
        · refine lv_iconst (v := 0) hx hb dX5_taxIn_61 (by decide) ?_
          refine lv_iadd hx hb dX5_taxIn_62 ?_
          refine lv_istore_n (lv' := [(3, .int (x + 0)), (4, .int (nI j)), (0, .ref o), (1, .int a), (2, .int b)]) hx hb dX5_taxIn_63 rfl hl (by decide) rfl (fun ls hl => ?_)
          refine lv_iload_n hx hb dX5_taxIn_64 rfl (lv_at hl 0 rfl) ?_
          refine lv_aload_n hx hb dX5_taxIn_65 rfl (lv_at hl 2 rfl) ?_
          refine m_get hM hE hX hR 4 (by decide) k_1067 rfl rfl dX5_taxIn_66 ?_
          refine lv_iload hx hb dX5_taxIn_69 (lv_at hl 1 rfl) ?_
          refine m_iald hM hE hX hR 4 j (by decide) rfl rfl rfl (show j < 20 by omega) dX5_taxIn_71 ?_
          refine lv_iload_n hx hb dX5_taxIn_72 rfl (lv_at hl 3 rfl) ?_
          refine lv_icmp_ne (tgt := 111) hx hb dX5_taxIn_73 (by decide) (fun c_3 => ?_) (fun c_3 => ?_)
          · refine lv_iconst (v := 0) hx hb dX5_taxIn_111 (by decide) ?_
            refine lv_isub hx hb dX5_taxIn_112 ?_
            refine lv_istore_n (lv' := [(3, .int ((x + 0) - 0)), (4, .int (nI j)), (0, .ref o), (1, .int a), (2, .int b)]) hx hb dX5_taxIn_113 rfl hl (by decide) rfl (fun ls hl => ?_)
            refine lv_iinc (v := (nI (j + 1))) (lv' := [(4, .int (nI (j + 1))), (3, .int ((x + 0) - 0)), (0, .ref o), (1, .int a), (2, .int b)]) hx hb dX5_taxIn_114 hl (k := 1) rfl (nI_1 _) (by decide) rfl (fun ls hl => ?_)
            refine lv_goto (tgt := 5) hx hb dX5_taxIn_117 (by decide) ?_
            exact ih (j + 1) _ (by omega) (by omega) (show ((x + 0) - 0) = l_fold (tin1 M a b) 0 (j + 1) from by rw [l_fold, ← hxj]; exact (show tin1 M a b j x = _ from ((if_neg c_2).trans ((if_neg c_3).trans rfl))).symm) _ _ _ hX (lv_sub hl [1, 0, 2, 3, 4] rfl)
          · refine lv_aload_n hx hb dX5_taxIn_76 rfl (lv_at hl 2 rfl) ?_
            refine m_get hM hE hX hR 6 (by decide) k_1069 rfl rfl dX5_taxIn_77 ?_
            refine lv_iload hx hb dX5_taxIn_80 (lv_at hl 1 rfl) ?_
            refine m_iald hM hE hX hR 6 j (by decide) rfl rfl rfl (show j < 20 by omega) dX5_taxIn_82 ?_
            refine lv_iconst (v := 1) hx hb dX5_taxIn_83 (by decide) ?_
            refine lv_icmp_ne (tgt := 111) hx hb dX5_taxIn_84 (by decide) (fun c_4 => ?_) (fun c_4 => ?_)
            · refine lv_iconst (v := 0) hx hb dX5_taxIn_111 (by decide) ?_
              refine lv_isub hx hb dX5_taxIn_112 ?_
              refine lv_istore_n (lv' := [(3, .int ((x + 0) - 0)), (4, .int (nI j)), (0, .ref o), (1, .int a), (2, .int b)]) hx hb dX5_taxIn_113 rfl hl (by decide) rfl (fun ls hl => ?_)
              refine lv_iinc (v := (nI (j + 1))) (lv' := [(4, .int (nI (j + 1))), (3, .int ((x + 0) - 0)), (0, .ref o), (1, .int a), (2, .int b)]) hx hb dX5_taxIn_114 hl (k := 1) rfl (nI_1 _) (by decide) rfl (fun ls hl => ?_)
              refine lv_goto (tgt := 5) hx hb dX5_taxIn_117 (by decide) ?_
              exact ih (j + 1) _ (by omega) (by omega) (show ((x + 0) - 0) = l_fold (tin1 M a b) 0 (j + 1) from by rw [l_fold, ← hxj]; exact (show tin1 M a b j x = _ from ((if_neg c_2).trans ((if_pos c_3).trans ((if_neg c_4).trans rfl)))).symm) _ _ _ hX (lv_sub hl [1, 0, 2, 3, 4] rfl)
            · refine lv_aload_n hx hb dX5_taxIn_87 rfl (lv_at hl 2 rfl) ?_
              refine m_get hM hE hX hR 8 (by decide) k_1071 rfl rfl dX5_taxIn_88 ?_
              refine lv_iload hx hb dX5_taxIn_91 (lv_at hl 1 rfl) ?_
              refine m_iald hM hE hX hR 8 j (by decide) rfl rfl rfl (show j < 20 by omega) dX5_taxIn_93 ?_
              refine lv_bipush (v := 30) hx hb dX5_taxIn_94 (by decide) ?_
              refine lv_idiv hx hb dX5_taxIn_96 (by decide) ?_
              refine lv_iload_n hx hb dX5_taxIn_97 rfl (lv_at hl 4 rfl) ?_
              refine lv_icmp_ne (tgt := 111) hx hb dX5_taxIn_98 (by decide) (fun c_5 => ?_) (fun c_5 => ?_)
              · refine lv_iconst (v := 0) hx hb dX5_taxIn_111 (by decide) ?_
                refine lv_isub hx hb dX5_taxIn_112 ?_
                refine lv_istore_n (lv' := [(3, .int ((x + 0) - 0)), (4, .int (nI j)), (0, .ref o), (1, .int a), (2, .int b)]) hx hb dX5_taxIn_113 rfl hl (by decide) rfl (fun ls hl => ?_)
                refine lv_iinc (v := (nI (j + 1))) (lv' := [(4, .int (nI (j + 1))), (3, .int ((x + 0) - 0)), (0, .ref o), (1, .int a), (2, .int b)]) hx hb dX5_taxIn_114 hl (k := 1) rfl (nI_1 _) (by decide) rfl (fun ls hl => ?_)
                refine lv_goto (tgt := 5) hx hb dX5_taxIn_117 (by decide) ?_
                exact ih (j + 1) _ (by omega) (by omega) (show ((x + 0) - 0) = l_fold (tin1 M a b) 0 (j + 1) from by rw [l_fold, ← hxj]; exact (show tin1 M a b j x = _ from ((if_neg c_2).trans ((if_pos c_3).trans ((if_pos c_4).trans ((if_neg c_5).trans rfl))))).symm) _ _ _ hX (lv_sub hl [1, 0, 2, 3, 4] rfl)
              · refine lv_aload_n hx hb dX5_taxIn_101 rfl (lv_at hl 2 rfl) ?_
                refine lv_iload hx hb dX5_taxIn_102 (lv_at hl 1 rfl) ?_
                refine lv_iconst (v := 1) hx hb dX5_taxIn_104 (by decide) ?_
                refine k_goi (k_V (n := 2) (As := [.int (nI j), .int 1]) (rest := [.int (x + 0)]) hM hE hX hl (c_X5_taxOfAll l γ L F o ad M hR j (nI j) 1 rfl (by omega) (hk j hj)) hR.1 hR.2.1 rfl k_1260 k_1262 kp_35 k_9 k_1263 ⟨rfl, by decide, by decide, by decide +kernel⟩ (by decide) rfl rfl (Nat.le_of_ble_eq_true rfl) dX5_taxIn_105 (by decide)) hE hX (fun r L1 F1 H locs hp hX => ?_)
                obtain ⟨rfl, rfl, rfl⟩ := hp
                refine lv_goto (tgt := 112) hx hb dX5_taxIn_108 (by decide) ?_
                refine lv_isub hx hb dX5_taxIn_112 ?_
                refine lv_istore_n (lv' := [(3, .int ((x + 0) - (taxAll M j 1))), (4, .int (nI j)), (0, .ref o), (1, .int a), (2, .int b)]) hx hb dX5_taxIn_113 rfl hl (by decide) rfl (fun ls hl => ?_)
                refine lv_iinc (v := (nI (j + 1))) (lv' := [(4, .int (nI (j + 1))), (3, .int ((x + 0) - (taxAll M j 1))), (0, .ref o), (1, .int a), (2, .int b)]) hx hb dX5_taxIn_114 hl (k := 1) rfl (nI_1 _) (by decide) rfl (fun ls hl => ?_)
                refine lv_goto (tgt := 5) hx hb dX5_taxIn_117 (by decide) ?_
                exact ih (j + 1) _ (by omega) (by omega) (show ((x + 0) - (taxAll M j 1)) = l_fold (tin1 M a b) 0 (j + 1) from by rw [l_fold, ← hxj]; exact (show tin1 M a b j x = _ from ((if_neg c_2).trans ((if_pos c_3).trans ((if_pos c_4).trans ((if_pos c_5).trans rfl))))).symm) _ _ _ hX (lv_sub hl [1, 0, 2, 3, 4] rfl)
        · refine lv_aload_n hx hb dX5_taxIn_26 rfl (lv_at hl 2 rfl) ?_
          refine m_get hM hE hX hR 7 (by decide) k_1070 rfl rfl dX5_taxIn_27 ?_
          refine lv_iload hx hb dX5_taxIn_30 (lv_at hl 1 rfl) ?_
          refine m_iald hM hE hX hR 7 j (by decide) rfl rfl rfl (show j < 20 by omega) dX5_taxIn_32 ?_
          refine lv_bipush (v := 30) hx hb dX5_taxIn_33 (by decide) ?_
          refine lv_idiv hx hb dX5_taxIn_35 (by decide) ?_
          refine lv_iload_n hx hb dX5_taxIn_36 rfl (lv_at hl 4 rfl) ?_
          refine lv_icmp_ne (tgt := 61) hx hb dX5_taxIn_37 (by decide) (fun c_6 => ?_) (fun c_6 => ?_)
          · refine lv_iconst (v := 0) hx hb dX5_taxIn_61 (by decide) ?_
            refine lv_iadd hx hb dX5_taxIn_62 ?_
            refine lv_istore_n (lv' := [(3, .int (x + 0)), (4, .int (nI j)), (0, .ref o), (1, .int a), (2, .int b)]) hx hb dX5_taxIn_63 rfl hl (by decide) rfl (fun ls hl => ?_)
            refine lv_iload_n hx hb dX5_taxIn_64 rfl (lv_at hl 0 rfl) ?_
            refine lv_aload_n hx hb dX5_taxIn_65 rfl (lv_at hl 2 rfl) ?_
            refine m_get hM hE hX hR 4 (by decide) k_1067 rfl rfl dX5_taxIn_66 ?_
            refine lv_iload hx hb dX5_taxIn_69 (lv_at hl 1 rfl) ?_
            refine m_iald hM hE hX hR 4 j (by decide) rfl rfl rfl (show j < 20 by omega) dX5_taxIn_71 ?_
            refine lv_iload_n hx hb dX5_taxIn_72 rfl (lv_at hl 3 rfl) ?_
            refine lv_icmp_ne (tgt := 111) hx hb dX5_taxIn_73 (by decide) (fun c_7 => ?_) (fun c_7 => ?_)
            · refine lv_iconst (v := 0) hx hb dX5_taxIn_111 (by decide) ?_
              refine lv_isub hx hb dX5_taxIn_112 ?_
              refine lv_istore_n (lv' := [(3, .int ((x + 0) - 0)), (4, .int (nI j)), (0, .ref o), (1, .int a), (2, .int b)]) hx hb dX5_taxIn_113 rfl hl (by decide) rfl (fun ls hl => ?_)
              refine lv_iinc (v := (nI (j + 1))) (lv' := [(4, .int (nI (j + 1))), (3, .int ((x + 0) - 0)), (0, .ref o), (1, .int a), (2, .int b)]) hx hb dX5_taxIn_114 hl (k := 1) rfl (nI_1 _) (by decide) rfl (fun ls hl => ?_)
              refine lv_goto (tgt := 5) hx hb dX5_taxIn_117 (by decide) ?_
              exact ih (j + 1) _ (by omega) (by omega) (show ((x + 0) - 0) = l_fold (tin1 M a b) 0 (j + 1) from by rw [l_fold, ← hxj]; exact (show tin1 M a b j x = _ from ((if_pos c_2).trans ((if_neg c_6).trans ((if_neg c_7).trans rfl)))).symm) _ _ _ hX (lv_sub hl [1, 0, 2, 3, 4] rfl)
            · refine lv_aload_n hx hb dX5_taxIn_76 rfl (lv_at hl 2 rfl) ?_
              refine m_get hM hE hX hR 6 (by decide) k_1069 rfl rfl dX5_taxIn_77 ?_
              refine lv_iload hx hb dX5_taxIn_80 (lv_at hl 1 rfl) ?_
              refine m_iald hM hE hX hR 6 j (by decide) rfl rfl rfl (show j < 20 by omega) dX5_taxIn_82 ?_
              refine lv_iconst (v := 1) hx hb dX5_taxIn_83 (by decide) ?_
              refine lv_icmp_ne (tgt := 111) hx hb dX5_taxIn_84 (by decide) (fun c_8 => ?_) (fun c_8 => ?_)
              · refine lv_iconst (v := 0) hx hb dX5_taxIn_111 (by decide) ?_
                refine lv_isub hx hb dX5_taxIn_112 ?_
                refine lv_istore_n (lv' := [(3, .int ((x + 0) - 0)), (4, .int (nI j)), (0, .ref o), (1, .int a), (2, .int b)]) hx hb dX5_taxIn_113 rfl hl (by decide) rfl (fun ls hl => ?_)
                refine lv_iinc (v := (nI (j + 1))) (lv' := [(4, .int (nI (j + 1))), (3, .int ((x + 0) - 0)), (0, .ref o), (1, .int a), (2, .int b)]) hx hb dX5_taxIn_114 hl (k := 1) rfl (nI_1 _) (by decide) rfl (fun ls hl => ?_)
                refine lv_goto (tgt := 5) hx hb dX5_taxIn_117 (by decide) ?_
                exact ih (j + 1) _ (by omega) (by omega) (show ((x + 0) - 0) = l_fold (tin1 M a b) 0 (j + 1) from by rw [l_fold, ← hxj]; exact (show tin1 M a b j x = _ from ((if_pos c_2).trans ((if_neg c_6).trans ((if_pos c_7).trans ((if_neg c_8).trans rfl))))).symm) _ _ _ hX (lv_sub hl [1, 0, 2, 3, 4] rfl)
              · refine lv_aload_n hx hb dX5_taxIn_87 rfl (lv_at hl 2 rfl) ?_
                refine m_get hM hE hX hR 8 (by decide) k_1071 rfl rfl dX5_taxIn_88 ?_
                refine lv_iload hx hb dX5_taxIn_91 (lv_at hl 1 rfl) ?_
                refine m_iald hM hE hX hR 8 j (by decide) rfl rfl rfl (show j < 20 by omega) dX5_taxIn_93 ?_
                refine lv_bipush (v := 30) hx hb dX5_taxIn_94 (by decide) ?_
                refine lv_idiv hx hb dX5_taxIn_96 (by decide) ?_
                refine lv_iload_n hx hb dX5_taxIn_97 rfl (lv_at hl 4 rfl) ?_
                refine lv_icmp_ne (tgt := 111) hx hb dX5_taxIn_98 (by decide) (fun c_9 => ?_) (fun c_9 => ?_)
                · refine lv_iconst (v := 0) hx hb dX5_taxIn_111 (by decide) ?_
                  refine lv_isub hx hb dX5_taxIn_112 ?_
                  refine lv_istore_n (lv' := [(3, .int ((x + 0) - 0)), (4, .int (nI j)), (0, .ref o), (1, .int a), (2, .int b)]) hx hb dX5_taxIn_113 rfl hl (by decide) rfl (fun ls hl => ?_)
                  refine lv_iinc (v := (nI (j + 1))) (lv' := [(4, .int (nI (j + 1))), (3, .int ((x + 0) - 0)), (0, .ref o), (1, .int a), (2, .int b)]) hx hb dX5_taxIn_114 hl (k := 1) rfl (nI_1 _) (by decide) rfl (fun ls hl => ?_)
                  refine lv_goto (tgt := 5) hx hb dX5_taxIn_117 (by decide) ?_
                  exact ih (j + 1) _ (by omega) (by omega) (show ((x + 0) - 0) = l_fold (tin1 M a b) 0 (j + 1) from by rw [l_fold, ← hxj]; exact (show tin1 M a b j x = _ from ((if_pos c_2).trans ((if_neg c_6).trans ((if_pos c_7).trans ((if_pos c_8).trans ((if_neg c_9).trans rfl)))))).symm) _ _ _ hX (lv_sub hl [1, 0, 2, 3, 4] rfl)
                · refine lv_aload_n hx hb dX5_taxIn_101 rfl (lv_at hl 2 rfl) ?_
                  refine lv_iload hx hb dX5_taxIn_102 (lv_at hl 1 rfl) ?_
                  refine lv_iconst (v := 1) hx hb dX5_taxIn_104 (by decide) ?_
                  refine k_goi (k_V (n := 2) (As := [.int (nI j), .int 1]) (rest := [.int (x + 0)]) hM hE hX hl (c_X5_taxOfAll l γ L F o ad M hR j (nI j) 1 rfl (by omega) (hk j hj)) hR.1 hR.2.1 rfl k_1260 k_1262 kp_35 k_9 k_1263 ⟨rfl, by decide, by decide, by decide +kernel⟩ (by decide) rfl rfl (Nat.le_of_ble_eq_true rfl) dX5_taxIn_105 (by decide)) hE hX (fun r L1 F1 H locs hp hX => ?_)
                  obtain ⟨rfl, rfl, rfl⟩ := hp
                  refine lv_goto (tgt := 112) hx hb dX5_taxIn_108 (by decide) ?_
                  refine lv_isub hx hb dX5_taxIn_112 ?_
                  refine lv_istore_n (lv' := [(3, .int ((x + 0) - (taxAll M j 1))), (4, .int (nI j)), (0, .ref o), (1, .int a), (2, .int b)]) hx hb dX5_taxIn_113 rfl hl (by decide) rfl (fun ls hl => ?_)
                  refine lv_iinc (v := (nI (j + 1))) (lv' := [(4, .int (nI (j + 1))), (3, .int ((x + 0) - (taxAll M j 1))), (0, .ref o), (1, .int a), (2, .int b)]) hx hb dX5_taxIn_114 hl (k := 1) rfl (nI_1 _) (by decide) rfl (fun ls hl => ?_)
                  refine lv_goto (tgt := 5) hx hb dX5_taxIn_117 (by decide) ?_
                  exact ih (j + 1) _ (by omega) (by omega) (show ((x + 0) - (taxAll M j 1)) = l_fold (tin1 M a b) 0 (j + 1) from by rw [l_fold, ← hxj]; exact (show tin1 M a b j x = _ from ((if_pos c_2).trans ((if_neg c_6).trans ((if_pos c_7).trans ((if_pos c_8).trans ((if_pos c_9).trans rfl)))))).symm) _ _ _ hX (lv_sub hl [1, 0, 2, 3, 4] rfl)
          · refine lv_aload_n hx hb dX5_taxIn_40 rfl (lv_at hl 2 rfl) ?_
            refine m_get hM hE hX hR 6 (by decide) k_1069 rfl rfl dX5_taxIn_41 ?_
            refine lv_iload hx hb dX5_taxIn_44 (lv_at hl 1 rfl) ?_
            refine m_iald hM hE hX hR 6 j (by decide) rfl rfl rfl (show j < 20 by omega) dX5_taxIn_46 ?_
            refine lv_iconst (v := 2) hx hb dX5_taxIn_47 (by decide) ?_
            refine lv_icmp_eq (tgt := 61) hx hb dX5_taxIn_48 (by decide) (fun c_10 => ?_) (fun c_10 => ?_)
            · refine lv_iconst (v := 0) hx hb dX5_taxIn_61 (by decide) ?_
              refine lv_iadd hx hb dX5_taxIn_62 ?_
              refine lv_istore_n (lv' := [(3, .int (x + 0)), (4, .int (nI j)), (0, .ref o), (1, .int a), (2, .int b)]) hx hb dX5_taxIn_63 rfl hl (by decide) rfl (fun ls hl => ?_)
              refine lv_iload_n hx hb dX5_taxIn_64 rfl (lv_at hl 0 rfl) ?_
              refine lv_aload_n hx hb dX5_taxIn_65 rfl (lv_at hl 2 rfl) ?_
              refine m_get hM hE hX hR 4 (by decide) k_1067 rfl rfl dX5_taxIn_66 ?_
              refine lv_iload hx hb dX5_taxIn_69 (lv_at hl 1 rfl) ?_
              refine m_iald hM hE hX hR 4 j (by decide) rfl rfl rfl (show j < 20 by omega) dX5_taxIn_71 ?_
              refine lv_iload_n hx hb dX5_taxIn_72 rfl (lv_at hl 3 rfl) ?_
              refine lv_icmp_ne (tgt := 111) hx hb dX5_taxIn_73 (by decide) (fun c_11 => ?_) (fun c_11 => ?_)
              · refine lv_iconst (v := 0) hx hb dX5_taxIn_111 (by decide) ?_
                refine lv_isub hx hb dX5_taxIn_112 ?_
                refine lv_istore_n (lv' := [(3, .int ((x + 0) - 0)), (4, .int (nI j)), (0, .ref o), (1, .int a), (2, .int b)]) hx hb dX5_taxIn_113 rfl hl (by decide) rfl (fun ls hl => ?_)
                refine lv_iinc (v := (nI (j + 1))) (lv' := [(4, .int (nI (j + 1))), (3, .int ((x + 0) - 0)), (0, .ref o), (1, .int a), (2, .int b)]) hx hb dX5_taxIn_114 hl (k := 1) rfl (nI_1 _) (by decide) rfl (fun ls hl => ?_)
                refine lv_goto (tgt := 5) hx hb dX5_taxIn_117 (by decide) ?_
                exact ih (j + 1) _ (by omega) (by omega) (show ((x + 0) - 0) = l_fold (tin1 M a b) 0 (j + 1) from by rw [l_fold, ← hxj]; exact (show tin1 M a b j x = _ from ((if_pos c_2).trans ((if_pos c_6).trans ((if_pos c_10).trans ((if_neg c_11).trans rfl))))).symm) _ _ _ hX (lv_sub hl [1, 0, 2, 3, 4] rfl)
              · refine lv_aload_n hx hb dX5_taxIn_76 rfl (lv_at hl 2 rfl) ?_
                refine m_get hM hE hX hR 6 (by decide) k_1069 rfl rfl dX5_taxIn_77 ?_
                refine lv_iload hx hb dX5_taxIn_80 (lv_at hl 1 rfl) ?_
                refine m_iald hM hE hX hR 6 j (by decide) rfl rfl rfl (show j < 20 by omega) dX5_taxIn_82 ?_
                refine lv_iconst (v := 1) hx hb dX5_taxIn_83 (by decide) ?_
                refine lv_icmp_ne (tgt := 111) hx hb dX5_taxIn_84 (by decide) (fun c_12 => ?_) (fun c_12 => ?_)
                · refine lv_iconst (v := 0) hx hb dX5_taxIn_111 (by decide) ?_
                  refine lv_isub hx hb dX5_taxIn_112 ?_
                  refine lv_istore_n (lv' := [(3, .int ((x + 0) - 0)), (4, .int (nI j)), (0, .ref o), (1, .int a), (2, .int b)]) hx hb dX5_taxIn_113 rfl hl (by decide) rfl (fun ls hl => ?_)
                  refine lv_iinc (v := (nI (j + 1))) (lv' := [(4, .int (nI (j + 1))), (3, .int ((x + 0) - 0)), (0, .ref o), (1, .int a), (2, .int b)]) hx hb dX5_taxIn_114 hl (k := 1) rfl (nI_1 _) (by decide) rfl (fun ls hl => ?_)
                  refine lv_goto (tgt := 5) hx hb dX5_taxIn_117 (by decide) ?_
                  exact ih (j + 1) _ (by omega) (by omega) (show ((x + 0) - 0) = l_fold (tin1 M a b) 0 (j + 1) from by rw [l_fold, ← hxj]; exact (show tin1 M a b j x = _ from ((if_pos c_2).trans ((if_pos c_6).trans ((if_pos c_10).trans ((if_pos c_11).trans ((if_neg c_12).trans rfl)))))).symm) _ _ _ hX (lv_sub hl [1, 0, 2, 3, 4] rfl)
                · refine lv_aload_n hx hb dX5_taxIn_87 rfl (lv_at hl 2 rfl) ?_
                  refine m_get hM hE hX hR 8 (by decide) k_1071 rfl rfl dX5_taxIn_88 ?_
                  refine lv_iload hx hb dX5_taxIn_91 (lv_at hl 1 rfl) ?_
                  refine m_iald hM hE hX hR 8 j (by decide) rfl rfl rfl (show j < 20 by omega) dX5_taxIn_93 ?_
                  refine lv_bipush (v := 30) hx hb dX5_taxIn_94 (by decide) ?_
                  refine lv_idiv hx hb dX5_taxIn_96 (by decide) ?_
                  refine lv_iload_n hx hb dX5_taxIn_97 rfl (lv_at hl 4 rfl) ?_
                  refine lv_icmp_ne (tgt := 111) hx hb dX5_taxIn_98 (by decide) (fun c_13 => ?_) (fun c_13 => ?_)
                  · refine lv_iconst (v := 0) hx hb dX5_taxIn_111 (by decide) ?_
                    refine lv_isub hx hb dX5_taxIn_112 ?_
                    refine lv_istore_n (lv' := [(3, .int ((x + 0) - 0)), (4, .int (nI j)), (0, .ref o), (1, .int a), (2, .int b)]) hx hb dX5_taxIn_113 rfl hl (by decide) rfl (fun ls hl => ?_)
                    refine lv_iinc (v := (nI (j + 1))) (lv' := [(4, .int (nI (j + 1))), (3, .int ((x + 0) - 0)), (0, .ref o), (1, .int a), (2, .int b)]) hx hb dX5_taxIn_114 hl (k := 1) rfl (nI_1 _) (by decide) rfl (fun ls hl => ?_)
                    refine lv_goto (tgt := 5) hx hb dX5_taxIn_117 (by decide) ?_
                    exact ih (j + 1) _ (by omega) (by omega) (show ((x + 0) - 0) = l_fold (tin1 M a b) 0 (j + 1) from by rw [l_fold, ← hxj]; exact (show tin1 M a b j x = _ from ((if_pos c_2).trans ((if_pos c_6).trans ((if_pos c_10).trans ((if_pos c_11).trans ((if_pos c_12).trans ((if_neg c_13).trans rfl))))))).symm) _ _ _ hX (lv_sub hl [1, 0, 2, 3, 4] rfl)
                  · refine lv_aload_n hx hb dX5_taxIn_101 rfl (lv_at hl 2 rfl) ?_
                    refine lv_iload hx hb dX5_taxIn_102 (lv_at hl 1 rfl) ?_
                    refine lv_iconst (v := 1) hx hb dX5_taxIn_104 (by decide) ?_
                    refine k_goi (k_V (n := 2) (As := [.int (nI j), .int 1]) (rest := [.int (x + 0)]) hM hE hX hl (c_X5_taxOfAll l γ L F o ad M hR j (nI j) 1 rfl (by omega) (hk j hj)) hR.1 hR.2.1 rfl k_1260 k_1262 kp_35 k_9 k_1263 ⟨rfl, by decide, by decide, by decide +kernel⟩ (by decide) rfl rfl (Nat.le_of_ble_eq_true rfl) dX5_taxIn_105 (by decide)) hE hX (fun r L1 F1 H locs hp hX => ?_)
                    obtain ⟨rfl, rfl, rfl⟩ := hp
                    refine lv_goto (tgt := 112) hx hb dX5_taxIn_108 (by decide) ?_
                    refine lv_isub hx hb dX5_taxIn_112 ?_
                    refine lv_istore_n (lv' := [(3, .int ((x + 0) - (taxAll M j 1))), (4, .int (nI j)), (0, .ref o), (1, .int a), (2, .int b)]) hx hb dX5_taxIn_113 rfl hl (by decide) rfl (fun ls hl => ?_)
                    refine lv_iinc (v := (nI (j + 1))) (lv' := [(4, .int (nI (j + 1))), (3, .int ((x + 0) - (taxAll M j 1))), (0, .ref o), (1, .int a), (2, .int b)]) hx hb dX5_taxIn_114 hl (k := 1) rfl (nI_1 _) (by decide) rfl (fun ls hl => ?_)
                    refine lv_goto (tgt := 5) hx hb dX5_taxIn_117 (by decide) ?_
                    exact ih (j + 1) _ (by omega) (by omega) (show ((x + 0) - (taxAll M j 1)) = l_fold (tin1 M a b) 0 (j + 1) from by rw [l_fold, ← hxj]; exact (show tin1 M a b j x = _ from ((if_pos c_2).trans ((if_pos c_6).trans ((if_pos c_10).trans ((if_pos c_11).trans ((if_pos c_12).trans ((if_pos c_13).trans rfl))))))).symm) _ _ _ hX (lv_sub hl [1, 0, 2, 3, 4] rfl)
            · refine lv_aload_n hx hb dX5_taxIn_51 rfl (lv_at hl 2 rfl) ?_
              refine lv_iload hx hb dX5_taxIn_52 (lv_at hl 1 rfl) ?_
              refine lv_iconst (v := 1) hx hb dX5_taxIn_54 (by decide) ?_
              refine k_goi (k_V (n := 2) (As := [.int (nI j), .int 1]) (rest := [.int x]) hM hE hX hl (c_X5_taxOfAll l γ L F o ad M hR j (nI j) 1 rfl (by omega) (hk j hj)) hR.1 hR.2.1 rfl k_1260 k_1262 kp_35 k_9 k_1263 ⟨rfl, by decide, by decide, by decide +kernel⟩ (by decide) rfl rfl (Nat.le_of_ble_eq_true rfl) dX5_taxIn_55 (by decide)) hE hX (fun r L1 F1 H locs hp hX => ?_)
              obtain ⟨rfl, rfl, rfl⟩ := hp
              refine lv_goto (tgt := 62) hx hb dX5_taxIn_58 (by decide) ?_
              refine lv_iadd hx hb dX5_taxIn_62 ?_
              refine lv_istore_n (lv' := [(3, .int (x + (taxAll M j 1))), (4, .int (nI j)), (0, .ref o), (1, .int a), (2, .int b)]) hx hb dX5_taxIn_63 rfl hl (by decide) rfl (fun ls hl => ?_)
              refine lv_iload_n hx hb dX5_taxIn_64 rfl (lv_at hl 0 rfl) ?_
              refine lv_aload_n hx hb dX5_taxIn_65 rfl (lv_at hl 2 rfl) ?_
              refine m_get hM hE hX hR 4 (by decide) k_1067 rfl rfl dX5_taxIn_66 ?_
              refine lv_iload hx hb dX5_taxIn_69 (lv_at hl 1 rfl) ?_
              refine m_iald hM hE hX hR 4 j (by decide) rfl rfl rfl (show j < 20 by omega) dX5_taxIn_71 ?_
              refine lv_iload_n hx hb dX5_taxIn_72 rfl (lv_at hl 3 rfl) ?_
              refine lv_icmp_ne (tgt := 111) hx hb dX5_taxIn_73 (by decide) (fun c_14 => ?_) (fun c_14 => ?_)
              · refine lv_iconst (v := 0) hx hb dX5_taxIn_111 (by decide) ?_
                refine lv_isub hx hb dX5_taxIn_112 ?_
                refine lv_istore_n (lv' := [(3, .int ((x + (taxAll M j 1)) - 0)), (4, .int (nI j)), (0, .ref o), (1, .int a), (2, .int b)]) hx hb dX5_taxIn_113 rfl hl (by decide) rfl (fun ls hl => ?_)
                refine lv_iinc (v := (nI (j + 1))) (lv' := [(4, .int (nI (j + 1))), (3, .int ((x + (taxAll M j 1)) - 0)), (0, .ref o), (1, .int a), (2, .int b)]) hx hb dX5_taxIn_114 hl (k := 1) rfl (nI_1 _) (by decide) rfl (fun ls hl => ?_)
                refine lv_goto (tgt := 5) hx hb dX5_taxIn_117 (by decide) ?_
                exact ih (j + 1) _ (by omega) (by omega) (show ((x + (taxAll M j 1)) - 0) = l_fold (tin1 M a b) 0 (j + 1) from by rw [l_fold, ← hxj]; exact (show tin1 M a b j x = _ from ((if_pos c_2).trans ((if_pos c_6).trans ((if_neg c_10).trans ((if_neg c_14).trans rfl))))).symm) _ _ _ hX (lv_sub hl [1, 0, 2, 3, 4] rfl)
              · refine lv_aload_n hx hb dX5_taxIn_76 rfl (lv_at hl 2 rfl) ?_
                refine m_get hM hE hX hR 6 (by decide) k_1069 rfl rfl dX5_taxIn_77 ?_
                refine lv_iload hx hb dX5_taxIn_80 (lv_at hl 1 rfl) ?_
                refine m_iald hM hE hX hR 6 j (by decide) rfl rfl rfl (show j < 20 by omega) dX5_taxIn_82 ?_
                refine lv_iconst (v := 1) hx hb dX5_taxIn_83 (by decide) ?_
                refine lv_icmp_ne (tgt := 111) hx hb dX5_taxIn_84 (by decide) (fun c_15 => ?_) (fun c_15 => ?_)
                · refine lv_iconst (v := 0) hx hb dX5_taxIn_111 (by decide) ?_
                  refine lv_isub hx hb dX5_taxIn_112 ?_
                  refine lv_istore_n (lv' := [(3, .int ((x + (taxAll M j 1)) - 0)), (4, .int (nI j)), (0, .ref o), (1, .int a), (2, .int b)]) hx hb dX5_taxIn_113 rfl hl (by decide) rfl (fun ls hl => ?_)
                  refine lv_iinc (v := (nI (j + 1))) (lv' := [(4, .int (nI (j + 1))), (3, .int ((x + (taxAll M j 1)) - 0)), (0, .ref o), (1, .int a), (2, .int b)]) hx hb dX5_taxIn_114 hl (k := 1) rfl (nI_1 _) (by decide) rfl (fun ls hl => ?_)
                  refine lv_goto (tgt := 5) hx hb dX5_taxIn_117 (by decide) ?_
                  exact ih (j + 1) _ (by omega) (by omega) (show ((x + (taxAll M j 1)) - 0) = l_fold (tin1 M a b) 0 (j + 1) from by rw [l_fold, ← hxj]; exact (show tin1 M a b j x = _ from ((if_pos c_2).trans ((if_pos c_6).trans ((if_neg c_10).trans ((if_pos c_14).trans ((if_neg c_15).trans rfl)))))).symm) _ _ _ hX (lv_sub hl [1, 0, 2, 3, 4] rfl)
                · refine lv_aload_n hx hb dX5_taxIn_87 rfl (lv_at hl 2 rfl) ?_
                  refine m_get hM hE hX hR 8 (by decide) k_1071 rfl rfl dX5_taxIn_88 ?_
                  refine lv_iload hx hb dX5_taxIn_91 (lv_at hl 1 rfl) ?_
                  refine m_iald hM hE hX hR 8 j (by decide) rfl rfl rfl (show j < 20 by omega) dX5_taxIn_93 ?_
                  refine lv_bipush (v := 30) hx hb dX5_taxIn_94 (by decide) ?_
                  refine lv_idiv hx hb dX5_taxIn_96 (by decide) ?_
                  refine lv_iload_n hx hb dX5_taxIn_97 rfl (lv_at hl 4 rfl) ?_
                  refine lv_icmp_ne (tgt := 111) hx hb dX5_taxIn_98 (by decide) (fun c_16 => ?_) (fun c_16 => ?_)
                  · refine lv_iconst (v := 0) hx hb dX5_taxIn_111 (by decide) ?_
                    refine lv_isub hx hb dX5_taxIn_112 ?_
                    refine lv_istore_n (lv' := [(3, .int ((x + (taxAll M j 1)) - 0)), (4, .int (nI j)), (0, .ref o), (1, .int a), (2, .int b)]) hx hb dX5_taxIn_113 rfl hl (by decide) rfl (fun ls hl => ?_)
                    refine lv_iinc (v := (nI (j + 1))) (lv' := [(4, .int (nI (j + 1))), (3, .int ((x + (taxAll M j 1)) - 0)), (0, .ref o), (1, .int a), (2, .int b)]) hx hb dX5_taxIn_114 hl (k := 1) rfl (nI_1 _) (by decide) rfl (fun ls hl => ?_)
                    refine lv_goto (tgt := 5) hx hb dX5_taxIn_117 (by decide) ?_
                    exact ih (j + 1) _ (by omega) (by omega) (show ((x + (taxAll M j 1)) - 0) = l_fold (tin1 M a b) 0 (j + 1) from by rw [l_fold, ← hxj]; exact (show tin1 M a b j x = _ from ((if_pos c_2).trans ((if_pos c_6).trans ((if_neg c_10).trans ((if_pos c_14).trans ((if_pos c_15).trans ((if_neg c_16).trans rfl))))))).symm) _ _ _ hX (lv_sub hl [1, 0, 2, 3, 4] rfl)
                  · refine lv_aload_n hx hb dX5_taxIn_101 rfl (lv_at hl 2 rfl) ?_
                    refine lv_iload hx hb dX5_taxIn_102 (lv_at hl 1 rfl) ?_
                    refine lv_iconst (v := 1) hx hb dX5_taxIn_104 (by decide) ?_
                    refine k_goi (k_V (n := 2) (As := [.int (nI j), .int 1]) (rest := [.int (x + (taxAll M j 1))]) hM hE hX hl (c_X5_taxOfAll l γ L F o ad M hR j (nI j) 1 rfl (by omega) (hk j hj)) hR.1 hR.2.1 rfl k_1260 k_1262 kp_35 k_9 k_1263 ⟨rfl, by decide, by decide, by decide +kernel⟩ (by decide) rfl rfl (Nat.le_of_ble_eq_true rfl) dX5_taxIn_105 (by decide)) hE hX (fun r L1 F1 H locs hp hX => ?_)
                    obtain ⟨rfl, rfl, rfl⟩ := hp
                    refine lv_goto (tgt := 112) hx hb dX5_taxIn_108 (by decide) ?_
                    refine lv_isub hx hb dX5_taxIn_112 ?_
                    refine lv_istore_n (lv' := [(3, .int ((x + (taxAll M j 1)) - (taxAll M j 1))), (4, .int (nI j)), (0, .ref o), (1, .int a), (2, .int b)]) hx hb dX5_taxIn_113 rfl hl (by decide) rfl (fun ls hl => ?_)
                    refine lv_iinc (v := (nI (j + 1))) (lv' := [(4, .int (nI (j + 1))), (3, .int ((x + (taxAll M j 1)) - (taxAll M j 1))), (0, .ref o), (1, .int a), (2, .int b)]) hx hb dX5_taxIn_114 hl (k := 1) rfl (nI_1 _) (by decide) rfl (fun ls hl => ?_)
                    refine lv_goto (tgt := 5) hx hb dX5_taxIn_117 (by decide) ?_
                    exact ih (j + 1) _ (by omega) (by omega) (show ((x + (taxAll M j 1)) - (taxAll M j 1)) = l_fold (tin1 M a b) 0 (j + 1) from by rw [l_fold, ← hxj]; exact (show tin1 M a b j x = _ from ((if_pos c_2).trans ((if_pos c_6).trans ((if_neg c_10).trans ((if_pos c_14).trans ((if_pos c_15).trans ((if_pos c_16).trans rfl))))))).symm) _ _ _ hX (lv_sub hl [1, 0, 2, 3, 4] rfl)
  refine lv_iconst (v := 0) hx hb dX5_taxIn_0 (by decide) ?_
  refine lv_istore_n (lv' := [(3, .int 0), (0, .ref o), (1, .int a), (2, .int b)]) hx hb dX5_taxIn_1 rfl hl (by decide) rfl (fun ls hl => ?_)
  refine lv_iconst (v := 0) hx hb dX5_taxIn_2 (by decide) ?_
  refine lv_istore (lv' := [(4, .int 0), (3, .int 0), (0, .ref o), (1, .int a), (2, .int b)]) hx hb dX5_taxIn_3 hl (by decide) rfl (fun ls hl => ?_)
  exact hloop1 (nn M + 1) 0 _ (by omega) (Nat.zero_le _) rfl _ _ _ hX (lv_sub hl [1, 0, 2, 3, 4] rfl)
def taxTo_st (M : mM) (a : Int32) (t : Nat) (j : Nat) (x : Int32) : Int32 := (if 0 ≤ x then (0 + (taxIn M a (nI j))) else (x + (taxIn M a (nI j))))
def taxTo (M : mM) (a : Int32) (t : Nat) : Int32 := l_fold (taxTo_st M a t) 0 (t + 1)
set_option maxHeartbeats 4000000 in
set_option maxRecDepth 100000 in
theorem c_X5_taxUpTo (l : Launch) (γ : kG) (L : List Nat) (F : kF) (o : Nat) (ad : Nat → Nat) (M : mM) (hR : RepM γ L F o ad M) (a b : Int32) (t : Nat) (hb2 : b = nI t) (ht : t < 1000000) (hn : okN M) (hk : ∀ i, i < nn M → okL M i) (hc : okC M) (hci : ∀ k, k < cc M → okI (M 19 k) 20) : kC l yX5_taxUpTo cX5_taxUpTo 5 (some .int) (kRm 3 0 0) γ L F [.ref o, .int a, .int b] (kI fun r L1 F1 => L = L1 ∧ F = F1 ∧ r = taxTo M a t) := by
  subst hb2
  refine kC_of (by decide +kernel) (Nat.le_of_ble_eq_true rfl) ?_
  intro p e s m args below meth c sz ls hargs hsz hM hin hE hX hl
  have hx := hM.1
  have hb := hM.2.1
  have hl : lv_has ls 5 [(0, .ref o), (1, .int a), (2, .int (nI t))] := hl
  have hloop : ∀ (n j : Nat) (x : Int32), t + 1 < j + n → j ≤ t + 1 → x = l_fold (taxTo_st M a t) 0 j → ∀ (H : Heap) (locs : List Loc) (ls : Array Slot), kX γ (kA L sz) s L F H locs → lv_has ls 5 [(3, .int x), (4, .int (nI j)), (0, .ref o), (1, .int a), (2, .int (nI t))] → W p l e (kRm 3 0 0) s m args below meth c H locs 0 0 (MQ below (kQ γ L sz (kI fun r L1 F1 => L = L1 ∧ F = F1 ∧ r = taxTo M a t)) args s (kRm 3 0 0).cells (kRm 3 0 0).slots (kA L sz)) (F0 m 5 ls []) := by
    intro n
    induction n with
    | zero => intro j x h1 h2; exact absurd h1 (by omega)
    | succ n ih =>
      intro j x h1 h2 hxj H locs ls hX hl
      refine lv_iload hx hb dX5_taxUpTo_5 (lv_at hl 1 rfl) ?_
      refine lv_iload_n hx hb dX5_taxUpTo_7 rfl (lv_at hl 4 rfl) ?_
      refine lv_icmp_gt (tgt := 35) hx hb dX5_taxUpTo_8 (by decide) (fun c_1 => ?_) (fun c_1 => ?_)
      · have ej : j = t + 1 := by
          have h9 := (nI_ltI (a := t) (b := j) (by omega) (by omega)).mp c_1
          omega
        refine lv_iload_n hx hb dX5_taxUpTo_35 rfl (lv_at hl 0 rfl) ?_
        exact k_iret hM hsz hX ⟨_, rfl, rfl, rfl, by rw [hxj, ej]; rfl⟩ (by decide) (by decide) dX5_taxUpTo_36
      · have hj : j < t + 1 := by
          rcases Nat.lt_or_ge t j with q | q
          · exact absurd (nI_lt q (by omega)) c_1
          · omega
        refine lv_iload_n hx hb dX5_taxUpTo_11 rfl (lv_at hl 0 rfl) ?_
        refine lv_if_ge (tgt := 19) hx hb dX5_taxUpTo_12 (by decide) (fun c_2 => ?_) (fun c_2 => ?_)
        · refine lv_iconst (v := 0) hx hb dX5_taxUpTo_19 (by decide) ?_
          refine lv_aload_n hx hb dX5_taxUpTo_20 rfl (lv_at hl 2 rfl) ?_
          refine lv_iload_n hx hb dX5_taxUpTo_21 rfl (lv_at hl 3 rfl) ?_
          refine lv_iload hx hb dX5_taxUpTo_22 (lv_at hl 1 rfl) ?_
          refine k_goi (k_V (n := 2) (As := [.int a, .int (nI j)]) (rest := [.int 0]) hM hE hX hl (c_X5_taxIn l γ L F o ad M hR a (nI j) hn hk hc hci) hR.1 hR.2.1 rfl k_1300 k_1302 kp_39 k_9 k_1303 ⟨rfl, by decide, by decide, by decide +kernel⟩ (by decide) rfl rfl (Nat.le_of_ble_eq_true rfl) dX5_taxUpTo_24 (by decide)) hE hX (fun r L1 F1 H locs hp hX => ?_)
          obtain ⟨rfl, rfl, rfl⟩ := hp
          refine lv_iadd hx hb dX5_taxUpTo_27 ?_
          refine lv_istore_n (lv' := [(3, .int (0 + (taxIn M a (nI j)))), (4, .int (nI j)), (0, .ref o), (1, .int a), (2, .int (nI t))]) hx hb dX5_taxUpTo_28 rfl hl (by decide) rfl (fun ls hl => ?_)
          refine lv_iinc (v := (nI (j + 1))) (lv' := [(4, .int (nI (j + 1))), (3, .int (0 + (taxIn M a (nI j)))), (0, .ref o), (1, .int a), (2, .int (nI t))]) hx hb dX5_taxUpTo_29 hl (k := 1) rfl (nI_1 _) (by decide) rfl (fun ls hl => ?_)
          refine lv_goto (tgt := 5) hx hb dX5_taxUpTo_32 (by decide) ?_
          exact ih (j + 1) _ (by omega) (by omega) (show (0 + (taxIn M a (nI j))) = l_fold (taxTo_st M a t) 0 (j + 1) from by rw [l_fold, ← hxj]; exact (show taxTo_st M a t j x = _ from ((if_pos c_2).trans rfl)).symm) _ _ _ hX (lv_sub hl [1, 0, 2, 3, 4] rfl)
        · refine lv_iload_n hx hb dX5_taxUpTo_15 rfl (lv_at hl 0 rfl) ?_
          refine lv_goto (tgt := 20) hx hb dX5_taxUpTo_16 (by decide) ?_
          refine lv_aload_n hx hb dX5_taxUpTo_20 rfl (lv_at hl 2 rfl) ?_
          refine lv_iload_n hx hb dX5_taxUpTo_21 rfl (lv_at hl 3 rfl) ?_
          refine lv_iload hx hb dX5_taxUpTo_22 (lv_at hl 1 rfl) ?_
          refine k_goi (k_V (n := 2) (As := [.int a, .int (nI j)]) (rest := [.int x]) hM hE hX hl (c_X5_taxIn l γ L F o ad M hR a (nI j) hn hk hc hci) hR.1 hR.2.1 rfl k_1300 k_1302 kp_39 k_9 k_1303 ⟨rfl, by decide, by decide, by decide +kernel⟩ (by decide) rfl rfl (Nat.le_of_ble_eq_true rfl) dX5_taxUpTo_24 (by decide)) hE hX (fun r L1 F1 H locs hp hX => ?_)
          obtain ⟨rfl, rfl, rfl⟩ := hp
          refine lv_iadd hx hb dX5_taxUpTo_27 ?_
          refine lv_istore_n (lv' := [(3, .int (x + (taxIn M a (nI j)))), (4, .int (nI j)), (0, .ref o), (1, .int a), (2, .int (nI t))]) hx hb dX5_taxUpTo_28 rfl hl (by decide) rfl (fun ls hl => ?_)
          refine lv_iinc (v := (nI (j + 1))) (lv' := [(4, .int (nI (j + 1))), (3, .int (x + (taxIn M a (nI j)))), (0, .ref o), (1, .int a), (2, .int (nI t))]) hx hb dX5_taxUpTo_29 hl (k := 1) rfl (nI_1 _) (by decide) rfl (fun ls hl => ?_)
          refine lv_goto (tgt := 5) hx hb dX5_taxUpTo_32 (by decide) ?_
          exact ih (j + 1) _ (by omega) (by omega) (show (x + (taxIn M a (nI j))) = l_fold (taxTo_st M a t) 0 (j + 1) from by rw [l_fold, ← hxj]; exact (show taxTo_st M a t j x = _ from ((if_neg c_2).trans rfl)).symm) _ _ _ hX (lv_sub hl [1, 0, 2, 3, 4] rfl)
  refine lv_iconst (v := 0) hx hb dX5_taxUpTo_0 (by decide) ?_
  refine lv_istore_n (lv' := [(3, .int 0), (0, .ref o), (1, .int a), (2, .int (nI t))]) hx hb dX5_taxUpTo_1 rfl hl (by decide) rfl (fun ls hl => ?_)
  refine lv_iconst (v := 0) hx hb dX5_taxUpTo_2 (by decide) ?_
  refine lv_istore (lv' := [(4, .int 0), (3, .int 0), (0, .ref o), (1, .int a), (2, .int (nI t))]) hx hb dX5_taxUpTo_3 hl (by decide) rfl (fun ls hl => ?_)
  exact hloop (t + 1 + 1) 0 _ (by omega) (Nat.zero_le _) rfl _ _ _ hX (lv_sub hl [1, 0, 2, 3, 4] rfl)
def chI (M1 : mM) (a : Int32) (j i : Nat) (y : Int32) : Int32 := (if (M1 5 i) = a then (if (M1 6 i) = 1 then (if (M1 4 i) = (M1 3 j) then (if (taxAll M1 i 0) ≤ y then y else (taxAll M1 i 0)) else y) else y) else y)
def chO (M1 : mM) (a : Int32) (j : Nat) (x : Int32) : Int32 := (if (M1 5 j) = a then (if (M1 6 j) = 1 then (if (taxAll M1 j 0) ≤ (l_fold (chI M1 a j) 0 j) then (x + 0) else (x + ((taxAll M1 j 0) - (l_fold (chI M1 a j) 0 j)))) else x) else x)
def chainM (M : mM) (a : Int32) : Int32 × mM := if 0 ≤ a ∧ a ≤ 7 then (l_fold (chO (mset M 24 0 0) a) 0 (nn (mset M 24 0 0)), mset M 24 0 0) else (0, mset M 24 0 1)
set_option maxHeartbeats 4000000 in
set_option maxRecDepth 100000 in
theorem c_X5_chain (l : Launch) (γ : kG) (L : List Nat) (F : kF) (o : Nat) (ad : Nat → Nat) (M : mM) (hR : RepM γ L F o ad M) (a : Int32) (hn : okN M) (hk : ∀ i, i < nn M → okL M i) : kC l yX5_chain cX5_chain 7 (some .int) (kRm 2 0 0) γ L F [.ref o, .int a] (kI fun r L1 F1 => L = L1 ∧ ∃ M1, RepM γ L1 F1 o ad M1 ∧ (r, M1) = chainM M a) := by
  refine kC_of (by decide +kernel) (Nat.le_of_ble_eq_true rfl) ?_
  intro p e s m args below meth c sz ls hargs hsz hM hin hE hX hl
  have hx := hM.1
  have hb := hM.2.1
  have hl : lv_has ls 7 [(0, .ref o), (1, .int a)] := hl
  refine lv_aload_n hx hb dX5_chain_0 rfl (lv_at hl 0 rfl) ?_
  refine lv_iload_n hx hb dX5_chain_1 rfl (lv_at hl 1 rfl) ?_
  refine lv_iconst (v := 0) hx hb dX5_chain_2 (by decide) ?_
  refine lv_bipush (v := 7) hx hb dX5_chain_3 (by decide) ?_
  refine k_goi (k_S (n := 3) (As := [.int a, .int 0, .int 7]) (rest := [.ref o]) hM hE hX hl (c_X5_isIn l γ L F a 0 7) k_1151 k_1152 k_9 k_1153 ⟨by decide, by decide, by decide +kernel⟩ (by decide) rfl rfl (Nat.le_of_ble_eq_true rfl) dX5_chain_5 (by decide)) hE hX (fun r L1 F1 H locs hp hX => ?_)
  obtain ⟨rfl, rfl, ⟨rfl, h_1⟩ | ⟨rfl, h_1⟩⟩ := hp
  · refine lv_if_eq (tgt := 15) hx hb dX5_chain_8 (by decide) (fun c_2 => absurd (show (1 : Int32) = 0 from c_2) (by decide)) (fun _ => ?_)
    refine lv_iconst (v := 0) hx hb dX5_chain_11 (by decide) ?_
    refine lv_goto (tgt := 16) hx hb dX5_chain_12 (by decide) ?_
    refine m_put hM hE hX hR 24 (by decide) rfl rfl k_1087 rfl rfl rfl rfl dX5_chain_16 (fun F H locs hX hR => ?_)
    refine lv_iconst (v := 0) hx hb dX5_chain_19 (by decide) ?_
    refine lv_istore_n (lv' := [(2, .int 0), (0, .ref o), (1, .int a)]) hx hb dX5_chain_20 rfl hl (by decide) rfl (fun ls hl => ?_)
    refine lv_iconst (v := 0) hx hb dX5_chain_21 (by decide) ?_
    refine lv_istore_n (lv' := [(3, .int 0), (2, .int 0), (0, .ref o), (1, .int a)]) hx hb dX5_chain_22 rfl hl (by decide) rfl (fun ls hl => ?_)
    have hn : okN (mset M 24 0 0) := hn
    have hk : ∀ i, i < nn (mset M 24 0 0) → okL (mset M 24 0 0) i := hk
    have ech : chainM M a = (l_fold (chO (mset M 24 0 0) a) 0 (nn (mset M 24 0 0)), mset M 24 0 0) := if_pos h_1
    have h24 : (mset M 24 0 0) 24 0 = 0 := rfl
    generalize mset M 24 0 0 = M1 at hR hn hk ech h24
    have hn2 := hn.2
    have hloop : ∀ (n j : Nat) (x : Int32), nn M1 < j + n → j ≤ nn M1 → x = l_fold (chO M1 a) 0 j → ∀ (H : Heap) (locs : List Loc) (ls : Array Slot), kX γ (kA L sz) s L F H locs → lv_has ls 7 [(2, .int x), (3, .int (nI j)), (0, .ref o), (1, .int a)] → W p l e (kRm 2 0 0) s m args below meth c H locs 0 0 (MQ below (kQ γ L sz (kI fun r L1 F1 => L = L1 ∧ ∃ M1, RepM γ L1 F1 o ad M1 ∧ (r, M1) = chainM M a)) args s (kRm 2 0 0).cells (kRm 2 0 0).slots (kA L sz)) (F0 m 23 ls []) := by
      intro n
      induction n with
      | zero => intro j x h1 h2; exact absurd h1 (by omega)
      | succ n ih =>
        intro j x h1 h2 hxj H locs ls hX hl
        refine lv_iload_n hx hb dX5_chain_23 rfl (lv_at hl 1 rfl) ?_
        refine lv_aload_n hx hb dX5_chain_24 rfl (lv_at hl 2 rfl) ?_
        refine m_get hM hE hX hR 2 (by decide) k_1065 rfl rfl dX5_chain_25 ?_
        refine lv_icmp_ge (tgt := 185) hx hb dX5_chain_28 (by decide) (fun c_1 => ?_) (fun c_1 => ?_)
        · have ej : j = nn M1 := by
            have h9 := lp_out (a := j) (b := nn M1) (by omega) (by omega) (by rw [← hn.1]; exact c_1)
            omega
          refine lv_iload_n hx hb dX5_chain_185 rfl (lv_at hl 0 rfl) ?_
          exact k_iret hM hsz hX ⟨_, rfl, rfl, _, hR, by rw [hxj, ej, ech]⟩ (by decide) (by decide) dX5_chain_186
        · have hj : j < nn M1 := by
            have h9 := lp_in (a := j) (b := nn M1) (by omega) (by omega) (by rw [← hn.1]; exact c_1)
            omega
          refine lv_aload_n hx hb dX5_chain_31 rfl (lv_at hl 2 rfl) ?_
          refine m_get hM hE hX hR 24 (by decide) k_1087 rfl rfl dX5_chain_32 ?_
          refine lv_if_ne (tgt := 185) hx hb dX5_chain_35 (by decide) (fun c_2 => absurd c_2 (not_not_intro h24)) (fun _ => ?_)
          refine lv_aload_n hx hb dX5_chain_38 rfl (lv_at hl 2 rfl) ?_
          refine m_get hM hE hX hR 5 (by decide) k_1068 rfl rfl dX5_chain_39 ?_
          refine lv_iload_n hx hb dX5_chain_42 rfl (lv_at hl 1 rfl) ?_
          refine m_iald hM hE hX hR 5 j (by decide) rfl rfl rfl (show j < 20 by omega) dX5_chain_43 ?_
          refine lv_iload_n hx hb dX5_chain_44 rfl (lv_at hl 3 rfl) ?_
          refine lv_icmp_ne (tgt := 179) hx hb dX5_chain_45 (by decide) (fun c_3 => ?_) (fun c_3 => ?_)
          · refine lv_iinc (v := (nI (j + 1))) (lv' := [(3, .int (nI (j + 1))), (2, .int x), (0, .ref o), (1, .int a)]) hx hb dX5_chain_179 hl (k := 1) rfl (nI_1 _) (by decide) rfl (fun ls hl => ?_)
            refine lv_goto (tgt := 23) hx hb dX5_chain_182 (by decide) ?_
            exact ih (j + 1) _ (by omega) (by omega) (show x = l_fold (chO M1 a) 0 (j + 1) from by rw [l_fold, ← hxj]; exact (show chO M1 a j x = _ from ((if_neg c_3).trans rfl)).symm) _ _ _ hX (lv_sub hl [1, 0, 2, 3] rfl)
          · refine lv_aload_n hx hb dX5_chain_48 rfl (lv_at hl 2 rfl) ?_
            refine m_get hM hE hX hR 6 (by decide) k_1069 rfl rfl dX5_chain_49 ?_
            refine lv_iload_n hx hb dX5_chain_52 rfl (lv_at hl 1 rfl) ?_
            refine m_iald hM hE hX hR 6 j (by decide) rfl rfl rfl (show j < 20 by omega) dX5_chain_53 ?_
            refine lv_iconst (v := 1) hx hb dX5_chain_54 (by decide) ?_
            refine lv_icmp_ne (tgt := 179) hx hb dX5_chain_55 (by decide) (fun c_4 => ?_) (fun c_4 => ?_)
            · refine lv_iinc (v := (nI (j + 1))) (lv' := [(3, .int (nI (j + 1))), (2, .int x), (0, .ref o), (1, .int a)]) hx hb dX5_chain_179 hl (k := 1) rfl (nI_1 _) (by decide) rfl (fun ls hl => ?_)
              refine lv_goto (tgt := 23) hx hb dX5_chain_182 (by decide) ?_
              exact ih (j + 1) _ (by omega) (by omega) (show x = l_fold (chO M1 a) 0 (j + 1) from by rw [l_fold, ← hxj]; exact (show chO M1 a j x = _ from ((if_pos c_3).trans ((if_neg c_4).trans rfl))).symm) _ _ _ hX (lv_sub hl [1, 0, 2, 3] rfl)
            · refine lv_iconst (v := 0) hx hb dX5_chain_58 (by decide) ?_
              refine lv_istore (lv' := [(4, .int 0), (2, .int x), (3, .int (nI j)), (0, .ref o), (1, .int a)]) hx hb dX5_chain_59 hl (by decide) rfl (fun ls hl => ?_)
              refine lv_iconst (v := 0) hx hb dX5_chain_61 (by decide) ?_
              refine lv_istore (lv' := [(5, .int 0), (4, .int 0), (2, .int x), (3, .int (nI j)), (0, .ref o), (1, .int a)]) hx hb dX5_chain_62 hl (by decide) rfl (fun ls hl => ?_)
              have hin : ∀ (n2 i : Nat) (y : Int32), j < i + n2 → i ≤ j → y = l_fold (chI M1 a j) 0 i → ∀ (H : Heap) (locs : List Loc) (ls : Array Slot), kX γ (kA L sz) s L F H locs → lv_has ls 7 [(4, .int y), (5, .int (nI i)), (0, .ref o), (1, .int a), (2, .int x), (3, .int (nI j))] → W p l e (kRm 2 0 0) s m args below meth c H locs 0 0 (MQ below (kQ γ L sz (kI fun r L1 F1 => L = L1 ∧ ∃ M1, RepM γ L1 F1 o ad M1 ∧ (r, M1) = chainM M a)) args s (kRm 2 0 0).cells (kRm 2 0 0).slots (kA L sz)) (F0 m 64 ls []) := by
                intro n2
                induction n2 with
                | zero => intro i y h3 h4; exact absurd h3 (by omega)
                | succ n2 ihi =>
                  intro i y h3 h4 hyi H locs ls hX hl
                  refine lv_iload hx hb dX5_chain_64 (lv_at hl 1 rfl) ?_
                  refine lv_iload_n hx hb dX5_chain_66 rfl (lv_at hl 5 rfl) ?_
                  refine lv_icmp_ge (tgt := 152) hx hb dX5_chain_67 (by decide) (fun c_55 => ?_) (fun c_55 => ?_)
                  · have eij : i = j := by
                      have h9 := lp_out (a := i) (b := j) (by omega) (by omega) c_55
                      omega
                    rw [eij] at hyi
                    subst hyi
                    refine lv_iload_n hx hb dX5_chain_152 rfl (lv_at hl 4 rfl) ?_
                    refine lv_aload_n hx hb dX5_chain_153 rfl (lv_at hl 2 rfl) ?_
                    refine lv_iload_n hx hb dX5_chain_154 rfl (lv_at hl 5 rfl) ?_
                    refine lv_iconst (v := 0) hx hb dX5_chain_155 (by decide) ?_
                    refine k_goi (k_V (n := 2) (As := [.int (nI j), .int 0]) (rest := [.int x]) hM hE hX hl (c_X5_taxOfAll l γ L F o ad M1 hR j (nI j) 0 rfl (by omega) (hk j hj)) hR.1 hR.2.1 rfl k_1260 k_1262 kp_35 k_9 k_1263 ⟨rfl, by decide, by decide, by decide +kernel⟩ (by decide) rfl rfl (Nat.le_of_ble_eq_true rfl) dX5_chain_156 (by decide)) hE hX (fun r L1 F1 H locs hp hX => ?_)
                    obtain ⟨rfl, rfl, rfl⟩ := hp
                    refine lv_iload hx hb dX5_chain_159 (lv_at hl 0 rfl) ?_
                    refine lv_icmp_le (tgt := 176) hx hb dX5_chain_161 (by decide) (fun c_56 => ?_) (fun c_56 => ?_)
                    · refine lv_iconst (v := 0) hx hb dX5_chain_176 (by decide) ?_
                      refine lv_iadd hx hb dX5_chain_177 ?_
                      refine lv_istore_n (lv' := [(2, .int (x + 0)), (4, .int (l_fold (chI M1 a j) 0 j)), (5, .int (nI i)), (0, .ref o), (1, .int a), (3, .int (nI j))]) hx hb dX5_chain_178 rfl hl (by decide) rfl (fun ls hl => ?_)
                      refine lv_iinc (v := (nI (j + 1))) (lv' := [(3, .int (nI (j + 1))), (2, .int (x + 0)), (4, .int (l_fold (chI M1 a j) 0 j)), (5, .int (nI i)), (0, .ref o), (1, .int a)]) hx hb dX5_chain_179 hl (k := 5) rfl (nI_1 _) (by decide) rfl (fun ls hl => ?_)
                      refine lv_goto (tgt := 23) hx hb dX5_chain_182 (by decide) ?_
                      exact ih (j + 1) _ (by omega) (by omega) (show (x + 0) = l_fold (chO M1 a) 0 (j + 1) from by rw [l_fold, ← hxj]; exact (show chO M1 a j x = _ from ((if_pos c_3).trans ((if_pos c_4).trans ((if_pos c_56).trans rfl)))).symm) _ _ _ hX (lv_sub hl [1, 0, 4, 5] rfl)
                    · refine lv_aload_n hx hb dX5_chain_164 rfl (lv_at hl 2 rfl) ?_
                      refine lv_iload_n hx hb dX5_chain_165 rfl (lv_at hl 5 rfl) ?_
                      refine lv_iconst (v := 0) hx hb dX5_chain_166 (by decide) ?_
                      refine k_goi (k_V (n := 2) (As := [.int (nI j), .int 0]) (rest := [.int x]) hM hE hX hl (c_X5_taxOfAll l γ L F o ad M1 hR j (nI j) 0 rfl (by omega) (hk j hj)) hR.1 hR.2.1 rfl k_1260 k_1262 kp_35 k_9 k_1263 ⟨rfl, by decide, by decide, by decide +kernel⟩ (by decide) rfl rfl (Nat.le_of_ble_eq_true rfl) dX5_chain_167 (by decide)) hE hX (fun r L1 F1 H locs hp hX => ?_)
                      obtain ⟨rfl, rfl, rfl⟩ := hp
                      refine lv_iload hx hb dX5_chain_170 (lv_at hl 0 rfl) ?_
                      refine lv_isub hx hb dX5_chain_172 ?_
                      refine lv_goto (tgt := 177) hx hb dX5_chain_173 (by decide) ?_
                      refine lv_iadd hx hb dX5_chain_177 ?_
                      refine lv_istore_n (lv' := [(2, .int (x + ((taxAll M1 j 0) - (l_fold (chI M1 a j) 0 j)))), (4, .int (l_fold (chI M1 a j) 0 j)), (5, .int (nI i)), (0, .ref o), (1, .int a), (3, .int (nI j))]) hx hb dX5_chain_178 rfl hl (by decide) rfl (fun ls hl => ?_)
                      refine lv_iinc (v := (nI (j + 1))) (lv' := [(3, .int (nI (j + 1))), (2, .int (x + ((taxAll M1 j 0) - (l_fold (chI M1 a j) 0 j)))), (4, .int (l_fold (chI M1 a j) 0 j)), (5, .int (nI i)), (0, .ref o), (1, .int a)]) hx hb dX5_chain_179 hl (k := 5) rfl (nI_1 _) (by decide) rfl (fun ls hl => ?_)
                      refine lv_goto (tgt := 23) hx hb dX5_chain_182 (by decide) ?_
                      exact ih (j + 1) _ (by omega) (by omega) (show (x + ((taxAll M1 j 0) - (l_fold (chI M1 a j) 0 j))) = l_fold (chO M1 a) 0 (j + 1) from by rw [l_fold, ← hxj]; exact (show chO M1 a j x = _ from ((if_pos c_3).trans ((if_pos c_4).trans ((if_neg c_56).trans rfl)))).symm) _ _ _ hX (lv_sub hl [1, 0, 4, 5] rfl)
                  · have hij : i < j := lp_in (a := i) (b := j) (by omega) (by omega) c_55
                    refine lv_aload_n hx hb dX5_chain_70 rfl (lv_at hl 2 rfl) ?_
                    refine m_get hM hE hX hR 5 (by decide) k_1068 rfl rfl dX5_chain_71 ?_
                    refine lv_iload hx hb dX5_chain_74 (lv_at hl 1 rfl) ?_
                    refine m_iald hM hE hX hR 5 i (by decide) rfl rfl rfl (show i < 20 by omega) dX5_chain_76 ?_
                    refine lv_iload_n hx hb dX5_chain_77 rfl (lv_at hl 3 rfl) ?_
                    refine lv_icmp_ne (tgt := 112) hx hb dX5_chain_78 (by decide) (fun c_57 => ?_) (fun c_57 => ?_)
                    · refine lv_iconst (v := 0) hx hb dX5_chain_112 (by decide) ?_
                      refine lv_istore (lv' := [(6, .int 0), (4, .int y), (5, .int (nI i)), (0, .ref o), (1, .int a), (2, .int x), (3, .int (nI j))]) hx hb dX5_chain_113 hl (by decide) rfl (fun ls hl => ?_)
                      refine lv_iload hx hb dX5_chain_115 (lv_at hl 0 rfl) ?_
                      refine lv_if_eq (tgt := 142) hx hb dX5_chain_117 (by decide) (fun _ => ?_) (fun c_58 => absurd (show ¬ (0 : Int32) = 0 from c_58) (by decide))
                      refine lv_iload hx hb dX5_chain_142 (lv_at hl 1 rfl) ?_
                      refine lv_istore (lv' := [(4, .int y), (6, .int 0), (5, .int (nI i)), (0, .ref o), (1, .int a), (2, .int x), (3, .int (nI j))]) hx hb dX5_chain_144 hl (by decide) rfl (fun ls hl => ?_)
                      refine lv_iinc (v := (nI (i + 1))) (lv' := [(5, .int (nI (i + 1))), (4, .int y), (6, .int 0), (0, .ref o), (1, .int a), (2, .int x), (3, .int (nI j))]) hx hb dX5_chain_146 hl (k := 2) rfl (nI_1 _) (by decide) rfl (fun ls hl => ?_)
                      refine lv_goto (tgt := 64) hx hb dX5_chain_149 (by decide) ?_
                      exact ihi (i + 1) _ (by omega) (by omega) (show y = l_fold (chI M1 a j) 0 (i + 1) from by rw [l_fold, ← hyi]; exact (show chI M1 a j i y = _ from ((if_neg c_57).trans rfl)).symm) _ _ _ hX (lv_sub hl [1, 0, 3, 4, 5, 6] rfl)
                    · refine lv_aload_n hx hb dX5_chain_81 rfl (lv_at hl 2 rfl) ?_
                      refine m_get hM hE hX hR 6 (by decide) k_1069 rfl rfl dX5_chain_82 ?_
                      refine lv_iload hx hb dX5_chain_85 (lv_at hl 1 rfl) ?_
                      refine m_iald hM hE hX hR 6 i (by decide) rfl rfl rfl (show i < 20 by omega) dX5_chain_87 ?_
                      refine lv_iconst (v := 1) hx hb dX5_chain_88 (by decide) ?_
                      refine lv_icmp_ne (tgt := 112) hx hb dX5_chain_89 (by decide) (fun c_59 => ?_) (fun c_59 => ?_)
                      · refine lv_iconst (v := 0) hx hb dX5_chain_112 (by decide) ?_
                        refine lv_istore (lv' := [(6, .int 0), (4, .int y), (5, .int (nI i)), (0, .ref o), (1, .int a), (2, .int x), (3, .int (nI j))]) hx hb dX5_chain_113 hl (by decide) rfl (fun ls hl => ?_)
                        refine lv_iload hx hb dX5_chain_115 (lv_at hl 0 rfl) ?_
                        refine lv_if_eq (tgt := 142) hx hb dX5_chain_117 (by decide) (fun _ => ?_) (fun c_60 => absurd (show ¬ (0 : Int32) = 0 from c_60) (by decide))
                        refine lv_iload hx hb dX5_chain_142 (lv_at hl 1 rfl) ?_
                        refine lv_istore (lv' := [(4, .int y), (6, .int 0), (5, .int (nI i)), (0, .ref o), (1, .int a), (2, .int x), (3, .int (nI j))]) hx hb dX5_chain_144 hl (by decide) rfl (fun ls hl => ?_)
                        refine lv_iinc (v := (nI (i + 1))) (lv' := [(5, .int (nI (i + 1))), (4, .int y), (6, .int 0), (0, .ref o), (1, .int a), (2, .int x), (3, .int (nI j))]) hx hb dX5_chain_146 hl (k := 2) rfl (nI_1 _) (by decide) rfl (fun ls hl => ?_)
                        refine lv_goto (tgt := 64) hx hb dX5_chain_149 (by decide) ?_
                        exact ihi (i + 1) _ (by omega) (by omega) (show y = l_fold (chI M1 a j) 0 (i + 1) from by rw [l_fold, ← hyi]; exact (show chI M1 a j i y = _ from ((if_pos c_57).trans ((if_neg c_59).trans rfl))).symm) _ _ _ hX (lv_sub hl [1, 0, 3, 4, 5, 6] rfl)
                      · refine lv_aload_n hx hb dX5_chain_92 rfl (lv_at hl 2 rfl) ?_
                        refine m_get hM hE hX hR 4 (by decide) k_1067 rfl rfl dX5_chain_93 ?_
                        refine lv_iload hx hb dX5_chain_96 (lv_at hl 1 rfl) ?_
                        refine m_iald hM hE hX hR 4 i (by decide) rfl rfl rfl (show i < 20 by omega) dX5_chain_98 ?_
                        refine lv_aload_n hx hb dX5_chain_99 rfl (lv_at hl 2 rfl) ?_
                        refine m_get hM hE hX hR 3 (by decide) k_1066 rfl rfl dX5_chain_100 ?_
                        refine lv_iload_n hx hb dX5_chain_103 rfl (lv_at hl 5 rfl) ?_
                        refine m_iald hM hE hX hR 3 j (by decide) rfl rfl rfl (show j < 20 by omega) dX5_chain_104 ?_
                        refine lv_icmp_ne (tgt := 112) hx hb dX5_chain_105 (by decide) (fun c_61 => ?_) (fun c_61 => ?_)
                        · refine lv_iconst (v := 0) hx hb dX5_chain_112 (by decide) ?_
                          refine lv_istore (lv' := [(6, .int 0), (4, .int y), (5, .int (nI i)), (0, .ref o), (1, .int a), (2, .int x), (3, .int (nI j))]) hx hb dX5_chain_113 hl (by decide) rfl (fun ls hl => ?_)
                          refine lv_iload hx hb dX5_chain_115 (lv_at hl 0 rfl) ?_
                          refine lv_if_eq (tgt := 142) hx hb dX5_chain_117 (by decide) (fun _ => ?_) (fun c_62 => absurd (show ¬ (0 : Int32) = 0 from c_62) (by decide))
                          refine lv_iload hx hb dX5_chain_142 (lv_at hl 1 rfl) ?_
                          refine lv_istore (lv' := [(4, .int y), (6, .int 0), (5, .int (nI i)), (0, .ref o), (1, .int a), (2, .int x), (3, .int (nI j))]) hx hb dX5_chain_144 hl (by decide) rfl (fun ls hl => ?_)
                          refine lv_iinc (v := (nI (i + 1))) (lv' := [(5, .int (nI (i + 1))), (4, .int y), (6, .int 0), (0, .ref o), (1, .int a), (2, .int x), (3, .int (nI j))]) hx hb dX5_chain_146 hl (k := 2) rfl (nI_1 _) (by decide) rfl (fun ls hl => ?_)
                          refine lv_goto (tgt := 64) hx hb dX5_chain_149 (by decide) ?_
                          exact ihi (i + 1) _ (by omega) (by omega) (show y = l_fold (chI M1 a j) 0 (i + 1) from by rw [l_fold, ← hyi]; exact (show chI M1 a j i y = _ from ((if_pos c_57).trans ((if_pos c_59).trans ((if_neg c_61).trans rfl)))).symm) _ _ _ hX (lv_sub hl [1, 0, 3, 4, 5, 6] rfl)
                        · refine lv_iconst (v := 1) hx hb dX5_chain_108 (by decide) ?_
                          refine lv_goto (tgt := 113) hx hb dX5_chain_109 (by decide) ?_
                          refine lv_istore (lv' := [(6, .int 1), (4, .int y), (5, .int (nI i)), (0, .ref o), (1, .int a), (2, .int x), (3, .int (nI j))]) hx hb dX5_chain_113 hl (by decide) rfl (fun ls hl => ?_)
                          refine lv_iload hx hb dX5_chain_115 (lv_at hl 0 rfl) ?_
                          refine lv_if_eq (tgt := 142) hx hb dX5_chain_117 (by decide) (fun c_63 => absurd (show (1 : Int32) = 0 from c_63) (by decide)) (fun _ => ?_)
                          refine lv_aload_n hx hb dX5_chain_120 rfl (lv_at hl 3 rfl) ?_
                          refine lv_iload hx hb dX5_chain_121 (lv_at hl 2 rfl) ?_
                          refine lv_iconst (v := 0) hx hb dX5_chain_123 (by decide) ?_
                          refine k_goi (k_V (n := 2) (As := [.int (nI i), .int 0]) (rest := []) hM hE hX hl (c_X5_taxOfAll l γ L F o ad M1 hR i (nI i) 0 rfl (by omega) (hk i (by omega))) hR.1 hR.2.1 rfl k_1260 k_1262 kp_35 k_9 k_1263 ⟨rfl, by decide, by decide, by decide +kernel⟩ (by decide) rfl rfl (Nat.le_of_ble_eq_true rfl) dX5_chain_124 (by decide)) hE hX (fun r L1 F1 H locs hp hX => ?_)
                          obtain ⟨rfl, rfl, rfl⟩ := hp
                          refine lv_iload hx hb dX5_chain_127 (lv_at hl 1 rfl) ?_
                          refine lv_icmp_le (tgt := 142) hx hb dX5_chain_129 (by decide) (fun c_64 => ?_) (fun c_64 => ?_)
                          · refine lv_iload hx hb dX5_chain_142 (lv_at hl 1 rfl) ?_
                            refine lv_istore (lv' := [(4, .int y), (6, .int 1), (5, .int (nI i)), (0, .ref o), (1, .int a), (2, .int x), (3, .int (nI j))]) hx hb dX5_chain_144 hl (by decide) rfl (fun ls hl => ?_)
                            refine lv_iinc (v := (nI (i + 1))) (lv' := [(5, .int (nI (i + 1))), (4, .int y), (6, .int 1), (0, .ref o), (1, .int a), (2, .int x), (3, .int (nI j))]) hx hb dX5_chain_146 hl (k := 2) rfl (nI_1 _) (by decide) rfl (fun ls hl => ?_)
                            refine lv_goto (tgt := 64) hx hb dX5_chain_149 (by decide) ?_
                            exact ihi (i + 1) _ (by omega) (by omega) (show y = l_fold (chI M1 a j) 0 (i + 1) from by rw [l_fold, ← hyi]; exact (show chI M1 a j i y = _ from ((if_pos c_57).trans ((if_pos c_59).trans ((if_pos c_61).trans ((if_pos c_64).trans rfl))))).symm) _ _ _ hX (lv_sub hl [1, 0, 3, 4, 5, 6] rfl)
                          · refine lv_aload_n hx hb dX5_chain_132 rfl (lv_at hl 3 rfl) ?_
                            refine lv_iload hx hb dX5_chain_133 (lv_at hl 2 rfl) ?_
                            refine lv_iconst (v := 0) hx hb dX5_chain_135 (by decide) ?_
                            refine k_goi (k_V (n := 2) (As := [.int (nI i), .int 0]) (rest := []) hM hE hX hl (c_X5_taxOfAll l γ L F o ad M1 hR i (nI i) 0 rfl (by omega) (hk i (by omega))) hR.1 hR.2.1 rfl k_1260 k_1262 kp_35 k_9 k_1263 ⟨rfl, by decide, by decide, by decide +kernel⟩ (by decide) rfl rfl (Nat.le_of_ble_eq_true rfl) dX5_chain_136 (by decide)) hE hX (fun r L1 F1 H locs hp hX => ?_)
                            obtain ⟨rfl, rfl, rfl⟩ := hp
                            refine lv_goto (tgt := 144) hx hb dX5_chain_139 (by decide) ?_
                            refine lv_istore (lv' := [(4, .int (taxAll M1 i 0)), (6, .int 1), (5, .int (nI i)), (0, .ref o), (1, .int a), (2, .int x), (3, .int (nI j))]) hx hb dX5_chain_144 hl (by decide) rfl (fun ls hl => ?_)
                            refine lv_iinc (v := (nI (i + 1))) (lv' := [(5, .int (nI (i + 1))), (4, .int (taxAll M1 i 0)), (6, .int 1), (0, .ref o), (1, .int a), (2, .int x), (3, .int (nI j))]) hx hb dX5_chain_146 hl (k := 2) rfl (nI_1 _) (by decide) rfl (fun ls hl => ?_)
                            refine lv_goto (tgt := 64) hx hb dX5_chain_149 (by decide) ?_
                            exact ihi (i + 1) _ (by omega) (by omega) (show (taxAll M1 i 0) = l_fold (chI M1 a j) 0 (i + 1) from by rw [l_fold, ← hyi]; exact (show chI M1 a j i y = _ from ((if_pos c_57).trans ((if_pos c_59).trans ((if_pos c_61).trans ((if_neg c_64).trans rfl))))).symm) _ _ _ hX (lv_sub hl [1, 0, 3, 4, 5, 6] rfl)
              exact hin (j + 1) 0 _ (by omega) (Nat.zero_le _) rfl _ _ _ hX (lv_sub hl [1, 0, 4, 5, 2, 3] rfl)
    exact hloop (nn M1 + 1) 0 _ (by omega) (Nat.zero_le _) rfl _ _ _ hX (lv_sub hl [1, 0, 2, 3] rfl)
  · refine lv_if_eq (tgt := 15) hx hb dX5_chain_8 (by decide) (fun _ => ?_) (fun c_3 => absurd (show ¬ (0 : Int32) = 0 from c_3) (by decide))
    refine lv_iconst (v := 1) hx hb dX5_chain_15 (by decide) ?_
    refine m_put hM hE hX hR 24 (by decide) rfl rfl k_1087 rfl rfl rfl rfl dX5_chain_16 (fun F H locs hX hR => ?_)
    refine lv_iconst (v := 0) hx hb dX5_chain_19 (by decide) ?_
    refine lv_istore_n (lv' := [(2, .int 0), (0, .ref o), (1, .int a)]) hx hb dX5_chain_20 rfl hl (by decide) rfl (fun ls hl => ?_)
    refine lv_iconst (v := 0) hx hb dX5_chain_21 (by decide) ?_
    refine lv_istore_n (lv' := [(3, .int 0), (2, .int 0), (0, .ref o), (1, .int a)]) hx hb dX5_chain_22 rfl hl (by decide) rfl (fun ls hl => ?_)
    refine lv_iload_n hx hb dX5_chain_23 rfl (lv_at hl 0 rfl) ?_
    refine lv_aload_n hx hb dX5_chain_24 rfl (lv_at hl 2 rfl) ?_
    refine m_get hM hE hX hR 2 (by decide) k_1065 rfl rfl dX5_chain_25 ?_
    refine lv_icmp_ge (tgt := 185) hx hb dX5_chain_28 (by decide) (fun c_104 => ?_) (fun c_104 => ?_)
    · refine lv_iload_n hx hb dX5_chain_185 rfl (lv_at hl 1 rfl) ?_
      exact k_iret hM hsz hX ⟨_, rfl, rfl, _, hR, (show chainM M a = _ from if_neg h_1).symm⟩ (by decide) (by decide) dX5_chain_186
    · refine lv_aload_n hx hb dX5_chain_31 rfl (lv_at hl 2 rfl) ?_
      refine m_get hM hE hX hR 24 (by decide) k_1087 rfl rfl dX5_chain_32 ?_
      refine lv_if_ne (tgt := 185) hx hb dX5_chain_35 (by decide) (fun _ => ?_) (fun c_105 => absurd (show (1 : Int32) = 0 from c_105) (by decide))
      refine lv_iload_n hx hb dX5_chain_185 rfl (lv_at hl 1 rfl) ?_
      exact k_iret hM hsz hX ⟨_, rfl, rfl, _, hR, (show chainM M a = _ from if_neg h_1).symm⟩ (by decide) (by decide) dX5_chain_186
end
