theorem dX5_init_0 : decode cX5_init 0 = .ok (.aload_n 0, 1) := by decide +kernel
theorem dX5_init_1 : decode cX5_init 1 = .ok (.invokespecial 1, 3) := by decide +kernel
theorem dX5_init_4 : decode cX5_init 4 = .ok (.aload_n 0, 1) := by decide +kernel
theorem dX5_init_5 : decode cX5_init 5 = .ok (.bipush 6, 2) := by decide +kernel
theorem dX5_init_7 : decode cX5_init 7 = .ok (.newarray .int, 2) := by decide +kernel
theorem dX5_init_9 : decode cX5_init 9 = .ok (.putfield 7, 3) := by decide +kernel
theorem dX5_init_12 : decode cX5_init 12 = .ok (.aload_n 0, 1) := by decide +kernel
theorem dX5_init_13 : decode cX5_init 13 = .ok (.bipush 20, 2) := by decide +kernel
theorem dX5_init_15 : decode cX5_init 15 = .ok (.newarray .int, 2) := by decide +kernel
theorem dX5_init_17 : decode cX5_init 17 = .ok (.putfield 13, 3) := by decide +kernel
theorem dX5_init_20 : decode cX5_init 20 = .ok (.aload_n 0, 1) := by decide +kernel
theorem dX5_init_21 : decode cX5_init 21 = .ok (.bipush 20, 2) := by decide +kernel
theorem dX5_init_23 : decode cX5_init 23 = .ok (.newarray .int, 2) := by decide +kernel
theorem dX5_init_25 : decode cX5_init 25 = .ok (.putfield 16, 3) := by decide +kernel
theorem dX5_init_28 : decode cX5_init 28 = .ok (.aload_n 0, 1) := by decide +kernel
theorem dX5_init_29 : decode cX5_init 29 = .ok (.bipush 20, 2) := by decide +kernel
theorem dX5_init_31 : decode cX5_init 31 = .ok (.newarray .int, 2) := by decide +kernel
theorem dX5_init_33 : decode cX5_init 33 = .ok (.putfield 19, 3) := by decide +kernel
theorem dX5_init_36 : decode cX5_init 36 = .ok (.aload_n 0, 1) := by decide +kernel
theorem dX5_init_37 : decode cX5_init 37 = .ok (.bipush 20, 2) := by decide +kernel
theorem dX5_init_39 : decode cX5_init 39 = .ok (.newarray .int, 2) := by decide +kernel
theorem dX5_init_41 : decode cX5_init 41 = .ok (.putfield 22, 3) := by decide +kernel
theorem dX5_init_44 : decode cX5_init 44 = .ok (.aload_n 0, 1) := by decide +kernel
theorem dX5_init_45 : decode cX5_init 45 = .ok (.bipush 20, 2) := by decide +kernel
theorem dX5_init_47 : decode cX5_init 47 = .ok (.newarray .int, 2) := by decide +kernel
theorem dX5_init_49 : decode cX5_init 49 = .ok (.putfield 25, 3) := by decide +kernel
theorem dX5_init_52 : decode cX5_init 52 = .ok (.aload_n 0, 1) := by decide +kernel
theorem dX5_init_53 : decode cX5_init 53 = .ok (.bipush 20, 2) := by decide +kernel
theorem dX5_init_55 : decode cX5_init 55 = .ok (.newarray .int, 2) := by decide +kernel
theorem dX5_init_57 : decode cX5_init 57 = .ok (.putfield 28, 3) := by decide +kernel
theorem dX5_init_60 : decode cX5_init 60 = .ok (.aload_n 0, 1) := by decide +kernel
theorem dX5_init_61 : decode cX5_init 61 = .ok (.bipush 20, 2) := by decide +kernel
theorem dX5_init_63 : decode cX5_init 63 = .ok (.newarray .int, 2) := by decide +kernel
theorem dX5_init_65 : decode cX5_init 65 = .ok (.putfield 31, 3) := by decide +kernel
theorem dX5_init_68 : decode cX5_init 68 = .ok (.aload_n 0, 1) := by decide +kernel
theorem dX5_init_69 : decode cX5_init 69 = .ok (.bipush 20, 2) := by decide +kernel
theorem dX5_init_71 : decode cX5_init 71 = .ok (.newarray .int, 2) := by decide +kernel
theorem dX5_init_73 : decode cX5_init 73 = .ok (.putfield 34, 3) := by decide +kernel
theorem dX5_init_76 : decode cX5_init 76 = .ok (.aload_n 0, 1) := by decide +kernel
theorem dX5_init_77 : decode cX5_init 77 = .ok (.bipush 20, 2) := by decide +kernel
theorem dX5_init_79 : decode cX5_init 79 = .ok (.newarray .boolean, 2) := by decide +kernel
theorem dX5_init_81 : decode cX5_init 81 = .ok (.putfield 37, 3) := by decide +kernel
theorem dX5_init_84 : decode cX5_init 84 = .ok (.aload_n 0, 1) := by decide +kernel
theorem dX5_init_85 : decode cX5_init 85 = .ok (.bipush 20, 2) := by decide +kernel
theorem dX5_init_87 : decode cX5_init 87 = .ok (.newarray .int, 2) := by decide +kernel
theorem dX5_init_89 : decode cX5_init 89 = .ok (.putfield 41, 3) := by decide +kernel
theorem dX5_init_92 : decode cX5_init 92 = .ok (.aload_n 0, 1) := by decide +kernel
theorem dX5_init_93 : decode cX5_init 93 = .ok (.bipush 20, 2) := by decide +kernel
theorem dX5_init_95 : decode cX5_init 95 = .ok (.newarray .int, 2) := by decide +kernel
theorem dX5_init_97 : decode cX5_init 97 = .ok (.putfield 44, 3) := by decide +kernel
theorem dX5_init_100 : decode cX5_init 100 = .ok (.aload_n 0, 1) := by decide +kernel
theorem dX5_init_101 : decode cX5_init 101 = .ok (.bipush 60, 2) := by decide +kernel
theorem dX5_init_103 : decode cX5_init 103 = .ok (.newarray .int, 2) := by decide +kernel
theorem dX5_init_105 : decode cX5_init 105 = .ok (.putfield 47, 3) := by decide +kernel
theorem dX5_init_108 : decode cX5_init 108 = .ok (.aload_n 0, 1) := by decide +kernel
theorem dX5_init_109 : decode cX5_init 109 = .ok (.bipush 60, 2) := by decide +kernel
theorem dX5_init_111 : decode cX5_init 111 = .ok (.newarray .int, 2) := by decide +kernel
theorem dX5_init_113 : decode cX5_init 113 = .ok (.putfield 50, 3) := by decide +kernel
theorem dX5_init_116 : decode cX5_init 116 = .ok (.aload_n 0, 1) := by decide +kernel
theorem dX5_init_117 : decode cX5_init 117 = .ok (.bipush 60, 2) := by decide +kernel
theorem dX5_init_119 : decode cX5_init 119 = .ok (.newarray .int, 2) := by decide +kernel
theorem dX5_init_121 : decode cX5_init 121 = .ok (.putfield 53, 3) := by decide +kernel
theorem dX5_init_124 : decode cX5_init 124 = .ok (.aload_n 0, 1) := by decide +kernel
theorem dX5_init_125 : decode cX5_init 125 = .ok (.bipush 60, 2) := by decide +kernel
theorem dX5_init_127 : decode cX5_init 127 = .ok (.newarray .boolean, 2) := by decide +kernel
theorem dX5_init_129 : decode cX5_init 129 = .ok (.putfield 56, 3) := by decide +kernel
theorem dX5_init_132 : decode cX5_init 132 = .ok (.aload_n 0, 1) := by decide +kernel
theorem dX5_init_133 : decode cX5_init 133 = .ok (.bipush 24, 2) := by decide +kernel
theorem dX5_init_135 : decode cX5_init 135 = .ok (.newarray .int, 2) := by decide +kernel
theorem dX5_init_137 : decode cX5_init 137 = .ok (.putfield 59, 3) := by decide +kernel
theorem dX5_init_140 : decode cX5_init 140 = .ok (.aload_n 0, 1) := by decide +kernel
theorem dX5_init_141 : decode cX5_init 141 = .ok (.bipush 24, 2) := by decide +kernel
theorem dX5_init_143 : decode cX5_init 143 = .ok (.newarray .int, 2) := by decide +kernel
theorem dX5_init_145 : decode cX5_init 145 = .ok (.putfield 62, 3) := by decide +kernel
theorem dX5_init_148 : decode cX5_init 148 = .ok (.aload_n 0, 1) := by decide +kernel
theorem dX5_init_149 : decode cX5_init 149 = .ok (.bipush 24, 2) := by decide +kernel
theorem dX5_init_151 : decode cX5_init 151 = .ok (.newarray .int, 2) := by decide +kernel
theorem dX5_init_153 : decode cX5_init 153 = .ok (.putfield 65, 3) := by decide +kernel
theorem dX5_init_156 : decode cX5_init 156 = .ok (.aload_n 0, 1) := by decide +kernel
theorem dX5_init_157 : decode cX5_init 157 = .ok (.bipush 10, 2) := by decide +kernel
theorem dX5_init_159 : decode cX5_init 159 = .ok (.newarray .int, 2) := by decide +kernel
theorem dX5_init_161 : decode cX5_init 161 = .ok (.putfield 68, 3) := by decide +kernel
theorem dX5_init_164 : decode cX5_init 164 = .ok (.return_, 1) := by decide +kernel
theorem dX5_thrown_0 : decode cX5_thrown 0 = .ok (.aload_n 0, 1) := by decide +kernel
theorem dX5_thrown_1 : decode cX5_thrown 1 = .ok (.getfield 71, 3) := by decide +kernel
theorem dX5_thrown_4 : decode cX5_thrown 4 = .ok (.ireturn, 1) := by decide +kernel
theorem dX5_isIn_0 : decode cX5_isIn 0 = .ok (.iload_n 0, 1) := by decide +kernel
theorem dX5_isIn_1 : decode cX5_isIn 1 = .ok (.iload_n 1, 1) := by decide +kernel
theorem dX5_isIn_2 : decode cX5_isIn 2 = .ok (.if_icmp .lt 12, 3) := by decide +kernel
theorem dX5_isIn_5 : decode cX5_isIn 5 = .ok (.iload_n 0, 1) := by decide +kernel
theorem dX5_isIn_6 : decode cX5_isIn 6 = .ok (.iload_n 2, 1) := by decide +kernel
theorem dX5_isIn_7 : decode cX5_isIn 7 = .ok (.if_icmp .gt 7, 3) := by decide +kernel
theorem dX5_isIn_10 : decode cX5_isIn 10 = .ok (.iconst 1, 1) := by decide +kernel
theorem dX5_isIn_11 : decode cX5_isIn 11 = .ok (.goto 4, 3) := by decide +kernel
theorem dX5_isIn_14 : decode cX5_isIn 14 = .ok (.iconst 0, 1) := by decide +kernel
theorem dX5_isIn_15 : decode cX5_isIn 15 = .ok (.ireturn, 1) := by decide +kernel
theorem dX5_isCompany_0 : decode cX5_isCompany 0 = .ok (.iload_n 0, 1) := by decide +kernel
theorem dX5_isCompany_1 : decode cX5_isCompany 1 = .ok (.iconst 0, 1) := by decide +kernel
theorem dX5_isCompany_2 : decode cX5_isCompany 2 = .ok (.iconst 5, 1) := by decide +kernel
theorem dX5_isCompany_3 : decode cX5_isCompany 3 = .ok (.invokestatic 75, 3) := by decide +kernel
theorem dX5_isCompany_6 : decode cX5_isCompany 6 = .ok (.ireturn, 1) := by decide +kernel
theorem dX5_isInvoice_0 : decode cX5_isInvoice 0 = .ok (.iload_n 1, 1) := by decide +kernel
theorem dX5_isInvoice_1 : decode cX5_isInvoice 1 = .ok (.iconst 0, 1) := by decide +kernel
theorem dX5_isInvoice_2 : decode cX5_isInvoice 2 = .ok (.aload_n 0, 1) := by decide +kernel
theorem dX5_isInvoice_3 : decode cX5_isInvoice 3 = .ok (.getfield 79, 3) := by decide +kernel
theorem dX5_isInvoice_6 : decode cX5_isInvoice 6 = .ok (.iconst 1, 1) := by decide +kernel
theorem dX5_isInvoice_7 : decode cX5_isInvoice 7 = .ok (.isub, 1) := by decide +kernel
theorem dX5_isInvoice_8 : decode cX5_isInvoice 8 = .ok (.invokestatic 75, 3) := by decide +kernel
theorem dX5_isInvoice_11 : decode cX5_isInvoice 11 = .ok (.ireturn, 1) := by decide +kernel
theorem dX5_isLine_0 : decode cX5_isLine 0 = .ok (.aload_n 0, 1) := by decide +kernel
theorem dX5_isLine_1 : decode cX5_isLine 1 = .ok (.iload_n 1, 1) := by decide +kernel
theorem dX5_isLine_2 : decode cX5_isLine 2 = .ok (.invokevirtual 82, 3) := by decide +kernel
theorem dX5_isLine_5 : decode cX5_isLine 5 = .ok (.ifCond .eq 23, 3) := by decide +kernel
theorem dX5_isLine_8 : decode cX5_isLine 8 = .ok (.iload_n 2, 1) := by decide +kernel
theorem dX5_isLine_9 : decode cX5_isLine 9 = .ok (.iconst 0, 1) := by decide +kernel
theorem dX5_isLine_10 : decode cX5_isLine 10 = .ok (.aload_n 0, 1) := by decide +kernel
theorem dX5_isLine_11 : decode cX5_isLine 11 = .ok (.getfield 44, 3) := by decide +kernel
theorem dX5_isLine_14 : decode cX5_isLine 14 = .ok (.iload_n 1, 1) := by decide +kernel
theorem dX5_isLine_15 : decode cX5_isLine 15 = .ok (.iaload, 1) := by decide +kernel
theorem dX5_isLine_16 : decode cX5_isLine 16 = .ok (.iconst 1, 1) := by decide +kernel
theorem dX5_isLine_17 : decode cX5_isLine 17 = .ok (.isub, 1) := by decide +kernel
theorem dX5_isLine_18 : decode cX5_isLine 18 = .ok (.invokestatic 75, 3) := by decide +kernel
theorem dX5_isLine_21 : decode cX5_isLine 21 = .ok (.ifCond .eq 7, 3) := by decide +kernel
theorem dX5_isLine_24 : decode cX5_isLine 24 = .ok (.iconst 1, 1) := by decide +kernel
theorem dX5_isLine_25 : decode cX5_isLine 25 = .ok (.goto 4, 3) := by decide +kernel
theorem dX5_isLine_28 : decode cX5_isLine 28 = .ok (.iconst 0, 1) := by decide +kernel
theorem dX5_isLine_29 : decode cX5_isLine 29 = .ok (.ireturn, 1) := by decide +kernel
theorem dX5_isGood_0 : decode cX5_isGood 0 = .ok (.iload_n 0, 1) := by decide +kernel
theorem dX5_isGood_1 : decode cX5_isGood 1 = .ok (.iconst 1, 1) := by decide +kernel
theorem dX5_isGood_2 : decode cX5_isGood 2 = .ok (.sipush 9999, 3) := by decide +kernel
theorem dX5_isGood_5 : decode cX5_isGood 5 = .ok (.invokestatic 75, 3) := by decide +kernel
theorem dX5_isGood_8 : decode cX5_isGood 8 = .ok (.ifCond .eq 23, 3) := by decide +kernel
theorem dX5_isGood_11 : decode cX5_isGood 11 = .ok (.iload_n 1, 1) := by decide +kernel
theorem dX5_isGood_12 : decode cX5_isGood 12 = .ok (.ifCond .eq 15, 3) := by decide +kernel
theorem dX5_isGood_15 : decode cX5_isGood 15 = .ok (.iload_n 1, 1) := by decide +kernel
theorem dX5_isGood_16 : decode cX5_isGood 16 = .ok (.bipush 7, 2) := by decide +kernel
theorem dX5_isGood_18 : decode cX5_isGood 18 = .ok (.if_icmp .eq 9, 3) := by decide +kernel
theorem dX5_isGood_21 : decode cX5_isGood 21 = .ok (.iload_n 1, 1) := by decide +kernel
theorem dX5_isGood_22 : decode cX5_isGood 22 = .ok (.bipush 19, 2) := by decide +kernel
theorem dX5_isGood_24 : decode cX5_isGood 24 = .ok (.if_icmp .ne 7, 3) := by decide +kernel
theorem dX5_isGood_27 : decode cX5_isGood 27 = .ok (.iconst 1, 1) := by decide +kernel
theorem dX5_isGood_28 : decode cX5_isGood 28 = .ok (.goto 4, 3) := by decide +kernel
theorem dX5_isGood_31 : decode cX5_isGood 31 = .ok (.iconst 0, 1) := by decide +kernel
theorem dX5_isGood_32 : decode cX5_isGood 32 = .ok (.ireturn, 1) := by decide +kernel
theorem dX5_adds_0 : decode cX5_adds 0 = .ok (.iconst 3, 1) := by decide +kernel
theorem dX5_adds_1 : decode cX5_adds 1 = .ok (.iload_n 1, 1) := by decide +kernel
theorem dX5_adds_2 : decode cX5_adds 2 = .ok (.imul, 1) := by decide +kernel
theorem dX5_adds_3 : decode cX5_adds 3 = .ok (.aload_n 0, 1) := by decide +kernel
theorem dX5_adds_4 : decode cX5_adds 4 = .ok (.getfield 44, 3) := by decide +kernel
theorem dX5_adds_7 : decode cX5_adds 7 = .ok (.iload_n 1, 1) := by decide +kernel
theorem dX5_adds_8 : decode cX5_adds 8 = .ok (.iaload, 1) := by decide +kernel
theorem dX5_adds_9 : decode cX5_adds 9 = .ok (.iadd, 1) := by decide +kernel
theorem dX5_adds_10 : decode cX5_adds 10 = .ok (.istore 4, 2) := by decide +kernel
theorem dX5_adds_12 : decode cX5_adds 12 = .ok (.aload_n 0, 1) := by decide +kernel
theorem dX5_adds_13 : decode cX5_adds 13 = .ok (.getfield 47, 3) := by decide +kernel
theorem dX5_adds_16 : decode cX5_adds 16 = .ok (.iload 4, 2) := by decide +kernel
theorem dX5_adds_18 : decode cX5_adds 18 = .ok (.iload_n 2, 1) := by decide +kernel
theorem dX5_adds_19 : decode cX5_adds 19 = .ok (.iastore, 1) := by decide +kernel
theorem dX5_adds_20 : decode cX5_adds 20 = .ok (.aload_n 0, 1) := by decide +kernel
theorem dX5_adds_21 : decode cX5_adds 21 = .ok (.getfield 50, 3) := by decide +kernel
theorem dX5_adds_24 : decode cX5_adds 24 = .ok (.iload 4, 2) := by decide +kernel
theorem dX5_adds_26 : decode cX5_adds 26 = .ok (.iload_n 2, 1) := by decide +kernel
theorem dX5_adds_27 : decode cX5_adds 27 = .ok (.iastore, 1) := by decide +kernel
theorem dX5_adds_28 : decode cX5_adds 28 = .ok (.aload_n 0, 1) := by decide +kernel
theorem dX5_adds_29 : decode cX5_adds 29 = .ok (.getfield 53, 3) := by decide +kernel
theorem dX5_adds_32 : decode cX5_adds 32 = .ok (.iload 4, 2) := by decide +kernel
theorem dX5_adds_34 : decode cX5_adds 34 = .ok (.iload_n 3, 1) := by decide +kernel
theorem dX5_adds_35 : decode cX5_adds 35 = .ok (.iastore, 1) := by decide +kernel
theorem dX5_adds_36 : decode cX5_adds 36 = .ok (.aload_n 0, 1) := by decide +kernel
theorem dX5_adds_37 : decode cX5_adds 37 = .ok (.getfield 44, 3) := by decide +kernel
theorem dX5_adds_40 : decode cX5_adds 40 = .ok (.iload_n 1, 1) := by decide +kernel
theorem dX5_adds_41 : decode cX5_adds 41 = .ok (.dup2, 1) := by decide +kernel
theorem dX5_adds_42 : decode cX5_adds 42 = .ok (.iaload, 1) := by decide +kernel
theorem dX5_adds_43 : decode cX5_adds 43 = .ok (.iconst 1, 1) := by decide +kernel
theorem dX5_adds_44 : decode cX5_adds 44 = .ok (.iadd, 1) := by decide +kernel
theorem dX5_adds_45 : decode cX5_adds 45 = .ok (.iastore, 1) := by decide +kernel
theorem dX5_adds_46 : decode cX5_adds 46 = .ok (.return_, 1) := by decide +kernel
theorem dX5_send_0 : decode cX5_send 0 = .ok (.aload_n 0, 1) := by decide +kernel
theorem dX5_send_1 : decode cX5_send 1 = .ok (.iload_n 1, 1) := by decide +kernel
theorem dX5_send_2 : decode cX5_send 2 = .ok (.invokestatic 86, 3) := by decide +kernel
theorem dX5_send_5 : decode cX5_send 5 = .ok (.ifCond .eq 20, 3) := by decide +kernel
theorem dX5_send_8 : decode cX5_send 8 = .ok (.iload_n 2, 1) := by decide +kernel
theorem dX5_send_9 : decode cX5_send 9 = .ok (.invokestatic 86, 3) := by decide +kernel
theorem dX5_send_12 : decode cX5_send 12 = .ok (.ifCond .eq 13, 3) := by decide +kernel
theorem dX5_send_15 : decode cX5_send 15 = .ok (.iload_n 3, 1) := by decide +kernel
theorem dX5_send_16 : decode cX5_send 16 = .ok (.iconst 0, 1) := by decide +kernel
theorem dX5_send_17 : decode cX5_send 17 = .ok (.bipush 7, 2) := by decide +kernel
theorem dX5_send_19 : decode cX5_send 19 = .ok (.invokestatic 75, 3) := by decide +kernel
theorem dX5_send_22 : decode cX5_send 22 = .ok (.ifCond .ne 7, 3) := by decide +kernel
theorem dX5_send_25 : decode cX5_send 25 = .ok (.iconst 1, 1) := by decide +kernel
theorem dX5_send_26 : decode cX5_send 26 = .ok (.goto 36, 3) := by decide +kernel
theorem dX5_send_29 : decode cX5_send 29 = .ok (.iload 4, 2) := by decide +kernel
theorem dX5_send_31 : decode cX5_send 31 = .ok (.iload 5, 2) := by decide +kernel
theorem dX5_send_33 : decode cX5_send 33 = .ok (.invokestatic 89, 3) := by decide +kernel
theorem dX5_send_36 : decode cX5_send 36 = .ok (.ifCond .eq 8, 3) := by decide +kernel
theorem dX5_send_39 : decode cX5_send 39 = .ok (.iload_n 1, 1) := by decide +kernel
theorem dX5_send_40 : decode cX5_send 40 = .ok (.iload_n 2, 1) := by decide +kernel
theorem dX5_send_41 : decode cX5_send 41 = .ok (.if_icmp .ne 7, 3) := by decide +kernel
theorem dX5_send_44 : decode cX5_send 44 = .ok (.iconst 2, 1) := by decide +kernel
theorem dX5_send_45 : decode cX5_send 45 = .ok (.goto 17, 3) := by decide +kernel
theorem dX5_send_48 : decode cX5_send 48 = .ok (.aload_n 0, 1) := by decide +kernel
theorem dX5_send_49 : decode cX5_send 49 = .ok (.getfield 79, 3) := by decide +kernel
theorem dX5_send_52 : decode cX5_send 52 = .ok (.bipush 20, 2) := by decide +kernel
theorem dX5_send_54 : decode cX5_send 54 = .ok (.if_icmp .ne 7, 3) := by decide +kernel
theorem dX5_send_57 : decode cX5_send 57 = .ok (.iconst 3, 1) := by decide +kernel
theorem dX5_send_58 : decode cX5_send 58 = .ok (.goto 4, 3) := by decide +kernel
theorem dX5_send_61 : decode cX5_send 61 = .ok (.iconst 0, 1) := by decide +kernel
theorem dX5_send_62 : decode cX5_send 62 = .ok (.putfield 71, 3) := by decide +kernel
theorem dX5_send_65 : decode cX5_send 65 = .ok (.aload_n 0, 1) := by decide +kernel
theorem dX5_send_66 : decode cX5_send 66 = .ok (.getfield 71, 3) := by decide +kernel
theorem dX5_send_69 : decode cX5_send 69 = .ok (.ifCond .le 5, 3) := by decide +kernel
theorem dX5_send_72 : decode cX5_send 72 = .ok (.iconst 0, 1) := by decide +kernel
theorem dX5_send_73 : decode cX5_send 73 = .ok (.ireturn, 1) := by decide +kernel
theorem dX5_send_74 : decode cX5_send 74 = .ok (.aload_n 0, 1) := by decide +kernel
theorem dX5_send_75 : decode cX5_send 75 = .ok (.getfield 13, 3) := by decide +kernel
theorem dX5_send_78 : decode cX5_send 78 = .ok (.aload_n 0, 1) := by decide +kernel
theorem dX5_send_79 : decode cX5_send 79 = .ok (.getfield 79, 3) := by decide +kernel
theorem dX5_send_82 : decode cX5_send 82 = .ok (.iload_n 1, 1) := by decide +kernel
theorem dX5_send_83 : decode cX5_send 83 = .ok (.iastore, 1) := by decide +kernel
theorem dX5_send_84 : decode cX5_send 84 = .ok (.aload_n 0, 1) := by decide +kernel
theorem dX5_send_85 : decode cX5_send 85 = .ok (.getfield 16, 3) := by decide +kernel
theorem dX5_send_88 : decode cX5_send 88 = .ok (.aload_n 0, 1) := by decide +kernel
theorem dX5_send_89 : decode cX5_send 89 = .ok (.getfield 79, 3) := by decide +kernel
theorem dX5_send_92 : decode cX5_send 92 = .ok (.iload_n 2, 1) := by decide +kernel
theorem dX5_send_93 : decode cX5_send 93 = .ok (.iastore, 1) := by decide +kernel
theorem dX5_send_94 : decode cX5_send 94 = .ok (.aload_n 0, 1) := by decide +kernel
theorem dX5_send_95 : decode cX5_send 95 = .ok (.getfield 19, 3) := by decide +kernel
theorem dX5_send_98 : decode cX5_send 98 = .ok (.aload_n 0, 1) := by decide +kernel
theorem dX5_send_99 : decode cX5_send 99 = .ok (.getfield 79, 3) := by decide +kernel
theorem dX5_send_102 : decode cX5_send 102 = .ok (.iload_n 3, 1) := by decide +kernel
theorem dX5_send_103 : decode cX5_send 103 = .ok (.iastore, 1) := by decide +kernel
theorem dX5_send_104 : decode cX5_send 104 = .ok (.aload_n 0, 1) := by decide +kernel
theorem dX5_send_105 : decode cX5_send 105 = .ok (.getfield 22, 3) := by decide +kernel
theorem dX5_send_108 : decode cX5_send 108 = .ok (.aload_n 0, 1) := by decide +kernel
theorem dX5_send_109 : decode cX5_send 109 = .ok (.getfield 79, 3) := by decide +kernel
theorem dX5_send_112 : decode cX5_send 112 = .ok (.iconst 0, 1) := by decide +kernel
theorem dX5_send_113 : decode cX5_send 113 = .ok (.iastore, 1) := by decide +kernel
theorem dX5_send_114 : decode cX5_send 114 = .ok (.aload_n 0, 1) := by decide +kernel
theorem dX5_send_115 : decode cX5_send 115 = .ok (.getfield 25, 3) := by decide +kernel
theorem dX5_send_118 : decode cX5_send 118 = .ok (.aload_n 0, 1) := by decide +kernel
theorem dX5_send_119 : decode cX5_send 119 = .ok (.getfield 79, 3) := by decide +kernel
theorem dX5_send_122 : decode cX5_send 122 = .ok (.aload_n 0, 1) := by decide +kernel
theorem dX5_send_123 : decode cX5_send 123 = .ok (.getfield 93, 3) := by decide +kernel
theorem dX5_send_126 : decode cX5_send 126 = .ok (.iastore, 1) := by decide +kernel
theorem dX5_send_127 : decode cX5_send 127 = .ok (.aload_n 0, 1) := by decide +kernel
theorem dX5_send_128 : decode cX5_send 128 = .ok (.getfield 31, 3) := by decide +kernel
theorem dX5_send_131 : decode cX5_send 131 = .ok (.aload_n 0, 1) := by decide +kernel
theorem dX5_send_132 : decode cX5_send 132 = .ok (.getfield 79, 3) := by decide +kernel
theorem dX5_send_135 : decode cX5_send 135 = .ok (.iload_n 1, 1) := by decide +kernel
theorem dX5_send_136 : decode cX5_send 136 = .ok (.iastore, 1) := by decide +kernel
theorem dX5_send_137 : decode cX5_send 137 = .ok (.aload_n 0, 1) := by decide +kernel
theorem dX5_send_138 : decode cX5_send 138 = .ok (.aload_n 0, 1) := by decide +kernel
theorem dX5_send_139 : decode cX5_send 139 = .ok (.getfield 79, 3) := by decide +kernel
theorem dX5_send_142 : decode cX5_send 142 = .ok (.iload 4, 2) := by decide +kernel
theorem dX5_send_144 : decode cX5_send 144 = .ok (.iload 5, 2) := by decide +kernel
theorem dX5_send_146 : decode cX5_send 146 = .ok (.invokevirtual 96, 3) := by decide +kernel
theorem dX5_send_149 : decode cX5_send 149 = .ok (.aload_n 0, 1) := by decide +kernel
theorem dX5_send_150 : decode cX5_send 150 = .ok (.dup, 1) := by decide +kernel
theorem dX5_send_151 : decode cX5_send 151 = .ok (.getfield 79, 3) := by decide +kernel
theorem dX5_send_154 : decode cX5_send 154 = .ok (.iconst 1, 1) := by decide +kernel
theorem dX5_send_155 : decode cX5_send 155 = .ok (.iadd, 1) := by decide +kernel
theorem dX5_send_156 : decode cX5_send 156 = .ok (.putfield 79, 3) := by decide +kernel
theorem dX5_send_159 : decode cX5_send 159 = .ok (.aload_n 0, 1) := by decide +kernel
theorem dX5_send_160 : decode cX5_send 160 = .ok (.getfield 79, 3) := by decide +kernel
theorem dX5_send_163 : decode cX5_send 163 = .ok (.iconst 1, 1) := by decide +kernel
theorem dX5_send_164 : decode cX5_send 164 = .ok (.isub, 1) := by decide +kernel
theorem dX5_send_165 : decode cX5_send 165 = .ok (.ireturn, 1) := by decide +kernel
theorem dX5_hasCredit_0 : decode cX5_hasCredit 0 = .ok (.iconst 0, 1) := by decide +kernel
theorem dX5_hasCredit_1 : decode cX5_hasCredit 1 = .ok (.istore_n 2, 1) := by decide +kernel
theorem dX5_hasCredit_2 : decode cX5_hasCredit 2 = .ok (.iconst 0, 1) := by decide +kernel
theorem dX5_hasCredit_3 : decode cX5_hasCredit 3 = .ok (.istore_n 3, 1) := by decide +kernel
theorem dX5_hasCredit_4 : decode cX5_hasCredit 4 = .ok (.iload_n 3, 1) := by decide +kernel
theorem dX5_hasCredit_5 : decode cX5_hasCredit 5 = .ok (.aload_n 0, 1) := by decide +kernel
theorem dX5_hasCredit_6 : decode cX5_hasCredit 6 = .ok (.getfield 100, 3) := by decide +kernel
theorem dX5_hasCredit_9 : decode cX5_hasCredit 9 = .ok (.if_icmp .ge 27, 3) := by decide +kernel
theorem dX5_hasCredit_12 : decode cX5_hasCredit 12 = .ok (.iload_n 2, 1) := by decide +kernel
theorem dX5_hasCredit_13 : decode cX5_hasCredit 13 = .ok (.aload_n 0, 1) := by decide +kernel
theorem dX5_hasCredit_14 : decode cX5_hasCredit 14 = .ok (.getfield 59, 3) := by decide +kernel
theorem dX5_hasCredit_17 : decode cX5_hasCredit 17 = .ok (.iload_n 3, 1) := by decide +kernel
theorem dX5_hasCredit_18 : decode cX5_hasCredit 18 = .ok (.iaload, 1) := by decide +kernel
theorem dX5_hasCredit_19 : decode cX5_hasCredit 19 = .ok (.iload_n 1, 1) := by decide +kernel
theorem dX5_hasCredit_20 : decode cX5_hasCredit 20 = .ok (.if_icmp .ne 7, 3) := by decide +kernel
theorem dX5_hasCredit_23 : decode cX5_hasCredit 23 = .ok (.iconst 1, 1) := by decide +kernel
theorem dX5_hasCredit_24 : decode cX5_hasCredit 24 = .ok (.goto 4, 3) := by decide +kernel
theorem dX5_hasCredit_27 : decode cX5_hasCredit 27 = .ok (.iconst 0, 1) := by decide +kernel
theorem dX5_hasCredit_28 : decode cX5_hasCredit 28 = .ok (.ior, 1) := by decide +kernel
theorem dX5_hasCredit_29 : decode cX5_hasCredit 29 = .ok (.istore_n 2, 1) := by decide +kernel
theorem dX5_hasCredit_30 : decode cX5_hasCredit 30 = .ok (.iinc 3 1, 3) := by decide +kernel
theorem dX5_hasCredit_33 : decode cX5_hasCredit 33 = .ok (.goto (-29), 3) := by decide +kernel
theorem dX5_hasCredit_36 : decode cX5_hasCredit 36 = .ok (.iload_n 2, 1) := by decide +kernel
theorem dX5_hasCredit_37 : decode cX5_hasCredit 37 = .ok (.ireturn, 1) := by decide +kernel
theorem dX5_addLine_0 : decode cX5_addLine 0 = .ok (.aload_n 0, 1) := by decide +kernel
theorem dX5_addLine_1 : decode cX5_addLine 1 = .ok (.aload_n 0, 1) := by decide +kernel
theorem dX5_addLine_2 : decode cX5_addLine 2 = .ok (.iload_n 1, 1) := by decide +kernel
theorem dX5_addLine_3 : decode cX5_addLine 3 = .ok (.invokevirtual 82, 3) := by decide +kernel
theorem dX5_addLine_6 : decode cX5_addLine 6 = .ok (.ifCond .ne 7, 3) := by decide +kernel
theorem dX5_addLine_9 : decode cX5_addLine 9 = .ok (.iconst 1, 1) := by decide +kernel
theorem dX5_addLine_10 : decode cX5_addLine 10 = .ok (.goto 16, 3) := by decide +kernel
theorem dX5_addLine_13 : decode cX5_addLine 13 = .ok (.iload_n 2, 1) := by decide +kernel
theorem dX5_addLine_14 : decode cX5_addLine 14 = .ok (.iload_n 3, 1) := by decide +kernel
theorem dX5_addLine_15 : decode cX5_addLine 15 = .ok (.invokestatic 89, 3) := by decide +kernel
theorem dX5_addLine_18 : decode cX5_addLine 18 = .ok (.ifCond .ne 7, 3) := by decide +kernel
theorem dX5_addLine_21 : decode cX5_addLine 21 = .ok (.iconst 2, 1) := by decide +kernel
theorem dX5_addLine_22 : decode cX5_addLine 22 = .ok (.goto 4, 3) := by decide +kernel
theorem dX5_addLine_25 : decode cX5_addLine 25 = .ok (.iconst 0, 1) := by decide +kernel
theorem dX5_addLine_26 : decode cX5_addLine 26 = .ok (.putfield 71, 3) := by decide +kernel
theorem dX5_addLine_29 : decode cX5_addLine 29 = .ok (.aload_n 0, 1) := by decide +kernel
theorem dX5_addLine_30 : decode cX5_addLine 30 = .ok (.getfield 71, 3) := by decide +kernel
theorem dX5_addLine_33 : decode cX5_addLine 33 = .ok (.ifCond .le 5, 3) := by decide +kernel
theorem dX5_addLine_36 : decode cX5_addLine 36 = .ok (.iconst 0, 1) := by decide +kernel
theorem dX5_addLine_37 : decode cX5_addLine 37 = .ok (.ireturn, 1) := by decide +kernel
theorem dX5_addLine_38 : decode cX5_addLine 38 = .ok (.aload_n 0, 1) := by decide +kernel
theorem dX5_addLine_39 : decode cX5_addLine 39 = .ok (.aload_n 0, 1) := by decide +kernel
theorem dX5_addLine_40 : decode cX5_addLine 40 = .ok (.getfield 22, 3) := by decide +kernel
theorem dX5_addLine_43 : decode cX5_addLine 43 = .ok (.iload_n 1, 1) := by decide +kernel
theorem dX5_addLine_44 : decode cX5_addLine 44 = .ok (.iaload, 1) := by decide +kernel
theorem dX5_addLine_45 : decode cX5_addLine 45 = .ok (.ifCond .ne 34, 3) := by decide +kernel
theorem dX5_addLine_48 : decode cX5_addLine 48 = .ok (.aload_n 0, 1) := by decide +kernel
theorem dX5_addLine_49 : decode cX5_addLine 49 = .ok (.getfield 25, 3) := by decide +kernel
theorem dX5_addLine_52 : decode cX5_addLine 52 = .ok (.iload_n 1, 1) := by decide +kernel
theorem dX5_addLine_53 : decode cX5_addLine 53 = .ok (.iaload, 1) := by decide +kernel
theorem dX5_addLine_54 : decode cX5_addLine 54 = .ok (.aload_n 0, 1) := by decide +kernel
theorem dX5_addLine_55 : decode cX5_addLine 55 = .ok (.getfield 93, 3) := by decide +kernel
theorem dX5_addLine_58 : decode cX5_addLine 58 = .ok (.if_icmp .ne 21, 3) := by decide +kernel
theorem dX5_addLine_61 : decode cX5_addLine 61 = .ok (.aload_n 0, 1) := by decide +kernel
theorem dX5_addLine_62 : decode cX5_addLine 62 = .ok (.getfield 44, 3) := by decide +kernel
theorem dX5_addLine_65 : decode cX5_addLine 65 = .ok (.iload_n 1, 1) := by decide +kernel
theorem dX5_addLine_66 : decode cX5_addLine 66 = .ok (.iaload, 1) := by decide +kernel
theorem dX5_addLine_67 : decode cX5_addLine 67 = .ok (.iconst 3, 1) := by decide +kernel
theorem dX5_addLine_68 : decode cX5_addLine 68 = .ok (.if_icmp .eq 11, 3) := by decide +kernel
theorem dX5_addLine_71 : decode cX5_addLine 71 = .ok (.aload_n 0, 1) := by decide +kernel
theorem dX5_addLine_72 : decode cX5_addLine 72 = .ok (.iload_n 1, 1) := by decide +kernel
theorem dX5_addLine_73 : decode cX5_addLine 73 = .ok (.invokevirtual 103, 3) := by decide +kernel
theorem dX5_addLine_76 : decode cX5_addLine 76 = .ok (.ifCond .eq 7, 3) := by decide +kernel
theorem dX5_addLine_79 : decode cX5_addLine 79 = .ok (.iconst 3, 1) := by decide +kernel
theorem dX5_addLine_80 : decode cX5_addLine 80 = .ok (.goto 4, 3) := by decide +kernel
theorem dX5_addLine_83 : decode cX5_addLine 83 = .ok (.iconst 0, 1) := by decide +kernel
theorem dX5_addLine_84 : decode cX5_addLine 84 = .ok (.putfield 71, 3) := by decide +kernel
theorem dX5_addLine_87 : decode cX5_addLine 87 = .ok (.aload_n 0, 1) := by decide +kernel
theorem dX5_addLine_88 : decode cX5_addLine 88 = .ok (.getfield 71, 3) := by decide +kernel
theorem dX5_addLine_91 : decode cX5_addLine 91 = .ok (.ifCond .le 5, 3) := by decide +kernel
theorem dX5_addLine_94 : decode cX5_addLine 94 = .ok (.iconst 0, 1) := by decide +kernel
theorem dX5_addLine_95 : decode cX5_addLine 95 = .ok (.ireturn, 1) := by decide +kernel
theorem dX5_addLine_96 : decode cX5_addLine 96 = .ok (.aload_n 0, 1) := by decide +kernel
theorem dX5_addLine_97 : decode cX5_addLine 97 = .ok (.iload_n 1, 1) := by decide +kernel
theorem dX5_addLine_98 : decode cX5_addLine 98 = .ok (.iload_n 2, 1) := by decide +kernel
theorem dX5_addLine_99 : decode cX5_addLine 99 = .ok (.iload_n 3, 1) := by decide +kernel
theorem dX5_addLine_100 : decode cX5_addLine 100 = .ok (.invokevirtual 96, 3) := by decide +kernel
theorem dX5_addLine_103 : decode cX5_addLine 103 = .ok (.aload_n 0, 1) := by decide +kernel
theorem dX5_addLine_104 : decode cX5_addLine 104 = .ok (.getfield 44, 3) := by decide +kernel
theorem dX5_addLine_107 : decode cX5_addLine 107 = .ok (.iload_n 1, 1) := by decide +kernel
theorem dX5_addLine_108 : decode cX5_addLine 108 = .ok (.iaload, 1) := by decide +kernel
theorem dX5_addLine_109 : decode cX5_addLine 109 = .ok (.iconst 1, 1) := by decide +kernel
theorem dX5_addLine_110 : decode cX5_addLine 110 = .ok (.isub, 1) := by decide +kernel
theorem dX5_addLine_111 : decode cX5_addLine 111 = .ok (.ireturn, 1) := by decide +kernel
theorem dX5_taxOf_0 : decode cX5_taxOf 0 = .ok (.iload_n 0, 1) := by decide +kernel
theorem dX5_taxOf_1 : decode cX5_taxOf 1 = .ok (.iload_n 1, 1) := by decide +kernel
theorem dX5_taxOf_2 : decode cX5_taxOf 2 = .ok (.imul, 1) := by decide +kernel
theorem dX5_taxOf_3 : decode cX5_taxOf 3 = .ok (.bipush 100, 2) := by decide +kernel
theorem dX5_taxOf_5 : decode cX5_taxOf 5 = .ok (.idiv, 1) := by decide +kernel
theorem dX5_taxOf_6 : decode cX5_taxOf 6 = .ok (.ireturn, 1) := by decide +kernel
theorem dX5_costs_0 : decode cX5_costs 0 = .ok (.iconst 0, 1) := by decide +kernel
theorem dX5_costs_1 : decode cX5_costs 1 = .ok (.istore_n 3, 1) := by decide +kernel
theorem dX5_costs_2 : decode cX5_costs 2 = .ok (.iconst 3, 1) := by decide +kernel
theorem dX5_costs_3 : decode cX5_costs 3 = .ok (.iload_n 1, 1) := by decide +kernel
theorem dX5_costs_4 : decode cX5_costs 4 = .ok (.imul, 1) := by decide +kernel
theorem dX5_costs_5 : decode cX5_costs 5 = .ok (.istore 4, 2) := by decide +kernel
theorem dX5_costs_7 : decode cX5_costs 7 = .ok (.iload 4, 2) := by decide +kernel
theorem dX5_costs_9 : decode cX5_costs 9 = .ok (.iconst 3, 1) := by decide +kernel
theorem dX5_costs_10 : decode cX5_costs 10 = .ok (.iload_n 1, 1) := by decide +kernel
theorem dX5_costs_11 : decode cX5_costs 11 = .ok (.imul, 1) := by decide +kernel
theorem dX5_costs_12 : decode cX5_costs 12 = .ok (.aload_n 0, 1) := by decide +kernel
theorem dX5_costs_13 : decode cX5_costs 13 = .ok (.getfield 44, 3) := by decide +kernel
theorem dX5_costs_16 : decode cX5_costs 16 = .ok (.iload_n 1, 1) := by decide +kernel
theorem dX5_costs_17 : decode cX5_costs 17 = .ok (.iaload, 1) := by decide +kernel
theorem dX5_costs_18 : decode cX5_costs 18 = .ok (.iadd, 1) := by decide +kernel
theorem dX5_costs_19 : decode cX5_costs 19 = .ok (.if_icmp .ge 55, 3) := by decide +kernel
theorem dX5_costs_22 : decode cX5_costs 22 = .ok (.iload_n 3, 1) := by decide +kernel
theorem dX5_costs_23 : decode cX5_costs 23 = .ok (.iload_n 2, 1) := by decide +kernel
theorem dX5_costs_24 : decode cX5_costs 24 = .ok (.ifCond .ne 13, 3) := by decide +kernel
theorem dX5_costs_27 : decode cX5_costs 27 = .ok (.aload_n 0, 1) := by decide +kernel
theorem dX5_costs_28 : decode cX5_costs 28 = .ok (.getfield 56, 3) := by decide +kernel
theorem dX5_costs_31 : decode cX5_costs 31 = .ok (.iload 4, 2) := by decide +kernel
theorem dX5_costs_33 : decode cX5_costs 33 = .ok (.baload, 1) := by decide +kernel
theorem dX5_costs_34 : decode cX5_costs 34 = .ok (.ifCond .ne 31, 3) := by decide +kernel
theorem dX5_costs_37 : decode cX5_costs 37 = .ok (.aload_n 0, 1) := by decide +kernel
theorem dX5_costs_38 : decode cX5_costs 38 = .ok (.getfield 47, 3) := by decide +kernel
theorem dX5_costs_41 : decode cX5_costs 41 = .ok (.iload 4, 2) := by decide +kernel
theorem dX5_costs_43 : decode cX5_costs 43 = .ok (.iaload, 1) := by decide +kernel
theorem dX5_costs_44 : decode cX5_costs 44 = .ok (.aload_n 0, 1) := by decide +kernel
theorem dX5_costs_45 : decode cX5_costs 45 = .ok (.getfield 47, 3) := by decide +kernel
theorem dX5_costs_48 : decode cX5_costs 48 = .ok (.iload 4, 2) := by decide +kernel
theorem dX5_costs_50 : decode cX5_costs 50 = .ok (.iaload, 1) := by decide +kernel
theorem dX5_costs_51 : decode cX5_costs 51 = .ok (.aload_n 0, 1) := by decide +kernel
theorem dX5_costs_52 : decode cX5_costs 52 = .ok (.getfield 53, 3) := by decide +kernel
theorem dX5_costs_55 : decode cX5_costs 55 = .ok (.iload 4, 2) := by decide +kernel
theorem dX5_costs_57 : decode cX5_costs 57 = .ok (.iaload, 1) := by decide +kernel
theorem dX5_costs_58 : decode cX5_costs 58 = .ok (.invokestatic 106, 3) := by decide +kernel
theorem dX5_costs_61 : decode cX5_costs 61 = .ok (.iadd, 1) := by decide +kernel
theorem dX5_costs_62 : decode cX5_costs 62 = .ok (.goto 4, 3) := by decide +kernel
theorem dX5_costs_65 : decode cX5_costs 65 = .ok (.iconst 0, 1) := by decide +kernel
theorem dX5_costs_66 : decode cX5_costs 66 = .ok (.iadd, 1) := by decide +kernel
theorem dX5_costs_67 : decode cX5_costs 67 = .ok (.istore_n 3, 1) := by decide +kernel
theorem dX5_costs_68 : decode cX5_costs 68 = .ok (.iinc 4 1, 3) := by decide +kernel
theorem dX5_costs_71 : decode cX5_costs 71 = .ok (.goto (-64), 3) := by decide +kernel
theorem dX5_costs_74 : decode cX5_costs 74 = .ok (.iload_n 3, 1) := by decide +kernel
theorem dX5_costs_75 : decode cX5_costs 75 = .ok (.ireturn, 1) := by decide +kernel
theorem dX5_owed_0 : decode cX5_owed 0 = .ok (.aload_n 0, 1) := by decide +kernel
theorem dX5_owed_1 : decode cX5_owed 1 = .ok (.iload_n 1, 1) := by decide +kernel
theorem dX5_owed_2 : decode cX5_owed 2 = .ok (.iconst 0, 1) := by decide +kernel
theorem dX5_owed_3 : decode cX5_owed 3 = .ok (.invokevirtual 110, 3) := by decide +kernel
theorem dX5_owed_6 : decode cX5_owed 6 = .ok (.aload_n 0, 1) := by decide +kernel
theorem dX5_owed_7 : decode cX5_owed 7 = .ok (.getfield 41, 3) := by decide +kernel
theorem dX5_owed_10 : decode cX5_owed 10 = .ok (.iload_n 1, 1) := by decide +kernel
theorem dX5_owed_11 : decode cX5_owed 11 = .ok (.iaload, 1) := by decide +kernel
theorem dX5_owed_12 : decode cX5_owed 12 = .ok (.isub, 1) := by decide +kernel
theorem dX5_owed_13 : decode cX5_owed 13 = .ok (.istore_n 2, 1) := by decide +kernel
theorem dX5_owed_14 : decode cX5_owed 14 = .ok (.aload_n 0, 1) := by decide +kernel
theorem dX5_owed_15 : decode cX5_owed 15 = .ok (.getfield 22, 3) := by decide +kernel
theorem dX5_owed_18 : decode cX5_owed 18 = .ok (.iload_n 1, 1) := by decide +kernel
theorem dX5_owed_19 : decode cX5_owed 19 = .ok (.iaload, 1) := by decide +kernel
theorem dX5_owed_20 : decode cX5_owed 20 = .ok (.iconst 1, 1) := by decide +kernel
theorem dX5_owed_21 : decode cX5_owed 21 = .ok (.if_icmp .ne 11, 3) := by decide +kernel
theorem dX5_owed_24 : decode cX5_owed 24 = .ok (.iload_n 2, 1) := by decide +kernel
theorem dX5_owed_25 : decode cX5_owed 25 = .ok (.ifCond .le 7, 3) := by decide +kernel
theorem dX5_owed_28 : decode cX5_owed 28 = .ok (.iload_n 2, 1) := by decide +kernel
theorem dX5_owed_29 : decode cX5_owed 29 = .ok (.goto 4, 3) := by decide +kernel
theorem dX5_owed_32 : decode cX5_owed 32 = .ok (.iconst 0, 1) := by decide +kernel
theorem dX5_owed_33 : decode cX5_owed 33 = .ok (.ireturn, 1) := by decide +kernel
theorem dX5_accept_0 : decode cX5_accept 0 = .ok (.aload_n 0, 1) := by decide +kernel
theorem dX5_accept_1 : decode cX5_accept 1 = .ok (.aload_n 0, 1) := by decide +kernel
theorem dX5_accept_2 : decode cX5_accept 2 = .ok (.iload_n 1, 1) := by decide +kernel
theorem dX5_accept_3 : decode cX5_accept 3 = .ok (.invokevirtual 82, 3) := by decide +kernel
theorem dX5_accept_6 : decode cX5_accept 6 = .ok (.ifCond .ne 7, 3) := by decide +kernel
theorem dX5_accept_9 : decode cX5_accept 9 = .ok (.iconst 1, 1) := by decide +kernel
theorem dX5_accept_10 : decode cX5_accept 10 = .ok (.goto 17, 3) := by decide +kernel
theorem dX5_accept_13 : decode cX5_accept 13 = .ok (.aload_n 0, 1) := by decide +kernel
theorem dX5_accept_14 : decode cX5_accept 14 = .ok (.getfield 22, 3) := by decide +kernel
theorem dX5_accept_17 : decode cX5_accept 17 = .ok (.iload_n 1, 1) := by decide +kernel
theorem dX5_accept_18 : decode cX5_accept 18 = .ok (.iaload, 1) := by decide +kernel
theorem dX5_accept_19 : decode cX5_accept 19 = .ok (.ifCond .eq 7, 3) := by decide +kernel
theorem dX5_accept_22 : decode cX5_accept 22 = .ok (.iconst 2, 1) := by decide +kernel
theorem dX5_accept_23 : decode cX5_accept 23 = .ok (.goto 4, 3) := by decide +kernel
theorem dX5_accept_26 : decode cX5_accept 26 = .ok (.iconst 0, 1) := by decide +kernel
theorem dX5_accept_27 : decode cX5_accept 27 = .ok (.putfield 71, 3) := by decide +kernel
theorem dX5_accept_30 : decode cX5_accept 30 = .ok (.aload_n 0, 1) := by decide +kernel
theorem dX5_accept_31 : decode cX5_accept 31 = .ok (.getfield 71, 3) := by decide +kernel
theorem dX5_accept_34 : decode cX5_accept 34 = .ok (.ifCond .le 5, 3) := by decide +kernel
theorem dX5_accept_37 : decode cX5_accept 37 = .ok (.iconst 0, 1) := by decide +kernel
theorem dX5_accept_38 : decode cX5_accept 38 = .ok (.ireturn, 1) := by decide +kernel
theorem dX5_accept_39 : decode cX5_accept 39 = .ok (.aload_n 0, 1) := by decide +kernel
theorem dX5_accept_40 : decode cX5_accept 40 = .ok (.getfield 22, 3) := by decide +kernel
theorem dX5_accept_43 : decode cX5_accept 43 = .ok (.iload_n 1, 1) := by decide +kernel
theorem dX5_accept_44 : decode cX5_accept 44 = .ok (.iconst 1, 1) := by decide +kernel
theorem dX5_accept_45 : decode cX5_accept 45 = .ok (.iastore, 1) := by decide +kernel
theorem dX5_accept_46 : decode cX5_accept 46 = .ok (.aload_n 0, 1) := by decide +kernel
theorem dX5_accept_47 : decode cX5_accept 47 = .ok (.getfield 28, 3) := by decide +kernel
theorem dX5_accept_50 : decode cX5_accept 50 = .ok (.iload_n 1, 1) := by decide +kernel
theorem dX5_accept_51 : decode cX5_accept 51 = .ok (.aload_n 0, 1) := by decide +kernel
theorem dX5_accept_52 : decode cX5_accept 52 = .ok (.getfield 93, 3) := by decide +kernel
theorem dX5_accept_55 : decode cX5_accept 55 = .ok (.iastore, 1) := by decide +kernel
theorem dX5_accept_56 : decode cX5_accept 56 = .ok (.aload_n 0, 1) := by decide +kernel
theorem dX5_accept_57 : decode cX5_accept 57 = .ok (.iload_n 1, 1) := by decide +kernel
theorem dX5_accept_58 : decode cX5_accept 58 = .ok (.invokevirtual 114, 3) := by decide +kernel
theorem dX5_accept_61 : decode cX5_accept 61 = .ok (.ireturn, 1) := by decide +kernel
theorem dX5_refuse_0 : decode cX5_refuse 0 = .ok (.aload_n 0, 1) := by decide +kernel
theorem dX5_refuse_1 : decode cX5_refuse 1 = .ok (.aload_n 0, 1) := by decide +kernel
theorem dX5_refuse_2 : decode cX5_refuse 2 = .ok (.iload_n 1, 1) := by decide +kernel
theorem dX5_refuse_3 : decode cX5_refuse 3 = .ok (.invokevirtual 82, 3) := by decide +kernel
theorem dX5_refuse_6 : decode cX5_refuse 6 = .ok (.ifCond .ne 7, 3) := by decide +kernel
theorem dX5_refuse_9 : decode cX5_refuse 9 = .ok (.iconst 1, 1) := by decide +kernel
theorem dX5_refuse_10 : decode cX5_refuse 10 = .ok (.goto 17, 3) := by decide +kernel
theorem dX5_refuse_13 : decode cX5_refuse 13 = .ok (.aload_n 0, 1) := by decide +kernel
theorem dX5_refuse_14 : decode cX5_refuse 14 = .ok (.getfield 22, 3) := by decide +kernel
theorem dX5_refuse_17 : decode cX5_refuse 17 = .ok (.iload_n 1, 1) := by decide +kernel
theorem dX5_refuse_18 : decode cX5_refuse 18 = .ok (.iaload, 1) := by decide +kernel
theorem dX5_refuse_19 : decode cX5_refuse 19 = .ok (.ifCond .eq 7, 3) := by decide +kernel
theorem dX5_refuse_22 : decode cX5_refuse 22 = .ok (.iconst 2, 1) := by decide +kernel
theorem dX5_refuse_23 : decode cX5_refuse 23 = .ok (.goto 4, 3) := by decide +kernel
theorem dX5_refuse_26 : decode cX5_refuse 26 = .ok (.iconst 0, 1) := by decide +kernel
theorem dX5_refuse_27 : decode cX5_refuse 27 = .ok (.putfield 71, 3) := by decide +kernel
theorem dX5_refuse_30 : decode cX5_refuse 30 = .ok (.aload_n 0, 1) := by decide +kernel
theorem dX5_refuse_31 : decode cX5_refuse 31 = .ok (.getfield 71, 3) := by decide +kernel
theorem dX5_refuse_34 : decode cX5_refuse 34 = .ok (.ifCond .le 5, 3) := by decide +kernel
theorem dX5_refuse_37 : decode cX5_refuse 37 = .ok (.iconst 0, 1) := by decide +kernel
theorem dX5_refuse_38 : decode cX5_refuse 38 = .ok (.ireturn, 1) := by decide +kernel
theorem dX5_refuse_39 : decode cX5_refuse 39 = .ok (.aload_n 0, 1) := by decide +kernel
theorem dX5_refuse_40 : decode cX5_refuse 40 = .ok (.getfield 22, 3) := by decide +kernel
theorem dX5_refuse_43 : decode cX5_refuse 43 = .ok (.iload_n 1, 1) := by decide +kernel
theorem dX5_refuse_44 : decode cX5_refuse 44 = .ok (.iconst 2, 1) := by decide +kernel
theorem dX5_refuse_45 : decode cX5_refuse 45 = .ok (.iastore, 1) := by decide +kernel
theorem dX5_refuse_46 : decode cX5_refuse 46 = .ok (.aload_n 0, 1) := by decide +kernel
theorem dX5_refuse_47 : decode cX5_refuse 47 = .ok (.iload_n 1, 1) := by decide +kernel
theorem dX5_refuse_48 : decode cX5_refuse 48 = .ok (.iconst 1, 1) := by decide +kernel
theorem dX5_refuse_49 : decode cX5_refuse 49 = .ok (.invokevirtual 110, 3) := by decide +kernel
theorem dX5_refuse_52 : decode cX5_refuse 52 = .ok (.ireturn, 1) := by decide +kernel
theorem dX5_lessens_0 : decode cX5_lessens 0 = .ok (.iconst 3, 1) := by decide +kernel
theorem dX5_lessens_1 : decode cX5_lessens 1 = .ok (.iload_n 1, 1) := by decide +kernel
theorem dX5_lessens_2 : decode cX5_lessens 2 = .ok (.imul, 1) := by decide +kernel
theorem dX5_lessens_3 : decode cX5_lessens 3 = .ok (.iload_n 2, 1) := by decide +kernel
theorem dX5_lessens_4 : decode cX5_lessens 4 = .ok (.iadd, 1) := by decide +kernel
theorem dX5_lessens_5 : decode cX5_lessens 5 = .ok (.istore 4, 2) := by decide +kernel
theorem dX5_lessens_7 : decode cX5_lessens 7 = .ok (.aload_n 0, 1) := by decide +kernel
theorem dX5_lessens_8 : decode cX5_lessens 8 = .ok (.getfield 59, 3) := by decide +kernel
theorem dX5_lessens_11 : decode cX5_lessens 11 = .ok (.aload_n 0, 1) := by decide +kernel
theorem dX5_lessens_12 : decode cX5_lessens 12 = .ok (.getfield 100, 3) := by decide +kernel
theorem dX5_lessens_15 : decode cX5_lessens 15 = .ok (.iload_n 1, 1) := by decide +kernel
theorem dX5_lessens_16 : decode cX5_lessens 16 = .ok (.iastore, 1) := by decide +kernel
theorem dX5_lessens_17 : decode cX5_lessens 17 = .ok (.aload_n 0, 1) := by decide +kernel
theorem dX5_lessens_18 : decode cX5_lessens 18 = .ok (.getfield 62, 3) := by decide +kernel
theorem dX5_lessens_21 : decode cX5_lessens 21 = .ok (.aload_n 0, 1) := by decide +kernel
theorem dX5_lessens_22 : decode cX5_lessens 22 = .ok (.getfield 100, 3) := by decide +kernel
theorem dX5_lessens_25 : decode cX5_lessens 25 = .ok (.aload_n 0, 1) := by decide +kernel
theorem dX5_lessens_26 : decode cX5_lessens 26 = .ok (.getfield 93, 3) := by decide +kernel
theorem dX5_lessens_29 : decode cX5_lessens 29 = .ok (.iastore, 1) := by decide +kernel
theorem dX5_lessens_30 : decode cX5_lessens 30 = .ok (.aload_n 0, 1) := by decide +kernel
theorem dX5_lessens_31 : decode cX5_lessens 31 = .ok (.getfield 65, 3) := by decide +kernel
theorem dX5_lessens_34 : decode cX5_lessens 34 = .ok (.aload_n 0, 1) := by decide +kernel
theorem dX5_lessens_35 : decode cX5_lessens 35 = .ok (.getfield 100, 3) := by decide +kernel
theorem dX5_lessens_38 : decode cX5_lessens 38 = .ok (.aload_n 0, 1) := by decide +kernel
theorem dX5_lessens_39 : decode cX5_lessens 39 = .ok (.getfield 47, 3) := by decide +kernel
theorem dX5_lessens_42 : decode cX5_lessens 42 = .ok (.iload 4, 2) := by decide +kernel
theorem dX5_lessens_44 : decode cX5_lessens 44 = .ok (.iaload, 1) := by decide +kernel
theorem dX5_lessens_45 : decode cX5_lessens 45 = .ok (.aload_n 0, 1) := by decide +kernel
theorem dX5_lessens_46 : decode cX5_lessens 46 = .ok (.getfield 53, 3) := by decide +kernel
theorem dX5_lessens_49 : decode cX5_lessens 49 = .ok (.iload 4, 2) := by decide +kernel
theorem dX5_lessens_51 : decode cX5_lessens 51 = .ok (.iaload, 1) := by decide +kernel
theorem dX5_lessens_52 : decode cX5_lessens 52 = .ok (.invokestatic 106, 3) := by decide +kernel
theorem dX5_lessens_55 : decode cX5_lessens 55 = .ok (.aload_n 0, 1) := by decide +kernel
theorem dX5_lessens_56 : decode cX5_lessens 56 = .ok (.getfield 47, 3) := by decide +kernel
theorem dX5_lessens_59 : decode cX5_lessens 59 = .ok (.iload 4, 2) := by decide +kernel
theorem dX5_lessens_61 : decode cX5_lessens 61 = .ok (.iaload, 1) := by decide +kernel
theorem dX5_lessens_62 : decode cX5_lessens 62 = .ok (.iload_n 3, 1) := by decide +kernel
theorem dX5_lessens_63 : decode cX5_lessens 63 = .ok (.isub, 1) := by decide +kernel
theorem dX5_lessens_64 : decode cX5_lessens 64 = .ok (.aload_n 0, 1) := by decide +kernel
theorem dX5_lessens_65 : decode cX5_lessens 65 = .ok (.getfield 53, 3) := by decide +kernel
theorem dX5_lessens_68 : decode cX5_lessens 68 = .ok (.iload 4, 2) := by decide +kernel
theorem dX5_lessens_70 : decode cX5_lessens 70 = .ok (.iaload, 1) := by decide +kernel
theorem dX5_lessens_71 : decode cX5_lessens 71 = .ok (.invokestatic 106, 3) := by decide +kernel
theorem dX5_lessens_74 : decode cX5_lessens 74 = .ok (.isub, 1) := by decide +kernel
theorem dX5_lessens_75 : decode cX5_lessens 75 = .ok (.iastore, 1) := by decide +kernel
theorem dX5_lessens_76 : decode cX5_lessens 76 = .ok (.aload_n 0, 1) := by decide +kernel
theorem dX5_lessens_77 : decode cX5_lessens 77 = .ok (.getfield 47, 3) := by decide +kernel
theorem dX5_lessens_80 : decode cX5_lessens 80 = .ok (.iload 4, 2) := by decide +kernel
theorem dX5_lessens_82 : decode cX5_lessens 82 = .ok (.dup2, 1) := by decide +kernel
theorem dX5_lessens_83 : decode cX5_lessens 83 = .ok (.iaload, 1) := by decide +kernel
theorem dX5_lessens_84 : decode cX5_lessens 84 = .ok (.iload_n 3, 1) := by decide +kernel
theorem dX5_lessens_85 : decode cX5_lessens 85 = .ok (.isub, 1) := by decide +kernel
theorem dX5_lessens_86 : decode cX5_lessens 86 = .ok (.iastore, 1) := by decide +kernel
theorem dX5_lessens_87 : decode cX5_lessens 87 = .ok (.aload_n 0, 1) := by decide +kernel
theorem dX5_lessens_88 : decode cX5_lessens 88 = .ok (.dup, 1) := by decide +kernel
theorem dX5_lessens_89 : decode cX5_lessens 89 = .ok (.getfield 100, 3) := by decide +kernel
theorem dX5_lessens_92 : decode cX5_lessens 92 = .ok (.iconst 1, 1) := by decide +kernel
theorem dX5_lessens_93 : decode cX5_lessens 93 = .ok (.iadd, 1) := by decide +kernel
theorem dX5_lessens_94 : decode cX5_lessens 94 = .ok (.putfield 100, 3) := by decide +kernel
theorem dX5_lessens_97 : decode cX5_lessens 97 = .ok (.return_, 1) := by decide +kernel
theorem dX5_credit_0 : decode cX5_credit 0 = .ok (.aload_n 0, 1) := by decide +kernel
theorem dX5_credit_1 : decode cX5_credit 1 = .ok (.aload_n 0, 1) := by decide +kernel
theorem dX5_credit_2 : decode cX5_credit 2 = .ok (.iload_n 1, 1) := by decide +kernel
theorem dX5_credit_3 : decode cX5_credit 3 = .ok (.iload_n 2, 1) := by decide +kernel
theorem dX5_credit_4 : decode cX5_credit 4 = .ok (.invokevirtual 118, 3) := by decide +kernel
theorem dX5_credit_7 : decode cX5_credit 7 = .ok (.ifCond .ne 7, 3) := by decide +kernel
theorem dX5_credit_10 : decode cX5_credit 10 = .ok (.iconst 1, 1) := by decide +kernel
theorem dX5_credit_11 : decode cX5_credit 11 = .ok (.goto 56, 3) := by decide +kernel
theorem dX5_credit_14 : decode cX5_credit 14 = .ok (.iload_n 3, 1) := by decide +kernel
theorem dX5_credit_15 : decode cX5_credit 15 = .ok (.iconst 1, 1) := by decide +kernel
theorem dX5_credit_16 : decode cX5_credit 16 = .ok (.sipush 9999, 3) := by decide +kernel
theorem dX5_credit_19 : decode cX5_credit 19 = .ok (.invokestatic 75, 3) := by decide +kernel
theorem dX5_credit_22 : decode cX5_credit 22 = .ok (.ifCond .eq 17, 3) := by decide +kernel
theorem dX5_credit_25 : decode cX5_credit 25 = .ok (.iload_n 3, 1) := by decide +kernel
theorem dX5_credit_26 : decode cX5_credit 26 = .ok (.aload_n 0, 1) := by decide +kernel
theorem dX5_credit_27 : decode cX5_credit 27 = .ok (.getfield 47, 3) := by decide +kernel
theorem dX5_credit_30 : decode cX5_credit 30 = .ok (.iconst 3, 1) := by decide +kernel
theorem dX5_credit_31 : decode cX5_credit 31 = .ok (.iload_n 1, 1) := by decide +kernel
theorem dX5_credit_32 : decode cX5_credit 32 = .ok (.imul, 1) := by decide +kernel
theorem dX5_credit_33 : decode cX5_credit 33 = .ok (.iload_n 2, 1) := by decide +kernel
theorem dX5_credit_34 : decode cX5_credit 34 = .ok (.iadd, 1) := by decide +kernel
theorem dX5_credit_35 : decode cX5_credit 35 = .ok (.iaload, 1) := by decide +kernel
theorem dX5_credit_36 : decode cX5_credit 36 = .ok (.if_icmp .le 7, 3) := by decide +kernel
theorem dX5_credit_39 : decode cX5_credit 39 = .ok (.iconst 2, 1) := by decide +kernel
theorem dX5_credit_40 : decode cX5_credit 40 = .ok (.goto 27, 3) := by decide +kernel
theorem dX5_credit_43 : decode cX5_credit 43 = .ok (.aload_n 0, 1) := by decide +kernel
theorem dX5_credit_44 : decode cX5_credit 44 = .ok (.getfield 22, 3) := by decide +kernel
theorem dX5_credit_47 : decode cX5_credit 47 = .ok (.iload_n 1, 1) := by decide +kernel
theorem dX5_credit_48 : decode cX5_credit 48 = .ok (.iaload, 1) := by decide +kernel
theorem dX5_credit_49 : decode cX5_credit 49 = .ok (.iconst 2, 1) := by decide +kernel
theorem dX5_credit_50 : decode cX5_credit 50 = .ok (.if_icmp .eq 12, 3) := by decide +kernel
theorem dX5_credit_53 : decode cX5_credit 53 = .ok (.aload_n 0, 1) := by decide +kernel
theorem dX5_credit_54 : decode cX5_credit 54 = .ok (.getfield 100, 3) := by decide +kernel
theorem dX5_credit_57 : decode cX5_credit 57 = .ok (.bipush 24, 2) := by decide +kernel
theorem dX5_credit_59 : decode cX5_credit 59 = .ok (.if_icmp .ne 7, 3) := by decide +kernel
theorem dX5_credit_62 : decode cX5_credit 62 = .ok (.iconst 3, 1) := by decide +kernel
theorem dX5_credit_63 : decode cX5_credit 63 = .ok (.goto 4, 3) := by decide +kernel
theorem dX5_credit_66 : decode cX5_credit 66 = .ok (.iconst 0, 1) := by decide +kernel
theorem dX5_credit_67 : decode cX5_credit 67 = .ok (.putfield 71, 3) := by decide +kernel
theorem dX5_credit_70 : decode cX5_credit 70 = .ok (.aload_n 0, 1) := by decide +kernel
theorem dX5_credit_71 : decode cX5_credit 71 = .ok (.getfield 71, 3) := by decide +kernel
theorem dX5_credit_74 : decode cX5_credit 74 = .ok (.ifCond .le 5, 3) := by decide +kernel
theorem dX5_credit_77 : decode cX5_credit 77 = .ok (.iconst 0, 1) := by decide +kernel
theorem dX5_credit_78 : decode cX5_credit 78 = .ok (.ireturn, 1) := by decide +kernel
theorem dX5_credit_79 : decode cX5_credit 79 = .ok (.aload_n 0, 1) := by decide +kernel
theorem dX5_credit_80 : decode cX5_credit 80 = .ok (.iload_n 1, 1) := by decide +kernel
theorem dX5_credit_81 : decode cX5_credit 81 = .ok (.iload_n 2, 1) := by decide +kernel
theorem dX5_credit_82 : decode cX5_credit 82 = .ok (.iload_n 3, 1) := by decide +kernel
theorem dX5_credit_83 : decode cX5_credit 83 = .ok (.invokevirtual 121, 3) := by decide +kernel
theorem dX5_credit_86 : decode cX5_credit 86 = .ok (.aload_n 0, 1) := by decide +kernel
theorem dX5_credit_87 : decode cX5_credit 87 = .ok (.getfield 47, 3) := by decide +kernel
theorem dX5_credit_90 : decode cX5_credit 90 = .ok (.iconst 3, 1) := by decide +kernel
theorem dX5_credit_91 : decode cX5_credit 91 = .ok (.iload_n 1, 1) := by decide +kernel
theorem dX5_credit_92 : decode cX5_credit 92 = .ok (.imul, 1) := by decide +kernel
theorem dX5_credit_93 : decode cX5_credit 93 = .ok (.iload_n 2, 1) := by decide +kernel
theorem dX5_credit_94 : decode cX5_credit 94 = .ok (.iadd, 1) := by decide +kernel
theorem dX5_credit_95 : decode cX5_credit 95 = .ok (.iaload, 1) := by decide +kernel
theorem dX5_credit_96 : decode cX5_credit 96 = .ok (.ireturn, 1) := by decide +kernel
theorem dX5_dispute_0 : decode cX5_dispute 0 = .ok (.aload_n 0, 1) := by decide +kernel
theorem dX5_dispute_1 : decode cX5_dispute 1 = .ok (.aload_n 0, 1) := by decide +kernel
theorem dX5_dispute_2 : decode cX5_dispute 2 = .ok (.iload_n 1, 1) := by decide +kernel
theorem dX5_dispute_3 : decode cX5_dispute 3 = .ok (.iload_n 2, 1) := by decide +kernel
theorem dX5_dispute_4 : decode cX5_dispute 4 = .ok (.invokevirtual 118, 3) := by decide +kernel
theorem dX5_dispute_7 : decode cX5_dispute 7 = .ok (.ifCond .ne 7, 3) := by decide +kernel
theorem dX5_dispute_10 : decode cX5_dispute 10 = .ok (.iconst 1, 1) := by decide +kernel
theorem dX5_dispute_11 : decode cX5_dispute 11 = .ok (.goto 44, 3) := by decide +kernel
theorem dX5_dispute_14 : decode cX5_dispute 14 = .ok (.aload_n 0, 1) := by decide +kernel
theorem dX5_dispute_15 : decode cX5_dispute 15 = .ok (.getfield 22, 3) := by decide +kernel
theorem dX5_dispute_18 : decode cX5_dispute 18 = .ok (.iload_n 1, 1) := by decide +kernel
theorem dX5_dispute_19 : decode cX5_dispute 19 = .ok (.iaload, 1) := by decide +kernel
theorem dX5_dispute_20 : decode cX5_dispute 20 = .ok (.iconst 1, 1) := by decide +kernel
theorem dX5_dispute_21 : decode cX5_dispute 21 = .ok (.if_icmp .ne 29, 3) := by decide +kernel
theorem dX5_dispute_24 : decode cX5_dispute 24 = .ok (.aload_n 0, 1) := by decide +kernel
theorem dX5_dispute_25 : decode cX5_dispute 25 = .ok (.getfield 56, 3) := by decide +kernel
theorem dX5_dispute_28 : decode cX5_dispute 28 = .ok (.iconst 3, 1) := by decide +kernel
theorem dX5_dispute_29 : decode cX5_dispute 29 = .ok (.iload_n 1, 1) := by decide +kernel
theorem dX5_dispute_30 : decode cX5_dispute 30 = .ok (.imul, 1) := by decide +kernel
theorem dX5_dispute_31 : decode cX5_dispute 31 = .ok (.iload_n 2, 1) := by decide +kernel
theorem dX5_dispute_32 : decode cX5_dispute 32 = .ok (.iadd, 1) := by decide +kernel
theorem dX5_dispute_33 : decode cX5_dispute 33 = .ok (.baload, 1) := by decide +kernel
theorem dX5_dispute_34 : decode cX5_dispute 34 = .ok (.ifCond .ne 16, 3) := by decide +kernel
theorem dX5_dispute_37 : decode cX5_dispute 37 = .ok (.aload_n 0, 1) := by decide +kernel
theorem dX5_dispute_38 : decode cX5_dispute 38 = .ok (.getfield 47, 3) := by decide +kernel
theorem dX5_dispute_41 : decode cX5_dispute 41 = .ok (.iconst 3, 1) := by decide +kernel
theorem dX5_dispute_42 : decode cX5_dispute 42 = .ok (.iload_n 1, 1) := by decide +kernel
theorem dX5_dispute_43 : decode cX5_dispute 43 = .ok (.imul, 1) := by decide +kernel
theorem dX5_dispute_44 : decode cX5_dispute 44 = .ok (.iload_n 2, 1) := by decide +kernel
theorem dX5_dispute_45 : decode cX5_dispute 45 = .ok (.iadd, 1) := by decide +kernel
theorem dX5_dispute_46 : decode cX5_dispute 46 = .ok (.iaload, 1) := by decide +kernel
theorem dX5_dispute_47 : decode cX5_dispute 47 = .ok (.ifCond .ne 7, 3) := by decide +kernel
theorem dX5_dispute_50 : decode cX5_dispute 50 = .ok (.iconst 2, 1) := by decide +kernel
theorem dX5_dispute_51 : decode cX5_dispute 51 = .ok (.goto 4, 3) := by decide +kernel
theorem dX5_dispute_54 : decode cX5_dispute 54 = .ok (.iconst 0, 1) := by decide +kernel
theorem dX5_dispute_55 : decode cX5_dispute 55 = .ok (.putfield 71, 3) := by decide +kernel
theorem dX5_dispute_58 : decode cX5_dispute 58 = .ok (.aload_n 0, 1) := by decide +kernel
theorem dX5_dispute_59 : decode cX5_dispute 59 = .ok (.getfield 71, 3) := by decide +kernel
theorem dX5_dispute_62 : decode cX5_dispute 62 = .ok (.ifCond .le 5, 3) := by decide +kernel
theorem dX5_dispute_65 : decode cX5_dispute 65 = .ok (.iconst 0, 1) := by decide +kernel
theorem dX5_dispute_66 : decode cX5_dispute 66 = .ok (.ireturn, 1) := by decide +kernel
theorem dX5_dispute_67 : decode cX5_dispute 67 = .ok (.aload_n 0, 1) := by decide +kernel
theorem dX5_dispute_68 : decode cX5_dispute 68 = .ok (.getfield 56, 3) := by decide +kernel
theorem dX5_dispute_71 : decode cX5_dispute 71 = .ok (.iconst 3, 1) := by decide +kernel
theorem dX5_dispute_72 : decode cX5_dispute 72 = .ok (.iload_n 1, 1) := by decide +kernel
theorem dX5_dispute_73 : decode cX5_dispute 73 = .ok (.imul, 1) := by decide +kernel
theorem dX5_dispute_74 : decode cX5_dispute 74 = .ok (.iload_n 2, 1) := by decide +kernel
theorem dX5_dispute_75 : decode cX5_dispute 75 = .ok (.iadd, 1) := by decide +kernel
theorem dX5_dispute_76 : decode cX5_dispute 76 = .ok (.iconst 1, 1) := by decide +kernel
theorem dX5_dispute_77 : decode cX5_dispute 77 = .ok (.bastore, 1) := by decide +kernel
theorem dX5_dispute_78 : decode cX5_dispute 78 = .ok (.aload_n 0, 1) := by decide +kernel
theorem dX5_dispute_79 : decode cX5_dispute 79 = .ok (.iload_n 1, 1) := by decide +kernel
theorem dX5_dispute_80 : decode cX5_dispute 80 = .ok (.invokevirtual 114, 3) := by decide +kernel
theorem dX5_dispute_83 : decode cX5_dispute 83 = .ok (.ireturn, 1) := by decide +kernel
theorem dX5_settle_0 : decode cX5_settle 0 = .ok (.aload_n 0, 1) := by decide +kernel
theorem dX5_settle_1 : decode cX5_settle 1 = .ok (.aload_n 0, 1) := by decide +kernel
theorem dX5_settle_2 : decode cX5_settle 2 = .ok (.iload_n 1, 1) := by decide +kernel
theorem dX5_settle_3 : decode cX5_settle 3 = .ok (.iload_n 2, 1) := by decide +kernel
theorem dX5_settle_4 : decode cX5_settle 4 = .ok (.invokevirtual 118, 3) := by decide +kernel
theorem dX5_settle_7 : decode cX5_settle 7 = .ok (.ifCond .ne 7, 3) := by decide +kernel
theorem dX5_settle_10 : decode cX5_settle 10 = .ok (.iconst 1, 1) := by decide +kernel
theorem dX5_settle_11 : decode cX5_settle 11 = .ok (.goto 34, 3) := by decide +kernel
theorem dX5_settle_14 : decode cX5_settle 14 = .ok (.aload_n 0, 1) := by decide +kernel
theorem dX5_settle_15 : decode cX5_settle 15 = .ok (.getfield 56, 3) := by decide +kernel
theorem dX5_settle_18 : decode cX5_settle 18 = .ok (.iconst 3, 1) := by decide +kernel
theorem dX5_settle_19 : decode cX5_settle 19 = .ok (.iload_n 1, 1) := by decide +kernel
theorem dX5_settle_20 : decode cX5_settle 20 = .ok (.imul, 1) := by decide +kernel
theorem dX5_settle_21 : decode cX5_settle 21 = .ok (.iload_n 2, 1) := by decide +kernel
theorem dX5_settle_22 : decode cX5_settle 22 = .ok (.iadd, 1) := by decide +kernel
theorem dX5_settle_23 : decode cX5_settle 23 = .ok (.baload, 1) := by decide +kernel
theorem dX5_settle_24 : decode cX5_settle 24 = .ok (.ifCond .eq 16, 3) := by decide +kernel
theorem dX5_settle_27 : decode cX5_settle 27 = .ok (.iload_n 3, 1) := by decide +kernel
theorem dX5_settle_28 : decode cX5_settle 28 = .ok (.ifCond .eq 16, 3) := by decide +kernel
theorem dX5_settle_31 : decode cX5_settle 31 = .ok (.aload_n 0, 1) := by decide +kernel
theorem dX5_settle_32 : decode cX5_settle 32 = .ok (.getfield 100, 3) := by decide +kernel
theorem dX5_settle_35 : decode cX5_settle 35 = .ok (.bipush 24, 2) := by decide +kernel
theorem dX5_settle_37 : decode cX5_settle 37 = .ok (.if_icmp .ne 7, 3) := by decide +kernel
theorem dX5_settle_40 : decode cX5_settle 40 = .ok (.iconst 2, 1) := by decide +kernel
theorem dX5_settle_41 : decode cX5_settle 41 = .ok (.goto 4, 3) := by decide +kernel
theorem dX5_settle_44 : decode cX5_settle 44 = .ok (.iconst 0, 1) := by decide +kernel
theorem dX5_settle_45 : decode cX5_settle 45 = .ok (.putfield 71, 3) := by decide +kernel
theorem dX5_settle_48 : decode cX5_settle 48 = .ok (.aload_n 0, 1) := by decide +kernel
theorem dX5_settle_49 : decode cX5_settle 49 = .ok (.getfield 71, 3) := by decide +kernel
theorem dX5_settle_52 : decode cX5_settle 52 = .ok (.ifCond .le 5, 3) := by decide +kernel
theorem dX5_settle_55 : decode cX5_settle 55 = .ok (.iconst 0, 1) := by decide +kernel
theorem dX5_settle_56 : decode cX5_settle 56 = .ok (.ireturn, 1) := by decide +kernel
theorem dX5_settle_57 : decode cX5_settle 57 = .ok (.aload_n 0, 1) := by decide +kernel
theorem dX5_settle_58 : decode cX5_settle 58 = .ok (.getfield 56, 3) := by decide +kernel
theorem dX5_settle_61 : decode cX5_settle 61 = .ok (.iconst 3, 1) := by decide +kernel
theorem dX5_settle_62 : decode cX5_settle 62 = .ok (.iload_n 1, 1) := by decide +kernel
theorem dX5_settle_63 : decode cX5_settle 63 = .ok (.imul, 1) := by decide +kernel
theorem dX5_settle_64 : decode cX5_settle 64 = .ok (.iload_n 2, 1) := by decide +kernel
theorem dX5_settle_65 : decode cX5_settle 65 = .ok (.iadd, 1) := by decide +kernel
theorem dX5_settle_66 : decode cX5_settle 66 = .ok (.iconst 0, 1) := by decide +kernel
theorem dX5_settle_67 : decode cX5_settle 67 = .ok (.bastore, 1) := by decide +kernel
theorem dX5_settle_68 : decode cX5_settle 68 = .ok (.iload_n 3, 1) := by decide +kernel
theorem dX5_settle_69 : decode cX5_settle 69 = .ok (.ifCond .eq 19, 3) := by decide +kernel
theorem dX5_settle_72 : decode cX5_settle 72 = .ok (.aload_n 0, 1) := by decide +kernel
theorem dX5_settle_73 : decode cX5_settle 73 = .ok (.iload_n 1, 1) := by decide +kernel
theorem dX5_settle_74 : decode cX5_settle 74 = .ok (.iload_n 2, 1) := by decide +kernel
theorem dX5_settle_75 : decode cX5_settle 75 = .ok (.aload_n 0, 1) := by decide +kernel
theorem dX5_settle_76 : decode cX5_settle 76 = .ok (.getfield 47, 3) := by decide +kernel
theorem dX5_settle_79 : decode cX5_settle 79 = .ok (.iconst 3, 1) := by decide +kernel
theorem dX5_settle_80 : decode cX5_settle 80 = .ok (.iload_n 1, 1) := by decide +kernel
theorem dX5_settle_81 : decode cX5_settle 81 = .ok (.imul, 1) := by decide +kernel
theorem dX5_settle_82 : decode cX5_settle 82 = .ok (.iload_n 2, 1) := by decide +kernel
theorem dX5_settle_83 : decode cX5_settle 83 = .ok (.iadd, 1) := by decide +kernel
theorem dX5_settle_84 : decode cX5_settle 84 = .ok (.iaload, 1) := by decide +kernel
theorem dX5_settle_85 : decode cX5_settle 85 = .ok (.invokevirtual 121, 3) := by decide +kernel
theorem dX5_settle_88 : decode cX5_settle 88 = .ok (.aload_n 0, 1) := by decide +kernel
theorem dX5_settle_89 : decode cX5_settle 89 = .ok (.iload_n 1, 1) := by decide +kernel
theorem dX5_settle_90 : decode cX5_settle 90 = .ok (.invokevirtual 114, 3) := by decide +kernel
theorem dX5_settle_93 : decode cX5_settle 93 = .ok (.ireturn, 1) := by decide +kernel
theorem dX5_moves_0 : decode cX5_moves 0 = .ok (.aload_n 0, 1) := by decide +kernel
theorem dX5_moves_1 : decode cX5_moves 1 = .ok (.getfield 7, 3) := by decide +kernel
theorem dX5_moves_4 : decode cX5_moves 4 = .ok (.iload_n 1, 1) := by decide +kernel
theorem dX5_moves_5 : decode cX5_moves 5 = .ok (.dup2, 1) := by decide +kernel
theorem dX5_moves_6 : decode cX5_moves 6 = .ok (.iaload, 1) := by decide +kernel
theorem dX5_moves_7 : decode cX5_moves 7 = .ok (.iload_n 3, 1) := by decide +kernel
theorem dX5_moves_8 : decode cX5_moves 8 = .ok (.isub, 1) := by decide +kernel
theorem dX5_moves_9 : decode cX5_moves 9 = .ok (.iastore, 1) := by decide +kernel
theorem dX5_moves_10 : decode cX5_moves 10 = .ok (.aload_n 0, 1) := by decide +kernel
theorem dX5_moves_11 : decode cX5_moves 11 = .ok (.getfield 7, 3) := by decide +kernel
theorem dX5_moves_14 : decode cX5_moves 14 = .ok (.iload_n 2, 1) := by decide +kernel
theorem dX5_moves_15 : decode cX5_moves 15 = .ok (.dup2, 1) := by decide +kernel
theorem dX5_moves_16 : decode cX5_moves 16 = .ok (.iaload, 1) := by decide +kernel
theorem dX5_moves_17 : decode cX5_moves 17 = .ok (.iload_n 3, 1) := by decide +kernel
theorem dX5_moves_18 : decode cX5_moves 18 = .ok (.iadd, 1) := by decide +kernel
theorem dX5_moves_19 : decode cX5_moves 19 = .ok (.iastore, 1) := by decide +kernel
theorem dX5_moves_20 : decode cX5_moves 20 = .ok (.return_, 1) := by decide +kernel
theorem dX5_sell_0 : decode cX5_sell 0 = .ok (.aload_n 0, 1) := by decide +kernel
theorem dX5_sell_1 : decode cX5_sell 1 = .ok (.aload_n 0, 1) := by decide +kernel
theorem dX5_sell_2 : decode cX5_sell 2 = .ok (.iload_n 1, 1) := by decide +kernel
theorem dX5_sell_3 : decode cX5_sell 3 = .ok (.invokevirtual 82, 3) := by decide +kernel
theorem dX5_sell_6 : decode cX5_sell 6 = .ok (.ifCond .eq 10, 3) := by decide +kernel
theorem dX5_sell_9 : decode cX5_sell 9 = .ok (.iload_n 2, 1) := by decide +kernel
theorem dX5_sell_10 : decode cX5_sell 10 = .ok (.invokestatic 86, 3) := by decide +kernel
theorem dX5_sell_13 : decode cX5_sell 13 = .ok (.ifCond .ne 7, 3) := by decide +kernel
theorem dX5_sell_16 : decode cX5_sell 16 = .ok (.iconst 1, 1) := by decide +kernel
theorem dX5_sell_17 : decode cX5_sell 17 = .ok (.goto 65, 3) := by decide +kernel
theorem dX5_sell_20 : decode cX5_sell 20 = .ok (.iload_n 3, 1) := by decide +kernel
theorem dX5_sell_21 : decode cX5_sell 21 = .ok (.iconst 1, 1) := by decide +kernel
theorem dX5_sell_22 : decode cX5_sell 22 = .ok (.bipush 100, 2) := by decide +kernel
theorem dX5_sell_24 : decode cX5_sell 24 = .ok (.invokestatic 75, 3) := by decide +kernel
theorem dX5_sell_27 : decode cX5_sell 27 = .ok (.ifCond .eq 23, 3) := by decide +kernel
theorem dX5_sell_30 : decode cX5_sell 30 = .ok (.iload_n 2, 1) := by decide +kernel
theorem dX5_sell_31 : decode cX5_sell 31 = .ok (.aload_n 0, 1) := by decide +kernel
theorem dX5_sell_32 : decode cX5_sell 32 = .ok (.getfield 13, 3) := by decide +kernel
theorem dX5_sell_35 : decode cX5_sell 35 = .ok (.iload_n 1, 1) := by decide +kernel
theorem dX5_sell_36 : decode cX5_sell 36 = .ok (.iaload, 1) := by decide +kernel
theorem dX5_sell_37 : decode cX5_sell 37 = .ok (.if_icmp .eq 13, 3) := by decide +kernel
theorem dX5_sell_40 : decode cX5_sell 40 = .ok (.iload_n 2, 1) := by decide +kernel
theorem dX5_sell_41 : decode cX5_sell 41 = .ok (.aload_n 0, 1) := by decide +kernel
theorem dX5_sell_42 : decode cX5_sell 42 = .ok (.getfield 16, 3) := by decide +kernel
theorem dX5_sell_45 : decode cX5_sell 45 = .ok (.iload_n 1, 1) := by decide +kernel
theorem dX5_sell_46 : decode cX5_sell 46 = .ok (.iaload, 1) := by decide +kernel
theorem dX5_sell_47 : decode cX5_sell 47 = .ok (.if_icmp .ne 7, 3) := by decide +kernel
theorem dX5_sell_50 : decode cX5_sell 50 = .ok (.iconst 2, 1) := by decide +kernel
theorem dX5_sell_51 : decode cX5_sell 51 = .ok (.goto 31, 3) := by decide +kernel
theorem dX5_sell_54 : decode cX5_sell 54 = .ok (.aload_n 0, 1) := by decide +kernel
theorem dX5_sell_55 : decode cX5_sell 55 = .ok (.iload_n 1, 1) := by decide +kernel
theorem dX5_sell_56 : decode cX5_sell 56 = .ok (.invokevirtual 114, 3) := by decide +kernel
theorem dX5_sell_59 : decode cX5_sell 59 = .ok (.ifCond .eq 18, 3) := by decide +kernel
theorem dX5_sell_62 : decode cX5_sell 62 = .ok (.aload_n 0, 1) := by decide +kernel
theorem dX5_sell_63 : decode cX5_sell 63 = .ok (.getfield 31, 3) := by decide +kernel
theorem dX5_sell_66 : decode cX5_sell 66 = .ok (.iload_n 1, 1) := by decide +kernel
theorem dX5_sell_67 : decode cX5_sell 67 = .ok (.iaload, 1) := by decide +kernel
theorem dX5_sell_68 : decode cX5_sell 68 = .ok (.aload_n 0, 1) := by decide +kernel
theorem dX5_sell_69 : decode cX5_sell 69 = .ok (.getfield 13, 3) := by decide +kernel
theorem dX5_sell_72 : decode cX5_sell 72 = .ok (.iload_n 1, 1) := by decide +kernel
theorem dX5_sell_73 : decode cX5_sell 73 = .ok (.iaload, 1) := by decide +kernel
theorem dX5_sell_74 : decode cX5_sell 74 = .ok (.if_icmp .eq 7, 3) := by decide +kernel
theorem dX5_sell_77 : decode cX5_sell 77 = .ok (.iconst 3, 1) := by decide +kernel
theorem dX5_sell_78 : decode cX5_sell 78 = .ok (.goto 4, 3) := by decide +kernel
theorem dX5_sell_81 : decode cX5_sell 81 = .ok (.iconst 0, 1) := by decide +kernel
theorem dX5_sell_82 : decode cX5_sell 82 = .ok (.putfield 71, 3) := by decide +kernel
theorem dX5_sell_85 : decode cX5_sell 85 = .ok (.aload_n 0, 1) := by decide +kernel
theorem dX5_sell_86 : decode cX5_sell 86 = .ok (.getfield 71, 3) := by decide +kernel
theorem dX5_sell_89 : decode cX5_sell 89 = .ok (.ifCond .le 5, 3) := by decide +kernel
theorem dX5_sell_92 : decode cX5_sell 92 = .ok (.iconst 0, 1) := by decide +kernel
theorem dX5_sell_93 : decode cX5_sell 93 = .ok (.ireturn, 1) := by decide +kernel
theorem dX5_sell_94 : decode cX5_sell 94 = .ok (.aload_n 0, 1) := by decide +kernel
theorem dX5_sell_95 : decode cX5_sell 95 = .ok (.getfield 34, 3) := by decide +kernel
theorem dX5_sell_98 : decode cX5_sell 98 = .ok (.iload_n 1, 1) := by decide +kernel
theorem dX5_sell_99 : decode cX5_sell 99 = .ok (.aload_n 0, 1) := by decide +kernel
theorem dX5_sell_100 : decode cX5_sell 100 = .ok (.iload_n 1, 1) := by decide +kernel
theorem dX5_sell_101 : decode cX5_sell 101 = .ok (.invokevirtual 114, 3) := by decide +kernel
theorem dX5_sell_104 : decode cX5_sell 104 = .ok (.iload_n 3, 1) := by decide +kernel
theorem dX5_sell_105 : decode cX5_sell 105 = .ok (.imul, 1) := by decide +kernel
theorem dX5_sell_106 : decode cX5_sell 106 = .ok (.bipush 100, 2) := by decide +kernel
theorem dX5_sell_108 : decode cX5_sell 108 = .ok (.idiv, 1) := by decide +kernel
theorem dX5_sell_109 : decode cX5_sell 109 = .ok (.iastore, 1) := by decide +kernel
theorem dX5_sell_110 : decode cX5_sell 110 = .ok (.aload_n 0, 1) := by decide +kernel
theorem dX5_sell_111 : decode cX5_sell 111 = .ok (.getfield 37, 3) := by decide +kernel
theorem dX5_sell_114 : decode cX5_sell 114 = .ok (.iload_n 1, 1) := by decide +kernel
theorem dX5_sell_115 : decode cX5_sell 115 = .ok (.iload 4, 2) := by decide +kernel
theorem dX5_sell_117 : decode cX5_sell 117 = .ok (.bastore, 1) := by decide +kernel
theorem dX5_sell_118 : decode cX5_sell 118 = .ok (.aload_n 0, 1) := by decide +kernel
theorem dX5_sell_119 : decode cX5_sell 119 = .ok (.getfield 31, 3) := by decide +kernel
theorem dX5_sell_122 : decode cX5_sell 122 = .ok (.iload_n 1, 1) := by decide +kernel
theorem dX5_sell_123 : decode cX5_sell 123 = .ok (.iload_n 2, 1) := by decide +kernel
theorem dX5_sell_124 : decode cX5_sell 124 = .ok (.iastore, 1) := by decide +kernel
theorem dX5_sell_125 : decode cX5_sell 125 = .ok (.aload_n 0, 1) := by decide +kernel
theorem dX5_sell_126 : decode cX5_sell 126 = .ok (.iload_n 2, 1) := by decide +kernel
theorem dX5_sell_127 : decode cX5_sell 127 = .ok (.aload_n 0, 1) := by decide +kernel
theorem dX5_sell_128 : decode cX5_sell 128 = .ok (.getfield 13, 3) := by decide +kernel
theorem dX5_sell_131 : decode cX5_sell 131 = .ok (.iload_n 1, 1) := by decide +kernel
theorem dX5_sell_132 : decode cX5_sell 132 = .ok (.iaload, 1) := by decide +kernel
theorem dX5_sell_133 : decode cX5_sell 133 = .ok (.aload_n 0, 1) := by decide +kernel
theorem dX5_sell_134 : decode cX5_sell 134 = .ok (.getfield 34, 3) := by decide +kernel
theorem dX5_sell_137 : decode cX5_sell 137 = .ok (.iload_n 1, 1) := by decide +kernel
theorem dX5_sell_138 : decode cX5_sell 138 = .ok (.iaload, 1) := by decide +kernel
theorem dX5_sell_139 : decode cX5_sell 139 = .ok (.invokevirtual 124, 3) := by decide +kernel
theorem dX5_sell_142 : decode cX5_sell 142 = .ok (.aload_n 0, 1) := by decide +kernel
theorem dX5_sell_143 : decode cX5_sell 143 = .ok (.getfield 34, 3) := by decide +kernel
theorem dX5_sell_146 : decode cX5_sell 146 = .ok (.iload_n 1, 1) := by decide +kernel
theorem dX5_sell_147 : decode cX5_sell 147 = .ok (.iaload, 1) := by decide +kernel
theorem dX5_sell_148 : decode cX5_sell 148 = .ok (.ireturn, 1) := by decide +kernel
theorem dX5_giveBack_0 : decode cX5_giveBack 0 = .ok (.aload_n 0, 1) := by decide +kernel
theorem dX5_giveBack_1 : decode cX5_giveBack 1 = .ok (.aload_n 0, 1) := by decide +kernel
theorem dX5_giveBack_2 : decode cX5_giveBack 2 = .ok (.iload_n 1, 1) := by decide +kernel
theorem dX5_giveBack_3 : decode cX5_giveBack 3 = .ok (.invokevirtual 82, 3) := by decide +kernel
theorem dX5_giveBack_6 : decode cX5_giveBack 6 = .ok (.ifCond .ne 7, 3) := by decide +kernel
theorem dX5_giveBack_9 : decode cX5_giveBack 9 = .ok (.iconst 1, 1) := by decide +kernel
theorem dX5_giveBack_10 : decode cX5_giveBack 10 = .ok (.goto 40, 3) := by decide +kernel
theorem dX5_giveBack_13 : decode cX5_giveBack 13 = .ok (.aload_n 0, 1) := by decide +kernel
theorem dX5_giveBack_14 : decode cX5_giveBack 14 = .ok (.getfield 31, 3) := by decide +kernel
theorem dX5_giveBack_17 : decode cX5_giveBack 17 = .ok (.iload_n 1, 1) := by decide +kernel
theorem dX5_giveBack_18 : decode cX5_giveBack 18 = .ok (.iaload, 1) := by decide +kernel
theorem dX5_giveBack_19 : decode cX5_giveBack 19 = .ok (.aload_n 0, 1) := by decide +kernel
theorem dX5_giveBack_20 : decode cX5_giveBack 20 = .ok (.getfield 13, 3) := by decide +kernel
theorem dX5_giveBack_23 : decode cX5_giveBack 23 = .ok (.iload_n 1, 1) := by decide +kernel
theorem dX5_giveBack_24 : decode cX5_giveBack 24 = .ok (.iaload, 1) := by decide +kernel
theorem dX5_giveBack_25 : decode cX5_giveBack 25 = .ok (.if_icmp .eq 20, 3) := by decide +kernel
theorem dX5_giveBack_28 : decode cX5_giveBack 28 = .ok (.aload_n 0, 1) := by decide +kernel
theorem dX5_giveBack_29 : decode cX5_giveBack 29 = .ok (.getfield 37, 3) := by decide +kernel
theorem dX5_giveBack_32 : decode cX5_giveBack 32 = .ok (.iload_n 1, 1) := by decide +kernel
theorem dX5_giveBack_33 : decode cX5_giveBack 33 = .ok (.baload, 1) := by decide +kernel
theorem dX5_giveBack_34 : decode cX5_giveBack 34 = .ok (.ifCond .eq 11, 3) := by decide +kernel
theorem dX5_giveBack_37 : decode cX5_giveBack 37 = .ok (.aload_n 0, 1) := by decide +kernel
theorem dX5_giveBack_38 : decode cX5_giveBack 38 = .ok (.iload_n 1, 1) := by decide +kernel
theorem dX5_giveBack_39 : decode cX5_giveBack 39 = .ok (.invokevirtual 114, 3) := by decide +kernel
theorem dX5_giveBack_42 : decode cX5_giveBack 42 = .ok (.ifCond .ne 7, 3) := by decide +kernel
theorem dX5_giveBack_45 : decode cX5_giveBack 45 = .ok (.iconst 2, 1) := by decide +kernel
theorem dX5_giveBack_46 : decode cX5_giveBack 46 = .ok (.goto 4, 3) := by decide +kernel
theorem dX5_giveBack_49 : decode cX5_giveBack 49 = .ok (.iconst 0, 1) := by decide +kernel
theorem dX5_giveBack_50 : decode cX5_giveBack 50 = .ok (.putfield 71, 3) := by decide +kernel
theorem dX5_giveBack_53 : decode cX5_giveBack 53 = .ok (.aload_n 0, 1) := by decide +kernel
theorem dX5_giveBack_54 : decode cX5_giveBack 54 = .ok (.getfield 71, 3) := by decide +kernel
theorem dX5_giveBack_57 : decode cX5_giveBack 57 = .ok (.ifCond .le 5, 3) := by decide +kernel
theorem dX5_giveBack_60 : decode cX5_giveBack 60 = .ok (.iconst 0, 1) := by decide +kernel
theorem dX5_giveBack_61 : decode cX5_giveBack 61 = .ok (.ireturn, 1) := by decide +kernel
theorem dX5_giveBack_62 : decode cX5_giveBack 62 = .ok (.aload_n 0, 1) := by decide +kernel
theorem dX5_giveBack_63 : decode cX5_giveBack 63 = .ok (.aload_n 0, 1) := by decide +kernel
theorem dX5_giveBack_64 : decode cX5_giveBack 64 = .ok (.getfield 13, 3) := by decide +kernel
theorem dX5_giveBack_67 : decode cX5_giveBack 67 = .ok (.iload_n 1, 1) := by decide +kernel
theorem dX5_giveBack_68 : decode cX5_giveBack 68 = .ok (.iaload, 1) := by decide +kernel
theorem dX5_giveBack_69 : decode cX5_giveBack 69 = .ok (.aload_n 0, 1) := by decide +kernel
theorem dX5_giveBack_70 : decode cX5_giveBack 70 = .ok (.getfield 31, 3) := by decide +kernel
theorem dX5_giveBack_73 : decode cX5_giveBack 73 = .ok (.iload_n 1, 1) := by decide +kernel
theorem dX5_giveBack_74 : decode cX5_giveBack 74 = .ok (.iaload, 1) := by decide +kernel
theorem dX5_giveBack_75 : decode cX5_giveBack 75 = .ok (.aload_n 0, 1) := by decide +kernel
theorem dX5_giveBack_76 : decode cX5_giveBack 76 = .ok (.getfield 34, 3) := by decide +kernel
theorem dX5_giveBack_79 : decode cX5_giveBack 79 = .ok (.iload_n 1, 1) := by decide +kernel
theorem dX5_giveBack_80 : decode cX5_giveBack 80 = .ok (.iaload, 1) := by decide +kernel
theorem dX5_giveBack_81 : decode cX5_giveBack 81 = .ok (.invokevirtual 124, 3) := by decide +kernel
theorem dX5_giveBack_84 : decode cX5_giveBack 84 = .ok (.aload_n 0, 1) := by decide +kernel
theorem dX5_giveBack_85 : decode cX5_giveBack 85 = .ok (.getfield 31, 3) := by decide +kernel
theorem dX5_giveBack_88 : decode cX5_giveBack 88 = .ok (.iload_n 1, 1) := by decide +kernel
theorem dX5_giveBack_89 : decode cX5_giveBack 89 = .ok (.aload_n 0, 1) := by decide +kernel
theorem dX5_giveBack_90 : decode cX5_giveBack 90 = .ok (.getfield 13, 3) := by decide +kernel
theorem dX5_giveBack_93 : decode cX5_giveBack 93 = .ok (.iload_n 1, 1) := by decide +kernel
theorem dX5_giveBack_94 : decode cX5_giveBack 94 = .ok (.iaload, 1) := by decide +kernel
theorem dX5_giveBack_95 : decode cX5_giveBack 95 = .ok (.iastore, 1) := by decide +kernel
theorem dX5_giveBack_96 : decode cX5_giveBack 96 = .ok (.aload_n 0, 1) := by decide +kernel
theorem dX5_giveBack_97 : decode cX5_giveBack 97 = .ok (.getfield 34, 3) := by decide +kernel
theorem dX5_giveBack_100 : decode cX5_giveBack 100 = .ok (.iload_n 1, 1) := by decide +kernel
theorem dX5_giveBack_101 : decode cX5_giveBack 101 = .ok (.iaload, 1) := by decide +kernel
theorem dX5_giveBack_102 : decode cX5_giveBack 102 = .ok (.ireturn, 1) := by decide +kernel
theorem dX5_type_0 : decode cX5_type 0 = .ok (.aload_n 0, 1) := by decide +kernel
theorem dX5_type_1 : decode cX5_type 1 = .ok (.iload_n 1, 1) := by decide +kernel
theorem dX5_type_2 : decode cX5_type 2 = .ok (.bipush 32, 2) := by decide +kernel
theorem dX5_type_4 : decode cX5_type 4 = .ok (.bipush 126, 2) := by decide +kernel
theorem dX5_type_6 : decode cX5_type 6 = .ok (.invokestatic 75, 3) := by decide +kernel
theorem dX5_type_9 : decode cX5_type 9 = .ok (.ifCond .ne 7, 3) := by decide +kernel
theorem dX5_type_12 : decode cX5_type 12 = .ok (.iconst 1, 1) := by decide +kernel
theorem dX5_type_13 : decode cX5_type 13 = .ok (.goto 17, 3) := by decide +kernel
theorem dX5_type_16 : decode cX5_type 16 = .ok (.aload_n 0, 1) := by decide +kernel
theorem dX5_type_17 : decode cX5_type 17 = .ok (.getfield 127, 3) := by decide +kernel
theorem dX5_type_20 : decode cX5_type 20 = .ok (.bipush 10, 2) := by decide +kernel
theorem dX5_type_22 : decode cX5_type 22 = .ok (.if_icmp .ne 7, 3) := by decide +kernel
theorem dX5_type_25 : decode cX5_type 25 = .ok (.iconst 2, 1) := by decide +kernel
theorem dX5_type_26 : decode cX5_type 26 = .ok (.goto 4, 3) := by decide +kernel
theorem dX5_type_29 : decode cX5_type 29 = .ok (.iconst 0, 1) := by decide +kernel
theorem dX5_type_30 : decode cX5_type 30 = .ok (.putfield 71, 3) := by decide +kernel
theorem dX5_type_33 : decode cX5_type 33 = .ok (.aload_n 0, 1) := by decide +kernel
theorem dX5_type_34 : decode cX5_type 34 = .ok (.getfield 71, 3) := by decide +kernel
theorem dX5_type_37 : decode cX5_type 37 = .ok (.ifCond .le 5, 3) := by decide +kernel
theorem dX5_type_40 : decode cX5_type 40 = .ok (.iconst 0, 1) := by decide +kernel
theorem dX5_type_41 : decode cX5_type 41 = .ok (.ireturn, 1) := by decide +kernel
theorem dX5_type_42 : decode cX5_type 42 = .ok (.aload_n 0, 1) := by decide +kernel
theorem dX5_type_43 : decode cX5_type 43 = .ok (.getfield 68, 3) := by decide +kernel
theorem dX5_type_46 : decode cX5_type 46 = .ok (.aload_n 0, 1) := by decide +kernel
theorem dX5_type_47 : decode cX5_type 47 = .ok (.getfield 127, 3) := by decide +kernel
theorem dX5_type_50 : decode cX5_type 50 = .ok (.iload_n 1, 1) := by decide +kernel
theorem dX5_type_51 : decode cX5_type 51 = .ok (.iastore, 1) := by decide +kernel
theorem dX5_type_52 : decode cX5_type 52 = .ok (.aload_n 0, 1) := by decide +kernel
theorem dX5_type_53 : decode cX5_type 53 = .ok (.dup, 1) := by decide +kernel
theorem dX5_type_54 : decode cX5_type 54 = .ok (.getfield 127, 3) := by decide +kernel
theorem dX5_type_57 : decode cX5_type 57 = .ok (.iconst 1, 1) := by decide +kernel
theorem dX5_type_58 : decode cX5_type 58 = .ok (.iadd, 1) := by decide +kernel
theorem dX5_type_59 : decode cX5_type 59 = .ok (.putfield 127, 3) := by decide +kernel
theorem dX5_type_62 : decode cX5_type 62 = .ok (.aload_n 0, 1) := by decide +kernel
theorem dX5_type_63 : decode cX5_type 63 = .ok (.getfield 127, 3) := by decide +kernel
theorem dX5_type_66 : decode cX5_type 66 = .ok (.ireturn, 1) := by decide +kernel
theorem dX5_clear_0 : decode cX5_clear 0 = .ok (.aload_n 0, 1) := by decide +kernel
theorem dX5_clear_1 : decode cX5_clear 1 = .ok (.iconst 0, 1) := by decide +kernel
theorem dX5_clear_2 : decode cX5_clear 2 = .ok (.putfield 71, 3) := by decide +kernel
theorem dX5_clear_5 : decode cX5_clear 5 = .ok (.aload_n 0, 1) := by decide +kernel
theorem dX5_clear_6 : decode cX5_clear 6 = .ok (.getfield 127, 3) := by decide +kernel
theorem dX5_clear_9 : decode cX5_clear 9 = .ok (.istore_n 1, 1) := by decide +kernel
theorem dX5_clear_10 : decode cX5_clear 10 = .ok (.aload_n 0, 1) := by decide +kernel
theorem dX5_clear_11 : decode cX5_clear 11 = .ok (.iconst 0, 1) := by decide +kernel
theorem dX5_clear_12 : decode cX5_clear 12 = .ok (.putfield 127, 3) := by decide +kernel
theorem dX5_clear_15 : decode cX5_clear 15 = .ok (.iload_n 1, 1) := by decide +kernel
theorem dX5_clear_16 : decode cX5_clear 16 = .ok (.ireturn, 1) := by decide +kernel
theorem dX5_faultOf_0 : decode cX5_faultOf 0 = .ok (.iconst 0, 1) := by decide +kernel
theorem dX5_faultOf_1 : decode cX5_faultOf 1 = .ok (.istore_n 1, 1) := by decide +kernel
theorem dX5_faultOf_2 : decode cX5_faultOf 2 = .ok (.iload_n 1, 1) := by decide +kernel
theorem dX5_faultOf_3 : decode cX5_faultOf 3 = .ok (.aload_n 0, 1) := by decide +kernel
theorem dX5_faultOf_4 : decode cX5_faultOf 4 = .ok (.getfield 127, 3) := by decide +kernel
theorem dX5_faultOf_7 : decode cX5_faultOf 7 = .ok (.if_icmp .ge 65, 3) := by decide +kernel
theorem dX5_faultOf_10 : decode cX5_faultOf 10 = .ok (.iload_n 1, 1) := by decide +kernel
theorem dX5_faultOf_11 : decode cX5_faultOf 11 = .ok (.ifCond .ne 22, 3) := by decide +kernel
theorem dX5_faultOf_14 : decode cX5_faultOf 14 = .ok (.aload_n 0, 1) := by decide +kernel
theorem dX5_faultOf_15 : decode cX5_faultOf 15 = .ok (.getfield 68, 3) := by decide +kernel
theorem dX5_faultOf_18 : decode cX5_faultOf 18 = .ok (.iconst 0, 1) := by decide +kernel
theorem dX5_faultOf_19 : decode cX5_faultOf 19 = .ok (.iaload, 1) := by decide +kernel
theorem dX5_faultOf_20 : decode cX5_faultOf 20 = .ok (.bipush 82, 2) := by decide +kernel
theorem dX5_faultOf_22 : decode cX5_faultOf 22 = .ok (.if_icmp .ne 7, 3) := by decide +kernel
theorem dX5_faultOf_25 : decode cX5_faultOf 25 = .ok (.iconst 1, 1) := by decide +kernel
theorem dX5_faultOf_26 : decode cX5_faultOf 26 = .ok (.goto 33, 3) := by decide +kernel
theorem dX5_faultOf_29 : decode cX5_faultOf 29 = .ok (.iconst 0, 1) := by decide +kernel
theorem dX5_faultOf_30 : decode cX5_faultOf 30 = .ok (.goto 29, 3) := by decide +kernel
theorem dX5_faultOf_33 : decode cX5_faultOf 33 = .ok (.iload_n 1, 1) := by decide +kernel
theorem dX5_faultOf_34 : decode cX5_faultOf 34 = .ok (.iconst 3, 1) := by decide +kernel
theorem dX5_faultOf_35 : decode cX5_faultOf 35 = .ok (.if_icmp .ge 23, 3) := by decide +kernel
theorem dX5_faultOf_38 : decode cX5_faultOf 38 = .ok (.aload_n 0, 1) := by decide +kernel
theorem dX5_faultOf_39 : decode cX5_faultOf 39 = .ok (.getfield 68, 3) := by decide +kernel
theorem dX5_faultOf_42 : decode cX5_faultOf 42 = .ok (.iload_n 1, 1) := by decide +kernel
theorem dX5_faultOf_43 : decode cX5_faultOf 43 = .ok (.iaload, 1) := by decide +kernel
theorem dX5_faultOf_44 : decode cX5_faultOf 44 = .ok (.bipush 48, 2) := by decide +kernel
theorem dX5_faultOf_46 : decode cX5_faultOf 46 = .ok (.bipush 57, 2) := by decide +kernel
theorem dX5_faultOf_48 : decode cX5_faultOf 48 = .ok (.invokestatic 75, 3) := by decide +kernel
theorem dX5_faultOf_51 : decode cX5_faultOf 51 = .ok (.ifCond .eq 7, 3) := by decide +kernel
theorem dX5_faultOf_54 : decode cX5_faultOf 54 = .ok (.iconst 1, 1) := by decide +kernel
theorem dX5_faultOf_55 : decode cX5_faultOf 55 = .ok (.goto 4, 3) := by decide +kernel
theorem dX5_faultOf_58 : decode cX5_faultOf 58 = .ok (.iconst 0, 1) := by decide +kernel
theorem dX5_faultOf_59 : decode cX5_faultOf 59 = .ok (.istore_n 2, 1) := by decide +kernel
theorem dX5_faultOf_60 : decode cX5_faultOf 60 = .ok (.iload_n 2, 1) := by decide +kernel
theorem dX5_faultOf_61 : decode cX5_faultOf 61 = .ok (.ifCond .ne 5, 3) := by decide +kernel
theorem dX5_faultOf_64 : decode cX5_faultOf 64 = .ok (.iload_n 1, 1) := by decide +kernel
theorem dX5_faultOf_65 : decode cX5_faultOf 65 = .ok (.ireturn, 1) := by decide +kernel
theorem dX5_faultOf_66 : decode cX5_faultOf 66 = .ok (.iinc 1 1, 3) := by decide +kernel
theorem dX5_faultOf_69 : decode cX5_faultOf 69 = .ok (.goto (-67), 3) := by decide +kernel
theorem dX5_faultOf_72 : decode cX5_faultOf 72 = .ok (.aload_n 0, 1) := by decide +kernel
theorem dX5_faultOf_73 : decode cX5_faultOf 73 = .ok (.getfield 127, 3) := by decide +kernel
theorem dX5_faultOf_76 : decode cX5_faultOf 76 = .ok (.iconst 2, 1) := by decide +kernel
theorem dX5_faultOf_77 : decode cX5_faultOf 77 = .ok (.if_icmp .ge 10, 3) := by decide +kernel
theorem dX5_faultOf_80 : decode cX5_faultOf 80 = .ok (.aload_n 0, 1) := by decide +kernel
theorem dX5_faultOf_81 : decode cX5_faultOf 81 = .ok (.getfield 127, 3) := by decide +kernel
theorem dX5_faultOf_84 : decode cX5_faultOf 84 = .ok (.goto 4, 3) := by decide +kernel
theorem dX5_faultOf_87 : decode cX5_faultOf 87 = .ok (.iconst (-1), 1) := by decide +kernel
theorem dX5_faultOf_88 : decode cX5_faultOf 88 = .ok (.ireturn, 1) := by decide +kernel
theorem dX5_fault_0 : decode cX5_fault 0 = .ok (.aload_n 0, 1) := by decide +kernel
theorem dX5_fault_1 : decode cX5_fault 1 = .ok (.iconst 0, 1) := by decide +kernel
theorem dX5_fault_2 : decode cX5_fault 2 = .ok (.putfield 71, 3) := by decide +kernel
theorem dX5_fault_5 : decode cX5_fault 5 = .ok (.aload_n 0, 1) := by decide +kernel
theorem dX5_fault_6 : decode cX5_fault 6 = .ok (.invokevirtual 130, 3) := by decide +kernel
theorem dX5_fault_9 : decode cX5_fault 9 = .ok (.ireturn, 1) := by decide +kernel
theorem dX5_pays_0 : decode cX5_pays 0 = .ok (.iload_n 0, 1) := by decide +kernel
theorem dX5_pays_1 : decode cX5_pays 1 = .ok (.invokestatic 86, 3) := by decide +kernel
theorem dX5_pays_4 : decode cX5_pays 4 = .ok (.ifCond .eq 10, 3) := by decide +kernel
theorem dX5_pays_7 : decode cX5_pays 7 = .ok (.iload_n 1, 1) := by decide +kernel
theorem dX5_pays_8 : decode cX5_pays 8 = .ok (.invokestatic 86, 3) := by decide +kernel
theorem dX5_pays_11 : decode cX5_pays 11 = .ok (.ifCond .ne 7, 3) := by decide +kernel
theorem dX5_pays_14 : decode cX5_pays 14 = .ok (.iconst 1, 1) := by decide +kernel
theorem dX5_pays_15 : decode cX5_pays 15 = .ok (.goto 23, 3) := by decide +kernel
theorem dX5_pays_18 : decode cX5_pays 18 = .ok (.iload_n 2, 1) := by decide +kernel
theorem dX5_pays_19 : decode cX5_pays 19 = .ok (.iconst 1, 1) := by decide +kernel
theorem dX5_pays_20 : decode cX5_pays 20 = .ok (.ldc 134, 2) := by decide +kernel
theorem dX5_pays_22 : decode cX5_pays 22 = .ok (.invokestatic 75, 3) := by decide +kernel
theorem dX5_pays_25 : decode cX5_pays 25 = .ok (.ifCond .eq 8, 3) := by decide +kernel
theorem dX5_pays_28 : decode cX5_pays 28 = .ok (.iload_n 0, 1) := by decide +kernel
theorem dX5_pays_29 : decode cX5_pays 29 = .ok (.iload_n 1, 1) := by decide +kernel
theorem dX5_pays_30 : decode cX5_pays 30 = .ok (.if_icmp .ne 7, 3) := by decide +kernel
theorem dX5_pays_33 : decode cX5_pays 33 = .ok (.iconst 2, 1) := by decide +kernel
theorem dX5_pays_34 : decode cX5_pays 34 = .ok (.goto 4, 3) := by decide +kernel
theorem dX5_pays_37 : decode cX5_pays 37 = .ok (.iconst 0, 1) := by decide +kernel
theorem dX5_pays_38 : decode cX5_pays 38 = .ok (.ireturn, 1) := by decide +kernel
theorem dX5_payByText_0 : decode cX5_payByText 0 = .ok (.aload_n 0, 1) := by decide +kernel
theorem dX5_payByText_1 : decode cX5_payByText 1 = .ok (.iload_n 1, 1) := by decide +kernel
theorem dX5_payByText_2 : decode cX5_payByText 2 = .ok (.iload_n 2, 1) := by decide +kernel
theorem dX5_payByText_3 : decode cX5_payByText 3 = .ok (.iload_n 3, 1) := by decide +kernel
theorem dX5_payByText_4 : decode cX5_payByText 4 = .ok (.invokestatic 135, 3) := by decide +kernel
theorem dX5_payByText_7 : decode cX5_payByText 7 = .ok (.putfield 71, 3) := by decide +kernel
theorem dX5_payByText_10 : decode cX5_payByText 10 = .ok (.aload_n 0, 1) := by decide +kernel
theorem dX5_payByText_11 : decode cX5_payByText 11 = .ok (.getfield 71, 3) := by decide +kernel
theorem dX5_payByText_14 : decode cX5_payByText 14 = .ok (.ifCond .le 5, 3) := by decide +kernel
theorem dX5_payByText_17 : decode cX5_payByText 17 = .ok (.iconst 0, 1) := by decide +kernel
theorem dX5_payByText_18 : decode cX5_payByText 18 = .ok (.ireturn, 1) := by decide +kernel
theorem dX5_payByText_19 : decode cX5_payByText 19 = .ok (.aload_n 0, 1) := by decide +kernel
theorem dX5_payByText_20 : decode cX5_payByText 20 = .ok (.invokevirtual 130, 3) := by decide +kernel
theorem dX5_payByText_23 : decode cX5_payByText 23 = .ok (.iconst (-1), 1) := by decide +kernel
theorem dX5_payByText_24 : decode cX5_payByText 24 = .ok (.if_icmp .eq 7, 3) := by decide +kernel
theorem dX5_payByText_27 : decode cX5_payByText 27 = .ok (.iconst (-1), 1) := by decide +kernel
theorem dX5_payByText_28 : decode cX5_payByText 28 = .ok (.goto 45, 3) := by decide +kernel
theorem dX5_payByText_31 : decode cX5_payByText 31 = .ok (.aload_n 0, 1) := by decide +kernel
theorem dX5_payByText_32 : decode cX5_payByText 32 = .ok (.getfield 127, 3) := by decide +kernel
theorem dX5_payByText_35 : decode cX5_payByText 35 = .ok (.iconst 2, 1) := by decide +kernel
theorem dX5_payByText_36 : decode cX5_payByText 36 = .ok (.if_icmp .ne 15, 3) := by decide +kernel
theorem dX5_payByText_39 : decode cX5_payByText 39 = .ok (.aload_n 0, 1) := by decide +kernel
theorem dX5_payByText_40 : decode cX5_payByText 40 = .ok (.getfield 68, 3) := by decide +kernel
theorem dX5_payByText_43 : decode cX5_payByText 43 = .ok (.iconst 1, 1) := by decide +kernel
theorem dX5_payByText_44 : decode cX5_payByText 44 = .ok (.iaload, 1) := by decide +kernel
theorem dX5_payByText_45 : decode cX5_payByText 45 = .ok (.bipush 48, 2) := by decide +kernel
theorem dX5_payByText_47 : decode cX5_payByText 47 = .ok (.isub, 1) := by decide +kernel
theorem dX5_payByText_48 : decode cX5_payByText 48 = .ok (.goto 25, 3) := by decide +kernel
theorem dX5_payByText_51 : decode cX5_payByText 51 = .ok (.bipush 10, 2) := by decide +kernel
theorem dX5_payByText_53 : decode cX5_payByText 53 = .ok (.aload_n 0, 1) := by decide +kernel
theorem dX5_payByText_54 : decode cX5_payByText 54 = .ok (.getfield 68, 3) := by decide +kernel
theorem dX5_payByText_57 : decode cX5_payByText 57 = .ok (.iconst 1, 1) := by decide +kernel
theorem dX5_payByText_58 : decode cX5_payByText 58 = .ok (.iaload, 1) := by decide +kernel
theorem dX5_payByText_59 : decode cX5_payByText 59 = .ok (.bipush 48, 2) := by decide +kernel
theorem dX5_payByText_61 : decode cX5_payByText 61 = .ok (.isub, 1) := by decide +kernel
theorem dX5_payByText_62 : decode cX5_payByText 62 = .ok (.imul, 1) := by decide +kernel
theorem dX5_payByText_63 : decode cX5_payByText 63 = .ok (.aload_n 0, 1) := by decide +kernel
theorem dX5_payByText_64 : decode cX5_payByText 64 = .ok (.getfield 68, 3) := by decide +kernel
theorem dX5_payByText_67 : decode cX5_payByText 67 = .ok (.iconst 2, 1) := by decide +kernel
theorem dX5_payByText_68 : decode cX5_payByText 68 = .ok (.iaload, 1) := by decide +kernel
theorem dX5_payByText_69 : decode cX5_payByText 69 = .ok (.iadd, 1) := by decide +kernel
theorem dX5_payByText_70 : decode cX5_payByText 70 = .ok (.bipush 48, 2) := by decide +kernel
theorem dX5_payByText_72 : decode cX5_payByText 72 = .ok (.isub, 1) := by decide +kernel
theorem dX5_payByText_73 : decode cX5_payByText 73 = .ok (.istore 4, 2) := by decide +kernel
theorem dX5_payByText_75 : decode cX5_payByText 75 = .ok (.aload_n 0, 1) := by decide +kernel
theorem dX5_payByText_76 : decode cX5_payByText 76 = .ok (.iload 4, 2) := by decide +kernel
theorem dX5_payByText_78 : decode cX5_payByText 78 = .ok (.invokevirtual 82, 3) := by decide +kernel
theorem dX5_payByText_81 : decode cX5_payByText 81 = .ok (.ifCond .eq 39, 3) := by decide +kernel
theorem dX5_payByText_84 : decode cX5_payByText 84 = .ok (.aload_n 0, 1) := by decide +kernel
theorem dX5_payByText_85 : decode cX5_payByText 85 = .ok (.getfield 16, 3) := by decide +kernel
theorem dX5_payByText_88 : decode cX5_payByText 88 = .ok (.iload 4, 2) := by decide +kernel
theorem dX5_payByText_90 : decode cX5_payByText 90 = .ok (.iaload, 1) := by decide +kernel
theorem dX5_payByText_91 : decode cX5_payByText 91 = .ok (.iload_n 1, 1) := by decide +kernel
theorem dX5_payByText_92 : decode cX5_payByText 92 = .ok (.if_icmp .ne 28, 3) := by decide +kernel
theorem dX5_payByText_95 : decode cX5_payByText 95 = .ok (.aload_n 0, 1) := by decide +kernel
theorem dX5_payByText_96 : decode cX5_payByText 96 = .ok (.getfield 31, 3) := by decide +kernel
theorem dX5_payByText_99 : decode cX5_payByText 99 = .ok (.iload 4, 2) := by decide +kernel
theorem dX5_payByText_101 : decode cX5_payByText 101 = .ok (.iaload, 1) := by decide +kernel
theorem dX5_payByText_102 : decode cX5_payByText 102 = .ok (.iload_n 2, 1) := by decide +kernel
theorem dX5_payByText_103 : decode cX5_payByText 103 = .ok (.if_icmp .ne 17, 3) := by decide +kernel
theorem dX5_payByText_106 : decode cX5_payByText 106 = .ok (.iload_n 3, 1) := by decide +kernel
theorem dX5_payByText_107 : decode cX5_payByText 107 = .ok (.aload_n 0, 1) := by decide +kernel
theorem dX5_payByText_108 : decode cX5_payByText 108 = .ok (.iload 4, 2) := by decide +kernel
theorem dX5_payByText_110 : decode cX5_payByText 110 = .ok (.invokevirtual 114, 3) := by decide +kernel
theorem dX5_payByText_113 : decode cX5_payByText 113 = .ok (.if_icmp .gt 7, 3) := by decide +kernel
theorem dX5_payByText_116 : decode cX5_payByText 116 = .ok (.iconst 1, 1) := by decide +kernel
theorem dX5_payByText_117 : decode cX5_payByText 117 = .ok (.goto 4, 3) := by decide +kernel
theorem dX5_payByText_120 : decode cX5_payByText 120 = .ok (.iconst 0, 1) := by decide +kernel
theorem dX5_payByText_121 : decode cX5_payByText 121 = .ok (.istore 5, 2) := by decide +kernel
theorem dX5_payByText_123 : decode cX5_payByText 123 = .ok (.aload_n 0, 1) := by decide +kernel
theorem dX5_payByText_124 : decode cX5_payByText 124 = .ok (.iload 5, 2) := by decide +kernel
theorem dX5_payByText_126 : decode cX5_payByText 126 = .ok (.ifCond .eq 7, 3) := by decide +kernel
theorem dX5_payByText_129 : decode cX5_payByText 129 = .ok (.iconst 0, 1) := by decide +kernel
theorem dX5_payByText_130 : decode cX5_payByText 130 = .ok (.goto 4, 3) := by decide +kernel
theorem dX5_payByText_133 : decode cX5_payByText 133 = .ok (.iconst 3, 1) := by decide +kernel
theorem dX5_payByText_134 : decode cX5_payByText 134 = .ok (.putfield 71, 3) := by decide +kernel
theorem dX5_payByText_137 : decode cX5_payByText 137 = .ok (.aload_n 0, 1) := by decide +kernel
theorem dX5_payByText_138 : decode cX5_payByText 138 = .ok (.getfield 71, 3) := by decide +kernel
theorem dX5_payByText_141 : decode cX5_payByText 141 = .ok (.ifCond .le 5, 3) := by decide +kernel
theorem dX5_payByText_144 : decode cX5_payByText 144 = .ok (.iconst 0, 1) := by decide +kernel
theorem dX5_payByText_145 : decode cX5_payByText 145 = .ok (.ireturn, 1) := by decide +kernel
theorem dX5_payByText_146 : decode cX5_payByText 146 = .ok (.aload_n 0, 1) := by decide +kernel
theorem dX5_payByText_147 : decode cX5_payByText 147 = .ok (.getfield 41, 3) := by decide +kernel
theorem dX5_payByText_150 : decode cX5_payByText 150 = .ok (.iload 4, 2) := by decide +kernel
theorem dX5_payByText_152 : decode cX5_payByText 152 = .ok (.dup2, 1) := by decide +kernel
theorem dX5_payByText_153 : decode cX5_payByText 153 = .ok (.iaload, 1) := by decide +kernel
theorem dX5_payByText_154 : decode cX5_payByText 154 = .ok (.iload_n 3, 1) := by decide +kernel
theorem dX5_payByText_155 : decode cX5_payByText 155 = .ok (.iadd, 1) := by decide +kernel
theorem dX5_payByText_156 : decode cX5_payByText 156 = .ok (.iastore, 1) := by decide +kernel
theorem dX5_payByText_157 : decode cX5_payByText 157 = .ok (.aload_n 0, 1) := by decide +kernel
theorem dX5_payByText_158 : decode cX5_payByText 158 = .ok (.iload_n 1, 1) := by decide +kernel
theorem dX5_payByText_159 : decode cX5_payByText 159 = .ok (.iload_n 2, 1) := by decide +kernel
theorem dX5_payByText_160 : decode cX5_payByText 160 = .ok (.iload_n 3, 1) := by decide +kernel
theorem dX5_payByText_161 : decode cX5_payByText 161 = .ok (.invokevirtual 124, 3) := by decide +kernel
theorem dX5_payByText_164 : decode cX5_payByText 164 = .ok (.aload_n 0, 1) := by decide +kernel
theorem dX5_payByText_165 : decode cX5_payByText 165 = .ok (.iconst 0, 1) := by decide +kernel
theorem dX5_payByText_166 : decode cX5_payByText 166 = .ok (.putfield 127, 3) := by decide +kernel
theorem dX5_payByText_169 : decode cX5_payByText 169 = .ok (.iload 4, 2) := by decide +kernel
theorem dX5_payByText_171 : decode cX5_payByText 171 = .ok (.ireturn, 1) := by decide +kernel
theorem dX5_payBySum_0 : decode cX5_payBySum 0 = .ok (.aload_n 0, 1) := by decide +kernel
theorem dX5_payBySum_1 : decode cX5_payBySum 1 = .ok (.iload_n 1, 1) := by decide +kernel
theorem dX5_payBySum_2 : decode cX5_payBySum 2 = .ok (.iload_n 2, 1) := by decide +kernel
theorem dX5_payBySum_3 : decode cX5_payBySum 3 = .ok (.iload_n 3, 1) := by decide +kernel
theorem dX5_payBySum_4 : decode cX5_payBySum 4 = .ok (.invokestatic 135, 3) := by decide +kernel
theorem dX5_payBySum_7 : decode cX5_payBySum 7 = .ok (.putfield 71, 3) := by decide +kernel
theorem dX5_payBySum_10 : decode cX5_payBySum 10 = .ok (.aload_n 0, 1) := by decide +kernel
theorem dX5_payBySum_11 : decode cX5_payBySum 11 = .ok (.getfield 71, 3) := by decide +kernel
theorem dX5_payBySum_14 : decode cX5_payBySum 14 = .ok (.ifCond .le 5, 3) := by decide +kernel
theorem dX5_payBySum_17 : decode cX5_payBySum 17 = .ok (.iconst 0, 1) := by decide +kernel
theorem dX5_payBySum_18 : decode cX5_payBySum 18 = .ok (.ireturn, 1) := by decide +kernel
theorem dX5_payBySum_19 : decode cX5_payBySum 19 = .ok (.iconst (-1), 1) := by decide +kernel
theorem dX5_payBySum_20 : decode cX5_payBySum 20 = .ok (.istore 4, 2) := by decide +kernel
theorem dX5_payBySum_22 : decode cX5_payBySum 22 = .ok (.aload_n 0, 1) := by decide +kernel
theorem dX5_payBySum_23 : decode cX5_payBySum 23 = .ok (.getfield 79, 3) := by decide +kernel
theorem dX5_payBySum_26 : decode cX5_payBySum 26 = .ok (.iconst 1, 1) := by decide +kernel
theorem dX5_payBySum_27 : decode cX5_payBySum 27 = .ok (.isub, 1) := by decide +kernel
theorem dX5_payBySum_28 : decode cX5_payBySum 28 = .ok (.istore 5, 2) := by decide +kernel
theorem dX5_payBySum_30 : decode cX5_payBySum 30 = .ok (.iload 5, 2) := by decide +kernel
theorem dX5_payBySum_32 : decode cX5_payBySum 32 = .ok (.ifCond .lt 50, 3) := by decide +kernel
theorem dX5_payBySum_35 : decode cX5_payBySum 35 = .ok (.aload_n 0, 1) := by decide +kernel
theorem dX5_payBySum_36 : decode cX5_payBySum 36 = .ok (.getfield 16, 3) := by decide +kernel
theorem dX5_payBySum_39 : decode cX5_payBySum 39 = .ok (.iload 5, 2) := by decide +kernel
theorem dX5_payBySum_41 : decode cX5_payBySum 41 = .ok (.iaload, 1) := by decide +kernel
theorem dX5_payBySum_42 : decode cX5_payBySum 42 = .ok (.iload_n 1, 1) := by decide +kernel
theorem dX5_payBySum_43 : decode cX5_payBySum 43 = .ok (.if_icmp .ne 29, 3) := by decide +kernel
theorem dX5_payBySum_46 : decode cX5_payBySum 46 = .ok (.aload_n 0, 1) := by decide +kernel
theorem dX5_payBySum_47 : decode cX5_payBySum 47 = .ok (.getfield 31, 3) := by decide +kernel
theorem dX5_payBySum_50 : decode cX5_payBySum 50 = .ok (.iload 5, 2) := by decide +kernel
theorem dX5_payBySum_52 : decode cX5_payBySum 52 = .ok (.iaload, 1) := by decide +kernel
theorem dX5_payBySum_53 : decode cX5_payBySum 53 = .ok (.iload_n 2, 1) := by decide +kernel
theorem dX5_payBySum_54 : decode cX5_payBySum 54 = .ok (.if_icmp .ne 18, 3) := by decide +kernel
theorem dX5_payBySum_57 : decode cX5_payBySum 57 = .ok (.aload_n 0, 1) := by decide +kernel
theorem dX5_payBySum_58 : decode cX5_payBySum 58 = .ok (.iload 5, 2) := by decide +kernel
theorem dX5_payBySum_60 : decode cX5_payBySum 60 = .ok (.invokevirtual 114, 3) := by decide +kernel
theorem dX5_payBySum_63 : decode cX5_payBySum 63 = .ok (.iload_n 3, 1) := by decide +kernel
theorem dX5_payBySum_64 : decode cX5_payBySum 64 = .ok (.if_icmp .ne 8, 3) := by decide +kernel
theorem dX5_payBySum_67 : decode cX5_payBySum 67 = .ok (.iload 5, 2) := by decide +kernel
theorem dX5_payBySum_69 : decode cX5_payBySum 69 = .ok (.goto 5, 3) := by decide +kernel
theorem dX5_payBySum_72 : decode cX5_payBySum 72 = .ok (.iload 4, 2) := by decide +kernel
theorem dX5_payBySum_74 : decode cX5_payBySum 74 = .ok (.istore 4, 2) := by decide +kernel
theorem dX5_payBySum_76 : decode cX5_payBySum 76 = .ok (.iinc 5 (-1), 3) := by decide +kernel
theorem dX5_payBySum_79 : decode cX5_payBySum 79 = .ok (.goto (-49), 3) := by decide +kernel
theorem dX5_payBySum_82 : decode cX5_payBySum 82 = .ok (.aload_n 0, 1) := by decide +kernel
theorem dX5_payBySum_83 : decode cX5_payBySum 83 = .ok (.iload 4, 2) := by decide +kernel
theorem dX5_payBySum_85 : decode cX5_payBySum 85 = .ok (.iconst (-1), 1) := by decide +kernel
theorem dX5_payBySum_86 : decode cX5_payBySum 86 = .ok (.if_icmp .ne 7, 3) := by decide +kernel
theorem dX5_payBySum_89 : decode cX5_payBySum 89 = .ok (.iconst 3, 1) := by decide +kernel
theorem dX5_payBySum_90 : decode cX5_payBySum 90 = .ok (.goto 4, 3) := by decide +kernel
theorem dX5_payBySum_93 : decode cX5_payBySum 93 = .ok (.iconst 0, 1) := by decide +kernel
theorem dX5_payBySum_94 : decode cX5_payBySum 94 = .ok (.putfield 71, 3) := by decide +kernel
theorem dX5_payBySum_97 : decode cX5_payBySum 97 = .ok (.aload_n 0, 1) := by decide +kernel
theorem dX5_payBySum_98 : decode cX5_payBySum 98 = .ok (.getfield 71, 3) := by decide +kernel
theorem dX5_payBySum_101 : decode cX5_payBySum 101 = .ok (.ifCond .le 5, 3) := by decide +kernel
theorem dX5_payBySum_104 : decode cX5_payBySum 104 = .ok (.iconst 0, 1) := by decide +kernel
theorem dX5_payBySum_105 : decode cX5_payBySum 105 = .ok (.ireturn, 1) := by decide +kernel
theorem dX5_payBySum_106 : decode cX5_payBySum 106 = .ok (.aload_n 0, 1) := by decide +kernel
theorem dX5_payBySum_107 : decode cX5_payBySum 107 = .ok (.getfield 41, 3) := by decide +kernel
theorem dX5_payBySum_110 : decode cX5_payBySum 110 = .ok (.iload 4, 2) := by decide +kernel
theorem dX5_payBySum_112 : decode cX5_payBySum 112 = .ok (.dup2, 1) := by decide +kernel
theorem dX5_payBySum_113 : decode cX5_payBySum 113 = .ok (.iaload, 1) := by decide +kernel
theorem dX5_payBySum_114 : decode cX5_payBySum 114 = .ok (.iload_n 3, 1) := by decide +kernel
theorem dX5_payBySum_115 : decode cX5_payBySum 115 = .ok (.iadd, 1) := by decide +kernel
theorem dX5_payBySum_116 : decode cX5_payBySum 116 = .ok (.iastore, 1) := by decide +kernel
theorem dX5_payBySum_117 : decode cX5_payBySum 117 = .ok (.aload_n 0, 1) := by decide +kernel
theorem dX5_payBySum_118 : decode cX5_payBySum 118 = .ok (.iload_n 1, 1) := by decide +kernel
theorem dX5_payBySum_119 : decode cX5_payBySum 119 = .ok (.iload_n 2, 1) := by decide +kernel
theorem dX5_payBySum_120 : decode cX5_payBySum 120 = .ok (.iload_n 3, 1) := by decide +kernel
theorem dX5_payBySum_121 : decode cX5_payBySum 121 = .ok (.invokevirtual 124, 3) := by decide +kernel
theorem dX5_payBySum_124 : decode cX5_payBySum 124 = .ok (.iload 4, 2) := by decide +kernel
theorem dX5_payBySum_126 : decode cX5_payBySum 126 = .ok (.ireturn, 1) := by decide +kernel
theorem dX5_pass_0 : decode cX5_pass 0 = .ok (.aload_n 0, 1) := by decide +kernel
theorem dX5_pass_1 : decode cX5_pass 1 = .ok (.iload_n 1, 1) := by decide +kernel
theorem dX5_pass_2 : decode cX5_pass 2 = .ok (.iconst 1, 1) := by decide +kernel
theorem dX5_pass_3 : decode cX5_pass 3 = .ok (.bipush 60, 2) := by decide +kernel
theorem dX5_pass_5 : decode cX5_pass 5 = .ok (.invokestatic 75, 3) := by decide +kernel
theorem dX5_pass_8 : decode cX5_pass 8 = .ok (.ifCond .ne 7, 3) := by decide +kernel
theorem dX5_pass_11 : decode cX5_pass 11 = .ok (.iconst 1, 1) := by decide +kernel
theorem dX5_pass_12 : decode cX5_pass 12 = .ok (.goto 20, 3) := by decide +kernel
theorem dX5_pass_15 : decode cX5_pass 15 = .ok (.aload_n 0, 1) := by decide +kernel
theorem dX5_pass_16 : decode cX5_pass 16 = .ok (.getfield 93, 3) := by decide +kernel
theorem dX5_pass_19 : decode cX5_pass 19 = .ok (.iload_n 1, 1) := by decide +kernel
theorem dX5_pass_20 : decode cX5_pass 20 = .ok (.iadd, 1) := by decide +kernel
theorem dX5_pass_21 : decode cX5_pass 21 = .ok (.sipush 999, 3) := by decide +kernel
theorem dX5_pass_24 : decode cX5_pass 24 = .ok (.if_icmp .le 7, 3) := by decide +kernel
theorem dX5_pass_27 : decode cX5_pass 27 = .ok (.iconst 2, 1) := by decide +kernel
theorem dX5_pass_28 : decode cX5_pass 28 = .ok (.goto 4, 3) := by decide +kernel
theorem dX5_pass_31 : decode cX5_pass 31 = .ok (.iconst 0, 1) := by decide +kernel
theorem dX5_pass_32 : decode cX5_pass 32 = .ok (.putfield 71, 3) := by decide +kernel
theorem dX5_pass_35 : decode cX5_pass 35 = .ok (.aload_n 0, 1) := by decide +kernel
theorem dX5_pass_36 : decode cX5_pass 36 = .ok (.getfield 71, 3) := by decide +kernel
theorem dX5_pass_39 : decode cX5_pass 39 = .ok (.ifCond .le 5, 3) := by decide +kernel
theorem dX5_pass_42 : decode cX5_pass 42 = .ok (.iconst 0, 1) := by decide +kernel
theorem dX5_pass_43 : decode cX5_pass 43 = .ok (.ireturn, 1) := by decide +kernel
theorem dX5_pass_44 : decode cX5_pass 44 = .ok (.aload_n 0, 1) := by decide +kernel
theorem dX5_pass_45 : decode cX5_pass 45 = .ok (.dup, 1) := by decide +kernel
theorem dX5_pass_46 : decode cX5_pass 46 = .ok (.getfield 93, 3) := by decide +kernel
theorem dX5_pass_49 : decode cX5_pass 49 = .ok (.iload_n 1, 1) := by decide +kernel
theorem dX5_pass_50 : decode cX5_pass 50 = .ok (.iadd, 1) := by decide +kernel
theorem dX5_pass_51 : decode cX5_pass 51 = .ok (.putfield 93, 3) := by decide +kernel
theorem dX5_pass_54 : decode cX5_pass 54 = .ok (.aload_n 0, 1) := by decide +kernel
theorem dX5_pass_55 : decode cX5_pass 55 = .ok (.getfield 93, 3) := by decide +kernel
theorem dX5_pass_58 : decode cX5_pass 58 = .ok (.bipush 30, 2) := by decide +kernel
theorem dX5_pass_60 : decode cX5_pass 60 = .ok (.idiv, 1) := by decide +kernel
theorem dX5_pass_61 : decode cX5_pass 61 = .ok (.ireturn, 1) := by decide +kernel
theorem dX5_taxOfAll_0 : decode cX5_taxOfAll 0 = .ok (.iconst 0, 1) := by decide +kernel
theorem dX5_taxOfAll_1 : decode cX5_taxOfAll 1 = .ok (.istore_n 3, 1) := by decide +kernel
theorem dX5_taxOfAll_2 : decode cX5_taxOfAll 2 = .ok (.iconst 3, 1) := by decide +kernel
theorem dX5_taxOfAll_3 : decode cX5_taxOfAll 3 = .ok (.iload_n 1, 1) := by decide +kernel
theorem dX5_taxOfAll_4 : decode cX5_taxOfAll 4 = .ok (.imul, 1) := by decide +kernel
theorem dX5_taxOfAll_5 : decode cX5_taxOfAll 5 = .ok (.istore 4, 2) := by decide +kernel
theorem dX5_taxOfAll_7 : decode cX5_taxOfAll 7 = .ok (.iload 4, 2) := by decide +kernel
theorem dX5_taxOfAll_9 : decode cX5_taxOfAll 9 = .ok (.iconst 3, 1) := by decide +kernel
theorem dX5_taxOfAll_10 : decode cX5_taxOfAll 10 = .ok (.iload_n 1, 1) := by decide +kernel
theorem dX5_taxOfAll_11 : decode cX5_taxOfAll 11 = .ok (.imul, 1) := by decide +kernel
theorem dX5_taxOfAll_12 : decode cX5_taxOfAll 12 = .ok (.aload_n 0, 1) := by decide +kernel
theorem dX5_taxOfAll_13 : decode cX5_taxOfAll 13 = .ok (.getfield 44, 3) := by decide +kernel
theorem dX5_taxOfAll_16 : decode cX5_taxOfAll 16 = .ok (.iload_n 1, 1) := by decide +kernel
theorem dX5_taxOfAll_17 : decode cX5_taxOfAll 17 = .ok (.iaload, 1) := by decide +kernel
theorem dX5_taxOfAll_18 : decode cX5_taxOfAll 18 = .ok (.iadd, 1) := by decide +kernel
theorem dX5_taxOfAll_19 : decode cX5_taxOfAll 19 = .ok (.if_icmp .ge 43, 3) := by decide +kernel
theorem dX5_taxOfAll_22 : decode cX5_taxOfAll 22 = .ok (.iload_n 3, 1) := by decide +kernel
theorem dX5_taxOfAll_23 : decode cX5_taxOfAll 23 = .ok (.iload_n 2, 1) := by decide +kernel
theorem dX5_taxOfAll_24 : decode cX5_taxOfAll 24 = .ok (.ifCond .eq 13, 3) := by decide +kernel
theorem dX5_taxOfAll_27 : decode cX5_taxOfAll 27 = .ok (.aload_n 0, 1) := by decide +kernel
theorem dX5_taxOfAll_28 : decode cX5_taxOfAll 28 = .ok (.getfield 50, 3) := by decide +kernel
theorem dX5_taxOfAll_31 : decode cX5_taxOfAll 31 = .ok (.iload 4, 2) := by decide +kernel
theorem dX5_taxOfAll_33 : decode cX5_taxOfAll 33 = .ok (.iaload, 1) := by decide +kernel
theorem dX5_taxOfAll_34 : decode cX5_taxOfAll 34 = .ok (.goto 10, 3) := by decide +kernel
theorem dX5_taxOfAll_37 : decode cX5_taxOfAll 37 = .ok (.aload_n 0, 1) := by decide +kernel
theorem dX5_taxOfAll_38 : decode cX5_taxOfAll 38 = .ok (.getfield 47, 3) := by decide +kernel
theorem dX5_taxOfAll_41 : decode cX5_taxOfAll 41 = .ok (.iload 4, 2) := by decide +kernel
theorem dX5_taxOfAll_43 : decode cX5_taxOfAll 43 = .ok (.iaload, 1) := by decide +kernel
theorem dX5_taxOfAll_44 : decode cX5_taxOfAll 44 = .ok (.aload_n 0, 1) := by decide +kernel
theorem dX5_taxOfAll_45 : decode cX5_taxOfAll 45 = .ok (.getfield 53, 3) := by decide +kernel
theorem dX5_taxOfAll_48 : decode cX5_taxOfAll 48 = .ok (.iload 4, 2) := by decide +kernel
theorem dX5_taxOfAll_50 : decode cX5_taxOfAll 50 = .ok (.iaload, 1) := by decide +kernel
theorem dX5_taxOfAll_51 : decode cX5_taxOfAll 51 = .ok (.invokestatic 106, 3) := by decide +kernel
theorem dX5_taxOfAll_54 : decode cX5_taxOfAll 54 = .ok (.iadd, 1) := by decide +kernel
theorem dX5_taxOfAll_55 : decode cX5_taxOfAll 55 = .ok (.istore_n 3, 1) := by decide +kernel
theorem dX5_taxOfAll_56 : decode cX5_taxOfAll 56 = .ok (.iinc 4 1, 3) := by decide +kernel
theorem dX5_taxOfAll_59 : decode cX5_taxOfAll 59 = .ok (.goto (-52), 3) := by decide +kernel
theorem dX5_taxOfAll_62 : decode cX5_taxOfAll 62 = .ok (.iload_n 3, 1) := by decide +kernel
theorem dX5_taxOfAll_63 : decode cX5_taxOfAll 63 = .ok (.ireturn, 1) := by decide +kernel
theorem dX5_about_0 : decode cX5_about 0 = .ok (.aload_n 0, 1) := by decide +kernel
theorem dX5_about_1 : decode cX5_about 1 = .ok (.aload_n 0, 1) := by decide +kernel
theorem dX5_about_2 : decode cX5_about 2 = .ok (.iload_n 1, 1) := by decide +kernel
theorem dX5_about_3 : decode cX5_about 3 = .ok (.invokevirtual 82, 3) := by decide +kernel
theorem dX5_about_6 : decode cX5_about 6 = .ok (.ifCond .ne 7, 3) := by decide +kernel
theorem dX5_about_9 : decode cX5_about 9 = .ok (.iconst 1, 1) := by decide +kernel
theorem dX5_about_10 : decode cX5_about 10 = .ok (.goto 18, 3) := by decide +kernel
theorem dX5_about_13 : decode cX5_about 13 = .ok (.iload_n 2, 1) := by decide +kernel
theorem dX5_about_14 : decode cX5_about 14 = .ok (.iconst 0, 1) := by decide +kernel
theorem dX5_about_15 : decode cX5_about 15 = .ok (.bipush 9, 2) := by decide +kernel
theorem dX5_about_17 : decode cX5_about 17 = .ok (.invokestatic 75, 3) := by decide +kernel
theorem dX5_about_20 : decode cX5_about 20 = .ok (.ifCond .ne 7, 3) := by decide +kernel
theorem dX5_about_23 : decode cX5_about 23 = .ok (.iconst 2, 1) := by decide +kernel
theorem dX5_about_24 : decode cX5_about 24 = .ok (.goto 4, 3) := by decide +kernel
theorem dX5_about_27 : decode cX5_about 27 = .ok (.iconst 0, 1) := by decide +kernel
theorem dX5_about_28 : decode cX5_about 28 = .ok (.putfield 71, 3) := by decide +kernel
theorem dX5_about_31 : decode cX5_about 31 = .ok (.aload_n 0, 1) := by decide +kernel
theorem dX5_about_32 : decode cX5_about 32 = .ok (.getfield 71, 3) := by decide +kernel
theorem dX5_about_35 : decode cX5_about 35 = .ok (.ifCond .le 5, 3) := by decide +kernel
theorem dX5_about_38 : decode cX5_about 38 = .ok (.iconst 0, 1) := by decide +kernel
theorem dX5_about_39 : decode cX5_about 39 = .ok (.ireturn, 1) := by decide +kernel
theorem dX5_about_40 : decode cX5_about 40 = .ok (.iload_n 2, 1) := by decide +kernel
theorem dX5_about_41 : decode cX5_about 41 = .ok (.tableswitch 113 0 8 #[51, 58, 65, 72, 79, 86, 92, 99, 106], 51) := by decide +kernel
theorem dX5_about_92 : decode cX5_about 92 = .ok (.aload_n 0, 1) := by decide +kernel
theorem dX5_about_93 : decode cX5_about 93 = .ok (.getfield 22, 3) := by decide +kernel
theorem dX5_about_96 : decode cX5_about 96 = .ok (.iload_n 1, 1) := by decide +kernel
theorem dX5_about_97 : decode cX5_about 97 = .ok (.iaload, 1) := by decide +kernel
theorem dX5_about_98 : decode cX5_about 98 = .ok (.ireturn, 1) := by decide +kernel
theorem dX5_about_99 : decode cX5_about 99 = .ok (.aload_n 0, 1) := by decide +kernel
theorem dX5_about_100 : decode cX5_about 100 = .ok (.getfield 13, 3) := by decide +kernel
theorem dX5_about_103 : decode cX5_about 103 = .ok (.iload_n 1, 1) := by decide +kernel
theorem dX5_about_104 : decode cX5_about 104 = .ok (.iaload, 1) := by decide +kernel
theorem dX5_about_105 : decode cX5_about 105 = .ok (.ireturn, 1) := by decide +kernel
theorem dX5_about_106 : decode cX5_about 106 = .ok (.aload_n 0, 1) := by decide +kernel
theorem dX5_about_107 : decode cX5_about 107 = .ok (.getfield 16, 3) := by decide +kernel
theorem dX5_about_110 : decode cX5_about 110 = .ok (.iload_n 1, 1) := by decide +kernel
theorem dX5_about_111 : decode cX5_about 111 = .ok (.iaload, 1) := by decide +kernel
theorem dX5_about_112 : decode cX5_about 112 = .ok (.ireturn, 1) := by decide +kernel
theorem dX5_about_113 : decode cX5_about 113 = .ok (.aload_n 0, 1) := by decide +kernel
theorem dX5_about_114 : decode cX5_about 114 = .ok (.getfield 31, 3) := by decide +kernel
theorem dX5_about_117 : decode cX5_about 117 = .ok (.iload_n 1, 1) := by decide +kernel
theorem dX5_about_118 : decode cX5_about 118 = .ok (.iaload, 1) := by decide +kernel
theorem dX5_about_119 : decode cX5_about 119 = .ok (.ireturn, 1) := by decide +kernel
theorem dX5_about_120 : decode cX5_about 120 = .ok (.aload_n 0, 1) := by decide +kernel
theorem dX5_about_121 : decode cX5_about 121 = .ok (.iload_n 1, 1) := by decide +kernel
theorem dX5_about_122 : decode cX5_about 122 = .ok (.iconst 1, 1) := by decide +kernel
theorem dX5_about_123 : decode cX5_about 123 = .ok (.invokevirtual 110, 3) := by decide +kernel
theorem dX5_about_126 : decode cX5_about 126 = .ok (.ireturn, 1) := by decide +kernel
theorem dX5_about_127 : decode cX5_about 127 = .ok (.aload_n 0, 1) := by decide +kernel
theorem dX5_about_128 : decode cX5_about 128 = .ok (.iload_n 1, 1) := by decide +kernel
theorem dX5_about_129 : decode cX5_about 129 = .ok (.invokevirtual 114, 3) := by decide +kernel
theorem dX5_about_132 : decode cX5_about 132 = .ok (.ireturn, 1) := by decide +kernel
theorem dX5_about_133 : decode cX5_about 133 = .ok (.aload_n 0, 1) := by decide +kernel
theorem dX5_about_134 : decode cX5_about 134 = .ok (.getfield 41, 3) := by decide +kernel
theorem dX5_about_137 : decode cX5_about 137 = .ok (.iload_n 1, 1) := by decide +kernel
theorem dX5_about_138 : decode cX5_about 138 = .ok (.iaload, 1) := by decide +kernel
theorem dX5_about_139 : decode cX5_about 139 = .ok (.ireturn, 1) := by decide +kernel
theorem dX5_about_140 : decode cX5_about 140 = .ok (.aload_n 0, 1) := by decide +kernel
theorem dX5_about_141 : decode cX5_about 141 = .ok (.getfield 44, 3) := by decide +kernel
theorem dX5_about_144 : decode cX5_about 144 = .ok (.iload_n 1, 1) := by decide +kernel
theorem dX5_about_145 : decode cX5_about 145 = .ok (.iaload, 1) := by decide +kernel
theorem dX5_about_146 : decode cX5_about 146 = .ok (.ireturn, 1) := by decide +kernel
theorem dX5_about_147 : decode cX5_about 147 = .ok (.aload_n 0, 1) := by decide +kernel
theorem dX5_about_148 : decode cX5_about 148 = .ok (.getfield 25, 3) := by decide +kernel
theorem dX5_about_151 : decode cX5_about 151 = .ok (.iload_n 1, 1) := by decide +kernel
theorem dX5_about_152 : decode cX5_about 152 = .ok (.iaload, 1) := by decide +kernel
theorem dX5_about_153 : decode cX5_about 153 = .ok (.ireturn, 1) := by decide +kernel
theorem dX5_about_154 : decode cX5_about 154 = .ok (.aload_n 0, 1) := by decide +kernel
theorem dX5_about_155 : decode cX5_about 155 = .ok (.iload_n 1, 1) := by decide +kernel
theorem dX5_about_156 : decode cX5_about 156 = .ok (.iconst 0, 1) := by decide +kernel
theorem dX5_about_157 : decode cX5_about 157 = .ok (.invokevirtual 139, 3) := by decide +kernel
theorem dX5_about_160 : decode cX5_about 160 = .ok (.ireturn, 1) := by decide +kernel
theorem dX5_lineOf_0 : decode cX5_lineOf 0 = .ok (.aload_n 0, 1) := by decide +kernel
theorem dX5_lineOf_1 : decode cX5_lineOf 1 = .ok (.aload_n 0, 1) := by decide +kernel
theorem dX5_lineOf_2 : decode cX5_lineOf 2 = .ok (.iload_n 1, 1) := by decide +kernel
theorem dX5_lineOf_3 : decode cX5_lineOf 3 = .ok (.iload_n 2, 1) := by decide +kernel
theorem dX5_lineOf_4 : decode cX5_lineOf 4 = .ok (.invokevirtual 118, 3) := by decide +kernel
theorem dX5_lineOf_7 : decode cX5_lineOf 7 = .ok (.ifCond .ne 7, 3) := by decide +kernel
theorem dX5_lineOf_10 : decode cX5_lineOf 10 = .ok (.iconst 1, 1) := by decide +kernel
theorem dX5_lineOf_11 : decode cX5_lineOf 11 = .ok (.goto 17, 3) := by decide +kernel
theorem dX5_lineOf_14 : decode cX5_lineOf 14 = .ok (.iload_n 3, 1) := by decide +kernel
theorem dX5_lineOf_15 : decode cX5_lineOf 15 = .ok (.iconst 0, 1) := by decide +kernel
theorem dX5_lineOf_16 : decode cX5_lineOf 16 = .ok (.iconst 4, 1) := by decide +kernel
theorem dX5_lineOf_17 : decode cX5_lineOf 17 = .ok (.invokestatic 75, 3) := by decide +kernel
theorem dX5_lineOf_20 : decode cX5_lineOf 20 = .ok (.ifCond .ne 7, 3) := by decide +kernel
theorem dX5_lineOf_23 : decode cX5_lineOf 23 = .ok (.iconst 2, 1) := by decide +kernel
theorem dX5_lineOf_24 : decode cX5_lineOf 24 = .ok (.goto 4, 3) := by decide +kernel
theorem dX5_lineOf_27 : decode cX5_lineOf 27 = .ok (.iconst 0, 1) := by decide +kernel
theorem dX5_lineOf_28 : decode cX5_lineOf 28 = .ok (.putfield 71, 3) := by decide +kernel
theorem dX5_lineOf_31 : decode cX5_lineOf 31 = .ok (.aload_n 0, 1) := by decide +kernel
theorem dX5_lineOf_32 : decode cX5_lineOf 32 = .ok (.getfield 71, 3) := by decide +kernel
theorem dX5_lineOf_35 : decode cX5_lineOf 35 = .ok (.ifCond .le 5, 3) := by decide +kernel
theorem dX5_lineOf_38 : decode cX5_lineOf 38 = .ok (.iconst 0, 1) := by decide +kernel
theorem dX5_lineOf_39 : decode cX5_lineOf 39 = .ok (.ireturn, 1) := by decide +kernel
theorem dX5_lineOf_40 : decode cX5_lineOf 40 = .ok (.iconst 3, 1) := by decide +kernel
theorem dX5_lineOf_41 : decode cX5_lineOf 41 = .ok (.iload_n 1, 1) := by decide +kernel
theorem dX5_lineOf_42 : decode cX5_lineOf 42 = .ok (.imul, 1) := by decide +kernel
theorem dX5_lineOf_43 : decode cX5_lineOf 43 = .ok (.iload_n 2, 1) := by decide +kernel
theorem dX5_lineOf_44 : decode cX5_lineOf 44 = .ok (.iadd, 1) := by decide +kernel
theorem dX5_lineOf_45 : decode cX5_lineOf 45 = .ok (.istore 4, 2) := by decide +kernel
theorem dX5_lineOf_47 : decode cX5_lineOf 47 = .ok (.iload_n 3, 1) := by decide +kernel
theorem dX5_lineOf_48 : decode cX5_lineOf 48 = .ok (.ifCond .ne 13, 3) := by decide +kernel
theorem dX5_lineOf_51 : decode cX5_lineOf 51 = .ok (.aload_n 0, 1) := by decide +kernel
theorem dX5_lineOf_52 : decode cX5_lineOf 52 = .ok (.getfield 47, 3) := by decide +kernel
theorem dX5_lineOf_55 : decode cX5_lineOf 55 = .ok (.iload 4, 2) := by decide +kernel
theorem dX5_lineOf_57 : decode cX5_lineOf 57 = .ok (.iaload, 1) := by decide +kernel
theorem dX5_lineOf_58 : decode cX5_lineOf 58 = .ok (.goto 73, 3) := by decide +kernel
theorem dX5_lineOf_61 : decode cX5_lineOf 61 = .ok (.iload_n 3, 1) := by decide +kernel
theorem dX5_lineOf_62 : decode cX5_lineOf 62 = .ok (.iconst 1, 1) := by decide +kernel
theorem dX5_lineOf_63 : decode cX5_lineOf 63 = .ok (.if_icmp .ne 13, 3) := by decide +kernel
theorem dX5_lineOf_66 : decode cX5_lineOf 66 = .ok (.aload_n 0, 1) := by decide +kernel
theorem dX5_lineOf_67 : decode cX5_lineOf 67 = .ok (.getfield 53, 3) := by decide +kernel
theorem dX5_lineOf_70 : decode cX5_lineOf 70 = .ok (.iload 4, 2) := by decide +kernel
theorem dX5_lineOf_72 : decode cX5_lineOf 72 = .ok (.iaload, 1) := by decide +kernel
theorem dX5_lineOf_73 : decode cX5_lineOf 73 = .ok (.goto 58, 3) := by decide +kernel
theorem dX5_lineOf_76 : decode cX5_lineOf 76 = .ok (.iload_n 3, 1) := by decide +kernel
theorem dX5_lineOf_77 : decode cX5_lineOf 77 = .ok (.iconst 2, 1) := by decide +kernel
theorem dX5_lineOf_78 : decode cX5_lineOf 78 = .ok (.if_icmp .ne 23, 3) := by decide +kernel
theorem dX5_lineOf_81 : decode cX5_lineOf 81 = .ok (.aload_n 0, 1) := by decide +kernel
theorem dX5_lineOf_82 : decode cX5_lineOf 82 = .ok (.getfield 47, 3) := by decide +kernel
theorem dX5_lineOf_85 : decode cX5_lineOf 85 = .ok (.iload 4, 2) := by decide +kernel
theorem dX5_lineOf_87 : decode cX5_lineOf 87 = .ok (.iaload, 1) := by decide +kernel
theorem dX5_lineOf_88 : decode cX5_lineOf 88 = .ok (.aload_n 0, 1) := by decide +kernel
theorem dX5_lineOf_89 : decode cX5_lineOf 89 = .ok (.getfield 53, 3) := by decide +kernel
theorem dX5_lineOf_92 : decode cX5_lineOf 92 = .ok (.iload 4, 2) := by decide +kernel
theorem dX5_lineOf_94 : decode cX5_lineOf 94 = .ok (.iaload, 1) := by decide +kernel
theorem dX5_lineOf_95 : decode cX5_lineOf 95 = .ok (.invokestatic 106, 3) := by decide +kernel
theorem dX5_lineOf_98 : decode cX5_lineOf 98 = .ok (.goto 33, 3) := by decide +kernel
theorem dX5_lineOf_101 : decode cX5_lineOf 101 = .ok (.iload_n 3, 1) := by decide +kernel
theorem dX5_lineOf_102 : decode cX5_lineOf 102 = .ok (.iconst 3, 1) := by decide +kernel
theorem dX5_lineOf_103 : decode cX5_lineOf 103 = .ok (.if_icmp .ne 21, 3) := by decide +kernel
theorem dX5_lineOf_106 : decode cX5_lineOf 106 = .ok (.aload_n 0, 1) := by decide +kernel
theorem dX5_lineOf_107 : decode cX5_lineOf 107 = .ok (.getfield 56, 3) := by decide +kernel
theorem dX5_lineOf_110 : decode cX5_lineOf 110 = .ok (.iload 4, 2) := by decide +kernel
theorem dX5_lineOf_112 : decode cX5_lineOf 112 = .ok (.baload, 1) := by decide +kernel
theorem dX5_lineOf_113 : decode cX5_lineOf 113 = .ok (.ifCond .eq 7, 3) := by decide +kernel
theorem dX5_lineOf_116 : decode cX5_lineOf 116 = .ok (.iconst 1, 1) := by decide +kernel
theorem dX5_lineOf_117 : decode cX5_lineOf 117 = .ok (.goto 14, 3) := by decide +kernel
theorem dX5_lineOf_120 : decode cX5_lineOf 120 = .ok (.iconst 0, 1) := by decide +kernel
theorem dX5_lineOf_121 : decode cX5_lineOf 121 = .ok (.goto 10, 3) := by decide +kernel
theorem dX5_lineOf_124 : decode cX5_lineOf 124 = .ok (.aload_n 0, 1) := by decide +kernel
theorem dX5_lineOf_125 : decode cX5_lineOf 125 = .ok (.getfield 50, 3) := by decide +kernel
theorem dX5_lineOf_128 : decode cX5_lineOf 128 = .ok (.iload 4, 2) := by decide +kernel
theorem dX5_lineOf_130 : decode cX5_lineOf 130 = .ok (.iaload, 1) := by decide +kernel
theorem dX5_lineOf_131 : decode cX5_lineOf 131 = .ok (.ireturn, 1) := by decide +kernel
theorem dX5_cash_0 : decode cX5_cash 0 = .ok (.aload_n 0, 1) := by decide +kernel
theorem dX5_cash_1 : decode cX5_cash 1 = .ok (.iload_n 1, 1) := by decide +kernel
theorem dX5_cash_2 : decode cX5_cash 2 = .ok (.invokestatic 86, 3) := by decide +kernel
theorem dX5_cash_5 : decode cX5_cash 5 = .ok (.ifCond .eq 7, 3) := by decide +kernel
theorem dX5_cash_8 : decode cX5_cash 8 = .ok (.iconst 0, 1) := by decide +kernel
theorem dX5_cash_9 : decode cX5_cash 9 = .ok (.goto 4, 3) := by decide +kernel
theorem dX5_cash_12 : decode cX5_cash 12 = .ok (.iconst 1, 1) := by decide +kernel
theorem dX5_cash_13 : decode cX5_cash 13 = .ok (.putfield 71, 3) := by decide +kernel
theorem dX5_cash_16 : decode cX5_cash 16 = .ok (.aload_n 0, 1) := by decide +kernel
theorem dX5_cash_17 : decode cX5_cash 17 = .ok (.getfield 71, 3) := by decide +kernel
theorem dX5_cash_20 : decode cX5_cash 20 = .ok (.ifCond .le 7, 3) := by decide +kernel
theorem dX5_cash_23 : decode cX5_cash 23 = .ok (.iconst 0, 1) := by decide +kernel
theorem dX5_cash_24 : decode cX5_cash 24 = .ok (.goto 9, 3) := by decide +kernel
theorem dX5_cash_27 : decode cX5_cash 27 = .ok (.aload_n 0, 1) := by decide +kernel
theorem dX5_cash_28 : decode cX5_cash 28 = .ok (.getfield 7, 3) := by decide +kernel
theorem dX5_cash_31 : decode cX5_cash 31 = .ok (.iload_n 1, 1) := by decide +kernel
theorem dX5_cash_32 : decode cX5_cash 32 = .ok (.iaload, 1) := by decide +kernel
theorem dX5_cash_33 : decode cX5_cash 33 = .ok (.ireturn, 1) := by decide +kernel
theorem dX5_cashAnew_0 : decode cX5_cashAnew 0 = .ok (.aload_n 0, 1) := by decide +kernel
theorem dX5_cashAnew_1 : decode cX5_cashAnew 1 = .ok (.iload_n 1, 1) := by decide +kernel
theorem dX5_cashAnew_2 : decode cX5_cashAnew 2 = .ok (.invokestatic 86, 3) := by decide +kernel
theorem dX5_cashAnew_5 : decode cX5_cashAnew 5 = .ok (.ifCond .eq 7, 3) := by decide +kernel
theorem dX5_cashAnew_8 : decode cX5_cashAnew 8 = .ok (.iconst 0, 1) := by decide +kernel
theorem dX5_cashAnew_9 : decode cX5_cashAnew 9 = .ok (.goto 4, 3) := by decide +kernel
theorem dX5_cashAnew_12 : decode cX5_cashAnew 12 = .ok (.iconst 1, 1) := by decide +kernel
theorem dX5_cashAnew_13 : decode cX5_cashAnew 13 = .ok (.putfield 71, 3) := by decide +kernel
theorem dX5_cashAnew_16 : decode cX5_cashAnew 16 = .ok (.aload_n 0, 1) := by decide +kernel
theorem dX5_cashAnew_17 : decode cX5_cashAnew 17 = .ok (.getfield 71, 3) := by decide +kernel
theorem dX5_cashAnew_20 : decode cX5_cashAnew 20 = .ok (.ifCond .le 7, 3) := by decide +kernel
theorem dX5_cashAnew_23 : decode cX5_cashAnew 23 = .ok (.iconst 0, 1) := by decide +kernel
theorem dX5_cashAnew_24 : decode cX5_cashAnew 24 = .ok (.goto 9, 3) := by decide +kernel
theorem dX5_cashAnew_27 : decode cX5_cashAnew 27 = .ok (.aload_n 0, 1) := by decide +kernel
theorem dX5_cashAnew_28 : decode cX5_cashAnew 28 = .ok (.getfield 7, 3) := by decide +kernel
theorem dX5_cashAnew_31 : decode cX5_cashAnew 31 = .ok (.iload_n 1, 1) := by decide +kernel
theorem dX5_cashAnew_32 : decode cX5_cashAnew 32 = .ok (.iaload, 1) := by decide +kernel
theorem dX5_cashAnew_33 : decode cX5_cashAnew 33 = .ok (.ireturn, 1) := by decide +kernel
theorem dX5_sums_0 : decode cX5_sums 0 = .ok (.iconst 0, 1) := by decide +kernel
theorem dX5_sums_1 : decode cX5_sums 1 = .ok (.istore_n 3, 1) := by decide +kernel
theorem dX5_sums_2 : decode cX5_sums 2 = .ok (.iconst 0, 1) := by decide +kernel
theorem dX5_sums_3 : decode cX5_sums 3 = .ok (.istore 4, 2) := by decide +kernel
theorem dX5_sums_5 : decode cX5_sums 5 = .ok (.iload 4, 2) := by decide +kernel
theorem dX5_sums_7 : decode cX5_sums 7 = .ok (.aload_n 0, 1) := by decide +kernel
theorem dX5_sums_8 : decode cX5_sums 8 = .ok (.getfield 79, 3) := by decide +kernel
theorem dX5_sums_11 : decode cX5_sums 11 = .ok (.if_icmp .ge 47, 3) := by decide +kernel
theorem dX5_sums_14 : decode cX5_sums 14 = .ok (.iload_n 3, 1) := by decide +kernel
theorem dX5_sums_15 : decode cX5_sums 15 = .ok (.iload_n 2, 1) := by decide +kernel
theorem dX5_sums_16 : decode cX5_sums 16 = .ok (.ifCond .eq 13, 3) := by decide +kernel
theorem dX5_sums_19 : decode cX5_sums 19 = .ok (.aload_n 0, 1) := by decide +kernel
theorem dX5_sums_20 : decode cX5_sums 20 = .ok (.getfield 31, 3) := by decide +kernel
theorem dX5_sums_23 : decode cX5_sums 23 = .ok (.iload 4, 2) := by decide +kernel
theorem dX5_sums_25 : decode cX5_sums 25 = .ok (.iaload, 1) := by decide +kernel
theorem dX5_sums_26 : decode cX5_sums 26 = .ok (.goto 10, 3) := by decide +kernel
theorem dX5_sums_29 : decode cX5_sums 29 = .ok (.aload_n 0, 1) := by decide +kernel
theorem dX5_sums_30 : decode cX5_sums 30 = .ok (.getfield 16, 3) := by decide +kernel
theorem dX5_sums_33 : decode cX5_sums 33 = .ok (.iload 4, 2) := by decide +kernel
theorem dX5_sums_35 : decode cX5_sums 35 = .ok (.iaload, 1) := by decide +kernel
theorem dX5_sums_36 : decode cX5_sums 36 = .ok (.iload_n 1, 1) := by decide +kernel
theorem dX5_sums_37 : decode cX5_sums 37 = .ok (.if_icmp .ne 12, 3) := by decide +kernel
theorem dX5_sums_40 : decode cX5_sums 40 = .ok (.aload_n 0, 1) := by decide +kernel
theorem dX5_sums_41 : decode cX5_sums 41 = .ok (.iload 4, 2) := by decide +kernel
theorem dX5_sums_43 : decode cX5_sums 43 = .ok (.invokevirtual 114, 3) := by decide +kernel
theorem dX5_sums_46 : decode cX5_sums 46 = .ok (.goto 4, 3) := by decide +kernel
theorem dX5_sums_49 : decode cX5_sums 49 = .ok (.iconst 0, 1) := by decide +kernel
theorem dX5_sums_50 : decode cX5_sums 50 = .ok (.iadd, 1) := by decide +kernel
theorem dX5_sums_51 : decode cX5_sums 51 = .ok (.istore_n 3, 1) := by decide +kernel
theorem dX5_sums_52 : decode cX5_sums 52 = .ok (.iinc 4 1, 3) := by decide +kernel
theorem dX5_sums_55 : decode cX5_sums 55 = .ok (.goto (-50), 3) := by decide +kernel
theorem dX5_sums_58 : decode cX5_sums 58 = .ok (.iload_n 3, 1) := by decide +kernel
theorem dX5_sums_59 : decode cX5_sums 59 = .ok (.ireturn, 1) := by decide +kernel
theorem dX5_owedTo_0 : decode cX5_owedTo 0 = .ok (.aload_n 0, 1) := by decide +kernel
theorem dX5_owedTo_1 : decode cX5_owedTo 1 = .ok (.iload_n 1, 1) := by decide +kernel
theorem dX5_owedTo_2 : decode cX5_owedTo 2 = .ok (.invokestatic 86, 3) := by decide +kernel
theorem dX5_owedTo_5 : decode cX5_owedTo 5 = .ok (.ifCond .eq 7, 3) := by decide +kernel
theorem dX5_owedTo_8 : decode cX5_owedTo 8 = .ok (.iconst 0, 1) := by decide +kernel
theorem dX5_owedTo_9 : decode cX5_owedTo 9 = .ok (.goto 4, 3) := by decide +kernel
theorem dX5_owedTo_12 : decode cX5_owedTo 12 = .ok (.iconst 1, 1) := by decide +kernel
theorem dX5_owedTo_13 : decode cX5_owedTo 13 = .ok (.putfield 71, 3) := by decide +kernel
theorem dX5_owedTo_16 : decode cX5_owedTo 16 = .ok (.aload_n 0, 1) := by decide +kernel
theorem dX5_owedTo_17 : decode cX5_owedTo 17 = .ok (.getfield 71, 3) := by decide +kernel
theorem dX5_owedTo_20 : decode cX5_owedTo 20 = .ok (.ifCond .le 7, 3) := by decide +kernel
theorem dX5_owedTo_23 : decode cX5_owedTo 23 = .ok (.iconst 0, 1) := by decide +kernel
theorem dX5_owedTo_24 : decode cX5_owedTo 24 = .ok (.goto 9, 3) := by decide +kernel
theorem dX5_owedTo_27 : decode cX5_owedTo 27 = .ok (.aload_n 0, 1) := by decide +kernel
theorem dX5_owedTo_28 : decode cX5_owedTo 28 = .ok (.iload_n 1, 1) := by decide +kernel
theorem dX5_owedTo_29 : decode cX5_owedTo 29 = .ok (.iconst 1, 1) := by decide +kernel
theorem dX5_owedTo_30 : decode cX5_owedTo 30 = .ok (.invokevirtual 142, 3) := by decide +kernel
theorem dX5_owedTo_33 : decode cX5_owedTo 33 = .ok (.ireturn, 1) := by decide +kernel
theorem dX5_owes_0 : decode cX5_owes 0 = .ok (.aload_n 0, 1) := by decide +kernel
theorem dX5_owes_1 : decode cX5_owes 1 = .ok (.iload_n 1, 1) := by decide +kernel
theorem dX5_owes_2 : decode cX5_owes 2 = .ok (.invokestatic 86, 3) := by decide +kernel
theorem dX5_owes_5 : decode cX5_owes 5 = .ok (.ifCond .eq 7, 3) := by decide +kernel
theorem dX5_owes_8 : decode cX5_owes 8 = .ok (.iconst 0, 1) := by decide +kernel
theorem dX5_owes_9 : decode cX5_owes 9 = .ok (.goto 4, 3) := by decide +kernel
theorem dX5_owes_12 : decode cX5_owes 12 = .ok (.iconst 1, 1) := by decide +kernel
theorem dX5_owes_13 : decode cX5_owes 13 = .ok (.putfield 71, 3) := by decide +kernel
theorem dX5_owes_16 : decode cX5_owes 16 = .ok (.aload_n 0, 1) := by decide +kernel
theorem dX5_owes_17 : decode cX5_owes 17 = .ok (.getfield 71, 3) := by decide +kernel
theorem dX5_owes_20 : decode cX5_owes 20 = .ok (.ifCond .le 7, 3) := by decide +kernel
theorem dX5_owes_23 : decode cX5_owes 23 = .ok (.iconst 0, 1) := by decide +kernel
theorem dX5_owes_24 : decode cX5_owes 24 = .ok (.goto 9, 3) := by decide +kernel
theorem dX5_owes_27 : decode cX5_owes 27 = .ok (.aload_n 0, 1) := by decide +kernel
theorem dX5_owes_28 : decode cX5_owes 28 = .ok (.iload_n 1, 1) := by decide +kernel
theorem dX5_owes_29 : decode cX5_owes 29 = .ok (.iconst 0, 1) := by decide +kernel
theorem dX5_owes_30 : decode cX5_owes 30 = .ok (.invokevirtual 142, 3) := by decide +kernel
theorem dX5_owes_33 : decode cX5_owes 33 = .ok (.ireturn, 1) := by decide +kernel
theorem dX5_taxIn_0 : decode cX5_taxIn 0 = .ok (.iconst 0, 1) := by decide +kernel
theorem dX5_taxIn_1 : decode cX5_taxIn 1 = .ok (.istore_n 3, 1) := by decide +kernel
theorem dX5_taxIn_2 : decode cX5_taxIn 2 = .ok (.iconst 0, 1) := by decide +kernel
theorem dX5_taxIn_3 : decode cX5_taxIn 3 = .ok (.istore 4, 2) := by decide +kernel
theorem dX5_taxIn_5 : decode cX5_taxIn 5 = .ok (.iload 4, 2) := by decide +kernel
theorem dX5_taxIn_7 : decode cX5_taxIn 7 = .ok (.aload_n 0, 1) := by decide +kernel
theorem dX5_taxIn_8 : decode cX5_taxIn 8 = .ok (.getfield 79, 3) := by decide +kernel
theorem dX5_taxIn_11 : decode cX5_taxIn 11 = .ok (.if_icmp .ge 109, 3) := by decide +kernel
theorem dX5_taxIn_14 : decode cX5_taxIn 14 = .ok (.iload_n 3, 1) := by decide +kernel
theorem dX5_taxIn_15 : decode cX5_taxIn 15 = .ok (.aload_n 0, 1) := by decide +kernel
theorem dX5_taxIn_16 : decode cX5_taxIn 16 = .ok (.getfield 13, 3) := by decide +kernel
theorem dX5_taxIn_19 : decode cX5_taxIn 19 = .ok (.iload 4, 2) := by decide +kernel
theorem dX5_taxIn_21 : decode cX5_taxIn 21 = .ok (.iaload, 1) := by decide +kernel
theorem dX5_taxIn_22 : decode cX5_taxIn 22 = .ok (.iload_n 1, 1) := by decide +kernel
theorem dX5_taxIn_23 : decode cX5_taxIn 23 = .ok (.if_icmp .ne 38, 3) := by decide +kernel
theorem dX5_taxIn_26 : decode cX5_taxIn 26 = .ok (.aload_n 0, 1) := by decide +kernel
theorem dX5_taxIn_27 : decode cX5_taxIn 27 = .ok (.getfield 25, 3) := by decide +kernel
theorem dX5_taxIn_30 : decode cX5_taxIn 30 = .ok (.iload 4, 2) := by decide +kernel
theorem dX5_taxIn_32 : decode cX5_taxIn 32 = .ok (.iaload, 1) := by decide +kernel
theorem dX5_taxIn_33 : decode cX5_taxIn 33 = .ok (.bipush 30, 2) := by decide +kernel
theorem dX5_taxIn_35 : decode cX5_taxIn 35 = .ok (.idiv, 1) := by decide +kernel
theorem dX5_taxIn_36 : decode cX5_taxIn 36 = .ok (.iload_n 2, 1) := by decide +kernel
theorem dX5_taxIn_37 : decode cX5_taxIn 37 = .ok (.if_icmp .ne 24, 3) := by decide +kernel
theorem dX5_taxIn_40 : decode cX5_taxIn 40 = .ok (.aload_n 0, 1) := by decide +kernel
theorem dX5_taxIn_41 : decode cX5_taxIn 41 = .ok (.getfield 22, 3) := by decide +kernel
theorem dX5_taxIn_44 : decode cX5_taxIn 44 = .ok (.iload 4, 2) := by decide +kernel
theorem dX5_taxIn_46 : decode cX5_taxIn 46 = .ok (.iaload, 1) := by decide +kernel
theorem dX5_taxIn_47 : decode cX5_taxIn 47 = .ok (.iconst 2, 1) := by decide +kernel
theorem dX5_taxIn_48 : decode cX5_taxIn 48 = .ok (.if_icmp .eq 13, 3) := by decide +kernel
theorem dX5_taxIn_51 : decode cX5_taxIn 51 = .ok (.aload_n 0, 1) := by decide +kernel
theorem dX5_taxIn_52 : decode cX5_taxIn 52 = .ok (.iload 4, 2) := by decide +kernel
theorem dX5_taxIn_54 : decode cX5_taxIn 54 = .ok (.iconst 1, 1) := by decide +kernel
theorem dX5_taxIn_55 : decode cX5_taxIn 55 = .ok (.invokevirtual 139, 3) := by decide +kernel
theorem dX5_taxIn_58 : decode cX5_taxIn 58 = .ok (.goto 4, 3) := by decide +kernel
theorem dX5_taxIn_61 : decode cX5_taxIn 61 = .ok (.iconst 0, 1) := by decide +kernel
theorem dX5_taxIn_62 : decode cX5_taxIn 62 = .ok (.iadd, 1) := by decide +kernel
theorem dX5_taxIn_63 : decode cX5_taxIn 63 = .ok (.istore_n 3, 1) := by decide +kernel
theorem dX5_taxIn_64 : decode cX5_taxIn 64 = .ok (.iload_n 3, 1) := by decide +kernel
theorem dX5_taxIn_65 : decode cX5_taxIn 65 = .ok (.aload_n 0, 1) := by decide +kernel
theorem dX5_taxIn_66 : decode cX5_taxIn 66 = .ok (.getfield 16, 3) := by decide +kernel
theorem dX5_taxIn_69 : decode cX5_taxIn 69 = .ok (.iload 4, 2) := by decide +kernel
theorem dX5_taxIn_71 : decode cX5_taxIn 71 = .ok (.iaload, 1) := by decide +kernel
theorem dX5_taxIn_72 : decode cX5_taxIn 72 = .ok (.iload_n 1, 1) := by decide +kernel
theorem dX5_taxIn_73 : decode cX5_taxIn 73 = .ok (.if_icmp .ne 38, 3) := by decide +kernel
theorem dX5_taxIn_76 : decode cX5_taxIn 76 = .ok (.aload_n 0, 1) := by decide +kernel
theorem dX5_taxIn_77 : decode cX5_taxIn 77 = .ok (.getfield 22, 3) := by decide +kernel
theorem dX5_taxIn_80 : decode cX5_taxIn 80 = .ok (.iload 4, 2) := by decide +kernel
theorem dX5_taxIn_82 : decode cX5_taxIn 82 = .ok (.iaload, 1) := by decide +kernel
theorem dX5_taxIn_83 : decode cX5_taxIn 83 = .ok (.iconst 1, 1) := by decide +kernel
theorem dX5_taxIn_84 : decode cX5_taxIn 84 = .ok (.if_icmp .ne 27, 3) := by decide +kernel
theorem dX5_taxIn_87 : decode cX5_taxIn 87 = .ok (.aload_n 0, 1) := by decide +kernel
theorem dX5_taxIn_88 : decode cX5_taxIn 88 = .ok (.getfield 28, 3) := by decide +kernel
theorem dX5_taxIn_91 : decode cX5_taxIn 91 = .ok (.iload 4, 2) := by decide +kernel
theorem dX5_taxIn_93 : decode cX5_taxIn 93 = .ok (.iaload, 1) := by decide +kernel
theorem dX5_taxIn_94 : decode cX5_taxIn 94 = .ok (.bipush 30, 2) := by decide +kernel
theorem dX5_taxIn_96 : decode cX5_taxIn 96 = .ok (.idiv, 1) := by decide +kernel
theorem dX5_taxIn_97 : decode cX5_taxIn 97 = .ok (.iload_n 2, 1) := by decide +kernel
theorem dX5_taxIn_98 : decode cX5_taxIn 98 = .ok (.if_icmp .ne 13, 3) := by decide +kernel
theorem dX5_taxIn_101 : decode cX5_taxIn 101 = .ok (.aload_n 0, 1) := by decide +kernel
theorem dX5_taxIn_102 : decode cX5_taxIn 102 = .ok (.iload 4, 2) := by decide +kernel
theorem dX5_taxIn_104 : decode cX5_taxIn 104 = .ok (.iconst 1, 1) := by decide +kernel
theorem dX5_taxIn_105 : decode cX5_taxIn 105 = .ok (.invokevirtual 139, 3) := by decide +kernel
theorem dX5_taxIn_108 : decode cX5_taxIn 108 = .ok (.goto 4, 3) := by decide +kernel
theorem dX5_taxIn_111 : decode cX5_taxIn 111 = .ok (.iconst 0, 1) := by decide +kernel
theorem dX5_taxIn_112 : decode cX5_taxIn 112 = .ok (.isub, 1) := by decide +kernel
theorem dX5_taxIn_113 : decode cX5_taxIn 113 = .ok (.istore_n 3, 1) := by decide +kernel
theorem dX5_taxIn_114 : decode cX5_taxIn 114 = .ok (.iinc 4 1, 3) := by decide +kernel
theorem dX5_taxIn_117 : decode cX5_taxIn 117 = .ok (.goto (-112), 3) := by decide +kernel
theorem dX5_taxIn_120 : decode cX5_taxIn 120 = .ok (.iconst 0, 1) := by decide +kernel
theorem dX5_taxIn_121 : decode cX5_taxIn 121 = .ok (.istore 4, 2) := by decide +kernel
theorem dX5_taxIn_123 : decode cX5_taxIn 123 = .ok (.iload 4, 2) := by decide +kernel
theorem dX5_taxIn_125 : decode cX5_taxIn 125 = .ok (.aload_n 0, 1) := by decide +kernel
theorem dX5_taxIn_126 : decode cX5_taxIn 126 = .ok (.getfield 100, 3) := by decide +kernel
theorem dX5_taxIn_129 : decode cX5_taxIn 129 = .ok (.if_icmp .ge 121, 3) := by decide +kernel
theorem dX5_taxIn_132 : decode cX5_taxIn 132 = .ok (.aload_n 0, 1) := by decide +kernel
theorem dX5_taxIn_133 : decode cX5_taxIn 133 = .ok (.getfield 59, 3) := by decide +kernel
theorem dX5_taxIn_136 : decode cX5_taxIn 136 = .ok (.iload 4, 2) := by decide +kernel
theorem dX5_taxIn_138 : decode cX5_taxIn 138 = .ok (.iaload, 1) := by decide +kernel
theorem dX5_taxIn_139 : decode cX5_taxIn 139 = .ok (.istore 5, 2) := by decide +kernel
theorem dX5_taxIn_141 : decode cX5_taxIn 141 = .ok (.aload_n 0, 1) := by decide +kernel
theorem dX5_taxIn_142 : decode cX5_taxIn 142 = .ok (.getfield 62, 3) := by decide +kernel
theorem dX5_taxIn_145 : decode cX5_taxIn 145 = .ok (.iload 4, 2) := by decide +kernel
theorem dX5_taxIn_147 : decode cX5_taxIn 147 = .ok (.iaload, 1) := by decide +kernel
theorem dX5_taxIn_148 : decode cX5_taxIn 148 = .ok (.bipush 30, 2) := by decide +kernel
theorem dX5_taxIn_150 : decode cX5_taxIn 150 = .ok (.idiv, 1) := by decide +kernel
theorem dX5_taxIn_151 : decode cX5_taxIn 151 = .ok (.iload_n 2, 1) := by decide +kernel
theorem dX5_taxIn_152 : decode cX5_taxIn 152 = .ok (.if_icmp .ne 7, 3) := by decide +kernel
theorem dX5_taxIn_155 : decode cX5_taxIn 155 = .ok (.iconst 1, 1) := by decide +kernel
theorem dX5_taxIn_156 : decode cX5_taxIn 156 = .ok (.goto 4, 3) := by decide +kernel
theorem dX5_taxIn_159 : decode cX5_taxIn 159 = .ok (.iconst 0, 1) := by decide +kernel
theorem dX5_taxIn_160 : decode cX5_taxIn 160 = .ok (.istore 6, 2) := by decide +kernel
theorem dX5_taxIn_162 : decode cX5_taxIn 162 = .ok (.iload_n 3, 1) := by decide +kernel
theorem dX5_taxIn_163 : decode cX5_taxIn 163 = .ok (.iload 6, 2) := by decide +kernel
theorem dX5_taxIn_165 : decode cX5_taxIn 165 = .ok (.ifCond .eq 35, 3) := by decide +kernel
theorem dX5_taxIn_168 : decode cX5_taxIn 168 = .ok (.aload_n 0, 1) := by decide +kernel
theorem dX5_taxIn_169 : decode cX5_taxIn 169 = .ok (.getfield 13, 3) := by decide +kernel
theorem dX5_taxIn_172 : decode cX5_taxIn 172 = .ok (.iload 5, 2) := by decide +kernel
theorem dX5_taxIn_174 : decode cX5_taxIn 174 = .ok (.iaload, 1) := by decide +kernel
theorem dX5_taxIn_175 : decode cX5_taxIn 175 = .ok (.iload_n 1, 1) := by decide +kernel
theorem dX5_taxIn_176 : decode cX5_taxIn 176 = .ok (.if_icmp .ne 24, 3) := by decide +kernel
theorem dX5_taxIn_179 : decode cX5_taxIn 179 = .ok (.aload_n 0, 1) := by decide +kernel
theorem dX5_taxIn_180 : decode cX5_taxIn 180 = .ok (.getfield 22, 3) := by decide +kernel
theorem dX5_taxIn_183 : decode cX5_taxIn 183 = .ok (.iload 5, 2) := by decide +kernel
theorem dX5_taxIn_185 : decode cX5_taxIn 185 = .ok (.iaload, 1) := by decide +kernel
theorem dX5_taxIn_186 : decode cX5_taxIn 186 = .ok (.iconst 2, 1) := by decide +kernel
theorem dX5_taxIn_187 : decode cX5_taxIn 187 = .ok (.if_icmp .eq 13, 3) := by decide +kernel
theorem dX5_taxIn_190 : decode cX5_taxIn 190 = .ok (.aload_n 0, 1) := by decide +kernel
theorem dX5_taxIn_191 : decode cX5_taxIn 191 = .ok (.getfield 65, 3) := by decide +kernel
theorem dX5_taxIn_194 : decode cX5_taxIn 194 = .ok (.iload 4, 2) := by decide +kernel
theorem dX5_taxIn_196 : decode cX5_taxIn 196 = .ok (.iaload, 1) := by decide +kernel
theorem dX5_taxIn_197 : decode cX5_taxIn 197 = .ok (.goto 4, 3) := by decide +kernel
theorem dX5_taxIn_200 : decode cX5_taxIn 200 = .ok (.iconst 0, 1) := by decide +kernel
theorem dX5_taxIn_201 : decode cX5_taxIn 201 = .ok (.isub, 1) := by decide +kernel
theorem dX5_taxIn_202 : decode cX5_taxIn 202 = .ok (.istore_n 3, 1) := by decide +kernel
theorem dX5_taxIn_203 : decode cX5_taxIn 203 = .ok (.iload_n 3, 1) := by decide +kernel
theorem dX5_taxIn_204 : decode cX5_taxIn 204 = .ok (.iload 6, 2) := by decide +kernel
theorem dX5_taxIn_206 : decode cX5_taxIn 206 = .ok (.ifCond .eq 35, 3) := by decide +kernel
theorem dX5_taxIn_209 : decode cX5_taxIn 209 = .ok (.aload_n 0, 1) := by decide +kernel
theorem dX5_taxIn_210 : decode cX5_taxIn 210 = .ok (.getfield 16, 3) := by decide +kernel
theorem dX5_taxIn_213 : decode cX5_taxIn 213 = .ok (.iload 5, 2) := by decide +kernel
theorem dX5_taxIn_215 : decode cX5_taxIn 215 = .ok (.iaload, 1) := by decide +kernel
theorem dX5_taxIn_216 : decode cX5_taxIn 216 = .ok (.iload_n 1, 1) := by decide +kernel
theorem dX5_taxIn_217 : decode cX5_taxIn 217 = .ok (.if_icmp .ne 24, 3) := by decide +kernel
theorem dX5_taxIn_220 : decode cX5_taxIn 220 = .ok (.aload_n 0, 1) := by decide +kernel
theorem dX5_taxIn_221 : decode cX5_taxIn 221 = .ok (.getfield 22, 3) := by decide +kernel
theorem dX5_taxIn_224 : decode cX5_taxIn 224 = .ok (.iload 5, 2) := by decide +kernel
theorem dX5_taxIn_226 : decode cX5_taxIn 226 = .ok (.iaload, 1) := by decide +kernel
theorem dX5_taxIn_227 : decode cX5_taxIn 227 = .ok (.iconst 1, 1) := by decide +kernel
theorem dX5_taxIn_228 : decode cX5_taxIn 228 = .ok (.if_icmp .ne 13, 3) := by decide +kernel
theorem dX5_taxIn_231 : decode cX5_taxIn 231 = .ok (.aload_n 0, 1) := by decide +kernel
theorem dX5_taxIn_232 : decode cX5_taxIn 232 = .ok (.getfield 65, 3) := by decide +kernel
theorem dX5_taxIn_235 : decode cX5_taxIn 235 = .ok (.iload 4, 2) := by decide +kernel
theorem dX5_taxIn_237 : decode cX5_taxIn 237 = .ok (.iaload, 1) := by decide +kernel
theorem dX5_taxIn_238 : decode cX5_taxIn 238 = .ok (.goto 4, 3) := by decide +kernel
theorem dX5_taxIn_241 : decode cX5_taxIn 241 = .ok (.iconst 0, 1) := by decide +kernel
theorem dX5_taxIn_242 : decode cX5_taxIn 242 = .ok (.iadd, 1) := by decide +kernel
theorem dX5_taxIn_243 : decode cX5_taxIn 243 = .ok (.istore_n 3, 1) := by decide +kernel
theorem dX5_taxIn_244 : decode cX5_taxIn 244 = .ok (.iinc 4 1, 3) := by decide +kernel
theorem dX5_taxIn_247 : decode cX5_taxIn 247 = .ok (.goto (-124), 3) := by decide +kernel
theorem dX5_taxIn_250 : decode cX5_taxIn 250 = .ok (.iload_n 3, 1) := by decide +kernel
theorem dX5_taxIn_251 : decode cX5_taxIn 251 = .ok (.ireturn, 1) := by decide +kernel
theorem dX5_taxUpTo_0 : decode cX5_taxUpTo 0 = .ok (.iconst 0, 1) := by decide +kernel
theorem dX5_taxUpTo_1 : decode cX5_taxUpTo 1 = .ok (.istore_n 3, 1) := by decide +kernel
theorem dX5_taxUpTo_2 : decode cX5_taxUpTo 2 = .ok (.iconst 0, 1) := by decide +kernel
theorem dX5_taxUpTo_3 : decode cX5_taxUpTo 3 = .ok (.istore 4, 2) := by decide +kernel
theorem dX5_taxUpTo_5 : decode cX5_taxUpTo 5 = .ok (.iload 4, 2) := by decide +kernel
theorem dX5_taxUpTo_7 : decode cX5_taxUpTo 7 = .ok (.iload_n 2, 1) := by decide +kernel
theorem dX5_taxUpTo_8 : decode cX5_taxUpTo 8 = .ok (.if_icmp .gt 27, 3) := by decide +kernel
theorem dX5_taxUpTo_11 : decode cX5_taxUpTo 11 = .ok (.iload_n 3, 1) := by decide +kernel
theorem dX5_taxUpTo_12 : decode cX5_taxUpTo 12 = .ok (.ifCond .ge 7, 3) := by decide +kernel
theorem dX5_taxUpTo_15 : decode cX5_taxUpTo 15 = .ok (.iload_n 3, 1) := by decide +kernel
theorem dX5_taxUpTo_16 : decode cX5_taxUpTo 16 = .ok (.goto 4, 3) := by decide +kernel
theorem dX5_taxUpTo_19 : decode cX5_taxUpTo 19 = .ok (.iconst 0, 1) := by decide +kernel
theorem dX5_taxUpTo_20 : decode cX5_taxUpTo 20 = .ok (.aload_n 0, 1) := by decide +kernel
theorem dX5_taxUpTo_21 : decode cX5_taxUpTo 21 = .ok (.iload_n 1, 1) := by decide +kernel
theorem dX5_taxUpTo_22 : decode cX5_taxUpTo 22 = .ok (.iload 4, 2) := by decide +kernel
theorem dX5_taxUpTo_24 : decode cX5_taxUpTo 24 = .ok (.invokevirtual 145, 3) := by decide +kernel
theorem dX5_taxUpTo_27 : decode cX5_taxUpTo 27 = .ok (.iadd, 1) := by decide +kernel
theorem dX5_taxUpTo_28 : decode cX5_taxUpTo 28 = .ok (.istore_n 3, 1) := by decide +kernel
theorem dX5_taxUpTo_29 : decode cX5_taxUpTo 29 = .ok (.iinc 4 1, 3) := by decide +kernel
theorem dX5_taxUpTo_32 : decode cX5_taxUpTo 32 = .ok (.goto (-27), 3) := by decide +kernel
theorem dX5_taxUpTo_35 : decode cX5_taxUpTo 35 = .ok (.iload_n 3, 1) := by decide +kernel
theorem dX5_taxUpTo_36 : decode cX5_taxUpTo 36 = .ok (.ireturn, 1) := by decide +kernel
theorem dX5_isMonth_0 : decode cX5_isMonth 0 = .ok (.iload_n 1, 1) := by decide +kernel
theorem dX5_isMonth_1 : decode cX5_isMonth 1 = .ok (.iconst 0, 1) := by decide +kernel
theorem dX5_isMonth_2 : decode cX5_isMonth 2 = .ok (.aload_n 0, 1) := by decide +kernel
theorem dX5_isMonth_3 : decode cX5_isMonth 3 = .ok (.getfield 93, 3) := by decide +kernel
theorem dX5_isMonth_6 : decode cX5_isMonth 6 = .ok (.bipush 30, 2) := by decide +kernel
theorem dX5_isMonth_8 : decode cX5_isMonth 8 = .ok (.idiv, 1) := by decide +kernel
theorem dX5_isMonth_9 : decode cX5_isMonth 9 = .ok (.invokestatic 75, 3) := by decide +kernel
theorem dX5_isMonth_12 : decode cX5_isMonth 12 = .ok (.ireturn, 1) := by decide +kernel
theorem dX5_tax_0 : decode cX5_tax 0 = .ok (.aload_n 0, 1) := by decide +kernel
theorem dX5_tax_1 : decode cX5_tax 1 = .ok (.iload_n 1, 1) := by decide +kernel
theorem dX5_tax_2 : decode cX5_tax 2 = .ok (.invokestatic 86, 3) := by decide +kernel
theorem dX5_tax_5 : decode cX5_tax 5 = .ok (.ifCond .eq 15, 3) := by decide +kernel
theorem dX5_tax_8 : decode cX5_tax 8 = .ok (.aload_n 0, 1) := by decide +kernel
theorem dX5_tax_9 : decode cX5_tax 9 = .ok (.iload_n 2, 1) := by decide +kernel
theorem dX5_tax_10 : decode cX5_tax 10 = .ok (.invokevirtual 148, 3) := by decide +kernel
theorem dX5_tax_13 : decode cX5_tax 13 = .ok (.ifCond .eq 7, 3) := by decide +kernel
theorem dX5_tax_16 : decode cX5_tax 16 = .ok (.iconst 0, 1) := by decide +kernel
theorem dX5_tax_17 : decode cX5_tax 17 = .ok (.goto 4, 3) := by decide +kernel
theorem dX5_tax_20 : decode cX5_tax 20 = .ok (.iconst 1, 1) := by decide +kernel
theorem dX5_tax_21 : decode cX5_tax 21 = .ok (.putfield 71, 3) := by decide +kernel
theorem dX5_tax_24 : decode cX5_tax 24 = .ok (.aload_n 0, 1) := by decide +kernel
theorem dX5_tax_25 : decode cX5_tax 25 = .ok (.getfield 71, 3) := by decide +kernel
theorem dX5_tax_28 : decode cX5_tax 28 = .ok (.ifCond .le 5, 3) := by decide +kernel
theorem dX5_tax_31 : decode cX5_tax 31 = .ok (.iconst 0, 1) := by decide +kernel
theorem dX5_tax_32 : decode cX5_tax 32 = .ok (.ireturn, 1) := by decide +kernel
theorem dX5_tax_33 : decode cX5_tax 33 = .ok (.aload_n 0, 1) := by decide +kernel
theorem dX5_tax_34 : decode cX5_tax 34 = .ok (.iload_n 1, 1) := by decide +kernel
theorem dX5_tax_35 : decode cX5_tax 35 = .ok (.iload_n 2, 1) := by decide +kernel
theorem dX5_tax_36 : decode cX5_tax 36 = .ok (.invokevirtual 151, 3) := by decide +kernel
theorem dX5_tax_39 : decode cX5_tax 39 = .ok (.istore_n 3, 1) := by decide +kernel
theorem dX5_tax_40 : decode cX5_tax 40 = .ok (.iload_n 3, 1) := by decide +kernel
theorem dX5_tax_41 : decode cX5_tax 41 = .ok (.ifCond .le 7, 3) := by decide +kernel
theorem dX5_tax_44 : decode cX5_tax 44 = .ok (.iload_n 3, 1) := by decide +kernel
theorem dX5_tax_45 : decode cX5_tax 45 = .ok (.goto 4, 3) := by decide +kernel
theorem dX5_tax_48 : decode cX5_tax 48 = .ok (.iconst 0, 1) := by decide +kernel
theorem dX5_tax_49 : decode cX5_tax 49 = .ok (.ireturn, 1) := by decide +kernel
theorem dX5_carried_0 : decode cX5_carried 0 = .ok (.aload_n 0, 1) := by decide +kernel
theorem dX5_carried_1 : decode cX5_carried 1 = .ok (.iload_n 1, 1) := by decide +kernel
theorem dX5_carried_2 : decode cX5_carried 2 = .ok (.invokestatic 86, 3) := by decide +kernel
theorem dX5_carried_5 : decode cX5_carried 5 = .ok (.ifCond .eq 15, 3) := by decide +kernel
theorem dX5_carried_8 : decode cX5_carried 8 = .ok (.aload_n 0, 1) := by decide +kernel
theorem dX5_carried_9 : decode cX5_carried 9 = .ok (.iload_n 2, 1) := by decide +kernel
theorem dX5_carried_10 : decode cX5_carried 10 = .ok (.invokevirtual 148, 3) := by decide +kernel
theorem dX5_carried_13 : decode cX5_carried 13 = .ok (.ifCond .eq 7, 3) := by decide +kernel
theorem dX5_carried_16 : decode cX5_carried 16 = .ok (.iconst 0, 1) := by decide +kernel
theorem dX5_carried_17 : decode cX5_carried 17 = .ok (.goto 4, 3) := by decide +kernel
theorem dX5_carried_20 : decode cX5_carried 20 = .ok (.iconst 1, 1) := by decide +kernel
theorem dX5_carried_21 : decode cX5_carried 21 = .ok (.putfield 71, 3) := by decide +kernel
theorem dX5_carried_24 : decode cX5_carried 24 = .ok (.aload_n 0, 1) := by decide +kernel
theorem dX5_carried_25 : decode cX5_carried 25 = .ok (.getfield 71, 3) := by decide +kernel
theorem dX5_carried_28 : decode cX5_carried 28 = .ok (.ifCond .le 5, 3) := by decide +kernel
theorem dX5_carried_31 : decode cX5_carried 31 = .ok (.iconst 0, 1) := by decide +kernel
theorem dX5_carried_32 : decode cX5_carried 32 = .ok (.ireturn, 1) := by decide +kernel
theorem dX5_carried_33 : decode cX5_carried 33 = .ok (.aload_n 0, 1) := by decide +kernel
theorem dX5_carried_34 : decode cX5_carried 34 = .ok (.iload_n 1, 1) := by decide +kernel
theorem dX5_carried_35 : decode cX5_carried 35 = .ok (.iload_n 2, 1) := by decide +kernel
theorem dX5_carried_36 : decode cX5_carried 36 = .ok (.invokevirtual 151, 3) := by decide +kernel
theorem dX5_carried_39 : decode cX5_carried 39 = .ok (.istore_n 3, 1) := by decide +kernel
theorem dX5_carried_40 : decode cX5_carried 40 = .ok (.iload_n 3, 1) := by decide +kernel
theorem dX5_carried_41 : decode cX5_carried 41 = .ok (.ifCond .ge 7, 3) := by decide +kernel
theorem dX5_carried_44 : decode cX5_carried 44 = .ok (.iload_n 3, 1) := by decide +kernel
theorem dX5_carried_45 : decode cX5_carried 45 = .ok (.goto 4, 3) := by decide +kernel
theorem dX5_carried_48 : decode cX5_carried 48 = .ok (.iconst 0, 1) := by decide +kernel
theorem dX5_carried_49 : decode cX5_carried 49 = .ok (.ireturn, 1) := by decide +kernel
theorem dX5_chain_0 : decode cX5_chain 0 = .ok (.aload_n 0, 1) := by decide +kernel
theorem dX5_chain_1 : decode cX5_chain 1 = .ok (.iload_n 1, 1) := by decide +kernel
theorem dX5_chain_2 : decode cX5_chain 2 = .ok (.iconst 0, 1) := by decide +kernel
theorem dX5_chain_3 : decode cX5_chain 3 = .ok (.bipush 7, 2) := by decide +kernel
theorem dX5_chain_5 : decode cX5_chain 5 = .ok (.invokestatic 75, 3) := by decide +kernel
theorem dX5_chain_8 : decode cX5_chain 8 = .ok (.ifCond .eq 7, 3) := by decide +kernel
theorem dX5_chain_11 : decode cX5_chain 11 = .ok (.iconst 0, 1) := by decide +kernel
theorem dX5_chain_12 : decode cX5_chain 12 = .ok (.goto 4, 3) := by decide +kernel
theorem dX5_chain_15 : decode cX5_chain 15 = .ok (.iconst 1, 1) := by decide +kernel
theorem dX5_chain_16 : decode cX5_chain 16 = .ok (.putfield 71, 3) := by decide +kernel
theorem dX5_chain_19 : decode cX5_chain 19 = .ok (.iconst 0, 1) := by decide +kernel
theorem dX5_chain_20 : decode cX5_chain 20 = .ok (.istore_n 2, 1) := by decide +kernel
theorem dX5_chain_21 : decode cX5_chain 21 = .ok (.iconst 0, 1) := by decide +kernel
theorem dX5_chain_22 : decode cX5_chain 22 = .ok (.istore_n 3, 1) := by decide +kernel
theorem dX5_chain_23 : decode cX5_chain 23 = .ok (.iload_n 3, 1) := by decide +kernel
theorem dX5_chain_24 : decode cX5_chain 24 = .ok (.aload_n 0, 1) := by decide +kernel
theorem dX5_chain_25 : decode cX5_chain 25 = .ok (.getfield 79, 3) := by decide +kernel
theorem dX5_chain_28 : decode cX5_chain 28 = .ok (.if_icmp .ge 157, 3) := by decide +kernel
theorem dX5_chain_31 : decode cX5_chain 31 = .ok (.aload_n 0, 1) := by decide +kernel
theorem dX5_chain_32 : decode cX5_chain 32 = .ok (.getfield 71, 3) := by decide +kernel
theorem dX5_chain_35 : decode cX5_chain 35 = .ok (.ifCond .ne 150, 3) := by decide +kernel
theorem dX5_chain_38 : decode cX5_chain 38 = .ok (.aload_n 0, 1) := by decide +kernel
theorem dX5_chain_39 : decode cX5_chain 39 = .ok (.getfield 19, 3) := by decide +kernel
theorem dX5_chain_42 : decode cX5_chain 42 = .ok (.iload_n 3, 1) := by decide +kernel
theorem dX5_chain_43 : decode cX5_chain 43 = .ok (.iaload, 1) := by decide +kernel
theorem dX5_chain_44 : decode cX5_chain 44 = .ok (.iload_n 1, 1) := by decide +kernel
theorem dX5_chain_45 : decode cX5_chain 45 = .ok (.if_icmp .ne 134, 3) := by decide +kernel
theorem dX5_chain_48 : decode cX5_chain 48 = .ok (.aload_n 0, 1) := by decide +kernel
theorem dX5_chain_49 : decode cX5_chain 49 = .ok (.getfield 22, 3) := by decide +kernel
theorem dX5_chain_52 : decode cX5_chain 52 = .ok (.iload_n 3, 1) := by decide +kernel
theorem dX5_chain_53 : decode cX5_chain 53 = .ok (.iaload, 1) := by decide +kernel
theorem dX5_chain_54 : decode cX5_chain 54 = .ok (.iconst 1, 1) := by decide +kernel
theorem dX5_chain_55 : decode cX5_chain 55 = .ok (.if_icmp .ne 124, 3) := by decide +kernel
theorem dX5_chain_58 : decode cX5_chain 58 = .ok (.iconst 0, 1) := by decide +kernel
theorem dX5_chain_59 : decode cX5_chain 59 = .ok (.istore 4, 2) := by decide +kernel
theorem dX5_chain_61 : decode cX5_chain 61 = .ok (.iconst 0, 1) := by decide +kernel
theorem dX5_chain_62 : decode cX5_chain 62 = .ok (.istore 5, 2) := by decide +kernel
theorem dX5_chain_64 : decode cX5_chain 64 = .ok (.iload 5, 2) := by decide +kernel
theorem dX5_chain_66 : decode cX5_chain 66 = .ok (.iload_n 3, 1) := by decide +kernel
theorem dX5_chain_67 : decode cX5_chain 67 = .ok (.if_icmp .ge 85, 3) := by decide +kernel
theorem dX5_chain_70 : decode cX5_chain 70 = .ok (.aload_n 0, 1) := by decide +kernel
theorem dX5_chain_71 : decode cX5_chain 71 = .ok (.getfield 19, 3) := by decide +kernel
theorem dX5_chain_74 : decode cX5_chain 74 = .ok (.iload 5, 2) := by decide +kernel
theorem dX5_chain_76 : decode cX5_chain 76 = .ok (.iaload, 1) := by decide +kernel
theorem dX5_chain_77 : decode cX5_chain 77 = .ok (.iload_n 1, 1) := by decide +kernel
theorem dX5_chain_78 : decode cX5_chain 78 = .ok (.if_icmp .ne 34, 3) := by decide +kernel
theorem dX5_chain_81 : decode cX5_chain 81 = .ok (.aload_n 0, 1) := by decide +kernel
theorem dX5_chain_82 : decode cX5_chain 82 = .ok (.getfield 22, 3) := by decide +kernel
theorem dX5_chain_85 : decode cX5_chain 85 = .ok (.iload 5, 2) := by decide +kernel
theorem dX5_chain_87 : decode cX5_chain 87 = .ok (.iaload, 1) := by decide +kernel
theorem dX5_chain_88 : decode cX5_chain 88 = .ok (.iconst 1, 1) := by decide +kernel
theorem dX5_chain_89 : decode cX5_chain 89 = .ok (.if_icmp .ne 23, 3) := by decide +kernel
theorem dX5_chain_92 : decode cX5_chain 92 = .ok (.aload_n 0, 1) := by decide +kernel
theorem dX5_chain_93 : decode cX5_chain 93 = .ok (.getfield 16, 3) := by decide +kernel
theorem dX5_chain_96 : decode cX5_chain 96 = .ok (.iload 5, 2) := by decide +kernel
theorem dX5_chain_98 : decode cX5_chain 98 = .ok (.iaload, 1) := by decide +kernel
theorem dX5_chain_99 : decode cX5_chain 99 = .ok (.aload_n 0, 1) := by decide +kernel
theorem dX5_chain_100 : decode cX5_chain 100 = .ok (.getfield 13, 3) := by decide +kernel
theorem dX5_chain_103 : decode cX5_chain 103 = .ok (.iload_n 3, 1) := by decide +kernel
theorem dX5_chain_104 : decode cX5_chain 104 = .ok (.iaload, 1) := by decide +kernel
theorem dX5_chain_105 : decode cX5_chain 105 = .ok (.if_icmp .ne 7, 3) := by decide +kernel
theorem dX5_chain_108 : decode cX5_chain 108 = .ok (.iconst 1, 1) := by decide +kernel
theorem dX5_chain_109 : decode cX5_chain 109 = .ok (.goto 4, 3) := by decide +kernel
theorem dX5_chain_112 : decode cX5_chain 112 = .ok (.iconst 0, 1) := by decide +kernel
theorem dX5_chain_113 : decode cX5_chain 113 = .ok (.istore 6, 2) := by decide +kernel
theorem dX5_chain_115 : decode cX5_chain 115 = .ok (.iload 6, 2) := by decide +kernel
theorem dX5_chain_117 : decode cX5_chain 117 = .ok (.ifCond .eq 25, 3) := by decide +kernel
theorem dX5_chain_120 : decode cX5_chain 120 = .ok (.aload_n 0, 1) := by decide +kernel
theorem dX5_chain_121 : decode cX5_chain 121 = .ok (.iload 5, 2) := by decide +kernel
theorem dX5_chain_123 : decode cX5_chain 123 = .ok (.iconst 0, 1) := by decide +kernel
theorem dX5_chain_124 : decode cX5_chain 124 = .ok (.invokevirtual 139, 3) := by decide +kernel
theorem dX5_chain_127 : decode cX5_chain 127 = .ok (.iload 4, 2) := by decide +kernel
theorem dX5_chain_129 : decode cX5_chain 129 = .ok (.if_icmp .le 13, 3) := by decide +kernel
theorem dX5_chain_132 : decode cX5_chain 132 = .ok (.aload_n 0, 1) := by decide +kernel
theorem dX5_chain_133 : decode cX5_chain 133 = .ok (.iload 5, 2) := by decide +kernel
theorem dX5_chain_135 : decode cX5_chain 135 = .ok (.iconst 0, 1) := by decide +kernel
theorem dX5_chain_136 : decode cX5_chain 136 = .ok (.invokevirtual 139, 3) := by decide +kernel
theorem dX5_chain_139 : decode cX5_chain 139 = .ok (.goto 5, 3) := by decide +kernel
theorem dX5_chain_142 : decode cX5_chain 142 = .ok (.iload 4, 2) := by decide +kernel
theorem dX5_chain_144 : decode cX5_chain 144 = .ok (.istore 4, 2) := by decide +kernel
theorem dX5_chain_146 : decode cX5_chain 146 = .ok (.iinc 5 1, 3) := by decide +kernel
theorem dX5_chain_149 : decode cX5_chain 149 = .ok (.goto (-85), 3) := by decide +kernel
theorem dX5_chain_152 : decode cX5_chain 152 = .ok (.iload_n 2, 1) := by decide +kernel
theorem dX5_chain_153 : decode cX5_chain 153 = .ok (.aload_n 0, 1) := by decide +kernel
theorem dX5_chain_154 : decode cX5_chain 154 = .ok (.iload_n 3, 1) := by decide +kernel
theorem dX5_chain_155 : decode cX5_chain 155 = .ok (.iconst 0, 1) := by decide +kernel
theorem dX5_chain_156 : decode cX5_chain 156 = .ok (.invokevirtual 139, 3) := by decide +kernel
theorem dX5_chain_159 : decode cX5_chain 159 = .ok (.iload 4, 2) := by decide +kernel
theorem dX5_chain_161 : decode cX5_chain 161 = .ok (.if_icmp .le 15, 3) := by decide +kernel
theorem dX5_chain_164 : decode cX5_chain 164 = .ok (.aload_n 0, 1) := by decide +kernel
theorem dX5_chain_165 : decode cX5_chain 165 = .ok (.iload_n 3, 1) := by decide +kernel
theorem dX5_chain_166 : decode cX5_chain 166 = .ok (.iconst 0, 1) := by decide +kernel
theorem dX5_chain_167 : decode cX5_chain 167 = .ok (.invokevirtual 139, 3) := by decide +kernel
theorem dX5_chain_170 : decode cX5_chain 170 = .ok (.iload 4, 2) := by decide +kernel
theorem dX5_chain_172 : decode cX5_chain 172 = .ok (.isub, 1) := by decide +kernel
theorem dX5_chain_173 : decode cX5_chain 173 = .ok (.goto 4, 3) := by decide +kernel
theorem dX5_chain_176 : decode cX5_chain 176 = .ok (.iconst 0, 1) := by decide +kernel
theorem dX5_chain_177 : decode cX5_chain 177 = .ok (.iadd, 1) := by decide +kernel
theorem dX5_chain_178 : decode cX5_chain 178 = .ok (.istore_n 2, 1) := by decide +kernel
theorem dX5_chain_179 : decode cX5_chain 179 = .ok (.iinc 3 1, 3) := by decide +kernel
theorem dX5_chain_182 : decode cX5_chain 182 = .ok (.goto (-159), 3) := by decide +kernel
theorem dX5_chain_185 : decode cX5_chain 185 = .ok (.iload_n 2, 1) := by decide +kernel
theorem dX5_chain_186 : decode cX5_chain 186 = .ok (.ireturn, 1) := by decide +kernel
theorem dX5_day_0 : decode cX5_day 0 = .ok (.aload_n 0, 1) := by decide +kernel
theorem dX5_day_1 : decode cX5_day 1 = .ok (.iconst 0, 1) := by decide +kernel
theorem dX5_day_2 : decode cX5_day 2 = .ok (.putfield 71, 3) := by decide +kernel
theorem dX5_day_5 : decode cX5_day 5 = .ok (.aload_n 0, 1) := by decide +kernel
theorem dX5_day_6 : decode cX5_day 6 = .ok (.getfield 93, 3) := by decide +kernel
theorem dX5_day_9 : decode cX5_day 9 = .ok (.ireturn, 1) := by decide +kernel
