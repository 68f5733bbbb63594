theorem dX0_init_0 : decode cX0_init 0 = .ok (.aload_n 0, 1) := by decide +kernel
theorem dX0_init_1 : decode cX0_init 1 = .ok (.invokespecial 3, 3) := by decide +kernel
theorem dX0_init_4 : decode cX0_init 4 = .ok (.aload_n 0, 1) := by decide +kernel
theorem dX0_init_5 : decode cX0_init 5 = .ok (.aload_n 1, 1) := by decide +kernel
theorem dX0_init_6 : decode cX0_init 6 = .ok (.putfield 9, 3) := by decide +kernel
theorem dX0_init_9 : decode cX0_init 9 = .ok (.aload_n 0, 1) := by decide +kernel
theorem dX0_init_10 : decode cX0_init 10 = .ok (.iload_n 2, 1) := by decide +kernel
theorem dX0_init_11 : decode cX0_init 11 = .ok (.putfield 15, 3) := by decide +kernel
theorem dX0_init_14 : decode cX0_init 14 = .ok (.aload_n 0, 1) := by decide +kernel
theorem dX0_init_15 : decode cX0_init 15 = .ok (.iload_n 3, 1) := by decide +kernel
theorem dX0_init_16 : decode cX0_init 16 = .ok (.putfield 19, 3) := by decide +kernel
theorem dX0_init_19 : decode cX0_init 19 = .ok (.return_, 1) := by decide +kernel
theorem dX0_taxFor_0 : decode cX0_taxFor 0 = .ok (.aload_n 0, 1) := by decide +kernel
theorem dX0_taxFor_1 : decode cX0_taxFor 1 = .ok (.getfield 15, 3) := by decide +kernel
theorem dX0_taxFor_4 : decode cX0_taxFor 4 = .ok (.iload_n 2, 1) := by decide +kernel
theorem dX0_taxFor_5 : decode cX0_taxFor 5 = .ok (.if_icmp .eq 5, 3) := by decide +kernel
theorem dX0_taxFor_8 : decode cX0_taxFor 8 = .ok (.iconst 0, 1) := by decide +kernel
theorem dX0_taxFor_9 : decode cX0_taxFor 9 = .ok (.ireturn, 1) := by decide +kernel
theorem dX0_taxFor_10 : decode cX0_taxFor 10 = .ok (.iload_n 1, 1) := by decide +kernel
theorem dX0_taxFor_11 : decode cX0_taxFor 11 = .ok (.aload_n 0, 1) := by decide +kernel
theorem dX0_taxFor_12 : decode cX0_taxFor 12 = .ok (.getfield 9, 3) := by decide +kernel
theorem dX0_taxFor_15 : decode cX0_taxFor 15 = .ok (.getfield 22, 3) := by decide +kernel
theorem dX0_taxFor_18 : decode cX0_taxFor 18 = .ok (.if_icmp .ne 20, 3) := by decide +kernel
theorem dX0_taxFor_21 : decode cX0_taxFor 21 = .ok (.aload_n 0, 1) := by decide +kernel
theorem dX0_taxFor_22 : decode cX0_taxFor 22 = .ok (.getfield 9, 3) := by decide +kernel
theorem dX0_taxFor_25 : decode cX0_taxFor 25 = .ok (.getfield 27, 3) := by decide +kernel
theorem dX0_taxFor_28 : decode cX0_taxFor 28 = .ok (.iconst 2, 1) := by decide +kernel
theorem dX0_taxFor_29 : decode cX0_taxFor 29 = .ok (.if_icmp .eq 9, 3) := by decide +kernel
theorem dX0_taxFor_32 : decode cX0_taxFor 32 = .ok (.aload_n 0, 1) := by decide +kernel
theorem dX0_taxFor_33 : decode cX0_taxFor 33 = .ok (.getfield 19, 3) := by decide +kernel
theorem dX0_taxFor_36 : decode cX0_taxFor 36 = .ok (.ineg, 1) := by decide +kernel
theorem dX0_taxFor_37 : decode cX0_taxFor 37 = .ok (.ireturn, 1) := by decide +kernel
theorem dX0_taxFor_38 : decode cX0_taxFor 38 = .ok (.iload_n 1, 1) := by decide +kernel
theorem dX0_taxFor_39 : decode cX0_taxFor 39 = .ok (.aload_n 0, 1) := by decide +kernel
theorem dX0_taxFor_40 : decode cX0_taxFor 40 = .ok (.getfield 9, 3) := by decide +kernel
theorem dX0_taxFor_43 : decode cX0_taxFor 43 = .ok (.getfield 30, 3) := by decide +kernel
theorem dX0_taxFor_46 : decode cX0_taxFor 46 = .ok (.if_icmp .ne 19, 3) := by decide +kernel
theorem dX0_taxFor_49 : decode cX0_taxFor 49 = .ok (.aload_n 0, 1) := by decide +kernel
theorem dX0_taxFor_50 : decode cX0_taxFor 50 = .ok (.getfield 9, 3) := by decide +kernel
theorem dX0_taxFor_53 : decode cX0_taxFor 53 = .ok (.getfield 27, 3) := by decide +kernel
theorem dX0_taxFor_56 : decode cX0_taxFor 56 = .ok (.iconst 1, 1) := by decide +kernel
theorem dX0_taxFor_57 : decode cX0_taxFor 57 = .ok (.if_icmp .ne 8, 3) := by decide +kernel
theorem dX0_taxFor_60 : decode cX0_taxFor 60 = .ok (.aload_n 0, 1) := by decide +kernel
theorem dX0_taxFor_61 : decode cX0_taxFor 61 = .ok (.getfield 19, 3) := by decide +kernel
theorem dX0_taxFor_64 : decode cX0_taxFor 64 = .ok (.ireturn, 1) := by decide +kernel
theorem dX0_taxFor_65 : decode cX0_taxFor 65 = .ok (.iconst 0, 1) := by decide +kernel
theorem dX0_taxFor_66 : decode cX0_taxFor 66 = .ok (.ireturn, 1) := by decide +kernel
theorem dX1_init_0 : decode cX1_init 0 = .ok (.aload_n 0, 1) := by decide +kernel
theorem dX1_init_1 : decode cX1_init 1 = .ok (.invokespecial 1, 3) := by decide +kernel
theorem dX1_init_4 : decode cX1_init 4 = .ok (.aload_n 0, 1) := by decide +kernel
theorem dX1_init_5 : decode cX1_init 5 = .ok (.iload_n 1, 1) := by decide +kernel
theorem dX1_init_6 : decode cX1_init 6 = .ok (.putfield 7, 3) := by decide +kernel
theorem dX1_init_9 : decode cX1_init 9 = .ok (.aload_n 0, 1) := by decide +kernel
theorem dX1_init_10 : decode cX1_init 10 = .ok (.iload_n 2, 1) := by decide +kernel
theorem dX1_init_11 : decode cX1_init 11 = .ok (.putfield 13, 3) := by decide +kernel
theorem dX1_init_14 : decode cX1_init 14 = .ok (.aload_n 0, 1) := by decide +kernel
theorem dX1_init_15 : decode cX1_init 15 = .ok (.iload_n 3, 1) := by decide +kernel
theorem dX1_init_16 : decode cX1_init 16 = .ok (.putfield 16, 3) := by decide +kernel
theorem dX1_init_19 : decode cX1_init 19 = .ok (.return_, 1) := by decide +kernel
theorem dX2_init_0 : decode cX2_init 0 = .ok (.aload_n 0, 1) := by decide +kernel
theorem dX2_init_1 : decode cX2_init 1 = .ok (.invokespecial 3, 3) := by decide +kernel
theorem dX2_init_4 : decode cX2_init 4 = .ok (.aload_n 0, 1) := by decide +kernel
theorem dX2_init_5 : decode cX2_init 5 = .ok (.new 9, 3) := by decide +kernel
theorem dX2_init_8 : decode cX2_init 8 = .ok (.dup, 1) := by decide +kernel
theorem dX2_init_9 : decode cX2_init 9 = .ok (.invokespecial 11, 3) := by decide +kernel
theorem dX2_init_12 : decode cX2_init 12 = .ok (.putfield 12, 3) := by decide +kernel
theorem dX2_init_15 : decode cX2_init 15 = .ok (.aload_n 0, 1) := by decide +kernel
theorem dX2_init_16 : decode cX2_init 16 = .ok (.iconst 0, 1) := by decide +kernel
theorem dX2_init_17 : decode cX2_init 17 = .ok (.putfield 18, 3) := by decide +kernel
theorem dX2_init_20 : decode cX2_init 20 = .ok (.aload_n 0, 1) := by decide +kernel
theorem dX2_init_21 : decode cX2_init 21 = .ok (.iconst (-1), 1) := by decide +kernel
theorem dX2_init_22 : decode cX2_init 22 = .ok (.putfield 22, 3) := by decide +kernel
theorem dX2_init_25 : decode cX2_init 25 = .ok (.aload_n 0, 1) := by decide +kernel
theorem dX2_init_26 : decode cX2_init 26 = .ok (.iconst 0, 1) := by decide +kernel
theorem dX2_init_27 : decode cX2_init 27 = .ok (.putfield 25, 3) := by decide +kernel
theorem dX2_init_30 : decode cX2_init 30 = .ok (.aload_n 0, 1) := by decide +kernel
theorem dX2_init_31 : decode cX2_init 31 = .ok (.iconst 0, 1) := by decide +kernel
theorem dX2_init_32 : decode cX2_init 32 = .ok (.putfield 29, 3) := by decide +kernel
theorem dX2_init_35 : decode cX2_init 35 = .ok (.aload_n 0, 1) := by decide +kernel
theorem dX2_init_36 : decode cX2_init 36 = .ok (.iconst 0, 1) := by decide +kernel
theorem dX2_init_37 : decode cX2_init 37 = .ok (.putfield 32, 3) := by decide +kernel
theorem dX2_init_40 : decode cX2_init 40 = .ok (.aload_n 0, 1) := by decide +kernel
theorem dX2_init_41 : decode cX2_init 41 = .ok (.iconst 0, 1) := by decide +kernel
theorem dX2_init_42 : decode cX2_init 42 = .ok (.putfield 35, 3) := by decide +kernel
theorem dX2_init_45 : decode cX2_init 45 = .ok (.aload_n 0, 1) := by decide +kernel
theorem dX2_init_46 : decode cX2_init 46 = .ok (.iload_n 1, 1) := by decide +kernel
theorem dX2_init_47 : decode cX2_init 47 = .ok (.putfield 38, 3) := by decide +kernel
theorem dX2_init_50 : decode cX2_init 50 = .ok (.aload_n 0, 1) := by decide +kernel
theorem dX2_init_51 : decode cX2_init 51 = .ok (.iload_n 2, 1) := by decide +kernel
theorem dX2_init_52 : decode cX2_init 52 = .ok (.putfield 41, 3) := by decide +kernel
theorem dX2_init_55 : decode cX2_init 55 = .ok (.aload_n 0, 1) := by decide +kernel
theorem dX2_init_56 : decode cX2_init 56 = .ok (.iload_n 3, 1) := by decide +kernel
theorem dX2_init_57 : decode cX2_init 57 = .ok (.putfield 44, 3) := by decide +kernel
theorem dX2_init_60 : decode cX2_init 60 = .ok (.aload_n 0, 1) := by decide +kernel
theorem dX2_init_61 : decode cX2_init 61 = .ok (.iload 4, 2) := by decide +kernel
theorem dX2_init_63 : decode cX2_init 63 = .ok (.putfield 47, 3) := by decide +kernel
theorem dX2_init_66 : decode cX2_init 66 = .ok (.aload_n 0, 1) := by decide +kernel
theorem dX2_init_67 : decode cX2_init 67 = .ok (.iload_n 1, 1) := by decide +kernel
theorem dX2_init_68 : decode cX2_init 68 = .ok (.putfield 50, 3) := by decide +kernel
theorem dX2_init_71 : decode cX2_init 71 = .ok (.return_, 1) := by decide +kernel
theorem dX2_isAcceptedOf_0 : decode cX2_isAcceptedOf 0 = .ok (.aload_n 0, 1) := by decide +kernel
theorem dX2_isAcceptedOf_1 : decode cX2_isAcceptedOf 1 = .ok (.getfield 18, 3) := by decide +kernel
theorem dX2_isAcceptedOf_4 : decode cX2_isAcceptedOf 4 = .ok (.iconst 1, 1) := by decide +kernel
theorem dX2_isAcceptedOf_5 : decode cX2_isAcceptedOf 5 = .ok (.if_icmp .ne 15, 3) := by decide +kernel
theorem dX2_isAcceptedOf_8 : decode cX2_isAcceptedOf 8 = .ok (.aload_n 0, 1) := by decide +kernel
theorem dX2_isAcceptedOf_9 : decode cX2_isAcceptedOf 9 = .ok (.getfield 44, 3) := by decide +kernel
theorem dX2_isAcceptedOf_12 : decode cX2_isAcceptedOf 12 = .ok (.iload_n 1, 1) := by decide +kernel
theorem dX2_isAcceptedOf_13 : decode cX2_isAcceptedOf 13 = .ok (.if_icmp .ne 7, 3) := by decide +kernel
theorem dX2_isAcceptedOf_16 : decode cX2_isAcceptedOf 16 = .ok (.iconst 1, 1) := by decide +kernel
theorem dX2_isAcceptedOf_17 : decode cX2_isAcceptedOf 17 = .ok (.goto 4, 3) := by decide +kernel
theorem dX2_isAcceptedOf_20 : decode cX2_isAcceptedOf 20 = .ok (.iconst 0, 1) := by decide +kernel
theorem dX2_isAcceptedOf_21 : decode cX2_isAcceptedOf 21 = .ok (.ireturn, 1) := by decide +kernel
theorem dX2_costNow_0 : decode cX2_costNow 0 = .ok (.iconst 0, 1) := by decide +kernel
theorem dX2_costNow_1 : decode cX2_costNow 1 = .ok (.istore_n 1, 1) := by decide +kernel
theorem dX2_costNow_2 : decode cX2_costNow 2 = .ok (.iconst 0, 1) := by decide +kernel
theorem dX2_costNow_3 : decode cX2_costNow 3 = .ok (.istore_n 2, 1) := by decide +kernel
theorem dX2_costNow_4 : decode cX2_costNow 4 = .ok (.iload_n 2, 1) := by decide +kernel
theorem dX2_costNow_5 : decode cX2_costNow 5 = .ok (.aload_n 0, 1) := by decide +kernel
theorem dX2_costNow_6 : decode cX2_costNow 6 = .ok (.getfield 12, 3) := by decide +kernel
theorem dX2_costNow_9 : decode cX2_costNow 9 = .ok (.invokevirtual 53, 3) := by decide +kernel
theorem dX2_costNow_12 : decode cX2_costNow 12 = .ok (.if_icmp .ge 26, 3) := by decide +kernel
theorem dX2_costNow_15 : decode cX2_costNow 15 = .ok (.iload_n 1, 1) := by decide +kernel
theorem dX2_costNow_16 : decode cX2_costNow 16 = .ok (.aload_n 0, 1) := by decide +kernel
theorem dX2_costNow_17 : decode cX2_costNow 17 = .ok (.getfield 12, 3) := by decide +kernel
theorem dX2_costNow_20 : decode cX2_costNow 20 = .ok (.iload_n 2, 1) := by decide +kernel
theorem dX2_costNow_21 : decode cX2_costNow 21 = .ok (.invokevirtual 57, 3) := by decide +kernel
theorem dX2_costNow_24 : decode cX2_costNow 24 = .ok (.checkcast 61, 3) := by decide +kernel
theorem dX2_costNow_27 : decode cX2_costNow 27 = .ok (.invokevirtual 63, 3) := by decide +kernel
theorem dX2_costNow_30 : decode cX2_costNow 30 = .ok (.iadd, 1) := by decide +kernel
theorem dX2_costNow_31 : decode cX2_costNow 31 = .ok (.istore_n 1, 1) := by decide +kernel
theorem dX2_costNow_32 : decode cX2_costNow 32 = .ok (.iinc 2 1, 3) := by decide +kernel
theorem dX2_costNow_35 : decode cX2_costNow 35 = .ok (.goto (-31), 3) := by decide +kernel
theorem dX2_costNow_38 : decode cX2_costNow 38 = .ok (.iload_n 1, 1) := by decide +kernel
theorem dX2_costNow_39 : decode cX2_costNow 39 = .ok (.ireturn, 1) := by decide +kernel
theorem dX2_owedNow_0 : decode cX2_owedNow 0 = .ok (.aload_n 0, 1) := by decide +kernel
theorem dX2_owedNow_1 : decode cX2_owedNow 1 = .ok (.getfield 18, 3) := by decide +kernel
theorem dX2_owedNow_4 : decode cX2_owedNow 4 = .ok (.iconst 1, 1) := by decide +kernel
theorem dX2_owedNow_5 : decode cX2_owedNow 5 = .ok (.if_icmp .eq 5, 3) := by decide +kernel
theorem dX2_owedNow_8 : decode cX2_owedNow 8 = .ok (.iconst 0, 1) := by decide +kernel
theorem dX2_owedNow_9 : decode cX2_owedNow 9 = .ok (.ireturn, 1) := by decide +kernel
theorem dX2_owedNow_10 : decode cX2_owedNow 10 = .ok (.iconst 0, 1) := by decide +kernel
theorem dX2_owedNow_11 : decode cX2_owedNow 11 = .ok (.istore_n 1, 1) := by decide +kernel
theorem dX2_owedNow_12 : decode cX2_owedNow 12 = .ok (.iconst 0, 1) := by decide +kernel
theorem dX2_owedNow_13 : decode cX2_owedNow 13 = .ok (.istore_n 2, 1) := by decide +kernel
theorem dX2_owedNow_14 : decode cX2_owedNow 14 = .ok (.iload_n 2, 1) := by decide +kernel
theorem dX2_owedNow_15 : decode cX2_owedNow 15 = .ok (.aload_n 0, 1) := by decide +kernel
theorem dX2_owedNow_16 : decode cX2_owedNow 16 = .ok (.getfield 12, 3) := by decide +kernel
theorem dX2_owedNow_19 : decode cX2_owedNow 19 = .ok (.invokevirtual 53, 3) := by decide +kernel
theorem dX2_owedNow_22 : decode cX2_owedNow 22 = .ok (.if_icmp .ge 39, 3) := by decide +kernel
theorem dX2_owedNow_25 : decode cX2_owedNow 25 = .ok (.aload_n 0, 1) := by decide +kernel
theorem dX2_owedNow_26 : decode cX2_owedNow 26 = .ok (.getfield 12, 3) := by decide +kernel
theorem dX2_owedNow_29 : decode cX2_owedNow 29 = .ok (.iload_n 2, 1) := by decide +kernel
theorem dX2_owedNow_30 : decode cX2_owedNow 30 = .ok (.invokevirtual 57, 3) := by decide +kernel
theorem dX2_owedNow_33 : decode cX2_owedNow 33 = .ok (.checkcast 61, 3) := by decide +kernel
theorem dX2_owedNow_36 : decode cX2_owedNow 36 = .ok (.astore_n 3, 1) := by decide +kernel
theorem dX2_owedNow_37 : decode cX2_owedNow 37 = .ok (.iload_n 1, 1) := by decide +kernel
theorem dX2_owedNow_38 : decode cX2_owedNow 38 = .ok (.aload_n 3, 1) := by decide +kernel
theorem dX2_owedNow_39 : decode cX2_owedNow 39 = .ok (.getfield 66, 3) := by decide +kernel
theorem dX2_owedNow_42 : decode cX2_owedNow 42 = .ok (.ifCond .eq 7, 3) := by decide +kernel
theorem dX2_owedNow_45 : decode cX2_owedNow 45 = .ok (.iconst 0, 1) := by decide +kernel
theorem dX2_owedNow_46 : decode cX2_owedNow 46 = .ok (.goto 7, 3) := by decide +kernel
theorem dX2_owedNow_49 : decode cX2_owedNow 49 = .ok (.aload_n 3, 1) := by decide +kernel
theorem dX2_owedNow_50 : decode cX2_owedNow 50 = .ok (.invokevirtual 63, 3) := by decide +kernel
theorem dX2_owedNow_53 : decode cX2_owedNow 53 = .ok (.iadd, 1) := by decide +kernel
theorem dX2_owedNow_54 : decode cX2_owedNow 54 = .ok (.istore_n 1, 1) := by decide +kernel
theorem dX2_owedNow_55 : decode cX2_owedNow 55 = .ok (.iinc 2 1, 3) := by decide +kernel
theorem dX2_owedNow_58 : decode cX2_owedNow 58 = .ok (.goto (-44), 3) := by decide +kernel
theorem dX2_owedNow_61 : decode cX2_owedNow 61 = .ok (.iload_n 1, 1) := by decide +kernel
theorem dX2_owedNow_62 : decode cX2_owedNow 62 = .ok (.aload_n 0, 1) := by decide +kernel
theorem dX2_owedNow_63 : decode cX2_owedNow 63 = .ok (.getfield 29, 3) := by decide +kernel
theorem dX2_owedNow_66 : decode cX2_owedNow 66 = .ok (.isub, 1) := by decide +kernel
theorem dX2_owedNow_67 : decode cX2_owedNow 67 = .ok (.iconst 0, 1) := by decide +kernel
theorem dX2_owedNow_68 : decode cX2_owedNow 68 = .ok (.invokestatic 69, 3) := by decide +kernel
theorem dX2_owedNow_71 : decode cX2_owedNow 71 = .ok (.ireturn, 1) := by decide +kernel
theorem dX2_taxNow_0 : decode cX2_taxNow 0 = .ok (.iconst 0, 1) := by decide +kernel
theorem dX2_taxNow_1 : decode cX2_taxNow 1 = .ok (.istore_n 1, 1) := by decide +kernel
theorem dX2_taxNow_2 : decode cX2_taxNow 2 = .ok (.iconst 0, 1) := by decide +kernel
theorem dX2_taxNow_3 : decode cX2_taxNow 3 = .ok (.istore_n 2, 1) := by decide +kernel
theorem dX2_taxNow_4 : decode cX2_taxNow 4 = .ok (.iload_n 2, 1) := by decide +kernel
theorem dX2_taxNow_5 : decode cX2_taxNow 5 = .ok (.aload_n 0, 1) := by decide +kernel
theorem dX2_taxNow_6 : decode cX2_taxNow 6 = .ok (.getfield 12, 3) := by decide +kernel
theorem dX2_taxNow_9 : decode cX2_taxNow 9 = .ok (.invokevirtual 53, 3) := by decide +kernel
theorem dX2_taxNow_12 : decode cX2_taxNow 12 = .ok (.if_icmp .ge 26, 3) := by decide +kernel
theorem dX2_taxNow_15 : decode cX2_taxNow 15 = .ok (.iload_n 1, 1) := by decide +kernel
theorem dX2_taxNow_16 : decode cX2_taxNow 16 = .ok (.aload_n 0, 1) := by decide +kernel
theorem dX2_taxNow_17 : decode cX2_taxNow 17 = .ok (.getfield 12, 3) := by decide +kernel
theorem dX2_taxNow_20 : decode cX2_taxNow 20 = .ok (.iload_n 2, 1) := by decide +kernel
theorem dX2_taxNow_21 : decode cX2_taxNow 21 = .ok (.invokevirtual 57, 3) := by decide +kernel
theorem dX2_taxNow_24 : decode cX2_taxNow 24 = .ok (.checkcast 61, 3) := by decide +kernel
theorem dX2_taxNow_27 : decode cX2_taxNow 27 = .ok (.invokevirtual 75, 3) := by decide +kernel
theorem dX2_taxNow_30 : decode cX2_taxNow 30 = .ok (.iadd, 1) := by decide +kernel
theorem dX2_taxNow_31 : decode cX2_taxNow 31 = .ok (.istore_n 1, 1) := by decide +kernel
theorem dX2_taxNow_32 : decode cX2_taxNow 32 = .ok (.iinc 2 1, 3) := by decide +kernel
theorem dX2_taxNow_35 : decode cX2_taxNow 35 = .ok (.goto (-31), 3) := by decide +kernel
theorem dX2_taxNow_38 : decode cX2_taxNow 38 = .ok (.iload_n 1, 1) := by decide +kernel
theorem dX2_taxNow_39 : decode cX2_taxNow 39 = .ok (.ireturn, 1) := by decide +kernel
theorem dX2_taxAsMade_0 : decode cX2_taxAsMade 0 = .ok (.iconst 0, 1) := by decide +kernel
theorem dX2_taxAsMade_1 : decode cX2_taxAsMade 1 = .ok (.istore_n 1, 1) := by decide +kernel
theorem dX2_taxAsMade_2 : decode cX2_taxAsMade 2 = .ok (.iconst 0, 1) := by decide +kernel
theorem dX2_taxAsMade_3 : decode cX2_taxAsMade 3 = .ok (.istore_n 2, 1) := by decide +kernel
theorem dX2_taxAsMade_4 : decode cX2_taxAsMade 4 = .ok (.iload_n 2, 1) := by decide +kernel
theorem dX2_taxAsMade_5 : decode cX2_taxAsMade 5 = .ok (.aload_n 0, 1) := by decide +kernel
theorem dX2_taxAsMade_6 : decode cX2_taxAsMade 6 = .ok (.getfield 12, 3) := by decide +kernel
theorem dX2_taxAsMade_9 : decode cX2_taxAsMade 9 = .ok (.invokevirtual 53, 3) := by decide +kernel
theorem dX2_taxAsMade_12 : decode cX2_taxAsMade 12 = .ok (.if_icmp .ge 26, 3) := by decide +kernel
theorem dX2_taxAsMade_15 : decode cX2_taxAsMade 15 = .ok (.iload_n 1, 1) := by decide +kernel
theorem dX2_taxAsMade_16 : decode cX2_taxAsMade 16 = .ok (.aload_n 0, 1) := by decide +kernel
theorem dX2_taxAsMade_17 : decode cX2_taxAsMade 17 = .ok (.getfield 12, 3) := by decide +kernel
theorem dX2_taxAsMade_20 : decode cX2_taxAsMade 20 = .ok (.iload_n 2, 1) := by decide +kernel
theorem dX2_taxAsMade_21 : decode cX2_taxAsMade 21 = .ok (.invokevirtual 57, 3) := by decide +kernel
theorem dX2_taxAsMade_24 : decode cX2_taxAsMade 24 = .ok (.checkcast 61, 3) := by decide +kernel
theorem dX2_taxAsMade_27 : decode cX2_taxAsMade 27 = .ok (.invokevirtual 78, 3) := by decide +kernel
theorem dX2_taxAsMade_30 : decode cX2_taxAsMade 30 = .ok (.iadd, 1) := by decide +kernel
theorem dX2_taxAsMade_31 : decode cX2_taxAsMade 31 = .ok (.istore_n 1, 1) := by decide +kernel
theorem dX2_taxAsMade_32 : decode cX2_taxAsMade 32 = .ok (.iinc 2 1, 3) := by decide +kernel
theorem dX2_taxAsMade_35 : decode cX2_taxAsMade 35 = .ok (.goto (-31), 3) := by decide +kernel
theorem dX2_taxAsMade_38 : decode cX2_taxAsMade 38 = .ok (.iload_n 1, 1) := by decide +kernel
theorem dX2_taxAsMade_39 : decode cX2_taxAsMade 39 = .ok (.ireturn, 1) := by decide +kernel
theorem dX2_taxFor_0 : decode cX2_taxFor 0 = .ok (.iload_n 1, 1) := by decide +kernel
theorem dX2_taxFor_1 : decode cX2_taxFor 1 = .ok (.aload_n 0, 1) := by decide +kernel
theorem dX2_taxFor_2 : decode cX2_taxFor 2 = .ok (.getfield 38, 3) := by decide +kernel
theorem dX2_taxFor_5 : decode cX2_taxFor 5 = .ok (.if_icmp .ne 27, 3) := by decide +kernel
theorem dX2_taxFor_8 : decode cX2_taxFor 8 = .ok (.aload_n 0, 1) := by decide +kernel
theorem dX2_taxFor_9 : decode cX2_taxFor 9 = .ok (.getfield 18, 3) := by decide +kernel
theorem dX2_taxFor_12 : decode cX2_taxFor 12 = .ok (.iconst 2, 1) := by decide +kernel
theorem dX2_taxFor_13 : decode cX2_taxFor 13 = .ok (.if_icmp .eq 19, 3) := by decide +kernel
theorem dX2_taxFor_16 : decode cX2_taxFor 16 = .ok (.aload_n 0, 1) := by decide +kernel
theorem dX2_taxFor_17 : decode cX2_taxFor 17 = .ok (.getfield 47, 3) := by decide +kernel
theorem dX2_taxFor_20 : decode cX2_taxFor 20 = .ok (.invokestatic 81, 3) := by decide +kernel
theorem dX2_taxFor_23 : decode cX2_taxFor 23 = .ok (.iload_n 2, 1) := by decide +kernel
theorem dX2_taxFor_24 : decode cX2_taxFor 24 = .ok (.if_icmp .ne 8, 3) := by decide +kernel
theorem dX2_taxFor_27 : decode cX2_taxFor 27 = .ok (.aload_n 0, 1) := by decide +kernel
theorem dX2_taxFor_28 : decode cX2_taxFor 28 = .ok (.invokevirtual 85, 3) := by decide +kernel
theorem dX2_taxFor_31 : decode cX2_taxFor 31 = .ok (.ireturn, 1) := by decide +kernel
theorem dX2_taxFor_32 : decode cX2_taxFor 32 = .ok (.iload_n 1, 1) := by decide +kernel
theorem dX2_taxFor_33 : decode cX2_taxFor 33 = .ok (.aload_n 0, 1) := by decide +kernel
theorem dX2_taxFor_34 : decode cX2_taxFor 34 = .ok (.getfield 41, 3) := by decide +kernel
theorem dX2_taxFor_37 : decode cX2_taxFor 37 = .ok (.if_icmp .ne 28, 3) := by decide +kernel
theorem dX2_taxFor_40 : decode cX2_taxFor 40 = .ok (.aload_n 0, 1) := by decide +kernel
theorem dX2_taxFor_41 : decode cX2_taxFor 41 = .ok (.getfield 18, 3) := by decide +kernel
theorem dX2_taxFor_44 : decode cX2_taxFor 44 = .ok (.iconst 1, 1) := by decide +kernel
theorem dX2_taxFor_45 : decode cX2_taxFor 45 = .ok (.if_icmp .ne 20, 3) := by decide +kernel
theorem dX2_taxFor_48 : decode cX2_taxFor 48 = .ok (.aload_n 0, 1) := by decide +kernel
theorem dX2_taxFor_49 : decode cX2_taxFor 49 = .ok (.getfield 22, 3) := by decide +kernel
theorem dX2_taxFor_52 : decode cX2_taxFor 52 = .ok (.invokestatic 81, 3) := by decide +kernel
theorem dX2_taxFor_55 : decode cX2_taxFor 55 = .ok (.iload_n 2, 1) := by decide +kernel
theorem dX2_taxFor_56 : decode cX2_taxFor 56 = .ok (.if_icmp .ne 9, 3) := by decide +kernel
theorem dX2_taxFor_59 : decode cX2_taxFor 59 = .ok (.aload_n 0, 1) := by decide +kernel
theorem dX2_taxFor_60 : decode cX2_taxFor 60 = .ok (.invokevirtual 85, 3) := by decide +kernel
theorem dX2_taxFor_63 : decode cX2_taxFor 63 = .ok (.ineg, 1) := by decide +kernel
theorem dX2_taxFor_64 : decode cX2_taxFor 64 = .ok (.ireturn, 1) := by decide +kernel
theorem dX2_taxFor_65 : decode cX2_taxFor 65 = .ok (.iconst 0, 1) := by decide +kernel
theorem dX2_taxFor_66 : decode cX2_taxFor 66 = .ok (.ireturn, 1) := by decide +kernel
theorem dX3_init_0 : decode cX3_init 0 = .ok (.aload_n 0, 1) := by decide +kernel
theorem dX3_init_1 : decode cX3_init 1 = .ok (.invokespecial 1, 3) := by decide +kernel
theorem dX3_init_4 : decode cX3_init 4 = .ok (.aload_n 0, 1) := by decide +kernel
theorem dX3_init_5 : decode cX3_init 5 = .ok (.iconst 0, 1) := by decide +kernel
theorem dX3_init_6 : decode cX3_init 6 = .ok (.putfield 7, 3) := by decide +kernel
theorem dX3_init_9 : decode cX3_init 9 = .ok (.aload_n 0, 1) := by decide +kernel
theorem dX3_init_10 : decode cX3_init 10 = .ok (.iload_n 1, 1) := by decide +kernel
theorem dX3_init_11 : decode cX3_init 11 = .ok (.putfield 13, 3) := by decide +kernel
theorem dX3_init_14 : decode cX3_init 14 = .ok (.aload_n 0, 1) := by decide +kernel
theorem dX3_init_15 : decode cX3_init 15 = .ok (.iload_n 2, 1) := by decide +kernel
theorem dX3_init_16 : decode cX3_init 16 = .ok (.putfield 17, 3) := by decide +kernel
theorem dX3_init_19 : decode cX3_init 19 = .ok (.aload_n 0, 1) := by decide +kernel
theorem dX3_init_20 : decode cX3_init 20 = .ok (.iload_n 1, 1) := by decide +kernel
theorem dX3_init_21 : decode cX3_init 21 = .ok (.putfield 20, 3) := by decide +kernel
theorem dX3_init_24 : decode cX3_init 24 = .ok (.return_, 1) := by decide +kernel
theorem dX3_taxNow_0 : decode cX3_taxNow 0 = .ok (.aload_n 0, 1) := by decide +kernel
theorem dX3_taxNow_1 : decode cX3_taxNow 1 = .ok (.getfield 20, 3) := by decide +kernel
theorem dX3_taxNow_4 : decode cX3_taxNow 4 = .ok (.aload_n 0, 1) := by decide +kernel
theorem dX3_taxNow_5 : decode cX3_taxNow 5 = .ok (.getfield 17, 3) := by decide +kernel
theorem dX3_taxNow_8 : decode cX3_taxNow 8 = .ok (.invokestatic 23, 3) := by decide +kernel
theorem dX3_taxNow_11 : decode cX3_taxNow 11 = .ok (.ireturn, 1) := by decide +kernel
theorem dX3_taxAsMade_0 : decode cX3_taxAsMade 0 = .ok (.aload_n 0, 1) := by decide +kernel
theorem dX3_taxAsMade_1 : decode cX3_taxAsMade 1 = .ok (.getfield 13, 3) := by decide +kernel
theorem dX3_taxAsMade_4 : decode cX3_taxAsMade 4 = .ok (.aload_n 0, 1) := by decide +kernel
theorem dX3_taxAsMade_5 : decode cX3_taxAsMade 5 = .ok (.getfield 17, 3) := by decide +kernel
theorem dX3_taxAsMade_8 : decode cX3_taxAsMade 8 = .ok (.invokestatic 23, 3) := by decide +kernel
theorem dX3_taxAsMade_11 : decode cX3_taxAsMade 11 = .ok (.ireturn, 1) := by decide +kernel
theorem dX3_costNow_0 : decode cX3_costNow 0 = .ok (.aload_n 0, 1) := by decide +kernel
theorem dX3_costNow_1 : decode cX3_costNow 1 = .ok (.getfield 20, 3) := by decide +kernel
theorem dX3_costNow_4 : decode cX3_costNow 4 = .ok (.aload_n 0, 1) := by decide +kernel
theorem dX3_costNow_5 : decode cX3_costNow 5 = .ok (.invokevirtual 29, 3) := by decide +kernel
theorem dX3_costNow_8 : decode cX3_costNow 8 = .ok (.iadd, 1) := by decide +kernel
theorem dX3_costNow_9 : decode cX3_costNow 9 = .ok (.ireturn, 1) := by decide +kernel
theorem dX4_init_0 : decode cX4_init 0 = .ok (.aload_n 0, 1) := by decide +kernel
theorem dX4_init_1 : decode cX4_init 1 = .ok (.invokespecial 1, 3) := by decide +kernel
theorem dX4_init_4 : decode cX4_init 4 = .ok (.aload_n 0, 1) := by decide +kernel
theorem dX4_init_5 : decode cX4_init 5 = .ok (.new 7, 3) := by decide +kernel
theorem dX4_init_8 : decode cX4_init 8 = .ok (.dup, 1) := by decide +kernel
theorem dX4_init_9 : decode cX4_init 9 = .ok (.invokespecial 9, 3) := by decide +kernel
theorem dX4_init_12 : decode cX4_init 12 = .ok (.putfield 10, 3) := by decide +kernel
theorem dX4_init_15 : decode cX4_init 15 = .ok (.aload_n 0, 1) := by decide +kernel
theorem dX4_init_16 : decode cX4_init 16 = .ok (.new 7, 3) := by decide +kernel
theorem dX4_init_19 : decode cX4_init 19 = .ok (.dup, 1) := by decide +kernel
theorem dX4_init_20 : decode cX4_init 20 = .ok (.invokespecial 9, 3) := by decide +kernel
theorem dX4_init_23 : decode cX4_init 23 = .ok (.putfield 16, 3) := by decide +kernel
theorem dX4_init_26 : decode cX4_init 26 = .ok (.aload_n 0, 1) := by decide +kernel
theorem dX4_init_27 : decode cX4_init 27 = .ok (.new 7, 3) := by decide +kernel
theorem dX4_init_30 : decode cX4_init 30 = .ok (.dup, 1) := by decide +kernel
theorem dX4_init_31 : decode cX4_init 31 = .ok (.invokespecial 9, 3) := by decide +kernel
theorem dX4_init_34 : decode cX4_init 34 = .ok (.putfield 19, 3) := by decide +kernel
theorem dX4_init_37 : decode cX4_init 37 = .ok (.aload_n 0, 1) := by decide +kernel
theorem dX4_init_38 : decode cX4_init 38 = .ok (.bipush 6, 2) := by decide +kernel
theorem dX4_init_40 : decode cX4_init 40 = .ok (.newarray .int, 2) := by decide +kernel
theorem dX4_init_42 : decode cX4_init 42 = .ok (.putfield 22, 3) := by decide +kernel
theorem dX4_init_45 : decode cX4_init 45 = .ok (.aload_n 0, 1) := by decide +kernel
theorem dX4_init_46 : decode cX4_init 46 = .ok (.new 26, 3) := by decide +kernel
theorem dX4_init_49 : decode cX4_init 49 = .ok (.dup, 1) := by decide +kernel
theorem dX4_init_50 : decode cX4_init 50 = .ok (.invokespecial 28, 3) := by decide +kernel
theorem dX4_init_53 : decode cX4_init 53 = .ok (.putfield 29, 3) := by decide +kernel
theorem dX4_init_56 : decode cX4_init 56 = .ok (.aload_n 0, 1) := by decide +kernel
theorem dX4_init_57 : decode cX4_init 57 = .ok (.iconst 0, 1) := by decide +kernel
theorem dX4_init_58 : decode cX4_init 58 = .ok (.putfield 33, 3) := by decide +kernel
theorem dX4_init_61 : decode cX4_init 61 = .ok (.return_, 1) := by decide +kernel
theorem dX4_send_0 : decode cX4_send 0 = .ok (.aload_n 0, 1) := by decide +kernel
theorem dX4_send_1 : decode cX4_send 1 = .ok (.iload_n 1, 1) := by decide +kernel
theorem dX4_send_2 : decode cX4_send 2 = .ok (.invokevirtual 37, 3) := by decide +kernel
theorem dX4_send_5 : decode cX4_send 5 = .ok (.aload_n 0, 1) := by decide +kernel
theorem dX4_send_6 : decode cX4_send 6 = .ok (.iload_n 2, 1) := by decide +kernel
theorem dX4_send_7 : decode cX4_send 7 = .ok (.invokevirtual 37, 3) := by decide +kernel
theorem dX4_send_10 : decode cX4_send 10 = .ok (.aload_n 0, 1) := by decide +kernel
theorem dX4_send_11 : decode cX4_send 11 = .ok (.iload_n 3, 1) := by decide +kernel
theorem dX4_send_12 : decode cX4_send 12 = .ok (.invokevirtual 41, 3) := by decide +kernel
theorem dX4_send_15 : decode cX4_send 15 = .ok (.aload_n 0, 1) := by decide +kernel
theorem dX4_send_16 : decode cX4_send 16 = .ok (.iload 4, 2) := by decide +kernel
theorem dX4_send_18 : decode cX4_send 18 = .ok (.invokevirtual 44, 3) := by decide +kernel
theorem dX4_send_21 : decode cX4_send 21 = .ok (.aload_n 0, 1) := by decide +kernel
theorem dX4_send_22 : decode cX4_send 22 = .ok (.iload 5, 2) := by decide +kernel
theorem dX4_send_24 : decode cX4_send 24 = .ok (.invokevirtual 47, 3) := by decide +kernel
theorem dX4_send_27 : decode cX4_send 27 = .ok (.aload_n 0, 1) := by decide +kernel
theorem dX4_send_28 : decode cX4_send 28 = .ok (.iload_n 1, 1) := by decide +kernel
theorem dX4_send_29 : decode cX4_send 29 = .ok (.iload_n 2, 1) := by decide +kernel
theorem dX4_send_30 : decode cX4_send 30 = .ok (.invokevirtual 50, 3) := by decide +kernel
theorem dX4_send_33 : decode cX4_send 33 = .ok (.aload_n 0, 1) := by decide +kernel
theorem dX4_send_34 : decode cX4_send 34 = .ok (.getfield 10, 3) := by decide +kernel
theorem dX4_send_37 : decode cX4_send 37 = .ok (.invokevirtual 54, 3) := by decide +kernel
theorem dX4_send_40 : decode cX4_send 40 = .ok (.bipush 20, 2) := by decide +kernel
theorem dX4_send_42 : decode cX4_send 42 = .ok (.if_icmp .lt 13, 3) := by decide +kernel
theorem dX4_send_45 : decode cX4_send 45 = .ok (.new 58, 3) := by decide +kernel
theorem dX4_send_48 : decode cX4_send 48 = .ok (.dup, 1) := by decide +kernel
theorem dX4_send_49 : decode cX4_send 49 = .ok (.ldc 60, 2) := by decide +kernel
theorem dX4_send_51 : decode cX4_send 51 = .ok (.invokespecial 62, 3) := by decide +kernel
theorem dX4_send_54 : decode cX4_send 54 = .ok (.athrow, 1) := by decide +kernel
theorem dX4_send_55 : decode cX4_send 55 = .ok (.new 65, 3) := by decide +kernel
theorem dX4_send_58 : decode cX4_send 58 = .ok (.dup, 1) := by decide +kernel
theorem dX4_send_59 : decode cX4_send 59 = .ok (.iload_n 1, 1) := by decide +kernel
theorem dX4_send_60 : decode cX4_send 60 = .ok (.iload_n 2, 1) := by decide +kernel
theorem dX4_send_61 : decode cX4_send 61 = .ok (.iload_n 3, 1) := by decide +kernel
theorem dX4_send_62 : decode cX4_send 62 = .ok (.aload_n 0, 1) := by decide +kernel
theorem dX4_send_63 : decode cX4_send 63 = .ok (.getfield 33, 3) := by decide +kernel
theorem dX4_send_66 : decode cX4_send 66 = .ok (.invokespecial 67, 3) := by decide +kernel
theorem dX4_send_69 : decode cX4_send 69 = .ok (.astore 6, 2) := by decide +kernel
theorem dX4_send_71 : decode cX4_send 71 = .ok (.aload 6, 2) := by decide +kernel
theorem dX4_send_73 : decode cX4_send 73 = .ok (.getfield 70, 3) := by decide +kernel
theorem dX4_send_76 : decode cX4_send 76 = .ok (.new 73, 3) := by decide +kernel
theorem dX4_send_79 : decode cX4_send 79 = .ok (.dup, 1) := by decide +kernel
theorem dX4_send_80 : decode cX4_send 80 = .ok (.iload 4, 2) := by decide +kernel
theorem dX4_send_82 : decode cX4_send 82 = .ok (.iload 5, 2) := by decide +kernel
theorem dX4_send_84 : decode cX4_send 84 = .ok (.invokespecial 75, 3) := by decide +kernel
theorem dX4_send_87 : decode cX4_send 87 = .ok (.invokevirtual 77, 3) := by decide +kernel
theorem dX4_send_90 : decode cX4_send 90 = .ok (.pop, 1) := by decide +kernel
theorem dX4_send_91 : decode cX4_send 91 = .ok (.aload_n 0, 1) := by decide +kernel
theorem dX4_send_92 : decode cX4_send 92 = .ok (.getfield 10, 3) := by decide +kernel
theorem dX4_send_95 : decode cX4_send 95 = .ok (.aload 6, 2) := by decide +kernel
theorem dX4_send_97 : decode cX4_send 97 = .ok (.invokevirtual 77, 3) := by decide +kernel
theorem dX4_send_100 : decode cX4_send 100 = .ok (.pop, 1) := by decide +kernel
theorem dX4_send_101 : decode cX4_send 101 = .ok (.aload_n 0, 1) := by decide +kernel
theorem dX4_send_102 : decode cX4_send 102 = .ok (.getfield 10, 3) := by decide +kernel
theorem dX4_send_105 : decode cX4_send 105 = .ok (.invokevirtual 54, 3) := by decide +kernel
theorem dX4_send_108 : decode cX4_send 108 = .ok (.iconst 1, 1) := by decide +kernel
theorem dX4_send_109 : decode cX4_send 109 = .ok (.isub, 1) := by decide +kernel
theorem dX4_send_110 : decode cX4_send 110 = .ok (.ireturn, 1) := by decide +kernel
theorem dX4_addLine_0 : decode cX4_addLine 0 = .ok (.aload_n 0, 1) := by decide +kernel
theorem dX4_addLine_1 : decode cX4_addLine 1 = .ok (.iload_n 1, 1) := by decide +kernel
theorem dX4_addLine_2 : decode cX4_addLine 2 = .ok (.invokevirtual 81, 3) := by decide +kernel
theorem dX4_addLine_5 : decode cX4_addLine 5 = .ok (.astore 4, 2) := by decide +kernel
theorem dX4_addLine_7 : decode cX4_addLine 7 = .ok (.aload_n 0, 1) := by decide +kernel
theorem dX4_addLine_8 : decode cX4_addLine 8 = .ok (.iload_n 2, 1) := by decide +kernel
theorem dX4_addLine_9 : decode cX4_addLine 9 = .ok (.invokevirtual 44, 3) := by decide +kernel
theorem dX4_addLine_12 : decode cX4_addLine 12 = .ok (.aload_n 0, 1) := by decide +kernel
theorem dX4_addLine_13 : decode cX4_addLine 13 = .ok (.iload_n 3, 1) := by decide +kernel
theorem dX4_addLine_14 : decode cX4_addLine 14 = .ok (.invokevirtual 47, 3) := by decide +kernel
theorem dX4_addLine_17 : decode cX4_addLine 17 = .ok (.aload_n 0, 1) := by decide +kernel
theorem dX4_addLine_18 : decode cX4_addLine 18 = .ok (.aload 4, 2) := by decide +kernel
theorem dX4_addLine_20 : decode cX4_addLine 20 = .ok (.invokevirtual 85, 3) := by decide +kernel
theorem dX4_addLine_23 : decode cX4_addLine 23 = .ok (.aload 4, 2) := by decide +kernel
theorem dX4_addLine_25 : decode cX4_addLine 25 = .ok (.getfield 89, 3) := by decide +kernel
theorem dX4_addLine_28 : decode cX4_addLine 28 = .ok (.aload_n 0, 1) := by decide +kernel
theorem dX4_addLine_29 : decode cX4_addLine 29 = .ok (.getfield 33, 3) := by decide +kernel
theorem dX4_addLine_32 : decode cX4_addLine 32 = .ok (.if_icmp .eq 13, 3) := by decide +kernel
theorem dX4_addLine_35 : decode cX4_addLine 35 = .ok (.new 58, 3) := by decide +kernel
theorem dX4_addLine_38 : decode cX4_addLine 38 = .ok (.dup, 1) := by decide +kernel
theorem dX4_addLine_39 : decode cX4_addLine 39 = .ok (.ldc 92, 2) := by decide +kernel
theorem dX4_addLine_41 : decode cX4_addLine 41 = .ok (.invokespecial 62, 3) := by decide +kernel
theorem dX4_addLine_44 : decode cX4_addLine 44 = .ok (.athrow, 1) := by decide +kernel
theorem dX4_addLine_45 : decode cX4_addLine 45 = .ok (.aload 4, 2) := by decide +kernel
theorem dX4_addLine_47 : decode cX4_addLine 47 = .ok (.getfield 70, 3) := by decide +kernel
theorem dX4_addLine_50 : decode cX4_addLine 50 = .ok (.invokevirtual 54, 3) := by decide +kernel
theorem dX4_addLine_53 : decode cX4_addLine 53 = .ok (.iconst 3, 1) := by decide +kernel
theorem dX4_addLine_54 : decode cX4_addLine 54 = .ok (.if_icmp .lt 13, 3) := by decide +kernel
theorem dX4_addLine_57 : decode cX4_addLine 57 = .ok (.new 58, 3) := by decide +kernel
theorem dX4_addLine_60 : decode cX4_addLine 60 = .ok (.dup, 1) := by decide +kernel
theorem dX4_addLine_61 : decode cX4_addLine 61 = .ok (.ldc 94, 2) := by decide +kernel
theorem dX4_addLine_63 : decode cX4_addLine 63 = .ok (.invokespecial 62, 3) := by decide +kernel
theorem dX4_addLine_66 : decode cX4_addLine 66 = .ok (.athrow, 1) := by decide +kernel
theorem dX4_addLine_67 : decode cX4_addLine 67 = .ok (.aload 4, 2) := by decide +kernel
theorem dX4_addLine_69 : decode cX4_addLine 69 = .ok (.getfield 96, 3) := by decide +kernel
theorem dX4_addLine_72 : decode cX4_addLine 72 = .ok (.ifCond .eq 13, 3) := by decide +kernel
theorem dX4_addLine_75 : decode cX4_addLine 75 = .ok (.new 58, 3) := by decide +kernel
theorem dX4_addLine_78 : decode cX4_addLine 78 = .ok (.dup, 1) := by decide +kernel
theorem dX4_addLine_79 : decode cX4_addLine 79 = .ok (.ldc 100, 2) := by decide +kernel
theorem dX4_addLine_81 : decode cX4_addLine 81 = .ok (.invokespecial 62, 3) := by decide +kernel
theorem dX4_addLine_84 : decode cX4_addLine 84 = .ok (.athrow, 1) := by decide +kernel
theorem dX4_addLine_85 : decode cX4_addLine 85 = .ok (.aload 4, 2) := by decide +kernel
theorem dX4_addLine_87 : decode cX4_addLine 87 = .ok (.getfield 70, 3) := by decide +kernel
theorem dX4_addLine_90 : decode cX4_addLine 90 = .ok (.new 73, 3) := by decide +kernel
theorem dX4_addLine_93 : decode cX4_addLine 93 = .ok (.dup, 1) := by decide +kernel
theorem dX4_addLine_94 : decode cX4_addLine 94 = .ok (.iload_n 2, 1) := by decide +kernel
theorem dX4_addLine_95 : decode cX4_addLine 95 = .ok (.iload_n 3, 1) := by decide +kernel
theorem dX4_addLine_96 : decode cX4_addLine 96 = .ok (.invokespecial 75, 3) := by decide +kernel
theorem dX4_addLine_99 : decode cX4_addLine 99 = .ok (.invokevirtual 77, 3) := by decide +kernel
theorem dX4_addLine_102 : decode cX4_addLine 102 = .ok (.pop, 1) := by decide +kernel
theorem dX4_addLine_103 : decode cX4_addLine 103 = .ok (.aload 4, 2) := by decide +kernel
theorem dX4_addLine_105 : decode cX4_addLine 105 = .ok (.getfield 70, 3) := by decide +kernel
theorem dX4_addLine_108 : decode cX4_addLine 108 = .ok (.invokevirtual 54, 3) := by decide +kernel
theorem dX4_addLine_111 : decode cX4_addLine 111 = .ok (.iconst 1, 1) := by decide +kernel
theorem dX4_addLine_112 : decode cX4_addLine 112 = .ok (.isub, 1) := by decide +kernel
theorem dX4_addLine_113 : decode cX4_addLine 113 = .ok (.ireturn, 1) := by decide +kernel
theorem dX4_accept_0 : decode cX4_accept 0 = .ok (.aload_n 0, 1) := by decide +kernel
theorem dX4_accept_1 : decode cX4_accept 1 = .ok (.iload_n 1, 1) := by decide +kernel
theorem dX4_accept_2 : decode cX4_accept 2 = .ok (.invokevirtual 81, 3) := by decide +kernel
theorem dX4_accept_5 : decode cX4_accept 5 = .ok (.astore_n 2, 1) := by decide +kernel
theorem dX4_accept_6 : decode cX4_accept 6 = .ok (.aload_n 0, 1) := by decide +kernel
theorem dX4_accept_7 : decode cX4_accept 7 = .ok (.aload_n 2, 1) := by decide +kernel
theorem dX4_accept_8 : decode cX4_accept 8 = .ok (.invokevirtual 85, 3) := by decide +kernel
theorem dX4_accept_11 : decode cX4_accept 11 = .ok (.aload_n 2, 1) := by decide +kernel
theorem dX4_accept_12 : decode cX4_accept 12 = .ok (.iconst 1, 1) := by decide +kernel
theorem dX4_accept_13 : decode cX4_accept 13 = .ok (.putfield 102, 3) := by decide +kernel
theorem dX4_accept_16 : decode cX4_accept 16 = .ok (.aload_n 2, 1) := by decide +kernel
theorem dX4_accept_17 : decode cX4_accept 17 = .ok (.aload_n 0, 1) := by decide +kernel
theorem dX4_accept_18 : decode cX4_accept 18 = .ok (.getfield 33, 3) := by decide +kernel
theorem dX4_accept_21 : decode cX4_accept 21 = .ok (.putfield 105, 3) := by decide +kernel
theorem dX4_accept_24 : decode cX4_accept 24 = .ok (.aload_n 2, 1) := by decide +kernel
theorem dX4_accept_25 : decode cX4_accept 25 = .ok (.invokevirtual 108, 3) := by decide +kernel
theorem dX4_accept_28 : decode cX4_accept 28 = .ok (.ireturn, 1) := by decide +kernel
theorem dX4_refuse_0 : decode cX4_refuse 0 = .ok (.aload_n 0, 1) := by decide +kernel
theorem dX4_refuse_1 : decode cX4_refuse 1 = .ok (.iload_n 1, 1) := by decide +kernel
theorem dX4_refuse_2 : decode cX4_refuse 2 = .ok (.invokevirtual 81, 3) := by decide +kernel
theorem dX4_refuse_5 : decode cX4_refuse 5 = .ok (.astore_n 2, 1) := by decide +kernel
theorem dX4_refuse_6 : decode cX4_refuse 6 = .ok (.aload_n 0, 1) := by decide +kernel
theorem dX4_refuse_7 : decode cX4_refuse 7 = .ok (.aload_n 2, 1) := by decide +kernel
theorem dX4_refuse_8 : decode cX4_refuse 8 = .ok (.invokevirtual 85, 3) := by decide +kernel
theorem dX4_refuse_11 : decode cX4_refuse 11 = .ok (.aload_n 2, 1) := by decide +kernel
theorem dX4_refuse_12 : decode cX4_refuse 12 = .ok (.iconst 2, 1) := by decide +kernel
theorem dX4_refuse_13 : decode cX4_refuse 13 = .ok (.putfield 102, 3) := by decide +kernel
theorem dX4_refuse_16 : decode cX4_refuse 16 = .ok (.aload_n 2, 1) := by decide +kernel
theorem dX4_refuse_17 : decode cX4_refuse 17 = .ok (.invokevirtual 111, 3) := by decide +kernel
theorem dX4_refuse_20 : decode cX4_refuse 20 = .ok (.ireturn, 1) := by decide +kernel
theorem dX4_credit_0 : decode cX4_credit 0 = .ok (.aload_n 0, 1) := by decide +kernel
theorem dX4_credit_1 : decode cX4_credit 1 = .ok (.iload_n 1, 1) := by decide +kernel
theorem dX4_credit_2 : decode cX4_credit 2 = .ok (.invokevirtual 81, 3) := by decide +kernel
theorem dX4_credit_5 : decode cX4_credit 5 = .ok (.astore 4, 2) := by decide +kernel
theorem dX4_credit_7 : decode cX4_credit 7 = .ok (.aload_n 0, 1) := by decide +kernel
theorem dX4_credit_8 : decode cX4_credit 8 = .ok (.aload 4, 2) := by decide +kernel
theorem dX4_credit_10 : decode cX4_credit 10 = .ok (.iload_n 2, 1) := by decide +kernel
theorem dX4_credit_11 : decode cX4_credit 11 = .ok (.invokevirtual 114, 3) := by decide +kernel
theorem dX4_credit_14 : decode cX4_credit 14 = .ok (.astore 5, 2) := by decide +kernel
theorem dX4_credit_16 : decode cX4_credit 16 = .ok (.aload_n 0, 1) := by decide +kernel
theorem dX4_credit_17 : decode cX4_credit 17 = .ok (.iload_n 3, 1) := by decide +kernel
theorem dX4_credit_18 : decode cX4_credit 18 = .ok (.invokevirtual 44, 3) := by decide +kernel
theorem dX4_credit_21 : decode cX4_credit 21 = .ok (.iload_n 3, 1) := by decide +kernel
theorem dX4_credit_22 : decode cX4_credit 22 = .ok (.aload 5, 2) := by decide +kernel
theorem dX4_credit_24 : decode cX4_credit 24 = .ok (.getfield 118, 3) := by decide +kernel
theorem dX4_credit_27 : decode cX4_credit 27 = .ok (.if_icmp .le 13, 3) := by decide +kernel
theorem dX4_credit_30 : decode cX4_credit 30 = .ok (.new 121, 3) := by decide +kernel
theorem dX4_credit_33 : decode cX4_credit 33 = .ok (.dup, 1) := by decide +kernel
theorem dX4_credit_34 : decode cX4_credit 34 = .ok (.ldc 123, 2) := by decide +kernel
theorem dX4_credit_36 : decode cX4_credit 36 = .ok (.invokespecial 125, 3) := by decide +kernel
theorem dX4_credit_39 : decode cX4_credit 39 = .ok (.athrow, 1) := by decide +kernel
theorem dX4_credit_40 : decode cX4_credit 40 = .ok (.aload 4, 2) := by decide +kernel
theorem dX4_credit_42 : decode cX4_credit 42 = .ok (.getfield 102, 3) := by decide +kernel
theorem dX4_credit_45 : decode cX4_credit 45 = .ok (.iconst 2, 1) := by decide +kernel
theorem dX4_credit_46 : decode cX4_credit 46 = .ok (.if_icmp .ne 13, 3) := by decide +kernel
theorem dX4_credit_49 : decode cX4_credit 49 = .ok (.new 58, 3) := by decide +kernel
theorem dX4_credit_52 : decode cX4_credit 52 = .ok (.dup, 1) := by decide +kernel
theorem dX4_credit_53 : decode cX4_credit 53 = .ok (.ldc 126, 2) := by decide +kernel
theorem dX4_credit_55 : decode cX4_credit 55 = .ok (.invokespecial 62, 3) := by decide +kernel
theorem dX4_credit_58 : decode cX4_credit 58 = .ok (.athrow, 1) := by decide +kernel
theorem dX4_credit_59 : decode cX4_credit 59 = .ok (.aload_n 0, 1) := by decide +kernel
theorem dX4_credit_60 : decode cX4_credit 60 = .ok (.invokevirtual 128, 3) := by decide +kernel
theorem dX4_credit_63 : decode cX4_credit 63 = .ok (.aload_n 0, 1) := by decide +kernel
theorem dX4_credit_64 : decode cX4_credit 64 = .ok (.aload 4, 2) := by decide +kernel
theorem dX4_credit_66 : decode cX4_credit 66 = .ok (.aload 5, 2) := by decide +kernel
theorem dX4_credit_68 : decode cX4_credit 68 = .ok (.iload_n 3, 1) := by decide +kernel
theorem dX4_credit_69 : decode cX4_credit 69 = .ok (.invokevirtual 131, 3) := by decide +kernel
theorem dX4_credit_72 : decode cX4_credit 72 = .ok (.aload 5, 2) := by decide +kernel
theorem dX4_credit_74 : decode cX4_credit 74 = .ok (.getfield 118, 3) := by decide +kernel
theorem dX4_credit_77 : decode cX4_credit 77 = .ok (.ireturn, 1) := by decide +kernel
theorem dX4_dispute_0 : decode cX4_dispute 0 = .ok (.aload_n 0, 1) := by decide +kernel
theorem dX4_dispute_1 : decode cX4_dispute 1 = .ok (.iload_n 1, 1) := by decide +kernel
theorem dX4_dispute_2 : decode cX4_dispute 2 = .ok (.invokevirtual 81, 3) := by decide +kernel
theorem dX4_dispute_5 : decode cX4_dispute 5 = .ok (.astore_n 3, 1) := by decide +kernel
theorem dX4_dispute_6 : decode cX4_dispute 6 = .ok (.aload_n 0, 1) := by decide +kernel
theorem dX4_dispute_7 : decode cX4_dispute 7 = .ok (.aload_n 3, 1) := by decide +kernel
theorem dX4_dispute_8 : decode cX4_dispute 8 = .ok (.iload_n 2, 1) := by decide +kernel
theorem dX4_dispute_9 : decode cX4_dispute 9 = .ok (.invokevirtual 114, 3) := by decide +kernel
theorem dX4_dispute_12 : decode cX4_dispute 12 = .ok (.astore 4, 2) := by decide +kernel
theorem dX4_dispute_14 : decode cX4_dispute 14 = .ok (.aload_n 3, 1) := by decide +kernel
theorem dX4_dispute_15 : decode cX4_dispute 15 = .ok (.getfield 102, 3) := by decide +kernel
theorem dX4_dispute_18 : decode cX4_dispute 18 = .ok (.iconst 1, 1) := by decide +kernel
theorem dX4_dispute_19 : decode cX4_dispute 19 = .ok (.if_icmp .eq 13, 3) := by decide +kernel
theorem dX4_dispute_22 : decode cX4_dispute 22 = .ok (.new 58, 3) := by decide +kernel
theorem dX4_dispute_25 : decode cX4_dispute 25 = .ok (.dup, 1) := by decide +kernel
theorem dX4_dispute_26 : decode cX4_dispute 26 = .ok (.ldc 135, 2) := by decide +kernel
theorem dX4_dispute_28 : decode cX4_dispute 28 = .ok (.invokespecial 62, 3) := by decide +kernel
theorem dX4_dispute_31 : decode cX4_dispute 31 = .ok (.athrow, 1) := by decide +kernel
theorem dX4_dispute_32 : decode cX4_dispute 32 = .ok (.aload 4, 2) := by decide +kernel
theorem dX4_dispute_34 : decode cX4_dispute 34 = .ok (.getfield 137, 3) := by decide +kernel
theorem dX4_dispute_37 : decode cX4_dispute 37 = .ok (.ifCond .eq 13, 3) := by decide +kernel
theorem dX4_dispute_40 : decode cX4_dispute 40 = .ok (.new 58, 3) := by decide +kernel
theorem dX4_dispute_43 : decode cX4_dispute 43 = .ok (.dup, 1) := by decide +kernel
theorem dX4_dispute_44 : decode cX4_dispute 44 = .ok (.ldc 140, 2) := by decide +kernel
theorem dX4_dispute_46 : decode cX4_dispute 46 = .ok (.invokespecial 62, 3) := by decide +kernel
theorem dX4_dispute_49 : decode cX4_dispute 49 = .ok (.athrow, 1) := by decide +kernel
theorem dX4_dispute_50 : decode cX4_dispute 50 = .ok (.aload 4, 2) := by decide +kernel
theorem dX4_dispute_52 : decode cX4_dispute 52 = .ok (.getfield 118, 3) := by decide +kernel
theorem dX4_dispute_55 : decode cX4_dispute 55 = .ok (.ifCond .ne 13, 3) := by decide +kernel
theorem dX4_dispute_58 : decode cX4_dispute 58 = .ok (.new 58, 3) := by decide +kernel
theorem dX4_dispute_61 : decode cX4_dispute 61 = .ok (.dup, 1) := by decide +kernel
theorem dX4_dispute_62 : decode cX4_dispute 62 = .ok (.ldc 142, 2) := by decide +kernel
theorem dX4_dispute_64 : decode cX4_dispute 64 = .ok (.invokespecial 62, 3) := by decide +kernel
theorem dX4_dispute_67 : decode cX4_dispute 67 = .ok (.athrow, 1) := by decide +kernel
theorem dX4_dispute_68 : decode cX4_dispute 68 = .ok (.aload 4, 2) := by decide +kernel
theorem dX4_dispute_70 : decode cX4_dispute 70 = .ok (.iconst 1, 1) := by decide +kernel
theorem dX4_dispute_71 : decode cX4_dispute 71 = .ok (.putfield 137, 3) := by decide +kernel
theorem dX4_dispute_74 : decode cX4_dispute 74 = .ok (.aload_n 3, 1) := by decide +kernel
theorem dX4_dispute_75 : decode cX4_dispute 75 = .ok (.invokevirtual 108, 3) := by decide +kernel
theorem dX4_dispute_78 : decode cX4_dispute 78 = .ok (.ireturn, 1) := by decide +kernel
theorem dX4_settle_0 : decode cX4_settle 0 = .ok (.aload_n 0, 1) := by decide +kernel
theorem dX4_settle_1 : decode cX4_settle 1 = .ok (.iload_n 1, 1) := by decide +kernel
theorem dX4_settle_2 : decode cX4_settle 2 = .ok (.invokevirtual 81, 3) := by decide +kernel
theorem dX4_settle_5 : decode cX4_settle 5 = .ok (.astore 4, 2) := by decide +kernel
theorem dX4_settle_7 : decode cX4_settle 7 = .ok (.aload_n 0, 1) := by decide +kernel
theorem dX4_settle_8 : decode cX4_settle 8 = .ok (.aload 4, 2) := by decide +kernel
theorem dX4_settle_10 : decode cX4_settle 10 = .ok (.iload_n 2, 1) := by decide +kernel
theorem dX4_settle_11 : decode cX4_settle 11 = .ok (.invokevirtual 114, 3) := by decide +kernel
theorem dX4_settle_14 : decode cX4_settle 14 = .ok (.astore 5, 2) := by decide +kernel
theorem dX4_settle_16 : decode cX4_settle 16 = .ok (.aload 5, 2) := by decide +kernel
theorem dX4_settle_18 : decode cX4_settle 18 = .ok (.getfield 137, 3) := by decide +kernel
theorem dX4_settle_21 : decode cX4_settle 21 = .ok (.ifCond .ne 13, 3) := by decide +kernel
theorem dX4_settle_24 : decode cX4_settle 24 = .ok (.new 58, 3) := by decide +kernel
theorem dX4_settle_27 : decode cX4_settle 27 = .ok (.dup, 1) := by decide +kernel
theorem dX4_settle_28 : decode cX4_settle 28 = .ok (.ldc 144, 2) := by decide +kernel
theorem dX4_settle_30 : decode cX4_settle 30 = .ok (.invokespecial 62, 3) := by decide +kernel
theorem dX4_settle_33 : decode cX4_settle 33 = .ok (.athrow, 1) := by decide +kernel
theorem dX4_settle_34 : decode cX4_settle 34 = .ok (.iload_n 3, 1) := by decide +kernel
theorem dX4_settle_35 : decode cX4_settle 35 = .ok (.ifCond .eq 20, 3) := by decide +kernel
theorem dX4_settle_38 : decode cX4_settle 38 = .ok (.aload_n 0, 1) := by decide +kernel
theorem dX4_settle_39 : decode cX4_settle 39 = .ok (.invokevirtual 128, 3) := by decide +kernel
theorem dX4_settle_42 : decode cX4_settle 42 = .ok (.aload_n 0, 1) := by decide +kernel
theorem dX4_settle_43 : decode cX4_settle 43 = .ok (.aload 4, 2) := by decide +kernel
theorem dX4_settle_45 : decode cX4_settle 45 = .ok (.aload 5, 2) := by decide +kernel
theorem dX4_settle_47 : decode cX4_settle 47 = .ok (.aload 5, 2) := by decide +kernel
theorem dX4_settle_49 : decode cX4_settle 49 = .ok (.getfield 118, 3) := by decide +kernel
theorem dX4_settle_52 : decode cX4_settle 52 = .ok (.invokevirtual 131, 3) := by decide +kernel
theorem dX4_settle_55 : decode cX4_settle 55 = .ok (.aload 5, 2) := by decide +kernel
theorem dX4_settle_57 : decode cX4_settle 57 = .ok (.iconst 0, 1) := by decide +kernel
theorem dX4_settle_58 : decode cX4_settle 58 = .ok (.putfield 137, 3) := by decide +kernel
theorem dX4_settle_61 : decode cX4_settle 61 = .ok (.aload 4, 2) := by decide +kernel
theorem dX4_settle_63 : decode cX4_settle 63 = .ok (.invokevirtual 108, 3) := by decide +kernel
theorem dX4_settle_66 : decode cX4_settle 66 = .ok (.ireturn, 1) := by decide +kernel
theorem dX4_sell_0 : decode cX4_sell 0 = .ok (.aload_n 0, 1) := by decide +kernel
theorem dX4_sell_1 : decode cX4_sell 1 = .ok (.iload_n 1, 1) := by decide +kernel
theorem dX4_sell_2 : decode cX4_sell 2 = .ok (.invokevirtual 81, 3) := by decide +kernel
theorem dX4_sell_5 : decode cX4_sell 5 = .ok (.astore 5, 2) := by decide +kernel
theorem dX4_sell_7 : decode cX4_sell 7 = .ok (.aload_n 0, 1) := by decide +kernel
theorem dX4_sell_8 : decode cX4_sell 8 = .ok (.iload_n 2, 1) := by decide +kernel
theorem dX4_sell_9 : decode cX4_sell 9 = .ok (.invokevirtual 37, 3) := by decide +kernel
theorem dX4_sell_12 : decode cX4_sell 12 = .ok (.iload_n 3, 1) := by decide +kernel
theorem dX4_sell_13 : decode cX4_sell 13 = .ok (.iconst 1, 1) := by decide +kernel
theorem dX4_sell_14 : decode cX4_sell 14 = .ok (.if_icmp .lt 9, 3) := by decide +kernel
theorem dX4_sell_17 : decode cX4_sell 17 = .ok (.iload_n 3, 1) := by decide +kernel
theorem dX4_sell_18 : decode cX4_sell 18 = .ok (.bipush 100, 2) := by decide +kernel
theorem dX4_sell_20 : decode cX4_sell 20 = .ok (.if_icmp .le 13, 3) := by decide +kernel
theorem dX4_sell_23 : decode cX4_sell 23 = .ok (.new 121, 3) := by decide +kernel
theorem dX4_sell_26 : decode cX4_sell 26 = .ok (.dup, 1) := by decide +kernel
theorem dX4_sell_27 : decode cX4_sell 27 = .ok (.ldc 146, 2) := by decide +kernel
theorem dX4_sell_29 : decode cX4_sell 29 = .ok (.invokespecial 125, 3) := by decide +kernel
theorem dX4_sell_32 : decode cX4_sell 32 = .ok (.athrow, 1) := by decide +kernel
theorem dX4_sell_33 : decode cX4_sell 33 = .ok (.iload_n 2, 1) := by decide +kernel
theorem dX4_sell_34 : decode cX4_sell 34 = .ok (.aload 5, 2) := by decide +kernel
theorem dX4_sell_36 : decode cX4_sell 36 = .ok (.getfield 148, 3) := by decide +kernel
theorem dX4_sell_39 : decode cX4_sell 39 = .ok (.if_icmp .eq 12, 3) := by decide +kernel
theorem dX4_sell_42 : decode cX4_sell 42 = .ok (.iload_n 2, 1) := by decide +kernel
theorem dX4_sell_43 : decode cX4_sell 43 = .ok (.aload 5, 2) := by decide +kernel
theorem dX4_sell_45 : decode cX4_sell 45 = .ok (.getfield 151, 3) := by decide +kernel
theorem dX4_sell_48 : decode cX4_sell 48 = .ok (.if_icmp .ne 13, 3) := by decide +kernel
theorem dX4_sell_51 : decode cX4_sell 51 = .ok (.new 121, 3) := by decide +kernel
theorem dX4_sell_54 : decode cX4_sell 54 = .ok (.dup, 1) := by decide +kernel
theorem dX4_sell_55 : decode cX4_sell 55 = .ok (.ldc 154, 2) := by decide +kernel
theorem dX4_sell_57 : decode cX4_sell 57 = .ok (.invokespecial 125, 3) := by decide +kernel
theorem dX4_sell_60 : decode cX4_sell 60 = .ok (.athrow, 1) := by decide +kernel
theorem dX4_sell_61 : decode cX4_sell 61 = .ok (.aload_n 0, 1) := by decide +kernel
theorem dX4_sell_62 : decode cX4_sell 62 = .ok (.aload 5, 2) := by decide +kernel
theorem dX4_sell_64 : decode cX4_sell 64 = .ok (.invokevirtual 156, 3) := by decide +kernel
theorem dX4_sell_67 : decode cX4_sell 67 = .ok (.aload 5, 2) := by decide +kernel
theorem dX4_sell_69 : decode cX4_sell 69 = .ok (.getfield 159, 3) := by decide +kernel
theorem dX4_sell_72 : decode cX4_sell 72 = .ok (.aload 5, 2) := by decide +kernel
theorem dX4_sell_74 : decode cX4_sell 74 = .ok (.getfield 148, 3) := by decide +kernel
theorem dX4_sell_77 : decode cX4_sell 77 = .ok (.if_icmp .eq 13, 3) := by decide +kernel
theorem dX4_sell_80 : decode cX4_sell 80 = .ok (.new 58, 3) := by decide +kernel
theorem dX4_sell_83 : decode cX4_sell 83 = .ok (.dup, 1) := by decide +kernel
theorem dX4_sell_84 : decode cX4_sell 84 = .ok (.ldc 162, 2) := by decide +kernel
theorem dX4_sell_86 : decode cX4_sell 86 = .ok (.invokespecial 62, 3) := by decide +kernel
theorem dX4_sell_89 : decode cX4_sell 89 = .ok (.athrow, 1) := by decide +kernel
theorem dX4_sell_90 : decode cX4_sell 90 = .ok (.aload_n 0, 1) := by decide +kernel
theorem dX4_sell_91 : decode cX4_sell 91 = .ok (.invokevirtual 164, 3) := by decide +kernel
theorem dX4_sell_94 : decode cX4_sell 94 = .ok (.aload 5, 2) := by decide +kernel
theorem dX4_sell_96 : decode cX4_sell 96 = .ok (.aload 5, 2) := by decide +kernel
theorem dX4_sell_98 : decode cX4_sell 98 = .ok (.invokevirtual 108, 3) := by decide +kernel
theorem dX4_sell_101 : decode cX4_sell 101 = .ok (.iload_n 3, 1) := by decide +kernel
theorem dX4_sell_102 : decode cX4_sell 102 = .ok (.imul, 1) := by decide +kernel
theorem dX4_sell_103 : decode cX4_sell 103 = .ok (.bipush 100, 2) := by decide +kernel
theorem dX4_sell_105 : decode cX4_sell 105 = .ok (.idiv, 1) := by decide +kernel
theorem dX4_sell_106 : decode cX4_sell 106 = .ok (.putfield 167, 3) := by decide +kernel
theorem dX4_sell_109 : decode cX4_sell 109 = .ok (.aload 5, 2) := by decide +kernel
theorem dX4_sell_111 : decode cX4_sell 111 = .ok (.iload 4, 2) := by decide +kernel
theorem dX4_sell_113 : decode cX4_sell 113 = .ok (.putfield 170, 3) := by decide +kernel
theorem dX4_sell_116 : decode cX4_sell 116 = .ok (.aload 5, 2) := by decide +kernel
theorem dX4_sell_118 : decode cX4_sell 118 = .ok (.iload_n 2, 1) := by decide +kernel
theorem dX4_sell_119 : decode cX4_sell 119 = .ok (.putfield 159, 3) := by decide +kernel
theorem dX4_sell_122 : decode cX4_sell 122 = .ok (.aload_n 0, 1) := by decide +kernel
theorem dX4_sell_123 : decode cX4_sell 123 = .ok (.iload_n 2, 1) := by decide +kernel
theorem dX4_sell_124 : decode cX4_sell 124 = .ok (.aload 5, 2) := by decide +kernel
theorem dX4_sell_126 : decode cX4_sell 126 = .ok (.getfield 148, 3) := by decide +kernel
theorem dX4_sell_129 : decode cX4_sell 129 = .ok (.aload 5, 2) := by decide +kernel
theorem dX4_sell_131 : decode cX4_sell 131 = .ok (.getfield 167, 3) := by decide +kernel
theorem dX4_sell_134 : decode cX4_sell 134 = .ok (.invokevirtual 173, 3) := by decide +kernel
theorem dX4_sell_137 : decode cX4_sell 137 = .ok (.aload 5, 2) := by decide +kernel
theorem dX4_sell_139 : decode cX4_sell 139 = .ok (.getfield 167, 3) := by decide +kernel
theorem dX4_sell_142 : decode cX4_sell 142 = .ok (.ireturn, 1) := by decide +kernel
theorem dX4_giveBack_0 : decode cX4_giveBack 0 = .ok (.aload_n 0, 1) := by decide +kernel
theorem dX4_giveBack_1 : decode cX4_giveBack 1 = .ok (.iload_n 1, 1) := by decide +kernel
theorem dX4_giveBack_2 : decode cX4_giveBack 2 = .ok (.invokevirtual 81, 3) := by decide +kernel
theorem dX4_giveBack_5 : decode cX4_giveBack 5 = .ok (.astore_n 2, 1) := by decide +kernel
theorem dX4_giveBack_6 : decode cX4_giveBack 6 = .ok (.aload_n 2, 1) := by decide +kernel
theorem dX4_giveBack_7 : decode cX4_giveBack 7 = .ok (.getfield 159, 3) := by decide +kernel
theorem dX4_giveBack_10 : decode cX4_giveBack 10 = .ok (.aload_n 2, 1) := by decide +kernel
theorem dX4_giveBack_11 : decode cX4_giveBack 11 = .ok (.getfield 148, 3) := by decide +kernel
theorem dX4_giveBack_14 : decode cX4_giveBack 14 = .ok (.if_icmp .ne 13, 3) := by decide +kernel
theorem dX4_giveBack_17 : decode cX4_giveBack 17 = .ok (.new 58, 3) := by decide +kernel
theorem dX4_giveBack_20 : decode cX4_giveBack 20 = .ok (.dup, 1) := by decide +kernel
theorem dX4_giveBack_21 : decode cX4_giveBack 21 = .ok (.ldc 177, 2) := by decide +kernel
theorem dX4_giveBack_23 : decode cX4_giveBack 23 = .ok (.invokespecial 62, 3) := by decide +kernel
theorem dX4_giveBack_26 : decode cX4_giveBack 26 = .ok (.athrow, 1) := by decide +kernel
theorem dX4_giveBack_27 : decode cX4_giveBack 27 = .ok (.aload_n 2, 1) := by decide +kernel
theorem dX4_giveBack_28 : decode cX4_giveBack 28 = .ok (.getfield 170, 3) := by decide +kernel
theorem dX4_giveBack_31 : decode cX4_giveBack 31 = .ok (.ifCond .ne 13, 3) := by decide +kernel
theorem dX4_giveBack_34 : decode cX4_giveBack 34 = .ok (.new 58, 3) := by decide +kernel
theorem dX4_giveBack_37 : decode cX4_giveBack 37 = .ok (.dup, 1) := by decide +kernel
theorem dX4_giveBack_38 : decode cX4_giveBack 38 = .ok (.ldc 179, 2) := by decide +kernel
theorem dX4_giveBack_40 : decode cX4_giveBack 40 = .ok (.invokespecial 62, 3) := by decide +kernel
theorem dX4_giveBack_43 : decode cX4_giveBack 43 = .ok (.athrow, 1) := by decide +kernel
theorem dX4_giveBack_44 : decode cX4_giveBack 44 = .ok (.aload_n 0, 1) := by decide +kernel
theorem dX4_giveBack_45 : decode cX4_giveBack 45 = .ok (.aload_n 2, 1) := by decide +kernel
theorem dX4_giveBack_46 : decode cX4_giveBack 46 = .ok (.invokevirtual 156, 3) := by decide +kernel
theorem dX4_giveBack_49 : decode cX4_giveBack 49 = .ok (.aload_n 0, 1) := by decide +kernel
theorem dX4_giveBack_50 : decode cX4_giveBack 50 = .ok (.invokevirtual 164, 3) := by decide +kernel
theorem dX4_giveBack_53 : decode cX4_giveBack 53 = .ok (.aload_n 0, 1) := by decide +kernel
theorem dX4_giveBack_54 : decode cX4_giveBack 54 = .ok (.aload_n 2, 1) := by decide +kernel
theorem dX4_giveBack_55 : decode cX4_giveBack 55 = .ok (.getfield 148, 3) := by decide +kernel
theorem dX4_giveBack_58 : decode cX4_giveBack 58 = .ok (.aload_n 2, 1) := by decide +kernel
theorem dX4_giveBack_59 : decode cX4_giveBack 59 = .ok (.getfield 159, 3) := by decide +kernel
theorem dX4_giveBack_62 : decode cX4_giveBack 62 = .ok (.aload_n 2, 1) := by decide +kernel
theorem dX4_giveBack_63 : decode cX4_giveBack 63 = .ok (.getfield 167, 3) := by decide +kernel
theorem dX4_giveBack_66 : decode cX4_giveBack 66 = .ok (.invokevirtual 173, 3) := by decide +kernel
theorem dX4_giveBack_69 : decode cX4_giveBack 69 = .ok (.aload_n 2, 1) := by decide +kernel
theorem dX4_giveBack_70 : decode cX4_giveBack 70 = .ok (.aload_n 2, 1) := by decide +kernel
theorem dX4_giveBack_71 : decode cX4_giveBack 71 = .ok (.getfield 148, 3) := by decide +kernel
theorem dX4_giveBack_74 : decode cX4_giveBack 74 = .ok (.putfield 159, 3) := by decide +kernel
theorem dX4_giveBack_77 : decode cX4_giveBack 77 = .ok (.aload_n 2, 1) := by decide +kernel
theorem dX4_giveBack_78 : decode cX4_giveBack 78 = .ok (.getfield 167, 3) := by decide +kernel
theorem dX4_giveBack_81 : decode cX4_giveBack 81 = .ok (.ireturn, 1) := by decide +kernel
theorem dX4_type_0 : decode cX4_type 0 = .ok (.iload_n 1, 1) := by decide +kernel
theorem dX4_type_1 : decode cX4_type 1 = .ok (.bipush 32, 2) := by decide +kernel
theorem dX4_type_3 : decode cX4_type 3 = .ok (.if_icmp .lt 9, 3) := by decide +kernel
theorem dX4_type_6 : decode cX4_type 6 = .ok (.iload_n 1, 1) := by decide +kernel
theorem dX4_type_7 : decode cX4_type 7 = .ok (.bipush 126, 2) := by decide +kernel
theorem dX4_type_9 : decode cX4_type 9 = .ok (.if_icmp .le 13, 3) := by decide +kernel
theorem dX4_type_12 : decode cX4_type 12 = .ok (.new 121, 3) := by decide +kernel
theorem dX4_type_15 : decode cX4_type 15 = .ok (.dup, 1) := by decide +kernel
theorem dX4_type_16 : decode cX4_type 16 = .ok (.ldc 181, 2) := by decide +kernel
theorem dX4_type_18 : decode cX4_type 18 = .ok (.invokespecial 125, 3) := by decide +kernel
theorem dX4_type_21 : decode cX4_type 21 = .ok (.athrow, 1) := by decide +kernel
theorem dX4_type_22 : decode cX4_type 22 = .ok (.aload_n 0, 1) := by decide +kernel
theorem dX4_type_23 : decode cX4_type 23 = .ok (.getfield 29, 3) := by decide +kernel
theorem dX4_type_26 : decode cX4_type 26 = .ok (.invokevirtual 183, 3) := by decide +kernel
theorem dX4_type_29 : decode cX4_type 29 = .ok (.bipush 10, 2) := by decide +kernel
theorem dX4_type_31 : decode cX4_type 31 = .ok (.if_icmp .lt 13, 3) := by decide +kernel
theorem dX4_type_34 : decode cX4_type 34 = .ok (.new 58, 3) := by decide +kernel
theorem dX4_type_37 : decode cX4_type 37 = .ok (.dup, 1) := by decide +kernel
theorem dX4_type_38 : decode cX4_type 38 = .ok (.ldc 186, 2) := by decide +kernel
theorem dX4_type_40 : decode cX4_type 40 = .ok (.invokespecial 62, 3) := by decide +kernel
theorem dX4_type_43 : decode cX4_type 43 = .ok (.athrow, 1) := by decide +kernel
theorem dX4_type_44 : decode cX4_type 44 = .ok (.aload_n 0, 1) := by decide +kernel
theorem dX4_type_45 : decode cX4_type 45 = .ok (.getfield 29, 3) := by decide +kernel
theorem dX4_type_48 : decode cX4_type 48 = .ok (.iload_n 1, 1) := by decide +kernel
theorem dX4_type_49 : decode cX4_type 49 = .ok (.i2c, 1) := by decide +kernel
theorem dX4_type_50 : decode cX4_type 50 = .ok (.invokevirtual 188, 3) := by decide +kernel
theorem dX4_type_53 : decode cX4_type 53 = .ok (.pop, 1) := by decide +kernel
theorem dX4_type_54 : decode cX4_type 54 = .ok (.aload_n 0, 1) := by decide +kernel
theorem dX4_type_55 : decode cX4_type 55 = .ok (.getfield 29, 3) := by decide +kernel
theorem dX4_type_58 : decode cX4_type 58 = .ok (.invokevirtual 183, 3) := by decide +kernel
theorem dX4_type_61 : decode cX4_type 61 = .ok (.ireturn, 1) := by decide +kernel
theorem dX4_clear_0 : decode cX4_clear 0 = .ok (.aload_n 0, 1) := by decide +kernel
theorem dX4_clear_1 : decode cX4_clear 1 = .ok (.getfield 29, 3) := by decide +kernel
theorem dX4_clear_4 : decode cX4_clear 4 = .ok (.invokevirtual 183, 3) := by decide +kernel
theorem dX4_clear_7 : decode cX4_clear 7 = .ok (.istore_n 1, 1) := by decide +kernel
theorem dX4_clear_8 : decode cX4_clear 8 = .ok (.aload_n 0, 1) := by decide +kernel
theorem dX4_clear_9 : decode cX4_clear 9 = .ok (.getfield 29, 3) := by decide +kernel
theorem dX4_clear_12 : decode cX4_clear 12 = .ok (.iconst 0, 1) := by decide +kernel
theorem dX4_clear_13 : decode cX4_clear 13 = .ok (.invokevirtual 192, 3) := by decide +kernel
theorem dX4_clear_16 : decode cX4_clear 16 = .ok (.iload_n 1, 1) := by decide +kernel
theorem dX4_clear_17 : decode cX4_clear 17 = .ok (.ireturn, 1) := by decide +kernel
theorem dX4_fault_0 : decode cX4_fault 0 = .ok (.aload_n 0, 1) := by decide +kernel
theorem dX4_fault_1 : decode cX4_fault 1 = .ok (.invokevirtual 195, 3) := by decide +kernel
theorem dX4_fault_4 : decode cX4_fault 4 = .ok (.ireturn, 1) := by decide +kernel
theorem dX4_payByText_0 : decode cX4_payByText 0 = .ok (.aload_n 0, 1) := by decide +kernel
theorem dX4_payByText_1 : decode cX4_payByText 1 = .ok (.iload_n 1, 1) := by decide +kernel
theorem dX4_payByText_2 : decode cX4_payByText 2 = .ok (.iload_n 2, 1) := by decide +kernel
theorem dX4_payByText_3 : decode cX4_payByText 3 = .ok (.iload_n 3, 1) := by decide +kernel
theorem dX4_payByText_4 : decode cX4_payByText 4 = .ok (.invokevirtual 198, 3) := by decide +kernel
theorem dX4_payByText_7 : decode cX4_payByText 7 = .ok (.aload_n 0, 1) := by decide +kernel
theorem dX4_payByText_8 : decode cX4_payByText 8 = .ok (.invokevirtual 195, 3) := by decide +kernel
theorem dX4_payByText_11 : decode cX4_payByText 11 = .ok (.iconst (-1), 1) := by decide +kernel
theorem dX4_payByText_12 : decode cX4_payByText 12 = .ok (.if_icmp .eq 13, 3) := by decide +kernel
theorem dX4_payByText_15 : decode cX4_payByText 15 = .ok (.new 58, 3) := by decide +kernel
theorem dX4_payByText_18 : decode cX4_payByText 18 = .ok (.dup, 1) := by decide +kernel
theorem dX4_payByText_19 : decode cX4_payByText 19 = .ok (.ldc 201, 2) := by decide +kernel
theorem dX4_payByText_21 : decode cX4_payByText 21 = .ok (.invokespecial 62, 3) := by decide +kernel
theorem dX4_payByText_24 : decode cX4_payByText 24 = .ok (.athrow, 1) := by decide +kernel
theorem dX4_payByText_25 : decode cX4_payByText 25 = .ok (.aload_n 0, 1) := by decide +kernel
theorem dX4_payByText_26 : decode cX4_payByText 26 = .ok (.invokevirtual 203, 3) := by decide +kernel
theorem dX4_payByText_29 : decode cX4_payByText 29 = .ok (.istore 4, 2) := by decide +kernel
theorem dX4_payByText_31 : decode cX4_payByText 31 = .ok (.aload_n 0, 1) := by decide +kernel
theorem dX4_payByText_32 : decode cX4_payByText 32 = .ok (.iload 4, 2) := by decide +kernel
theorem dX4_payByText_34 : decode cX4_payByText 34 = .ok (.invokevirtual 206, 3) := by decide +kernel
theorem dX4_payByText_37 : decode cX4_payByText 37 = .ok (.ifCond .ne 13, 3) := by decide +kernel
theorem dX4_payByText_40 : decode cX4_payByText 40 = .ok (.new 58, 3) := by decide +kernel
theorem dX4_payByText_43 : decode cX4_payByText 43 = .ok (.dup, 1) := by decide +kernel
theorem dX4_payByText_44 : decode cX4_payByText 44 = .ok (.ldc 210, 2) := by decide +kernel
theorem dX4_payByText_46 : decode cX4_payByText 46 = .ok (.invokespecial 62, 3) := by decide +kernel
theorem dX4_payByText_49 : decode cX4_payByText 49 = .ok (.athrow, 1) := by decide +kernel
theorem dX4_payByText_50 : decode cX4_payByText 50 = .ok (.aload_n 0, 1) := by decide +kernel
theorem dX4_payByText_51 : decode cX4_payByText 51 = .ok (.getfield 10, 3) := by decide +kernel
theorem dX4_payByText_54 : decode cX4_payByText 54 = .ok (.iload 4, 2) := by decide +kernel
theorem dX4_payByText_56 : decode cX4_payByText 56 = .ok (.invokevirtual 212, 3) := by decide +kernel
theorem dX4_payByText_59 : decode cX4_payByText 59 = .ok (.checkcast 65, 3) := by decide +kernel
theorem dX4_payByText_62 : decode cX4_payByText 62 = .ok (.astore 5, 2) := by decide +kernel
theorem dX4_payByText_64 : decode cX4_payByText 64 = .ok (.aload 5, 2) := by decide +kernel
theorem dX4_payByText_66 : decode cX4_payByText 66 = .ok (.getfield 151, 3) := by decide +kernel
theorem dX4_payByText_69 : decode cX4_payByText 69 = .ok (.iload_n 1, 1) := by decide +kernel
theorem dX4_payByText_70 : decode cX4_payByText 70 = .ok (.if_icmp .eq 13, 3) := by decide +kernel
theorem dX4_payByText_73 : decode cX4_payByText 73 = .ok (.new 58, 3) := by decide +kernel
theorem dX4_payByText_76 : decode cX4_payByText 76 = .ok (.dup, 1) := by decide +kernel
theorem dX4_payByText_77 : decode cX4_payByText 77 = .ok (.ldc 216, 2) := by decide +kernel
theorem dX4_payByText_79 : decode cX4_payByText 79 = .ok (.invokespecial 62, 3) := by decide +kernel
theorem dX4_payByText_82 : decode cX4_payByText 82 = .ok (.athrow, 1) := by decide +kernel
theorem dX4_payByText_83 : decode cX4_payByText 83 = .ok (.aload 5, 2) := by decide +kernel
theorem dX4_payByText_85 : decode cX4_payByText 85 = .ok (.getfield 159, 3) := by decide +kernel
theorem dX4_payByText_88 : decode cX4_payByText 88 = .ok (.iload_n 2, 1) := by decide +kernel
theorem dX4_payByText_89 : decode cX4_payByText 89 = .ok (.if_icmp .eq 13, 3) := by decide +kernel
theorem dX4_payByText_92 : decode cX4_payByText 92 = .ok (.new 58, 3) := by decide +kernel
theorem dX4_payByText_95 : decode cX4_payByText 95 = .ok (.dup, 1) := by decide +kernel
theorem dX4_payByText_96 : decode cX4_payByText 96 = .ok (.ldc 218, 2) := by decide +kernel
theorem dX4_payByText_98 : decode cX4_payByText 98 = .ok (.invokespecial 62, 3) := by decide +kernel
theorem dX4_payByText_101 : decode cX4_payByText 101 = .ok (.athrow, 1) := by decide +kernel
theorem dX4_payByText_102 : decode cX4_payByText 102 = .ok (.iload_n 3, 1) := by decide +kernel
theorem dX4_payByText_103 : decode cX4_payByText 103 = .ok (.aload 5, 2) := by decide +kernel
theorem dX4_payByText_105 : decode cX4_payByText 105 = .ok (.invokevirtual 108, 3) := by decide +kernel
theorem dX4_payByText_108 : decode cX4_payByText 108 = .ok (.if_icmp .le 13, 3) := by decide +kernel
theorem dX4_payByText_111 : decode cX4_payByText 111 = .ok (.new 58, 3) := by decide +kernel
theorem dX4_payByText_114 : decode cX4_payByText 114 = .ok (.dup, 1) := by decide +kernel
theorem dX4_payByText_115 : decode cX4_payByText 115 = .ok (.ldc 220, 2) := by decide +kernel
theorem dX4_payByText_117 : decode cX4_payByText 117 = .ok (.invokespecial 62, 3) := by decide +kernel
theorem dX4_payByText_120 : decode cX4_payByText 120 = .ok (.athrow, 1) := by decide +kernel
theorem dX4_payByText_121 : decode cX4_payByText 121 = .ok (.aload_n 0, 1) := by decide +kernel
theorem dX4_payByText_122 : decode cX4_payByText 122 = .ok (.invokevirtual 164, 3) := by decide +kernel
theorem dX4_payByText_125 : decode cX4_payByText 125 = .ok (.aload_n 0, 1) := by decide +kernel
theorem dX4_payByText_126 : decode cX4_payByText 126 = .ok (.aload 5, 2) := by decide +kernel
theorem dX4_payByText_128 : decode cX4_payByText 128 = .ok (.iload_n 3, 1) := by decide +kernel
theorem dX4_payByText_129 : decode cX4_payByText 129 = .ok (.invokevirtual 222, 3) := by decide +kernel
theorem dX4_payByText_132 : decode cX4_payByText 132 = .ok (.aload_n 0, 1) := by decide +kernel
theorem dX4_payByText_133 : decode cX4_payByText 133 = .ok (.getfield 29, 3) := by decide +kernel
theorem dX4_payByText_136 : decode cX4_payByText 136 = .ok (.iconst 0, 1) := by decide +kernel
theorem dX4_payByText_137 : decode cX4_payByText 137 = .ok (.invokevirtual 192, 3) := by decide +kernel
theorem dX4_payByText_140 : decode cX4_payByText 140 = .ok (.iload 4, 2) := by decide +kernel
theorem dX4_payByText_142 : decode cX4_payByText 142 = .ok (.ireturn, 1) := by decide +kernel
theorem dX4_payBySum_0 : decode cX4_payBySum 0 = .ok (.aload_n 0, 1) := by decide +kernel
theorem dX4_payBySum_1 : decode cX4_payBySum 1 = .ok (.iload_n 1, 1) := by decide +kernel
theorem dX4_payBySum_2 : decode cX4_payBySum 2 = .ok (.iload_n 2, 1) := by decide +kernel
theorem dX4_payBySum_3 : decode cX4_payBySum 3 = .ok (.iload_n 3, 1) := by decide +kernel
theorem dX4_payBySum_4 : decode cX4_payBySum 4 = .ok (.invokevirtual 198, 3) := by decide +kernel
theorem dX4_payBySum_7 : decode cX4_payBySum 7 = .ok (.iconst 0, 1) := by decide +kernel
theorem dX4_payBySum_8 : decode cX4_payBySum 8 = .ok (.istore 4, 2) := by decide +kernel
theorem dX4_payBySum_10 : decode cX4_payBySum 10 = .ok (.iload 4, 2) := by decide +kernel
theorem dX4_payBySum_12 : decode cX4_payBySum 12 = .ok (.aload_n 0, 1) := by decide +kernel
theorem dX4_payBySum_13 : decode cX4_payBySum 13 = .ok (.getfield 10, 3) := by decide +kernel
theorem dX4_payBySum_16 : decode cX4_payBySum 16 = .ok (.invokevirtual 54, 3) := by decide +kernel
theorem dX4_payBySum_19 : decode cX4_payBySum 19 = .ok (.if_icmp .ge 64, 3) := by decide +kernel
theorem dX4_payBySum_22 : decode cX4_payBySum 22 = .ok (.aload_n 0, 1) := by decide +kernel
theorem dX4_payBySum_23 : decode cX4_payBySum 23 = .ok (.getfield 10, 3) := by decide +kernel
theorem dX4_payBySum_26 : decode cX4_payBySum 26 = .ok (.iload 4, 2) := by decide +kernel
theorem dX4_payBySum_28 : decode cX4_payBySum 28 = .ok (.invokevirtual 212, 3) := by decide +kernel
theorem dX4_payBySum_31 : decode cX4_payBySum 31 = .ok (.checkcast 65, 3) := by decide +kernel
theorem dX4_payBySum_34 : decode cX4_payBySum 34 = .ok (.astore 5, 2) := by decide +kernel
theorem dX4_payBySum_36 : decode cX4_payBySum 36 = .ok (.aload 5, 2) := by decide +kernel
theorem dX4_payBySum_38 : decode cX4_payBySum 38 = .ok (.getfield 151, 3) := by decide +kernel
theorem dX4_payBySum_41 : decode cX4_payBySum 41 = .ok (.iload_n 1, 1) := by decide +kernel
theorem dX4_payBySum_42 : decode cX4_payBySum 42 = .ok (.if_icmp .ne 35, 3) := by decide +kernel
theorem dX4_payBySum_45 : decode cX4_payBySum 45 = .ok (.aload 5, 2) := by decide +kernel
theorem dX4_payBySum_47 : decode cX4_payBySum 47 = .ok (.getfield 159, 3) := by decide +kernel
theorem dX4_payBySum_50 : decode cX4_payBySum 50 = .ok (.iload_n 2, 1) := by decide +kernel
theorem dX4_payBySum_51 : decode cX4_payBySum 51 = .ok (.if_icmp .ne 26, 3) := by decide +kernel
theorem dX4_payBySum_54 : decode cX4_payBySum 54 = .ok (.aload 5, 2) := by decide +kernel
theorem dX4_payBySum_56 : decode cX4_payBySum 56 = .ok (.invokevirtual 108, 3) := by decide +kernel
theorem dX4_payBySum_59 : decode cX4_payBySum 59 = .ok (.iload_n 3, 1) := by decide +kernel
theorem dX4_payBySum_60 : decode cX4_payBySum 60 = .ok (.if_icmp .ne 17, 3) := by decide +kernel
theorem dX4_payBySum_63 : decode cX4_payBySum 63 = .ok (.aload_n 0, 1) := by decide +kernel
theorem dX4_payBySum_64 : decode cX4_payBySum 64 = .ok (.invokevirtual 164, 3) := by decide +kernel
theorem dX4_payBySum_67 : decode cX4_payBySum 67 = .ok (.aload_n 0, 1) := by decide +kernel
theorem dX4_payBySum_68 : decode cX4_payBySum 68 = .ok (.aload 5, 2) := by decide +kernel
theorem dX4_payBySum_70 : decode cX4_payBySum 70 = .ok (.iload_n 3, 1) := by decide +kernel
theorem dX4_payBySum_71 : decode cX4_payBySum 71 = .ok (.invokevirtual 222, 3) := by decide +kernel
theorem dX4_payBySum_74 : decode cX4_payBySum 74 = .ok (.iload 4, 2) := by decide +kernel
theorem dX4_payBySum_76 : decode cX4_payBySum 76 = .ok (.ireturn, 1) := by decide +kernel
theorem dX4_payBySum_77 : decode cX4_payBySum 77 = .ok (.iinc 4 1, 3) := by decide +kernel
theorem dX4_payBySum_80 : decode cX4_payBySum 80 = .ok (.goto (-70), 3) := by decide +kernel
theorem dX4_payBySum_83 : decode cX4_payBySum 83 = .ok (.new 58, 3) := by decide +kernel
theorem dX4_payBySum_86 : decode cX4_payBySum 86 = .ok (.dup, 1) := by decide +kernel
theorem dX4_payBySum_87 : decode cX4_payBySum 87 = .ok (.ldc 210, 2) := by decide +kernel
theorem dX4_payBySum_89 : decode cX4_payBySum 89 = .ok (.invokespecial 62, 3) := by decide +kernel
theorem dX4_payBySum_92 : decode cX4_payBySum 92 = .ok (.athrow, 1) := by decide +kernel
theorem dX4_pass_0 : decode cX4_pass 0 = .ok (.iload_n 1, 1) := by decide +kernel
theorem dX4_pass_1 : decode cX4_pass 1 = .ok (.iconst 1, 1) := by decide +kernel
theorem dX4_pass_2 : decode cX4_pass 2 = .ok (.if_icmp .lt 9, 3) := by decide +kernel
theorem dX4_pass_5 : decode cX4_pass 5 = .ok (.iload_n 1, 1) := by decide +kernel
theorem dX4_pass_6 : decode cX4_pass 6 = .ok (.bipush 60, 2) := by decide +kernel
theorem dX4_pass_8 : decode cX4_pass 8 = .ok (.if_icmp .le 13, 3) := by decide +kernel
theorem dX4_pass_11 : decode cX4_pass 11 = .ok (.new 121, 3) := by decide +kernel
theorem dX4_pass_14 : decode cX4_pass 14 = .ok (.dup, 1) := by decide +kernel
theorem dX4_pass_15 : decode cX4_pass 15 = .ok (.ldc 226, 2) := by decide +kernel
theorem dX4_pass_17 : decode cX4_pass 17 = .ok (.invokespecial 125, 3) := by decide +kernel
theorem dX4_pass_20 : decode cX4_pass 20 = .ok (.athrow, 1) := by decide +kernel
theorem dX4_pass_21 : decode cX4_pass 21 = .ok (.aload_n 0, 1) := by decide +kernel
theorem dX4_pass_22 : decode cX4_pass 22 = .ok (.getfield 33, 3) := by decide +kernel
theorem dX4_pass_25 : decode cX4_pass 25 = .ok (.iload_n 1, 1) := by decide +kernel
theorem dX4_pass_26 : decode cX4_pass 26 = .ok (.iadd, 1) := by decide +kernel
theorem dX4_pass_27 : decode cX4_pass 27 = .ok (.sipush 999, 3) := by decide +kernel
theorem dX4_pass_30 : decode cX4_pass 30 = .ok (.if_icmp .le 13, 3) := by decide +kernel
theorem dX4_pass_33 : decode cX4_pass 33 = .ok (.new 58, 3) := by decide +kernel
theorem dX4_pass_36 : decode cX4_pass 36 = .ok (.dup, 1) := by decide +kernel
theorem dX4_pass_37 : decode cX4_pass 37 = .ok (.ldc 228, 2) := by decide +kernel
theorem dX4_pass_39 : decode cX4_pass 39 = .ok (.invokespecial 62, 3) := by decide +kernel
theorem dX4_pass_42 : decode cX4_pass 42 = .ok (.athrow, 1) := by decide +kernel
theorem dX4_pass_43 : decode cX4_pass 43 = .ok (.aload_n 0, 1) := by decide +kernel
theorem dX4_pass_44 : decode cX4_pass 44 = .ok (.dup, 1) := by decide +kernel
theorem dX4_pass_45 : decode cX4_pass 45 = .ok (.getfield 33, 3) := by decide +kernel
theorem dX4_pass_48 : decode cX4_pass 48 = .ok (.iload_n 1, 1) := by decide +kernel
theorem dX4_pass_49 : decode cX4_pass 49 = .ok (.iadd, 1) := by decide +kernel
theorem dX4_pass_50 : decode cX4_pass 50 = .ok (.putfield 33, 3) := by decide +kernel
theorem dX4_pass_53 : decode cX4_pass 53 = .ok (.aload_n 0, 1) := by decide +kernel
theorem dX4_pass_54 : decode cX4_pass 54 = .ok (.getfield 33, 3) := by decide +kernel
theorem dX4_pass_57 : decode cX4_pass 57 = .ok (.invokestatic 230, 3) := by decide +kernel
theorem dX4_pass_60 : decode cX4_pass 60 = .ok (.ireturn, 1) := by decide +kernel
theorem dX4_about_0 : decode cX4_about 0 = .ok (.aload_n 0, 1) := by decide +kernel
theorem dX4_about_1 : decode cX4_about 1 = .ok (.iload_n 1, 1) := by decide +kernel
theorem dX4_about_2 : decode cX4_about 2 = .ok (.invokevirtual 81, 3) := by decide +kernel
theorem dX4_about_5 : decode cX4_about 5 = .ok (.astore_n 3, 1) := by decide +kernel
theorem dX4_about_6 : decode cX4_about 6 = .ok (.iload_n 2, 1) := by decide +kernel
theorem dX4_about_7 : decode cX4_about 7 = .ok (.tableswitch 106 0 9 #[53, 58, 63, 68, 73, 78, 83, 88, 96, 101], 53) := by decide +kernel
theorem dX4_about_60 : decode cX4_about 60 = .ok (.aload_n 3, 1) := by decide +kernel
theorem dX4_about_61 : decode cX4_about 61 = .ok (.getfield 102, 3) := by decide +kernel
theorem dX4_about_64 : decode cX4_about 64 = .ok (.ireturn, 1) := by decide +kernel
theorem dX4_about_65 : decode cX4_about 65 = .ok (.aload_n 3, 1) := by decide +kernel
theorem dX4_about_66 : decode cX4_about 66 = .ok (.getfield 148, 3) := by decide +kernel
theorem dX4_about_69 : decode cX4_about 69 = .ok (.ireturn, 1) := by decide +kernel
theorem dX4_about_70 : decode cX4_about 70 = .ok (.aload_n 3, 1) := by decide +kernel
theorem dX4_about_71 : decode cX4_about 71 = .ok (.getfield 151, 3) := by decide +kernel
theorem dX4_about_74 : decode cX4_about 74 = .ok (.ireturn, 1) := by decide +kernel
theorem dX4_about_75 : decode cX4_about 75 = .ok (.aload_n 3, 1) := by decide +kernel
theorem dX4_about_76 : decode cX4_about 76 = .ok (.getfield 159, 3) := by decide +kernel
theorem dX4_about_79 : decode cX4_about 79 = .ok (.ireturn, 1) := by decide +kernel
theorem dX4_about_80 : decode cX4_about 80 = .ok (.aload_n 3, 1) := by decide +kernel
theorem dX4_about_81 : decode cX4_about 81 = .ok (.invokevirtual 111, 3) := by decide +kernel
theorem dX4_about_84 : decode cX4_about 84 = .ok (.ireturn, 1) := by decide +kernel
theorem dX4_about_85 : decode cX4_about 85 = .ok (.aload_n 3, 1) := by decide +kernel
theorem dX4_about_86 : decode cX4_about 86 = .ok (.invokevirtual 108, 3) := by decide +kernel
theorem dX4_about_89 : decode cX4_about 89 = .ok (.ireturn, 1) := by decide +kernel
theorem dX4_about_90 : decode cX4_about 90 = .ok (.aload_n 3, 1) := by decide +kernel
theorem dX4_about_91 : decode cX4_about 91 = .ok (.getfield 234, 3) := by decide +kernel
theorem dX4_about_94 : decode cX4_about 94 = .ok (.ireturn, 1) := by decide +kernel
theorem dX4_about_95 : decode cX4_about 95 = .ok (.aload_n 3, 1) := by decide +kernel
theorem dX4_about_96 : decode cX4_about 96 = .ok (.getfield 70, 3) := by decide +kernel
theorem dX4_about_99 : decode cX4_about 99 = .ok (.invokevirtual 54, 3) := by decide +kernel
theorem dX4_about_102 : decode cX4_about 102 = .ok (.ireturn, 1) := by decide +kernel
theorem dX4_about_103 : decode cX4_about 103 = .ok (.aload_n 3, 1) := by decide +kernel
theorem dX4_about_104 : decode cX4_about 104 = .ok (.getfield 89, 3) := by decide +kernel
theorem dX4_about_107 : decode cX4_about 107 = .ok (.ireturn, 1) := by decide +kernel
theorem dX4_about_108 : decode cX4_about 108 = .ok (.aload_n 3, 1) := by decide +kernel
theorem dX4_about_109 : decode cX4_about 109 = .ok (.invokevirtual 237, 3) := by decide +kernel
theorem dX4_about_112 : decode cX4_about 112 = .ok (.ireturn, 1) := by decide +kernel
theorem dX4_about_113 : decode cX4_about 113 = .ok (.new 121, 3) := by decide +kernel
theorem dX4_about_116 : decode cX4_about 116 = .ok (.dup, 1) := by decide +kernel
theorem dX4_about_117 : decode cX4_about 117 = .ok (.ldc 240, 2) := by decide +kernel
theorem dX4_about_119 : decode cX4_about 119 = .ok (.invokespecial 125, 3) := by decide +kernel
theorem dX4_about_122 : decode cX4_about 122 = .ok (.athrow, 1) := by decide +kernel
theorem dX4_lineOf_0 : decode cX4_lineOf 0 = .ok (.aload_n 0, 1) := by decide +kernel
theorem dX4_lineOf_1 : decode cX4_lineOf 1 = .ok (.aload_n 0, 1) := by decide +kernel
theorem dX4_lineOf_2 : decode cX4_lineOf 2 = .ok (.iload_n 1, 1) := by decide +kernel
theorem dX4_lineOf_3 : decode cX4_lineOf 3 = .ok (.invokevirtual 81, 3) := by decide +kernel
theorem dX4_lineOf_6 : decode cX4_lineOf 6 = .ok (.iload_n 2, 1) := by decide +kernel
theorem dX4_lineOf_7 : decode cX4_lineOf 7 = .ok (.invokevirtual 114, 3) := by decide +kernel
theorem dX4_lineOf_10 : decode cX4_lineOf 10 = .ok (.astore 4, 2) := by decide +kernel
theorem dX4_lineOf_12 : decode cX4_lineOf 12 = .ok (.iload_n 3, 1) := by decide +kernel
theorem dX4_lineOf_13 : decode cX4_lineOf 13 = .ok (.tableswitch 73 0 4 #[35, 41, 47, 53, 67], 35) := by decide +kernel
theorem dX4_lineOf_48 : decode cX4_lineOf 48 = .ok (.aload 4, 2) := by decide +kernel
theorem dX4_lineOf_50 : decode cX4_lineOf 50 = .ok (.getfield 118, 3) := by decide +kernel
theorem dX4_lineOf_53 : decode cX4_lineOf 53 = .ok (.ireturn, 1) := by decide +kernel
theorem dX4_lineOf_54 : decode cX4_lineOf 54 = .ok (.aload 4, 2) := by decide +kernel
theorem dX4_lineOf_56 : decode cX4_lineOf 56 = .ok (.getfield 242, 3) := by decide +kernel
theorem dX4_lineOf_59 : decode cX4_lineOf 59 = .ok (.ireturn, 1) := by decide +kernel
theorem dX4_lineOf_60 : decode cX4_lineOf 60 = .ok (.aload 4, 2) := by decide +kernel
theorem dX4_lineOf_62 : decode cX4_lineOf 62 = .ok (.invokevirtual 245, 3) := by decide +kernel
theorem dX4_lineOf_65 : decode cX4_lineOf 65 = .ok (.ireturn, 1) := by decide +kernel
theorem dX4_lineOf_66 : decode cX4_lineOf 66 = .ok (.aload 4, 2) := by decide +kernel
theorem dX4_lineOf_68 : decode cX4_lineOf 68 = .ok (.getfield 137, 3) := by decide +kernel
theorem dX4_lineOf_71 : decode cX4_lineOf 71 = .ok (.ifCond .eq 7, 3) := by decide +kernel
theorem dX4_lineOf_74 : decode cX4_lineOf 74 = .ok (.iconst 1, 1) := by decide +kernel
theorem dX4_lineOf_75 : decode cX4_lineOf 75 = .ok (.goto 4, 3) := by decide +kernel
theorem dX4_lineOf_78 : decode cX4_lineOf 78 = .ok (.iconst 0, 1) := by decide +kernel
theorem dX4_lineOf_79 : decode cX4_lineOf 79 = .ok (.ireturn, 1) := by decide +kernel
theorem dX4_lineOf_80 : decode cX4_lineOf 80 = .ok (.aload 4, 2) := by decide +kernel
theorem dX4_lineOf_82 : decode cX4_lineOf 82 = .ok (.getfield 246, 3) := by decide +kernel
theorem dX4_lineOf_85 : decode cX4_lineOf 85 = .ok (.ireturn, 1) := by decide +kernel
theorem dX4_lineOf_86 : decode cX4_lineOf 86 = .ok (.new 121, 3) := by decide +kernel
theorem dX4_lineOf_89 : decode cX4_lineOf 89 = .ok (.dup, 1) := by decide +kernel
theorem dX4_lineOf_90 : decode cX4_lineOf 90 = .ok (.ldc 240, 2) := by decide +kernel
theorem dX4_lineOf_92 : decode cX4_lineOf 92 = .ok (.invokespecial 125, 3) := by decide +kernel
theorem dX4_lineOf_95 : decode cX4_lineOf 95 = .ok (.athrow, 1) := by decide +kernel
theorem dX4_cash_0 : decode cX4_cash 0 = .ok (.iload_n 1, 1) := by decide +kernel
theorem dX4_cash_1 : decode cX4_cash 1 = .ok (.ifCond .lt 12, 3) := by decide +kernel
theorem dX4_cash_4 : decode cX4_cash 4 = .ok (.iload_n 1, 1) := by decide +kernel
theorem dX4_cash_5 : decode cX4_cash 5 = .ok (.aload_n 0, 1) := by decide +kernel
theorem dX4_cash_6 : decode cX4_cash 6 = .ok (.getfield 22, 3) := by decide +kernel
theorem dX4_cash_9 : decode cX4_cash 9 = .ok (.arraylength, 1) := by decide +kernel
theorem dX4_cash_10 : decode cX4_cash 10 = .ok (.if_icmp .lt 13, 3) := by decide +kernel
theorem dX4_cash_13 : decode cX4_cash 13 = .ok (.new 249, 3) := by decide +kernel
theorem dX4_cash_16 : decode cX4_cash 16 = .ok (.dup, 1) := by decide +kernel
theorem dX4_cash_17 : decode cX4_cash 17 = .ok (.ldc 251, 2) := by decide +kernel
theorem dX4_cash_19 : decode cX4_cash 19 = .ok (.invokespecial 253, 3) := by decide +kernel
theorem dX4_cash_22 : decode cX4_cash 22 = .ok (.athrow, 1) := by decide +kernel
theorem dX4_cash_23 : decode cX4_cash 23 = .ok (.aload_n 0, 1) := by decide +kernel
theorem dX4_cash_24 : decode cX4_cash 24 = .ok (.getfield 22, 3) := by decide +kernel
theorem dX4_cash_27 : decode cX4_cash 27 = .ok (.iload_n 1, 1) := by decide +kernel
theorem dX4_cash_28 : decode cX4_cash 28 = .ok (.iaload, 1) := by decide +kernel
theorem dX4_cash_29 : decode cX4_cash 29 = .ok (.ireturn, 1) := by decide +kernel
theorem dX4_cashAnew_0 : decode cX4_cashAnew 0 = .ok (.aload_n 0, 1) := by decide +kernel
theorem dX4_cashAnew_1 : decode cX4_cashAnew 1 = .ok (.iload_n 1, 1) := by decide +kernel
theorem dX4_cashAnew_2 : decode cX4_cashAnew 2 = .ok (.invokevirtual 37, 3) := by decide +kernel
theorem dX4_cashAnew_5 : decode cX4_cashAnew 5 = .ok (.iconst 0, 1) := by decide +kernel
theorem dX4_cashAnew_6 : decode cX4_cashAnew 6 = .ok (.istore_n 2, 1) := by decide +kernel
theorem dX4_cashAnew_7 : decode cX4_cashAnew 7 = .ok (.iconst 0, 1) := by decide +kernel
theorem dX4_cashAnew_8 : decode cX4_cashAnew 8 = .ok (.istore_n 3, 1) := by decide +kernel
theorem dX4_cashAnew_9 : decode cX4_cashAnew 9 = .ok (.iload_n 3, 1) := by decide +kernel
theorem dX4_cashAnew_10 : decode cX4_cashAnew 10 = .ok (.aload_n 0, 1) := by decide +kernel
theorem dX4_cashAnew_11 : decode cX4_cashAnew 11 = .ok (.getfield 19, 3) := by decide +kernel
theorem dX4_cashAnew_14 : decode cX4_cashAnew 14 = .ok (.invokevirtual 54, 3) := by decide +kernel
theorem dX4_cashAnew_17 : decode cX4_cashAnew 17 = .ok (.if_icmp .ge 56, 3) := by decide +kernel
theorem dX4_cashAnew_20 : decode cX4_cashAnew 20 = .ok (.aload_n 0, 1) := by decide +kernel
theorem dX4_cashAnew_21 : decode cX4_cashAnew 21 = .ok (.getfield 19, 3) := by decide +kernel
theorem dX4_cashAnew_24 : decode cX4_cashAnew 24 = .ok (.iload_n 3, 1) := by decide +kernel
theorem dX4_cashAnew_25 : decode cX4_cashAnew 25 = .ok (.invokevirtual 212, 3) := by decide +kernel
theorem dX4_cashAnew_28 : decode cX4_cashAnew 28 = .ok (.checkcast 254, 3) := by decide +kernel
theorem dX4_cashAnew_31 : decode cX4_cashAnew 31 = .ok (.astore 4, 2) := by decide +kernel
theorem dX4_cashAnew_33 : decode cX4_cashAnew 33 = .ok (.aload 4, 2) := by decide +kernel
theorem dX4_cashAnew_35 : decode cX4_cashAnew 35 = .ok (.getfield 256, 3) := by decide +kernel
theorem dX4_cashAnew_38 : decode cX4_cashAnew 38 = .ok (.iload_n 1, 1) := by decide +kernel
theorem dX4_cashAnew_39 : decode cX4_cashAnew 39 = .ok (.if_icmp .ne 11, 3) := by decide +kernel
theorem dX4_cashAnew_42 : decode cX4_cashAnew 42 = .ok (.iload_n 2, 1) := by decide +kernel
theorem dX4_cashAnew_43 : decode cX4_cashAnew 43 = .ok (.aload 4, 2) := by decide +kernel
theorem dX4_cashAnew_45 : decode cX4_cashAnew 45 = .ok (.getfield 259, 3) := by decide +kernel
theorem dX4_cashAnew_48 : decode cX4_cashAnew 48 = .ok (.iadd, 1) := by decide +kernel
theorem dX4_cashAnew_49 : decode cX4_cashAnew 49 = .ok (.istore_n 2, 1) := by decide +kernel
theorem dX4_cashAnew_50 : decode cX4_cashAnew 50 = .ok (.aload 4, 2) := by decide +kernel
theorem dX4_cashAnew_52 : decode cX4_cashAnew 52 = .ok (.getfield 262, 3) := by decide +kernel
theorem dX4_cashAnew_55 : decode cX4_cashAnew 55 = .ok (.iload_n 1, 1) := by decide +kernel
theorem dX4_cashAnew_56 : decode cX4_cashAnew 56 = .ok (.if_icmp .ne 11, 3) := by decide +kernel
theorem dX4_cashAnew_59 : decode cX4_cashAnew 59 = .ok (.iload_n 2, 1) := by decide +kernel
theorem dX4_cashAnew_60 : decode cX4_cashAnew 60 = .ok (.aload 4, 2) := by decide +kernel
theorem dX4_cashAnew_62 : decode cX4_cashAnew 62 = .ok (.getfield 259, 3) := by decide +kernel
theorem dX4_cashAnew_65 : decode cX4_cashAnew 65 = .ok (.isub, 1) := by decide +kernel
theorem dX4_cashAnew_66 : decode cX4_cashAnew 66 = .ok (.istore_n 2, 1) := by decide +kernel
theorem dX4_cashAnew_67 : decode cX4_cashAnew 67 = .ok (.iinc 3 1, 3) := by decide +kernel
theorem dX4_cashAnew_70 : decode cX4_cashAnew 70 = .ok (.goto (-61), 3) := by decide +kernel
theorem dX4_cashAnew_73 : decode cX4_cashAnew 73 = .ok (.iload_n 2, 1) := by decide +kernel
theorem dX4_cashAnew_74 : decode cX4_cashAnew 74 = .ok (.ireturn, 1) := by decide +kernel
theorem dX4_owedTo_0 : decode cX4_owedTo 0 = .ok (.aload_n 0, 1) := by decide +kernel
theorem dX4_owedTo_1 : decode cX4_owedTo 1 = .ok (.iload_n 1, 1) := by decide +kernel
theorem dX4_owedTo_2 : decode cX4_owedTo 2 = .ok (.invokevirtual 37, 3) := by decide +kernel
theorem dX4_owedTo_5 : decode cX4_owedTo 5 = .ok (.iconst 0, 1) := by decide +kernel
theorem dX4_owedTo_6 : decode cX4_owedTo 6 = .ok (.istore_n 2, 1) := by decide +kernel
theorem dX4_owedTo_7 : decode cX4_owedTo 7 = .ok (.iconst 0, 1) := by decide +kernel
theorem dX4_owedTo_8 : decode cX4_owedTo 8 = .ok (.istore_n 3, 1) := by decide +kernel
theorem dX4_owedTo_9 : decode cX4_owedTo 9 = .ok (.iload_n 3, 1) := by decide +kernel
theorem dX4_owedTo_10 : decode cX4_owedTo 10 = .ok (.aload_n 0, 1) := by decide +kernel
theorem dX4_owedTo_11 : decode cX4_owedTo 11 = .ok (.getfield 10, 3) := by decide +kernel
theorem dX4_owedTo_14 : decode cX4_owedTo 14 = .ok (.invokevirtual 54, 3) := by decide +kernel
theorem dX4_owedTo_17 : decode cX4_owedTo 17 = .ok (.if_icmp .ge 39, 3) := by decide +kernel
theorem dX4_owedTo_20 : decode cX4_owedTo 20 = .ok (.aload_n 0, 1) := by decide +kernel
theorem dX4_owedTo_21 : decode cX4_owedTo 21 = .ok (.getfield 10, 3) := by decide +kernel
theorem dX4_owedTo_24 : decode cX4_owedTo 24 = .ok (.iload_n 3, 1) := by decide +kernel
theorem dX4_owedTo_25 : decode cX4_owedTo 25 = .ok (.invokevirtual 212, 3) := by decide +kernel
theorem dX4_owedTo_28 : decode cX4_owedTo 28 = .ok (.checkcast 65, 3) := by decide +kernel
theorem dX4_owedTo_31 : decode cX4_owedTo 31 = .ok (.astore 4, 2) := by decide +kernel
theorem dX4_owedTo_33 : decode cX4_owedTo 33 = .ok (.aload 4, 2) := by decide +kernel
theorem dX4_owedTo_35 : decode cX4_owedTo 35 = .ok (.getfield 159, 3) := by decide +kernel
theorem dX4_owedTo_38 : decode cX4_owedTo 38 = .ok (.iload_n 1, 1) := by decide +kernel
theorem dX4_owedTo_39 : decode cX4_owedTo 39 = .ok (.if_icmp .ne 11, 3) := by decide +kernel
theorem dX4_owedTo_42 : decode cX4_owedTo 42 = .ok (.iload_n 2, 1) := by decide +kernel
theorem dX4_owedTo_43 : decode cX4_owedTo 43 = .ok (.aload 4, 2) := by decide +kernel
theorem dX4_owedTo_45 : decode cX4_owedTo 45 = .ok (.invokevirtual 108, 3) := by decide +kernel
theorem dX4_owedTo_48 : decode cX4_owedTo 48 = .ok (.iadd, 1) := by decide +kernel
theorem dX4_owedTo_49 : decode cX4_owedTo 49 = .ok (.istore_n 2, 1) := by decide +kernel
theorem dX4_owedTo_50 : decode cX4_owedTo 50 = .ok (.iinc 3 1, 3) := by decide +kernel
theorem dX4_owedTo_53 : decode cX4_owedTo 53 = .ok (.goto (-44), 3) := by decide +kernel
theorem dX4_owedTo_56 : decode cX4_owedTo 56 = .ok (.iload_n 2, 1) := by decide +kernel
theorem dX4_owedTo_57 : decode cX4_owedTo 57 = .ok (.ireturn, 1) := by decide +kernel
theorem dX4_owes_0 : decode cX4_owes 0 = .ok (.aload_n 0, 1) := by decide +kernel
theorem dX4_owes_1 : decode cX4_owes 1 = .ok (.iload_n 1, 1) := by decide +kernel
theorem dX4_owes_2 : decode cX4_owes 2 = .ok (.invokevirtual 37, 3) := by decide +kernel
theorem dX4_owes_5 : decode cX4_owes 5 = .ok (.iconst 0, 1) := by decide +kernel
theorem dX4_owes_6 : decode cX4_owes 6 = .ok (.istore_n 2, 1) := by decide +kernel
theorem dX4_owes_7 : decode cX4_owes 7 = .ok (.iconst 0, 1) := by decide +kernel
theorem dX4_owes_8 : decode cX4_owes 8 = .ok (.istore_n 3, 1) := by decide +kernel
theorem dX4_owes_9 : decode cX4_owes 9 = .ok (.iload_n 3, 1) := by decide +kernel
theorem dX4_owes_10 : decode cX4_owes 10 = .ok (.aload_n 0, 1) := by decide +kernel
theorem dX4_owes_11 : decode cX4_owes 11 = .ok (.getfield 10, 3) := by decide +kernel
theorem dX4_owes_14 : decode cX4_owes 14 = .ok (.invokevirtual 54, 3) := by decide +kernel
theorem dX4_owes_17 : decode cX4_owes 17 = .ok (.if_icmp .ge 39, 3) := by decide +kernel
theorem dX4_owes_20 : decode cX4_owes 20 = .ok (.aload_n 0, 1) := by decide +kernel
theorem dX4_owes_21 : decode cX4_owes 21 = .ok (.getfield 10, 3) := by decide +kernel
theorem dX4_owes_24 : decode cX4_owes 24 = .ok (.iload_n 3, 1) := by decide +kernel
theorem dX4_owes_25 : decode cX4_owes 25 = .ok (.invokevirtual 212, 3) := by decide +kernel
theorem dX4_owes_28 : decode cX4_owes 28 = .ok (.checkcast 65, 3) := by decide +kernel
theorem dX4_owes_31 : decode cX4_owes 31 = .ok (.astore 4, 2) := by decide +kernel
theorem dX4_owes_33 : decode cX4_owes 33 = .ok (.aload 4, 2) := by decide +kernel
theorem dX4_owes_35 : decode cX4_owes 35 = .ok (.getfield 151, 3) := by decide +kernel
theorem dX4_owes_38 : decode cX4_owes 38 = .ok (.iload_n 1, 1) := by decide +kernel
theorem dX4_owes_39 : decode cX4_owes 39 = .ok (.if_icmp .ne 11, 3) := by decide +kernel
theorem dX4_owes_42 : decode cX4_owes 42 = .ok (.iload_n 2, 1) := by decide +kernel
theorem dX4_owes_43 : decode cX4_owes 43 = .ok (.aload 4, 2) := by decide +kernel
theorem dX4_owes_45 : decode cX4_owes 45 = .ok (.invokevirtual 108, 3) := by decide +kernel
theorem dX4_owes_48 : decode cX4_owes 48 = .ok (.iadd, 1) := by decide +kernel
theorem dX4_owes_49 : decode cX4_owes 49 = .ok (.istore_n 2, 1) := by decide +kernel
theorem dX4_owes_50 : decode cX4_owes 50 = .ok (.iinc 3 1, 3) := by decide +kernel
theorem dX4_owes_53 : decode cX4_owes 53 = .ok (.goto (-44), 3) := by decide +kernel
theorem dX4_owes_56 : decode cX4_owes 56 = .ok (.iload_n 2, 1) := by decide +kernel
theorem dX4_owes_57 : decode cX4_owes 57 = .ok (.ireturn, 1) := by decide +kernel
theorem dX4_tax_0 : decode cX4_tax 0 = .ok (.aload_n 0, 1) := by decide +kernel
theorem dX4_tax_1 : decode cX4_tax 1 = .ok (.iload_n 1, 1) := by decide +kernel
theorem dX4_tax_2 : decode cX4_tax 2 = .ok (.invokevirtual 37, 3) := by decide +kernel
theorem dX4_tax_5 : decode cX4_tax 5 = .ok (.aload_n 0, 1) := by decide +kernel
theorem dX4_tax_6 : decode cX4_tax 6 = .ok (.iload_n 2, 1) := by decide +kernel
theorem dX4_tax_7 : decode cX4_tax 7 = .ok (.invokevirtual 265, 3) := by decide +kernel
theorem dX4_tax_10 : decode cX4_tax 10 = .ok (.aload_n 0, 1) := by decide +kernel
theorem dX4_tax_11 : decode cX4_tax 11 = .ok (.iload_n 1, 1) := by decide +kernel
theorem dX4_tax_12 : decode cX4_tax 12 = .ok (.iload_n 2, 1) := by decide +kernel
theorem dX4_tax_13 : decode cX4_tax 13 = .ok (.invokevirtual 268, 3) := by decide +kernel
theorem dX4_tax_16 : decode cX4_tax 16 = .ok (.iconst 0, 1) := by decide +kernel
theorem dX4_tax_17 : decode cX4_tax 17 = .ok (.invokestatic 272, 3) := by decide +kernel
theorem dX4_tax_20 : decode cX4_tax 20 = .ok (.ireturn, 1) := by decide +kernel
theorem dX4_carried_0 : decode cX4_carried 0 = .ok (.aload_n 0, 1) := by decide +kernel
theorem dX4_carried_1 : decode cX4_carried 1 = .ok (.iload_n 1, 1) := by decide +kernel
theorem dX4_carried_2 : decode cX4_carried 2 = .ok (.invokevirtual 37, 3) := by decide +kernel
theorem dX4_carried_5 : decode cX4_carried 5 = .ok (.aload_n 0, 1) := by decide +kernel
theorem dX4_carried_6 : decode cX4_carried 6 = .ok (.iload_n 2, 1) := by decide +kernel
theorem dX4_carried_7 : decode cX4_carried 7 = .ok (.invokevirtual 265, 3) := by decide +kernel
theorem dX4_carried_10 : decode cX4_carried 10 = .ok (.aload_n 0, 1) := by decide +kernel
theorem dX4_carried_11 : decode cX4_carried 11 = .ok (.iload_n 1, 1) := by decide +kernel
theorem dX4_carried_12 : decode cX4_carried 12 = .ok (.iload_n 2, 1) := by decide +kernel
theorem dX4_carried_13 : decode cX4_carried 13 = .ok (.invokevirtual 268, 3) := by decide +kernel
theorem dX4_carried_16 : decode cX4_carried 16 = .ok (.iconst 0, 1) := by decide +kernel
theorem dX4_carried_17 : decode cX4_carried 17 = .ok (.invokestatic 277, 3) := by decide +kernel
theorem dX4_carried_20 : decode cX4_carried 20 = .ok (.ireturn, 1) := by decide +kernel
theorem dX4_chain_0 : decode cX4_chain 0 = .ok (.aload_n 0, 1) := by decide +kernel
theorem dX4_chain_1 : decode cX4_chain 1 = .ok (.iload_n 1, 1) := by decide +kernel
theorem dX4_chain_2 : decode cX4_chain 2 = .ok (.invokevirtual 41, 3) := by decide +kernel
theorem dX4_chain_5 : decode cX4_chain 5 = .ok (.iconst 0, 1) := by decide +kernel
theorem dX4_chain_6 : decode cX4_chain 6 = .ok (.istore_n 2, 1) := by decide +kernel
theorem dX4_chain_7 : decode cX4_chain 7 = .ok (.iconst 0, 1) := by decide +kernel
theorem dX4_chain_8 : decode cX4_chain 8 = .ok (.istore_n 3, 1) := by decide +kernel
theorem dX4_chain_9 : decode cX4_chain 9 = .ok (.iload_n 3, 1) := by decide +kernel
theorem dX4_chain_10 : decode cX4_chain 10 = .ok (.aload_n 0, 1) := by decide +kernel
theorem dX4_chain_11 : decode cX4_chain 11 = .ok (.getfield 10, 3) := by decide +kernel
theorem dX4_chain_14 : decode cX4_chain 14 = .ok (.invokevirtual 54, 3) := by decide +kernel
theorem dX4_chain_17 : decode cX4_chain 17 = .ok (.if_icmp .ge 51, 3) := by decide +kernel
theorem dX4_chain_20 : decode cX4_chain 20 = .ok (.aload_n 0, 1) := by decide +kernel
theorem dX4_chain_21 : decode cX4_chain 21 = .ok (.getfield 10, 3) := by decide +kernel
theorem dX4_chain_24 : decode cX4_chain 24 = .ok (.iload_n 3, 1) := by decide +kernel
theorem dX4_chain_25 : decode cX4_chain 25 = .ok (.invokevirtual 212, 3) := by decide +kernel
theorem dX4_chain_28 : decode cX4_chain 28 = .ok (.checkcast 65, 3) := by decide +kernel
theorem dX4_chain_31 : decode cX4_chain 31 = .ok (.astore 4, 2) := by decide +kernel
theorem dX4_chain_33 : decode cX4_chain 33 = .ok (.aload 4, 2) := by decide +kernel
theorem dX4_chain_35 : decode cX4_chain 35 = .ok (.iload_n 1, 1) := by decide +kernel
theorem dX4_chain_36 : decode cX4_chain 36 = .ok (.invokevirtual 280, 3) := by decide +kernel
theorem dX4_chain_39 : decode cX4_chain 39 = .ok (.ifCond .eq 23, 3) := by decide +kernel
theorem dX4_chain_42 : decode cX4_chain 42 = .ok (.iload_n 2, 1) := by decide +kernel
theorem dX4_chain_43 : decode cX4_chain 43 = .ok (.aload 4, 2) := by decide +kernel
theorem dX4_chain_45 : decode cX4_chain 45 = .ok (.invokevirtual 237, 3) := by decide +kernel
theorem dX4_chain_48 : decode cX4_chain 48 = .ok (.aload_n 0, 1) := by decide +kernel
theorem dX4_chain_49 : decode cX4_chain 49 = .ok (.iload_n 3, 1) := by decide +kernel
theorem dX4_chain_50 : decode cX4_chain 50 = .ok (.aload 4, 2) := by decide +kernel
theorem dX4_chain_52 : decode cX4_chain 52 = .ok (.invokevirtual 283, 3) := by decide +kernel
theorem dX4_chain_55 : decode cX4_chain 55 = .ok (.isub, 1) := by decide +kernel
theorem dX4_chain_56 : decode cX4_chain 56 = .ok (.iconst 0, 1) := by decide +kernel
theorem dX4_chain_57 : decode cX4_chain 57 = .ok (.invokestatic 272, 3) := by decide +kernel
theorem dX4_chain_60 : decode cX4_chain 60 = .ok (.iadd, 1) := by decide +kernel
theorem dX4_chain_61 : decode cX4_chain 61 = .ok (.istore_n 2, 1) := by decide +kernel
theorem dX4_chain_62 : decode cX4_chain 62 = .ok (.iinc 3 1, 3) := by decide +kernel
theorem dX4_chain_65 : decode cX4_chain 65 = .ok (.goto (-56), 3) := by decide +kernel
theorem dX4_chain_68 : decode cX4_chain 68 = .ok (.iload_n 2, 1) := by decide +kernel
theorem dX4_chain_69 : decode cX4_chain 69 = .ok (.ireturn, 1) := by decide +kernel
theorem dX4_day_0 : decode cX4_day 0 = .ok (.aload_n 0, 1) := by decide +kernel
theorem dX4_day_1 : decode cX4_day 1 = .ok (.getfield 33, 3) := by decide +kernel
theorem dX4_day_4 : decode cX4_day 4 = .ok (.ireturn, 1) := by decide +kernel
theorem dX4_checkCompany_0 : decode cX4_checkCompany 0 = .ok (.iload_n 1, 1) := by decide +kernel
theorem dX4_checkCompany_1 : decode cX4_checkCompany 1 = .ok (.ifCond .lt 9, 3) := by decide +kernel
theorem dX4_checkCompany_4 : decode cX4_checkCompany 4 = .ok (.iload_n 1, 1) := by decide +kernel
theorem dX4_checkCompany_5 : decode cX4_checkCompany 5 = .ok (.bipush 6, 2) := by decide +kernel
theorem dX4_checkCompany_7 : decode cX4_checkCompany 7 = .ok (.if_icmp .lt 13, 3) := by decide +kernel
theorem dX4_checkCompany_10 : decode cX4_checkCompany 10 = .ok (.new 249, 3) := by decide +kernel
theorem dX4_checkCompany_13 : decode cX4_checkCompany 13 = .ok (.dup, 1) := by decide +kernel
theorem dX4_checkCompany_14 : decode cX4_checkCompany 14 = .ok (.ldc 251, 2) := by decide +kernel
theorem dX4_checkCompany_16 : decode cX4_checkCompany 16 = .ok (.invokespecial 253, 3) := by decide +kernel
theorem dX4_checkCompany_19 : decode cX4_checkCompany 19 = .ok (.athrow, 1) := by decide +kernel
theorem dX4_checkCompany_20 : decode cX4_checkCompany 20 = .ok (.return_, 1) := by decide +kernel
theorem dX4_checkGoods_0 : decode cX4_checkGoods 0 = .ok (.iload_n 1, 1) := by decide +kernel
theorem dX4_checkGoods_1 : decode cX4_checkGoods 1 = .ok (.ifCond .lt 9, 3) := by decide +kernel
theorem dX4_checkGoods_4 : decode cX4_checkGoods 4 = .ok (.iload_n 1, 1) := by decide +kernel
theorem dX4_checkGoods_5 : decode cX4_checkGoods 5 = .ok (.bipush 8, 2) := by decide +kernel
theorem dX4_checkGoods_7 : decode cX4_checkGoods 7 = .ok (.if_icmp .lt 14, 3) := by decide +kernel
theorem dX4_checkGoods_10 : decode cX4_checkGoods 10 = .ok (.new 249, 3) := by decide +kernel
theorem dX4_checkGoods_13 : decode cX4_checkGoods 13 = .ok (.dup, 1) := by decide +kernel
theorem dX4_checkGoods_14 : decode cX4_checkGoods 14 = .ok (.ldc_w 287, 3) := by decide +kernel
theorem dX4_checkGoods_17 : decode cX4_checkGoods 17 = .ok (.invokespecial 253, 3) := by decide +kernel
theorem dX4_checkGoods_20 : decode cX4_checkGoods 20 = .ok (.athrow, 1) := by decide +kernel
theorem dX4_checkGoods_21 : decode cX4_checkGoods 21 = .ok (.return_, 1) := by decide +kernel
theorem dX4_checkMonth_0 : decode cX4_checkMonth 0 = .ok (.iload_n 1, 1) := by decide +kernel
theorem dX4_checkMonth_1 : decode cX4_checkMonth 1 = .ok (.ifCond .lt 14, 3) := by decide +kernel
theorem dX4_checkMonth_4 : decode cX4_checkMonth 4 = .ok (.iload_n 1, 1) := by decide +kernel
theorem dX4_checkMonth_5 : decode cX4_checkMonth 5 = .ok (.aload_n 0, 1) := by decide +kernel
theorem dX4_checkMonth_6 : decode cX4_checkMonth 6 = .ok (.getfield 33, 3) := by decide +kernel
theorem dX4_checkMonth_9 : decode cX4_checkMonth 9 = .ok (.invokestatic 230, 3) := by decide +kernel
theorem dX4_checkMonth_12 : decode cX4_checkMonth 12 = .ok (.if_icmp .le 14, 3) := by decide +kernel
theorem dX4_checkMonth_15 : decode cX4_checkMonth 15 = .ok (.new 249, 3) := by decide +kernel
theorem dX4_checkMonth_18 : decode cX4_checkMonth 18 = .ok (.dup, 1) := by decide +kernel
theorem dX4_checkMonth_19 : decode cX4_checkMonth 19 = .ok (.ldc_w 289, 3) := by decide +kernel
theorem dX4_checkMonth_22 : decode cX4_checkMonth 22 = .ok (.invokespecial 253, 3) := by decide +kernel
theorem dX4_checkMonth_25 : decode cX4_checkMonth 25 = .ok (.athrow, 1) := by decide +kernel
theorem dX4_checkMonth_26 : decode cX4_checkMonth 26 = .ok (.return_, 1) := by decide +kernel
theorem dX4_checkAmount_0 : decode cX4_checkAmount 0 = .ok (.iload_n 1, 1) := by decide +kernel
theorem dX4_checkAmount_1 : decode cX4_checkAmount 1 = .ok (.iconst 1, 1) := by decide +kernel
theorem dX4_checkAmount_2 : decode cX4_checkAmount 2 = .ok (.if_icmp .lt 10, 3) := by decide +kernel
theorem dX4_checkAmount_5 : decode cX4_checkAmount 5 = .ok (.iload_n 1, 1) := by decide +kernel
theorem dX4_checkAmount_6 : decode cX4_checkAmount 6 = .ok (.sipush 9999, 3) := by decide +kernel
theorem dX4_checkAmount_9 : decode cX4_checkAmount 9 = .ok (.if_icmp .le 14, 3) := by decide +kernel
theorem dX4_checkAmount_12 : decode cX4_checkAmount 12 = .ok (.new 121, 3) := by decide +kernel
theorem dX4_checkAmount_15 : decode cX4_checkAmount 15 = .ok (.dup, 1) := by decide +kernel
theorem dX4_checkAmount_16 : decode cX4_checkAmount 16 = .ok (.ldc_w 291, 3) := by decide +kernel
theorem dX4_checkAmount_19 : decode cX4_checkAmount 19 = .ok (.invokespecial 125, 3) := by decide +kernel
theorem dX4_checkAmount_22 : decode cX4_checkAmount 22 = .ok (.athrow, 1) := by decide +kernel
theorem dX4_checkAmount_23 : decode cX4_checkAmount 23 = .ok (.return_, 1) := by decide +kernel
theorem dX4_checkRate_0 : decode cX4_checkRate 0 = .ok (.iload_n 1, 1) := by decide +kernel
theorem dX4_checkRate_1 : decode cX4_checkRate 1 = .ok (.ifCond .eq 26, 3) := by decide +kernel
theorem dX4_checkRate_4 : decode cX4_checkRate 4 = .ok (.iload_n 1, 1) := by decide +kernel
theorem dX4_checkRate_5 : decode cX4_checkRate 5 = .ok (.bipush 7, 2) := by decide +kernel
theorem dX4_checkRate_7 : decode cX4_checkRate 7 = .ok (.if_icmp .eq 20, 3) := by decide +kernel
theorem dX4_checkRate_10 : decode cX4_checkRate 10 = .ok (.iload_n 1, 1) := by decide +kernel
theorem dX4_checkRate_11 : decode cX4_checkRate 11 = .ok (.bipush 19, 2) := by decide +kernel
theorem dX4_checkRate_13 : decode cX4_checkRate 13 = .ok (.if_icmp .eq 14, 3) := by decide +kernel
theorem dX4_checkRate_16 : decode cX4_checkRate 16 = .ok (.new 121, 3) := by decide +kernel
theorem dX4_checkRate_19 : decode cX4_checkRate 19 = .ok (.dup, 1) := by decide +kernel
theorem dX4_checkRate_20 : decode cX4_checkRate 20 = .ok (.ldc_w 293, 3) := by decide +kernel
theorem dX4_checkRate_23 : decode cX4_checkRate 23 = .ok (.invokespecial 125, 3) := by decide +kernel
theorem dX4_checkRate_26 : decode cX4_checkRate 26 = .ok (.athrow, 1) := by decide +kernel
theorem dX4_checkRate_27 : decode cX4_checkRate 27 = .ok (.return_, 1) := by decide +kernel
theorem dX4_checkTwoCompanies_0 : decode cX4_checkTwoCompanies 0 = .ok (.iload_n 1, 1) := by decide +kernel
theorem dX4_checkTwoCompanies_1 : decode cX4_checkTwoCompanies 1 = .ok (.iload_n 2, 1) := by decide +kernel
theorem dX4_checkTwoCompanies_2 : decode cX4_checkTwoCompanies 2 = .ok (.if_icmp .ne 14, 3) := by decide +kernel
theorem dX4_checkTwoCompanies_5 : decode cX4_checkTwoCompanies 5 = .ok (.new 121, 3) := by decide +kernel
theorem dX4_checkTwoCompanies_8 : decode cX4_checkTwoCompanies 8 = .ok (.dup, 1) := by decide +kernel
theorem dX4_checkTwoCompanies_9 : decode cX4_checkTwoCompanies 9 = .ok (.ldc_w 295, 3) := by decide +kernel
theorem dX4_checkTwoCompanies_12 : decode cX4_checkTwoCompanies 12 = .ok (.invokespecial 125, 3) := by decide +kernel
theorem dX4_checkTwoCompanies_15 : decode cX4_checkTwoCompanies 15 = .ok (.athrow, 1) := by decide +kernel
theorem dX4_checkTwoCompanies_16 : decode cX4_checkTwoCompanies 16 = .ok (.return_, 1) := by decide +kernel
theorem dX4_checkPayment_0 : decode cX4_checkPayment 0 = .ok (.aload_n 0, 1) := by decide +kernel
theorem dX4_checkPayment_1 : decode cX4_checkPayment 1 = .ok (.iload_n 1, 1) := by decide +kernel
theorem dX4_checkPayment_2 : decode cX4_checkPayment 2 = .ok (.invokevirtual 37, 3) := by decide +kernel
theorem dX4_checkPayment_5 : decode cX4_checkPayment 5 = .ok (.aload_n 0, 1) := by decide +kernel
theorem dX4_checkPayment_6 : decode cX4_checkPayment 6 = .ok (.iload_n 2, 1) := by decide +kernel
theorem dX4_checkPayment_7 : decode cX4_checkPayment 7 = .ok (.invokevirtual 37, 3) := by decide +kernel
theorem dX4_checkPayment_10 : decode cX4_checkPayment 10 = .ok (.iload_n 3, 1) := by decide +kernel
theorem dX4_checkPayment_11 : decode cX4_checkPayment 11 = .ok (.iconst 1, 1) := by decide +kernel
theorem dX4_checkPayment_12 : decode cX4_checkPayment 12 = .ok (.if_icmp .lt 10, 3) := by decide +kernel
theorem dX4_checkPayment_15 : decode cX4_checkPayment 15 = .ok (.iload_n 3, 1) := by decide +kernel
theorem dX4_checkPayment_16 : decode cX4_checkPayment 16 = .ok (.ldc_w 297, 3) := by decide +kernel
theorem dX4_checkPayment_19 : decode cX4_checkPayment 19 = .ok (.if_icmp .le 14, 3) := by decide +kernel
theorem dX4_checkPayment_22 : decode cX4_checkPayment 22 = .ok (.new 121, 3) := by decide +kernel
theorem dX4_checkPayment_25 : decode cX4_checkPayment 25 = .ok (.dup, 1) := by decide +kernel
theorem dX4_checkPayment_26 : decode cX4_checkPayment 26 = .ok (.ldc_w 298, 3) := by decide +kernel
theorem dX4_checkPayment_29 : decode cX4_checkPayment 29 = .ok (.invokespecial 125, 3) := by decide +kernel
theorem dX4_checkPayment_32 : decode cX4_checkPayment 32 = .ok (.athrow, 1) := by decide +kernel
theorem dX4_checkPayment_33 : decode cX4_checkPayment 33 = .ok (.aload_n 0, 1) := by decide +kernel
theorem dX4_checkPayment_34 : decode cX4_checkPayment 34 = .ok (.iload_n 1, 1) := by decide +kernel
theorem dX4_checkPayment_35 : decode cX4_checkPayment 35 = .ok (.iload_n 2, 1) := by decide +kernel
theorem dX4_checkPayment_36 : decode cX4_checkPayment 36 = .ok (.invokevirtual 50, 3) := by decide +kernel
theorem dX4_checkPayment_39 : decode cX4_checkPayment 39 = .ok (.return_, 1) := by decide +kernel
theorem dX4_checkSent_0 : decode cX4_checkSent 0 = .ok (.aload_n 1, 1) := by decide +kernel
theorem dX4_checkSent_1 : decode cX4_checkSent 1 = .ok (.getfield 102, 3) := by decide +kernel
theorem dX4_checkSent_4 : decode cX4_checkSent 4 = .ok (.ifCond .eq 14, 3) := by decide +kernel
theorem dX4_checkSent_7 : decode cX4_checkSent 7 = .ok (.new 58, 3) := by decide +kernel
theorem dX4_checkSent_10 : decode cX4_checkSent 10 = .ok (.dup, 1) := by decide +kernel
theorem dX4_checkSent_11 : decode cX4_checkSent 11 = .ok (.ldc_w 300, 3) := by decide +kernel
theorem dX4_checkSent_14 : decode cX4_checkSent 14 = .ok (.invokespecial 62, 3) := by decide +kernel
theorem dX4_checkSent_17 : decode cX4_checkSent 17 = .ok (.athrow, 1) := by decide +kernel
theorem dX4_checkSent_18 : decode cX4_checkSent 18 = .ok (.return_, 1) := by decide +kernel
theorem dX4_checkOwed_0 : decode cX4_checkOwed 0 = .ok (.aload_n 1, 1) := by decide +kernel
theorem dX4_checkOwed_1 : decode cX4_checkOwed 1 = .ok (.invokevirtual 108, 3) := by decide +kernel
theorem dX4_checkOwed_4 : decode cX4_checkOwed 4 = .ok (.ifCond .ne 14, 3) := by decide +kernel
theorem dX4_checkOwed_7 : decode cX4_checkOwed 7 = .ok (.new 58, 3) := by decide +kernel
theorem dX4_checkOwed_10 : decode cX4_checkOwed 10 = .ok (.dup, 1) := by decide +kernel
theorem dX4_checkOwed_11 : decode cX4_checkOwed 11 = .ok (.ldc_w 302, 3) := by decide +kernel
theorem dX4_checkOwed_14 : decode cX4_checkOwed 14 = .ok (.invokespecial 62, 3) := by decide +kernel
theorem dX4_checkOwed_17 : decode cX4_checkOwed 17 = .ok (.athrow, 1) := by decide +kernel
theorem dX4_checkOwed_18 : decode cX4_checkOwed 18 = .ok (.return_, 1) := by decide +kernel
theorem dX4_checkRoomForCredit_0 : decode cX4_checkRoomForCredit 0 = .ok (.aload_n 0, 1) := by decide +kernel
theorem dX4_checkRoomForCredit_1 : decode cX4_checkRoomForCredit 1 = .ok (.getfield 16, 3) := by decide +kernel
theorem dX4_checkRoomForCredit_4 : decode cX4_checkRoomForCredit 4 = .ok (.invokevirtual 54, 3) := by decide +kernel
theorem dX4_checkRoomForCredit_7 : decode cX4_checkRoomForCredit 7 = .ok (.bipush 24, 2) := by decide +kernel
theorem dX4_checkRoomForCredit_9 : decode cX4_checkRoomForCredit 9 = .ok (.if_icmp .lt 14, 3) := by decide +kernel
theorem dX4_checkRoomForCredit_12 : decode cX4_checkRoomForCredit 12 = .ok (.new 58, 3) := by decide +kernel
theorem dX4_checkRoomForCredit_15 : decode cX4_checkRoomForCredit 15 = .ok (.dup, 1) := by decide +kernel
theorem dX4_checkRoomForCredit_16 : decode cX4_checkRoomForCredit 16 = .ok (.ldc_w 304, 3) := by decide +kernel
theorem dX4_checkRoomForCredit_19 : decode cX4_checkRoomForCredit 19 = .ok (.invokespecial 62, 3) := by decide +kernel
theorem dX4_checkRoomForCredit_22 : decode cX4_checkRoomForCredit 22 = .ok (.athrow, 1) := by decide +kernel
theorem dX4_checkRoomForCredit_23 : decode cX4_checkRoomForCredit 23 = .ok (.return_, 1) := by decide +kernel
theorem dX4_checkRoomForDocument_0 : decode cX4_checkRoomForDocument 0 = .ok (.aload_n 0, 1) := by decide +kernel
theorem dX4_checkRoomForDocument_1 : decode cX4_checkRoomForDocument 1 = .ok (.getfield 19, 3) := by decide +kernel
theorem dX4_checkRoomForDocument_4 : decode cX4_checkRoomForDocument 4 = .ok (.invokevirtual 54, 3) := by decide +kernel
theorem dX4_checkRoomForDocument_7 : decode cX4_checkRoomForDocument 7 = .ok (.sipush 512, 3) := by decide +kernel
theorem dX4_checkRoomForDocument_10 : decode cX4_checkRoomForDocument 10 = .ok (.if_icmp .lt 14, 3) := by decide +kernel
theorem dX4_checkRoomForDocument_13 : decode cX4_checkRoomForDocument 13 = .ok (.new 58, 3) := by decide +kernel
theorem dX4_checkRoomForDocument_16 : decode cX4_checkRoomForDocument 16 = .ok (.dup, 1) := by decide +kernel
theorem dX4_checkRoomForDocument_17 : decode cX4_checkRoomForDocument 17 = .ok (.ldc_w 306, 3) := by decide +kernel
theorem dX4_checkRoomForDocument_20 : decode cX4_checkRoomForDocument 20 = .ok (.invokespecial 62, 3) := by decide +kernel
theorem dX4_checkRoomForDocument_23 : decode cX4_checkRoomForDocument 23 = .ok (.athrow, 1) := by decide +kernel
theorem dX4_checkRoomForDocument_24 : decode cX4_checkRoomForDocument 24 = .ok (.return_, 1) := by decide +kernel
theorem dX4_isInvoice_0 : decode cX4_isInvoice 0 = .ok (.iload_n 1, 1) := by decide +kernel
theorem dX4_isInvoice_1 : decode cX4_isInvoice 1 = .ok (.ifCond .lt 18, 3) := by decide +kernel
theorem dX4_isInvoice_4 : decode cX4_isInvoice 4 = .ok (.iload_n 1, 1) := by decide +kernel
theorem dX4_isInvoice_5 : decode cX4_isInvoice 5 = .ok (.aload_n 0, 1) := by decide +kernel
theorem dX4_isInvoice_6 : decode cX4_isInvoice 6 = .ok (.getfield 10, 3) := by decide +kernel
theorem dX4_isInvoice_9 : decode cX4_isInvoice 9 = .ok (.invokevirtual 54, 3) := by decide +kernel
theorem dX4_isInvoice_12 : decode cX4_isInvoice 12 = .ok (.if_icmp .ge 7, 3) := by decide +kernel
theorem dX4_isInvoice_15 : decode cX4_isInvoice 15 = .ok (.iconst 1, 1) := by decide +kernel
theorem dX4_isInvoice_16 : decode cX4_isInvoice 16 = .ok (.goto 4, 3) := by decide +kernel
theorem dX4_isInvoice_19 : decode cX4_isInvoice 19 = .ok (.iconst 0, 1) := by decide +kernel
theorem dX4_isInvoice_20 : decode cX4_isInvoice 20 = .ok (.ireturn, 1) := by decide +kernel
theorem dX4_invoiceAt_0 : decode cX4_invoiceAt 0 = .ok (.aload_n 0, 1) := by decide +kernel
theorem dX4_invoiceAt_1 : decode cX4_invoiceAt 1 = .ok (.iload_n 1, 1) := by decide +kernel
theorem dX4_invoiceAt_2 : decode cX4_invoiceAt 2 = .ok (.invokevirtual 206, 3) := by decide +kernel
theorem dX4_invoiceAt_5 : decode cX4_invoiceAt 5 = .ok (.ifCond .ne 13, 3) := by decide +kernel
theorem dX4_invoiceAt_8 : decode cX4_invoiceAt 8 = .ok (.new 249, 3) := by decide +kernel
theorem dX4_invoiceAt_11 : decode cX4_invoiceAt 11 = .ok (.dup, 1) := by decide +kernel
theorem dX4_invoiceAt_12 : decode cX4_invoiceAt 12 = .ok (.ldc 210, 2) := by decide +kernel
theorem dX4_invoiceAt_14 : decode cX4_invoiceAt 14 = .ok (.invokespecial 253, 3) := by decide +kernel
theorem dX4_invoiceAt_17 : decode cX4_invoiceAt 17 = .ok (.athrow, 1) := by decide +kernel
theorem dX4_invoiceAt_18 : decode cX4_invoiceAt 18 = .ok (.aload_n 0, 1) := by decide +kernel
theorem dX4_invoiceAt_19 : decode cX4_invoiceAt 19 = .ok (.getfield 10, 3) := by decide +kernel
theorem dX4_invoiceAt_22 : decode cX4_invoiceAt 22 = .ok (.iload_n 1, 1) := by decide +kernel
theorem dX4_invoiceAt_23 : decode cX4_invoiceAt 23 = .ok (.invokevirtual 212, 3) := by decide +kernel
theorem dX4_invoiceAt_26 : decode cX4_invoiceAt 26 = .ok (.checkcast 65, 3) := by decide +kernel
theorem dX4_invoiceAt_29 : decode cX4_invoiceAt 29 = .ok (.areturn, 1) := by decide +kernel
theorem dX4_lineAt_0 : decode cX4_lineAt 0 = .ok (.iload_n 2, 1) := by decide +kernel
theorem dX4_lineAt_1 : decode cX4_lineAt 1 = .ok (.ifCond .lt 14, 3) := by decide +kernel
theorem dX4_lineAt_4 : decode cX4_lineAt 4 = .ok (.iload_n 2, 1) := by decide +kernel
theorem dX4_lineAt_5 : decode cX4_lineAt 5 = .ok (.aload_n 1, 1) := by decide +kernel
theorem dX4_lineAt_6 : decode cX4_lineAt 6 = .ok (.getfield 70, 3) := by decide +kernel
theorem dX4_lineAt_9 : decode cX4_lineAt 9 = .ok (.invokevirtual 54, 3) := by decide +kernel
theorem dX4_lineAt_12 : decode cX4_lineAt 12 = .ok (.if_icmp .lt 14, 3) := by decide +kernel
theorem dX4_lineAt_15 : decode cX4_lineAt 15 = .ok (.new 249, 3) := by decide +kernel
theorem dX4_lineAt_18 : decode cX4_lineAt 18 = .ok (.dup, 1) := by decide +kernel
theorem dX4_lineAt_19 : decode cX4_lineAt 19 = .ok (.ldc_w 308, 3) := by decide +kernel
theorem dX4_lineAt_22 : decode cX4_lineAt 22 = .ok (.invokespecial 253, 3) := by decide +kernel
theorem dX4_lineAt_25 : decode cX4_lineAt 25 = .ok (.athrow, 1) := by decide +kernel
theorem dX4_lineAt_26 : decode cX4_lineAt 26 = .ok (.aload_n 1, 1) := by decide +kernel
theorem dX4_lineAt_27 : decode cX4_lineAt 27 = .ok (.getfield 70, 3) := by decide +kernel
theorem dX4_lineAt_30 : decode cX4_lineAt 30 = .ok (.iload_n 2, 1) := by decide +kernel
theorem dX4_lineAt_31 : decode cX4_lineAt 31 = .ok (.invokevirtual 212, 3) := by decide +kernel
theorem dX4_lineAt_34 : decode cX4_lineAt 34 = .ok (.checkcast 73, 3) := by decide +kernel
theorem dX4_lineAt_37 : decode cX4_lineAt 37 = .ok (.areturn, 1) := by decide +kernel
theorem dX4_makeCredit_0 : decode cX4_makeCredit 0 = .ok (.aload_n 2, 1) := by decide +kernel
theorem dX4_makeCredit_1 : decode cX4_makeCredit 1 = .ok (.invokevirtual 245, 3) := by decide +kernel
theorem dX4_makeCredit_4 : decode cX4_makeCredit 4 = .ok (.istore 4, 2) := by decide +kernel
theorem dX4_makeCredit_6 : decode cX4_makeCredit 6 = .ok (.aload_n 2, 1) := by decide +kernel
theorem dX4_makeCredit_7 : decode cX4_makeCredit 7 = .ok (.dup, 1) := by decide +kernel
theorem dX4_makeCredit_8 : decode cX4_makeCredit 8 = .ok (.getfield 118, 3) := by decide +kernel
theorem dX4_makeCredit_11 : decode cX4_makeCredit 11 = .ok (.iload_n 3, 1) := by decide +kernel
theorem dX4_makeCredit_12 : decode cX4_makeCredit 12 = .ok (.isub, 1) := by decide +kernel
theorem dX4_makeCredit_13 : decode cX4_makeCredit 13 = .ok (.putfield 118, 3) := by decide +kernel
theorem dX4_makeCredit_16 : decode cX4_makeCredit 16 = .ok (.aload_n 1, 1) := by decide +kernel
theorem dX4_makeCredit_17 : decode cX4_makeCredit 17 = .ok (.iconst 1, 1) := by decide +kernel
theorem dX4_makeCredit_18 : decode cX4_makeCredit 18 = .ok (.putfield 96, 3) := by decide +kernel
theorem dX4_makeCredit_21 : decode cX4_makeCredit 21 = .ok (.aload_n 0, 1) := by decide +kernel
theorem dX4_makeCredit_22 : decode cX4_makeCredit 22 = .ok (.getfield 16, 3) := by decide +kernel
theorem dX4_makeCredit_25 : decode cX4_makeCredit 25 = .ok (.new 310, 3) := by decide +kernel
theorem dX4_makeCredit_28 : decode cX4_makeCredit 28 = .ok (.dup, 1) := by decide +kernel
theorem dX4_makeCredit_29 : decode cX4_makeCredit 29 = .ok (.aload_n 1, 1) := by decide +kernel
theorem dX4_makeCredit_30 : decode cX4_makeCredit 30 = .ok (.aload_n 0, 1) := by decide +kernel
theorem dX4_makeCredit_31 : decode cX4_makeCredit 31 = .ok (.getfield 33, 3) := by decide +kernel
theorem dX4_makeCredit_34 : decode cX4_makeCredit 34 = .ok (.invokestatic 230, 3) := by decide +kernel
theorem dX4_makeCredit_37 : decode cX4_makeCredit 37 = .ok (.iload 4, 2) := by decide +kernel
theorem dX4_makeCredit_39 : decode cX4_makeCredit 39 = .ok (.aload_n 2, 1) := by decide +kernel
theorem dX4_makeCredit_40 : decode cX4_makeCredit 40 = .ok (.invokevirtual 245, 3) := by decide +kernel
theorem dX4_makeCredit_43 : decode cX4_makeCredit 43 = .ok (.isub, 1) := by decide +kernel
theorem dX4_makeCredit_44 : decode cX4_makeCredit 44 = .ok (.invokespecial 312, 3) := by decide +kernel
theorem dX4_makeCredit_47 : decode cX4_makeCredit 47 = .ok (.invokevirtual 77, 3) := by decide +kernel
theorem dX4_makeCredit_50 : decode cX4_makeCredit 50 = .ok (.pop, 1) := by decide +kernel
theorem dX4_makeCredit_51 : decode cX4_makeCredit 51 = .ok (.return_, 1) := by decide +kernel
theorem dX4_takePayment_0 : decode cX4_takePayment 0 = .ok (.aload_n 1, 1) := by decide +kernel
theorem dX4_takePayment_1 : decode cX4_takePayment 1 = .ok (.dup, 1) := by decide +kernel
theorem dX4_takePayment_2 : decode cX4_takePayment 2 = .ok (.getfield 234, 3) := by decide +kernel
theorem dX4_takePayment_5 : decode cX4_takePayment 5 = .ok (.iload_n 2, 1) := by decide +kernel
theorem dX4_takePayment_6 : decode cX4_takePayment 6 = .ok (.iadd, 1) := by decide +kernel
theorem dX4_takePayment_7 : decode cX4_takePayment 7 = .ok (.putfield 234, 3) := by decide +kernel
theorem dX4_takePayment_10 : decode cX4_takePayment 10 = .ok (.aload_n 0, 1) := by decide +kernel
theorem dX4_takePayment_11 : decode cX4_takePayment 11 = .ok (.aload_n 1, 1) := by decide +kernel
theorem dX4_takePayment_12 : decode cX4_takePayment 12 = .ok (.getfield 151, 3) := by decide +kernel
theorem dX4_takePayment_15 : decode cX4_takePayment 15 = .ok (.aload_n 1, 1) := by decide +kernel
theorem dX4_takePayment_16 : decode cX4_takePayment 16 = .ok (.getfield 159, 3) := by decide +kernel
theorem dX4_takePayment_19 : decode cX4_takePayment 19 = .ok (.iload_n 2, 1) := by decide +kernel
theorem dX4_takePayment_20 : decode cX4_takePayment 20 = .ok (.invokevirtual 173, 3) := by decide +kernel
theorem dX4_takePayment_23 : decode cX4_takePayment 23 = .ok (.return_, 1) := by decide +kernel
theorem dX4_moveCash_0 : decode cX4_moveCash 0 = .ok (.aload_n 0, 1) := by decide +kernel
theorem dX4_moveCash_1 : decode cX4_moveCash 1 = .ok (.getfield 19, 3) := by decide +kernel
theorem dX4_moveCash_4 : decode cX4_moveCash 4 = .ok (.new 254, 3) := by decide +kernel
theorem dX4_moveCash_7 : decode cX4_moveCash 7 = .ok (.dup, 1) := by decide +kernel
theorem dX4_moveCash_8 : decode cX4_moveCash 8 = .ok (.iload_n 1, 1) := by decide +kernel
theorem dX4_moveCash_9 : decode cX4_moveCash 9 = .ok (.iload_n 2, 1) := by decide +kernel
theorem dX4_moveCash_10 : decode cX4_moveCash 10 = .ok (.iload_n 3, 1) := by decide +kernel
theorem dX4_moveCash_11 : decode cX4_moveCash 11 = .ok (.invokespecial 315, 3) := by decide +kernel
theorem dX4_moveCash_14 : decode cX4_moveCash 14 = .ok (.invokevirtual 77, 3) := by decide +kernel
theorem dX4_moveCash_17 : decode cX4_moveCash 17 = .ok (.pop, 1) := by decide +kernel
theorem dX4_moveCash_18 : decode cX4_moveCash 18 = .ok (.aload_n 0, 1) := by decide +kernel
theorem dX4_moveCash_19 : decode cX4_moveCash 19 = .ok (.iload_n 1, 1) := by decide +kernel
theorem dX4_moveCash_20 : decode cX4_moveCash 20 = .ok (.iload_n 3, 1) := by decide +kernel
theorem dX4_moveCash_21 : decode cX4_moveCash 21 = .ok (.ineg, 1) := by decide +kernel
theorem dX4_moveCash_22 : decode cX4_moveCash 22 = .ok (.invokevirtual 317, 3) := by decide +kernel
theorem dX4_moveCash_25 : decode cX4_moveCash 25 = .ok (.aload_n 0, 1) := by decide +kernel
theorem dX4_moveCash_26 : decode cX4_moveCash 26 = .ok (.iload_n 2, 1) := by decide +kernel
theorem dX4_moveCash_27 : decode cX4_moveCash 27 = .ok (.iload_n 3, 1) := by decide +kernel
theorem dX4_moveCash_28 : decode cX4_moveCash 28 = .ok (.invokevirtual 317, 3) := by decide +kernel
theorem dX4_moveCash_31 : decode cX4_moveCash 31 = .ok (.return_, 1) := by decide +kernel
theorem dX4_addCash_0 : decode cX4_addCash 0 = .ok (.iload_n 1, 1) := by decide +kernel
theorem dX4_addCash_1 : decode cX4_addCash 1 = .ok (.ifCond .lt 22, 3) := by decide +kernel
theorem dX4_addCash_4 : decode cX4_addCash 4 = .ok (.iload_n 1, 1) := by decide +kernel
theorem dX4_addCash_5 : decode cX4_addCash 5 = .ok (.aload_n 0, 1) := by decide +kernel
theorem dX4_addCash_6 : decode cX4_addCash 6 = .ok (.getfield 22, 3) := by decide +kernel
theorem dX4_addCash_9 : decode cX4_addCash 9 = .ok (.arraylength, 1) := by decide +kernel
theorem dX4_addCash_10 : decode cX4_addCash 10 = .ok (.if_icmp .ge 13, 3) := by decide +kernel
theorem dX4_addCash_13 : decode cX4_addCash 13 = .ok (.aload_n 0, 1) := by decide +kernel
theorem dX4_addCash_14 : decode cX4_addCash 14 = .ok (.getfield 22, 3) := by decide +kernel
theorem dX4_addCash_17 : decode cX4_addCash 17 = .ok (.iload_n 1, 1) := by decide +kernel
theorem dX4_addCash_18 : decode cX4_addCash 18 = .ok (.dup2, 1) := by decide +kernel
theorem dX4_addCash_19 : decode cX4_addCash 19 = .ok (.iaload, 1) := by decide +kernel
theorem dX4_addCash_20 : decode cX4_addCash 20 = .ok (.iload_n 2, 1) := by decide +kernel
theorem dX4_addCash_21 : decode cX4_addCash 21 = .ok (.iadd, 1) := by decide +kernel
theorem dX4_addCash_22 : decode cX4_addCash 22 = .ok (.iastore, 1) := by decide +kernel
theorem dX4_addCash_23 : decode cX4_addCash 23 = .ok (.return_, 1) := by decide +kernel
theorem dX4_faultOfDraft_0 : decode cX4_faultOfDraft 0 = .ok (.aload_n 0, 1) := by decide +kernel
theorem dX4_faultOfDraft_1 : decode cX4_faultOfDraft 1 = .ok (.getfield 29, 3) := by decide +kernel
theorem dX4_faultOfDraft_4 : decode cX4_faultOfDraft 4 = .ok (.invokevirtual 183, 3) := by decide +kernel
theorem dX4_faultOfDraft_7 : decode cX4_faultOfDraft 7 = .ok (.istore_n 1, 1) := by decide +kernel
theorem dX4_faultOfDraft_8 : decode cX4_faultOfDraft 8 = .ok (.iload_n 1, 1) := by decide +kernel
theorem dX4_faultOfDraft_9 : decode cX4_faultOfDraft 9 = .ok (.iconst 1, 1) := by decide +kernel
theorem dX4_faultOfDraft_10 : decode cX4_faultOfDraft 10 = .ok (.if_icmp .lt 16, 3) := by decide +kernel
theorem dX4_faultOfDraft_13 : decode cX4_faultOfDraft 13 = .ok (.aload_n 0, 1) := by decide +kernel
theorem dX4_faultOfDraft_14 : decode cX4_faultOfDraft 14 = .ok (.getfield 29, 3) := by decide +kernel
theorem dX4_faultOfDraft_17 : decode cX4_faultOfDraft 17 = .ok (.iconst 0, 1) := by decide +kernel
theorem dX4_faultOfDraft_18 : decode cX4_faultOfDraft 18 = .ok (.invokevirtual 320, 3) := by decide +kernel
theorem dX4_faultOfDraft_21 : decode cX4_faultOfDraft 21 = .ok (.bipush 82, 2) := by decide +kernel
theorem dX4_faultOfDraft_23 : decode cX4_faultOfDraft 23 = .ok (.if_icmp .eq 5, 3) := by decide +kernel
theorem dX4_faultOfDraft_26 : decode cX4_faultOfDraft 26 = .ok (.iconst 0, 1) := by decide +kernel
theorem dX4_faultOfDraft_27 : decode cX4_faultOfDraft 27 = .ok (.ireturn, 1) := by decide +kernel
theorem dX4_faultOfDraft_28 : decode cX4_faultOfDraft 28 = .ok (.iload_n 1, 1) := by decide +kernel
theorem dX4_faultOfDraft_29 : decode cX4_faultOfDraft 29 = .ok (.iconst 2, 1) := by decide +kernel
theorem dX4_faultOfDraft_30 : decode cX4_faultOfDraft 30 = .ok (.if_icmp .lt 17, 3) := by decide +kernel
theorem dX4_faultOfDraft_33 : decode cX4_faultOfDraft 33 = .ok (.aload_n 0, 1) := by decide +kernel
theorem dX4_faultOfDraft_34 : decode cX4_faultOfDraft 34 = .ok (.getfield 29, 3) := by decide +kernel
theorem dX4_faultOfDraft_37 : decode cX4_faultOfDraft 37 = .ok (.iconst 1, 1) := by decide +kernel
theorem dX4_faultOfDraft_38 : decode cX4_faultOfDraft 38 = .ok (.invokevirtual 320, 3) := by decide +kernel
theorem dX4_faultOfDraft_41 : decode cX4_faultOfDraft 41 = .ok (.invokestatic 324, 3) := by decide +kernel
theorem dX4_faultOfDraft_44 : decode cX4_faultOfDraft 44 = .ok (.ifCond .ne 5, 3) := by decide +kernel
theorem dX4_faultOfDraft_47 : decode cX4_faultOfDraft 47 = .ok (.iconst 1, 1) := by decide +kernel
theorem dX4_faultOfDraft_48 : decode cX4_faultOfDraft 48 = .ok (.ireturn, 1) := by decide +kernel
theorem dX4_faultOfDraft_49 : decode cX4_faultOfDraft 49 = .ok (.iload_n 1, 1) := by decide +kernel
theorem dX4_faultOfDraft_50 : decode cX4_faultOfDraft 50 = .ok (.iconst 3, 1) := by decide +kernel
theorem dX4_faultOfDraft_51 : decode cX4_faultOfDraft 51 = .ok (.if_icmp .ge 5, 3) := by decide +kernel
theorem dX4_faultOfDraft_54 : decode cX4_faultOfDraft 54 = .ok (.iconst (-1), 1) := by decide +kernel
theorem dX4_faultOfDraft_55 : decode cX4_faultOfDraft 55 = .ok (.ireturn, 1) := by decide +kernel
theorem dX4_faultOfDraft_56 : decode cX4_faultOfDraft 56 = .ok (.aload_n 0, 1) := by decide +kernel
theorem dX4_faultOfDraft_57 : decode cX4_faultOfDraft 57 = .ok (.getfield 29, 3) := by decide +kernel
theorem dX4_faultOfDraft_60 : decode cX4_faultOfDraft 60 = .ok (.iconst 2, 1) := by decide +kernel
theorem dX4_faultOfDraft_61 : decode cX4_faultOfDraft 61 = .ok (.invokevirtual 320, 3) := by decide +kernel
theorem dX4_faultOfDraft_64 : decode cX4_faultOfDraft 64 = .ok (.invokestatic 324, 3) := by decide +kernel
theorem dX4_faultOfDraft_67 : decode cX4_faultOfDraft 67 = .ok (.ifCond .ne 5, 3) := by decide +kernel
theorem dX4_faultOfDraft_70 : decode cX4_faultOfDraft 70 = .ok (.iconst 2, 1) := by decide +kernel
theorem dX4_faultOfDraft_71 : decode cX4_faultOfDraft 71 = .ok (.ireturn, 1) := by decide +kernel
theorem dX4_faultOfDraft_72 : decode cX4_faultOfDraft 72 = .ok (.iload_n 1, 1) := by decide +kernel
theorem dX4_faultOfDraft_73 : decode cX4_faultOfDraft 73 = .ok (.iconst 3, 1) := by decide +kernel
theorem dX4_faultOfDraft_74 : decode cX4_faultOfDraft 74 = .ok (.if_icmp .ne 7, 3) := by decide +kernel
theorem dX4_faultOfDraft_77 : decode cX4_faultOfDraft 77 = .ok (.iconst (-1), 1) := by decide +kernel
theorem dX4_faultOfDraft_78 : decode cX4_faultOfDraft 78 = .ok (.goto 4, 3) := by decide +kernel
theorem dX4_faultOfDraft_81 : decode cX4_faultOfDraft 81 = .ok (.iconst 3, 1) := by decide +kernel
theorem dX4_faultOfDraft_82 : decode cX4_faultOfDraft 82 = .ok (.ireturn, 1) := by decide +kernel
theorem dX4_numberOfDraft_0 : decode cX4_numberOfDraft 0 = .ok (.iconst 0, 1) := by decide +kernel
theorem dX4_numberOfDraft_1 : decode cX4_numberOfDraft 1 = .ok (.istore_n 1, 1) := by decide +kernel
theorem dX4_numberOfDraft_2 : decode cX4_numberOfDraft 2 = .ok (.iconst 1, 1) := by decide +kernel
theorem dX4_numberOfDraft_3 : decode cX4_numberOfDraft 3 = .ok (.istore_n 2, 1) := by decide +kernel
theorem dX4_numberOfDraft_4 : decode cX4_numberOfDraft 4 = .ok (.iload_n 2, 1) := by decide +kernel
theorem dX4_numberOfDraft_5 : decode cX4_numberOfDraft 5 = .ok (.aload_n 0, 1) := by decide +kernel
theorem dX4_numberOfDraft_6 : decode cX4_numberOfDraft 6 = .ok (.getfield 29, 3) := by decide +kernel
theorem dX4_numberOfDraft_9 : decode cX4_numberOfDraft 9 = .ok (.invokevirtual 183, 3) := by decide +kernel
theorem dX4_numberOfDraft_12 : decode cX4_numberOfDraft 12 = .ok (.if_icmp .ge 26, 3) := by decide +kernel
theorem dX4_numberOfDraft_15 : decode cX4_numberOfDraft 15 = .ok (.iload_n 1, 1) := by decide +kernel
theorem dX4_numberOfDraft_16 : decode cX4_numberOfDraft 16 = .ok (.bipush 10, 2) := by decide +kernel
theorem dX4_numberOfDraft_18 : decode cX4_numberOfDraft 18 = .ok (.imul, 1) := by decide +kernel
theorem dX4_numberOfDraft_19 : decode cX4_numberOfDraft 19 = .ok (.aload_n 0, 1) := by decide +kernel
theorem dX4_numberOfDraft_20 : decode cX4_numberOfDraft 20 = .ok (.getfield 29, 3) := by decide +kernel
theorem dX4_numberOfDraft_23 : decode cX4_numberOfDraft 23 = .ok (.iload_n 2, 1) := by decide +kernel
theorem dX4_numberOfDraft_24 : decode cX4_numberOfDraft 24 = .ok (.invokevirtual 320, 3) := by decide +kernel
theorem dX4_numberOfDraft_27 : decode cX4_numberOfDraft 27 = .ok (.bipush 48, 2) := by decide +kernel
theorem dX4_numberOfDraft_29 : decode cX4_numberOfDraft 29 = .ok (.isub, 1) := by decide +kernel
theorem dX4_numberOfDraft_30 : decode cX4_numberOfDraft 30 = .ok (.iadd, 1) := by decide +kernel
theorem dX4_numberOfDraft_31 : decode cX4_numberOfDraft 31 = .ok (.istore_n 1, 1) := by decide +kernel
theorem dX4_numberOfDraft_32 : decode cX4_numberOfDraft 32 = .ok (.iinc 2 1, 3) := by decide +kernel
theorem dX4_numberOfDraft_35 : decode cX4_numberOfDraft 35 = .ok (.goto (-31), 3) := by decide +kernel
theorem dX4_numberOfDraft_38 : decode cX4_numberOfDraft 38 = .ok (.iload_n 1, 1) := by decide +kernel
theorem dX4_numberOfDraft_39 : decode cX4_numberOfDraft 39 = .ok (.ireturn, 1) := by decide +kernel
theorem dX4_taxWithCarried_0 : decode cX4_taxWithCarried 0 = .ok (.iconst 0, 1) := by decide +kernel
theorem dX4_taxWithCarried_1 : decode cX4_taxWithCarried 1 = .ok (.istore_n 3, 1) := by decide +kernel
theorem dX4_taxWithCarried_2 : decode cX4_taxWithCarried 2 = .ok (.iconst 0, 1) := by decide +kernel
theorem dX4_taxWithCarried_3 : decode cX4_taxWithCarried 3 = .ok (.istore 4, 2) := by decide +kernel
theorem dX4_taxWithCarried_5 : decode cX4_taxWithCarried 5 = .ok (.iload 4, 2) := by decide +kernel
theorem dX4_taxWithCarried_7 : decode cX4_taxWithCarried 7 = .ok (.iload_n 2, 1) := by decide +kernel
theorem dX4_taxWithCarried_8 : decode cX4_taxWithCarried 8 = .ok (.if_icmp .gt 23, 3) := by decide +kernel
theorem dX4_taxWithCarried_11 : decode cX4_taxWithCarried 11 = .ok (.iload_n 3, 1) := by decide +kernel
theorem dX4_taxWithCarried_12 : decode cX4_taxWithCarried 12 = .ok (.iconst 0, 1) := by decide +kernel
theorem dX4_taxWithCarried_13 : decode cX4_taxWithCarried 13 = .ok (.invokestatic 277, 3) := by decide +kernel
theorem dX4_taxWithCarried_16 : decode cX4_taxWithCarried 16 = .ok (.aload_n 0, 1) := by decide +kernel
theorem dX4_taxWithCarried_17 : decode cX4_taxWithCarried 17 = .ok (.iload_n 1, 1) := by decide +kernel
theorem dX4_taxWithCarried_18 : decode cX4_taxWithCarried 18 = .ok (.iload 4, 2) := by decide +kernel
theorem dX4_taxWithCarried_20 : decode cX4_taxWithCarried 20 = .ok (.invokevirtual 328, 3) := by decide +kernel
theorem dX4_taxWithCarried_23 : decode cX4_taxWithCarried 23 = .ok (.iadd, 1) := by decide +kernel
theorem dX4_taxWithCarried_24 : decode cX4_taxWithCarried 24 = .ok (.istore_n 3, 1) := by decide +kernel
theorem dX4_taxWithCarried_25 : decode cX4_taxWithCarried 25 = .ok (.iinc 4 1, 3) := by decide +kernel
theorem dX4_taxWithCarried_28 : decode cX4_taxWithCarried 28 = .ok (.goto (-23), 3) := by decide +kernel
theorem dX4_taxWithCarried_31 : decode cX4_taxWithCarried 31 = .ok (.iload_n 3, 1) := by decide +kernel
theorem dX4_taxWithCarried_32 : decode cX4_taxWithCarried 32 = .ok (.ireturn, 1) := by decide +kernel
theorem dX4_taxOfMonth_0 : decode cX4_taxOfMonth 0 = .ok (.iconst 0, 1) := by decide +kernel
theorem dX4_taxOfMonth_1 : decode cX4_taxOfMonth 1 = .ok (.istore_n 3, 1) := by decide +kernel
theorem dX4_taxOfMonth_2 : decode cX4_taxOfMonth 2 = .ok (.iconst 0, 1) := by decide +kernel
theorem dX4_taxOfMonth_3 : decode cX4_taxOfMonth 3 = .ok (.istore 4, 2) := by decide +kernel
theorem dX4_taxOfMonth_5 : decode cX4_taxOfMonth 5 = .ok (.iload 4, 2) := by decide +kernel
theorem dX4_taxOfMonth_7 : decode cX4_taxOfMonth 7 = .ok (.aload_n 0, 1) := by decide +kernel
theorem dX4_taxOfMonth_8 : decode cX4_taxOfMonth 8 = .ok (.getfield 10, 3) := by decide +kernel
theorem dX4_taxOfMonth_11 : decode cX4_taxOfMonth 11 = .ok (.invokevirtual 54, 3) := by decide +kernel
theorem dX4_taxOfMonth_14 : decode cX4_taxOfMonth 14 = .ok (.if_icmp .ge 29, 3) := by decide +kernel
theorem dX4_taxOfMonth_17 : decode cX4_taxOfMonth 17 = .ok (.iload_n 3, 1) := by decide +kernel
theorem dX4_taxOfMonth_18 : decode cX4_taxOfMonth 18 = .ok (.aload_n 0, 1) := by decide +kernel
theorem dX4_taxOfMonth_19 : decode cX4_taxOfMonth 19 = .ok (.getfield 10, 3) := by decide +kernel
theorem dX4_taxOfMonth_22 : decode cX4_taxOfMonth 22 = .ok (.iload 4, 2) := by decide +kernel
theorem dX4_taxOfMonth_24 : decode cX4_taxOfMonth 24 = .ok (.invokevirtual 212, 3) := by decide +kernel
theorem dX4_taxOfMonth_27 : decode cX4_taxOfMonth 27 = .ok (.checkcast 65, 3) := by decide +kernel
theorem dX4_taxOfMonth_30 : decode cX4_taxOfMonth 30 = .ok (.iload_n 1, 1) := by decide +kernel
theorem dX4_taxOfMonth_31 : decode cX4_taxOfMonth 31 = .ok (.iload_n 2, 1) := by decide +kernel
theorem dX4_taxOfMonth_32 : decode cX4_taxOfMonth 32 = .ok (.invokevirtual 331, 3) := by decide +kernel
theorem dX4_taxOfMonth_35 : decode cX4_taxOfMonth 35 = .ok (.iadd, 1) := by decide +kernel
theorem dX4_taxOfMonth_36 : decode cX4_taxOfMonth 36 = .ok (.istore_n 3, 1) := by decide +kernel
theorem dX4_taxOfMonth_37 : decode cX4_taxOfMonth 37 = .ok (.iinc 4 1, 3) := by decide +kernel
theorem dX4_taxOfMonth_40 : decode cX4_taxOfMonth 40 = .ok (.goto (-35), 3) := by decide +kernel
theorem dX4_taxOfMonth_43 : decode cX4_taxOfMonth 43 = .ok (.iconst 0, 1) := by decide +kernel
theorem dX4_taxOfMonth_44 : decode cX4_taxOfMonth 44 = .ok (.istore 4, 2) := by decide +kernel
theorem dX4_taxOfMonth_46 : decode cX4_taxOfMonth 46 = .ok (.iload 4, 2) := by decide +kernel
theorem dX4_taxOfMonth_48 : decode cX4_taxOfMonth 48 = .ok (.aload_n 0, 1) := by decide +kernel
theorem dX4_taxOfMonth_49 : decode cX4_taxOfMonth 49 = .ok (.getfield 16, 3) := by decide +kernel
theorem dX4_taxOfMonth_52 : decode cX4_taxOfMonth 52 = .ok (.invokevirtual 54, 3) := by decide +kernel
theorem dX4_taxOfMonth_55 : decode cX4_taxOfMonth 55 = .ok (.if_icmp .ge 29, 3) := by decide +kernel
theorem dX4_taxOfMonth_58 : decode cX4_taxOfMonth 58 = .ok (.iload_n 3, 1) := by decide +kernel
theorem dX4_taxOfMonth_59 : decode cX4_taxOfMonth 59 = .ok (.aload_n 0, 1) := by decide +kernel
theorem dX4_taxOfMonth_60 : decode cX4_taxOfMonth 60 = .ok (.getfield 16, 3) := by decide +kernel
theorem dX4_taxOfMonth_63 : decode cX4_taxOfMonth 63 = .ok (.iload 4, 2) := by decide +kernel
theorem dX4_taxOfMonth_65 : decode cX4_taxOfMonth 65 = .ok (.invokevirtual 212, 3) := by decide +kernel
theorem dX4_taxOfMonth_68 : decode cX4_taxOfMonth 68 = .ok (.checkcast 310, 3) := by decide +kernel
theorem dX4_taxOfMonth_71 : decode cX4_taxOfMonth 71 = .ok (.iload_n 1, 1) := by decide +kernel
theorem dX4_taxOfMonth_72 : decode cX4_taxOfMonth 72 = .ok (.iload_n 2, 1) := by decide +kernel
theorem dX4_taxOfMonth_73 : decode cX4_taxOfMonth 73 = .ok (.invokevirtual 334, 3) := by decide +kernel
theorem dX4_taxOfMonth_76 : decode cX4_taxOfMonth 76 = .ok (.iadd, 1) := by decide +kernel
theorem dX4_taxOfMonth_77 : decode cX4_taxOfMonth 77 = .ok (.istore_n 3, 1) := by decide +kernel
theorem dX4_taxOfMonth_78 : decode cX4_taxOfMonth 78 = .ok (.iinc 4 1, 3) := by decide +kernel
theorem dX4_taxOfMonth_81 : decode cX4_taxOfMonth 81 = .ok (.goto (-35), 3) := by decide +kernel
theorem dX4_taxOfMonth_84 : decode cX4_taxOfMonth 84 = .ok (.iload_n 3, 1) := by decide +kernel
theorem dX4_taxOfMonth_85 : decode cX4_taxOfMonth 85 = .ok (.ireturn, 1) := by decide +kernel
theorem dX4_greatestTaxAhead_0 : decode cX4_greatestTaxAhead 0 = .ok (.iconst 0, 1) := by decide +kernel
theorem dX4_greatestTaxAhead_1 : decode cX4_greatestTaxAhead 1 = .ok (.istore_n 3, 1) := by decide +kernel
theorem dX4_greatestTaxAhead_2 : decode cX4_greatestTaxAhead 2 = .ok (.iconst 0, 1) := by decide +kernel
theorem dX4_greatestTaxAhead_3 : decode cX4_greatestTaxAhead 3 = .ok (.istore 4, 2) := by decide +kernel
theorem dX4_greatestTaxAhead_5 : decode cX4_greatestTaxAhead 5 = .ok (.iload 4, 2) := by decide +kernel
theorem dX4_greatestTaxAhead_7 : decode cX4_greatestTaxAhead 7 = .ok (.iload_n 1, 1) := by decide +kernel
theorem dX4_greatestTaxAhead_8 : decode cX4_greatestTaxAhead 8 = .ok (.if_icmp .ge 69, 3) := by decide +kernel
theorem dX4_greatestTaxAhead_11 : decode cX4_greatestTaxAhead 11 = .ok (.iload 4, 2) := by decide +kernel
theorem dX4_greatestTaxAhead_13 : decode cX4_greatestTaxAhead 13 = .ok (.aload_n 0, 1) := by decide +kernel
theorem dX4_greatestTaxAhead_14 : decode cX4_greatestTaxAhead 14 = .ok (.getfield 10, 3) := by decide +kernel
theorem dX4_greatestTaxAhead_17 : decode cX4_greatestTaxAhead 17 = .ok (.invokevirtual 54, 3) := by decide +kernel
theorem dX4_greatestTaxAhead_20 : decode cX4_greatestTaxAhead 20 = .ok (.if_icmp .ge 57, 3) := by decide +kernel
theorem dX4_greatestTaxAhead_23 : decode cX4_greatestTaxAhead 23 = .ok (.aload_n 0, 1) := by decide +kernel
theorem dX4_greatestTaxAhead_24 : decode cX4_greatestTaxAhead 24 = .ok (.getfield 10, 3) := by decide +kernel
theorem dX4_greatestTaxAhead_27 : decode cX4_greatestTaxAhead 27 = .ok (.iload 4, 2) := by decide +kernel
theorem dX4_greatestTaxAhead_29 : decode cX4_greatestTaxAhead 29 = .ok (.invokevirtual 212, 3) := by decide +kernel
theorem dX4_greatestTaxAhead_32 : decode cX4_greatestTaxAhead 32 = .ok (.checkcast 65, 3) := by decide +kernel
theorem dX4_greatestTaxAhead_35 : decode cX4_greatestTaxAhead 35 = .ok (.astore 5, 2) := by decide +kernel
theorem dX4_greatestTaxAhead_37 : decode cX4_greatestTaxAhead 37 = .ok (.aload 5, 2) := by decide +kernel
theorem dX4_greatestTaxAhead_39 : decode cX4_greatestTaxAhead 39 = .ok (.aload_n 2, 1) := by decide +kernel
theorem dX4_greatestTaxAhead_40 : decode cX4_greatestTaxAhead 40 = .ok (.getfield 335, 3) := by decide +kernel
theorem dX4_greatestTaxAhead_43 : decode cX4_greatestTaxAhead 43 = .ok (.invokevirtual 280, 3) := by decide +kernel
theorem dX4_greatestTaxAhead_46 : decode cX4_greatestTaxAhead 46 = .ok (.ifCond .eq 25, 3) := by decide +kernel
theorem dX4_greatestTaxAhead_49 : decode cX4_greatestTaxAhead 49 = .ok (.aload 5, 2) := by decide +kernel
theorem dX4_greatestTaxAhead_51 : decode cX4_greatestTaxAhead 51 = .ok (.getfield 151, 3) := by decide +kernel
theorem dX4_greatestTaxAhead_54 : decode cX4_greatestTaxAhead 54 = .ok (.aload_n 2, 1) := by decide +kernel
theorem dX4_greatestTaxAhead_55 : decode cX4_greatestTaxAhead 55 = .ok (.getfield 148, 3) := by decide +kernel
theorem dX4_greatestTaxAhead_58 : decode cX4_greatestTaxAhead 58 = .ok (.if_icmp .ne 13, 3) := by decide +kernel
theorem dX4_greatestTaxAhead_61 : decode cX4_greatestTaxAhead 61 = .ok (.iload_n 3, 1) := by decide +kernel
theorem dX4_greatestTaxAhead_62 : decode cX4_greatestTaxAhead 62 = .ok (.aload 5, 2) := by decide +kernel
theorem dX4_greatestTaxAhead_64 : decode cX4_greatestTaxAhead 64 = .ok (.invokevirtual 237, 3) := by decide +kernel
theorem dX4_greatestTaxAhead_67 : decode cX4_greatestTaxAhead 67 = .ok (.invokestatic 272, 3) := by decide +kernel
theorem dX4_greatestTaxAhead_70 : decode cX4_greatestTaxAhead 70 = .ok (.istore_n 3, 1) := by decide +kernel
theorem dX4_greatestTaxAhead_71 : decode cX4_greatestTaxAhead 71 = .ok (.iinc 4 1, 3) := by decide +kernel
theorem dX4_greatestTaxAhead_74 : decode cX4_greatestTaxAhead 74 = .ok (.goto (-69), 3) := by decide +kernel
theorem dX4_greatestTaxAhead_77 : decode cX4_greatestTaxAhead 77 = .ok (.iload_n 3, 1) := by decide +kernel
theorem dX4_greatestTaxAhead_78 : decode cX4_greatestTaxAhead 78 = .ok (.ireturn, 1) := by decide +kernel
theorem dX4_isDigit_0 : decode cX4_isDigit 0 = .ok (.iload_n 0, 1) := by decide +kernel
theorem dX4_isDigit_1 : decode cX4_isDigit 1 = .ok (.bipush 48, 2) := by decide +kernel
theorem dX4_isDigit_3 : decode cX4_isDigit 3 = .ok (.if_icmp .lt 13, 3) := by decide +kernel
theorem dX4_isDigit_6 : decode cX4_isDigit 6 = .ok (.iload_n 0, 1) := by decide +kernel
theorem dX4_isDigit_7 : decode cX4_isDigit 7 = .ok (.bipush 57, 2) := by decide +kernel
theorem dX4_isDigit_9 : decode cX4_isDigit 9 = .ok (.if_icmp .gt 7, 3) := by decide +kernel
theorem dX4_isDigit_12 : decode cX4_isDigit 12 = .ok (.iconst 1, 1) := by decide +kernel
theorem dX4_isDigit_13 : decode cX4_isDigit 13 = .ok (.goto 4, 3) := by decide +kernel
theorem dX4_isDigit_16 : decode cX4_isDigit 16 = .ok (.iconst 0, 1) := by decide +kernel
theorem dX4_isDigit_17 : decode cX4_isDigit 17 = .ok (.ireturn, 1) := by decide +kernel
theorem dX4_monthOf_0 : decode cX4_monthOf 0 = .ok (.iload_n 0, 1) := by decide +kernel
theorem dX4_monthOf_1 : decode cX4_monthOf 1 = .ok (.bipush 30, 2) := by decide +kernel
theorem dX4_monthOf_3 : decode cX4_monthOf 3 = .ok (.idiv, 1) := by decide +kernel
theorem dX4_monthOf_4 : decode cX4_monthOf 4 = .ok (.ireturn, 1) := by decide +kernel
theorem dX4_taxOf_0 : decode cX4_taxOf 0 = .ok (.iload_n 0, 1) := by decide +kernel
theorem dX4_taxOf_1 : decode cX4_taxOf 1 = .ok (.iload_n 1, 1) := by decide +kernel
theorem dX4_taxOf_2 : decode cX4_taxOf 2 = .ok (.imul, 1) := by decide +kernel
theorem dX4_taxOf_3 : decode cX4_taxOf 3 = .ok (.bipush 100, 2) := by decide +kernel
theorem dX4_taxOf_5 : decode cX4_taxOf 5 = .ok (.idiv, 1) := by decide +kernel
theorem dX4_taxOf_6 : decode cX4_taxOf 6 = .ok (.ireturn, 1) := by decide +kernel
