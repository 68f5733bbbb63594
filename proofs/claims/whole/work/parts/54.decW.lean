theorem dL_send_0 : decode cL_send 0 = .ok (.aload 6, 2) := by decide +kernel
theorem dL_send_2 : decode cL_send 2 = .ok (.iconst 0, 1) := by decide +kernel
theorem dL_send_3 : decode cL_send 3 = .ok (.aload_n 0, 1) := by decide +kernel
theorem dL_send_4 : decode cL_send 4 = .ok (.iload_n 1, 1) := by decide +kernel
theorem dL_send_5 : decode cL_send 5 = .ok (.iload_n 2, 1) := by decide +kernel
theorem dL_send_6 : decode cL_send 6 = .ok (.iload_n 3, 1) := by decide +kernel
theorem dL_send_7 : decode cL_send 7 = .ok (.iload 4, 2) := by decide +kernel
theorem dL_send_9 : decode cL_send 9 = .ok (.iload 5, 2) := by decide +kernel
theorem dL_send_11 : decode cL_send 11 = .ok (.invokevirtual 7, 3) := by decide +kernel
theorem dL_send_14 : decode cL_send 14 = .ok (.i2l, 1) := by decide +kernel
theorem dL_send_15 : decode cL_send 15 = .ok (.lastore, 1) := by decide +kernel
theorem dL_send_16 : decode cL_send 16 = .ok (.goto 15, 3) := by decide +kernel
theorem dL_send_19 : decode cL_send 19 = .ok (.astore 7, 2) := by decide +kernel
theorem dL_send_21 : decode cL_send 21 = .ok (.iconst 1, 1) := by decide +kernel
theorem dL_send_22 : decode cL_send 22 = .ok (.ireturn, 1) := by decide +kernel
theorem dL_send_23 : decode cL_send 23 = .ok (.astore 7, 2) := by decide +kernel
theorem dL_send_25 : decode cL_send 25 = .ok (.iconst 2, 1) := by decide +kernel
theorem dL_send_26 : decode cL_send 26 = .ok (.ireturn, 1) := by decide +kernel
theorem dL_send_27 : decode cL_send 27 = .ok (.astore 7, 2) := by decide +kernel
theorem dL_send_29 : decode cL_send 29 = .ok (.iconst 3, 1) := by decide +kernel
theorem dL_send_30 : decode cL_send 30 = .ok (.ireturn, 1) := by decide +kernel
theorem dL_send_31 : decode cL_send 31 = .ok (.iconst 0, 1) := by decide +kernel
theorem dL_send_32 : decode cL_send 32 = .ok (.ireturn, 1) := by decide +kernel
theorem dL_addLine_0 : decode cL_addLine 0 = .ok (.aload 4, 2) := by decide +kernel
theorem dL_addLine_2 : decode cL_addLine 2 = .ok (.iconst 0, 1) := by decide +kernel
theorem dL_addLine_3 : decode cL_addLine 3 = .ok (.aload_n 0, 1) := by decide +kernel
theorem dL_addLine_4 : decode cL_addLine 4 = .ok (.iload_n 1, 1) := by decide +kernel
theorem dL_addLine_5 : decode cL_addLine 5 = .ok (.iload_n 2, 1) := by decide +kernel
theorem dL_addLine_6 : decode cL_addLine 6 = .ok (.iload_n 3, 1) := by decide +kernel
theorem dL_addLine_7 : decode cL_addLine 7 = .ok (.invokevirtual 19, 3) := by decide +kernel
theorem dL_addLine_10 : decode cL_addLine 10 = .ok (.i2l, 1) := by decide +kernel
theorem dL_addLine_11 : decode cL_addLine 11 = .ok (.lastore, 1) := by decide +kernel
theorem dL_addLine_12 : decode cL_addLine 12 = .ok (.goto 15, 3) := by decide +kernel
theorem dL_addLine_15 : decode cL_addLine 15 = .ok (.astore 5, 2) := by decide +kernel
theorem dL_addLine_17 : decode cL_addLine 17 = .ok (.iconst 1, 1) := by decide +kernel
theorem dL_addLine_18 : decode cL_addLine 18 = .ok (.ireturn, 1) := by decide +kernel
theorem dL_addLine_19 : decode cL_addLine 19 = .ok (.astore 5, 2) := by decide +kernel
theorem dL_addLine_21 : decode cL_addLine 21 = .ok (.iconst 2, 1) := by decide +kernel
theorem dL_addLine_22 : decode cL_addLine 22 = .ok (.ireturn, 1) := by decide +kernel
theorem dL_addLine_23 : decode cL_addLine 23 = .ok (.astore 5, 2) := by decide +kernel
theorem dL_addLine_25 : decode cL_addLine 25 = .ok (.iconst 3, 1) := by decide +kernel
theorem dL_addLine_26 : decode cL_addLine 26 = .ok (.ireturn, 1) := by decide +kernel
theorem dL_addLine_27 : decode cL_addLine 27 = .ok (.iconst 0, 1) := by decide +kernel
theorem dL_addLine_28 : decode cL_addLine 28 = .ok (.ireturn, 1) := by decide +kernel
theorem dL_accept_0 : decode cL_accept 0 = .ok (.aload_n 2, 1) := by decide +kernel
theorem dL_accept_1 : decode cL_accept 1 = .ok (.iconst 0, 1) := by decide +kernel
theorem dL_accept_2 : decode cL_accept 2 = .ok (.aload_n 0, 1) := by decide +kernel
theorem dL_accept_3 : decode cL_accept 3 = .ok (.iload_n 1, 1) := by decide +kernel
theorem dL_accept_4 : decode cL_accept 4 = .ok (.invokevirtual 23, 3) := by decide +kernel
theorem dL_accept_7 : decode cL_accept 7 = .ok (.i2l, 1) := by decide +kernel
theorem dL_accept_8 : decode cL_accept 8 = .ok (.lastore, 1) := by decide +kernel
theorem dL_accept_9 : decode cL_accept 9 = .ok (.goto 9, 3) := by decide +kernel
theorem dL_accept_12 : decode cL_accept 12 = .ok (.astore_n 3, 1) := by decide +kernel
theorem dL_accept_13 : decode cL_accept 13 = .ok (.iconst 1, 1) := by decide +kernel
theorem dL_accept_14 : decode cL_accept 14 = .ok (.ireturn, 1) := by decide +kernel
theorem dL_accept_15 : decode cL_accept 15 = .ok (.astore_n 3, 1) := by decide +kernel
theorem dL_accept_16 : decode cL_accept 16 = .ok (.iconst 2, 1) := by decide +kernel
theorem dL_accept_17 : decode cL_accept 17 = .ok (.ireturn, 1) := by decide +kernel
theorem dL_accept_18 : decode cL_accept 18 = .ok (.iconst 0, 1) := by decide +kernel
theorem dL_accept_19 : decode cL_accept 19 = .ok (.ireturn, 1) := by decide +kernel
theorem dL_refuse_0 : decode cL_refuse 0 = .ok (.aload_n 2, 1) := by decide +kernel
theorem dL_refuse_1 : decode cL_refuse 1 = .ok (.iconst 0, 1) := by decide +kernel
theorem dL_refuse_2 : decode cL_refuse 2 = .ok (.aload_n 0, 1) := by decide +kernel
theorem dL_refuse_3 : decode cL_refuse 3 = .ok (.iload_n 1, 1) := by decide +kernel
theorem dL_refuse_4 : decode cL_refuse 4 = .ok (.invokevirtual 27, 3) := by decide +kernel
theorem dL_refuse_7 : decode cL_refuse 7 = .ok (.i2l, 1) := by decide +kernel
theorem dL_refuse_8 : decode cL_refuse 8 = .ok (.lastore, 1) := by decide +kernel
theorem dL_refuse_9 : decode cL_refuse 9 = .ok (.goto 9, 3) := by decide +kernel
theorem dL_refuse_12 : decode cL_refuse 12 = .ok (.astore_n 3, 1) := by decide +kernel
theorem dL_refuse_13 : decode cL_refuse 13 = .ok (.iconst 1, 1) := by decide +kernel
theorem dL_refuse_14 : decode cL_refuse 14 = .ok (.ireturn, 1) := by decide +kernel
theorem dL_refuse_15 : decode cL_refuse 15 = .ok (.astore_n 3, 1) := by decide +kernel
theorem dL_refuse_16 : decode cL_refuse 16 = .ok (.iconst 2, 1) := by decide +kernel
theorem dL_refuse_17 : decode cL_refuse 17 = .ok (.ireturn, 1) := by decide +kernel
theorem dL_refuse_18 : decode cL_refuse 18 = .ok (.iconst 0, 1) := by decide +kernel
theorem dL_refuse_19 : decode cL_refuse 19 = .ok (.ireturn, 1) := by decide +kernel
theorem dL_credit_0 : decode cL_credit 0 = .ok (.aload 4, 2) := by decide +kernel
theorem dL_credit_2 : decode cL_credit 2 = .ok (.iconst 0, 1) := by decide +kernel
theorem dL_credit_3 : decode cL_credit 3 = .ok (.aload_n 0, 1) := by decide +kernel
theorem dL_credit_4 : decode cL_credit 4 = .ok (.iload_n 1, 1) := by decide +kernel
theorem dL_credit_5 : decode cL_credit 5 = .ok (.iload_n 2, 1) := by decide +kernel
theorem dL_credit_6 : decode cL_credit 6 = .ok (.iload_n 3, 1) := by decide +kernel
theorem dL_credit_7 : decode cL_credit 7 = .ok (.invokevirtual 30, 3) := by decide +kernel
theorem dL_credit_10 : decode cL_credit 10 = .ok (.i2l, 1) := by decide +kernel
theorem dL_credit_11 : decode cL_credit 11 = .ok (.lastore, 1) := by decide +kernel
theorem dL_credit_12 : decode cL_credit 12 = .ok (.goto 15, 3) := by decide +kernel
theorem dL_credit_15 : decode cL_credit 15 = .ok (.astore 5, 2) := by decide +kernel
theorem dL_credit_17 : decode cL_credit 17 = .ok (.iconst 1, 1) := by decide +kernel
theorem dL_credit_18 : decode cL_credit 18 = .ok (.ireturn, 1) := by decide +kernel
theorem dL_credit_19 : decode cL_credit 19 = .ok (.astore 5, 2) := by decide +kernel
theorem dL_credit_21 : decode cL_credit 21 = .ok (.iconst 2, 1) := by decide +kernel
theorem dL_credit_22 : decode cL_credit 22 = .ok (.ireturn, 1) := by decide +kernel
theorem dL_credit_23 : decode cL_credit 23 = .ok (.astore 5, 2) := by decide +kernel
theorem dL_credit_25 : decode cL_credit 25 = .ok (.iconst 3, 1) := by decide +kernel
theorem dL_credit_26 : decode cL_credit 26 = .ok (.ireturn, 1) := by decide +kernel
theorem dL_credit_27 : decode cL_credit 27 = .ok (.iconst 0, 1) := by decide +kernel
theorem dL_credit_28 : decode cL_credit 28 = .ok (.ireturn, 1) := by decide +kernel
theorem dL_dispute_0 : decode cL_dispute 0 = .ok (.aload_n 3, 1) := by decide +kernel
theorem dL_dispute_1 : decode cL_dispute 1 = .ok (.iconst 0, 1) := by decide +kernel
theorem dL_dispute_2 : decode cL_dispute 2 = .ok (.aload_n 0, 1) := by decide +kernel
theorem dL_dispute_3 : decode cL_dispute 3 = .ok (.iload_n 1, 1) := by decide +kernel
theorem dL_dispute_4 : decode cL_dispute 4 = .ok (.iload_n 2, 1) := by decide +kernel
theorem dL_dispute_5 : decode cL_dispute 5 = .ok (.invokevirtual 33, 3) := by decide +kernel
theorem dL_dispute_8 : decode cL_dispute 8 = .ok (.i2l, 1) := by decide +kernel
theorem dL_dispute_9 : decode cL_dispute 9 = .ok (.lastore, 1) := by decide +kernel
theorem dL_dispute_10 : decode cL_dispute 10 = .ok (.goto 11, 3) := by decide +kernel
theorem dL_dispute_13 : decode cL_dispute 13 = .ok (.astore 4, 2) := by decide +kernel
theorem dL_dispute_15 : decode cL_dispute 15 = .ok (.iconst 1, 1) := by decide +kernel
theorem dL_dispute_16 : decode cL_dispute 16 = .ok (.ireturn, 1) := by decide +kernel
theorem dL_dispute_17 : decode cL_dispute 17 = .ok (.astore 4, 2) := by decide +kernel
theorem dL_dispute_19 : decode cL_dispute 19 = .ok (.iconst 2, 1) := by decide +kernel
theorem dL_dispute_20 : decode cL_dispute 20 = .ok (.ireturn, 1) := by decide +kernel
theorem dL_dispute_21 : decode cL_dispute 21 = .ok (.iconst 0, 1) := by decide +kernel
theorem dL_dispute_22 : decode cL_dispute 22 = .ok (.ireturn, 1) := by decide +kernel
theorem dL_settle_0 : decode cL_settle 0 = .ok (.aload 4, 2) := by decide +kernel
theorem dL_settle_2 : decode cL_settle 2 = .ok (.iconst 0, 1) := by decide +kernel
theorem dL_settle_3 : decode cL_settle 3 = .ok (.aload_n 0, 1) := by decide +kernel
theorem dL_settle_4 : decode cL_settle 4 = .ok (.iload_n 1, 1) := by decide +kernel
theorem dL_settle_5 : decode cL_settle 5 = .ok (.iload_n 2, 1) := by decide +kernel
theorem dL_settle_6 : decode cL_settle 6 = .ok (.iload_n 3, 1) := by decide +kernel
theorem dL_settle_7 : decode cL_settle 7 = .ok (.invokevirtual 37, 3) := by decide +kernel
theorem dL_settle_10 : decode cL_settle 10 = .ok (.i2l, 1) := by decide +kernel
theorem dL_settle_11 : decode cL_settle 11 = .ok (.lastore, 1) := by decide +kernel
theorem dL_settle_12 : decode cL_settle 12 = .ok (.goto 11, 3) := by decide +kernel
theorem dL_settle_15 : decode cL_settle 15 = .ok (.astore 5, 2) := by decide +kernel
theorem dL_settle_17 : decode cL_settle 17 = .ok (.iconst 1, 1) := by decide +kernel
theorem dL_settle_18 : decode cL_settle 18 = .ok (.ireturn, 1) := by decide +kernel
theorem dL_settle_19 : decode cL_settle 19 = .ok (.astore 5, 2) := by decide +kernel
theorem dL_settle_21 : decode cL_settle 21 = .ok (.iconst 2, 1) := by decide +kernel
theorem dL_settle_22 : decode cL_settle 22 = .ok (.ireturn, 1) := by decide +kernel
theorem dL_settle_23 : decode cL_settle 23 = .ok (.iconst 0, 1) := by decide +kernel
theorem dL_settle_24 : decode cL_settle 24 = .ok (.ireturn, 1) := by decide +kernel
theorem dL_sell_0 : decode cL_sell 0 = .ok (.aload 5, 2) := by decide +kernel
theorem dL_sell_2 : decode cL_sell 2 = .ok (.iconst 0, 1) := by decide +kernel
theorem dL_sell_3 : decode cL_sell 3 = .ok (.aload_n 0, 1) := by decide +kernel
theorem dL_sell_4 : decode cL_sell 4 = .ok (.iload_n 1, 1) := by decide +kernel
theorem dL_sell_5 : decode cL_sell 5 = .ok (.iload_n 2, 1) := by decide +kernel
theorem dL_sell_6 : decode cL_sell 6 = .ok (.iload_n 3, 1) := by decide +kernel
theorem dL_sell_7 : decode cL_sell 7 = .ok (.iload 4, 2) := by decide +kernel
theorem dL_sell_9 : decode cL_sell 9 = .ok (.invokevirtual 41, 3) := by decide +kernel
theorem dL_sell_12 : decode cL_sell 12 = .ok (.i2l, 1) := by decide +kernel
theorem dL_sell_13 : decode cL_sell 13 = .ok (.lastore, 1) := by decide +kernel
theorem dL_sell_14 : decode cL_sell 14 = .ok (.goto 15, 3) := by decide +kernel
theorem dL_sell_17 : decode cL_sell 17 = .ok (.astore 6, 2) := by decide +kernel
theorem dL_sell_19 : decode cL_sell 19 = .ok (.iconst 1, 1) := by decide +kernel
theorem dL_sell_20 : decode cL_sell 20 = .ok (.ireturn, 1) := by decide +kernel
theorem dL_sell_21 : decode cL_sell 21 = .ok (.astore 6, 2) := by decide +kernel
theorem dL_sell_23 : decode cL_sell 23 = .ok (.iconst 2, 1) := by decide +kernel
theorem dL_sell_24 : decode cL_sell 24 = .ok (.ireturn, 1) := by decide +kernel
theorem dL_sell_25 : decode cL_sell 25 = .ok (.astore 6, 2) := by decide +kernel
theorem dL_sell_27 : decode cL_sell 27 = .ok (.iconst 3, 1) := by decide +kernel
theorem dL_sell_28 : decode cL_sell 28 = .ok (.ireturn, 1) := by decide +kernel
theorem dL_sell_29 : decode cL_sell 29 = .ok (.iconst 0, 1) := by decide +kernel
theorem dL_sell_30 : decode cL_sell 30 = .ok (.ireturn, 1) := by decide +kernel
theorem dL_giveBack_0 : decode cL_giveBack 0 = .ok (.aload_n 2, 1) := by decide +kernel
theorem dL_giveBack_1 : decode cL_giveBack 1 = .ok (.iconst 0, 1) := by decide +kernel
theorem dL_giveBack_2 : decode cL_giveBack 2 = .ok (.aload_n 0, 1) := by decide +kernel
theorem dL_giveBack_3 : decode cL_giveBack 3 = .ok (.iload_n 1, 1) := by decide +kernel
theorem dL_giveBack_4 : decode cL_giveBack 4 = .ok (.invokevirtual 45, 3) := by decide +kernel
theorem dL_giveBack_7 : decode cL_giveBack 7 = .ok (.i2l, 1) := by decide +kernel
theorem dL_giveBack_8 : decode cL_giveBack 8 = .ok (.lastore, 1) := by decide +kernel
theorem dL_giveBack_9 : decode cL_giveBack 9 = .ok (.goto 9, 3) := by decide +kernel
theorem dL_giveBack_12 : decode cL_giveBack 12 = .ok (.astore_n 3, 1) := by decide +kernel
theorem dL_giveBack_13 : decode cL_giveBack 13 = .ok (.iconst 1, 1) := by decide +kernel
theorem dL_giveBack_14 : decode cL_giveBack 14 = .ok (.ireturn, 1) := by decide +kernel
theorem dL_giveBack_15 : decode cL_giveBack 15 = .ok (.astore_n 3, 1) := by decide +kernel
theorem dL_giveBack_16 : decode cL_giveBack 16 = .ok (.iconst 2, 1) := by decide +kernel
theorem dL_giveBack_17 : decode cL_giveBack 17 = .ok (.ireturn, 1) := by decide +kernel
theorem dL_giveBack_18 : decode cL_giveBack 18 = .ok (.iconst 0, 1) := by decide +kernel
theorem dL_giveBack_19 : decode cL_giveBack 19 = .ok (.ireturn, 1) := by decide +kernel
theorem dL_type_0 : decode cL_type 0 = .ok (.aload_n 2, 1) := by decide +kernel
theorem dL_type_1 : decode cL_type 1 = .ok (.iconst 0, 1) := by decide +kernel
theorem dL_type_2 : decode cL_type 2 = .ok (.aload_n 0, 1) := by decide +kernel
theorem dL_type_3 : decode cL_type 3 = .ok (.iload_n 1, 1) := by decide +kernel
theorem dL_type_4 : decode cL_type 4 = .ok (.invokevirtual 48, 3) := by decide +kernel
theorem dL_type_7 : decode cL_type 7 = .ok (.i2l, 1) := by decide +kernel
theorem dL_type_8 : decode cL_type 8 = .ok (.lastore, 1) := by decide +kernel
theorem dL_type_9 : decode cL_type 9 = .ok (.goto 9, 3) := by decide +kernel
theorem dL_type_12 : decode cL_type 12 = .ok (.astore_n 3, 1) := by decide +kernel
theorem dL_type_13 : decode cL_type 13 = .ok (.iconst 1, 1) := by decide +kernel
theorem dL_type_14 : decode cL_type 14 = .ok (.ireturn, 1) := by decide +kernel
theorem dL_type_15 : decode cL_type 15 = .ok (.astore_n 3, 1) := by decide +kernel
theorem dL_type_16 : decode cL_type 16 = .ok (.iconst 2, 1) := by decide +kernel
theorem dL_type_17 : decode cL_type 17 = .ok (.ireturn, 1) := by decide +kernel
theorem dL_type_18 : decode cL_type 18 = .ok (.iconst 0, 1) := by decide +kernel
theorem dL_type_19 : decode cL_type 19 = .ok (.ireturn, 1) := by decide +kernel
theorem dL_payByText_0 : decode cL_payByText 0 = .ok (.aload 4, 2) := by decide +kernel
theorem dL_payByText_2 : decode cL_payByText 2 = .ok (.iconst 0, 1) := by decide +kernel
theorem dL_payByText_3 : decode cL_payByText 3 = .ok (.aload_n 0, 1) := by decide +kernel
theorem dL_payByText_4 : decode cL_payByText 4 = .ok (.iload_n 1, 1) := by decide +kernel
theorem dL_payByText_5 : decode cL_payByText 5 = .ok (.iload_n 2, 1) := by decide +kernel
theorem dL_payByText_6 : decode cL_payByText 6 = .ok (.iload_n 3, 1) := by decide +kernel
theorem dL_payByText_7 : decode cL_payByText 7 = .ok (.invokevirtual 51, 3) := by decide +kernel
theorem dL_payByText_10 : decode cL_payByText 10 = .ok (.i2l, 1) := by decide +kernel
theorem dL_payByText_11 : decode cL_payByText 11 = .ok (.lastore, 1) := by decide +kernel
theorem dL_payByText_12 : decode cL_payByText 12 = .ok (.goto 15, 3) := by decide +kernel
theorem dL_payByText_15 : decode cL_payByText 15 = .ok (.astore 5, 2) := by decide +kernel
theorem dL_payByText_17 : decode cL_payByText 17 = .ok (.iconst 1, 1) := by decide +kernel
theorem dL_payByText_18 : decode cL_payByText 18 = .ok (.ireturn, 1) := by decide +kernel
theorem dL_payByText_19 : decode cL_payByText 19 = .ok (.astore 5, 2) := by decide +kernel
theorem dL_payByText_21 : decode cL_payByText 21 = .ok (.iconst 2, 1) := by decide +kernel
theorem dL_payByText_22 : decode cL_payByText 22 = .ok (.ireturn, 1) := by decide +kernel
theorem dL_payByText_23 : decode cL_payByText 23 = .ok (.astore 5, 2) := by decide +kernel
theorem dL_payByText_25 : decode cL_payByText 25 = .ok (.iconst 3, 1) := by decide +kernel
theorem dL_payByText_26 : decode cL_payByText 26 = .ok (.ireturn, 1) := by decide +kernel
theorem dL_payByText_27 : decode cL_payByText 27 = .ok (.iconst 0, 1) := by decide +kernel
theorem dL_payByText_28 : decode cL_payByText 28 = .ok (.ireturn, 1) := by decide +kernel
theorem dL_payBySum_0 : decode cL_payBySum 0 = .ok (.aload 4, 2) := by decide +kernel
theorem dL_payBySum_2 : decode cL_payBySum 2 = .ok (.iconst 0, 1) := by decide +kernel
theorem dL_payBySum_3 : decode cL_payBySum 3 = .ok (.aload_n 0, 1) := by decide +kernel
theorem dL_payBySum_4 : decode cL_payBySum 4 = .ok (.iload_n 1, 1) := by decide +kernel
theorem dL_payBySum_5 : decode cL_payBySum 5 = .ok (.iload_n 2, 1) := by decide +kernel
theorem dL_payBySum_6 : decode cL_payBySum 6 = .ok (.iload_n 3, 1) := by decide +kernel
theorem dL_payBySum_7 : decode cL_payBySum 7 = .ok (.invokevirtual 54, 3) := by decide +kernel
theorem dL_payBySum_10 : decode cL_payBySum 10 = .ok (.i2l, 1) := by decide +kernel
theorem dL_payBySum_11 : decode cL_payBySum 11 = .ok (.lastore, 1) := by decide +kernel
theorem dL_payBySum_12 : decode cL_payBySum 12 = .ok (.goto 15, 3) := by decide +kernel
theorem dL_payBySum_15 : decode cL_payBySum 15 = .ok (.astore 5, 2) := by decide +kernel
theorem dL_payBySum_17 : decode cL_payBySum 17 = .ok (.iconst 1, 1) := by decide +kernel
theorem dL_payBySum_18 : decode cL_payBySum 18 = .ok (.ireturn, 1) := by decide +kernel
theorem dL_payBySum_19 : decode cL_payBySum 19 = .ok (.astore 5, 2) := by decide +kernel
theorem dL_payBySum_21 : decode cL_payBySum 21 = .ok (.iconst 2, 1) := by decide +kernel
theorem dL_payBySum_22 : decode cL_payBySum 22 = .ok (.ireturn, 1) := by decide +kernel
theorem dL_payBySum_23 : decode cL_payBySum 23 = .ok (.astore 5, 2) := by decide +kernel
theorem dL_payBySum_25 : decode cL_payBySum 25 = .ok (.iconst 3, 1) := by decide +kernel
theorem dL_payBySum_26 : decode cL_payBySum 26 = .ok (.ireturn, 1) := by decide +kernel
theorem dL_payBySum_27 : decode cL_payBySum 27 = .ok (.iconst 0, 1) := by decide +kernel
theorem dL_payBySum_28 : decode cL_payBySum 28 = .ok (.ireturn, 1) := by decide +kernel
theorem dL_pass_0 : decode cL_pass 0 = .ok (.aload_n 2, 1) := by decide +kernel
theorem dL_pass_1 : decode cL_pass 1 = .ok (.iconst 0, 1) := by decide +kernel
theorem dL_pass_2 : decode cL_pass 2 = .ok (.aload_n 0, 1) := by decide +kernel
theorem dL_pass_3 : decode cL_pass 3 = .ok (.iload_n 1, 1) := by decide +kernel
theorem dL_pass_4 : decode cL_pass 4 = .ok (.invokevirtual 57, 3) := by decide +kernel
theorem dL_pass_7 : decode cL_pass 7 = .ok (.i2l, 1) := by decide +kernel
theorem dL_pass_8 : decode cL_pass 8 = .ok (.lastore, 1) := by decide +kernel
theorem dL_pass_9 : decode cL_pass 9 = .ok (.goto 9, 3) := by decide +kernel
theorem dL_pass_12 : decode cL_pass 12 = .ok (.astore_n 3, 1) := by decide +kernel
theorem dL_pass_13 : decode cL_pass 13 = .ok (.iconst 1, 1) := by decide +kernel
theorem dL_pass_14 : decode cL_pass 14 = .ok (.ireturn, 1) := by decide +kernel
theorem dL_pass_15 : decode cL_pass 15 = .ok (.astore_n 3, 1) := by decide +kernel
theorem dL_pass_16 : decode cL_pass 16 = .ok (.iconst 2, 1) := by decide +kernel
theorem dL_pass_17 : decode cL_pass 17 = .ok (.ireturn, 1) := by decide +kernel
theorem dL_pass_18 : decode cL_pass 18 = .ok (.iconst 0, 1) := by decide +kernel
theorem dL_pass_19 : decode cL_pass 19 = .ok (.ireturn, 1) := by decide +kernel
theorem dL_about_0 : decode cL_about 0 = .ok (.aload_n 3, 1) := by decide +kernel
theorem dL_about_1 : decode cL_about 1 = .ok (.iconst 0, 1) := by decide +kernel
theorem dL_about_2 : decode cL_about 2 = .ok (.aload_n 0, 1) := by decide +kernel
theorem dL_about_3 : decode cL_about 3 = .ok (.iload_n 1, 1) := by decide +kernel
theorem dL_about_4 : decode cL_about 4 = .ok (.iload_n 2, 1) := by decide +kernel
theorem dL_about_5 : decode cL_about 5 = .ok (.invokevirtual 60, 3) := by decide +kernel
theorem dL_about_8 : decode cL_about 8 = .ok (.i2l, 1) := by decide +kernel
theorem dL_about_9 : decode cL_about 9 = .ok (.lastore, 1) := by decide +kernel
theorem dL_about_10 : decode cL_about 10 = .ok (.goto 11, 3) := by decide +kernel
theorem dL_about_13 : decode cL_about 13 = .ok (.astore 4, 2) := by decide +kernel
theorem dL_about_15 : decode cL_about 15 = .ok (.iconst 1, 1) := by decide +kernel
theorem dL_about_16 : decode cL_about 16 = .ok (.ireturn, 1) := by decide +kernel
theorem dL_about_17 : decode cL_about 17 = .ok (.astore 4, 2) := by decide +kernel
theorem dL_about_19 : decode cL_about 19 = .ok (.iconst 2, 1) := by decide +kernel
theorem dL_about_20 : decode cL_about 20 = .ok (.ireturn, 1) := by decide +kernel
theorem dL_about_21 : decode cL_about 21 = .ok (.iconst 0, 1) := by decide +kernel
theorem dL_about_22 : decode cL_about 22 = .ok (.ireturn, 1) := by decide +kernel
theorem dL_lineOf_0 : decode cL_lineOf 0 = .ok (.aload 4, 2) := by decide +kernel
theorem dL_lineOf_2 : decode cL_lineOf 2 = .ok (.iconst 0, 1) := by decide +kernel
theorem dL_lineOf_3 : decode cL_lineOf 3 = .ok (.aload_n 0, 1) := by decide +kernel
theorem dL_lineOf_4 : decode cL_lineOf 4 = .ok (.iload_n 1, 1) := by decide +kernel
theorem dL_lineOf_5 : decode cL_lineOf 5 = .ok (.iload_n 2, 1) := by decide +kernel
theorem dL_lineOf_6 : decode cL_lineOf 6 = .ok (.iload_n 3, 1) := by decide +kernel
theorem dL_lineOf_7 : decode cL_lineOf 7 = .ok (.invokevirtual 63, 3) := by decide +kernel
theorem dL_lineOf_10 : decode cL_lineOf 10 = .ok (.i2l, 1) := by decide +kernel
theorem dL_lineOf_11 : decode cL_lineOf 11 = .ok (.lastore, 1) := by decide +kernel
theorem dL_lineOf_12 : decode cL_lineOf 12 = .ok (.goto 11, 3) := by decide +kernel
theorem dL_lineOf_15 : decode cL_lineOf 15 = .ok (.astore 5, 2) := by decide +kernel
theorem dL_lineOf_17 : decode cL_lineOf 17 = .ok (.iconst 1, 1) := by decide +kernel
theorem dL_lineOf_18 : decode cL_lineOf 18 = .ok (.ireturn, 1) := by decide +kernel
theorem dL_lineOf_19 : decode cL_lineOf 19 = .ok (.astore 5, 2) := by decide +kernel
theorem dL_lineOf_21 : decode cL_lineOf 21 = .ok (.iconst 2, 1) := by decide +kernel
theorem dL_lineOf_22 : decode cL_lineOf 22 = .ok (.ireturn, 1) := by decide +kernel
theorem dL_lineOf_23 : decode cL_lineOf 23 = .ok (.iconst 0, 1) := by decide +kernel
theorem dL_lineOf_24 : decode cL_lineOf 24 = .ok (.ireturn, 1) := by decide +kernel
theorem dL_cash_0 : decode cL_cash 0 = .ok (.aload_n 2, 1) := by decide +kernel
theorem dL_cash_1 : decode cL_cash 1 = .ok (.iconst 0, 1) := by decide +kernel
theorem dL_cash_2 : decode cL_cash 2 = .ok (.aload_n 0, 1) := by decide +kernel
theorem dL_cash_3 : decode cL_cash 3 = .ok (.iload_n 1, 1) := by decide +kernel
theorem dL_cash_4 : decode cL_cash 4 = .ok (.invokevirtual 66, 3) := by decide +kernel
theorem dL_cash_7 : decode cL_cash 7 = .ok (.i2l, 1) := by decide +kernel
theorem dL_cash_8 : decode cL_cash 8 = .ok (.lastore, 1) := by decide +kernel
theorem dL_cash_9 : decode cL_cash 9 = .ok (.goto 6, 3) := by decide +kernel
theorem dL_cash_12 : decode cL_cash 12 = .ok (.astore_n 3, 1) := by decide +kernel
theorem dL_cash_13 : decode cL_cash 13 = .ok (.iconst 1, 1) := by decide +kernel
theorem dL_cash_14 : decode cL_cash 14 = .ok (.ireturn, 1) := by decide +kernel
theorem dL_cash_15 : decode cL_cash 15 = .ok (.iconst 0, 1) := by decide +kernel
theorem dL_cash_16 : decode cL_cash 16 = .ok (.ireturn, 1) := by decide +kernel
theorem dL_cashAnew_0 : decode cL_cashAnew 0 = .ok (.aload_n 2, 1) := by decide +kernel
theorem dL_cashAnew_1 : decode cL_cashAnew 1 = .ok (.iconst 0, 1) := by decide +kernel
theorem dL_cashAnew_2 : decode cL_cashAnew 2 = .ok (.aload_n 0, 1) := by decide +kernel
theorem dL_cashAnew_3 : decode cL_cashAnew 3 = .ok (.iload_n 1, 1) := by decide +kernel
theorem dL_cashAnew_4 : decode cL_cashAnew 4 = .ok (.invokevirtual 69, 3) := by decide +kernel
theorem dL_cashAnew_7 : decode cL_cashAnew 7 = .ok (.i2l, 1) := by decide +kernel
theorem dL_cashAnew_8 : decode cL_cashAnew 8 = .ok (.lastore, 1) := by decide +kernel
theorem dL_cashAnew_9 : decode cL_cashAnew 9 = .ok (.goto 6, 3) := by decide +kernel
theorem dL_cashAnew_12 : decode cL_cashAnew 12 = .ok (.astore_n 3, 1) := by decide +kernel
theorem dL_cashAnew_13 : decode cL_cashAnew 13 = .ok (.iconst 1, 1) := by decide +kernel
theorem dL_cashAnew_14 : decode cL_cashAnew 14 = .ok (.ireturn, 1) := by decide +kernel
theorem dL_cashAnew_15 : decode cL_cashAnew 15 = .ok (.iconst 0, 1) := by decide +kernel
theorem dL_cashAnew_16 : decode cL_cashAnew 16 = .ok (.ireturn, 1) := by decide +kernel
theorem dL_owedTo_0 : decode cL_owedTo 0 = .ok (.aload_n 2, 1) := by decide +kernel
theorem dL_owedTo_1 : decode cL_owedTo 1 = .ok (.iconst 0, 1) := by decide +kernel
theorem dL_owedTo_2 : decode cL_owedTo 2 = .ok (.aload_n 0, 1) := by decide +kernel
theorem dL_owedTo_3 : decode cL_owedTo 3 = .ok (.iload_n 1, 1) := by decide +kernel
theorem dL_owedTo_4 : decode cL_owedTo 4 = .ok (.invokevirtual 72, 3) := by decide +kernel
theorem dL_owedTo_7 : decode cL_owedTo 7 = .ok (.i2l, 1) := by decide +kernel
theorem dL_owedTo_8 : decode cL_owedTo 8 = .ok (.lastore, 1) := by decide +kernel
theorem dL_owedTo_9 : decode cL_owedTo 9 = .ok (.goto 6, 3) := by decide +kernel
theorem dL_owedTo_12 : decode cL_owedTo 12 = .ok (.astore_n 3, 1) := by decide +kernel
theorem dL_owedTo_13 : decode cL_owedTo 13 = .ok (.iconst 1, 1) := by decide +kernel
theorem dL_owedTo_14 : decode cL_owedTo 14 = .ok (.ireturn, 1) := by decide +kernel
theorem dL_owedTo_15 : decode cL_owedTo 15 = .ok (.iconst 0, 1) := by decide +kernel
theorem dL_owedTo_16 : decode cL_owedTo 16 = .ok (.ireturn, 1) := by decide +kernel
theorem dL_owes_0 : decode cL_owes 0 = .ok (.aload_n 2, 1) := by decide +kernel
theorem dL_owes_1 : decode cL_owes 1 = .ok (.iconst 0, 1) := by decide +kernel
theorem dL_owes_2 : decode cL_owes 2 = .ok (.aload_n 0, 1) := by decide +kernel
theorem dL_owes_3 : decode cL_owes 3 = .ok (.iload_n 1, 1) := by decide +kernel
theorem dL_owes_4 : decode cL_owes 4 = .ok (.invokevirtual 75, 3) := by decide +kernel
theorem dL_owes_7 : decode cL_owes 7 = .ok (.i2l, 1) := by decide +kernel
theorem dL_owes_8 : decode cL_owes 8 = .ok (.lastore, 1) := by decide +kernel
theorem dL_owes_9 : decode cL_owes 9 = .ok (.goto 6, 3) := by decide +kernel
theorem dL_owes_12 : decode cL_owes 12 = .ok (.astore_n 3, 1) := by decide +kernel
theorem dL_owes_13 : decode cL_owes 13 = .ok (.iconst 1, 1) := by decide +kernel
theorem dL_owes_14 : decode cL_owes 14 = .ok (.ireturn, 1) := by decide +kernel
theorem dL_owes_15 : decode cL_owes 15 = .ok (.iconst 0, 1) := by decide +kernel
theorem dL_owes_16 : decode cL_owes 16 = .ok (.ireturn, 1) := by decide +kernel
theorem dL_tax_0 : decode cL_tax 0 = .ok (.aload_n 3, 1) := by decide +kernel
theorem dL_tax_1 : decode cL_tax 1 = .ok (.iconst 0, 1) := by decide +kernel
theorem dL_tax_2 : decode cL_tax 2 = .ok (.aload_n 0, 1) := by decide +kernel
theorem dL_tax_3 : decode cL_tax 3 = .ok (.iload_n 1, 1) := by decide +kernel
theorem dL_tax_4 : decode cL_tax 4 = .ok (.iload_n 2, 1) := by decide +kernel
theorem dL_tax_5 : decode cL_tax 5 = .ok (.invokevirtual 78, 3) := by decide +kernel
theorem dL_tax_8 : decode cL_tax 8 = .ok (.i2l, 1) := by decide +kernel
theorem dL_tax_9 : decode cL_tax 9 = .ok (.lastore, 1) := by decide +kernel
theorem dL_tax_10 : decode cL_tax 10 = .ok (.goto 7, 3) := by decide +kernel
theorem dL_tax_13 : decode cL_tax 13 = .ok (.astore 4, 2) := by decide +kernel
theorem dL_tax_15 : decode cL_tax 15 = .ok (.iconst 1, 1) := by decide +kernel
theorem dL_tax_16 : decode cL_tax 16 = .ok (.ireturn, 1) := by decide +kernel
theorem dL_tax_17 : decode cL_tax 17 = .ok (.iconst 0, 1) := by decide +kernel
theorem dL_tax_18 : decode cL_tax 18 = .ok (.ireturn, 1) := by decide +kernel
theorem dL_carried_0 : decode cL_carried 0 = .ok (.aload_n 3, 1) := by decide +kernel
theorem dL_carried_1 : decode cL_carried 1 = .ok (.iconst 0, 1) := by decide +kernel
theorem dL_carried_2 : decode cL_carried 2 = .ok (.aload_n 0, 1) := by decide +kernel
theorem dL_carried_3 : decode cL_carried 3 = .ok (.iload_n 1, 1) := by decide +kernel
theorem dL_carried_4 : decode cL_carried 4 = .ok (.iload_n 2, 1) := by decide +kernel
theorem dL_carried_5 : decode cL_carried 5 = .ok (.invokevirtual 81, 3) := by decide +kernel
theorem dL_carried_8 : decode cL_carried 8 = .ok (.i2l, 1) := by decide +kernel
theorem dL_carried_9 : decode cL_carried 9 = .ok (.lastore, 1) := by decide +kernel
theorem dL_carried_10 : decode cL_carried 10 = .ok (.goto 7, 3) := by decide +kernel
theorem dL_carried_13 : decode cL_carried 13 = .ok (.astore 4, 2) := by decide +kernel
theorem dL_carried_15 : decode cL_carried 15 = .ok (.iconst 1, 1) := by decide +kernel
theorem dL_carried_16 : decode cL_carried 16 = .ok (.ireturn, 1) := by decide +kernel
theorem dL_carried_17 : decode cL_carried 17 = .ok (.iconst 0, 1) := by decide +kernel
theorem dL_carried_18 : decode cL_carried 18 = .ok (.ireturn, 1) := by decide +kernel
theorem dL_chain_0 : decode cL_chain 0 = .ok (.aload_n 2, 1) := by decide +kernel
theorem dL_chain_1 : decode cL_chain 1 = .ok (.iconst 0, 1) := by decide +kernel
theorem dL_chain_2 : decode cL_chain 2 = .ok (.aload_n 0, 1) := by decide +kernel
theorem dL_chain_3 : decode cL_chain 3 = .ok (.iload_n 1, 1) := by decide +kernel
theorem dL_chain_4 : decode cL_chain 4 = .ok (.invokevirtual 84, 3) := by decide +kernel
theorem dL_chain_7 : decode cL_chain 7 = .ok (.i2l, 1) := by decide +kernel
theorem dL_chain_8 : decode cL_chain 8 = .ok (.lastore, 1) := by decide +kernel
theorem dL_chain_9 : decode cL_chain 9 = .ok (.goto 6, 3) := by decide +kernel
theorem dL_chain_12 : decode cL_chain 12 = .ok (.astore_n 3, 1) := by decide +kernel
theorem dL_chain_13 : decode cL_chain 13 = .ok (.iconst 1, 1) := by decide +kernel
theorem dL_chain_14 : decode cL_chain 14 = .ok (.ireturn, 1) := by decide +kernel
theorem dL_chain_15 : decode cL_chain 15 = .ok (.iconst 0, 1) := by decide +kernel
theorem dL_chain_16 : decode cL_chain 16 = .ok (.ireturn, 1) := by decide +kernel
