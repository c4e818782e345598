/-! ===== the instructions of the law's helpers ===== -/
theorem d_L_addGate_0 : decode b_L_addGate 0 = .ok (.aload_n 3, 1) := by decide +kernel
theorem d_L_addGate_1 : decode b_L_addGate 1 = .ok (.iconst 0, 1) := by decide +kernel
theorem d_L_addGate_2 : decode b_L_addGate 2 = .ok (.aload_n 0, 1) := by decide +kernel
theorem d_L_addGate_3 : decode b_L_addGate 3 = .ok (.iload_n 1, 1) := by decide +kernel
theorem d_L_addGate_4 : decode b_L_addGate 4 = .ok (.iload_n 2, 1) := by decide +kernel
theorem d_L_addGate_5 : decode b_L_addGate 5 = .ok (.invokevirtual 7, 3) := by decide +kernel
theorem d_L_addGate_8 : decode b_L_addGate 8 = .ok (.i2l, 1) := by decide +kernel
theorem d_L_addGate_9 : decode b_L_addGate 9 = .ok (.lastore, 1) := by decide +kernel
theorem d_L_addGate_10 : decode b_L_addGate 10 = .ok (.goto 11, 3) := by decide +kernel
theorem d_L_addGate_13 : decode b_L_addGate 13 = .ok (.astore 4, 2) := by decide +kernel
theorem d_L_addGate_15 : decode b_L_addGate 15 = .ok (.iconst 1, 1) := by decide +kernel
theorem d_L_addGate_16 : decode b_L_addGate 16 = .ok (.ireturn, 1) := by decide +kernel
theorem d_L_addGate_17 : decode b_L_addGate 17 = .ok (.astore 4, 2) := by decide +kernel
theorem d_L_addGate_19 : decode b_L_addGate 19 = .ok (.iconst 2, 1) := by decide +kernel
theorem d_L_addGate_20 : decode b_L_addGate 20 = .ok (.ireturn, 1) := by decide +kernel
theorem d_L_addGate_21 : decode b_L_addGate 21 = .ok (.iconst 0, 1) := by decide +kernel
theorem d_L_addGate_22 : decode b_L_addGate 22 = .ok (.ireturn, 1) := by decide +kernel
theorem d_L_addProduct_0 : decode b_L_addProduct 0 = .ok (.aload 7, 2) := by decide +kernel
theorem d_L_addProduct_2 : decode b_L_addProduct 2 = .ok (.iconst 0, 1) := by decide +kernel
theorem d_L_addProduct_3 : decode b_L_addProduct 3 = .ok (.aload_n 0, 1) := by decide +kernel
theorem d_L_addProduct_4 : decode b_L_addProduct 4 = .ok (.iload_n 1, 1) := by decide +kernel
theorem d_L_addProduct_5 : decode b_L_addProduct 5 = .ok (.iload_n 2, 1) := by decide +kernel
theorem d_L_addProduct_6 : decode b_L_addProduct 6 = .ok (.iload_n 3, 1) := by decide +kernel
theorem d_L_addProduct_7 : decode b_L_addProduct 7 = .ok (.iload 4, 2) := by decide +kernel
theorem d_L_addProduct_9 : decode b_L_addProduct 9 = .ok (.iload 5, 2) := by decide +kernel
theorem d_L_addProduct_11 : decode b_L_addProduct 11 = .ok (.iload 6, 2) := by decide +kernel
theorem d_L_addProduct_13 : decode b_L_addProduct 13 = .ok (.invokevirtual 17, 3) := by decide +kernel
theorem d_L_addProduct_16 : decode b_L_addProduct 16 = .ok (.i2l, 1) := by decide +kernel
theorem d_L_addProduct_17 : decode b_L_addProduct 17 = .ok (.lastore, 1) := by decide +kernel
theorem d_L_addProduct_18 : decode b_L_addProduct 18 = .ok (.goto 11, 3) := by decide +kernel
theorem d_L_addProduct_21 : decode b_L_addProduct 21 = .ok (.astore 8, 2) := by decide +kernel
theorem d_L_addProduct_23 : decode b_L_addProduct 23 = .ok (.iconst 1, 1) := by decide +kernel
theorem d_L_addProduct_24 : decode b_L_addProduct 24 = .ok (.ireturn, 1) := by decide +kernel
theorem d_L_addProduct_25 : decode b_L_addProduct 25 = .ok (.astore 8, 2) := by decide +kernel
theorem d_L_addProduct_27 : decode b_L_addProduct 27 = .ok (.iconst 2, 1) := by decide +kernel
theorem d_L_addProduct_28 : decode b_L_addProduct 28 = .ok (.ireturn, 1) := by decide +kernel
theorem d_L_addProduct_29 : decode b_L_addProduct 29 = .ok (.iconst 0, 1) := by decide +kernel
theorem d_L_addProduct_30 : decode b_L_addProduct 30 = .ok (.ireturn, 1) := by decide +kernel
theorem d_L_gate_0 : decode b_L_gate 0 = .ok (.aload_n 3, 1) := by decide +kernel
theorem d_L_gate_1 : decode b_L_gate 1 = .ok (.iconst 0, 1) := by decide +kernel
theorem d_L_gate_2 : decode b_L_gate 2 = .ok (.aload_n 0, 1) := by decide +kernel
theorem d_L_gate_3 : decode b_L_gate 3 = .ok (.iload_n 1, 1) := by decide +kernel
theorem d_L_gate_4 : decode b_L_gate 4 = .ok (.iload_n 2, 1) := by decide +kernel
theorem d_L_gate_5 : decode b_L_gate 5 = .ok (.invokevirtual 21, 3) := by decide +kernel
theorem d_L_gate_8 : decode b_L_gate 8 = .ok (.i2l, 1) := by decide +kernel
theorem d_L_gate_9 : decode b_L_gate 9 = .ok (.lastore, 1) := by decide +kernel
theorem d_L_gate_10 : decode b_L_gate 10 = .ok (.goto 11, 3) := by decide +kernel
theorem d_L_gate_13 : decode b_L_gate 13 = .ok (.astore 4, 2) := by decide +kernel
theorem d_L_gate_15 : decode b_L_gate 15 = .ok (.iconst 1, 1) := by decide +kernel
theorem d_L_gate_16 : decode b_L_gate 16 = .ok (.ireturn, 1) := by decide +kernel
theorem d_L_gate_17 : decode b_L_gate 17 = .ok (.astore 4, 2) := by decide +kernel
theorem d_L_gate_19 : decode b_L_gate 19 = .ok (.iconst 2, 1) := by decide +kernel
theorem d_L_gate_20 : decode b_L_gate 20 = .ok (.ireturn, 1) := by decide +kernel
theorem d_L_gate_21 : decode b_L_gate 21 = .ok (.iconst 0, 1) := by decide +kernel
theorem d_L_gate_22 : decode b_L_gate 22 = .ok (.ireturn, 1) := by decide +kernel
theorem d_L_product_0 : decode b_L_product 0 = .ok (.aload_n 3, 1) := by decide +kernel
theorem d_L_product_1 : decode b_L_product 1 = .ok (.iconst 0, 1) := by decide +kernel
theorem d_L_product_2 : decode b_L_product 2 = .ok (.aload_n 0, 1) := by decide +kernel
theorem d_L_product_3 : decode b_L_product 3 = .ok (.iload_n 1, 1) := by decide +kernel
theorem d_L_product_4 : decode b_L_product 4 = .ok (.iload_n 2, 1) := by decide +kernel
theorem d_L_product_5 : decode b_L_product 5 = .ok (.invokevirtual 26, 3) := by decide +kernel
theorem d_L_product_8 : decode b_L_product 8 = .ok (.i2l, 1) := by decide +kernel
theorem d_L_product_9 : decode b_L_product 9 = .ok (.lastore, 1) := by decide +kernel
theorem d_L_product_10 : decode b_L_product 10 = .ok (.goto 11, 3) := by decide +kernel
theorem d_L_product_13 : decode b_L_product 13 = .ok (.astore 4, 2) := by decide +kernel
theorem d_L_product_15 : decode b_L_product 15 = .ok (.iconst 1, 1) := by decide +kernel
theorem d_L_product_16 : decode b_L_product 16 = .ok (.ireturn, 1) := by decide +kernel
theorem d_L_product_17 : decode b_L_product 17 = .ok (.astore 4, 2) := by decide +kernel
theorem d_L_product_19 : decode b_L_product 19 = .ok (.iconst 2, 1) := by decide +kernel
theorem d_L_product_20 : decode b_L_product 20 = .ok (.ireturn, 1) := by decide +kernel
theorem d_L_product_21 : decode b_L_product 21 = .ok (.iconst 0, 1) := by decide +kernel
theorem d_L_product_22 : decode b_L_product 22 = .ok (.ireturn, 1) := by decide +kernel
theorem d_L_way_0 : decode b_L_way 0 = .ok (.aload_n 3, 1) := by decide +kernel
theorem d_L_way_1 : decode b_L_way 1 = .ok (.iconst 0, 1) := by decide +kernel
theorem d_L_way_2 : decode b_L_way 2 = .ok (.aload_n 0, 1) := by decide +kernel
theorem d_L_way_3 : decode b_L_way 3 = .ok (.iload_n 1, 1) := by decide +kernel
theorem d_L_way_4 : decode b_L_way 4 = .ok (.iload_n 2, 1) := by decide +kernel
theorem d_L_way_5 : decode b_L_way 5 = .ok (.invokevirtual 29, 3) := by decide +kernel
theorem d_L_way_8 : decode b_L_way 8 = .ok (.i2l, 1) := by decide +kernel
theorem d_L_way_9 : decode b_L_way 9 = .ok (.lastore, 1) := by decide +kernel
theorem d_L_way_10 : decode b_L_way 10 = .ok (.goto 7, 3) := by decide +kernel
theorem d_L_way_13 : decode b_L_way 13 = .ok (.astore 4, 2) := by decide +kernel
theorem d_L_way_15 : decode b_L_way 15 = .ok (.iconst 1, 1) := by decide +kernel
theorem d_L_way_16 : decode b_L_way 16 = .ok (.ireturn, 1) := by decide +kernel
theorem d_L_way_17 : decode b_L_way 17 = .ok (.iconst 0, 1) := by decide +kernel
theorem d_L_way_18 : decode b_L_way 18 = .ok (.ireturn, 1) := by decide +kernel
theorem d_L_advance_0 : decode b_L_advance 0 = .ok (.aload_n 2, 1) := by decide +kernel
theorem d_L_advance_1 : decode b_L_advance 1 = .ok (.iconst 0, 1) := by decide +kernel
theorem d_L_advance_2 : decode b_L_advance 2 = .ok (.aload_n 0, 1) := by decide +kernel
theorem d_L_advance_3 : decode b_L_advance 3 = .ok (.iload_n 1, 1) := by decide +kernel
theorem d_L_advance_4 : decode b_L_advance 4 = .ok (.invokevirtual 32, 3) := by decide +kernel
theorem d_L_advance_7 : decode b_L_advance 7 = .ok (.i2l, 1) := by decide +kernel
theorem d_L_advance_8 : decode b_L_advance 8 = .ok (.lastore, 1) := by decide +kernel
theorem d_L_advance_9 : decode b_L_advance 9 = .ok (.goto 9, 3) := by decide +kernel
theorem d_L_advance_12 : decode b_L_advance 12 = .ok (.astore_n 3, 1) := by decide +kernel
theorem d_L_advance_13 : decode b_L_advance 13 = .ok (.iconst 1, 1) := by decide +kernel
theorem d_L_advance_14 : decode b_L_advance 14 = .ok (.ireturn, 1) := by decide +kernel
theorem d_L_advance_15 : decode b_L_advance 15 = .ok (.astore_n 3, 1) := by decide +kernel
theorem d_L_advance_16 : decode b_L_advance 16 = .ok (.iconst 2, 1) := by decide +kernel
theorem d_L_advance_17 : decode b_L_advance 17 = .ok (.ireturn, 1) := by decide +kernel
theorem d_L_advance_18 : decode b_L_advance 18 = .ok (.iconst 0, 1) := by decide +kernel
theorem d_L_advance_19 : decode b_L_advance 19 = .ok (.ireturn, 1) := by decide +kernel
theorem d_L_system_0 : decode b_L_system 0 = .ok (.aload_n 2, 1) := by decide +kernel
theorem d_L_system_1 : decode b_L_system 1 = .ok (.iconst 0, 1) := by decide +kernel
theorem d_L_system_2 : decode b_L_system 2 = .ok (.aload_n 0, 1) := by decide +kernel
theorem d_L_system_3 : decode b_L_system 3 = .ok (.iload_n 1, 1) := by decide +kernel
theorem d_L_system_4 : decode b_L_system 4 = .ok (.invokevirtual 36, 3) := by decide +kernel
theorem d_L_system_7 : decode b_L_system 7 = .ok (.i2l, 1) := by decide +kernel
theorem d_L_system_8 : decode b_L_system 8 = .ok (.lastore, 1) := by decide +kernel
theorem d_L_system_9 : decode b_L_system 9 = .ok (.goto 6, 3) := by decide +kernel
theorem d_L_system_12 : decode b_L_system 12 = .ok (.astore_n 3, 1) := by decide +kernel
theorem d_L_system_13 : decode b_L_system 13 = .ok (.iconst 1, 1) := by decide +kernel
theorem d_L_system_14 : decode b_L_system 14 = .ok (.ireturn, 1) := by decide +kernel
theorem d_L_system_15 : decode b_L_system 15 = .ok (.iconst 0, 1) := by decide +kernel
theorem d_L_system_16 : decode b_L_system 16 = .ok (.ireturn, 1) := by decide +kernel
theorem d_L_setClosed_0 : decode b_L_setClosed 0 = .ok (.aload_n 3, 1) := by decide +kernel
theorem d_L_setClosed_1 : decode b_L_setClosed 1 = .ok (.iconst 0, 1) := by decide +kernel
theorem d_L_setClosed_2 : decode b_L_setClosed 2 = .ok (.aload_n 0, 1) := by decide +kernel
theorem d_L_setClosed_3 : decode b_L_setClosed 3 = .ok (.iload_n 1, 1) := by decide +kernel
theorem d_L_setClosed_4 : decode b_L_setClosed 4 = .ok (.iload_n 2, 1) := by decide +kernel
theorem d_L_setClosed_5 : decode b_L_setClosed 5 = .ok (.invokevirtual 39, 3) := by decide +kernel
theorem d_L_setClosed_8 : decode b_L_setClosed 8 = .ok (.ifCond .eq 7, 3) := by decide +kernel
theorem d_L_setClosed_11 : decode b_L_setClosed 11 = .ok (.lconst 1, 1) := by decide +kernel
theorem d_L_setClosed_12 : decode b_L_setClosed 12 = .ok (.goto 4, 3) := by decide +kernel
theorem d_L_setClosed_15 : decode b_L_setClosed 15 = .ok (.lconst 0, 1) := by decide +kernel
theorem d_L_setClosed_16 : decode b_L_setClosed 16 = .ok (.lastore, 1) := by decide +kernel
theorem d_L_setClosed_17 : decode b_L_setClosed 17 = .ok (.goto 7, 3) := by decide +kernel
theorem d_L_setClosed_20 : decode b_L_setClosed 20 = .ok (.astore 4, 2) := by decide +kernel
theorem d_L_setClosed_22 : decode b_L_setClosed 22 = .ok (.iconst 1, 1) := by decide +kernel
theorem d_L_setClosed_23 : decode b_L_setClosed 23 = .ok (.ireturn, 1) := by decide +kernel
theorem d_L_setClosed_24 : decode b_L_setClosed 24 = .ok (.iconst 0, 1) := by decide +kernel
theorem d_L_setClosed_25 : decode b_L_setClosed 25 = .ok (.ireturn, 1) := by decide +kernel
theorem d_L_closedMinutes_0 : decode b_L_closedMinutes 0 = .ok (.aload_n 3, 1) := by decide +kernel
theorem d_L_closedMinutes_1 : decode b_L_closedMinutes 1 = .ok (.iconst 0, 1) := by decide +kernel
theorem d_L_closedMinutes_2 : decode b_L_closedMinutes 2 = .ok (.aload_n 0, 1) := by decide +kernel
theorem d_L_closedMinutes_3 : decode b_L_closedMinutes 3 = .ok (.iload_n 1, 1) := by decide +kernel
theorem d_L_closedMinutes_4 : decode b_L_closedMinutes 4 = .ok (.iload_n 2, 1) := by decide +kernel
theorem d_L_closedMinutes_5 : decode b_L_closedMinutes 5 = .ok (.invokevirtual 43, 3) := by decide +kernel
theorem d_L_closedMinutes_8 : decode b_L_closedMinutes 8 = .ok (.i2l, 1) := by decide +kernel
theorem d_L_closedMinutes_9 : decode b_L_closedMinutes 9 = .ok (.lastore, 1) := by decide +kernel
theorem d_L_closedMinutes_10 : decode b_L_closedMinutes 10 = .ok (.goto 11, 3) := by decide +kernel
theorem d_L_closedMinutes_13 : decode b_L_closedMinutes 13 = .ok (.astore 4, 2) := by decide +kernel
theorem d_L_closedMinutes_15 : decode b_L_closedMinutes 15 = .ok (.iconst 1, 1) := by decide +kernel
theorem d_L_closedMinutes_16 : decode b_L_closedMinutes 16 = .ok (.ireturn, 1) := by decide +kernel
theorem d_L_closedMinutes_17 : decode b_L_closedMinutes 17 = .ok (.astore 4, 2) := by decide +kernel
theorem d_L_closedMinutes_19 : decode b_L_closedMinutes 19 = .ok (.iconst 2, 1) := by decide +kernel
theorem d_L_closedMinutes_20 : decode b_L_closedMinutes 20 = .ok (.ireturn, 1) := by decide +kernel
theorem d_L_closedMinutes_21 : decode b_L_closedMinutes 21 = .ok (.iconst 0, 1) := by decide +kernel
theorem d_L_closedMinutes_22 : decode b_L_closedMinutes 22 = .ok (.ireturn, 1) := by decide +kernel
theorem d_L_isClosedDay_0 : decode b_L_isClosedDay 0 = .ok (.aload_n 3, 1) := by decide +kernel
theorem d_L_isClosedDay_1 : decode b_L_isClosedDay 1 = .ok (.iconst 0, 1) := by decide +kernel
theorem d_L_isClosedDay_2 : decode b_L_isClosedDay 2 = .ok (.aload_n 0, 1) := by decide +kernel
theorem d_L_isClosedDay_3 : decode b_L_isClosedDay 3 = .ok (.iload_n 1, 1) := by decide +kernel
theorem d_L_isClosedDay_4 : decode b_L_isClosedDay 4 = .ok (.iload_n 2, 1) := by decide +kernel
theorem d_L_isClosedDay_5 : decode b_L_isClosedDay 5 = .ok (.invokevirtual 46, 3) := by decide +kernel
theorem d_L_isClosedDay_8 : decode b_L_isClosedDay 8 = .ok (.ifCond .eq 7, 3) := by decide +kernel
theorem d_L_isClosedDay_11 : decode b_L_isClosedDay 11 = .ok (.lconst 1, 1) := by decide +kernel
theorem d_L_isClosedDay_12 : decode b_L_isClosedDay 12 = .ok (.goto 4, 3) := by decide +kernel
theorem d_L_isClosedDay_15 : decode b_L_isClosedDay 15 = .ok (.lconst 0, 1) := by decide +kernel
theorem d_L_isClosedDay_16 : decode b_L_isClosedDay 16 = .ok (.lastore, 1) := by decide +kernel
theorem d_L_isClosedDay_17 : decode b_L_isClosedDay 17 = .ok (.goto 11, 3) := by decide +kernel
theorem d_L_isClosedDay_20 : decode b_L_isClosedDay 20 = .ok (.astore 4, 2) := by decide +kernel
theorem d_L_isClosedDay_22 : decode b_L_isClosedDay 22 = .ok (.iconst 1, 1) := by decide +kernel
theorem d_L_isClosedDay_23 : decode b_L_isClosedDay 23 = .ok (.ireturn, 1) := by decide +kernel
theorem d_L_isClosedDay_24 : decode b_L_isClosedDay 24 = .ok (.astore 4, 2) := by decide +kernel
theorem d_L_isClosedDay_26 : decode b_L_isClosedDay 26 = .ok (.iconst 2, 1) := by decide +kernel
theorem d_L_isClosedDay_27 : decode b_L_isClosedDay 27 = .ok (.ireturn, 1) := by decide +kernel
theorem d_L_isClosedDay_28 : decode b_L_isClosedDay 28 = .ok (.iconst 0, 1) := by decide +kernel
theorem d_L_isClosedDay_29 : decode b_L_isClosedDay 29 = .ok (.ireturn, 1) := by decide +kernel
theorem d_L_sell_0 : decode b_L_sell 0 = .ok (.aload_n 2, 1) := by decide +kernel
theorem d_L_sell_1 : decode b_L_sell 1 = .ok (.iconst 0, 1) := by decide +kernel
theorem d_L_sell_2 : decode b_L_sell 2 = .ok (.aload_n 0, 1) := by decide +kernel
theorem d_L_sell_3 : decode b_L_sell 3 = .ok (.iload_n 1, 1) := by decide +kernel
theorem d_L_sell_4 : decode b_L_sell 4 = .ok (.invokevirtual 50, 3) := by decide +kernel
theorem d_L_sell_7 : decode b_L_sell 7 = .ok (.i2l, 1) := by decide +kernel
theorem d_L_sell_8 : decode b_L_sell 8 = .ok (.lastore, 1) := by decide +kernel
theorem d_L_sell_9 : decode b_L_sell 9 = .ok (.goto 9, 3) := by decide +kernel
theorem d_L_sell_12 : decode b_L_sell 12 = .ok (.astore_n 3, 1) := by decide +kernel
theorem d_L_sell_13 : decode b_L_sell 13 = .ok (.iconst 1, 1) := by decide +kernel
theorem d_L_sell_14 : decode b_L_sell 14 = .ok (.ireturn, 1) := by decide +kernel
theorem d_L_sell_15 : decode b_L_sell 15 = .ok (.astore_n 3, 1) := by decide +kernel
theorem d_L_sell_16 : decode b_L_sell 16 = .ok (.iconst 2, 1) := by decide +kernel
theorem d_L_sell_17 : decode b_L_sell 17 = .ok (.ireturn, 1) := by decide +kernel
theorem d_L_sell_18 : decode b_L_sell 18 = .ok (.iconst 0, 1) := by decide +kernel
theorem d_L_sell_19 : decode b_L_sell 19 = .ok (.ireturn, 1) := by decide +kernel
theorem d_L_pass_0 : decode b_L_pass 0 = .ok (.aload_n 3, 1) := by decide +kernel
theorem d_L_pass_1 : decode b_L_pass 1 = .ok (.iconst 0, 1) := by decide +kernel
theorem d_L_pass_2 : decode b_L_pass 2 = .ok (.aload_n 0, 1) := by decide +kernel
theorem d_L_pass_3 : decode b_L_pass 3 = .ok (.iload_n 1, 1) := by decide +kernel
theorem d_L_pass_4 : decode b_L_pass 4 = .ok (.iload_n 2, 1) := by decide +kernel
theorem d_L_pass_5 : decode b_L_pass 5 = .ok (.invokevirtual 53, 3) := by decide +kernel
theorem d_L_pass_8 : decode b_L_pass 8 = .ok (.i2l, 1) := by decide +kernel
theorem d_L_pass_9 : decode b_L_pass 9 = .ok (.lastore, 1) := by decide +kernel
theorem d_L_pass_10 : decode b_L_pass 10 = .ok (.goto 11, 3) := by decide +kernel
theorem d_L_pass_13 : decode b_L_pass 13 = .ok (.astore 4, 2) := by decide +kernel
theorem d_L_pass_15 : decode b_L_pass 15 = .ok (.iconst 1, 1) := by decide +kernel
theorem d_L_pass_16 : decode b_L_pass 16 = .ok (.ireturn, 1) := by decide +kernel
theorem d_L_pass_17 : decode b_L_pass 17 = .ok (.astore 4, 2) := by decide +kernel
theorem d_L_pass_19 : decode b_L_pass 19 = .ok (.iconst 2, 1) := by decide +kernel
theorem d_L_pass_20 : decode b_L_pass 20 = .ok (.ireturn, 1) := by decide +kernel
theorem d_L_pass_21 : decode b_L_pass 21 = .ok (.iconst 0, 1) := by decide +kernel
theorem d_L_pass_22 : decode b_L_pass 22 = .ok (.ireturn, 1) := by decide +kernel
theorem d_L_reason_0 : decode b_L_reason 0 = .ok (.aload_n 3, 1) := by decide +kernel
theorem d_L_reason_1 : decode b_L_reason 1 = .ok (.iconst 0, 1) := by decide +kernel
theorem d_L_reason_2 : decode b_L_reason 2 = .ok (.aload_n 0, 1) := by decide +kernel
theorem d_L_reason_3 : decode b_L_reason 3 = .ok (.iload_n 1, 1) := by decide +kernel
theorem d_L_reason_4 : decode b_L_reason 4 = .ok (.iload_n 2, 1) := by decide +kernel
theorem d_L_reason_5 : decode b_L_reason 5 = .ok (.invokevirtual 58, 3) := by decide +kernel
theorem d_L_reason_8 : decode b_L_reason 8 = .ok (.i2l, 1) := by decide +kernel
theorem d_L_reason_9 : decode b_L_reason 9 = .ok (.lastore, 1) := by decide +kernel
theorem d_L_reason_10 : decode b_L_reason 10 = .ok (.goto 7, 3) := by decide +kernel
theorem d_L_reason_13 : decode b_L_reason 13 = .ok (.astore 4, 2) := by decide +kernel
theorem d_L_reason_15 : decode b_L_reason 15 = .ok (.iconst 1, 1) := by decide +kernel
theorem d_L_reason_16 : decode b_L_reason 16 = .ok (.ireturn, 1) := by decide +kernel
theorem d_L_reason_17 : decode b_L_reason 17 = .ok (.iconst 0, 1) := by decide +kernel
theorem d_L_reason_18 : decode b_L_reason 18 = .ok (.ireturn, 1) := by decide +kernel
theorem d_L_openGates_0 : decode b_L_openGates 0 = .ok (.aload_n 2, 1) := by decide +kernel
theorem d_L_openGates_1 : decode b_L_openGates 1 = .ok (.iconst 0, 1) := by decide +kernel
theorem d_L_openGates_2 : decode b_L_openGates 2 = .ok (.aload_n 0, 1) := by decide +kernel
theorem d_L_openGates_3 : decode b_L_openGates 3 = .ok (.iload_n 1, 1) := by decide +kernel
theorem d_L_openGates_4 : decode b_L_openGates 4 = .ok (.invokevirtual 61, 3) := by decide +kernel
theorem d_L_openGates_7 : decode b_L_openGates 7 = .ok (.i2l, 1) := by decide +kernel
theorem d_L_openGates_8 : decode b_L_openGates 8 = .ok (.lastore, 1) := by decide +kernel
theorem d_L_openGates_9 : decode b_L_openGates 9 = .ok (.goto 6, 3) := by decide +kernel
theorem d_L_openGates_12 : decode b_L_openGates 12 = .ok (.astore_n 3, 1) := by decide +kernel
theorem d_L_openGates_13 : decode b_L_openGates 13 = .ok (.iconst 1, 1) := by decide +kernel
theorem d_L_openGates_14 : decode b_L_openGates 14 = .ok (.ireturn, 1) := by decide +kernel
theorem d_L_openGates_15 : decode b_L_openGates 15 = .ok (.iconst 0, 1) := by decide +kernel
theorem d_L_openGates_16 : decode b_L_openGates 16 = .ok (.ireturn, 1) := by decide +kernel
theorem d_L_refusal_0 : decode b_L_refusal 0 = .ok (.aload_n 2, 1) := by decide +kernel
theorem d_L_refusal_1 : decode b_L_refusal 1 = .ok (.iconst 0, 1) := by decide +kernel
theorem d_L_refusal_2 : decode b_L_refusal 2 = .ok (.aload_n 0, 1) := by decide +kernel
theorem d_L_refusal_3 : decode b_L_refusal 3 = .ok (.iload_n 1, 1) := by decide +kernel
theorem d_L_refusal_4 : decode b_L_refusal 4 = .ok (.invokevirtual 64, 3) := by decide +kernel
theorem d_L_refusal_7 : decode b_L_refusal 7 = .ok (.i2l, 1) := by decide +kernel
theorem d_L_refusal_8 : decode b_L_refusal 8 = .ok (.lastore, 1) := by decide +kernel
theorem d_L_refusal_9 : decode b_L_refusal 9 = .ok (.goto 9, 3) := by decide +kernel
theorem d_L_refusal_12 : decode b_L_refusal 12 = .ok (.astore_n 3, 1) := by decide +kernel
theorem d_L_refusal_13 : decode b_L_refusal 13 = .ok (.iconst 1, 1) := by decide +kernel
theorem d_L_refusal_14 : decode b_L_refusal 14 = .ok (.ireturn, 1) := by decide +kernel
theorem d_L_refusal_15 : decode b_L_refusal 15 = .ok (.astore_n 3, 1) := by decide +kernel
theorem d_L_refusal_16 : decode b_L_refusal 16 = .ok (.iconst 2, 1) := by decide +kernel
theorem d_L_refusal_17 : decode b_L_refusal 17 = .ok (.ireturn, 1) := by decide +kernel
theorem d_L_refusal_18 : decode b_L_refusal 18 = .ok (.iconst 0, 1) := by decide +kernel
theorem d_L_refusal_19 : decode b_L_refusal 19 = .ok (.ireturn, 1) := by decide +kernel
theorem d_L_block_0 : decode b_L_block 0 = .ok (.aload_n 3, 1) := by decide +kernel
theorem d_L_block_1 : decode b_L_block 1 = .ok (.iconst 0, 1) := by decide +kernel
theorem d_L_block_2 : decode b_L_block 2 = .ok (.aload_n 0, 1) := by decide +kernel
theorem d_L_block_3 : decode b_L_block 3 = .ok (.iload_n 1, 1) := by decide +kernel
theorem d_L_block_4 : decode b_L_block 4 = .ok (.iload_n 2, 1) := by decide +kernel
theorem d_L_block_5 : decode b_L_block 5 = .ok (.invokevirtual 69, 3) := by decide +kernel
theorem d_L_block_8 : decode b_L_block 8 = .ok (.i2l, 1) := by decide +kernel
theorem d_L_block_9 : decode b_L_block 9 = .ok (.lastore, 1) := by decide +kernel
theorem d_L_block_10 : decode b_L_block 10 = .ok (.goto 11, 3) := by decide +kernel
theorem d_L_block_13 : decode b_L_block 13 = .ok (.astore 4, 2) := by decide +kernel
theorem d_L_block_15 : decode b_L_block 15 = .ok (.iconst 1, 1) := by decide +kernel
theorem d_L_block_16 : decode b_L_block 16 = .ok (.ireturn, 1) := by decide +kernel
theorem d_L_block_17 : decode b_L_block 17 = .ok (.astore 4, 2) := by decide +kernel
theorem d_L_block_19 : decode b_L_block 19 = .ok (.iconst 2, 1) := by decide +kernel
theorem d_L_block_20 : decode b_L_block 20 = .ok (.ireturn, 1) := by decide +kernel
theorem d_L_block_21 : decode b_L_block 21 = .ok (.iconst 0, 1) := by decide +kernel
theorem d_L_block_22 : decode b_L_block 22 = .ok (.ireturn, 1) := by decide +kernel
theorem d_L_replace_0 : decode b_L_replace 0 = .ok (.aload_n 2, 1) := by decide +kernel
theorem d_L_replace_1 : decode b_L_replace 1 = .ok (.iconst 0, 1) := by decide +kernel
theorem d_L_replace_2 : decode b_L_replace 2 = .ok (.aload_n 0, 1) := by decide +kernel
theorem d_L_replace_3 : decode b_L_replace 3 = .ok (.iload_n 1, 1) := by decide +kernel
theorem d_L_replace_4 : decode b_L_replace 4 = .ok (.invokevirtual 73, 3) := by decide +kernel
theorem d_L_replace_7 : decode b_L_replace 7 = .ok (.i2l, 1) := by decide +kernel
theorem d_L_replace_8 : decode b_L_replace 8 = .ok (.lastore, 1) := by decide +kernel
theorem d_L_replace_9 : decode b_L_replace 9 = .ok (.goto 9, 3) := by decide +kernel
theorem d_L_replace_12 : decode b_L_replace 12 = .ok (.astore_n 3, 1) := by decide +kernel
theorem d_L_replace_13 : decode b_L_replace 13 = .ok (.iconst 1, 1) := by decide +kernel
theorem d_L_replace_14 : decode b_L_replace 14 = .ok (.ireturn, 1) := by decide +kernel
theorem d_L_replace_15 : decode b_L_replace 15 = .ok (.astore_n 3, 1) := by decide +kernel
theorem d_L_replace_16 : decode b_L_replace 16 = .ok (.iconst 2, 1) := by decide +kernel
theorem d_L_replace_17 : decode b_L_replace 17 = .ok (.ireturn, 1) := by decide +kernel
theorem d_L_replace_18 : decode b_L_replace 18 = .ok (.iconst 0, 1) := by decide +kernel
theorem d_L_replace_19 : decode b_L_replace 19 = .ok (.ireturn, 1) := by decide +kernel
theorem d_L_card_0 : decode b_L_card 0 = .ok (.aload_n 3, 1) := by decide +kernel
theorem d_L_card_1 : decode b_L_card 1 = .ok (.iconst 0, 1) := by decide +kernel
theorem d_L_card_2 : decode b_L_card 2 = .ok (.aload_n 0, 1) := by decide +kernel
theorem d_L_card_3 : decode b_L_card 3 = .ok (.iload_n 1, 1) := by decide +kernel
theorem d_L_card_4 : decode b_L_card 4 = .ok (.iload_n 2, 1) := by decide +kernel
theorem d_L_card_5 : decode b_L_card 5 = .ok (.invokevirtual 76, 3) := by decide +kernel
theorem d_L_card_8 : decode b_L_card 8 = .ok (.i2l, 1) := by decide +kernel
theorem d_L_card_9 : decode b_L_card 9 = .ok (.lastore, 1) := by decide +kernel
theorem d_L_card_10 : decode b_L_card 10 = .ok (.goto 11, 3) := by decide +kernel
theorem d_L_card_13 : decode b_L_card 13 = .ok (.astore 4, 2) := by decide +kernel
theorem d_L_card_15 : decode b_L_card 15 = .ok (.iconst 1, 1) := by decide +kernel
theorem d_L_card_16 : decode b_L_card 16 = .ok (.ireturn, 1) := by decide +kernel
theorem d_L_card_17 : decode b_L_card 17 = .ok (.astore 4, 2) := by decide +kernel
theorem d_L_card_19 : decode b_L_card 19 = .ok (.iconst 2, 1) := by decide +kernel
theorem d_L_card_20 : decode b_L_card 20 = .ok (.ireturn, 1) := by decide +kernel
theorem d_L_card_21 : decode b_L_card 21 = .ok (.iconst 0, 1) := by decide +kernel
theorem d_L_card_22 : decode b_L_card 22 = .ok (.ireturn, 1) := by decide +kernel
theorem d_L_ride_0 : decode b_L_ride 0 = .ok (.aload 4, 2) := by decide +kernel
theorem d_L_ride_2 : decode b_L_ride 2 = .ok (.iconst 0, 1) := by decide +kernel
theorem d_L_ride_3 : decode b_L_ride 3 = .ok (.aload_n 0, 1) := by decide +kernel
theorem d_L_ride_4 : decode b_L_ride 4 = .ok (.iload_n 1, 1) := by decide +kernel
theorem d_L_ride_5 : decode b_L_ride 5 = .ok (.iload_n 2, 1) := by decide +kernel
theorem d_L_ride_6 : decode b_L_ride 6 = .ok (.iload_n 3, 1) := by decide +kernel
theorem d_L_ride_7 : decode b_L_ride 7 = .ok (.invokevirtual 79, 3) := by decide +kernel
theorem d_L_ride_10 : decode b_L_ride 10 = .ok (.i2l, 1) := by decide +kernel
theorem d_L_ride_11 : decode b_L_ride 11 = .ok (.lastore, 1) := by decide +kernel
theorem d_L_ride_12 : decode b_L_ride 12 = .ok (.goto 11, 3) := by decide +kernel
theorem d_L_ride_15 : decode b_L_ride 15 = .ok (.astore 5, 2) := by decide +kernel
theorem d_L_ride_17 : decode b_L_ride 17 = .ok (.iconst 1, 1) := by decide +kernel
theorem d_L_ride_18 : decode b_L_ride 18 = .ok (.ireturn, 1) := by decide +kernel
theorem d_L_ride_19 : decode b_L_ride 19 = .ok (.astore 5, 2) := by decide +kernel
theorem d_L_ride_21 : decode b_L_ride 21 = .ok (.iconst 2, 1) := by decide +kernel
theorem d_L_ride_22 : decode b_L_ride 22 = .ok (.ireturn, 1) := by decide +kernel
theorem d_L_ride_23 : decode b_L_ride 23 = .ok (.iconst 0, 1) := by decide +kernel
theorem d_L_ride_24 : decode b_L_ride 24 = .ok (.ireturn, 1) := by decide +kernel
theorem d_L_refundable_0 : decode b_L_refundable 0 = .ok (.aload_n 2, 1) := by decide +kernel
theorem d_L_refundable_1 : decode b_L_refundable 1 = .ok (.iconst 0, 1) := by decide +kernel
theorem d_L_refundable_2 : decode b_L_refundable 2 = .ok (.aload_n 0, 1) := by decide +kernel
theorem d_L_refundable_3 : decode b_L_refundable 3 = .ok (.iload_n 1, 1) := by decide +kernel
theorem d_L_refundable_4 : decode b_L_refundable 4 = .ok (.invokevirtual 83, 3) := by decide +kernel
theorem d_L_refundable_7 : decode b_L_refundable 7 = .ok (.i2l, 1) := by decide +kernel
theorem d_L_refundable_8 : decode b_L_refundable 8 = .ok (.lastore, 1) := by decide +kernel
theorem d_L_refundable_9 : decode b_L_refundable 9 = .ok (.goto 6, 3) := by decide +kernel
theorem d_L_refundable_12 : decode b_L_refundable 12 = .ok (.astore_n 3, 1) := by decide +kernel
theorem d_L_refundable_13 : decode b_L_refundable 13 = .ok (.iconst 1, 1) := by decide +kernel
theorem d_L_refundable_14 : decode b_L_refundable 14 = .ok (.ireturn, 1) := by decide +kernel
theorem d_L_refundable_15 : decode b_L_refundable 15 = .ok (.iconst 0, 1) := by decide +kernel
theorem d_L_refundable_16 : decode b_L_refundable 16 = .ok (.ireturn, 1) := by decide +kernel
theorem d_L_refund_0 : decode b_L_refund 0 = .ok (.aload_n 2, 1) := by decide +kernel
theorem d_L_refund_1 : decode b_L_refund 1 = .ok (.iconst 0, 1) := by decide +kernel
theorem d_L_refund_2 : decode b_L_refund 2 = .ok (.aload_n 0, 1) := by decide +kernel
theorem d_L_refund_3 : decode b_L_refund 3 = .ok (.iload_n 1, 1) := by decide +kernel
theorem d_L_refund_4 : decode b_L_refund 4 = .ok (.invokevirtual 86, 3) := by decide +kernel
theorem d_L_refund_7 : decode b_L_refund 7 = .ok (.i2l, 1) := by decide +kernel
theorem d_L_refund_8 : decode b_L_refund 8 = .ok (.lastore, 1) := by decide +kernel
theorem d_L_refund_9 : decode b_L_refund 9 = .ok (.goto 9, 3) := by decide +kernel
theorem d_L_refund_12 : decode b_L_refund 12 = .ok (.astore_n 3, 1) := by decide +kernel
theorem d_L_refund_13 : decode b_L_refund 13 = .ok (.iconst 1, 1) := by decide +kernel
theorem d_L_refund_14 : decode b_L_refund 14 = .ok (.ireturn, 1) := by decide +kernel
theorem d_L_refund_15 : decode b_L_refund 15 = .ok (.astore_n 3, 1) := by decide +kernel
theorem d_L_refund_16 : decode b_L_refund 16 = .ok (.iconst 2, 1) := by decide +kernel
theorem d_L_refund_17 : decode b_L_refund 17 = .ok (.ireturn, 1) := by decide +kernel
theorem d_L_refund_18 : decode b_L_refund 18 = .ok (.iconst 0, 1) := by decide +kernel
theorem d_L_refund_19 : decode b_L_refund 19 = .ok (.ireturn, 1) := by decide +kernel
theorem d_L_share_0 : decode b_L_share 0 = .ok (.aload_n 3, 1) := by decide +kernel
theorem d_L_share_1 : decode b_L_share 1 = .ok (.iconst 0, 1) := by decide +kernel
theorem d_L_share_2 : decode b_L_share 2 = .ok (.aload_n 0, 1) := by decide +kernel
theorem d_L_share_3 : decode b_L_share 3 = .ok (.iload_n 1, 1) := by decide +kernel
theorem d_L_share_4 : decode b_L_share 4 = .ok (.iload_n 2, 1) := by decide +kernel
theorem d_L_share_5 : decode b_L_share 5 = .ok (.invokevirtual 89, 3) := by decide +kernel
theorem d_L_share_8 : decode b_L_share 8 = .ok (.i2l, 1) := by decide +kernel
theorem d_L_share_9 : decode b_L_share 9 = .ok (.lastore, 1) := by decide +kernel
theorem d_L_share_10 : decode b_L_share 10 = .ok (.goto 7, 3) := by decide +kernel
theorem d_L_share_13 : decode b_L_share 13 = .ok (.astore 4, 2) := by decide +kernel
theorem d_L_share_15 : decode b_L_share 15 = .ok (.iconst 1, 1) := by decide +kernel
theorem d_L_share_16 : decode b_L_share 16 = .ok (.ireturn, 1) := by decide +kernel
theorem d_L_share_17 : decode b_L_share 17 = .ok (.iconst 0, 1) := by decide +kernel
theorem d_L_share_18 : decode b_L_share 18 = .ok (.ireturn, 1) := by decide +kernel
theorem d_L_partner_0 : decode b_L_partner 0 = .ok (.aload_n 3, 1) := by decide +kernel
theorem d_L_partner_1 : decode b_L_partner 1 = .ok (.iconst 0, 1) := by decide +kernel
theorem d_L_partner_2 : decode b_L_partner 2 = .ok (.aload_n 0, 1) := by decide +kernel
theorem d_L_partner_3 : decode b_L_partner 3 = .ok (.iload_n 1, 1) := by decide +kernel
theorem d_L_partner_4 : decode b_L_partner 4 = .ok (.iload_n 2, 1) := by decide +kernel
theorem d_L_partner_5 : decode b_L_partner 5 = .ok (.invokevirtual 92, 3) := by decide +kernel
theorem d_L_partner_8 : decode b_L_partner 8 = .ok (.i2l, 1) := by decide +kernel
theorem d_L_partner_9 : decode b_L_partner 9 = .ok (.lastore, 1) := by decide +kernel
theorem d_L_partner_10 : decode b_L_partner 10 = .ok (.goto 11, 3) := by decide +kernel
theorem d_L_partner_13 : decode b_L_partner 13 = .ok (.astore 4, 2) := by decide +kernel
theorem d_L_partner_15 : decode b_L_partner 15 = .ok (.iconst 1, 1) := by decide +kernel
theorem d_L_partner_16 : decode b_L_partner 16 = .ok (.ireturn, 1) := by decide +kernel
theorem d_L_partner_17 : decode b_L_partner 17 = .ok (.astore 4, 2) := by decide +kernel
theorem d_L_partner_19 : decode b_L_partner 19 = .ok (.iconst 2, 1) := by decide +kernel
theorem d_L_partner_20 : decode b_L_partner 20 = .ok (.ireturn, 1) := by decide +kernel
theorem d_L_partner_21 : decode b_L_partner 21 = .ok (.iconst 0, 1) := by decide +kernel
theorem d_L_partner_22 : decode b_L_partner 22 = .ok (.ireturn, 1) := by decide +kernel
theorem d_L_account_0 : decode b_L_account 0 = .ok (.aload_n 2, 1) := by decide +kernel
theorem d_L_account_1 : decode b_L_account 1 = .ok (.iconst 0, 1) := by decide +kernel
theorem d_L_account_2 : decode b_L_account 2 = .ok (.aload_n 0, 1) := by decide +kernel
theorem d_L_account_3 : decode b_L_account 3 = .ok (.iload_n 1, 1) := by decide +kernel
theorem d_L_account_4 : decode b_L_account 4 = .ok (.invokevirtual 95, 3) := by decide +kernel
theorem d_L_account_7 : decode b_L_account 7 = .ok (.i2l, 1) := by decide +kernel
theorem d_L_account_8 : decode b_L_account 8 = .ok (.lastore, 1) := by decide +kernel
theorem d_L_account_9 : decode b_L_account 9 = .ok (.goto 6, 3) := by decide +kernel
theorem d_L_account_12 : decode b_L_account 12 = .ok (.astore_n 3, 1) := by decide +kernel
theorem d_L_account_13 : decode b_L_account 13 = .ok (.iconst 1, 1) := by decide +kernel
theorem d_L_account_14 : decode b_L_account 14 = .ok (.ireturn, 1) := by decide +kernel
theorem d_L_account_15 : decode b_L_account 15 = .ok (.iconst 0, 1) := by decide +kernel
theorem d_L_account_16 : decode b_L_account 16 = .ok (.ireturn, 1) := by decide +kernel
theorem d_L_meanRides_0 : decode b_L_meanRides 0 = .ok (.aload_n 1, 1) := by decide +kernel
theorem d_L_meanRides_1 : decode b_L_meanRides 1 = .ok (.iconst 0, 1) := by decide +kernel
theorem d_L_meanRides_2 : decode b_L_meanRides 2 = .ok (.aload_n 0, 1) := by decide +kernel
theorem d_L_meanRides_3 : decode b_L_meanRides 3 = .ok (.invokevirtual 98, 3) := by decide +kernel
theorem d_L_meanRides_6 : decode b_L_meanRides 6 = .ok (.dastore, 1) := by decide +kernel
theorem d_L_meanRides_7 : decode b_L_meanRides 7 = .ok (.goto 6, 3) := by decide +kernel
theorem d_L_meanRides_10 : decode b_L_meanRides 10 = .ok (.astore_n 2, 1) := by decide +kernel
theorem d_L_meanRides_11 : decode b_L_meanRides 11 = .ok (.iconst 1, 1) := by decide +kernel
theorem d_L_meanRides_12 : decode b_L_meanRides 12 = .ok (.ireturn, 1) := by decide +kernel
theorem d_L_meanRides_13 : decode b_L_meanRides 13 = .ok (.iconst 0, 1) := by decide +kernel
theorem d_L_meanRides_14 : decode b_L_meanRides 14 = .ok (.ireturn, 1) := by decide +kernel
theorem d_L_closedShare_0 : decode b_L_closedShare 0 = .ok (.aload_n 2, 1) := by decide +kernel
theorem d_L_closedShare_1 : decode b_L_closedShare 1 = .ok (.iconst 0, 1) := by decide +kernel
theorem d_L_closedShare_2 : decode b_L_closedShare 2 = .ok (.aload_n 0, 1) := by decide +kernel
theorem d_L_closedShare_3 : decode b_L_closedShare 3 = .ok (.iload_n 1, 1) := by decide +kernel
theorem d_L_closedShare_4 : decode b_L_closedShare 4 = .ok (.invokevirtual 104, 3) := by decide +kernel
theorem d_L_closedShare_7 : decode b_L_closedShare 7 = .ok (.f2d, 1) := by decide +kernel
theorem d_L_closedShare_8 : decode b_L_closedShare 8 = .ok (.dastore, 1) := by decide +kernel
theorem d_L_closedShare_9 : decode b_L_closedShare 9 = .ok (.goto 9, 3) := by decide +kernel
theorem d_L_closedShare_12 : decode b_L_closedShare 12 = .ok (.astore_n 3, 1) := by decide +kernel
theorem d_L_closedShare_13 : decode b_L_closedShare 13 = .ok (.iconst 1, 1) := by decide +kernel
theorem d_L_closedShare_14 : decode b_L_closedShare 14 = .ok (.ireturn, 1) := by decide +kernel
theorem d_L_closedShare_15 : decode b_L_closedShare 15 = .ok (.astore_n 3, 1) := by decide +kernel
theorem d_L_closedShare_16 : decode b_L_closedShare 16 = .ok (.iconst 2, 1) := by decide +kernel
theorem d_L_closedShare_17 : decode b_L_closedShare 17 = .ok (.ireturn, 1) := by decide +kernel
theorem d_L_closedShare_18 : decode b_L_closedShare 18 = .ok (.iconst 0, 1) := by decide +kernel
theorem d_L_closedShare_19 : decode b_L_closedShare 19 = .ok (.ireturn, 1) := by decide +kernel
theorem d_L_append_0 : decode b_L_append 0 = .ok (.aload_n 2, 1) := by decide +kernel
theorem d_L_append_1 : decode b_L_append 1 = .ok (.iconst 0, 1) := by decide +kernel
theorem d_L_append_2 : decode b_L_append 2 = .ok (.aload_n 0, 1) := by decide +kernel
theorem d_L_append_3 : decode b_L_append 3 = .ok (.iload_n 1, 1) := by decide +kernel
theorem d_L_append_4 : decode b_L_append 4 = .ok (.invokevirtual 108, 3) := by decide +kernel
theorem d_L_append_7 : decode b_L_append 7 = .ok (.i2l, 1) := by decide +kernel
theorem d_L_append_8 : decode b_L_append 8 = .ok (.lastore, 1) := by decide +kernel
theorem d_L_append_9 : decode b_L_append 9 = .ok (.goto 9, 3) := by decide +kernel
theorem d_L_append_12 : decode b_L_append 12 = .ok (.astore_n 3, 1) := by decide +kernel
theorem d_L_append_13 : decode b_L_append 13 = .ok (.iconst 1, 1) := by decide +kernel
theorem d_L_append_14 : decode b_L_append 14 = .ok (.ireturn, 1) := by decide +kernel
theorem d_L_append_15 : decode b_L_append 15 = .ok (.astore_n 3, 1) := by decide +kernel
theorem d_L_append_16 : decode b_L_append 16 = .ok (.iconst 2, 1) := by decide +kernel
theorem d_L_append_17 : decode b_L_append 17 = .ok (.ireturn, 1) := by decide +kernel
theorem d_L_append_18 : decode b_L_append 18 = .ok (.iconst 0, 1) := by decide +kernel
theorem d_L_append_19 : decode b_L_append 19 = .ok (.ireturn, 1) := by decide +kernel
theorem d_L_read_0 : decode b_L_read 0 = .ok (.aload_n 1, 1) := by decide +kernel
theorem d_L_read_1 : decode b_L_read 1 = .ok (.iconst 0, 1) := by decide +kernel
theorem d_L_read_2 : decode b_L_read 2 = .ok (.aload_n 0, 1) := by decide +kernel
theorem d_L_read_3 : decode b_L_read 3 = .ok (.invokevirtual 111, 3) := by decide +kernel
theorem d_L_read_6 : decode b_L_read 6 = .ok (.i2l, 1) := by decide +kernel
theorem d_L_read_7 : decode b_L_read 7 = .ok (.lastore, 1) := by decide +kernel
theorem d_L_read_8 : decode b_L_read 8 = .ok (.goto 9, 3) := by decide +kernel
theorem d_L_read_11 : decode b_L_read 11 = .ok (.astore_n 2, 1) := by decide +kernel
theorem d_L_read_12 : decode b_L_read 12 = .ok (.iconst 1, 1) := by decide +kernel
theorem d_L_read_13 : decode b_L_read 13 = .ok (.ireturn, 1) := by decide +kernel
theorem d_L_read_14 : decode b_L_read 14 = .ok (.astore_n 2, 1) := by decide +kernel
theorem d_L_read_15 : decode b_L_read 15 = .ok (.iconst 2, 1) := by decide +kernel
theorem d_L_read_16 : decode b_L_read 16 = .ok (.ireturn, 1) := by decide +kernel
theorem d_L_read_17 : decode b_L_read 17 = .ok (.iconst 0, 1) := by decide +kernel
theorem d_L_read_18 : decode b_L_read 18 = .ok (.ireturn, 1) := by decide +kernel
theorem d_L_errorPosition_0 : decode b_L_errorPosition 0 = .ok (.aload_n 1, 1) := by decide +kernel
theorem d_L_errorPosition_1 : decode b_L_errorPosition 1 = .ok (.iconst 0, 1) := by decide +kernel
theorem d_L_errorPosition_2 : decode b_L_errorPosition 2 = .ok (.aload_n 0, 1) := by decide +kernel
theorem d_L_errorPosition_3 : decode b_L_errorPosition 3 = .ok (.invokevirtual 115, 3) := by decide +kernel
theorem d_L_errorPosition_6 : decode b_L_errorPosition 6 = .ok (.i2l, 1) := by decide +kernel
theorem d_L_errorPosition_7 : decode b_L_errorPosition 7 = .ok (.lastore, 1) := by decide +kernel
theorem d_L_errorPosition_8 : decode b_L_errorPosition 8 = .ok (.goto 6, 3) := by decide +kernel
theorem d_L_errorPosition_11 : decode b_L_errorPosition 11 = .ok (.astore_n 2, 1) := by decide +kernel
theorem d_L_errorPosition_12 : decode b_L_errorPosition 12 = .ok (.iconst 1, 1) := by decide +kernel
theorem d_L_errorPosition_13 : decode b_L_errorPosition 13 = .ok (.ireturn, 1) := by decide +kernel
theorem d_L_errorPosition_14 : decode b_L_errorPosition 14 = .ok (.iconst 0, 1) := by decide +kernel
theorem d_L_errorPosition_15 : decode b_L_errorPosition 15 = .ok (.ireturn, 1) := by decide +kernel
theorem d_L_refusedOrder_0 : decode b_L_refusedOrder 0 = .ok (.aload_n 1, 1) := by decide +kernel
theorem d_L_refusedOrder_1 : decode b_L_refusedOrder 1 = .ok (.iconst 0, 1) := by decide +kernel
theorem d_L_refusedOrder_2 : decode b_L_refusedOrder 2 = .ok (.aload_n 0, 1) := by decide +kernel
theorem d_L_refusedOrder_3 : decode b_L_refusedOrder 3 = .ok (.invokevirtual 118, 3) := by decide +kernel
theorem d_L_refusedOrder_6 : decode b_L_refusedOrder 6 = .ok (.i2l, 1) := by decide +kernel
theorem d_L_refusedOrder_7 : decode b_L_refusedOrder 7 = .ok (.lastore, 1) := by decide +kernel
theorem d_L_refusedOrder_8 : decode b_L_refusedOrder 8 = .ok (.goto 6, 3) := by decide +kernel
theorem d_L_refusedOrder_11 : decode b_L_refusedOrder 11 = .ok (.astore_n 2, 1) := by decide +kernel
theorem d_L_refusedOrder_12 : decode b_L_refusedOrder 12 = .ok (.iconst 1, 1) := by decide +kernel
theorem d_L_refusedOrder_13 : decode b_L_refusedOrder 13 = .ok (.ireturn, 1) := by decide +kernel
theorem d_L_refusedOrder_14 : decode b_L_refusedOrder 14 = .ok (.iconst 0, 1) := by decide +kernel
theorem d_L_refusedOrder_15 : decode b_L_refusedOrder 15 = .ok (.ireturn, 1) := by decide +kernel
theorem d_L_undo_0 : decode b_L_undo 0 = .ok (.aload_n 1, 1) := by decide +kernel
theorem d_L_undo_1 : decode b_L_undo 1 = .ok (.iconst 0, 1) := by decide +kernel
theorem d_L_undo_2 : decode b_L_undo 2 = .ok (.aload_n 0, 1) := by decide +kernel
theorem d_L_undo_3 : decode b_L_undo 3 = .ok (.invokevirtual 121, 3) := by decide +kernel
theorem d_L_undo_6 : decode b_L_undo 6 = .ok (.i2l, 1) := by decide +kernel
theorem d_L_undo_7 : decode b_L_undo 7 = .ok (.lastore, 1) := by decide +kernel
theorem d_L_undo_8 : decode b_L_undo 8 = .ok (.goto 6, 3) := by decide +kernel
theorem d_L_undo_11 : decode b_L_undo 11 = .ok (.astore_n 2, 1) := by decide +kernel
theorem d_L_undo_12 : decode b_L_undo 12 = .ok (.iconst 1, 1) := by decide +kernel
theorem d_L_undo_13 : decode b_L_undo 13 = .ok (.ireturn, 1) := by decide +kernel
theorem d_L_undo_14 : decode b_L_undo 14 = .ok (.iconst 0, 1) := by decide +kernel
theorem d_L_undo_15 : decode b_L_undo 15 = .ok (.ireturn, 1) := by decide +kernel
theorem d_L_restore_0 : decode b_L_restore 0 = .ok (.aload_n 1, 1) := by decide +kernel
theorem d_L_restore_1 : decode b_L_restore 1 = .ok (.iconst 0, 1) := by decide +kernel
theorem d_L_restore_2 : decode b_L_restore 2 = .ok (.aload_n 0, 1) := by decide +kernel
theorem d_L_restore_3 : decode b_L_restore 3 = .ok (.invokevirtual 124, 3) := by decide +kernel
theorem d_L_restore_6 : decode b_L_restore 6 = .ok (.i2l, 1) := by decide +kernel
theorem d_L_restore_7 : decode b_L_restore 7 = .ok (.lastore, 1) := by decide +kernel
theorem d_L_restore_8 : decode b_L_restore 8 = .ok (.goto 6, 3) := by decide +kernel
theorem d_L_restore_11 : decode b_L_restore 11 = .ok (.astore_n 2, 1) := by decide +kernel
theorem d_L_restore_12 : decode b_L_restore 12 = .ok (.iconst 1, 1) := by decide +kernel
theorem d_L_restore_13 : decode b_L_restore 13 = .ok (.ireturn, 1) := by decide +kernel
theorem d_L_restore_14 : decode b_L_restore 14 = .ok (.iconst 0, 1) := by decide +kernel
theorem d_L_restore_15 : decode b_L_restore 15 = .ok (.ireturn, 1) := by decide +kernel
