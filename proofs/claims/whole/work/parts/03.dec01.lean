theorem d_G_commitTo_17 : decode b_G_commitTo 17 = .ok (.getfield 9, 3) := by decide +kernel
theorem d_G_commitTo_20 : decode b_G_commitTo 20 = .ok (.invokestatic 21, 3) := by decide +kernel
theorem d_G_commitTo_23 : decode b_G_commitTo 23 = .ok (.iastore, 1) := by decide +kernel
theorem d_G_commitTo_24 : decode b_G_commitTo 24 = .ok (.iinc 3 1, 3) := by decide +kernel
theorem d_G_commitTo_27 : decode b_G_commitTo 27 = .ok (.goto (-25), 3) := by decide +kernel
theorem d_G_commitTo_30 : decode b_G_commitTo 30 = .ok (.return_, 1) := by decide +kernel
theorem d_G_valueAt_0 : decode b_G_valueAt 0 = .ok (.iconst 0, 1) := by decide +kernel
theorem d_G_valueAt_1 : decode b_G_valueAt 1 = .ok (.istore_n 3, 1) := by decide +kernel
theorem d_G_valueAt_2 : decode b_G_valueAt 2 = .ok (.iconst 3, 1) := by decide +kernel
theorem d_G_valueAt_3 : decode b_G_valueAt 3 = .ok (.istore 4, 2) := by decide +kernel
theorem d_G_valueAt_5 : decode b_G_valueAt 5 = .ok (.iload 4, 2) := by decide +kernel
theorem d_G_valueAt_7 : decode b_G_valueAt 7 = .ok (.ifCond .lt 24, 3) := by decide +kernel
theorem d_G_valueAt_10 : decode b_G_valueAt 10 = .ok (.aload_n 0, 1) := by decide +kernel
theorem d_G_valueAt_11 : decode b_G_valueAt 11 = .ok (.aload_n 0, 1) := by decide +kernel
theorem d_G_valueAt_12 : decode b_G_valueAt 12 = .ok (.iload_n 3, 1) := by decide +kernel
theorem d_G_valueAt_13 : decode b_G_valueAt 13 = .ok (.iload_n 1, 1) := by decide +kernel
theorem d_G_valueAt_14 : decode b_G_valueAt 14 = .ok (.invokevirtual 32, 3) := by decide +kernel
theorem d_G_valueAt_17 : decode b_G_valueAt 17 = .ok (.aload_n 2, 1) := by decide +kernel
theorem d_G_valueAt_18 : decode b_G_valueAt 18 = .ok (.iload 4, 2) := by decide +kernel
theorem d_G_valueAt_20 : decode b_G_valueAt 20 = .ok (.iaload, 1) := by decide +kernel
theorem d_G_valueAt_21 : decode b_G_valueAt 21 = .ok (.invokevirtual 36, 3) := by decide +kernel
theorem d_G_valueAt_24 : decode b_G_valueAt 24 = .ok (.istore_n 3, 1) := by decide +kernel
theorem d_G_valueAt_25 : decode b_G_valueAt 25 = .ok (.iinc 4 (-1), 3) := by decide +kernel
theorem d_G_valueAt_28 : decode b_G_valueAt 28 = .ok (.goto (-23), 3) := by decide +kernel
theorem d_G_valueAt_31 : decode b_G_valueAt 31 = .ok (.iload_n 3, 1) := by decide +kernel
theorem d_G_valueAt_32 : decode b_G_valueAt 32 = .ok (.ireturn, 1) := by decide +kernel
theorem d_G_multiplyNumbers_0 : decode b_G_multiplyNumbers 0 = .ok (.iload_n 1, 1) := by decide +kernel
theorem d_G_multiplyNumbers_1 : decode b_G_multiplyNumbers 1 = .ok (.i2l, 1) := by decide +kernel
theorem d_G_multiplyNumbers_2 : decode b_G_multiplyNumbers 2 = .ok (.iload_n 2, 1) := by decide +kernel
theorem d_G_multiplyNumbers_3 : decode b_G_multiplyNumbers 3 = .ok (.i2l, 1) := by decide +kernel
theorem d_G_multiplyNumbers_4 : decode b_G_multiplyNumbers 4 = .ok (.lmul, 1) := by decide +kernel
theorem d_G_multiplyNumbers_5 : decode b_G_multiplyNumbers 5 = .ok (.aload_n 0, 1) := by decide +kernel
theorem d_G_multiplyNumbers_6 : decode b_G_multiplyNumbers 6 = .ok (.getfield 15, 3) := by decide +kernel
theorem d_G_multiplyNumbers_9 : decode b_G_multiplyNumbers 9 = .ok (.i2l, 1) := by decide +kernel
theorem d_G_multiplyNumbers_10 : decode b_G_multiplyNumbers 10 = .ok (.lrem, 1) := by decide +kernel
theorem d_G_multiplyNumbers_11 : decode b_G_multiplyNumbers 11 = .ok (.l2i, 1) := by decide +kernel
theorem d_G_multiplyNumbers_12 : decode b_G_multiplyNumbers 12 = .ok (.ireturn, 1) := by decide +kernel
theorem d_G_addNumbers_0 : decode b_G_addNumbers 0 = .ok (.iload_n 1, 1) := by decide +kernel
theorem d_G_addNumbers_1 : decode b_G_addNumbers 1 = .ok (.iload_n 2, 1) := by decide +kernel
theorem d_G_addNumbers_2 : decode b_G_addNumbers 2 = .ok (.iadd, 1) := by decide +kernel
theorem d_G_addNumbers_3 : decode b_G_addNumbers 3 = .ok (.aload_n 0, 1) := by decide +kernel
theorem d_G_addNumbers_4 : decode b_G_addNumbers 4 = .ok (.getfield 15, 3) := by decide +kernel
theorem d_G_addNumbers_7 : decode b_G_addNumbers 7 = .ok (.irem, 1) := by decide +kernel
theorem d_G_addNumbers_8 : decode b_G_addNumbers 8 = .ok (.ireturn, 1) := by decide +kernel
theorem d_L_fault_0 : decode b_L_fault 0 = .ok (.aload_n 0, 1) := by decide +kernel
theorem d_L_fault_1 : decode b_L_fault 1 = .ok (.iload_n 1, 1) := by decide +kernel
theorem d_L_fault_2 : decode b_L_fault 2 = .ok (.iload_n 2, 1) := by decide +kernel
theorem d_L_fault_3 : decode b_L_fault 3 = .ok (.invokevirtual 21, 3) := by decide +kernel
theorem d_L_fault_6 : decode b_L_fault 6 = .ok (.goto 15, 3) := by decide +kernel
theorem d_L_fault_9 : decode b_L_fault 9 = .ok (.astore_n 3, 1) := by decide +kernel
theorem d_L_fault_10 : decode b_L_fault 10 = .ok (.iconst 1, 1) := by decide +kernel
theorem d_L_fault_11 : decode b_L_fault 11 = .ok (.ireturn, 1) := by decide +kernel
theorem d_L_fault_12 : decode b_L_fault 12 = .ok (.astore_n 3, 1) := by decide +kernel
theorem d_L_fault_13 : decode b_L_fault 13 = .ok (.iconst 2, 1) := by decide +kernel
theorem d_L_fault_14 : decode b_L_fault 14 = .ok (.ireturn, 1) := by decide +kernel
theorem d_L_fault_15 : decode b_L_fault 15 = .ok (.astore_n 3, 1) := by decide +kernel
theorem d_L_fault_16 : decode b_L_fault 16 = .ok (.iconst 3, 1) := by decide +kernel
theorem d_L_fault_17 : decode b_L_fault 17 = .ok (.ireturn, 1) := by decide +kernel
theorem d_L_fault_18 : decode b_L_fault 18 = .ok (.astore_n 3, 1) := by decide +kernel
theorem d_L_fault_19 : decode b_L_fault 19 = .ok (.iconst 4, 1) := by decide +kernel
theorem d_L_fault_20 : decode b_L_fault 20 = .ok (.ireturn, 1) := by decide +kernel
theorem d_L_fault_21 : decode b_L_fault 21 = .ok (.iconst 0, 1) := by decide +kernel
theorem d_L_fault_22 : decode b_L_fault 22 = .ok (.ireturn, 1) := by decide +kernel
theorem d_K_fault_0 : decode b_K_fault 0 = .ok (.aload_n 0, 1) := by decide +kernel
theorem d_K_fault_1 : decode b_K_fault 1 = .ok (.invokevirtual 95, 3) := by decide +kernel
theorem d_K_fault_4 : decode b_K_fault 4 = .ok (.iload_n 1, 1) := by decide +kernel
theorem d_K_fault_5 : decode b_K_fault 5 = .ok (.invokestatic 98, 3) := by decide +kernel
theorem d_K_fault_8 : decode b_K_fault 8 = .ok (.iload_n 2, 1) := by decide +kernel
theorem d_K_fault_9 : decode b_K_fault 9 = .ok (.ifCond .lt 9, 3) := by decide +kernel
theorem d_K_fault_12 : decode b_K_fault 12 = .ok (.iload_n 2, 1) := by decide +kernel
theorem d_K_fault_13 : decode b_K_fault 13 = .ok (.bipush 6, 2) := by decide +kernel
theorem d_K_fault_15 : decode b_K_fault 15 = .ok (.if_icmp .le 11, 3) := by decide +kernel
theorem d_K_fault_18 : decode b_K_fault 18 = .ok (.new 50, 3) := by decide +kernel
theorem d_K_fault_21 : decode b_K_fault 21 = .ok (.dup, 1) := by decide +kernel
theorem d_K_fault_22 : decode b_K_fault 22 = .ok (.invokespecial 52, 3) := by decide +kernel
theorem d_K_fault_25 : decode b_K_fault 25 = .ok (.athrow, 1) := by decide +kernel
theorem d_K_fault_26 : decode b_K_fault 26 = .ok (.aload_n 0, 1) := by decide +kernel
theorem d_K_fault_27 : decode b_K_fault 27 = .ok (.getfield 28, 3) := by decide +kernel
theorem d_K_fault_30 : decode b_K_fault 30 = .ok (.iload_n 1, 1) := by decide +kernel
theorem d_K_fault_31 : decode b_K_fault 31 = .ok (.invokevirtual 102, 3) := by decide +kernel
theorem d_K_fault_34 : decode b_K_fault 34 = .ok (.ifCond .ne 15, 3) := by decide +kernel
theorem d_K_fault_37 : decode b_K_fault 37 = .ok (.aload_n 0, 1) := by decide +kernel
theorem d_K_fault_38 : decode b_K_fault 38 = .ok (.getfield 28, 3) := by decide +kernel
theorem d_K_fault_41 : decode b_K_fault 41 = .ok (.iload_n 1, 1) := by decide +kernel
theorem d_K_fault_42 : decode b_K_fault 42 = .ok (.iload_n 2, 1) := by decide +kernel
theorem d_K_fault_43 : decode b_K_fault 43 = .ok (.invokevirtual 105, 3) := by decide +kernel
theorem d_K_fault_46 : decode b_K_fault 46 = .ok (.ifCond .eq 11, 3) := by decide +kernel
theorem d_K_fault_49 : decode b_K_fault 49 = .ok (.new 109, 3) := by decide +kernel
theorem d_K_fault_52 : decode b_K_fault 52 = .ok (.dup, 1) := by decide +kernel
theorem d_K_fault_53 : decode b_K_fault 53 = .ok (.invokespecial 111, 3) := by decide +kernel
theorem d_K_fault_56 : decode b_K_fault 56 = .ok (.athrow, 1) := by decide +kernel
theorem d_K_fault_57 : decode b_K_fault 57 = .ok (.aload_n 0, 1) := by decide +kernel
theorem d_K_fault_58 : decode b_K_fault 58 = .ok (.getfield 28, 3) := by decide +kernel
theorem d_K_fault_61 : decode b_K_fault 61 = .ok (.iload_n 1, 1) := by decide +kernel
theorem d_K_fault_62 : decode b_K_fault 62 = .ok (.iload_n 2, 1) := by decide +kernel
theorem d_K_fault_63 : decode b_K_fault 63 = .ok (.invokevirtual 112, 3) := by decide +kernel
theorem d_K_fault_66 : decode b_K_fault 66 = .ok (.return_, 1) := by decide +kernel
theorem d_K_requireFounded_0 : decode b_K_requireFounded 0 = .ok (.aload_n 0, 1) := by decide +kernel
theorem d_K_requireFounded_1 : decode b_K_requireFounded 1 = .ok (.getfield 42, 3) := by decide +kernel
theorem d_K_requireFounded_4 : decode b_K_requireFounded 4 = .ok (.ifCond .ne 11, 3) := by decide +kernel
theorem d_K_requireFounded_7 : decode b_K_requireFounded 7 = .ok (.new 73, 3) := by decide +kernel
theorem d_K_requireFounded_10 : decode b_K_requireFounded 10 = .ok (.dup, 1) := by decide +kernel
theorem d_K_requireFounded_11 : decode b_K_requireFounded 11 = .ok (.invokespecial 75, 3) := by decide +kernel
theorem d_K_requireFounded_14 : decode b_K_requireFounded 14 = .ok (.athrow, 1) := by decide +kernel
theorem d_K_requireFounded_15 : decode b_K_requireFounded 15 = .ok (.return_, 1) := by decide +kernel
theorem d_K_requireSeat_0 : decode b_K_requireSeat 0 = .ok (.iload_n 0, 1) := by decide +kernel
theorem d_K_requireSeat_1 : decode b_K_requireSeat 1 = .ok (.iconst 1, 1) := by decide +kernel
theorem d_K_requireSeat_2 : decode b_K_requireSeat 2 = .ok (.if_icmp .lt 9, 3) := by decide +kernel
theorem d_K_requireSeat_5 : decode b_K_requireSeat 5 = .ok (.iload_n 0, 1) := by decide +kernel
theorem d_K_requireSeat_6 : decode b_K_requireSeat 6 = .ok (.bipush 7, 2) := by decide +kernel
theorem d_K_requireSeat_8 : decode b_K_requireSeat 8 = .ok (.if_icmp .le 11, 3) := by decide +kernel
theorem d_K_requireSeat_11 : decode b_K_requireSeat 11 = .ok (.new 213, 3) := by decide +kernel
theorem d_K_requireSeat_14 : decode b_K_requireSeat 14 = .ok (.dup, 1) := by decide +kernel
theorem d_K_requireSeat_15 : decode b_K_requireSeat 15 = .ok (.invokespecial 215, 3) := by decide +kernel
theorem d_K_requireSeat_18 : decode b_K_requireSeat 18 = .ok (.athrow, 1) := by decide +kernel
theorem d_K_requireSeat_19 : decode b_K_requireSeat 19 = .ok (.return_, 1) := by decide +kernel
theorem d_V_hasDealt_0 : decode b_V_hasDealt 0 = .ok (.aload_n 0, 1) := by decide +kernel
theorem d_V_hasDealt_1 : decode b_V_hasDealt 1 = .ok (.getfield 42, 3) := by decide +kernel
theorem d_V_hasDealt_4 : decode b_V_hasDealt 4 = .ok (.iload_n 1, 1) := by decide +kernel
theorem d_V_hasDealt_5 : decode b_V_hasDealt 5 = .ok (.invokestatic 49, 3) := by decide +kernel
theorem d_V_hasDealt_8 : decode b_V_hasDealt 8 = .ok (.ireturn, 1) := by decide +kernel
theorem d_K_isAmong_0 : decode b_K_isAmong 0 = .ok (.iload_n 0, 1) := by decide +kernel
theorem d_K_isAmong_1 : decode b_K_isAmong 1 = .ok (.iload_n 1, 1) := by decide +kernel
theorem d_K_isAmong_2 : decode b_K_isAmong 2 = .ok (.invokestatic 229, 3) := by decide +kernel
theorem d_K_isAmong_5 : decode b_K_isAmong 5 = .ok (.iand, 1) := by decide +kernel
theorem d_K_isAmong_6 : decode b_K_isAmong 6 = .ok (.ifCond .eq 7, 3) := by decide +kernel
theorem d_K_isAmong_9 : decode b_K_isAmong 9 = .ok (.iconst 1, 1) := by decide +kernel
theorem d_K_isAmong_10 : decode b_K_isAmong 10 = .ok (.goto 4, 3) := by decide +kernel
theorem d_K_isAmong_13 : decode b_K_isAmong 13 = .ok (.iconst 0, 1) := by decide +kernel
theorem d_K_isAmong_14 : decode b_K_isAmong 14 = .ok (.ireturn, 1) := by decide +kernel
theorem d_K_bit_0 : decode b_K_bit 0 = .ok (.iconst 1, 1) := by decide +kernel
theorem d_K_bit_1 : decode b_K_bit 1 = .ok (.iload_n 0, 1) := by decide +kernel
theorem d_K_bit_2 : decode b_K_bit 2 = .ok (.iconst 1, 1) := by decide +kernel
theorem d_K_bit_3 : decode b_K_bit 3 = .ok (.isub, 1) := by decide +kernel
theorem d_K_bit_4 : decode b_K_bit 4 = .ok (.ishl, 1) := by decide +kernel
theorem d_K_bit_5 : decode b_K_bit 5 = .ok (.ireturn, 1) := by decide +kernel
theorem d_V_isOneTooMany_0 : decode b_V_isOneTooMany 0 = .ok (.iload_n 2, 1) := by decide +kernel
theorem d_V_isOneTooMany_1 : decode b_V_isOneTooMany 1 = .ok (.ifCond .eq 23, 3) := by decide +kernel
theorem d_V_isOneTooMany_4 : decode b_V_isOneTooMany 4 = .ok (.aload_n 0, 1) := by decide +kernel
theorem d_V_isOneTooMany_5 : decode b_V_isOneTooMany 5 = .ok (.invokevirtual 53, 3) := by decide +kernel
theorem d_V_isOneTooMany_8 : decode b_V_isOneTooMany 8 = .ok (.iload_n 1, 1) := by decide +kernel
theorem d_V_isOneTooMany_9 : decode b_V_isOneTooMany 9 = .ok (.invokestatic 57, 3) := by decide +kernel
theorem d_V_isOneTooMany_12 : decode b_V_isOneTooMany 12 = .ok (.ior, 1) := by decide +kernel
theorem d_V_isOneTooMany_13 : decode b_V_isOneTooMany 13 = .ok (.invokestatic 61, 3) := by decide +kernel
theorem d_V_isOneTooMany_16 : decode b_V_isOneTooMany 16 = .ok (.iconst 3, 1) := by decide +kernel
theorem d_V_isOneTooMany_17 : decode b_V_isOneTooMany 17 = .ok (.if_icmp .le 7, 3) := by decide +kernel
theorem d_V_isOneTooMany_20 : decode b_V_isOneTooMany 20 = .ok (.iconst 1, 1) := by decide +kernel
theorem d_V_isOneTooMany_21 : decode b_V_isOneTooMany 21 = .ok (.goto 4, 3) := by decide +kernel
theorem d_V_isOneTooMany_24 : decode b_V_isOneTooMany 24 = .ok (.iconst 0, 1) := by decide +kernel
theorem d_V_isOneTooMany_25 : decode b_V_isOneTooMany 25 = .ok (.ireturn, 1) := by decide +kernel
theorem d_V_faulty_0 : decode b_V_faulty 0 = .ok (.iconst 0, 1) := by decide +kernel
theorem d_V_faulty_1 : decode b_V_faulty 1 = .ok (.istore_n 1, 1) := by decide +kernel
theorem d_V_faulty_2 : decode b_V_faulty 2 = .ok (.iconst 1, 1) := by decide +kernel
theorem d_V_faulty_3 : decode b_V_faulty 3 = .ok (.istore_n 2, 1) := by decide +kernel
theorem d_V_faulty_4 : decode b_V_faulty 4 = .ok (.iload_n 2, 1) := by decide +kernel
theorem d_V_faulty_5 : decode b_V_faulty 5 = .ok (.bipush 7, 2) := by decide +kernel
theorem d_V_faulty_7 : decode b_V_faulty 7 = .ok (.if_icmp .gt 25, 3) := by decide +kernel
theorem d_V_faulty_10 : decode b_V_faulty 10 = .ok (.aload_n 0, 1) := by decide +kernel
theorem d_V_faulty_11 : decode b_V_faulty 11 = .ok (.getfield 9, 3) := by decide +kernel
theorem d_V_faulty_14 : decode b_V_faulty 14 = .ok (.iload_n 2, 1) := by decide +kernel
theorem d_V_faulty_15 : decode b_V_faulty 15 = .ok (.iaload, 1) := by decide +kernel
theorem d_V_faulty_16 : decode b_V_faulty 16 = .ok (.ifCond .eq 10, 3) := by decide +kernel
theorem d_V_faulty_19 : decode b_V_faulty 19 = .ok (.iload_n 1, 1) := by decide +kernel
theorem d_V_faulty_20 : decode b_V_faulty 20 = .ok (.iload_n 2, 1) := by decide +kernel
theorem d_V_faulty_21 : decode b_V_faulty 21 = .ok (.invokestatic 57, 3) := by decide +kernel
theorem d_V_faulty_24 : decode b_V_faulty 24 = .ok (.ior, 1) := by decide +kernel
theorem d_V_faulty_25 : decode b_V_faulty 25 = .ok (.istore_n 1, 1) := by decide +kernel
theorem d_V_faulty_26 : decode b_V_faulty 26 = .ok (.iinc 2 1, 3) := by decide +kernel
theorem d_V_faulty_29 : decode b_V_faulty 29 = .ok (.goto (-25), 3) := by decide +kernel
theorem d_V_faulty_32 : decode b_V_faulty 32 = .ok (.iload_n 1, 1) := by decide +kernel
theorem d_V_faulty_33 : decode b_V_faulty 33 = .ok (.ireturn, 1) := by decide +kernel
theorem d_JI_bitCount_0 : decode b_JI_bitCount 0 = .ok (.iload_n 0, 1) := by decide +kernel
theorem d_JI_bitCount_1 : decode b_JI_bitCount 1 = .ok (.iload_n 0, 1) := by decide +kernel
theorem d_JI_bitCount_2 : decode b_JI_bitCount 2 = .ok (.iconst 1, 1) := by decide +kernel
theorem d_JI_bitCount_3 : decode b_JI_bitCount 3 = .ok (.iushr, 1) := by decide +kernel
theorem d_JI_bitCount_4 : decode b_JI_bitCount 4 = .ok (.ldc_w 265, 3) := by decide +kernel
theorem d_JI_bitCount_7 : decode b_JI_bitCount 7 = .ok (.iand, 1) := by decide +kernel
theorem d_JI_bitCount_8 : decode b_JI_bitCount 8 = .ok (.isub, 1) := by decide +kernel
theorem d_JI_bitCount_9 : decode b_JI_bitCount 9 = .ok (.istore_n 0, 1) := by decide +kernel
theorem d_JI_bitCount_10 : decode b_JI_bitCount 10 = .ok (.iload_n 0, 1) := by decide +kernel
theorem d_JI_bitCount_11 : decode b_JI_bitCount 11 = .ok (.ldc_w 266, 3) := by decide +kernel
theorem d_JI_bitCount_14 : decode b_JI_bitCount 14 = .ok (.iand, 1) := by decide +kernel
theorem d_JI_bitCount_15 : decode b_JI_bitCount 15 = .ok (.iload_n 0, 1) := by decide +kernel
theorem d_JI_bitCount_16 : decode b_JI_bitCount 16 = .ok (.iconst 2, 1) := by decide +kernel
theorem d_JI_bitCount_17 : decode b_JI_bitCount 17 = .ok (.iushr, 1) := by decide +kernel
theorem d_JI_bitCount_18 : decode b_JI_bitCount 18 = .ok (.ldc_w 266, 3) := by decide +kernel
theorem d_JI_bitCount_21 : decode b_JI_bitCount 21 = .ok (.iand, 1) := by decide +kernel
theorem d_JI_bitCount_22 : decode b_JI_bitCount 22 = .ok (.iadd, 1) := by decide +kernel
theorem d_JI_bitCount_23 : decode b_JI_bitCount 23 = .ok (.istore_n 0, 1) := by decide +kernel
theorem d_JI_bitCount_24 : decode b_JI_bitCount 24 = .ok (.iload_n 0, 1) := by decide +kernel
theorem d_JI_bitCount_25 : decode b_JI_bitCount 25 = .ok (.iload_n 0, 1) := by decide +kernel
theorem d_JI_bitCount_26 : decode b_JI_bitCount 26 = .ok (.iconst 4, 1) := by decide +kernel
theorem d_JI_bitCount_27 : decode b_JI_bitCount 27 = .ok (.iushr, 1) := by decide +kernel
theorem d_JI_bitCount_28 : decode b_JI_bitCount 28 = .ok (.iadd, 1) := by decide +kernel
theorem d_JI_bitCount_29 : decode b_JI_bitCount 29 = .ok (.ldc_w 267, 3) := by decide +kernel
theorem d_JI_bitCount_32 : decode b_JI_bitCount 32 = .ok (.iand, 1) := by decide +kernel
theorem d_JI_bitCount_33 : decode b_JI_bitCount 33 = .ok (.istore_n 0, 1) := by decide +kernel
theorem d_JI_bitCount_34 : decode b_JI_bitCount 34 = .ok (.iload_n 0, 1) := by decide +kernel
theorem d_JI_bitCount_35 : decode b_JI_bitCount 35 = .ok (.iload_n 0, 1) := by decide +kernel
theorem d_JI_bitCount_36 : decode b_JI_bitCount 36 = .ok (.bipush 8, 2) := by decide +kernel
theorem d_JI_bitCount_38 : decode b_JI_bitCount 38 = .ok (.iushr, 1) := by decide +kernel
theorem d_JI_bitCount_39 : decode b_JI_bitCount 39 = .ok (.iadd, 1) := by decide +kernel
theorem d_JI_bitCount_40 : decode b_JI_bitCount 40 = .ok (.istore_n 0, 1) := by decide +kernel
theorem d_JI_bitCount_41 : decode b_JI_bitCount 41 = .ok (.iload_n 0, 1) := by decide +kernel
theorem d_JI_bitCount_42 : decode b_JI_bitCount 42 = .ok (.iload_n 0, 1) := by decide +kernel
theorem d_JI_bitCount_43 : decode b_JI_bitCount 43 = .ok (.bipush 16, 2) := by decide +kernel
theorem d_JI_bitCount_45 : decode b_JI_bitCount 45 = .ok (.iushr, 1) := by decide +kernel
theorem d_JI_bitCount_46 : decode b_JI_bitCount 46 = .ok (.iadd, 1) := by decide +kernel
theorem d_JI_bitCount_47 : decode b_JI_bitCount 47 = .ok (.istore_n 0, 1) := by decide +kernel
theorem d_JI_bitCount_48 : decode b_JI_bitCount 48 = .ok (.iload_n 0, 1) := by decide +kernel
theorem d_JI_bitCount_49 : decode b_JI_bitCount 49 = .ok (.bipush 63, 2) := by decide +kernel
theorem d_JI_bitCount_51 : decode b_JI_bitCount 51 = .ok (.iand, 1) := by decide +kernel
theorem d_JI_bitCount_52 : decode b_JI_bitCount 52 = .ok (.ireturn, 1) := by decide +kernel
theorem d_V_turn_0 : decode b_V_turn 0 = .ok (.aload_n 0, 1) := by decide +kernel
theorem d_V_turn_1 : decode b_V_turn 1 = .ok (.getfield 9, 3) := by decide +kernel
theorem d_V_turn_4 : decode b_V_turn 4 = .ok (.iload_n 1, 1) := by decide +kernel
theorem d_V_turn_5 : decode b_V_turn 5 = .ok (.iload_n 2, 1) := by decide +kernel
theorem d_V_turn_6 : decode b_V_turn 6 = .ok (.iastore, 1) := by decide +kernel
theorem d_V_turn_7 : decode b_V_turn 7 = .ok (.return_, 1) := by decide +kernel
theorem d_L_deal_0 : decode b_L_deal 0 = .ok (.aload_n 0, 1) := by decide +kernel
theorem d_L_deal_1 : decode b_L_deal 1 = .ok (.iload_n 1, 1) := by decide +kernel
theorem d_L_deal_2 : decode b_L_deal 2 = .ok (.iload_n 2, 1) := by decide +kernel
theorem d_L_deal_3 : decode b_L_deal 3 = .ok (.iload_n 3, 1) := by decide +kernel
theorem d_L_deal_4 : decode b_L_deal 4 = .ok (.iload 4, 2) := by decide +kernel
theorem d_L_deal_6 : decode b_L_deal 6 = .ok (.invokevirtual 29, 3) := by decide +kernel
theorem d_L_deal_9 : decode b_L_deal 9 = .ok (.goto 19, 3) := by decide +kernel
theorem d_L_deal_12 : decode b_L_deal 12 = .ok (.astore 5, 2) := by decide +kernel
theorem d_L_deal_14 : decode b_L_deal 14 = .ok (.iconst 1, 1) := by decide +kernel
theorem d_L_deal_15 : decode b_L_deal 15 = .ok (.ireturn, 1) := by decide +kernel
theorem d_L_deal_16 : decode b_L_deal 16 = .ok (.astore 5, 2) := by decide +kernel
theorem d_L_deal_18 : decode b_L_deal 18 = .ok (.iconst 2, 1) := by decide +kernel
theorem d_L_deal_19 : decode b_L_deal 19 = .ok (.ireturn, 1) := by decide +kernel
theorem d_L_deal_20 : decode b_L_deal 20 = .ok (.astore 5, 2) := by decide +kernel
theorem d_L_deal_22 : decode b_L_deal 22 = .ok (.iconst 3, 1) := by decide +kernel
theorem d_L_deal_23 : decode b_L_deal 23 = .ok (.ireturn, 1) := by decide +kernel
theorem d_L_deal_24 : decode b_L_deal 24 = .ok (.astore 5, 2) := by decide +kernel
theorem d_L_deal_26 : decode b_L_deal 26 = .ok (.iconst 4, 1) := by decide +kernel
theorem d_L_deal_27 : decode b_L_deal 27 = .ok (.ireturn, 1) := by decide +kernel
theorem d_L_deal_28 : decode b_L_deal 28 = .ok (.iconst 0, 1) := by decide +kernel
theorem d_L_deal_29 : decode b_L_deal 29 = .ok (.ireturn, 1) := by decide +kernel
theorem d_K_deal_0 : decode b_K_deal 0 = .ok (.aload_n 0, 1) := by decide +kernel
theorem d_K_deal_1 : decode b_K_deal 1 = .ok (.invokevirtual 95, 3) := by decide +kernel
theorem d_K_deal_4 : decode b_K_deal 4 = .ok (.iload_n 1, 1) := by decide +kernel
theorem d_K_deal_5 : decode b_K_deal 5 = .ok (.invokestatic 98, 3) := by decide +kernel
theorem d_K_deal_8 : decode b_K_deal 8 = .ok (.aload_n 0, 1) := by decide +kernel
theorem d_K_deal_9 : decode b_K_deal 9 = .ok (.getfield 12, 3) := by decide +kernel
theorem d_K_deal_12 : decode b_K_deal 12 = .ok (.iload_n 2, 1) := by decide +kernel
theorem d_K_deal_13 : decode b_K_deal 13 = .ok (.iload_n 3, 1) := by decide +kernel
theorem d_K_deal_14 : decode b_K_deal 14 = .ok (.iload 4, 2) := by decide +kernel
theorem d_K_deal_16 : decode b_K_deal 16 = .ok (.invokevirtual 80, 3) := by decide +kernel
theorem d_K_deal_19 : decode b_K_deal 19 = .ok (.ifCond .ne 11, 3) := by decide +kernel
theorem d_K_deal_22 : decode b_K_deal 22 = .ok (.new 50, 3) := by decide +kernel
theorem d_K_deal_25 : decode b_K_deal 25 = .ok (.dup, 1) := by decide +kernel
theorem d_K_deal_26 : decode b_K_deal 26 = .ok (.invokespecial 52, 3) := by decide +kernel
theorem d_K_deal_29 : decode b_K_deal 29 = .ok (.athrow, 1) := by decide +kernel
theorem d_K_deal_30 : decode b_K_deal 30 = .ok (.aload_n 0, 1) := by decide +kernel
theorem d_K_deal_31 : decode b_K_deal 31 = .ok (.getfield 28, 3) := by decide +kernel
theorem d_K_deal_34 : decode b_K_deal 34 = .ok (.iload_n 1, 1) := by decide +kernel
theorem d_K_deal_35 : decode b_K_deal 35 = .ok (.invokevirtual 102, 3) := by decide +kernel
theorem d_K_deal_38 : decode b_K_deal 38 = .ok (.ifCond .ne 13, 3) := by decide +kernel
theorem d_K_deal_41 : decode b_K_deal 41 = .ok (.aload_n 0, 1) := by decide +kernel
theorem d_K_deal_42 : decode b_K_deal 42 = .ok (.getfield 19, 3) := by decide +kernel
theorem d_K_deal_45 : decode b_K_deal 45 = .ok (.invokevirtual 116, 3) := by decide +kernel
theorem d_K_deal_48 : decode b_K_deal 48 = .ok (.ifCond .ne 11, 3) := by decide +kernel
theorem d_K_deal_51 : decode b_K_deal 51 = .ok (.new 109, 3) := by decide +kernel
theorem d_K_deal_54 : decode b_K_deal 54 = .ok (.dup, 1) := by decide +kernel
theorem d_K_deal_55 : decode b_K_deal 55 = .ok (.invokespecial 111, 3) := by decide +kernel
theorem d_K_deal_58 : decode b_K_deal 58 = .ok (.athrow, 1) := by decide +kernel
theorem d_K_deal_59 : decode b_K_deal 59 = .ok (.aload_n 0, 1) := by decide +kernel
theorem d_K_deal_60 : decode b_K_deal 60 = .ok (.getfield 28, 3) := by decide +kernel
theorem d_K_deal_63 : decode b_K_deal 63 = .ok (.iload_n 1, 1) := by decide +kernel
theorem d_K_deal_64 : decode b_K_deal 64 = .ok (.invokevirtual 120, 3) := by decide +kernel
theorem d_K_deal_67 : decode b_K_deal 67 = .ok (.ifCond .eq 14, 3) := by decide +kernel
theorem d_K_deal_70 : decode b_K_deal 70 = .ok (.aload_n 0, 1) := by decide +kernel
theorem d_K_deal_71 : decode b_K_deal 71 = .ok (.getfield 28, 3) := by decide +kernel
theorem d_K_deal_74 : decode b_K_deal 74 = .ok (.iload_n 1, 1) := by decide +kernel
theorem d_K_deal_75 : decode b_K_deal 75 = .ok (.invokevirtual 123, 3) := by decide +kernel
theorem d_K_deal_78 : decode b_K_deal 78 = .ok (.goto 35, 3) := by decide +kernel
theorem d_K_deal_81 : decode b_K_deal 81 = .ok (.aload_n 0, 1) := by decide +kernel
theorem d_K_deal_82 : decode b_K_deal 82 = .ok (.getfield 28, 3) := by decide +kernel
theorem d_K_deal_85 : decode b_K_deal 85 = .ok (.iload_n 1, 1) := by decide +kernel
theorem d_K_deal_86 : decode b_K_deal 86 = .ok (.iload_n 2, 1) := by decide +kernel
theorem d_K_deal_87 : decode b_K_deal 87 = .ok (.iload_n 3, 1) := by decide +kernel
theorem d_K_deal_88 : decode b_K_deal 88 = .ok (.iload 4, 2) := by decide +kernel
theorem d_K_deal_90 : decode b_K_deal 90 = .ok (.invokevirtual 126, 3) := by decide +kernel
theorem d_K_deal_93 : decode b_K_deal 93 = .ok (.aload_n 0, 1) := by decide +kernel
theorem d_K_deal_94 : decode b_K_deal 94 = .ok (.getfield 19, 3) := by decide +kernel
theorem d_K_deal_97 : decode b_K_deal 97 = .ok (.iload_n 1, 1) := by decide +kernel
theorem d_K_deal_98 : decode b_K_deal 98 = .ok (.aload_n 0, 1) := by decide +kernel
theorem d_K_deal_99 : decode b_K_deal 99 = .ok (.getfield 42, 3) := by decide +kernel
theorem d_K_deal_102 : decode b_K_deal 102 = .ok (.aload_n 0, 1) := by decide +kernel
theorem d_K_deal_103 : decode b_K_deal 103 = .ok (.getfield 28, 3) := by decide +kernel
theorem d_K_deal_106 : decode b_K_deal 106 = .ok (.iload_n 1, 1) := by decide +kernel
theorem d_K_deal_107 : decode b_K_deal 107 = .ok (.invokevirtual 130, 3) := by decide +kernel
theorem d_K_deal_110 : decode b_K_deal 110 = .ok (.invokevirtual 134, 3) := by decide +kernel
theorem d_K_deal_113 : decode b_K_deal 113 = .ok (.return_, 1) := by decide +kernel
theorem d_B_room_0 : decode b_B_room 0 = .ok (.sipush 250, 3) := by decide +kernel
theorem d_B_room_3 : decode b_B_room 3 = .ok (.aload_n 0, 1) := by decide +kernel
theorem d_B_room_4 : decode b_B_room 4 = .ok (.getfield 15, 3) := by decide +kernel
theorem d_B_room_7 : decode b_B_room 7 = .ok (.isub, 1) := by decide +kernel
theorem d_B_room_8 : decode b_B_room 8 = .ok (.ireturn, 1) := by decide +kernel
theorem d_V_isSilent_0 : decode b_V_isSilent 0 = .ok (.aload_n 0, 1) := by decide +kernel
theorem d_V_isSilent_1 : decode b_V_isSilent 1 = .ok (.getfield 9, 3) := by decide +kernel
theorem d_V_isSilent_4 : decode b_V_isSilent 4 = .ok (.iload_n 1, 1) := by decide +kernel
theorem d_V_isSilent_5 : decode b_V_isSilent 5 = .ok (.iaload, 1) := by decide +kernel
theorem d_V_isSilent_6 : decode b_V_isSilent 6 = .ok (.iconst 1, 1) := by decide +kernel
theorem d_V_isSilent_7 : decode b_V_isSilent 7 = .ok (.if_icmp .ne 7, 3) := by decide +kernel
theorem d_V_isSilent_10 : decode b_V_isSilent 10 = .ok (.iconst 1, 1) := by decide +kernel
theorem d_V_isSilent_11 : decode b_V_isSilent 11 = .ok (.goto 4, 3) := by decide +kernel
theorem d_V_isSilent_14 : decode b_V_isSilent 14 = .ok (.iconst 0, 1) := by decide +kernel
theorem d_V_isSilent_15 : decode b_V_isSilent 15 = .ok (.ireturn, 1) := by decide +kernel
theorem d_V_passOver_0 : decode b_V_passOver 0 = .ok (.aload_n 0, 1) := by decide +kernel
theorem d_V_passOver_1 : decode b_V_passOver 1 = .ok (.dup, 1) := by decide +kernel
theorem d_V_passOver_2 : decode b_V_passOver 2 = .ok (.getfield 42, 3) := by decide +kernel
theorem d_V_passOver_5 : decode b_V_passOver 5 = .ok (.iload_n 1, 1) := by decide +kernel
theorem d_V_passOver_6 : decode b_V_passOver 6 = .ok (.invokestatic 57, 3) := by decide +kernel
theorem d_V_passOver_9 : decode b_V_passOver 9 = .ok (.ior, 1) := by decide +kernel
theorem d_V_passOver_10 : decode b_V_passOver 10 = .ok (.putfield 42, 3) := by decide +kernel
theorem d_V_passOver_13 : decode b_V_passOver 13 = .ok (.return_, 1) := by decide +kernel
theorem d_V_sendOut_0 : decode b_V_sendOut 0 = .ok (.aload_n 0, 1) := by decide +kernel
theorem d_V_sendOut_1 : decode b_V_sendOut 1 = .ok (.getfield 17, 3) := by decide +kernel
theorem d_V_sendOut_4 : decode b_V_sendOut 4 = .ok (.iload_n 1, 1) := by decide +kernel
theorem d_V_sendOut_5 : decode b_V_sendOut 5 = .ok (.aaload, 1) := by decide +kernel
theorem d_V_sendOut_6 : decode b_V_sendOut 6 = .ok (.aload_n 0, 1) := by decide +kernel
theorem d_V_sendOut_7 : decode b_V_sendOut 7 = .ok (.getfield 9, 3) := by decide +kernel
theorem d_V_sendOut_10 : decode b_V_sendOut 10 = .ok (.iload_n 1, 1) := by decide +kernel
theorem d_V_sendOut_11 : decode b_V_sendOut 11 = .ok (.iaload, 1) := by decide +kernel
theorem d_V_sendOut_12 : decode b_V_sendOut 12 = .ok (.iconst 3, 1) := by decide +kernel
theorem d_V_sendOut_13 : decode b_V_sendOut 13 = .ok (.if_icmp .ne 7, 3) := by decide +kernel
theorem d_V_sendOut_16 : decode b_V_sendOut 16 = .ok (.iconst 1, 1) := by decide +kernel
theorem d_V_sendOut_17 : decode b_V_sendOut 17 = .ok (.goto 4, 3) := by decide +kernel
theorem d_V_sendOut_20 : decode b_V_sendOut 20 = .ok (.iconst 0, 1) := by decide +kernel
theorem d_V_sendOut_21 : decode b_V_sendOut 21 = .ok (.iload_n 2, 1) := by decide +kernel
theorem d_V_sendOut_22 : decode b_V_sendOut 22 = .ok (.iload_n 3, 1) := by decide +kernel
theorem d_V_sendOut_23 : decode b_V_sendOut 23 = .ok (.iload 4, 2) := by decide +kernel
theorem d_V_sendOut_25 : decode b_V_sendOut 25 = .ok (.invokestatic 66, 3) := by decide +kernel
theorem d_V_sendOut_28 : decode b_V_sendOut 28 = .ok (.aload_n 0, 1) := by decide +kernel
theorem d_V_sendOut_29 : decode b_V_sendOut 29 = .ok (.getfield 32, 3) := by decide +kernel
theorem d_V_sendOut_32 : decode b_V_sendOut 32 = .ok (.aload_n 0, 1) := by decide +kernel
theorem d_V_sendOut_33 : decode b_V_sendOut 33 = .ok (.getfield 17, 3) := by decide +kernel
theorem d_V_sendOut_36 : decode b_V_sendOut 36 = .ok (.iload_n 1, 1) := by decide +kernel
theorem d_V_sendOut_37 : decode b_V_sendOut 37 = .ok (.aaload, 1) := by decide +kernel
theorem d_V_sendOut_38 : decode b_V_sendOut 38 = .ok (.aload_n 0, 1) := by decide +kernel
theorem d_V_sendOut_39 : decode b_V_sendOut 39 = .ok (.getfield 20, 3) := by decide +kernel
theorem d_V_sendOut_42 : decode b_V_sendOut 42 = .ok (.iload_n 1, 1) := by decide +kernel
theorem d_V_sendOut_43 : decode b_V_sendOut 43 = .ok (.aaload, 1) := by decide +kernel
theorem d_V_sendOut_44 : decode b_V_sendOut 44 = .ok (.invokevirtual 70, 3) := by decide +kernel
theorem d_V_sendOut_47 : decode b_V_sendOut 47 = .ok (.iconst 1, 1) := by decide +kernel
theorem d_V_sendOut_48 : decode b_V_sendOut 48 = .ok (.istore 5, 2) := by decide +kernel
theorem d_V_sendOut_50 : decode b_V_sendOut 50 = .ok (.iload 5, 2) := by decide +kernel
theorem d_V_sendOut_52 : decode b_V_sendOut 52 = .ok (.bipush 7, 2) := by decide +kernel
theorem d_V_sendOut_54 : decode b_V_sendOut 54 = .ok (.if_icmp .gt 52, 3) := by decide +kernel
theorem d_V_sendOut_57 : decode b_V_sendOut 57 = .ok (.aload_n 0, 1) := by decide +kernel
theorem d_V_sendOut_58 : decode b_V_sendOut 58 = .ok (.iload_n 1, 1) := by decide +kernel
theorem d_V_sendOut_59 : decode b_V_sendOut 59 = .ok (.iload 5, 2) := by decide +kernel
theorem d_V_sendOut_61 : decode b_V_sendOut 61 = .ok (.invokevirtual 76, 3) := by decide +kernel
theorem d_V_sendOut_64 : decode b_V_sendOut 64 = .ok (.istore 6, 2) := by decide +kernel
theorem d_V_sendOut_66 : decode b_V_sendOut 66 = .ok (.aload_n 0, 1) := by decide +kernel
theorem d_V_sendOut_67 : decode b_V_sendOut 67 = .ok (.getfield 23, 3) := by decide +kernel
theorem d_V_sendOut_70 : decode b_V_sendOut 70 = .ok (.iload_n 1, 1) := by decide +kernel
theorem d_V_sendOut_71 : decode b_V_sendOut 71 = .ok (.aaload, 1) := by decide +kernel
theorem d_V_sendOut_72 : decode b_V_sendOut 72 = .ok (.iload 5, 2) := by decide +kernel
theorem d_V_sendOut_74 : decode b_V_sendOut 74 = .ok (.aload_n 0, 1) := by decide +kernel
theorem d_V_sendOut_75 : decode b_V_sendOut 75 = .ok (.iload_n 1, 1) := by decide +kernel
theorem d_V_sendOut_76 : decode b_V_sendOut 76 = .ok (.iload 5, 2) := by decide +kernel
theorem d_V_sendOut_78 : decode b_V_sendOut 78 = .ok (.invokevirtual 80, 3) := by decide +kernel
theorem d_V_sendOut_81 : decode b_V_sendOut 81 = .ok (.ifCond .eq 16, 3) := by decide +kernel
theorem d_V_sendOut_84 : decode b_V_sendOut 84 = .ok (.aload_n 0, 1) := by decide +kernel
theorem d_V_sendOut_85 : decode b_V_sendOut 85 = .ok (.getfield 32, 3) := by decide +kernel
theorem d_V_sendOut_88 : decode b_V_sendOut 88 = .ok (.iload 6, 2) := by decide +kernel
theorem d_V_sendOut_90 : decode b_V_sendOut 90 = .ok (.iconst 1, 1) := by decide +kernel
theorem d_V_sendOut_91 : decode b_V_sendOut 91 = .ok (.invokevirtual 83, 3) := by decide +kernel
theorem d_V_sendOut_94 : decode b_V_sendOut 94 = .ok (.goto 5, 3) := by decide +kernel
theorem d_V_sendOut_97 : decode b_V_sendOut 97 = .ok (.iload 6, 2) := by decide +kernel
theorem d_V_sendOut_99 : decode b_V_sendOut 99 = .ok (.iastore, 1) := by decide +kernel
theorem d_V_sendOut_100 : decode b_V_sendOut 100 = .ok (.iinc 5 1, 3) := by decide +kernel
theorem d_V_sendOut_103 : decode b_V_sendOut 103 = .ok (.goto (-53), 3) := by decide +kernel
theorem d_V_sendOut_106 : decode b_V_sendOut 106 = .ok (.aload_n 0, 1) := by decide +kernel
theorem d_V_sendOut_107 : decode b_V_sendOut 107 = .ok (.dup, 1) := by decide +kernel
theorem d_V_sendOut_108 : decode b_V_sendOut 108 = .ok (.getfield 42, 3) := by decide +kernel
theorem d_V_sendOut_111 : decode b_V_sendOut 111 = .ok (.iload_n 1, 1) := by decide +kernel
theorem d_V_sendOut_112 : decode b_V_sendOut 112 = .ok (.invokestatic 57, 3) := by decide +kernel
theorem d_V_sendOut_115 : decode b_V_sendOut 115 = .ok (.ior, 1) := by decide +kernel
theorem d_V_sendOut_116 : decode b_V_sendOut 116 = .ok (.putfield 42, 3) := by decide +kernel
theorem d_V_sendOut_119 : decode b_V_sendOut 119 = .ok (.aload_n 0, 1) := by decide +kernel
theorem d_V_sendOut_120 : decode b_V_sendOut 120 = .ok (.dup, 1) := by decide +kernel
theorem d_V_sendOut_121 : decode b_V_sendOut 121 = .ok (.getfield 46, 3) := by decide +kernel
theorem d_V_sendOut_124 : decode b_V_sendOut 124 = .ok (.iload_n 1, 1) := by decide +kernel
theorem d_V_sendOut_125 : decode b_V_sendOut 125 = .ok (.invokestatic 57, 3) := by decide +kernel
theorem d_V_sendOut_128 : decode b_V_sendOut 128 = .ok (.ior, 1) := by decide +kernel
theorem d_V_sendOut_129 : decode b_V_sendOut 129 = .ok (.putfield 46, 3) := by decide +kernel
theorem d_V_sendOut_132 : decode b_V_sendOut 132 = .ok (.return_, 1) := by decide +kernel
theorem d_V_rightShare_0 : decode b_V_rightShare 0 = .ok (.aload_n 0, 1) := by decide +kernel
theorem d_V_rightShare_1 : decode b_V_rightShare 1 = .ok (.getfield 32, 3) := by decide +kernel
theorem d_V_rightShare_4 : decode b_V_rightShare 4 = .ok (.iload_n 2, 1) := by decide +kernel
theorem d_V_rightShare_5 : decode b_V_rightShare 5 = .ok (.aload_n 0, 1) := by decide +kernel
theorem d_V_rightShare_6 : decode b_V_rightShare 6 = .ok (.getfield 17, 3) := by decide +kernel
theorem d_V_rightShare_9 : decode b_V_rightShare 9 = .ok (.iload_n 1, 1) := by decide +kernel
theorem d_V_rightShare_10 : decode b_V_rightShare 10 = .ok (.aaload, 1) := by decide +kernel
theorem d_V_rightShare_11 : decode b_V_rightShare 11 = .ok (.invokevirtual 86, 3) := by decide +kernel
theorem d_V_rightShare_14 : decode b_V_rightShare 14 = .ok (.ireturn, 1) := by decide +kernel
theorem d_V_isCheated_0 : decode b_V_isCheated 0 = .ok (.aload_n 0, 1) := by decide +kernel
theorem d_V_isCheated_1 : decode b_V_isCheated 1 = .ok (.getfield 9, 3) := by decide +kernel
theorem d_V_isCheated_4 : decode b_V_isCheated 4 = .ok (.iload_n 1, 1) := by decide +kernel
theorem d_V_isCheated_5 : decode b_V_isCheated 5 = .ok (.iaload, 1) := by decide +kernel
theorem d_V_isCheated_6 : decode b_V_isCheated 6 = .ok (.istore_n 3, 1) := by decide +kernel
theorem d_V_isCheated_7 : decode b_V_isCheated 7 = .ok (.iload_n 2, 1) := by decide +kernel
theorem d_V_isCheated_8 : decode b_V_isCheated 8 = .ok (.iload_n 1, 1) := by decide +kernel
theorem d_V_isCheated_9 : decode b_V_isCheated 9 = .ok (.bipush 7, 2) := by decide +kernel
theorem d_V_isCheated_11 : decode b_V_isCheated 11 = .ok (.irem, 1) := by decide +kernel
theorem d_V_isCheated_12 : decode b_V_isCheated 12 = .ok (.iconst 1, 1) := by decide +kernel
theorem d_V_isCheated_13 : decode b_V_isCheated 13 = .ok (.iadd, 1) := by decide +kernel
theorem d_V_isCheated_14 : decode b_V_isCheated 14 = .ok (.if_icmp .ne 23, 3) := by decide +kernel
theorem d_V_isCheated_17 : decode b_V_isCheated 17 = .ok (.iload_n 3, 1) := by decide +kernel
theorem d_V_isCheated_18 : decode b_V_isCheated 18 = .ok (.iconst 2, 1) := by decide +kernel
theorem d_V_isCheated_19 : decode b_V_isCheated 19 = .ok (.if_icmp .eq 14, 3) := by decide +kernel
theorem d_V_isCheated_22 : decode b_V_isCheated 22 = .ok (.iload_n 3, 1) := by decide +kernel
theorem d_V_isCheated_23 : decode b_V_isCheated 23 = .ok (.iconst 5, 1) := by decide +kernel
theorem d_V_isCheated_24 : decode b_V_isCheated 24 = .ok (.if_icmp .eq 9, 3) := by decide +kernel
theorem d_V_isCheated_27 : decode b_V_isCheated 27 = .ok (.iload_n 3, 1) := by decide +kernel
theorem d_V_isCheated_28 : decode b_V_isCheated 28 = .ok (.bipush 6, 2) := by decide +kernel
theorem d_V_isCheated_30 : decode b_V_isCheated 30 = .ok (.if_icmp .ne 7, 3) := by decide +kernel
theorem d_V_isCheated_33 : decode b_V_isCheated 33 = .ok (.iconst 1, 1) := by decide +kernel
theorem d_V_isCheated_34 : decode b_V_isCheated 34 = .ok (.goto 4, 3) := by decide +kernel
theorem d_V_isCheated_37 : decode b_V_isCheated 37 = .ok (.iconst 0, 1) := by decide +kernel
theorem d_V_isCheated_38 : decode b_V_isCheated 38 = .ok (.ireturn, 1) := by decide +kernel
theorem d_V_commitmentsOf_0 : decode b_V_commitmentsOf 0 = .ok (.aload_n 0, 1) := by decide +kernel
theorem d_V_commitmentsOf_1 : decode b_V_commitmentsOf 1 = .ok (.getfield 20, 3) := by decide +kernel
theorem d_V_commitmentsOf_4 : decode b_V_commitmentsOf 4 = .ok (.iload_n 1, 1) := by decide +kernel
theorem d_V_commitmentsOf_5 : decode b_V_commitmentsOf 5 = .ok (.aaload, 1) := by decide +kernel
theorem d_V_commitmentsOf_6 : decode b_V_commitmentsOf 6 = .ok (.areturn, 1) := by decide +kernel
theorem d_B_addDealing_0 : decode b_B_addDealing 0 = .ok (.aload_n 0, 1) := by decide +kernel
theorem d_B_addDealing_1 : decode b_B_addDealing 1 = .ok (.getfield 15, 3) := by decide +kernel
theorem d_B_addDealing_4 : decode b_B_addDealing 4 = .ok (.sipush 250, 3) := by decide +kernel
theorem d_B_addDealing_7 : decode b_B_addDealing 7 = .ok (.if_icmp .lt 4, 3) := by decide +kernel
theorem d_B_addDealing_10 : decode b_B_addDealing 10 = .ok (.return_, 1) := by decide +kernel
theorem d_B_addDealing_11 : decode b_B_addDealing 11 = .ok (.aload_n 0, 1) := by decide +kernel
theorem d_B_addDealing_12 : decode b_B_addDealing 12 = .ok (.getfield 15, 3) := by decide +kernel
theorem d_B_addDealing_15 : decode b_B_addDealing 15 = .ok (.bipush 9, 2) := by decide +kernel
theorem d_B_addDealing_17 : decode b_B_addDealing 17 = .ok (.imul, 1) := by decide +kernel
theorem d_B_addDealing_18 : decode b_B_addDealing 18 = .ok (.iconst 5, 1) := by decide +kernel
theorem d_B_addDealing_19 : decode b_B_addDealing 19 = .ok (.iadd, 1) := by decide +kernel
theorem d_B_addDealing_20 : decode b_B_addDealing 20 = .ok (.istore 4, 2) := by decide +kernel
theorem d_B_addDealing_22 : decode b_B_addDealing 22 = .ok (.aload_n 0, 1) := by decide +kernel
theorem d_B_addDealing_23 : decode b_B_addDealing 23 = .ok (.iconst 1, 1) := by decide +kernel
theorem d_B_addDealing_24 : decode b_B_addDealing 24 = .ok (.iload_n 1, 1) := by decide +kernel
theorem d_B_addDealing_25 : decode b_B_addDealing 25 = .ok (.iconst 0, 1) := by decide +kernel
theorem d_B_addDealing_26 : decode b_B_addDealing 26 = .ok (.iconst 0, 1) := by decide +kernel
theorem d_B_addDealing_27 : decode b_B_addDealing 27 = .ok (.iload_n 2, 1) := by decide +kernel
theorem d_B_addDealing_28 : decode b_B_addDealing 28 = .ok (.invokevirtual 19, 3) := by decide +kernel
