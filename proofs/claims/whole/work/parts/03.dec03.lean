theorem d_K_close_22 : decode b_K_close 22 = .ok (.invokestatic 147, 3) := by decide +kernel
theorem d_K_close_25 : decode b_K_close 25 = .ok (.ifCond .eq 8, 3) := by decide +kernel
theorem d_K_close_28 : decode b_K_close 28 = .ok (.aload_n 0, 1) := by decide +kernel
theorem d_K_close_29 : decode b_K_close 29 = .ok (.iload_n 2, 1) := by decide +kernel
theorem d_K_close_30 : decode b_K_close 30 = .ok (.invokevirtual 170, 3) := by decide +kernel
theorem d_K_close_33 : decode b_K_close 33 = .ok (.iinc 2 1, 3) := by decide +kernel
theorem d_K_close_36 : decode b_K_close 36 = .ok (.goto (-22), 3) := by decide +kernel
theorem d_K_close_39 : decode b_K_close 39 = .ok (.aload_n 0, 1) := by decide +kernel
theorem d_K_close_40 : decode b_K_close 40 = .ok (.getfield 28, 3) := by decide +kernel
theorem d_K_close_43 : decode b_K_close 43 = .ok (.invokevirtual 60, 3) := by decide +kernel
theorem d_K_close_46 : decode b_K_close 46 = .ok (.aload_n 0, 1) := by decide +kernel
theorem d_K_close_47 : decode b_K_close 47 = .ok (.dup, 1) := by decide +kernel
theorem d_K_close_48 : decode b_K_close 48 = .ok (.getfield 42, 3) := by decide +kernel
theorem d_K_close_51 : decode b_K_close 51 = .ok (.iconst 1, 1) := by decide +kernel
theorem d_K_close_52 : decode b_K_close 52 = .ok (.iadd, 1) := by decide +kernel
theorem d_K_close_53 : decode b_K_close 53 = .ok (.putfield 42, 3) := by decide +kernel
theorem d_K_close_56 : decode b_K_close 56 = .ok (.iload_n 1, 1) := by decide +kernel
theorem d_K_close_57 : decode b_K_close 57 = .ok (.ireturn, 1) := by decide +kernel
theorem d_V_accepted_0 : decode b_V_accepted 0 = .ok (.iconst 0, 1) := by decide +kernel
theorem d_V_accepted_1 : decode b_V_accepted 1 = .ok (.istore_n 1, 1) := by decide +kernel
theorem d_V_accepted_2 : decode b_V_accepted 2 = .ok (.iconst 1, 1) := by decide +kernel
theorem d_V_accepted_3 : decode b_V_accepted 3 = .ok (.istore_n 2, 1) := by decide +kernel
theorem d_V_accepted_4 : decode b_V_accepted 4 = .ok (.iload_n 2, 1) := by decide +kernel
theorem d_V_accepted_5 : decode b_V_accepted 5 = .ok (.bipush 7, 2) := by decide +kernel
theorem d_V_accepted_7 : decode b_V_accepted 7 = .ok (.if_icmp .gt 54, 3) := by decide +kernel
theorem d_V_accepted_10 : decode b_V_accepted 10 = .ok (.aload_n 0, 1) := by decide +kernel
theorem d_V_accepted_11 : decode b_V_accepted 11 = .ok (.getfield 46, 3) := by decide +kernel
theorem d_V_accepted_14 : decode b_V_accepted 14 = .ok (.iload_n 2, 1) := by decide +kernel
theorem d_V_accepted_15 : decode b_V_accepted 15 = .ok (.invokestatic 49, 3) := by decide +kernel
theorem d_V_accepted_18 : decode b_V_accepted 18 = .ok (.ifCond .eq 37, 3) := by decide +kernel
theorem d_V_accepted_21 : decode b_V_accepted 21 = .ok (.aload_n 0, 1) := by decide +kernel
theorem d_V_accepted_22 : decode b_V_accepted 22 = .ok (.getfield 20, 3) := by decide +kernel
theorem d_V_accepted_25 : decode b_V_accepted 25 = .ok (.iload_n 2, 1) := by decide +kernel
theorem d_V_accepted_26 : decode b_V_accepted 26 = .ok (.aaload, 1) := by decide +kernel
theorem d_V_accepted_27 : decode b_V_accepted 27 = .ok (.iconst 0, 1) := by decide +kernel
theorem d_V_accepted_28 : decode b_V_accepted 28 = .ok (.iaload, 1) := by decide +kernel
theorem d_V_accepted_29 : decode b_V_accepted 29 = .ok (.iconst 1, 1) := by decide +kernel
theorem d_V_accepted_30 : decode b_V_accepted 30 = .ok (.if_icmp .ne 25, 3) := by decide +kernel
theorem d_V_accepted_33 : decode b_V_accepted 33 = .ok (.aload_n 0, 1) := by decide +kernel
theorem d_V_accepted_34 : decode b_V_accepted 34 = .ok (.getfield 26, 3) := by decide +kernel
theorem d_V_accepted_37 : decode b_V_accepted 37 = .ok (.iload_n 2, 1) := by decide +kernel
theorem d_V_accepted_38 : decode b_V_accepted 38 = .ok (.iaload, 1) := by decide +kernel
theorem d_V_accepted_39 : decode b_V_accepted 39 = .ok (.aload_n 0, 1) := by decide +kernel
theorem d_V_accepted_40 : decode b_V_accepted 40 = .ok (.getfield 29, 3) := by decide +kernel
theorem d_V_accepted_43 : decode b_V_accepted 43 = .ok (.iload_n 2, 1) := by decide +kernel
theorem d_V_accepted_44 : decode b_V_accepted 44 = .ok (.iaload, 1) := by decide +kernel
theorem d_V_accepted_45 : decode b_V_accepted 45 = .ok (.if_icmp .ne 10, 3) := by decide +kernel
theorem d_V_accepted_48 : decode b_V_accepted 48 = .ok (.iload_n 1, 1) := by decide +kernel
theorem d_V_accepted_49 : decode b_V_accepted 49 = .ok (.iload_n 2, 1) := by decide +kernel
theorem d_V_accepted_50 : decode b_V_accepted 50 = .ok (.invokestatic 57, 3) := by decide +kernel
theorem d_V_accepted_53 : decode b_V_accepted 53 = .ok (.ior, 1) := by decide +kernel
theorem d_V_accepted_54 : decode b_V_accepted 54 = .ok (.istore_n 1, 1) := by decide +kernel
theorem d_V_accepted_55 : decode b_V_accepted 55 = .ok (.iinc 2 1, 3) := by decide +kernel
theorem d_V_accepted_58 : decode b_V_accepted 58 = .ok (.goto (-54), 3) := by decide +kernel
theorem d_V_accepted_61 : decode b_V_accepted 61 = .ok (.iload_n 1, 1) := by decide +kernel
theorem d_V_accepted_62 : decode b_V_accepted 62 = .ok (.ireturn, 1) := by decide +kernel
theorem d_K_takeOver_0 : decode b_K_takeOver 0 = .ok (.iconst 1, 1) := by decide +kernel
theorem d_K_takeOver_1 : decode b_K_takeOver 1 = .ok (.istore_n 2, 1) := by decide +kernel
theorem d_K_takeOver_2 : decode b_K_takeOver 2 = .ok (.iload_n 2, 1) := by decide +kernel
theorem d_K_takeOver_3 : decode b_K_takeOver 3 = .ok (.bipush 7, 2) := by decide +kernel
theorem d_K_takeOver_5 : decode b_K_takeOver 5 = .ok (.if_icmp .gt 45, 3) := by decide +kernel
theorem d_K_takeOver_8 : decode b_K_takeOver 8 = .ok (.aload_n 0, 1) := by decide +kernel
theorem d_K_takeOver_9 : decode b_K_takeOver 9 = .ok (.iload_n 2, 1) := by decide +kernel
theorem d_K_takeOver_10 : decode b_K_takeOver 10 = .ok (.invokevirtual 173, 3) := by decide +kernel
theorem d_K_takeOver_13 : decode b_K_takeOver 13 = .ok (.ifCond .ne 31, 3) := by decide +kernel
theorem d_K_takeOver_16 : decode b_K_takeOver 16 = .ok (.aload_n 0, 1) := by decide +kernel
theorem d_K_takeOver_17 : decode b_K_takeOver 17 = .ok (.getfield 32, 3) := by decide +kernel
theorem d_K_takeOver_20 : decode b_K_takeOver 20 = .ok (.iload_n 2, 1) := by decide +kernel
theorem d_K_takeOver_21 : decode b_K_takeOver 21 = .ok (.aload_n 0, 1) := by decide +kernel
theorem d_K_takeOver_22 : decode b_K_takeOver 22 = .ok (.getfield 12, 3) := by decide +kernel
theorem d_K_takeOver_25 : decode b_K_takeOver 25 = .ok (.aload_n 0, 1) := by decide +kernel
theorem d_K_takeOver_26 : decode b_K_takeOver 26 = .ok (.getfield 32, 3) := by decide +kernel
theorem d_K_takeOver_29 : decode b_K_takeOver 29 = .ok (.iload_n 2, 1) := by decide +kernel
theorem d_K_takeOver_30 : decode b_K_takeOver 30 = .ok (.iaload, 1) := by decide +kernel
theorem d_K_takeOver_31 : decode b_K_takeOver 31 = .ok (.aload_n 0, 1) := by decide +kernel
theorem d_K_takeOver_32 : decode b_K_takeOver 32 = .ok (.getfield 28, 3) := by decide +kernel
theorem d_K_takeOver_35 : decode b_K_takeOver 35 = .ok (.iload_n 1, 1) := by decide +kernel
theorem d_K_takeOver_36 : decode b_K_takeOver 36 = .ok (.iload_n 2, 1) := by decide +kernel
theorem d_K_takeOver_37 : decode b_K_takeOver 37 = .ok (.invokevirtual 216, 3) := by decide +kernel
theorem d_K_takeOver_40 : decode b_K_takeOver 40 = .ok (.invokevirtual 219, 3) := by decide +kernel
theorem d_K_takeOver_43 : decode b_K_takeOver 43 = .ok (.iastore, 1) := by decide +kernel
theorem d_K_takeOver_44 : decode b_K_takeOver 44 = .ok (.iinc 2 1, 3) := by decide +kernel
theorem d_K_takeOver_47 : decode b_K_takeOver 47 = .ok (.goto (-45), 3) := by decide +kernel
theorem d_K_takeOver_50 : decode b_K_takeOver 50 = .ok (.aload_n 0, 1) := by decide +kernel
theorem d_K_takeOver_51 : decode b_K_takeOver 51 = .ok (.getfield 28, 3) := by decide +kernel
theorem d_K_takeOver_54 : decode b_K_takeOver 54 = .ok (.iload_n 1, 1) := by decide +kernel
theorem d_K_takeOver_55 : decode b_K_takeOver 55 = .ok (.invokevirtual 130, 3) := by decide +kernel
theorem d_K_takeOver_58 : decode b_K_takeOver 58 = .ok (.astore_n 2, 1) := by decide +kernel
theorem d_K_takeOver_59 : decode b_K_takeOver 59 = .ok (.iconst 0, 1) := by decide +kernel
theorem d_K_takeOver_60 : decode b_K_takeOver 60 = .ok (.istore_n 3, 1) := by decide +kernel
theorem d_K_takeOver_61 : decode b_K_takeOver 61 = .ok (.iload_n 3, 1) := by decide +kernel
theorem d_K_takeOver_62 : decode b_K_takeOver 62 = .ok (.iconst 4, 1) := by decide +kernel
theorem d_K_takeOver_63 : decode b_K_takeOver 63 = .ok (.if_icmp .ge 31, 3) := by decide +kernel
theorem d_K_takeOver_66 : decode b_K_takeOver 66 = .ok (.aload_n 0, 1) := by decide +kernel
theorem d_K_takeOver_67 : decode b_K_takeOver 67 = .ok (.getfield 36, 3) := by decide +kernel
theorem d_K_takeOver_70 : decode b_K_takeOver 70 = .ok (.iload_n 3, 1) := by decide +kernel
theorem d_K_takeOver_71 : decode b_K_takeOver 71 = .ok (.aload_n 0, 1) := by decide +kernel
theorem d_K_takeOver_72 : decode b_K_takeOver 72 = .ok (.getfield 12, 3) := by decide +kernel
theorem d_K_takeOver_75 : decode b_K_takeOver 75 = .ok (.aload_n 0, 1) := by decide +kernel
theorem d_K_takeOver_76 : decode b_K_takeOver 76 = .ok (.getfield 36, 3) := by decide +kernel
theorem d_K_takeOver_79 : decode b_K_takeOver 79 = .ok (.iload_n 3, 1) := by decide +kernel
theorem d_K_takeOver_80 : decode b_K_takeOver 80 = .ok (.iaload, 1) := by decide +kernel
theorem d_K_takeOver_81 : decode b_K_takeOver 81 = .ok (.aload_n 2, 1) := by decide +kernel
theorem d_K_takeOver_82 : decode b_K_takeOver 82 = .ok (.iload_n 3, 1) := by decide +kernel
theorem d_K_takeOver_83 : decode b_K_takeOver 83 = .ok (.iaload, 1) := by decide +kernel
theorem d_K_takeOver_84 : decode b_K_takeOver 84 = .ok (.invokevirtual 222, 3) := by decide +kernel
theorem d_K_takeOver_87 : decode b_K_takeOver 87 = .ok (.iastore, 1) := by decide +kernel
theorem d_K_takeOver_88 : decode b_K_takeOver 88 = .ok (.iinc 3 1, 3) := by decide +kernel
theorem d_K_takeOver_91 : decode b_K_takeOver 91 = .ok (.goto (-30), 3) := by decide +kernel
theorem d_K_takeOver_94 : decode b_K_takeOver 94 = .ok (.return_, 1) := by decide +kernel
theorem d_K_isWiped_0 : decode b_K_isWiped 0 = .ok (.aload_n 0, 1) := by decide +kernel
theorem d_K_isWiped_1 : decode b_K_isWiped 1 = .ok (.getfield 32, 3) := by decide +kernel
theorem d_K_isWiped_4 : decode b_K_isWiped 4 = .ok (.iload_n 1, 1) := by decide +kernel
theorem d_K_isWiped_5 : decode b_K_isWiped 5 = .ok (.iaload, 1) := by decide +kernel
theorem d_K_isWiped_6 : decode b_K_isWiped 6 = .ok (.iconst (-1), 1) := by decide +kernel
theorem d_K_isWiped_7 : decode b_K_isWiped 7 = .ok (.if_icmp .ne 7, 3) := by decide +kernel
theorem d_K_isWiped_10 : decode b_K_isWiped 10 = .ok (.iconst 1, 1) := by decide +kernel
theorem d_K_isWiped_11 : decode b_K_isWiped 11 = .ok (.goto 4, 3) := by decide +kernel
theorem d_K_isWiped_14 : decode b_K_isWiped 14 = .ok (.iconst 0, 1) := by decide +kernel
theorem d_K_isWiped_15 : decode b_K_isWiped 15 = .ok (.ireturn, 1) := by decide +kernel
theorem d_V_hadFrom_0 : decode b_V_hadFrom 0 = .ok (.aload_n 0, 1) := by decide +kernel
theorem d_V_hadFrom_1 : decode b_V_hadFrom 1 = .ok (.getfield 23, 3) := by decide +kernel
theorem d_V_hadFrom_4 : decode b_V_hadFrom 4 = .ok (.iload_n 1, 1) := by decide +kernel
theorem d_V_hadFrom_5 : decode b_V_hadFrom 5 = .ok (.aaload, 1) := by decide +kernel
theorem d_V_hadFrom_6 : decode b_V_hadFrom 6 = .ok (.iload_n 2, 1) := by decide +kernel
theorem d_V_hadFrom_7 : decode b_V_hadFrom 7 = .ok (.iaload, 1) := by decide +kernel
theorem d_V_hadFrom_8 : decode b_V_hadFrom 8 = .ok (.ireturn, 1) := by decide +kernel
theorem d_L_wipe_0 : decode b_L_wipe 0 = .ok (.aload_n 0, 1) := by decide +kernel
theorem d_L_wipe_1 : decode b_L_wipe 1 = .ok (.iload_n 1, 1) := by decide +kernel
theorem d_L_wipe_2 : decode b_L_wipe 2 = .ok (.invokevirtual 44, 3) := by decide +kernel
theorem d_L_wipe_5 : decode b_L_wipe 5 = .ok (.goto 12, 3) := by decide +kernel
theorem d_L_wipe_8 : decode b_L_wipe 8 = .ok (.astore_n 2, 1) := by decide +kernel
theorem d_L_wipe_9 : decode b_L_wipe 9 = .ok (.iconst 1, 1) := by decide +kernel
theorem d_L_wipe_10 : decode b_L_wipe 10 = .ok (.ireturn, 1) := by decide +kernel
theorem d_L_wipe_11 : decode b_L_wipe 11 = .ok (.astore_n 2, 1) := by decide +kernel
theorem d_L_wipe_12 : decode b_L_wipe 12 = .ok (.iconst 2, 1) := by decide +kernel
theorem d_L_wipe_13 : decode b_L_wipe 13 = .ok (.ireturn, 1) := by decide +kernel
theorem d_L_wipe_14 : decode b_L_wipe 14 = .ok (.astore_n 2, 1) := by decide +kernel
theorem d_L_wipe_15 : decode b_L_wipe 15 = .ok (.iconst 3, 1) := by decide +kernel
theorem d_L_wipe_16 : decode b_L_wipe 16 = .ok (.ireturn, 1) := by decide +kernel
theorem d_L_wipe_17 : decode b_L_wipe 17 = .ok (.iconst 0, 1) := by decide +kernel
theorem d_L_wipe_18 : decode b_L_wipe 18 = .ok (.ireturn, 1) := by decide +kernel
theorem d_K_wipe_0 : decode b_K_wipe 0 = .ok (.aload_n 0, 1) := by decide +kernel
theorem d_K_wipe_1 : decode b_K_wipe 1 = .ok (.invokevirtual 95, 3) := by decide +kernel
theorem d_K_wipe_4 : decode b_K_wipe 4 = .ok (.iload_n 1, 1) := by decide +kernel
theorem d_K_wipe_5 : decode b_K_wipe 5 = .ok (.invokestatic 98, 3) := by decide +kernel
theorem d_K_wipe_8 : decode b_K_wipe 8 = .ok (.aload_n 0, 1) := by decide +kernel
theorem d_K_wipe_9 : decode b_K_wipe 9 = .ok (.iload_n 1, 1) := by decide +kernel
theorem d_K_wipe_10 : decode b_K_wipe 10 = .ok (.invokevirtual 173, 3) := by decide +kernel
theorem d_K_wipe_13 : decode b_K_wipe 13 = .ok (.ifCond .eq 11, 3) := by decide +kernel
theorem d_K_wipe_16 : decode b_K_wipe 16 = .ok (.new 109, 3) := by decide +kernel
theorem d_K_wipe_19 : decode b_K_wipe 19 = .ok (.dup, 1) := by decide +kernel
theorem d_K_wipe_20 : decode b_K_wipe 20 = .ok (.invokespecial 111, 3) := by decide +kernel
theorem d_K_wipe_23 : decode b_K_wipe 23 = .ok (.athrow, 1) := by decide +kernel
theorem d_K_wipe_24 : decode b_K_wipe 24 = .ok (.aload_n 0, 1) := by decide +kernel
theorem d_K_wipe_25 : decode b_K_wipe 25 = .ok (.getfield 32, 3) := by decide +kernel
theorem d_K_wipe_28 : decode b_K_wipe 28 = .ok (.iload_n 1, 1) := by decide +kernel
theorem d_K_wipe_29 : decode b_K_wipe 29 = .ok (.iconst (-1), 1) := by decide +kernel
theorem d_K_wipe_30 : decode b_K_wipe 30 = .ok (.iastore, 1) := by decide +kernel
theorem d_K_wipe_31 : decode b_K_wipe 31 = .ok (.return_, 1) := by decide +kernel
theorem d_L_recover_0 : decode b_L_recover 0 = .ok (.aload_n 2, 1) := by decide +kernel
theorem d_L_recover_1 : decode b_L_recover 1 = .ok (.iconst 0, 1) := by decide +kernel
theorem d_L_recover_2 : decode b_L_recover 2 = .ok (.aload_n 0, 1) := by decide +kernel
theorem d_L_recover_3 : decode b_L_recover 3 = .ok (.iload_n 1, 1) := by decide +kernel
theorem d_L_recover_4 : decode b_L_recover 4 = .ok (.invokevirtual 48, 3) := by decide +kernel
theorem d_L_recover_7 : decode b_L_recover 7 = .ok (.i2l, 1) := by decide +kernel
theorem d_L_recover_8 : decode b_L_recover 8 = .ok (.lastore, 1) := by decide +kernel
theorem d_L_recover_9 : decode b_L_recover 9 = .ok (.goto 12, 3) := by decide +kernel
theorem d_L_recover_12 : decode b_L_recover 12 = .ok (.astore_n 3, 1) := by decide +kernel
theorem d_L_recover_13 : decode b_L_recover 13 = .ok (.iconst 1, 1) := by decide +kernel
theorem d_L_recover_14 : decode b_L_recover 14 = .ok (.ireturn, 1) := by decide +kernel
theorem d_L_recover_15 : decode b_L_recover 15 = .ok (.astore_n 3, 1) := by decide +kernel
theorem d_L_recover_16 : decode b_L_recover 16 = .ok (.iconst 2, 1) := by decide +kernel
theorem d_L_recover_17 : decode b_L_recover 17 = .ok (.ireturn, 1) := by decide +kernel
theorem d_L_recover_18 : decode b_L_recover 18 = .ok (.astore_n 3, 1) := by decide +kernel
theorem d_L_recover_19 : decode b_L_recover 19 = .ok (.iconst 3, 1) := by decide +kernel
theorem d_L_recover_20 : decode b_L_recover 20 = .ok (.ireturn, 1) := by decide +kernel
theorem d_L_recover_21 : decode b_L_recover 21 = .ok (.iconst 0, 1) := by decide +kernel
theorem d_L_recover_22 : decode b_L_recover 22 = .ok (.ireturn, 1) := by decide +kernel
theorem d_K_recover_0 : decode b_K_recover 0 = .ok (.aload_n 0, 1) := by decide +kernel
theorem d_K_recover_1 : decode b_K_recover 1 = .ok (.invokevirtual 95, 3) := by decide +kernel
theorem d_K_recover_4 : decode b_K_recover 4 = .ok (.iload_n 1, 1) := by decide +kernel
theorem d_K_recover_5 : decode b_K_recover 5 = .ok (.invokestatic 98, 3) := by decide +kernel
theorem d_K_recover_8 : decode b_K_recover 8 = .ok (.aload_n 0, 1) := by decide +kernel
theorem d_K_recover_9 : decode b_K_recover 9 = .ok (.iload_n 1, 1) := by decide +kernel
theorem d_K_recover_10 : decode b_K_recover 10 = .ok (.invokevirtual 173, 3) := by decide +kernel
theorem d_K_recover_13 : decode b_K_recover 13 = .ok (.ifCond .ne 11, 3) := by decide +kernel
theorem d_K_recover_16 : decode b_K_recover 16 = .ok (.new 109, 3) := by decide +kernel
theorem d_K_recover_19 : decode b_K_recover 19 = .ok (.dup, 1) := by decide +kernel
theorem d_K_recover_20 : decode b_K_recover 20 = .ok (.invokespecial 111, 3) := by decide +kernel
theorem d_K_recover_23 : decode b_K_recover 23 = .ok (.athrow, 1) := by decide +kernel
theorem d_K_recover_24 : decode b_K_recover 24 = .ok (.aload_n 0, 1) := by decide +kernel
theorem d_K_recover_25 : decode b_K_recover 25 = .ok (.invokevirtual 176, 3) := by decide +kernel
theorem d_K_recover_28 : decode b_K_recover 28 = .ok (.istore_n 2, 1) := by decide +kernel
theorem d_K_recover_29 : decode b_K_recover 29 = .ok (.iload_n 2, 1) := by decide +kernel
theorem d_K_recover_30 : decode b_K_recover 30 = .ok (.invokestatic 142, 3) := by decide +kernel
theorem d_K_recover_33 : decode b_K_recover 33 = .ok (.iconst 4, 1) := by decide +kernel
theorem d_K_recover_34 : decode b_K_recover 34 = .ok (.if_icmp .ge 11, 3) := by decide +kernel
theorem d_K_recover_37 : decode b_K_recover 37 = .ok (.new 109, 3) := by decide +kernel
theorem d_K_recover_40 : decode b_K_recover 40 = .ok (.dup, 1) := by decide +kernel
theorem d_K_recover_41 : decode b_K_recover 41 = .ok (.invokespecial 111, 3) := by decide +kernel
theorem d_K_recover_44 : decode b_K_recover 44 = .ok (.athrow, 1) := by decide +kernel
theorem d_K_recover_45 : decode b_K_recover 45 = .ok (.iload_n 2, 1) := by decide +kernel
theorem d_K_recover_46 : decode b_K_recover 46 = .ok (.invokestatic 179, 3) := by decide +kernel
theorem d_K_recover_49 : decode b_K_recover 49 = .ok (.istore_n 3, 1) := by decide +kernel
theorem d_K_recover_50 : decode b_K_recover 50 = .ok (.aload_n 0, 1) := by decide +kernel
theorem d_K_recover_51 : decode b_K_recover 51 = .ok (.getfield 32, 3) := by decide +kernel
theorem d_K_recover_54 : decode b_K_recover 54 = .ok (.iload_n 1, 1) := by decide +kernel
theorem d_K_recover_55 : decode b_K_recover 55 = .ok (.aload_n 0, 1) := by decide +kernel
theorem d_K_recover_56 : decode b_K_recover 56 = .ok (.getfield 12, 3) := by decide +kernel
theorem d_K_recover_59 : decode b_K_recover 59 = .ok (.iload_n 1, 1) := by decide +kernel
theorem d_K_recover_60 : decode b_K_recover 60 = .ok (.iload_n 3, 1) := by decide +kernel
theorem d_K_recover_61 : decode b_K_recover 61 = .ok (.aload_n 0, 1) := by decide +kernel
theorem d_K_recover_62 : decode b_K_recover 62 = .ok (.getfield 32, 3) := by decide +kernel
theorem d_K_recover_65 : decode b_K_recover 65 = .ok (.invokevirtual 182, 3) := by decide +kernel
theorem d_K_recover_68 : decode b_K_recover 68 = .ok (.iastore, 1) := by decide +kernel
theorem d_K_recover_69 : decode b_K_recover 69 = .ok (.iload_n 3, 1) := by decide +kernel
theorem d_K_recover_70 : decode b_K_recover 70 = .ok (.ireturn, 1) := by decide +kernel
theorem d_K_sound_0 : decode b_K_sound 0 = .ok (.iconst 0, 1) := by decide +kernel
theorem d_K_sound_1 : decode b_K_sound 1 = .ok (.istore_n 1, 1) := by decide +kernel
theorem d_K_sound_2 : decode b_K_sound 2 = .ok (.iconst 1, 1) := by decide +kernel
theorem d_K_sound_3 : decode b_K_sound 3 = .ok (.istore_n 2, 1) := by decide +kernel
theorem d_K_sound_4 : decode b_K_sound 4 = .ok (.iload_n 2, 1) := by decide +kernel
theorem d_K_sound_5 : decode b_K_sound 5 = .ok (.bipush 7, 2) := by decide +kernel
theorem d_K_sound_7 : decode b_K_sound 7 = .ok (.if_icmp .gt 24, 3) := by decide +kernel
theorem d_K_sound_10 : decode b_K_sound 10 = .ok (.aload_n 0, 1) := by decide +kernel
theorem d_K_sound_11 : decode b_K_sound 11 = .ok (.iload_n 2, 1) := by decide +kernel
theorem d_K_sound_12 : decode b_K_sound 12 = .ok (.invokevirtual 186, 3) := by decide +kernel
theorem d_K_sound_15 : decode b_K_sound 15 = .ok (.ifCond .eq 10, 3) := by decide +kernel
theorem d_K_sound_18 : decode b_K_sound 18 = .ok (.iload_n 1, 1) := by decide +kernel
theorem d_K_sound_19 : decode b_K_sound 19 = .ok (.iload_n 2, 1) := by decide +kernel
theorem d_K_sound_20 : decode b_K_sound 20 = .ok (.invokestatic 229, 3) := by decide +kernel
theorem d_K_sound_23 : decode b_K_sound 23 = .ok (.ior, 1) := by decide +kernel
theorem d_K_sound_24 : decode b_K_sound 24 = .ok (.istore_n 1, 1) := by decide +kernel
theorem d_K_sound_25 : decode b_K_sound 25 = .ok (.iinc 2 1, 3) := by decide +kernel
theorem d_K_sound_28 : decode b_K_sound 28 = .ok (.goto (-24), 3) := by decide +kernel
theorem d_K_sound_31 : decode b_K_sound 31 = .ok (.iload_n 1, 1) := by decide +kernel
theorem d_K_sound_32 : decode b_K_sound 32 = .ok (.ireturn, 1) := by decide +kernel
theorem d_K_isSound_0 : decode b_K_isSound 0 = .ok (.aload_n 0, 1) := by decide +kernel
theorem d_K_isSound_1 : decode b_K_isSound 1 = .ok (.iload_n 1, 1) := by decide +kernel
theorem d_K_isSound_2 : decode b_K_isSound 2 = .ok (.invokevirtual 173, 3) := by decide +kernel
theorem d_K_isSound_5 : decode b_K_isSound 5 = .ok (.ifCond .ne 28, 3) := by decide +kernel
theorem d_K_isSound_8 : decode b_K_isSound 8 = .ok (.aload_n 0, 1) := by decide +kernel
theorem d_K_isSound_9 : decode b_K_isSound 9 = .ok (.getfield 12, 3) := by decide +kernel
theorem d_K_isSound_12 : decode b_K_isSound 12 = .ok (.iload_n 1, 1) := by decide +kernel
theorem d_K_isSound_13 : decode b_K_isSound 13 = .ok (.aload_n 0, 1) := by decide +kernel
theorem d_K_isSound_14 : decode b_K_isSound 14 = .ok (.getfield 36, 3) := by decide +kernel
theorem d_K_isSound_17 : decode b_K_isSound 17 = .ok (.aload_n 0, 1) := by decide +kernel
theorem d_K_isSound_18 : decode b_K_isSound 18 = .ok (.getfield 32, 3) := by decide +kernel
theorem d_K_isSound_21 : decode b_K_isSound 21 = .ok (.iload_n 1, 1) := by decide +kernel
theorem d_K_isSound_22 : decode b_K_isSound 22 = .ok (.iaload, 1) := by decide +kernel
theorem d_K_isSound_23 : decode b_K_isSound 23 = .ok (.invokevirtual 225, 3) := by decide +kernel
theorem d_K_isSound_26 : decode b_K_isSound 26 = .ok (.ifCond .eq 7, 3) := by decide +kernel
theorem d_K_isSound_29 : decode b_K_isSound 29 = .ok (.iconst 1, 1) := by decide +kernel
theorem d_K_isSound_30 : decode b_K_isSound 30 = .ok (.goto 4, 3) := by decide +kernel
theorem d_K_isSound_33 : decode b_K_isSound 33 = .ok (.iconst 0, 1) := by decide +kernel
theorem d_K_isSound_34 : decode b_K_isSound 34 = .ok (.ireturn, 1) := by decide +kernel
theorem d_K_leastFour_0 : decode b_K_leastFour 0 = .ok (.iconst 0, 1) := by decide +kernel
theorem d_K_leastFour_1 : decode b_K_leastFour 1 = .ok (.istore_n 1, 1) := by decide +kernel
theorem d_K_leastFour_2 : decode b_K_leastFour 2 = .ok (.iconst 1, 1) := by decide +kernel
theorem d_K_leastFour_3 : decode b_K_leastFour 3 = .ok (.istore_n 2, 1) := by decide +kernel
theorem d_K_leastFour_4 : decode b_K_leastFour 4 = .ok (.iload_n 2, 1) := by decide +kernel
theorem d_K_leastFour_5 : decode b_K_leastFour 5 = .ok (.bipush 7, 2) := by decide +kernel
theorem d_K_leastFour_7 : decode b_K_leastFour 7 = .ok (.if_icmp .gt 32, 3) := by decide +kernel
theorem d_K_leastFour_10 : decode b_K_leastFour 10 = .ok (.iload_n 0, 1) := by decide +kernel
theorem d_K_leastFour_11 : decode b_K_leastFour 11 = .ok (.iload_n 2, 1) := by decide +kernel
theorem d_K_leastFour_12 : decode b_K_leastFour 12 = .ok (.invokestatic 147, 3) := by decide +kernel
theorem d_K_leastFour_15 : decode b_K_leastFour 15 = .ok (.ifCond .eq 18, 3) := by decide +kernel
theorem d_K_leastFour_18 : decode b_K_leastFour 18 = .ok (.iload_n 1, 1) := by decide +kernel
theorem d_K_leastFour_19 : decode b_K_leastFour 19 = .ok (.invokestatic 142, 3) := by decide +kernel
theorem d_K_leastFour_22 : decode b_K_leastFour 22 = .ok (.iconst 4, 1) := by decide +kernel
theorem d_K_leastFour_23 : decode b_K_leastFour 23 = .ok (.if_icmp .ge 10, 3) := by decide +kernel
theorem d_K_leastFour_26 : decode b_K_leastFour 26 = .ok (.iload_n 1, 1) := by decide +kernel
theorem d_K_leastFour_27 : decode b_K_leastFour 27 = .ok (.iload_n 2, 1) := by decide +kernel
theorem d_K_leastFour_28 : decode b_K_leastFour 28 = .ok (.invokestatic 229, 3) := by decide +kernel
theorem d_K_leastFour_31 : decode b_K_leastFour 31 = .ok (.ior, 1) := by decide +kernel
theorem d_K_leastFour_32 : decode b_K_leastFour 32 = .ok (.istore_n 1, 1) := by decide +kernel
theorem d_K_leastFour_33 : decode b_K_leastFour 33 = .ok (.iinc 2 1, 3) := by decide +kernel
theorem d_K_leastFour_36 : decode b_K_leastFour 36 = .ok (.goto (-32), 3) := by decide +kernel
theorem d_K_leastFour_39 : decode b_K_leastFour 39 = .ok (.iload_n 1, 1) := by decide +kernel
theorem d_K_leastFour_40 : decode b_K_leastFour 40 = .ok (.ireturn, 1) := by decide +kernel
theorem d_G_interpolate_0 : decode b_G_interpolate 0 = .ok (.iconst 0, 1) := by decide +kernel
theorem d_G_interpolate_1 : decode b_G_interpolate 1 = .ok (.istore 4, 2) := by decide +kernel
theorem d_G_interpolate_3 : decode b_G_interpolate 3 = .ok (.iconst 1, 1) := by decide +kernel
theorem d_G_interpolate_4 : decode b_G_interpolate 4 = .ok (.istore 5, 2) := by decide +kernel
theorem d_G_interpolate_6 : decode b_G_interpolate 6 = .ok (.iload 5, 2) := by decide +kernel
theorem d_G_interpolate_8 : decode b_G_interpolate 8 = .ok (.bipush 7, 2) := by decide +kernel
theorem d_G_interpolate_10 : decode b_G_interpolate 10 = .ok (.if_icmp .gt 42, 3) := by decide +kernel
theorem d_G_interpolate_13 : decode b_G_interpolate 13 = .ok (.iload_n 2, 1) := by decide +kernel
theorem d_G_interpolate_14 : decode b_G_interpolate 14 = .ok (.iload 5, 2) := by decide +kernel
theorem d_G_interpolate_16 : decode b_G_interpolate 16 = .ok (.invokestatic 46, 3) := by decide +kernel
theorem d_G_interpolate_19 : decode b_G_interpolate 19 = .ok (.ifCond .eq 27, 3) := by decide +kernel
theorem d_G_interpolate_22 : decode b_G_interpolate 22 = .ok (.aload_n 0, 1) := by decide +kernel
theorem d_G_interpolate_23 : decode b_G_interpolate 23 = .ok (.iload 4, 2) := by decide +kernel
theorem d_G_interpolate_25 : decode b_G_interpolate 25 = .ok (.aload_n 0, 1) := by decide +kernel
theorem d_G_interpolate_26 : decode b_G_interpolate 26 = .ok (.aload_n 3, 1) := by decide +kernel
theorem d_G_interpolate_27 : decode b_G_interpolate 27 = .ok (.iload 5, 2) := by decide +kernel
theorem d_G_interpolate_29 : decode b_G_interpolate 29 = .ok (.iaload, 1) := by decide +kernel
theorem d_G_interpolate_30 : decode b_G_interpolate 30 = .ok (.aload_n 0, 1) := by decide +kernel
theorem d_G_interpolate_31 : decode b_G_interpolate 31 = .ok (.iload_n 1, 1) := by decide +kernel
theorem d_G_interpolate_32 : decode b_G_interpolate 32 = .ok (.iload_n 2, 1) := by decide +kernel
theorem d_G_interpolate_33 : decode b_G_interpolate 33 = .ok (.iload 5, 2) := by decide +kernel
theorem d_G_interpolate_35 : decode b_G_interpolate 35 = .ok (.invokevirtual 50, 3) := by decide +kernel
theorem d_G_interpolate_38 : decode b_G_interpolate 38 = .ok (.invokevirtual 32, 3) := by decide +kernel
theorem d_G_interpolate_41 : decode b_G_interpolate 41 = .ok (.invokevirtual 36, 3) := by decide +kernel
theorem d_G_interpolate_44 : decode b_G_interpolate 44 = .ok (.istore 4, 2) := by decide +kernel
theorem d_G_interpolate_46 : decode b_G_interpolate 46 = .ok (.iinc 5 1, 3) := by decide +kernel
theorem d_G_interpolate_49 : decode b_G_interpolate 49 = .ok (.goto (-43), 3) := by decide +kernel
theorem d_G_interpolate_52 : decode b_G_interpolate 52 = .ok (.iload 4, 2) := by decide +kernel
theorem d_G_interpolate_54 : decode b_G_interpolate 54 = .ok (.ireturn, 1) := by decide +kernel
theorem d_G_weight_0 : decode b_G_weight 0 = .ok (.iconst 1, 1) := by decide +kernel
theorem d_G_weight_1 : decode b_G_weight 1 = .ok (.istore 4, 2) := by decide +kernel
theorem d_G_weight_3 : decode b_G_weight 3 = .ok (.iconst 1, 1) := by decide +kernel
theorem d_G_weight_4 : decode b_G_weight 4 = .ok (.istore 5, 2) := by decide +kernel
theorem d_G_weight_6 : decode b_G_weight 6 = .ok (.iconst 1, 1) := by decide +kernel
theorem d_G_weight_7 : decode b_G_weight 7 = .ok (.istore 6, 2) := by decide +kernel
theorem d_G_weight_9 : decode b_G_weight 9 = .ok (.iload 6, 2) := by decide +kernel
theorem d_G_weight_11 : decode b_G_weight 11 = .ok (.bipush 7, 2) := by decide +kernel
theorem d_G_weight_13 : decode b_G_weight 13 = .ok (.if_icmp .gt 62, 3) := by decide +kernel
theorem d_G_weight_16 : decode b_G_weight 16 = .ok (.iload 6, 2) := by decide +kernel
theorem d_G_weight_18 : decode b_G_weight 18 = .ok (.iload_n 3, 1) := by decide +kernel
theorem d_G_weight_19 : decode b_G_weight 19 = .ok (.if_icmp .eq 50, 3) := by decide +kernel
theorem d_G_weight_22 : decode b_G_weight 22 = .ok (.iload_n 2, 1) := by decide +kernel
theorem d_G_weight_23 : decode b_G_weight 23 = .ok (.iload 6, 2) := by decide +kernel
theorem d_G_weight_25 : decode b_G_weight 25 = .ok (.invokestatic 46, 3) := by decide +kernel
theorem d_G_weight_28 : decode b_G_weight 28 = .ok (.ifCond .eq 41, 3) := by decide +kernel
theorem d_G_weight_31 : decode b_G_weight 31 = .ok (.aload_n 0, 1) := by decide +kernel
theorem d_G_weight_32 : decode b_G_weight 32 = .ok (.iload 4, 2) := by decide +kernel
theorem d_G_weight_34 : decode b_G_weight 34 = .ok (.iload_n 1, 1) := by decide +kernel
theorem d_G_weight_35 : decode b_G_weight 35 = .ok (.iload 6, 2) := by decide +kernel
theorem d_G_weight_37 : decode b_G_weight 37 = .ok (.isub, 1) := by decide +kernel
theorem d_G_weight_38 : decode b_G_weight 38 = .ok (.aload_n 0, 1) := by decide +kernel
theorem d_G_weight_39 : decode b_G_weight 39 = .ok (.getfield 15, 3) := by decide +kernel
theorem d_G_weight_42 : decode b_G_weight 42 = .ok (.invokestatic 53, 3) := by decide +kernel
theorem d_G_weight_45 : decode b_G_weight 45 = .ok (.invokevirtual 32, 3) := by decide +kernel
theorem d_G_weight_48 : decode b_G_weight 48 = .ok (.istore 4, 2) := by decide +kernel
theorem d_G_weight_50 : decode b_G_weight 50 = .ok (.aload_n 0, 1) := by decide +kernel
theorem d_G_weight_51 : decode b_G_weight 51 = .ok (.iload 5, 2) := by decide +kernel
theorem d_G_weight_53 : decode b_G_weight 53 = .ok (.iload_n 3, 1) := by decide +kernel
theorem d_G_weight_54 : decode b_G_weight 54 = .ok (.iload 6, 2) := by decide +kernel
theorem d_G_weight_56 : decode b_G_weight 56 = .ok (.isub, 1) := by decide +kernel
theorem d_G_weight_57 : decode b_G_weight 57 = .ok (.aload_n 0, 1) := by decide +kernel
theorem d_G_weight_58 : decode b_G_weight 58 = .ok (.getfield 15, 3) := by decide +kernel
theorem d_G_weight_61 : decode b_G_weight 61 = .ok (.invokestatic 53, 3) := by decide +kernel
theorem d_G_weight_64 : decode b_G_weight 64 = .ok (.invokevirtual 32, 3) := by decide +kernel
theorem d_G_weight_67 : decode b_G_weight 67 = .ok (.istore 5, 2) := by decide +kernel
theorem d_G_weight_69 : decode b_G_weight 69 = .ok (.iinc 6 1, 3) := by decide +kernel
theorem d_G_weight_72 : decode b_G_weight 72 = .ok (.goto (-63), 3) := by decide +kernel
theorem d_G_weight_75 : decode b_G_weight 75 = .ok (.aload_n 0, 1) := by decide +kernel
theorem d_G_weight_76 : decode b_G_weight 76 = .ok (.iload 4, 2) := by decide +kernel
theorem d_G_weight_78 : decode b_G_weight 78 = .ok (.iload 5, 2) := by decide +kernel
theorem d_G_weight_80 : decode b_G_weight 80 = .ok (.aload_n 0, 1) := by decide +kernel
theorem d_G_weight_81 : decode b_G_weight 81 = .ok (.getfield 15, 3) := by decide +kernel
theorem d_G_weight_84 : decode b_G_weight 84 = .ok (.iconst 2, 1) := by decide +kernel
theorem d_G_weight_85 : decode b_G_weight 85 = .ok (.isub, 1) := by decide +kernel
theorem d_G_weight_86 : decode b_G_weight 86 = .ok (.aload_n 0, 1) := by decide +kernel
theorem d_G_weight_87 : decode b_G_weight 87 = .ok (.getfield 15, 3) := by decide +kernel
theorem d_G_weight_90 : decode b_G_weight 90 = .ok (.invokestatic 21, 3) := by decide +kernel
theorem d_G_weight_93 : decode b_G_weight 93 = .ok (.invokevirtual 32, 3) := by decide +kernel
theorem d_G_weight_96 : decode b_G_weight 96 = .ok (.ireturn, 1) := by decide +kernel
theorem d_JM_floorMod_0 : decode b_JM_floorMod 0 = .ok (.iload_n 0, 1) := by decide +kernel
theorem d_JM_floorMod_1 : decode b_JM_floorMod 1 = .ok (.iload_n 1, 1) := by decide +kernel
theorem d_JM_floorMod_2 : decode b_JM_floorMod 2 = .ok (.irem, 1) := by decide +kernel
theorem d_JM_floorMod_3 : decode b_JM_floorMod 3 = .ok (.istore_n 2, 1) := by decide +kernel
theorem d_JM_floorMod_4 : decode b_JM_floorMod 4 = .ok (.iload_n 0, 1) := by decide +kernel
theorem d_JM_floorMod_5 : decode b_JM_floorMod 5 = .ok (.iload_n 1, 1) := by decide +kernel
theorem d_JM_floorMod_6 : decode b_JM_floorMod 6 = .ok (.ixor, 1) := by decide +kernel
theorem d_JM_floorMod_7 : decode b_JM_floorMod 7 = .ok (.ifCond .ge 11, 3) := by decide +kernel
theorem d_JM_floorMod_10 : decode b_JM_floorMod 10 = .ok (.iload_n 2, 1) := by decide +kernel
theorem d_JM_floorMod_11 : decode b_JM_floorMod 11 = .ok (.ifCond .eq 7, 3) := by decide +kernel
theorem d_JM_floorMod_14 : decode b_JM_floorMod 14 = .ok (.iload_n 2, 1) := by decide +kernel
theorem d_JM_floorMod_15 : decode b_JM_floorMod 15 = .ok (.iload_n 1, 1) := by decide +kernel
theorem d_JM_floorMod_16 : decode b_JM_floorMod 16 = .ok (.iadd, 1) := by decide +kernel
theorem d_JM_floorMod_17 : decode b_JM_floorMod 17 = .ok (.ireturn, 1) := by decide +kernel
theorem d_JM_floorMod_18 : decode b_JM_floorMod 18 = .ok (.iload_n 2, 1) := by decide +kernel
theorem d_JM_floorMod_19 : decode b_JM_floorMod 19 = .ok (.ireturn, 1) := by decide +kernel
theorem d_L_share_0 : decode b_L_share 0 = .ok (.aload_n 2, 1) := by decide +kernel
theorem d_L_share_1 : decode b_L_share 1 = .ok (.iconst 0, 1) := by decide +kernel
theorem d_L_share_2 : decode b_L_share 2 = .ok (.aload_n 0, 1) := by decide +kernel
theorem d_L_share_3 : decode b_L_share 3 = .ok (.iload_n 1, 1) := by decide +kernel
theorem d_L_share_4 : decode b_L_share 4 = .ok (.invokevirtual 51, 3) := by decide +kernel
theorem d_L_share_7 : decode b_L_share 7 = .ok (.i2l, 1) := by decide +kernel
theorem d_L_share_8 : decode b_L_share 8 = .ok (.lastore, 1) := by decide +kernel
theorem d_L_share_9 : decode b_L_share 9 = .ok (.goto 9, 3) := by decide +kernel
theorem d_L_share_12 : decode b_L_share 12 = .ok (.astore_n 3, 1) := by decide +kernel
theorem d_L_share_13 : decode b_L_share 13 = .ok (.iconst 1, 1) := by decide +kernel
theorem d_L_share_14 : decode b_L_share 14 = .ok (.ireturn, 1) := by decide +kernel
theorem d_L_share_15 : decode b_L_share 15 = .ok (.astore_n 3, 1) := by decide +kernel
theorem d_L_share_16 : decode b_L_share 16 = .ok (.iconst 2, 1) := by decide +kernel
theorem d_L_share_17 : decode b_L_share 17 = .ok (.ireturn, 1) := by decide +kernel
theorem d_L_share_18 : decode b_L_share 18 = .ok (.iconst 0, 1) := by decide +kernel
theorem d_L_share_19 : decode b_L_share 19 = .ok (.ireturn, 1) := by decide +kernel
theorem d_K_share_0 : decode b_K_share 0 = .ok (.aload_n 0, 1) := by decide +kernel
theorem d_K_share_1 : decode b_K_share 1 = .ok (.invokevirtual 95, 3) := by decide +kernel
theorem d_K_share_4 : decode b_K_share 4 = .ok (.iload_n 1, 1) := by decide +kernel
theorem d_K_share_5 : decode b_K_share 5 = .ok (.invokestatic 98, 3) := by decide +kernel
theorem d_K_share_8 : decode b_K_share 8 = .ok (.aload_n 0, 1) := by decide +kernel
theorem d_K_share_9 : decode b_K_share 9 = .ok (.getfield 32, 3) := by decide +kernel
theorem d_K_share_12 : decode b_K_share 12 = .ok (.iload_n 1, 1) := by decide +kernel
theorem d_K_share_13 : decode b_K_share 13 = .ok (.iaload, 1) := by decide +kernel
theorem d_K_share_14 : decode b_K_share 14 = .ok (.ireturn, 1) := by decide +kernel
theorem d_L_fits_0 : decode b_L_fits 0 = .ok (.aload_n 2, 1) := by decide +kernel
theorem d_L_fits_1 : decode b_L_fits 1 = .ok (.iconst 0, 1) := by decide +kernel
theorem d_L_fits_2 : decode b_L_fits 2 = .ok (.aload_n 0, 1) := by decide +kernel
theorem d_L_fits_3 : decode b_L_fits 3 = .ok (.iload_n 1, 1) := by decide +kernel
theorem d_L_fits_4 : decode b_L_fits 4 = .ok (.invokevirtual 54, 3) := by decide +kernel
theorem d_L_fits_7 : decode b_L_fits 7 = .ok (.ifCond .eq 7, 3) := by decide +kernel
theorem d_L_fits_10 : decode b_L_fits 10 = .ok (.lconst 1, 1) := by decide +kernel
theorem d_L_fits_11 : decode b_L_fits 11 = .ok (.goto 4, 3) := by decide +kernel
theorem d_L_fits_14 : decode b_L_fits 14 = .ok (.lconst 0, 1) := by decide +kernel
theorem d_L_fits_15 : decode b_L_fits 15 = .ok (.lastore, 1) := by decide +kernel
theorem d_L_fits_16 : decode b_L_fits 16 = .ok (.goto 9, 3) := by decide +kernel
theorem d_L_fits_19 : decode b_L_fits 19 = .ok (.astore_n 3, 1) := by decide +kernel
theorem d_L_fits_20 : decode b_L_fits 20 = .ok (.iconst 1, 1) := by decide +kernel
theorem d_L_fits_21 : decode b_L_fits 21 = .ok (.ireturn, 1) := by decide +kernel
theorem d_L_fits_22 : decode b_L_fits 22 = .ok (.astore_n 3, 1) := by decide +kernel
theorem d_L_fits_23 : decode b_L_fits 23 = .ok (.iconst 2, 1) := by decide +kernel
theorem d_L_fits_24 : decode b_L_fits 24 = .ok (.ireturn, 1) := by decide +kernel
theorem d_L_fits_25 : decode b_L_fits 25 = .ok (.iconst 0, 1) := by decide +kernel
theorem d_L_fits_26 : decode b_L_fits 26 = .ok (.ireturn, 1) := by decide +kernel
theorem d_K_fits_0 : decode b_K_fits 0 = .ok (.aload_n 0, 1) := by decide +kernel
theorem d_K_fits_1 : decode b_K_fits 1 = .ok (.invokevirtual 95, 3) := by decide +kernel
theorem d_K_fits_4 : decode b_K_fits 4 = .ok (.iload_n 1, 1) := by decide +kernel
theorem d_K_fits_5 : decode b_K_fits 5 = .ok (.invokestatic 98, 3) := by decide +kernel
theorem d_K_fits_8 : decode b_K_fits 8 = .ok (.aload_n 0, 1) := by decide +kernel
theorem d_K_fits_9 : decode b_K_fits 9 = .ok (.iload_n 1, 1) := by decide +kernel
theorem d_K_fits_10 : decode b_K_fits 10 = .ok (.invokevirtual 186, 3) := by decide +kernel
theorem d_K_fits_13 : decode b_K_fits 13 = .ok (.ireturn, 1) := by decide +kernel
theorem d_L_sum_0 : decode b_L_sum 0 = .ok (.aload_n 2, 1) := by decide +kernel
theorem d_L_sum_1 : decode b_L_sum 1 = .ok (.iconst 0, 1) := by decide +kernel
theorem d_L_sum_2 : decode b_L_sum 2 = .ok (.aload_n 0, 1) := by decide +kernel
theorem d_L_sum_3 : decode b_L_sum 3 = .ok (.iload_n 1, 1) := by decide +kernel
theorem d_L_sum_4 : decode b_L_sum 4 = .ok (.invokevirtual 58, 3) := by decide +kernel
theorem d_L_sum_7 : decode b_L_sum 7 = .ok (.i2l, 1) := by decide +kernel
theorem d_L_sum_8 : decode b_L_sum 8 = .ok (.lastore, 1) := by decide +kernel
theorem d_L_sum_9 : decode b_L_sum 9 = .ok (.goto 9, 3) := by decide +kernel
theorem d_L_sum_12 : decode b_L_sum 12 = .ok (.astore_n 3, 1) := by decide +kernel
theorem d_L_sum_13 : decode b_L_sum 13 = .ok (.iconst 1, 1) := by decide +kernel
theorem d_L_sum_14 : decode b_L_sum 14 = .ok (.ireturn, 1) := by decide +kernel
theorem d_L_sum_15 : decode b_L_sum 15 = .ok (.astore_n 3, 1) := by decide +kernel
theorem d_L_sum_16 : decode b_L_sum 16 = .ok (.iconst 2, 1) := by decide +kernel
theorem d_L_sum_17 : decode b_L_sum 17 = .ok (.ireturn, 1) := by decide +kernel
theorem d_L_sum_18 : decode b_L_sum 18 = .ok (.iconst 0, 1) := by decide +kernel
theorem d_L_sum_19 : decode b_L_sum 19 = .ok (.ireturn, 1) := by decide +kernel
theorem d_K_sum_0 : decode b_K_sum 0 = .ok (.aload_n 0, 1) := by decide +kernel
theorem d_K_sum_1 : decode b_K_sum 1 = .ok (.invokevirtual 95, 3) := by decide +kernel
theorem d_K_sum_4 : decode b_K_sum 4 = .ok (.iload_n 1, 1) := by decide +kernel
theorem d_K_sum_5 : decode b_K_sum 5 = .ok (.ifCond .lt 8, 3) := by decide +kernel
theorem d_K_sum_8 : decode b_K_sum 8 = .ok (.iload_n 1, 1) := by decide +kernel
theorem d_K_sum_9 : decode b_K_sum 9 = .ok (.iconst 4, 1) := by decide +kernel
