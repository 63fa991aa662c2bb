theorem d_B_addDealing_31 : decode b_B_addDealing 31 = .ok (.aload_n 3, 1) := by decide +kernel
theorem d_B_addDealing_32 : decode b_B_addDealing 32 = .ok (.iconst 0, 1) := by decide +kernel
theorem d_B_addDealing_33 : decode b_B_addDealing 33 = .ok (.aload_n 0, 1) := by decide +kernel
theorem d_B_addDealing_34 : decode b_B_addDealing 34 = .ok (.getfield 11, 3) := by decide +kernel
theorem d_B_addDealing_37 : decode b_B_addDealing 37 = .ok (.iload 4, 2) := by decide +kernel
theorem d_B_addDealing_39 : decode b_B_addDealing 39 = .ok (.iconst 4, 1) := by decide +kernel
theorem d_B_addDealing_40 : decode b_B_addDealing 40 = .ok (.invokestatic 23, 3) := by decide +kernel
theorem d_B_addDealing_43 : decode b_B_addDealing 43 = .ok (.return_, 1) := by decide +kernel
theorem d_B_add_0 : decode b_B_add 0 = .ok (.aload_n 0, 1) := by decide +kernel
theorem d_B_add_1 : decode b_B_add 1 = .ok (.getfield 15, 3) := by decide +kernel
theorem d_B_add_4 : decode b_B_add 4 = .ok (.sipush 250, 3) := by decide +kernel
theorem d_B_add_7 : decode b_B_add 7 = .ok (.if_icmp .lt 4, 3) := by decide +kernel
theorem d_B_add_10 : decode b_B_add 10 = .ok (.return_, 1) := by decide +kernel
theorem d_B_add_11 : decode b_B_add 11 = .ok (.aload_n 0, 1) := by decide +kernel
theorem d_B_add_12 : decode b_B_add 12 = .ok (.getfield 15, 3) := by decide +kernel
theorem d_B_add_15 : decode b_B_add 15 = .ok (.bipush 9, 2) := by decide +kernel
theorem d_B_add_17 : decode b_B_add 17 = .ok (.imul, 1) := by decide +kernel
theorem d_B_add_18 : decode b_B_add 18 = .ok (.istore 6, 2) := by decide +kernel
theorem d_B_add_20 : decode b_B_add 20 = .ok (.aload_n 0, 1) := by decide +kernel
theorem d_B_add_21 : decode b_B_add 21 = .ok (.getfield 11, 3) := by decide +kernel
theorem d_B_add_24 : decode b_B_add 24 = .ok (.iload 6, 2) := by decide +kernel
theorem d_B_add_26 : decode b_B_add 26 = .ok (.iload_n 1, 1) := by decide +kernel
theorem d_B_add_27 : decode b_B_add 27 = .ok (.iastore, 1) := by decide +kernel
theorem d_B_add_28 : decode b_B_add 28 = .ok (.aload_n 0, 1) := by decide +kernel
theorem d_B_add_29 : decode b_B_add 29 = .ok (.getfield 11, 3) := by decide +kernel
theorem d_B_add_32 : decode b_B_add 32 = .ok (.iload 6, 2) := by decide +kernel
theorem d_B_add_34 : decode b_B_add 34 = .ok (.iconst 1, 1) := by decide +kernel
theorem d_B_add_35 : decode b_B_add 35 = .ok (.iadd, 1) := by decide +kernel
theorem d_B_add_36 : decode b_B_add 36 = .ok (.iload_n 2, 1) := by decide +kernel
theorem d_B_add_37 : decode b_B_add 37 = .ok (.iastore, 1) := by decide +kernel
theorem d_B_add_38 : decode b_B_add 38 = .ok (.aload_n 0, 1) := by decide +kernel
theorem d_B_add_39 : decode b_B_add 39 = .ok (.getfield 11, 3) := by decide +kernel
theorem d_B_add_42 : decode b_B_add 42 = .ok (.iload 6, 2) := by decide +kernel
theorem d_B_add_44 : decode b_B_add 44 = .ok (.iconst 2, 1) := by decide +kernel
theorem d_B_add_45 : decode b_B_add 45 = .ok (.iadd, 1) := by decide +kernel
theorem d_B_add_46 : decode b_B_add 46 = .ok (.iload_n 3, 1) := by decide +kernel
theorem d_B_add_47 : decode b_B_add 47 = .ok (.iastore, 1) := by decide +kernel
theorem d_B_add_48 : decode b_B_add 48 = .ok (.aload_n 0, 1) := by decide +kernel
theorem d_B_add_49 : decode b_B_add 49 = .ok (.getfield 11, 3) := by decide +kernel
theorem d_B_add_52 : decode b_B_add 52 = .ok (.iload 6, 2) := by decide +kernel
theorem d_B_add_54 : decode b_B_add 54 = .ok (.iconst 3, 1) := by decide +kernel
theorem d_B_add_55 : decode b_B_add 55 = .ok (.iadd, 1) := by decide +kernel
theorem d_B_add_56 : decode b_B_add 56 = .ok (.iload 4, 2) := by decide +kernel
theorem d_B_add_58 : decode b_B_add 58 = .ok (.iastore, 1) := by decide +kernel
theorem d_B_add_59 : decode b_B_add 59 = .ok (.aload_n 0, 1) := by decide +kernel
theorem d_B_add_60 : decode b_B_add 60 = .ok (.getfield 11, 3) := by decide +kernel
theorem d_B_add_63 : decode b_B_add 63 = .ok (.iload 6, 2) := by decide +kernel
theorem d_B_add_65 : decode b_B_add 65 = .ok (.iconst 4, 1) := by decide +kernel
theorem d_B_add_66 : decode b_B_add 66 = .ok (.iadd, 1) := by decide +kernel
theorem d_B_add_67 : decode b_B_add 67 = .ok (.iload 5, 2) := by decide +kernel
theorem d_B_add_69 : decode b_B_add 69 = .ok (.iastore, 1) := by decide +kernel
theorem d_B_add_70 : decode b_B_add 70 = .ok (.iconst 5, 1) := by decide +kernel
theorem d_B_add_71 : decode b_B_add 71 = .ok (.istore 7, 2) := by decide +kernel
theorem d_B_add_73 : decode b_B_add 73 = .ok (.iload 7, 2) := by decide +kernel
theorem d_B_add_75 : decode b_B_add 75 = .ok (.bipush 9, 2) := by decide +kernel
theorem d_B_add_77 : decode b_B_add 77 = .ok (.if_icmp .ge 20, 3) := by decide +kernel
theorem d_B_add_80 : decode b_B_add 80 = .ok (.aload_n 0, 1) := by decide +kernel
theorem d_B_add_81 : decode b_B_add 81 = .ok (.getfield 11, 3) := by decide +kernel
theorem d_B_add_84 : decode b_B_add 84 = .ok (.iload 6, 2) := by decide +kernel
theorem d_B_add_86 : decode b_B_add 86 = .ok (.iload 7, 2) := by decide +kernel
theorem d_B_add_88 : decode b_B_add 88 = .ok (.iadd, 1) := by decide +kernel
theorem d_B_add_89 : decode b_B_add 89 = .ok (.iconst 0, 1) := by decide +kernel
theorem d_B_add_90 : decode b_B_add 90 = .ok (.iastore, 1) := by decide +kernel
theorem d_B_add_91 : decode b_B_add 91 = .ok (.iinc 7 1, 3) := by decide +kernel
theorem d_B_add_94 : decode b_B_add 94 = .ok (.goto (-21), 3) := by decide +kernel
theorem d_B_add_97 : decode b_B_add 97 = .ok (.aload_n 0, 1) := by decide +kernel
theorem d_B_add_98 : decode b_B_add 98 = .ok (.dup, 1) := by decide +kernel
theorem d_B_add_99 : decode b_B_add 99 = .ok (.getfield 15, 3) := by decide +kernel
theorem d_B_add_102 : decode b_B_add 102 = .ok (.iconst 1, 1) := by decide +kernel
theorem d_B_add_103 : decode b_B_add 103 = .ok (.iadd, 1) := by decide +kernel
theorem d_B_add_104 : decode b_B_add 104 = .ok (.putfield 15, 3) := by decide +kernel
theorem d_B_add_107 : decode b_B_add 107 = .ok (.return_, 1) := by decide +kernel
theorem d_L_look_0 : decode b_L_look 0 = .ok (.aload_n 2, 1) := by decide +kernel
theorem d_L_look_1 : decode b_L_look 1 = .ok (.iconst 0, 1) := by decide +kernel
theorem d_L_look_2 : decode b_L_look 2 = .ok (.aload_n 0, 1) := by decide +kernel
theorem d_L_look_3 : decode b_L_look 3 = .ok (.iload_n 1, 1) := by decide +kernel
theorem d_L_look_4 : decode b_L_look 4 = .ok (.invokevirtual 32, 3) := by decide +kernel
theorem d_L_look_7 : decode b_L_look 7 = .ok (.i2l, 1) := by decide +kernel
theorem d_L_look_8 : decode b_L_look 8 = .ok (.lastore, 1) := by decide +kernel
theorem d_L_look_9 : decode b_L_look 9 = .ok (.goto 12, 3) := by decide +kernel
theorem d_L_look_12 : decode b_L_look 12 = .ok (.astore_n 3, 1) := by decide +kernel
theorem d_L_look_13 : decode b_L_look 13 = .ok (.iconst 1, 1) := by decide +kernel
theorem d_L_look_14 : decode b_L_look 14 = .ok (.ireturn, 1) := by decide +kernel
theorem d_L_look_15 : decode b_L_look 15 = .ok (.astore_n 3, 1) := by decide +kernel
theorem d_L_look_16 : decode b_L_look 16 = .ok (.iconst 2, 1) := by decide +kernel
theorem d_L_look_17 : decode b_L_look 17 = .ok (.ireturn, 1) := by decide +kernel
theorem d_L_look_18 : decode b_L_look 18 = .ok (.astore_n 3, 1) := by decide +kernel
theorem d_L_look_19 : decode b_L_look 19 = .ok (.iconst 3, 1) := by decide +kernel
theorem d_L_look_20 : decode b_L_look 20 = .ok (.ireturn, 1) := by decide +kernel
theorem d_L_look_21 : decode b_L_look 21 = .ok (.iconst 0, 1) := by decide +kernel
theorem d_L_look_22 : decode b_L_look 22 = .ok (.ireturn, 1) := by decide +kernel
theorem d_K_look_0 : decode b_K_look 0 = .ok (.aload_n 0, 1) := by decide +kernel
theorem d_K_look_1 : decode b_K_look 1 = .ok (.invokevirtual 95, 3) := by decide +kernel
theorem d_K_look_4 : decode b_K_look 4 = .ok (.iload_n 1, 1) := by decide +kernel
theorem d_K_look_5 : decode b_K_look 5 = .ok (.invokestatic 98, 3) := by decide +kernel
theorem d_K_look_8 : decode b_K_look 8 = .ok (.aload_n 0, 1) := by decide +kernel
theorem d_K_look_9 : decode b_K_look 9 = .ok (.getfield 28, 3) := by decide +kernel
theorem d_K_look_12 : decode b_K_look 12 = .ok (.iload_n 1, 1) := by decide +kernel
theorem d_K_look_13 : decode b_K_look 13 = .ok (.invokevirtual 138, 3) := by decide +kernel
theorem d_K_look_16 : decode b_K_look 16 = .ok (.istore_n 2, 1) := by decide +kernel
theorem d_K_look_17 : decode b_K_look 17 = .ok (.iload_n 2, 1) := by decide +kernel
theorem d_K_look_18 : decode b_K_look 18 = .ok (.invokestatic 142, 3) := by decide +kernel
theorem d_K_look_21 : decode b_K_look 21 = .ok (.istore_n 3, 1) := by decide +kernel
theorem d_K_look_22 : decode b_K_look 22 = .ok (.iload_n 3, 1) := by decide +kernel
theorem d_K_look_23 : decode b_K_look 23 = .ok (.aload_n 0, 1) := by decide +kernel
theorem d_K_look_24 : decode b_K_look 24 = .ok (.getfield 19, 3) := by decide +kernel
theorem d_K_look_27 : decode b_K_look 27 = .ok (.invokevirtual 116, 3) := by decide +kernel
theorem d_K_look_30 : decode b_K_look 30 = .ok (.if_icmp .le 11, 3) := by decide +kernel
theorem d_K_look_33 : decode b_K_look 33 = .ok (.new 109, 3) := by decide +kernel
theorem d_K_look_36 : decode b_K_look 36 = .ok (.dup, 1) := by decide +kernel
theorem d_K_look_37 : decode b_K_look 37 = .ok (.invokespecial 111, 3) := by decide +kernel
theorem d_K_look_40 : decode b_K_look 40 = .ok (.athrow, 1) := by decide +kernel
theorem d_K_look_41 : decode b_K_look 41 = .ok (.iconst 1, 1) := by decide +kernel
theorem d_K_look_42 : decode b_K_look 42 = .ok (.istore 4, 2) := by decide +kernel
theorem d_K_look_44 : decode b_K_look 44 = .ok (.iload 4, 2) := by decide +kernel
theorem d_K_look_46 : decode b_K_look 46 = .ok (.bipush 7, 2) := by decide +kernel
theorem d_K_look_48 : decode b_K_look 48 = .ok (.if_icmp .gt 44, 3) := by decide +kernel
theorem d_K_look_51 : decode b_K_look 51 = .ok (.iload_n 2, 1) := by decide +kernel
theorem d_K_look_52 : decode b_K_look 52 = .ok (.iload 4, 2) := by decide +kernel
theorem d_K_look_54 : decode b_K_look 54 = .ok (.invokestatic 147, 3) := by decide +kernel
theorem d_K_look_57 : decode b_K_look 57 = .ok (.ifCond .eq 29, 3) := by decide +kernel
theorem d_K_look_60 : decode b_K_look 60 = .ok (.aload_n 0, 1) := by decide +kernel
theorem d_K_look_61 : decode b_K_look 61 = .ok (.getfield 28, 3) := by decide +kernel
theorem d_K_look_64 : decode b_K_look 64 = .ok (.iload_n 1, 1) := by decide +kernel
theorem d_K_look_65 : decode b_K_look 65 = .ok (.iload 4, 2) := by decide +kernel
theorem d_K_look_67 : decode b_K_look 67 = .ok (.invokevirtual 150, 3) := by decide +kernel
theorem d_K_look_70 : decode b_K_look 70 = .ok (.aload_n 0, 1) := by decide +kernel
theorem d_K_look_71 : decode b_K_look 71 = .ok (.getfield 19, 3) := by decide +kernel
theorem d_K_look_74 : decode b_K_look 74 = .ok (.iconst 2, 1) := by decide +kernel
theorem d_K_look_75 : decode b_K_look 75 = .ok (.iload_n 1, 1) := by decide +kernel
theorem d_K_look_76 : decode b_K_look 76 = .ok (.iload 4, 2) := by decide +kernel
theorem d_K_look_78 : decode b_K_look 78 = .ok (.iconst 0, 1) := by decide +kernel
theorem d_K_look_79 : decode b_K_look 79 = .ok (.aload_n 0, 1) := by decide +kernel
theorem d_K_look_80 : decode b_K_look 80 = .ok (.getfield 42, 3) := by decide +kernel
theorem d_K_look_83 : decode b_K_look 83 = .ok (.invokevirtual 153, 3) := by decide +kernel
theorem d_K_look_86 : decode b_K_look 86 = .ok (.iinc 4 1, 3) := by decide +kernel
theorem d_K_look_89 : decode b_K_look 89 = .ok (.goto (-45), 3) := by decide +kernel
theorem d_K_look_92 : decode b_K_look 92 = .ok (.iload_n 3, 1) := by decide +kernel
theorem d_K_look_93 : decode b_K_look 93 = .ok (.ireturn, 1) := by decide +kernel
theorem d_V_accusedBy_0 : decode b_V_accusedBy 0 = .ok (.iconst 0, 1) := by decide +kernel
theorem d_V_accusedBy_1 : decode b_V_accusedBy 1 = .ok (.istore_n 2, 1) := by decide +kernel
theorem d_V_accusedBy_2 : decode b_V_accusedBy 2 = .ok (.iconst 1, 1) := by decide +kernel
theorem d_V_accusedBy_3 : decode b_V_accusedBy 3 = .ok (.istore_n 3, 1) := by decide +kernel
theorem d_V_accusedBy_4 : decode b_V_accusedBy 4 = .ok (.iload_n 3, 1) := by decide +kernel
theorem d_V_accusedBy_5 : decode b_V_accusedBy 5 = .ok (.bipush 7, 2) := by decide +kernel
theorem d_V_accusedBy_7 : decode b_V_accusedBy 7 = .ok (.if_icmp .gt 49, 3) := by decide +kernel
theorem d_V_accusedBy_10 : decode b_V_accusedBy 10 = .ok (.aload_n 0, 1) := by decide +kernel
theorem d_V_accusedBy_11 : decode b_V_accusedBy 11 = .ok (.getfield 46, 3) := by decide +kernel
theorem d_V_accusedBy_14 : decode b_V_accusedBy 14 = .ok (.iload_n 3, 1) := by decide +kernel
theorem d_V_accusedBy_15 : decode b_V_accusedBy 15 = .ok (.invokestatic 49, 3) := by decide +kernel
theorem d_V_accusedBy_18 : decode b_V_accusedBy 18 = .ok (.ifCond .eq 32, 3) := by decide +kernel
theorem d_V_accusedBy_21 : decode b_V_accusedBy 21 = .ok (.aload_n 0, 1) := by decide +kernel
theorem d_V_accusedBy_22 : decode b_V_accusedBy 22 = .ok (.getfield 26, 3) := by decide +kernel
theorem d_V_accusedBy_25 : decode b_V_accusedBy 25 = .ok (.iload_n 3, 1) := by decide +kernel
theorem d_V_accusedBy_26 : decode b_V_accusedBy 26 = .ok (.iaload, 1) := by decide +kernel
theorem d_V_accusedBy_27 : decode b_V_accusedBy 27 = .ok (.iload_n 1, 1) := by decide +kernel
theorem d_V_accusedBy_28 : decode b_V_accusedBy 28 = .ok (.invokestatic 49, 3) := by decide +kernel
theorem d_V_accusedBy_31 : decode b_V_accusedBy 31 = .ok (.ifCond .ne 19, 3) := by decide +kernel
theorem d_V_accusedBy_34 : decode b_V_accusedBy 34 = .ok (.aload_n 0, 1) := by decide +kernel
theorem d_V_accusedBy_35 : decode b_V_accusedBy 35 = .ok (.iload_n 1, 1) := by decide +kernel
theorem d_V_accusedBy_36 : decode b_V_accusedBy 36 = .ok (.iload_n 3, 1) := by decide +kernel
theorem d_V_accusedBy_37 : decode b_V_accusedBy 37 = .ok (.invokevirtual 90, 3) := by decide +kernel
theorem d_V_accusedBy_40 : decode b_V_accusedBy 40 = .ok (.ifCond .eq 10, 3) := by decide +kernel
theorem d_V_accusedBy_43 : decode b_V_accusedBy 43 = .ok (.iload_n 2, 1) := by decide +kernel
theorem d_V_accusedBy_44 : decode b_V_accusedBy 44 = .ok (.iload_n 3, 1) := by decide +kernel
theorem d_V_accusedBy_45 : decode b_V_accusedBy 45 = .ok (.invokestatic 57, 3) := by decide +kernel
theorem d_V_accusedBy_48 : decode b_V_accusedBy 48 = .ok (.ior, 1) := by decide +kernel
theorem d_V_accusedBy_49 : decode b_V_accusedBy 49 = .ok (.istore_n 2, 1) := by decide +kernel
theorem d_V_accusedBy_50 : decode b_V_accusedBy 50 = .ok (.iinc 3 1, 3) := by decide +kernel
theorem d_V_accusedBy_53 : decode b_V_accusedBy 53 = .ok (.goto (-49), 3) := by decide +kernel
theorem d_V_accusedBy_56 : decode b_V_accusedBy 56 = .ok (.iload_n 2, 1) := by decide +kernel
theorem d_V_accusedBy_57 : decode b_V_accusedBy 57 = .ok (.ireturn, 1) := by decide +kernel
theorem d_V_objectsTo_0 : decode b_V_objectsTo 0 = .ok (.aload_n 0, 1) := by decide +kernel
theorem d_V_objectsTo_1 : decode b_V_objectsTo 1 = .ok (.getfield 9, 3) := by decide +kernel
theorem d_V_objectsTo_4 : decode b_V_objectsTo 4 = .ok (.iload_n 1, 1) := by decide +kernel
theorem d_V_objectsTo_5 : decode b_V_objectsTo 5 = .ok (.iaload, 1) := by decide +kernel
theorem d_V_objectsTo_6 : decode b_V_objectsTo 6 = .ok (.iconst 4, 1) := by decide +kernel
theorem d_V_objectsTo_7 : decode b_V_objectsTo 7 = .ok (.if_icmp .eq 28, 3) := by decide +kernel
theorem d_V_objectsTo_10 : decode b_V_objectsTo 10 = .ok (.aload_n 0, 1) := by decide +kernel
theorem d_V_objectsTo_11 : decode b_V_objectsTo 11 = .ok (.getfield 32, 3) := by decide +kernel
theorem d_V_objectsTo_14 : decode b_V_objectsTo 14 = .ok (.iload_n 1, 1) := by decide +kernel
theorem d_V_objectsTo_15 : decode b_V_objectsTo 15 = .ok (.aload_n 0, 1) := by decide +kernel
theorem d_V_objectsTo_16 : decode b_V_objectsTo 16 = .ok (.getfield 20, 3) := by decide +kernel
theorem d_V_objectsTo_19 : decode b_V_objectsTo 19 = .ok (.iload_n 2, 1) := by decide +kernel
theorem d_V_objectsTo_20 : decode b_V_objectsTo 20 = .ok (.aaload, 1) := by decide +kernel
theorem d_V_objectsTo_21 : decode b_V_objectsTo 21 = .ok (.aload_n 0, 1) := by decide +kernel
theorem d_V_objectsTo_22 : decode b_V_objectsTo 22 = .ok (.getfield 23, 3) := by decide +kernel
theorem d_V_objectsTo_25 : decode b_V_objectsTo 25 = .ok (.iload_n 2, 1) := by decide +kernel
theorem d_V_objectsTo_26 : decode b_V_objectsTo 26 = .ok (.aaload, 1) := by decide +kernel
theorem d_V_objectsTo_27 : decode b_V_objectsTo 27 = .ok (.iload_n 1, 1) := by decide +kernel
theorem d_V_objectsTo_28 : decode b_V_objectsTo 28 = .ok (.iaload, 1) := by decide +kernel
theorem d_V_objectsTo_29 : decode b_V_objectsTo 29 = .ok (.invokevirtual 93, 3) := by decide +kernel
theorem d_V_objectsTo_32 : decode b_V_objectsTo 32 = .ok (.ifCond .ne 7, 3) := by decide +kernel
theorem d_V_objectsTo_35 : decode b_V_objectsTo 35 = .ok (.iconst 1, 1) := by decide +kernel
theorem d_V_objectsTo_36 : decode b_V_objectsTo 36 = .ok (.goto 4, 3) := by decide +kernel
theorem d_V_objectsTo_39 : decode b_V_objectsTo 39 = .ok (.iconst 0, 1) := by decide +kernel
theorem d_V_objectsTo_40 : decode b_V_objectsTo 40 = .ok (.ireturn, 1) := by decide +kernel
theorem d_G_agree_0 : decode b_G_agree 0 = .ok (.aload_n 0, 1) := by decide +kernel
theorem d_G_agree_1 : decode b_G_agree 1 = .ok (.getfield 18, 3) := by decide +kernel
theorem d_G_agree_4 : decode b_G_agree 4 = .ok (.iload_n 3, 1) := by decide +kernel
theorem d_G_agree_5 : decode b_G_agree 5 = .ok (.aload_n 0, 1) := by decide +kernel
theorem d_G_agree_6 : decode b_G_agree 6 = .ok (.getfield 9, 3) := by decide +kernel
theorem d_G_agree_9 : decode b_G_agree 9 = .ok (.invokestatic 21, 3) := by decide +kernel
theorem d_G_agree_12 : decode b_G_agree 12 = .ok (.aload_n 0, 1) := by decide +kernel
theorem d_G_agree_13 : decode b_G_agree 13 = .ok (.iload_n 1, 1) := by decide +kernel
theorem d_G_agree_14 : decode b_G_agree 14 = .ok (.aload_n 2, 1) := by decide +kernel
theorem d_G_agree_15 : decode b_G_agree 15 = .ok (.invokevirtual 42, 3) := by decide +kernel
theorem d_G_agree_18 : decode b_G_agree 18 = .ok (.if_icmp .ne 7, 3) := by decide +kernel
theorem d_G_agree_21 : decode b_G_agree 21 = .ok (.iconst 1, 1) := by decide +kernel
theorem d_G_agree_22 : decode b_G_agree 22 = .ok (.goto 4, 3) := by decide +kernel
theorem d_G_agree_25 : decode b_G_agree 25 = .ok (.iconst 0, 1) := by decide +kernel
theorem d_G_agree_26 : decode b_G_agree 26 = .ok (.ireturn, 1) := by decide +kernel
theorem d_G_elementAt_0 : decode b_G_elementAt 0 = .ok (.iconst 1, 1) := by decide +kernel
theorem d_G_elementAt_1 : decode b_G_elementAt 1 = .ok (.istore_n 3, 1) := by decide +kernel
theorem d_G_elementAt_2 : decode b_G_elementAt 2 = .ok (.iconst 1, 1) := by decide +kernel
theorem d_G_elementAt_3 : decode b_G_elementAt 3 = .ok (.istore 4, 2) := by decide +kernel
theorem d_G_elementAt_5 : decode b_G_elementAt 5 = .ok (.iconst 0, 1) := by decide +kernel
theorem d_G_elementAt_6 : decode b_G_elementAt 6 = .ok (.istore 5, 2) := by decide +kernel
theorem d_G_elementAt_8 : decode b_G_elementAt 8 = .ok (.iload 5, 2) := by decide +kernel
theorem d_G_elementAt_10 : decode b_G_elementAt 10 = .ok (.iconst 4, 1) := by decide +kernel
theorem d_G_elementAt_11 : decode b_G_elementAt 11 = .ok (.if_icmp .ge 34, 3) := by decide +kernel
theorem d_G_elementAt_14 : decode b_G_elementAt 14 = .ok (.aload_n 0, 1) := by decide +kernel
theorem d_G_elementAt_15 : decode b_G_elementAt 15 = .ok (.iload_n 3, 1) := by decide +kernel
theorem d_G_elementAt_16 : decode b_G_elementAt 16 = .ok (.aload_n 2, 1) := by decide +kernel
theorem d_G_elementAt_17 : decode b_G_elementAt 17 = .ok (.iload 5, 2) := by decide +kernel
theorem d_G_elementAt_19 : decode b_G_elementAt 19 = .ok (.iaload, 1) := by decide +kernel
theorem d_G_elementAt_20 : decode b_G_elementAt 20 = .ok (.iload 4, 2) := by decide +kernel
theorem d_G_elementAt_22 : decode b_G_elementAt 22 = .ok (.aload_n 0, 1) := by decide +kernel
theorem d_G_elementAt_23 : decode b_G_elementAt 23 = .ok (.getfield 9, 3) := by decide +kernel
theorem d_G_elementAt_26 : decode b_G_elementAt 26 = .ok (.invokestatic 21, 3) := by decide +kernel
theorem d_G_elementAt_29 : decode b_G_elementAt 29 = .ok (.invokevirtual 39, 3) := by decide +kernel
theorem d_G_elementAt_32 : decode b_G_elementAt 32 = .ok (.istore_n 3, 1) := by decide +kernel
theorem d_G_elementAt_33 : decode b_G_elementAt 33 = .ok (.iload 4, 2) := by decide +kernel
theorem d_G_elementAt_35 : decode b_G_elementAt 35 = .ok (.iload_n 1, 1) := by decide +kernel
theorem d_G_elementAt_36 : decode b_G_elementAt 36 = .ok (.imul, 1) := by decide +kernel
theorem d_G_elementAt_37 : decode b_G_elementAt 37 = .ok (.istore 4, 2) := by decide +kernel
theorem d_G_elementAt_39 : decode b_G_elementAt 39 = .ok (.iinc 5 1, 3) := by decide +kernel
theorem d_G_elementAt_42 : decode b_G_elementAt 42 = .ok (.goto (-34), 3) := by decide +kernel
theorem d_G_elementAt_45 : decode b_G_elementAt 45 = .ok (.iload_n 3, 1) := by decide +kernel
theorem d_G_elementAt_46 : decode b_G_elementAt 46 = .ok (.ireturn, 1) := by decide +kernel
theorem d_G_multiply_0 : decode b_G_multiply 0 = .ok (.iload_n 1, 1) := by decide +kernel
theorem d_G_multiply_1 : decode b_G_multiply 1 = .ok (.i2l, 1) := by decide +kernel
theorem d_G_multiply_2 : decode b_G_multiply 2 = .ok (.iload_n 2, 1) := by decide +kernel
theorem d_G_multiply_3 : decode b_G_multiply 3 = .ok (.i2l, 1) := by decide +kernel
theorem d_G_multiply_4 : decode b_G_multiply 4 = .ok (.lmul, 1) := by decide +kernel
theorem d_G_multiply_5 : decode b_G_multiply 5 = .ok (.aload_n 0, 1) := by decide +kernel
theorem d_G_multiply_6 : decode b_G_multiply 6 = .ok (.getfield 9, 3) := by decide +kernel
theorem d_G_multiply_9 : decode b_G_multiply 9 = .ok (.i2l, 1) := by decide +kernel
theorem d_G_multiply_10 : decode b_G_multiply 10 = .ok (.lrem, 1) := by decide +kernel
theorem d_G_multiply_11 : decode b_G_multiply 11 = .ok (.l2i, 1) := by decide +kernel
theorem d_G_multiply_12 : decode b_G_multiply 12 = .ok (.ireturn, 1) := by decide +kernel
theorem d_V_complain_0 : decode b_V_complain 0 = .ok (.aload_n 0, 1) := by decide +kernel
theorem d_V_complain_1 : decode b_V_complain 1 = .ok (.getfield 26, 3) := by decide +kernel
theorem d_V_complain_4 : decode b_V_complain 4 = .ok (.iload_n 2, 1) := by decide +kernel
theorem d_V_complain_5 : decode b_V_complain 5 = .ok (.dup2, 1) := by decide +kernel
theorem d_V_complain_6 : decode b_V_complain 6 = .ok (.iaload, 1) := by decide +kernel
theorem d_V_complain_7 : decode b_V_complain 7 = .ok (.iload_n 1, 1) := by decide +kernel
theorem d_V_complain_8 : decode b_V_complain 8 = .ok (.invokestatic 57, 3) := by decide +kernel
theorem d_V_complain_11 : decode b_V_complain 11 = .ok (.ior, 1) := by decide +kernel
theorem d_V_complain_12 : decode b_V_complain 12 = .ok (.iastore, 1) := by decide +kernel
theorem d_V_complain_13 : decode b_V_complain 13 = .ok (.return_, 1) := by decide +kernel
theorem d_L_answer_0 : decode b_L_answer 0 = .ok (.aload_n 3, 1) := by decide +kernel
theorem d_L_answer_1 : decode b_L_answer 1 = .ok (.iconst 0, 1) := by decide +kernel
theorem d_L_answer_2 : decode b_L_answer 2 = .ok (.aload_n 0, 1) := by decide +kernel
theorem d_L_answer_3 : decode b_L_answer 3 = .ok (.iload_n 1, 1) := by decide +kernel
theorem d_L_answer_4 : decode b_L_answer 4 = .ok (.iload_n 2, 1) := by decide +kernel
theorem d_L_answer_5 : decode b_L_answer 5 = .ok (.invokevirtual 36, 3) := by decide +kernel
theorem d_L_answer_8 : decode b_L_answer 8 = .ok (.ifCond .eq 7, 3) := by decide +kernel
theorem d_L_answer_11 : decode b_L_answer 11 = .ok (.lconst 1, 1) := by decide +kernel
theorem d_L_answer_12 : decode b_L_answer 12 = .ok (.goto 4, 3) := by decide +kernel
theorem d_L_answer_15 : decode b_L_answer 15 = .ok (.lconst 0, 1) := by decide +kernel
theorem d_L_answer_16 : decode b_L_answer 16 = .ok (.lastore, 1) := by decide +kernel
theorem d_L_answer_17 : decode b_L_answer 17 = .ok (.goto 19, 3) := by decide +kernel
theorem d_L_answer_20 : decode b_L_answer 20 = .ok (.astore 4, 2) := by decide +kernel
theorem d_L_answer_22 : decode b_L_answer 22 = .ok (.iconst 1, 1) := by decide +kernel
theorem d_L_answer_23 : decode b_L_answer 23 = .ok (.ireturn, 1) := by decide +kernel
theorem d_L_answer_24 : decode b_L_answer 24 = .ok (.astore 4, 2) := by decide +kernel
theorem d_L_answer_26 : decode b_L_answer 26 = .ok (.iconst 2, 1) := by decide +kernel
theorem d_L_answer_27 : decode b_L_answer 27 = .ok (.ireturn, 1) := by decide +kernel
theorem d_L_answer_28 : decode b_L_answer 28 = .ok (.astore 4, 2) := by decide +kernel
theorem d_L_answer_30 : decode b_L_answer 30 = .ok (.iconst 3, 1) := by decide +kernel
theorem d_L_answer_31 : decode b_L_answer 31 = .ok (.ireturn, 1) := by decide +kernel
theorem d_L_answer_32 : decode b_L_answer 32 = .ok (.astore 4, 2) := by decide +kernel
theorem d_L_answer_34 : decode b_L_answer 34 = .ok (.iconst 4, 1) := by decide +kernel
theorem d_L_answer_35 : decode b_L_answer 35 = .ok (.ireturn, 1) := by decide +kernel
theorem d_L_answer_36 : decode b_L_answer 36 = .ok (.iconst 0, 1) := by decide +kernel
theorem d_L_answer_37 : decode b_L_answer 37 = .ok (.ireturn, 1) := by decide +kernel
theorem d_K_answer_0 : decode b_K_answer 0 = .ok (.aload_n 0, 1) := by decide +kernel
theorem d_K_answer_1 : decode b_K_answer 1 = .ok (.invokevirtual 95, 3) := by decide +kernel
theorem d_K_answer_4 : decode b_K_answer 4 = .ok (.iload_n 1, 1) := by decide +kernel
theorem d_K_answer_5 : decode b_K_answer 5 = .ok (.invokestatic 98, 3) := by decide +kernel
theorem d_K_answer_8 : decode b_K_answer 8 = .ok (.iload_n 2, 1) := by decide +kernel
theorem d_K_answer_9 : decode b_K_answer 9 = .ok (.invokestatic 98, 3) := by decide +kernel
theorem d_K_answer_12 : decode b_K_answer 12 = .ok (.aload_n 0, 1) := by decide +kernel
theorem d_K_answer_13 : decode b_K_answer 13 = .ok (.getfield 28, 3) := by decide +kernel
theorem d_K_answer_16 : decode b_K_answer 16 = .ok (.invokevirtual 157, 3) := by decide +kernel
theorem d_K_answer_19 : decode b_K_answer 19 = .ok (.iload_n 1, 1) := by decide +kernel
theorem d_K_answer_20 : decode b_K_answer 20 = .ok (.invokestatic 147, 3) := by decide +kernel
theorem d_K_answer_23 : decode b_K_answer 23 = .ok (.ifCond .ne 11, 3) := by decide +kernel
theorem d_K_answer_26 : decode b_K_answer 26 = .ok (.new 50, 3) := by decide +kernel
theorem d_K_answer_29 : decode b_K_answer 29 = .ok (.dup, 1) := by decide +kernel
theorem d_K_answer_30 : decode b_K_answer 30 = .ok (.invokespecial 52, 3) := by decide +kernel
theorem d_K_answer_33 : decode b_K_answer 33 = .ok (.athrow, 1) := by decide +kernel
theorem d_K_answer_34 : decode b_K_answer 34 = .ok (.aload_n 0, 1) := by decide +kernel
theorem d_K_answer_35 : decode b_K_answer 35 = .ok (.getfield 19, 3) := by decide +kernel
theorem d_K_answer_38 : decode b_K_answer 38 = .ok (.invokevirtual 116, 3) := by decide +kernel
theorem d_K_answer_41 : decode b_K_answer 41 = .ok (.ifCond .ne 11, 3) := by decide +kernel
theorem d_K_answer_44 : decode b_K_answer 44 = .ok (.new 109, 3) := by decide +kernel
theorem d_K_answer_47 : decode b_K_answer 47 = .ok (.dup, 1) := by decide +kernel
theorem d_K_answer_48 : decode b_K_answer 48 = .ok (.invokespecial 111, 3) := by decide +kernel
theorem d_K_answer_51 : decode b_K_answer 51 = .ok (.athrow, 1) := by decide +kernel
theorem d_K_answer_52 : decode b_K_answer 52 = .ok (.aload_n 0, 1) := by decide +kernel
theorem d_K_answer_53 : decode b_K_answer 53 = .ok (.getfield 28, 3) := by decide +kernel
theorem d_K_answer_56 : decode b_K_answer 56 = .ok (.iload_n 1, 1) := by decide +kernel
theorem d_K_answer_57 : decode b_K_answer 57 = .ok (.iload_n 2, 1) := by decide +kernel
theorem d_K_answer_58 : decode b_K_answer 58 = .ok (.invokevirtual 160, 3) := by decide +kernel
theorem d_K_answer_61 : decode b_K_answer 61 = .ok (.istore_n 3, 1) := by decide +kernel
theorem d_K_answer_62 : decode b_K_answer 62 = .ok (.iload_n 3, 1) := by decide +kernel
theorem d_K_answer_63 : decode b_K_answer 63 = .ok (.iconst (-1), 1) := by decide +kernel
theorem d_K_answer_64 : decode b_K_answer 64 = .ok (.if_icmp .ne 5, 3) := by decide +kernel
theorem d_K_answer_67 : decode b_K_answer 67 = .ok (.iconst 0, 1) := by decide +kernel
theorem d_K_answer_68 : decode b_K_answer 68 = .ok (.ireturn, 1) := by decide +kernel
theorem d_K_answer_69 : decode b_K_answer 69 = .ok (.aload_n 0, 1) := by decide +kernel
theorem d_K_answer_70 : decode b_K_answer 70 = .ok (.getfield 19, 3) := by decide +kernel
theorem d_K_answer_73 : decode b_K_answer 73 = .ok (.iconst 3, 1) := by decide +kernel
theorem d_K_answer_74 : decode b_K_answer 74 = .ok (.iload_n 1, 1) := by decide +kernel
theorem d_K_answer_75 : decode b_K_answer 75 = .ok (.iload_n 2, 1) := by decide +kernel
theorem d_K_answer_76 : decode b_K_answer 76 = .ok (.iload_n 3, 1) := by decide +kernel
theorem d_K_answer_77 : decode b_K_answer 77 = .ok (.aload_n 0, 1) := by decide +kernel
theorem d_K_answer_78 : decode b_K_answer 78 = .ok (.getfield 42, 3) := by decide +kernel
theorem d_K_answer_81 : decode b_K_answer 81 = .ok (.invokevirtual 153, 3) := by decide +kernel
theorem d_K_answer_84 : decode b_K_answer 84 = .ok (.aload_n 0, 1) := by decide +kernel
theorem d_K_answer_85 : decode b_K_answer 85 = .ok (.getfield 28, 3) := by decide +kernel
theorem d_K_answer_88 : decode b_K_answer 88 = .ok (.iload_n 1, 1) := by decide +kernel
theorem d_K_answer_89 : decode b_K_answer 89 = .ok (.iload_n 2, 1) := by decide +kernel
theorem d_K_answer_90 : decode b_K_answer 90 = .ok (.iload_n 3, 1) := by decide +kernel
theorem d_K_answer_91 : decode b_K_answer 91 = .ok (.invokevirtual 164, 3) := by decide +kernel
theorem d_K_answer_94 : decode b_K_answer 94 = .ok (.ireturn, 1) := by decide +kernel
theorem d_V_dealers_0 : decode b_V_dealers 0 = .ok (.aload_n 0, 1) := by decide +kernel
theorem d_V_dealers_1 : decode b_V_dealers 1 = .ok (.getfield 46, 3) := by decide +kernel
theorem d_V_dealers_4 : decode b_V_dealers 4 = .ok (.ireturn, 1) := by decide +kernel
theorem d_V_shownBy_0 : decode b_V_shownBy 0 = .ok (.aload_n 0, 1) := by decide +kernel
theorem d_V_shownBy_1 : decode b_V_shownBy 1 = .ok (.getfield 9, 3) := by decide +kernel
theorem d_V_shownBy_4 : decode b_V_shownBy 4 = .ok (.iload_n 1, 1) := by decide +kernel
theorem d_V_shownBy_5 : decode b_V_shownBy 5 = .ok (.iaload, 1) := by decide +kernel
theorem d_V_shownBy_6 : decode b_V_shownBy 6 = .ok (.bipush 6, 2) := by decide +kernel
theorem d_V_shownBy_8 : decode b_V_shownBy 8 = .ok (.if_icmp .ne 5, 3) := by decide +kernel
theorem d_V_shownBy_11 : decode b_V_shownBy 11 = .ok (.iconst (-1), 1) := by decide +kernel
theorem d_V_shownBy_12 : decode b_V_shownBy 12 = .ok (.ireturn, 1) := by decide +kernel
theorem d_V_shownBy_13 : decode b_V_shownBy 13 = .ok (.aload_n 0, 1) := by decide +kernel
theorem d_V_shownBy_14 : decode b_V_shownBy 14 = .ok (.iload_n 1, 1) := by decide +kernel
theorem d_V_shownBy_15 : decode b_V_shownBy 15 = .ok (.iload_n 2, 1) := by decide +kernel
theorem d_V_shownBy_16 : decode b_V_shownBy 16 = .ok (.invokevirtual 76, 3) := by decide +kernel
theorem d_V_shownBy_19 : decode b_V_shownBy 19 = .ok (.istore_n 3, 1) := by decide +kernel
theorem d_V_shownBy_20 : decode b_V_shownBy 20 = .ok (.aload_n 0, 1) := by decide +kernel
theorem d_V_shownBy_21 : decode b_V_shownBy 21 = .ok (.getfield 9, 3) := by decide +kernel
theorem d_V_shownBy_24 : decode b_V_shownBy 24 = .ok (.iload_n 1, 1) := by decide +kernel
theorem d_V_shownBy_25 : decode b_V_shownBy 25 = .ok (.iaload, 1) := by decide +kernel
theorem d_V_shownBy_26 : decode b_V_shownBy 26 = .ok (.iconst 2, 1) := by decide +kernel
theorem d_V_shownBy_27 : decode b_V_shownBy 27 = .ok (.if_icmp .ne 16, 3) := by decide +kernel
theorem d_V_shownBy_30 : decode b_V_shownBy 30 = .ok (.aload_n 0, 1) := by decide +kernel
theorem d_V_shownBy_31 : decode b_V_shownBy 31 = .ok (.iload_n 1, 1) := by decide +kernel
theorem d_V_shownBy_32 : decode b_V_shownBy 32 = .ok (.iload_n 2, 1) := by decide +kernel
theorem d_V_shownBy_33 : decode b_V_shownBy 33 = .ok (.invokevirtual 80, 3) := by decide +kernel
theorem d_V_shownBy_36 : decode b_V_shownBy 36 = .ok (.ifCond .eq 7, 3) := by decide +kernel
theorem d_V_shownBy_39 : decode b_V_shownBy 39 = .ok (.iconst 1, 1) := by decide +kernel
theorem d_V_shownBy_40 : decode b_V_shownBy 40 = .ok (.goto 4, 3) := by decide +kernel
theorem d_V_shownBy_43 : decode b_V_shownBy 43 = .ok (.iconst 0, 1) := by decide +kernel
theorem d_V_shownBy_44 : decode b_V_shownBy 44 = .ok (.istore 4, 2) := by decide +kernel
theorem d_V_shownBy_46 : decode b_V_shownBy 46 = .ok (.iload 4, 2) := by decide +kernel
theorem d_V_shownBy_48 : decode b_V_shownBy 48 = .ok (.ifCond .eq 15, 3) := by decide +kernel
theorem d_V_shownBy_51 : decode b_V_shownBy 51 = .ok (.aload_n 0, 1) := by decide +kernel
theorem d_V_shownBy_52 : decode b_V_shownBy 52 = .ok (.getfield 32, 3) := by decide +kernel
theorem d_V_shownBy_55 : decode b_V_shownBy 55 = .ok (.iload_n 3, 1) := by decide +kernel
theorem d_V_shownBy_56 : decode b_V_shownBy 56 = .ok (.iconst 1, 1) := by decide +kernel
theorem d_V_shownBy_57 : decode b_V_shownBy 57 = .ok (.invokevirtual 83, 3) := by decide +kernel
theorem d_V_shownBy_60 : decode b_V_shownBy 60 = .ok (.goto 4, 3) := by decide +kernel
theorem d_V_shownBy_63 : decode b_V_shownBy 63 = .ok (.iload_n 3, 1) := by decide +kernel
theorem d_V_shownBy_64 : decode b_V_shownBy 64 = .ok (.ireturn, 1) := by decide +kernel
theorem d_V_settle_0 : decode b_V_settle 0 = .ok (.aload_n 0, 1) := by decide +kernel
theorem d_V_settle_1 : decode b_V_settle 1 = .ok (.getfield 26, 3) := by decide +kernel
theorem d_V_settle_4 : decode b_V_settle 4 = .ok (.iload_n 1, 1) := by decide +kernel
theorem d_V_settle_5 : decode b_V_settle 5 = .ok (.iaload, 1) := by decide +kernel
theorem d_V_settle_6 : decode b_V_settle 6 = .ok (.aload_n 0, 1) := by decide +kernel
theorem d_V_settle_7 : decode b_V_settle 7 = .ok (.getfield 29, 3) := by decide +kernel
theorem d_V_settle_10 : decode b_V_settle 10 = .ok (.iload_n 1, 1) := by decide +kernel
theorem d_V_settle_11 : decode b_V_settle 11 = .ok (.iaload, 1) := by decide +kernel
theorem d_V_settle_12 : decode b_V_settle 12 = .ok (.iconst (-1), 1) := by decide +kernel
theorem d_V_settle_13 : decode b_V_settle 13 = .ok (.ixor, 1) := by decide +kernel
theorem d_V_settle_14 : decode b_V_settle 14 = .ok (.iand, 1) := by decide +kernel
theorem d_V_settle_15 : decode b_V_settle 15 = .ok (.iload_n 2, 1) := by decide +kernel
theorem d_V_settle_16 : decode b_V_settle 16 = .ok (.invokestatic 49, 3) := by decide +kernel
theorem d_V_settle_19 : decode b_V_settle 19 = .ok (.istore 4, 2) := by decide +kernel
theorem d_V_settle_21 : decode b_V_settle 21 = .ok (.iload 4, 2) := by decide +kernel
theorem d_V_settle_23 : decode b_V_settle 23 = .ok (.ifCond .eq 21, 3) := by decide +kernel
theorem d_V_settle_26 : decode b_V_settle 26 = .ok (.aload_n 0, 1) := by decide +kernel
theorem d_V_settle_27 : decode b_V_settle 27 = .ok (.getfield 32, 3) := by decide +kernel
theorem d_V_settle_30 : decode b_V_settle 30 = .ok (.iload_n 2, 1) := by decide +kernel
theorem d_V_settle_31 : decode b_V_settle 31 = .ok (.aload_n 0, 1) := by decide +kernel
theorem d_V_settle_32 : decode b_V_settle 32 = .ok (.getfield 20, 3) := by decide +kernel
theorem d_V_settle_35 : decode b_V_settle 35 = .ok (.iload_n 1, 1) := by decide +kernel
theorem d_V_settle_36 : decode b_V_settle 36 = .ok (.aaload, 1) := by decide +kernel
theorem d_V_settle_37 : decode b_V_settle 37 = .ok (.iload_n 3, 1) := by decide +kernel
theorem d_V_settle_38 : decode b_V_settle 38 = .ok (.invokevirtual 93, 3) := by decide +kernel
theorem d_V_settle_41 : decode b_V_settle 41 = .ok (.ifCond .ne 5, 3) := by decide +kernel
theorem d_V_settle_44 : decode b_V_settle 44 = .ok (.iconst 0, 1) := by decide +kernel
theorem d_V_settle_45 : decode b_V_settle 45 = .ok (.ireturn, 1) := by decide +kernel
theorem d_V_settle_46 : decode b_V_settle 46 = .ok (.aload_n 0, 1) := by decide +kernel
theorem d_V_settle_47 : decode b_V_settle 47 = .ok (.getfield 29, 3) := by decide +kernel
theorem d_V_settle_50 : decode b_V_settle 50 = .ok (.iload_n 1, 1) := by decide +kernel
theorem d_V_settle_51 : decode b_V_settle 51 = .ok (.dup2, 1) := by decide +kernel
theorem d_V_settle_52 : decode b_V_settle 52 = .ok (.iaload, 1) := by decide +kernel
theorem d_V_settle_53 : decode b_V_settle 53 = .ok (.iload_n 2, 1) := by decide +kernel
theorem d_V_settle_54 : decode b_V_settle 54 = .ok (.invokestatic 57, 3) := by decide +kernel
theorem d_V_settle_57 : decode b_V_settle 57 = .ok (.ior, 1) := by decide +kernel
theorem d_V_settle_58 : decode b_V_settle 58 = .ok (.iastore, 1) := by decide +kernel
theorem d_V_settle_59 : decode b_V_settle 59 = .ok (.aload_n 0, 1) := by decide +kernel
theorem d_V_settle_60 : decode b_V_settle 60 = .ok (.getfield 23, 3) := by decide +kernel
theorem d_V_settle_63 : decode b_V_settle 63 = .ok (.iload_n 1, 1) := by decide +kernel
theorem d_V_settle_64 : decode b_V_settle 64 = .ok (.aaload, 1) := by decide +kernel
theorem d_V_settle_65 : decode b_V_settle 65 = .ok (.iload_n 2, 1) := by decide +kernel
theorem d_V_settle_66 : decode b_V_settle 66 = .ok (.iload_n 3, 1) := by decide +kernel
theorem d_V_settle_67 : decode b_V_settle 67 = .ok (.iastore, 1) := by decide +kernel
theorem d_V_settle_68 : decode b_V_settle 68 = .ok (.iconst 1, 1) := by decide +kernel
theorem d_V_settle_69 : decode b_V_settle 69 = .ok (.ireturn, 1) := by decide +kernel
theorem d_L_close_0 : decode b_L_close 0 = .ok (.aload_n 1, 1) := by decide +kernel
theorem d_L_close_1 : decode b_L_close 1 = .ok (.iconst 0, 1) := by decide +kernel
theorem d_L_close_2 : decode b_L_close 2 = .ok (.aload_n 0, 1) := by decide +kernel
theorem d_L_close_3 : decode b_L_close 3 = .ok (.invokevirtual 40, 3) := by decide +kernel
theorem d_L_close_6 : decode b_L_close 6 = .ok (.i2l, 1) := by decide +kernel
theorem d_L_close_7 : decode b_L_close 7 = .ok (.lastore, 1) := by decide +kernel
theorem d_L_close_8 : decode b_L_close 8 = .ok (.goto 6, 3) := by decide +kernel
theorem d_L_close_11 : decode b_L_close 11 = .ok (.astore_n 2, 1) := by decide +kernel
theorem d_L_close_12 : decode b_L_close 12 = .ok (.iconst 1, 1) := by decide +kernel
theorem d_L_close_13 : decode b_L_close 13 = .ok (.ireturn, 1) := by decide +kernel
theorem d_L_close_14 : decode b_L_close 14 = .ok (.iconst 0, 1) := by decide +kernel
theorem d_L_close_15 : decode b_L_close 15 = .ok (.ireturn, 1) := by decide +kernel
theorem d_K_close_0 : decode b_K_close 0 = .ok (.aload_n 0, 1) := by decide +kernel
theorem d_K_close_1 : decode b_K_close 1 = .ok (.invokevirtual 95, 3) := by decide +kernel
theorem d_K_close_4 : decode b_K_close 4 = .ok (.aload_n 0, 1) := by decide +kernel
theorem d_K_close_5 : decode b_K_close 5 = .ok (.getfield 28, 3) := by decide +kernel
theorem d_K_close_8 : decode b_K_close 8 = .ok (.invokevirtual 167, 3) := by decide +kernel
theorem d_K_close_11 : decode b_K_close 11 = .ok (.istore_n 1, 1) := by decide +kernel
theorem d_K_close_12 : decode b_K_close 12 = .ok (.iconst 1, 1) := by decide +kernel
theorem d_K_close_13 : decode b_K_close 13 = .ok (.istore_n 2, 1) := by decide +kernel
theorem d_K_close_14 : decode b_K_close 14 = .ok (.iload_n 2, 1) := by decide +kernel
theorem d_K_close_15 : decode b_K_close 15 = .ok (.bipush 7, 2) := by decide +kernel
theorem d_K_close_17 : decode b_K_close 17 = .ok (.if_icmp .gt 22, 3) := by decide +kernel
theorem d_K_close_20 : decode b_K_close 20 = .ok (.iload_n 1, 1) := by decide +kernel
theorem d_K_close_21 : decode b_K_close 21 = .ok (.iload_n 2, 1) := by decide +kernel
