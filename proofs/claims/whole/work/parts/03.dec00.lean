theorem d_K_init_0 : decode b_K_init 0 = .ok (.aload_n 0, 1) := by decide +kernel
theorem d_K_init_1 : decode b_K_init 1 = .ok (.invokespecial 3, 3) := by decide +kernel
theorem d_K_init_4 : decode b_K_init 4 = .ok (.aload_n 0, 1) := by decide +kernel
theorem d_K_init_5 : decode b_K_init 5 = .ok (.new 9, 3) := by decide +kernel
theorem d_K_init_8 : decode b_K_init 8 = .ok (.dup, 1) := by decide +kernel
theorem d_K_init_9 : decode b_K_init 9 = .ok (.invokespecial 11, 3) := by decide +kernel
theorem d_K_init_12 : decode b_K_init 12 = .ok (.putfield 12, 3) := by decide +kernel
theorem d_K_init_15 : decode b_K_init 15 = .ok (.aload_n 0, 1) := by decide +kernel
theorem d_K_init_16 : decode b_K_init 16 = .ok (.new 16, 3) := by decide +kernel
theorem d_K_init_19 : decode b_K_init 19 = .ok (.dup, 1) := by decide +kernel
theorem d_K_init_20 : decode b_K_init 20 = .ok (.invokespecial 18, 3) := by decide +kernel
theorem d_K_init_23 : decode b_K_init 23 = .ok (.putfield 19, 3) := by decide +kernel
theorem d_K_init_26 : decode b_K_init 26 = .ok (.aload_n 0, 1) := by decide +kernel
theorem d_K_init_27 : decode b_K_init 27 = .ok (.new 23, 3) := by decide +kernel
theorem d_K_init_30 : decode b_K_init 30 = .ok (.dup, 1) := by decide +kernel
theorem d_K_init_31 : decode b_K_init 31 = .ok (.aload_n 0, 1) := by decide +kernel
theorem d_K_init_32 : decode b_K_init 32 = .ok (.getfield 12, 3) := by decide +kernel
theorem d_K_init_35 : decode b_K_init 35 = .ok (.invokespecial 25, 3) := by decide +kernel
theorem d_K_init_38 : decode b_K_init 38 = .ok (.putfield 28, 3) := by decide +kernel
theorem d_K_init_41 : decode b_K_init 41 = .ok (.aload_n 0, 1) := by decide +kernel
theorem d_K_init_42 : decode b_K_init 42 = .ok (.bipush 8, 2) := by decide +kernel
theorem d_K_init_44 : decode b_K_init 44 = .ok (.newarray .int, 2) := by decide +kernel
theorem d_K_init_46 : decode b_K_init 46 = .ok (.putfield 32, 3) := by decide +kernel
theorem d_K_init_49 : decode b_K_init 49 = .ok (.aload_n 0, 1) := by decide +kernel
theorem d_K_init_50 : decode b_K_init 50 = .ok (.iconst 4, 1) := by decide +kernel
theorem d_K_init_51 : decode b_K_init 51 = .ok (.newarray .int, 2) := by decide +kernel
theorem d_K_init_53 : decode b_K_init 53 = .ok (.putfield 36, 3) := by decide +kernel
theorem d_K_init_56 : decode b_K_init 56 = .ok (.aload_n 0, 1) := by decide +kernel
theorem d_K_init_57 : decode b_K_init 57 = .ok (.iconst 4, 1) := by decide +kernel
theorem d_K_init_58 : decode b_K_init 58 = .ok (.newarray .int, 2) := by decide +kernel
theorem d_K_init_60 : decode b_K_init 60 = .ok (.putfield 39, 3) := by decide +kernel
theorem d_K_init_63 : decode b_K_init 63 = .ok (.aload_n 0, 1) := by decide +kernel
theorem d_K_init_64 : decode b_K_init 64 = .ok (.iconst 0, 1) := by decide +kernel
theorem d_K_init_65 : decode b_K_init 65 = .ok (.putfield 42, 3) := by decide +kernel
theorem d_K_init_68 : decode b_K_init 68 = .ok (.return_, 1) := by decide +kernel
theorem d_G_init_0 : decode b_G_init 0 = .ok (.aload_n 0, 1) := by decide +kernel
theorem d_G_init_1 : decode b_G_init 1 = .ok (.invokespecial 3, 3) := by decide +kernel
theorem d_G_init_4 : decode b_G_init 4 = .ok (.aload_n 0, 1) := by decide +kernel
theorem d_G_init_5 : decode b_G_init 5 = .ok (.iconst 1, 1) := by decide +kernel
theorem d_G_init_6 : decode b_G_init 6 = .ok (.putfield 9, 3) := by decide +kernel
theorem d_G_init_9 : decode b_G_init 9 = .ok (.aload_n 0, 1) := by decide +kernel
theorem d_G_init_10 : decode b_G_init 10 = .ok (.iconst 1, 1) := by decide +kernel
theorem d_G_init_11 : decode b_G_init 11 = .ok (.putfield 15, 3) := by decide +kernel
theorem d_G_init_14 : decode b_G_init 14 = .ok (.aload_n 0, 1) := by decide +kernel
theorem d_G_init_15 : decode b_G_init 15 = .ok (.iconst 1, 1) := by decide +kernel
theorem d_G_init_16 : decode b_G_init 16 = .ok (.putfield 18, 3) := by decide +kernel
theorem d_G_init_19 : decode b_G_init 19 = .ok (.return_, 1) := by decide +kernel
theorem d_B_init_0 : decode b_B_init 0 = .ok (.aload_n 0, 1) := by decide +kernel
theorem d_B_init_1 : decode b_B_init 1 = .ok (.invokespecial 3, 3) := by decide +kernel
theorem d_B_init_4 : decode b_B_init 4 = .ok (.aload_n 0, 1) := by decide +kernel
theorem d_B_init_5 : decode b_B_init 5 = .ok (.sipush 2250, 3) := by decide +kernel
theorem d_B_init_8 : decode b_B_init 8 = .ok (.newarray .int, 2) := by decide +kernel
theorem d_B_init_10 : decode b_B_init 10 = .ok (.putfield 11, 3) := by decide +kernel
theorem d_B_init_13 : decode b_B_init 13 = .ok (.return_, 1) := by decide +kernel
theorem d_V_init_0 : decode b_V_init 0 = .ok (.aload_n 0, 1) := by decide +kernel
theorem d_V_init_1 : decode b_V_init 1 = .ok (.invokespecial 3, 3) := by decide +kernel
theorem d_V_init_4 : decode b_V_init 4 = .ok (.aload_n 0, 1) := by decide +kernel
theorem d_V_init_5 : decode b_V_init 5 = .ok (.bipush 8, 2) := by decide +kernel
theorem d_V_init_7 : decode b_V_init 7 = .ok (.newarray .int, 2) := by decide +kernel
theorem d_V_init_9 : decode b_V_init 9 = .ok (.putfield 9, 3) := by decide +kernel
theorem d_V_init_12 : decode b_V_init 12 = .ok (.aload_n 0, 1) := by decide +kernel
theorem d_V_init_13 : decode b_V_init 13 = .ok (.bipush 8, 2) := by decide +kernel
theorem d_V_init_15 : decode b_V_init 15 = .ok (.iconst 4, 1) := by decide +kernel
theorem d_V_init_16 : decode b_V_init 16 = .ok (.multianewarray 15 2, 4) := by decide +kernel
theorem d_V_init_20 : decode b_V_init 20 = .ok (.putfield 17, 3) := by decide +kernel
theorem d_V_init_23 : decode b_V_init 23 = .ok (.aload_n 0, 1) := by decide +kernel
theorem d_V_init_24 : decode b_V_init 24 = .ok (.bipush 8, 2) := by decide +kernel
theorem d_V_init_26 : decode b_V_init 26 = .ok (.iconst 4, 1) := by decide +kernel
theorem d_V_init_27 : decode b_V_init 27 = .ok (.multianewarray 15 2, 4) := by decide +kernel
theorem d_V_init_31 : decode b_V_init 31 = .ok (.putfield 20, 3) := by decide +kernel
theorem d_V_init_34 : decode b_V_init 34 = .ok (.aload_n 0, 1) := by decide +kernel
theorem d_V_init_35 : decode b_V_init 35 = .ok (.bipush 8, 2) := by decide +kernel
theorem d_V_init_37 : decode b_V_init 37 = .ok (.bipush 8, 2) := by decide +kernel
theorem d_V_init_39 : decode b_V_init 39 = .ok (.multianewarray 15 2, 4) := by decide +kernel
theorem d_V_init_43 : decode b_V_init 43 = .ok (.putfield 23, 3) := by decide +kernel
theorem d_V_init_46 : decode b_V_init 46 = .ok (.aload_n 0, 1) := by decide +kernel
theorem d_V_init_47 : decode b_V_init 47 = .ok (.bipush 8, 2) := by decide +kernel
theorem d_V_init_49 : decode b_V_init 49 = .ok (.newarray .int, 2) := by decide +kernel
theorem d_V_init_51 : decode b_V_init 51 = .ok (.putfield 26, 3) := by decide +kernel
theorem d_V_init_54 : decode b_V_init 54 = .ok (.aload_n 0, 1) := by decide +kernel
theorem d_V_init_55 : decode b_V_init 55 = .ok (.bipush 8, 2) := by decide +kernel
theorem d_V_init_57 : decode b_V_init 57 = .ok (.newarray .int, 2) := by decide +kernel
theorem d_V_init_59 : decode b_V_init 59 = .ok (.putfield 29, 3) := by decide +kernel
theorem d_V_init_62 : decode b_V_init 62 = .ok (.aload_n 0, 1) := by decide +kernel
theorem d_V_init_63 : decode b_V_init 63 = .ok (.aload_n 1, 1) := by decide +kernel
theorem d_V_init_64 : decode b_V_init 64 = .ok (.putfield 32, 3) := by decide +kernel
theorem d_V_init_67 : decode b_V_init 67 = .ok (.return_, 1) := by decide +kernel
theorem d_L_group_0 : decode b_L_group 0 = .ok (.aload_n 0, 1) := by decide +kernel
theorem d_L_group_1 : decode b_L_group 1 = .ok (.iload_n 1, 1) := by decide +kernel
theorem d_L_group_2 : decode b_L_group 2 = .ok (.iload_n 2, 1) := by decide +kernel
theorem d_L_group_3 : decode b_L_group 3 = .ok (.iload_n 3, 1) := by decide +kernel
theorem d_L_group_4 : decode b_L_group 4 = .ok (.invokevirtual 7, 3) := by decide +kernel
theorem d_L_group_7 : decode b_L_group 7 = .ok (.goto 7, 3) := by decide +kernel
theorem d_L_group_10 : decode b_L_group 10 = .ok (.astore 4, 2) := by decide +kernel
theorem d_L_group_12 : decode b_L_group 12 = .ok (.iconst 1, 1) := by decide +kernel
theorem d_L_group_13 : decode b_L_group 13 = .ok (.ireturn, 1) := by decide +kernel
theorem d_L_group_14 : decode b_L_group 14 = .ok (.iconst 0, 1) := by decide +kernel
theorem d_L_group_15 : decode b_L_group 15 = .ok (.ireturn, 1) := by decide +kernel
theorem d_K_group_0 : decode b_K_group 0 = .ok (.iload_n 1, 1) := by decide +kernel
theorem d_K_group_1 : decode b_K_group 1 = .ok (.iload_n 2, 1) := by decide +kernel
theorem d_K_group_2 : decode b_K_group 2 = .ok (.iload_n 3, 1) := by decide +kernel
theorem d_K_group_3 : decode b_K_group 3 = .ok (.invokestatic 46, 3) := by decide +kernel
theorem d_K_group_6 : decode b_K_group 6 = .ok (.ifCond .ne 11, 3) := by decide +kernel
theorem d_K_group_9 : decode b_K_group 9 = .ok (.new 50, 3) := by decide +kernel
theorem d_K_group_12 : decode b_K_group 12 = .ok (.dup, 1) := by decide +kernel
theorem d_K_group_13 : decode b_K_group 13 = .ok (.invokespecial 52, 3) := by decide +kernel
theorem d_K_group_16 : decode b_K_group 16 = .ok (.athrow, 1) := by decide +kernel
theorem d_K_group_17 : decode b_K_group 17 = .ok (.aload_n 0, 1) := by decide +kernel
theorem d_K_group_18 : decode b_K_group 18 = .ok (.getfield 12, 3) := by decide +kernel
theorem d_K_group_21 : decode b_K_group 21 = .ok (.iload_n 1, 1) := by decide +kernel
theorem d_K_group_22 : decode b_K_group 22 = .ok (.iload_n 2, 1) := by decide +kernel
theorem d_K_group_23 : decode b_K_group 23 = .ok (.iload_n 3, 1) := by decide +kernel
theorem d_K_group_24 : decode b_K_group 24 = .ok (.invokevirtual 53, 3) := by decide +kernel
theorem d_K_group_27 : decode b_K_group 27 = .ok (.aload_n 0, 1) := by decide +kernel
theorem d_K_group_28 : decode b_K_group 28 = .ok (.getfield 19, 3) := by decide +kernel
theorem d_K_group_31 : decode b_K_group 31 = .ok (.invokevirtual 57, 3) := by decide +kernel
theorem d_K_group_34 : decode b_K_group 34 = .ok (.aload_n 0, 1) := by decide +kernel
theorem d_K_group_35 : decode b_K_group 35 = .ok (.getfield 28, 3) := by decide +kernel
theorem d_K_group_38 : decode b_K_group 38 = .ok (.invokevirtual 60, 3) := by decide +kernel
theorem d_K_group_41 : decode b_K_group 41 = .ok (.aload_n 0, 1) := by decide +kernel
theorem d_K_group_42 : decode b_K_group 42 = .ok (.getfield 32, 3) := by decide +kernel
theorem d_K_group_45 : decode b_K_group 45 = .ok (.iconst 0, 1) := by decide +kernel
theorem d_K_group_46 : decode b_K_group 46 = .ok (.invokestatic 63, 3) := by decide +kernel
theorem d_K_group_49 : decode b_K_group 49 = .ok (.aload_n 0, 1) := by decide +kernel
theorem d_K_group_50 : decode b_K_group 50 = .ok (.getfield 36, 3) := by decide +kernel
theorem d_K_group_53 : decode b_K_group 53 = .ok (.iconst 0, 1) := by decide +kernel
theorem d_K_group_54 : decode b_K_group 54 = .ok (.invokestatic 63, 3) := by decide +kernel
theorem d_K_group_57 : decode b_K_group 57 = .ok (.aload_n 0, 1) := by decide +kernel
theorem d_K_group_58 : decode b_K_group 58 = .ok (.iconst 0, 1) := by decide +kernel
theorem d_K_group_59 : decode b_K_group 59 = .ok (.putfield 42, 3) := by decide +kernel
theorem d_K_group_62 : decode b_K_group 62 = .ok (.return_, 1) := by decide +kernel
theorem d_G_isGroup_0 : decode b_G_isGroup 0 = .ok (.iload_n 1, 1) := by decide +kernel
theorem d_G_isGroup_1 : decode b_G_isGroup 1 = .ok (.bipush 11, 2) := by decide +kernel
theorem d_G_isGroup_3 : decode b_G_isGroup 3 = .ok (.if_icmp .lt 23, 3) := by decide +kernel
theorem d_G_isGroup_6 : decode b_G_isGroup 6 = .ok (.iload_n 1, 1) := by decide +kernel
theorem d_G_isGroup_7 : decode b_G_isGroup 7 = .ok (.sipush 32749, 3) := by decide +kernel
theorem d_G_isGroup_10 : decode b_G_isGroup 10 = .ok (.if_icmp .gt 16, 3) := by decide +kernel
theorem d_G_isGroup_13 : decode b_G_isGroup 13 = .ok (.iload_n 0, 1) := by decide +kernel
theorem d_G_isGroup_14 : decode b_G_isGroup 14 = .ok (.iload_n 1, 1) := by decide +kernel
theorem d_G_isGroup_15 : decode b_G_isGroup 15 = .ok (.if_icmp .le 11, 3) := by decide +kernel
theorem d_G_isGroup_18 : decode b_G_isGroup 18 = .ok (.iload_n 0, 1) := by decide +kernel
theorem d_G_isGroup_19 : decode b_G_isGroup 19 = .ok (.iconst 1, 1) := by decide +kernel
theorem d_G_isGroup_20 : decode b_G_isGroup 20 = .ok (.isub, 1) := by decide +kernel
theorem d_G_isGroup_21 : decode b_G_isGroup 21 = .ok (.iload_n 1, 1) := by decide +kernel
theorem d_G_isGroup_22 : decode b_G_isGroup 22 = .ok (.irem, 1) := by decide +kernel
theorem d_G_isGroup_23 : decode b_G_isGroup 23 = .ok (.ifCond .eq 5, 3) := by decide +kernel
theorem d_G_isGroup_26 : decode b_G_isGroup 26 = .ok (.iconst 0, 1) := by decide +kernel
theorem d_G_isGroup_27 : decode b_G_isGroup 27 = .ok (.ireturn, 1) := by decide +kernel
theorem d_G_isGroup_28 : decode b_G_isGroup 28 = .ok (.iload_n 2, 1) := by decide +kernel
theorem d_G_isGroup_29 : decode b_G_isGroup 29 = .ok (.iconst 2, 1) := by decide +kernel
theorem d_G_isGroup_30 : decode b_G_isGroup 30 = .ok (.if_icmp .lt 18, 3) := by decide +kernel
theorem d_G_isGroup_33 : decode b_G_isGroup 33 = .ok (.iload_n 2, 1) := by decide +kernel
theorem d_G_isGroup_34 : decode b_G_isGroup 34 = .ok (.iload_n 0, 1) := by decide +kernel
theorem d_G_isGroup_35 : decode b_G_isGroup 35 = .ok (.if_icmp .ge 13, 3) := by decide +kernel
theorem d_G_isGroup_38 : decode b_G_isGroup 38 = .ok (.iload_n 2, 1) := by decide +kernel
theorem d_G_isGroup_39 : decode b_G_isGroup 39 = .ok (.iload_n 1, 1) := by decide +kernel
theorem d_G_isGroup_40 : decode b_G_isGroup 40 = .ok (.iload_n 0, 1) := by decide +kernel
theorem d_G_isGroup_41 : decode b_G_isGroup 41 = .ok (.invokestatic 21, 3) := by decide +kernel
theorem d_G_isGroup_44 : decode b_G_isGroup 44 = .ok (.iconst 1, 1) := by decide +kernel
theorem d_G_isGroup_45 : decode b_G_isGroup 45 = .ok (.if_icmp .eq 5, 3) := by decide +kernel
theorem d_G_isGroup_48 : decode b_G_isGroup 48 = .ok (.iconst 0, 1) := by decide +kernel
theorem d_G_isGroup_49 : decode b_G_isGroup 49 = .ok (.ireturn, 1) := by decide +kernel
theorem d_G_isGroup_50 : decode b_G_isGroup 50 = .ok (.iload_n 1, 1) := by decide +kernel
theorem d_G_isGroup_51 : decode b_G_isGroup 51 = .ok (.invokestatic 25, 3) := by decide +kernel
theorem d_G_isGroup_54 : decode b_G_isGroup 54 = .ok (.ifCond .eq 14, 3) := by decide +kernel
theorem d_G_isGroup_57 : decode b_G_isGroup 57 = .ok (.iload_n 0, 1) := by decide +kernel
theorem d_G_isGroup_58 : decode b_G_isGroup 58 = .ok (.invokestatic 25, 3) := by decide +kernel
theorem d_G_isGroup_61 : decode b_G_isGroup 61 = .ok (.ifCond .eq 7, 3) := by decide +kernel
theorem d_G_isGroup_64 : decode b_G_isGroup 64 = .ok (.iconst 1, 1) := by decide +kernel
theorem d_G_isGroup_65 : decode b_G_isGroup 65 = .ok (.goto 4, 3) := by decide +kernel
theorem d_G_isGroup_68 : decode b_G_isGroup 68 = .ok (.iconst 0, 1) := by decide +kernel
theorem d_G_isGroup_69 : decode b_G_isGroup 69 = .ok (.ireturn, 1) := by decide +kernel
theorem d_G_power_0 : decode b_G_power 0 = .ok (.iconst 1, 1) := by decide +kernel
theorem d_G_power_1 : decode b_G_power 1 = .ok (.iload_n 2, 1) := by decide +kernel
theorem d_G_power_2 : decode b_G_power 2 = .ok (.irem, 1) := by decide +kernel
theorem d_G_power_3 : decode b_G_power 3 = .ok (.i2l, 1) := by decide +kernel
theorem d_G_power_4 : decode b_G_power 4 = .ok (.lstore_n 3, 1) := by decide +kernel
theorem d_G_power_5 : decode b_G_power 5 = .ok (.iload_n 0, 1) := by decide +kernel
theorem d_G_power_6 : decode b_G_power 6 = .ok (.iload_n 2, 1) := by decide +kernel
theorem d_G_power_7 : decode b_G_power 7 = .ok (.irem, 1) := by decide +kernel
theorem d_G_power_8 : decode b_G_power 8 = .ok (.i2l, 1) := by decide +kernel
theorem d_G_power_9 : decode b_G_power 9 = .ok (.lstore 5, 2) := by decide +kernel
theorem d_G_power_11 : decode b_G_power 11 = .ok (.iload_n 1, 1) := by decide +kernel
theorem d_G_power_12 : decode b_G_power 12 = .ok (.istore 7, 2) := by decide +kernel
theorem d_G_power_14 : decode b_G_power 14 = .ok (.iload 7, 2) := by decide +kernel
theorem d_G_power_16 : decode b_G_power 16 = .ok (.ifCond .le 37, 3) := by decide +kernel
theorem d_G_power_19 : decode b_G_power 19 = .ok (.iload 7, 2) := by decide +kernel
theorem d_G_power_21 : decode b_G_power 21 = .ok (.iconst 1, 1) := by decide +kernel
theorem d_G_power_22 : decode b_G_power 22 = .ok (.iand, 1) := by decide +kernel
theorem d_G_power_23 : decode b_G_power 23 = .ok (.ifCond .eq 11, 3) := by decide +kernel
theorem d_G_power_26 : decode b_G_power 26 = .ok (.lload_n 3, 1) := by decide +kernel
theorem d_G_power_27 : decode b_G_power 27 = .ok (.lload 5, 2) := by decide +kernel
theorem d_G_power_29 : decode b_G_power 29 = .ok (.lmul, 1) := by decide +kernel
theorem d_G_power_30 : decode b_G_power 30 = .ok (.iload_n 2, 1) := by decide +kernel
theorem d_G_power_31 : decode b_G_power 31 = .ok (.i2l, 1) := by decide +kernel
theorem d_G_power_32 : decode b_G_power 32 = .ok (.lrem, 1) := by decide +kernel
theorem d_G_power_33 : decode b_G_power 33 = .ok (.lstore_n 3, 1) := by decide +kernel
theorem d_G_power_34 : decode b_G_power 34 = .ok (.lload 5, 2) := by decide +kernel
theorem d_G_power_36 : decode b_G_power 36 = .ok (.lload 5, 2) := by decide +kernel
theorem d_G_power_38 : decode b_G_power 38 = .ok (.lmul, 1) := by decide +kernel
theorem d_G_power_39 : decode b_G_power 39 = .ok (.iload_n 2, 1) := by decide +kernel
theorem d_G_power_40 : decode b_G_power 40 = .ok (.i2l, 1) := by decide +kernel
theorem d_G_power_41 : decode b_G_power 41 = .ok (.lrem, 1) := by decide +kernel
theorem d_G_power_42 : decode b_G_power 42 = .ok (.lstore 5, 2) := by decide +kernel
theorem d_G_power_44 : decode b_G_power 44 = .ok (.iload 7, 2) := by decide +kernel
theorem d_G_power_46 : decode b_G_power 46 = .ok (.iconst 1, 1) := by decide +kernel
theorem d_G_power_47 : decode b_G_power 47 = .ok (.ishr, 1) := by decide +kernel
theorem d_G_power_48 : decode b_G_power 48 = .ok (.istore 7, 2) := by decide +kernel
theorem d_G_power_50 : decode b_G_power 50 = .ok (.goto (-36), 3) := by decide +kernel
theorem d_G_power_53 : decode b_G_power 53 = .ok (.lload_n 3, 1) := by decide +kernel
theorem d_G_power_54 : decode b_G_power 54 = .ok (.l2i, 1) := by decide +kernel
theorem d_G_power_55 : decode b_G_power 55 = .ok (.ireturn, 1) := by decide +kernel
theorem d_G_isPrime_0 : decode b_G_isPrime 0 = .ok (.iload_n 0, 1) := by decide +kernel
theorem d_G_isPrime_1 : decode b_G_isPrime 1 = .ok (.iconst 5, 1) := by decide +kernel
theorem d_G_isPrime_2 : decode b_G_isPrime 2 = .ok (.if_icmp .ge 19, 3) := by decide +kernel
theorem d_G_isPrime_5 : decode b_G_isPrime 5 = .ok (.iload_n 0, 1) := by decide +kernel
theorem d_G_isPrime_6 : decode b_G_isPrime 6 = .ok (.iconst 2, 1) := by decide +kernel
theorem d_G_isPrime_7 : decode b_G_isPrime 7 = .ok (.if_icmp .eq 8, 3) := by decide +kernel
theorem d_G_isPrime_10 : decode b_G_isPrime 10 = .ok (.iload_n 0, 1) := by decide +kernel
theorem d_G_isPrime_11 : decode b_G_isPrime 11 = .ok (.iconst 3, 1) := by decide +kernel
theorem d_G_isPrime_12 : decode b_G_isPrime 12 = .ok (.if_icmp .ne 7, 3) := by decide +kernel
theorem d_G_isPrime_15 : decode b_G_isPrime 15 = .ok (.iconst 1, 1) := by decide +kernel
theorem d_G_isPrime_16 : decode b_G_isPrime 16 = .ok (.goto 4, 3) := by decide +kernel
theorem d_G_isPrime_19 : decode b_G_isPrime 19 = .ok (.iconst 0, 1) := by decide +kernel
theorem d_G_isPrime_20 : decode b_G_isPrime 20 = .ok (.ireturn, 1) := by decide +kernel
theorem d_G_isPrime_21 : decode b_G_isPrime 21 = .ok (.iload_n 0, 1) := by decide +kernel
theorem d_G_isPrime_22 : decode b_G_isPrime 22 = .ok (.iconst 2, 1) := by decide +kernel
theorem d_G_isPrime_23 : decode b_G_isPrime 23 = .ok (.irem, 1) := by decide +kernel
theorem d_G_isPrime_24 : decode b_G_isPrime 24 = .ok (.ifCond .eq 9, 3) := by decide +kernel
theorem d_G_isPrime_27 : decode b_G_isPrime 27 = .ok (.iload_n 0, 1) := by decide +kernel
theorem d_G_isPrime_28 : decode b_G_isPrime 28 = .ok (.iconst 3, 1) := by decide +kernel
theorem d_G_isPrime_29 : decode b_G_isPrime 29 = .ok (.irem, 1) := by decide +kernel
theorem d_G_isPrime_30 : decode b_G_isPrime 30 = .ok (.ifCond .ne 5, 3) := by decide +kernel
theorem d_G_isPrime_33 : decode b_G_isPrime 33 = .ok (.iconst 0, 1) := by decide +kernel
theorem d_G_isPrime_34 : decode b_G_isPrime 34 = .ok (.ireturn, 1) := by decide +kernel
theorem d_G_isPrime_35 : decode b_G_isPrime 35 = .ok (.iconst 5, 1) := by decide +kernel
theorem d_G_isPrime_36 : decode b_G_isPrime 36 = .ok (.istore_n 1, 1) := by decide +kernel
theorem d_G_isPrime_37 : decode b_G_isPrime 37 = .ok (.iload_n 1, 1) := by decide +kernel
theorem d_G_isPrime_38 : decode b_G_isPrime 38 = .ok (.iload_n 0, 1) := by decide +kernel
theorem d_G_isPrime_39 : decode b_G_isPrime 39 = .ok (.iload_n 1, 1) := by decide +kernel
theorem d_G_isPrime_40 : decode b_G_isPrime 40 = .ok (.idiv, 1) := by decide +kernel
theorem d_G_isPrime_41 : decode b_G_isPrime 41 = .ok (.if_icmp .gt 25, 3) := by decide +kernel
theorem d_G_isPrime_44 : decode b_G_isPrime 44 = .ok (.iload_n 0, 1) := by decide +kernel
theorem d_G_isPrime_45 : decode b_G_isPrime 45 = .ok (.iload_n 1, 1) := by decide +kernel
theorem d_G_isPrime_46 : decode b_G_isPrime 46 = .ok (.irem, 1) := by decide +kernel
theorem d_G_isPrime_47 : decode b_G_isPrime 47 = .ok (.ifCond .eq 11, 3) := by decide +kernel
theorem d_G_isPrime_50 : decode b_G_isPrime 50 = .ok (.iload_n 0, 1) := by decide +kernel
theorem d_G_isPrime_51 : decode b_G_isPrime 51 = .ok (.iload_n 1, 1) := by decide +kernel
theorem d_G_isPrime_52 : decode b_G_isPrime 52 = .ok (.iconst 2, 1) := by decide +kernel
theorem d_G_isPrime_53 : decode b_G_isPrime 53 = .ok (.iadd, 1) := by decide +kernel
theorem d_G_isPrime_54 : decode b_G_isPrime 54 = .ok (.irem, 1) := by decide +kernel
theorem d_G_isPrime_55 : decode b_G_isPrime 55 = .ok (.ifCond .ne 5, 3) := by decide +kernel
theorem d_G_isPrime_58 : decode b_G_isPrime 58 = .ok (.iconst 0, 1) := by decide +kernel
theorem d_G_isPrime_59 : decode b_G_isPrime 59 = .ok (.ireturn, 1) := by decide +kernel
theorem d_G_isPrime_60 : decode b_G_isPrime 60 = .ok (.iinc 1 6, 3) := by decide +kernel
theorem d_G_isPrime_63 : decode b_G_isPrime 63 = .ok (.goto (-26), 3) := by decide +kernel
theorem d_G_isPrime_66 : decode b_G_isPrime 66 = .ok (.iconst 1, 1) := by decide +kernel
theorem d_G_isPrime_67 : decode b_G_isPrime 67 = .ok (.ireturn, 1) := by decide +kernel
theorem d_G_become_0 : decode b_G_become 0 = .ok (.aload_n 0, 1) := by decide +kernel
theorem d_G_become_1 : decode b_G_become 1 = .ok (.iload_n 1, 1) := by decide +kernel
theorem d_G_become_2 : decode b_G_become 2 = .ok (.putfield 9, 3) := by decide +kernel
theorem d_G_become_5 : decode b_G_become 5 = .ok (.aload_n 0, 1) := by decide +kernel
theorem d_G_become_6 : decode b_G_become 6 = .ok (.iload_n 2, 1) := by decide +kernel
theorem d_G_become_7 : decode b_G_become 7 = .ok (.putfield 15, 3) := by decide +kernel
theorem d_G_become_10 : decode b_G_become 10 = .ok (.aload_n 0, 1) := by decide +kernel
theorem d_G_become_11 : decode b_G_become 11 = .ok (.iload_n 3, 1) := by decide +kernel
theorem d_G_become_12 : decode b_G_become 12 = .ok (.putfield 18, 3) := by decide +kernel
theorem d_G_become_15 : decode b_G_become 15 = .ok (.return_, 1) := by decide +kernel
theorem d_B_empty_0 : decode b_B_empty 0 = .ok (.aload_n 0, 1) := by decide +kernel
theorem d_B_empty_1 : decode b_B_empty 1 = .ok (.iconst 0, 1) := by decide +kernel
theorem d_B_empty_2 : decode b_B_empty 2 = .ok (.putfield 15, 3) := by decide +kernel
theorem d_B_empty_5 : decode b_B_empty 5 = .ok (.return_, 1) := by decide +kernel
theorem d_V_begin_0 : decode b_V_begin 0 = .ok (.aload_n 0, 1) := by decide +kernel
theorem d_V_begin_1 : decode b_V_begin 1 = .ok (.getfield 9, 3) := by decide +kernel
theorem d_V_begin_4 : decode b_V_begin 4 = .ok (.iconst 0, 1) := by decide +kernel
theorem d_V_begin_5 : decode b_V_begin 5 = .ok (.invokestatic 36, 3) := by decide +kernel
theorem d_V_begin_8 : decode b_V_begin 8 = .ok (.aload_n 0, 1) := by decide +kernel
theorem d_V_begin_9 : decode b_V_begin 9 = .ok (.getfield 26, 3) := by decide +kernel
theorem d_V_begin_12 : decode b_V_begin 12 = .ok (.iconst 0, 1) := by decide +kernel
theorem d_V_begin_13 : decode b_V_begin 13 = .ok (.invokestatic 36, 3) := by decide +kernel
theorem d_V_begin_16 : decode b_V_begin 16 = .ok (.aload_n 0, 1) := by decide +kernel
theorem d_V_begin_17 : decode b_V_begin 17 = .ok (.getfield 29, 3) := by decide +kernel
theorem d_V_begin_20 : decode b_V_begin 20 = .ok (.iconst 0, 1) := by decide +kernel
theorem d_V_begin_21 : decode b_V_begin 21 = .ok (.invokestatic 36, 3) := by decide +kernel
theorem d_V_begin_24 : decode b_V_begin 24 = .ok (.aload_n 0, 1) := by decide +kernel
theorem d_V_begin_25 : decode b_V_begin 25 = .ok (.iconst 0, 1) := by decide +kernel
theorem d_V_begin_26 : decode b_V_begin 26 = .ok (.putfield 42, 3) := by decide +kernel
theorem d_V_begin_29 : decode b_V_begin 29 = .ok (.aload_n 0, 1) := by decide +kernel
theorem d_V_begin_30 : decode b_V_begin 30 = .ok (.iconst 0, 1) := by decide +kernel
theorem d_V_begin_31 : decode b_V_begin 31 = .ok (.putfield 46, 3) := by decide +kernel
theorem d_V_begin_34 : decode b_V_begin 34 = .ok (.return_, 1) := by decide +kernel
theorem d_JA_fill_0 : decode b_JA_fill 0 = .ok (.iconst 0, 1) := by decide +kernel
theorem d_JA_fill_1 : decode b_JA_fill 1 = .ok (.istore_n 2, 1) := by decide +kernel
theorem d_JA_fill_2 : decode b_JA_fill 2 = .ok (.aload_n 0, 1) := by decide +kernel
theorem d_JA_fill_3 : decode b_JA_fill 3 = .ok (.arraylength, 1) := by decide +kernel
theorem d_JA_fill_4 : decode b_JA_fill 4 = .ok (.istore_n 3, 1) := by decide +kernel
theorem d_JA_fill_5 : decode b_JA_fill 5 = .ok (.iload_n 2, 1) := by decide +kernel
theorem d_JA_fill_6 : decode b_JA_fill 6 = .ok (.iload_n 3, 1) := by decide +kernel
theorem d_JA_fill_7 : decode b_JA_fill 7 = .ok (.if_icmp .ge 13, 3) := by decide +kernel
theorem d_JA_fill_10 : decode b_JA_fill 10 = .ok (.aload_n 0, 1) := by decide +kernel
theorem d_JA_fill_11 : decode b_JA_fill 11 = .ok (.iload_n 2, 1) := by decide +kernel
theorem d_JA_fill_12 : decode b_JA_fill 12 = .ok (.iload_n 1, 1) := by decide +kernel
theorem d_JA_fill_13 : decode b_JA_fill 13 = .ok (.iastore, 1) := by decide +kernel
theorem d_JA_fill_14 : decode b_JA_fill 14 = .ok (.iinc 2 1, 3) := by decide +kernel
theorem d_JA_fill_17 : decode b_JA_fill 17 = .ok (.goto (-12), 3) := by decide +kernel
theorem d_JA_fill_20 : decode b_JA_fill 20 = .ok (.return_, 1) := by decide +kernel
theorem d_L_found_0 : decode b_L_found 0 = .ok (.aload_n 0, 1) := by decide +kernel
theorem d_L_found_1 : decode b_L_found 1 = .ok (.iload_n 1, 1) := by decide +kernel
theorem d_L_found_2 : decode b_L_found 2 = .ok (.iload_n 2, 1) := by decide +kernel
theorem d_L_found_3 : decode b_L_found 3 = .ok (.iload_n 3, 1) := by decide +kernel
theorem d_L_found_4 : decode b_L_found 4 = .ok (.iload 4, 2) := by decide +kernel
theorem d_L_found_6 : decode b_L_found 6 = .ok (.invokevirtual 15, 3) := by decide +kernel
theorem d_L_found_9 : decode b_L_found 9 = .ok (.goto 11, 3) := by decide +kernel
theorem d_L_found_12 : decode b_L_found 12 = .ok (.astore 5, 2) := by decide +kernel
theorem d_L_found_14 : decode b_L_found 14 = .ok (.iconst 1, 1) := by decide +kernel
theorem d_L_found_15 : decode b_L_found 15 = .ok (.ireturn, 1) := by decide +kernel
theorem d_L_found_16 : decode b_L_found 16 = .ok (.astore 5, 2) := by decide +kernel
theorem d_L_found_18 : decode b_L_found 18 = .ok (.iconst 2, 1) := by decide +kernel
theorem d_L_found_19 : decode b_L_found 19 = .ok (.ireturn, 1) := by decide +kernel
theorem d_L_found_20 : decode b_L_found 20 = .ok (.iconst 0, 1) := by decide +kernel
theorem d_L_found_21 : decode b_L_found 21 = .ok (.ireturn, 1) := by decide +kernel
theorem d_K_found_0 : decode b_K_found 0 = .ok (.aload_n 0, 1) := by decide +kernel
theorem d_K_found_1 : decode b_K_found 1 = .ok (.getfield 12, 3) := by decide +kernel
theorem d_K_found_4 : decode b_K_found 4 = .ok (.invokevirtual 69, 3) := by decide +kernel
theorem d_K_found_7 : decode b_K_found 7 = .ok (.ifCond .ne 11, 3) := by decide +kernel
theorem d_K_found_10 : decode b_K_found 10 = .ok (.new 73, 3) := by decide +kernel
theorem d_K_found_13 : decode b_K_found 13 = .ok (.dup, 1) := by decide +kernel
theorem d_K_found_14 : decode b_K_found 14 = .ok (.invokespecial 75, 3) := by decide +kernel
theorem d_K_found_17 : decode b_K_found 17 = .ok (.athrow, 1) := by decide +kernel
theorem d_K_found_18 : decode b_K_found 18 = .ok (.aload_n 0, 1) := by decide +kernel
theorem d_K_found_19 : decode b_K_found 19 = .ok (.getfield 12, 3) := by decide +kernel
theorem d_K_found_22 : decode b_K_found 22 = .ok (.iload_n 1, 1) := by decide +kernel
theorem d_K_found_23 : decode b_K_found 23 = .ok (.invokevirtual 76, 3) := by decide +kernel
theorem d_K_found_26 : decode b_K_found 26 = .ok (.ifCond .eq 17, 3) := by decide +kernel
theorem d_K_found_29 : decode b_K_found 29 = .ok (.aload_n 0, 1) := by decide +kernel
theorem d_K_found_30 : decode b_K_found 30 = .ok (.getfield 12, 3) := by decide +kernel
theorem d_K_found_33 : decode b_K_found 33 = .ok (.iload_n 2, 1) := by decide +kernel
theorem d_K_found_34 : decode b_K_found 34 = .ok (.iload_n 3, 1) := by decide +kernel
theorem d_K_found_35 : decode b_K_found 35 = .ok (.iload 4, 2) := by decide +kernel
theorem d_K_found_37 : decode b_K_found 37 = .ok (.invokevirtual 80, 3) := by decide +kernel
theorem d_K_found_40 : decode b_K_found 40 = .ok (.ifCond .ne 11, 3) := by decide +kernel
theorem d_K_found_43 : decode b_K_found 43 = .ok (.new 50, 3) := by decide +kernel
theorem d_K_found_46 : decode b_K_found 46 = .ok (.dup, 1) := by decide +kernel
theorem d_K_found_47 : decode b_K_found 47 = .ok (.invokespecial 52, 3) := by decide +kernel
theorem d_K_found_50 : decode b_K_found 50 = .ok (.athrow, 1) := by decide +kernel
theorem d_K_found_51 : decode b_K_found 51 = .ok (.aload_n 0, 1) := by decide +kernel
theorem d_K_found_52 : decode b_K_found 52 = .ok (.getfield 39, 3) := by decide +kernel
theorem d_K_found_55 : decode b_K_found 55 = .ok (.iload_n 1, 1) := by decide +kernel
theorem d_K_found_56 : decode b_K_found 56 = .ok (.iload_n 2, 1) := by decide +kernel
theorem d_K_found_57 : decode b_K_found 57 = .ok (.iload_n 3, 1) := by decide +kernel
theorem d_K_found_58 : decode b_K_found 58 = .ok (.iload 4, 2) := by decide +kernel
theorem d_K_found_60 : decode b_K_found 60 = .ok (.invokestatic 83, 3) := by decide +kernel
theorem d_K_found_63 : decode b_K_found 63 = .ok (.aload_n 0, 1) := by decide +kernel
theorem d_K_found_64 : decode b_K_found 64 = .ok (.getfield 12, 3) := by decide +kernel
theorem d_K_found_67 : decode b_K_found 67 = .ok (.aload_n 0, 1) := by decide +kernel
theorem d_K_found_68 : decode b_K_found 68 = .ok (.getfield 39, 3) := by decide +kernel
theorem d_K_found_71 : decode b_K_found 71 = .ok (.aload_n 0, 1) := by decide +kernel
theorem d_K_found_72 : decode b_K_found 72 = .ok (.getfield 36, 3) := by decide +kernel
theorem d_K_found_75 : decode b_K_found 75 = .ok (.invokevirtual 87, 3) := by decide +kernel
theorem d_K_found_78 : decode b_K_found 78 = .ok (.iconst 1, 1) := by decide +kernel
theorem d_K_found_79 : decode b_K_found 79 = .ok (.istore 5, 2) := by decide +kernel
theorem d_K_found_81 : decode b_K_found 81 = .ok (.iload 5, 2) := by decide +kernel
theorem d_K_found_83 : decode b_K_found 83 = .ok (.bipush 7, 2) := by decide +kernel
theorem d_K_found_85 : decode b_K_found 85 = .ok (.if_icmp .gt 29, 3) := by decide +kernel
theorem d_K_found_88 : decode b_K_found 88 = .ok (.aload_n 0, 1) := by decide +kernel
theorem d_K_found_89 : decode b_K_found 89 = .ok (.getfield 32, 3) := by decide +kernel
theorem d_K_found_92 : decode b_K_found 92 = .ok (.iload 5, 2) := by decide +kernel
theorem d_K_found_94 : decode b_K_found 94 = .ok (.aload_n 0, 1) := by decide +kernel
theorem d_K_found_95 : decode b_K_found 95 = .ok (.getfield 12, 3) := by decide +kernel
theorem d_K_found_98 : decode b_K_found 98 = .ok (.iload 5, 2) := by decide +kernel
theorem d_K_found_100 : decode b_K_found 100 = .ok (.aload_n 0, 1) := by decide +kernel
theorem d_K_found_101 : decode b_K_found 101 = .ok (.getfield 39, 3) := by decide +kernel
theorem d_K_found_104 : decode b_K_found 104 = .ok (.invokevirtual 91, 3) := by decide +kernel
theorem d_K_found_107 : decode b_K_found 107 = .ok (.iastore, 1) := by decide +kernel
theorem d_K_found_108 : decode b_K_found 108 = .ok (.iinc 5 1, 3) := by decide +kernel
theorem d_K_found_111 : decode b_K_found 111 = .ok (.goto (-30), 3) := by decide +kernel
theorem d_K_found_114 : decode b_K_found 114 = .ok (.aload_n 0, 1) := by decide +kernel
theorem d_K_found_115 : decode b_K_found 115 = .ok (.getfield 19, 3) := by decide +kernel
theorem d_K_found_118 : decode b_K_found 118 = .ok (.invokevirtual 57, 3) := by decide +kernel
theorem d_K_found_121 : decode b_K_found 121 = .ok (.aload_n 0, 1) := by decide +kernel
theorem d_K_found_122 : decode b_K_found 122 = .ok (.getfield 28, 3) := by decide +kernel
theorem d_K_found_125 : decode b_K_found 125 = .ok (.invokevirtual 60, 3) := by decide +kernel
theorem d_K_found_128 : decode b_K_found 128 = .ok (.aload_n 0, 1) := by decide +kernel
theorem d_K_found_129 : decode b_K_found 129 = .ok (.iconst 1, 1) := by decide +kernel
theorem d_K_found_130 : decode b_K_found 130 = .ok (.putfield 42, 3) := by decide +kernel
theorem d_K_found_133 : decode b_K_found 133 = .ok (.return_, 1) := by decide +kernel
theorem d_G_stands_0 : decode b_G_stands 0 = .ok (.aload_n 0, 1) := by decide +kernel
theorem d_G_stands_1 : decode b_G_stands 1 = .ok (.getfield 15, 3) := by decide +kernel
theorem d_G_stands_4 : decode b_G_stands 4 = .ok (.iconst 1, 1) := by decide +kernel
theorem d_G_stands_5 : decode b_G_stands 5 = .ok (.if_icmp .le 7, 3) := by decide +kernel
theorem d_G_stands_8 : decode b_G_stands 8 = .ok (.iconst 1, 1) := by decide +kernel
theorem d_G_stands_9 : decode b_G_stands 9 = .ok (.goto 4, 3) := by decide +kernel
theorem d_G_stands_12 : decode b_G_stands 12 = .ok (.iconst 0, 1) := by decide +kernel
theorem d_G_stands_13 : decode b_G_stands 13 = .ok (.ireturn, 1) := by decide +kernel
theorem d_G_isNumber_0 : decode b_G_isNumber 0 = .ok (.iload_n 1, 1) := by decide +kernel
theorem d_G_isNumber_1 : decode b_G_isNumber 1 = .ok (.ifCond .lt 15, 3) := by decide +kernel
theorem d_G_isNumber_4 : decode b_G_isNumber 4 = .ok (.iload_n 1, 1) := by decide +kernel
theorem d_G_isNumber_5 : decode b_G_isNumber 5 = .ok (.aload_n 0, 1) := by decide +kernel
theorem d_G_isNumber_6 : decode b_G_isNumber 6 = .ok (.getfield 15, 3) := by decide +kernel
theorem d_G_isNumber_9 : decode b_G_isNumber 9 = .ok (.if_icmp .ge 7, 3) := by decide +kernel
theorem d_G_isNumber_12 : decode b_G_isNumber 12 = .ok (.iconst 1, 1) := by decide +kernel
theorem d_G_isNumber_13 : decode b_G_isNumber 13 = .ok (.goto 4, 3) := by decide +kernel
theorem d_G_isNumber_16 : decode b_G_isNumber 16 = .ok (.iconst 0, 1) := by decide +kernel
theorem d_G_isNumber_17 : decode b_G_isNumber 17 = .ok (.ireturn, 1) := by decide +kernel
theorem d_G_areNumbers_0 : decode b_G_areNumbers 0 = .ok (.aload_n 0, 1) := by decide +kernel
theorem d_G_areNumbers_1 : decode b_G_areNumbers 1 = .ok (.iload_n 1, 1) := by decide +kernel
theorem d_G_areNumbers_2 : decode b_G_areNumbers 2 = .ok (.invokevirtual 29, 3) := by decide +kernel
theorem d_G_areNumbers_5 : decode b_G_areNumbers 5 = .ok (.ifCond .eq 23, 3) := by decide +kernel
theorem d_G_areNumbers_8 : decode b_G_areNumbers 8 = .ok (.aload_n 0, 1) := by decide +kernel
theorem d_G_areNumbers_9 : decode b_G_areNumbers 9 = .ok (.iload_n 2, 1) := by decide +kernel
theorem d_G_areNumbers_10 : decode b_G_areNumbers 10 = .ok (.invokevirtual 29, 3) := by decide +kernel
theorem d_G_areNumbers_13 : decode b_G_areNumbers 13 = .ok (.ifCond .eq 15, 3) := by decide +kernel
theorem d_G_areNumbers_16 : decode b_G_areNumbers 16 = .ok (.aload_n 0, 1) := by decide +kernel
theorem d_G_areNumbers_17 : decode b_G_areNumbers 17 = .ok (.iload_n 3, 1) := by decide +kernel
theorem d_G_areNumbers_18 : decode b_G_areNumbers 18 = .ok (.invokevirtual 29, 3) := by decide +kernel
theorem d_G_areNumbers_21 : decode b_G_areNumbers 21 = .ok (.ifCond .eq 7, 3) := by decide +kernel
theorem d_G_areNumbers_24 : decode b_G_areNumbers 24 = .ok (.iconst 1, 1) := by decide +kernel
theorem d_G_areNumbers_25 : decode b_G_areNumbers 25 = .ok (.goto 4, 3) := by decide +kernel
theorem d_G_areNumbers_28 : decode b_G_areNumbers 28 = .ok (.iconst 0, 1) := by decide +kernel
theorem d_G_areNumbers_29 : decode b_G_areNumbers 29 = .ok (.ireturn, 1) := by decide +kernel
theorem d_K_writeRow_0 : decode b_K_writeRow 0 = .ok (.aload_n 0, 1) := by decide +kernel
theorem d_K_writeRow_1 : decode b_K_writeRow 1 = .ok (.iconst 0, 1) := by decide +kernel
theorem d_K_writeRow_2 : decode b_K_writeRow 2 = .ok (.iload_n 1, 1) := by decide +kernel
theorem d_K_writeRow_3 : decode b_K_writeRow 3 = .ok (.iastore, 1) := by decide +kernel
theorem d_K_writeRow_4 : decode b_K_writeRow 4 = .ok (.aload_n 0, 1) := by decide +kernel
theorem d_K_writeRow_5 : decode b_K_writeRow 5 = .ok (.iconst 1, 1) := by decide +kernel
theorem d_K_writeRow_6 : decode b_K_writeRow 6 = .ok (.iload_n 2, 1) := by decide +kernel
theorem d_K_writeRow_7 : decode b_K_writeRow 7 = .ok (.iastore, 1) := by decide +kernel
theorem d_K_writeRow_8 : decode b_K_writeRow 8 = .ok (.aload_n 0, 1) := by decide +kernel
theorem d_K_writeRow_9 : decode b_K_writeRow 9 = .ok (.iconst 2, 1) := by decide +kernel
theorem d_K_writeRow_10 : decode b_K_writeRow 10 = .ok (.iload_n 3, 1) := by decide +kernel
theorem d_K_writeRow_11 : decode b_K_writeRow 11 = .ok (.iastore, 1) := by decide +kernel
theorem d_K_writeRow_12 : decode b_K_writeRow 12 = .ok (.aload_n 0, 1) := by decide +kernel
theorem d_K_writeRow_13 : decode b_K_writeRow 13 = .ok (.iconst 3, 1) := by decide +kernel
theorem d_K_writeRow_14 : decode b_K_writeRow 14 = .ok (.iload 4, 2) := by decide +kernel
theorem d_K_writeRow_16 : decode b_K_writeRow 16 = .ok (.iastore, 1) := by decide +kernel
theorem d_K_writeRow_17 : decode b_K_writeRow 17 = .ok (.return_, 1) := by decide +kernel
theorem d_G_commitTo_0 : decode b_G_commitTo 0 = .ok (.iconst 0, 1) := by decide +kernel
theorem d_G_commitTo_1 : decode b_G_commitTo 1 = .ok (.istore_n 3, 1) := by decide +kernel
theorem d_G_commitTo_2 : decode b_G_commitTo 2 = .ok (.iload_n 3, 1) := by decide +kernel
theorem d_G_commitTo_3 : decode b_G_commitTo 3 = .ok (.iconst 4, 1) := by decide +kernel
theorem d_G_commitTo_4 : decode b_G_commitTo 4 = .ok (.if_icmp .ge 26, 3) := by decide +kernel
theorem d_G_commitTo_7 : decode b_G_commitTo 7 = .ok (.aload_n 2, 1) := by decide +kernel
theorem d_G_commitTo_8 : decode b_G_commitTo 8 = .ok (.iload_n 3, 1) := by decide +kernel
theorem d_G_commitTo_9 : decode b_G_commitTo 9 = .ok (.aload_n 0, 1) := by decide +kernel
theorem d_G_commitTo_10 : decode b_G_commitTo 10 = .ok (.getfield 18, 3) := by decide +kernel
theorem d_G_commitTo_13 : decode b_G_commitTo 13 = .ok (.aload_n 1, 1) := by decide +kernel
theorem d_G_commitTo_14 : decode b_G_commitTo 14 = .ok (.iload_n 3, 1) := by decide +kernel
theorem d_G_commitTo_15 : decode b_G_commitTo 15 = .ok (.iaload, 1) := by decide +kernel
theorem d_G_commitTo_16 : decode b_G_commitTo 16 = .ok (.aload_n 0, 1) := by decide +kernel
