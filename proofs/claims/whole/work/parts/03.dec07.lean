theorem d_M_close_126 : decode b_M_close 126 = .ok (.getfield 13, 3) := by decide +kernel
theorem d_M_close_129 : decode b_M_close 129 = .ok (.i2l, 1) := by decide +kernel
theorem d_M_close_130 : decode b_M_close 130 = .ok (.lrem, 1) := by decide +kernel
theorem d_M_close_131 : decode b_M_close 131 = .ok (.l2i, 1) := by decide +kernel
theorem d_M_close_132 : decode b_M_close 132 = .ok (.iastore, 1) := by decide +kernel
theorem d_M_close_133 : decode b_M_close 133 = .ok (.iinc 3 1, 3) := by decide +kernel
theorem d_M_close_136 : decode b_M_close 136 = .ok (.goto (-40), 3) := by decide +kernel
theorem d_M_close_139 : decode b_M_close 139 = .ok (.iinc 2 1, 3) := by decide +kernel
theorem d_M_close_142 : decode b_M_close 142 = .ok (.goto (-113), 3) := by decide +kernel
theorem d_M_close_145 : decode b_M_close 145 = .ok (.aload_n 0, 1) := by decide +kernel
theorem d_M_close_146 : decode b_M_close 146 = .ok (.invokevirtual 90, 3) := by decide +kernel
theorem d_M_close_149 : decode b_M_close 149 = .ok (.iload_n 1, 1) := by decide +kernel
theorem d_M_close_150 : decode b_M_close 150 = .ok (.ireturn, 1) := by decide +kernel
theorem d_M_accepted_0 : decode b_M_accepted 0 = .ok (.aload_n 0, 1) := by decide +kernel
theorem d_M_accepted_1 : decode b_M_accepted 1 = .ok (.iload_n 1, 1) := by decide +kernel
theorem d_M_accepted_2 : decode b_M_accepted 2 = .ok (.invokevirtual 110, 3) := by decide +kernel
theorem d_M_accepted_5 : decode b_M_accepted 5 = .ok (.ifCond .eq 15, 3) := by decide +kernel
theorem d_M_accepted_8 : decode b_M_accepted 8 = .ok (.aload_n 0, 1) := by decide +kernel
theorem d_M_accepted_9 : decode b_M_accepted 9 = .ok (.getfield 49, 3) := by decide +kernel
theorem d_M_accepted_12 : decode b_M_accepted 12 = .ok (.iconst 4, 1) := by decide +kernel
theorem d_M_accepted_13 : decode b_M_accepted 13 = .ok (.iload_n 1, 1) := by decide +kernel
theorem d_M_accepted_14 : decode b_M_accepted 14 = .ok (.imul, 1) := by decide +kernel
theorem d_M_accepted_15 : decode b_M_accepted 15 = .ok (.iaload, 1) := by decide +kernel
theorem d_M_accepted_16 : decode b_M_accepted 16 = .ok (.iconst 1, 1) := by decide +kernel
theorem d_M_accepted_17 : decode b_M_accepted 17 = .ok (.if_icmp .eq 5, 3) := by decide +kernel
theorem d_M_accepted_20 : decode b_M_accepted 20 = .ok (.iconst 0, 1) := by decide +kernel
theorem d_M_accepted_21 : decode b_M_accepted 21 = .ok (.ireturn, 1) := by decide +kernel
theorem d_M_accepted_22 : decode b_M_accepted 22 = .ok (.iconst 1, 1) := by decide +kernel
theorem d_M_accepted_23 : decode b_M_accepted 23 = .ok (.istore_n 2, 1) := by decide +kernel
theorem d_M_accepted_24 : decode b_M_accepted 24 = .ok (.iload_n 2, 1) := by decide +kernel
theorem d_M_accepted_25 : decode b_M_accepted 25 = .ok (.bipush 8, 2) := by decide +kernel
theorem d_M_accepted_27 : decode b_M_accepted 27 = .ok (.if_icmp .ge 39, 3) := by decide +kernel
theorem d_M_accepted_30 : decode b_M_accepted 30 = .ok (.aload_n 0, 1) := by decide +kernel
theorem d_M_accepted_31 : decode b_M_accepted 31 = .ok (.getfield 55, 3) := by decide +kernel
theorem d_M_accepted_34 : decode b_M_accepted 34 = .ok (.bipush 8, 2) := by decide +kernel
theorem d_M_accepted_36 : decode b_M_accepted 36 = .ok (.iload_n 1, 1) := by decide +kernel
theorem d_M_accepted_37 : decode b_M_accepted 37 = .ok (.imul, 1) := by decide +kernel
theorem d_M_accepted_38 : decode b_M_accepted 38 = .ok (.iload_n 2, 1) := by decide +kernel
theorem d_M_accepted_39 : decode b_M_accepted 39 = .ok (.iadd, 1) := by decide +kernel
theorem d_M_accepted_40 : decode b_M_accepted 40 = .ok (.baload, 1) := by decide +kernel
theorem d_M_accepted_41 : decode b_M_accepted 41 = .ok (.ifCond .eq 19, 3) := by decide +kernel
theorem d_M_accepted_44 : decode b_M_accepted 44 = .ok (.aload_n 0, 1) := by decide +kernel
theorem d_M_accepted_45 : decode b_M_accepted 45 = .ok (.getfield 58, 3) := by decide +kernel
theorem d_M_accepted_48 : decode b_M_accepted 48 = .ok (.bipush 8, 2) := by decide +kernel
theorem d_M_accepted_50 : decode b_M_accepted 50 = .ok (.iload_n 1, 1) := by decide +kernel
theorem d_M_accepted_51 : decode b_M_accepted 51 = .ok (.imul, 1) := by decide +kernel
theorem d_M_accepted_52 : decode b_M_accepted 52 = .ok (.iload_n 2, 1) := by decide +kernel
theorem d_M_accepted_53 : decode b_M_accepted 53 = .ok (.iadd, 1) := by decide +kernel
theorem d_M_accepted_54 : decode b_M_accepted 54 = .ok (.baload, 1) := by decide +kernel
theorem d_M_accepted_55 : decode b_M_accepted 55 = .ok (.ifCond .ne 5, 3) := by decide +kernel
theorem d_M_accepted_58 : decode b_M_accepted 58 = .ok (.iconst 0, 1) := by decide +kernel
theorem d_M_accepted_59 : decode b_M_accepted 59 = .ok (.ireturn, 1) := by decide +kernel
theorem d_M_accepted_60 : decode b_M_accepted 60 = .ok (.iinc 2 1, 3) := by decide +kernel
theorem d_M_accepted_63 : decode b_M_accepted 63 = .ok (.goto (-39), 3) := by decide +kernel
theorem d_M_accepted_66 : decode b_M_accepted 66 = .ok (.iconst 1, 1) := by decide +kernel
theorem d_M_accepted_67 : decode b_M_accepted 67 = .ok (.ireturn, 1) := by decide +kernel
theorem d_M_wipe_0 : decode b_M_wipe 0 = .ok (.aload_n 0, 1) := by decide +kernel
theorem d_M_wipe_1 : decode b_M_wipe 1 = .ok (.aload_n 0, 1) := by decide +kernel
theorem d_M_wipe_2 : decode b_M_wipe 2 = .ok (.iload_n 1, 1) := by decide +kernel
theorem d_M_wipe_3 : decode b_M_wipe 3 = .ok (.invokevirtual 96, 3) := by decide +kernel
theorem d_M_wipe_6 : decode b_M_wipe 6 = .ok (.putfield 7, 3) := by decide +kernel
theorem d_M_wipe_9 : decode b_M_wipe 9 = .ok (.aload_n 0, 1) := by decide +kernel
theorem d_M_wipe_10 : decode b_M_wipe 10 = .ok (.getfield 7, 3) := by decide +kernel
theorem d_M_wipe_13 : decode b_M_wipe 13 = .ok (.ifCond .ne 17, 3) := by decide +kernel
theorem d_M_wipe_16 : decode b_M_wipe 16 = .ok (.aload_n 0, 1) := by decide +kernel
theorem d_M_wipe_17 : decode b_M_wipe 17 = .ok (.getfield 33, 3) := by decide +kernel
theorem d_M_wipe_20 : decode b_M_wipe 20 = .ok (.iload_n 1, 1) := by decide +kernel
theorem d_M_wipe_21 : decode b_M_wipe 21 = .ok (.baload, 1) := by decide +kernel
theorem d_M_wipe_22 : decode b_M_wipe 22 = .ok (.ifCond .eq 8, 3) := by decide +kernel
theorem d_M_wipe_25 : decode b_M_wipe 25 = .ok (.aload_n 0, 1) := by decide +kernel
theorem d_M_wipe_26 : decode b_M_wipe 26 = .ok (.iconst 3, 1) := by decide +kernel
theorem d_M_wipe_27 : decode b_M_wipe 27 = .ok (.putfield 7, 3) := by decide +kernel
theorem d_M_wipe_30 : decode b_M_wipe 30 = .ok (.aload_n 0, 1) := by decide +kernel
theorem d_M_wipe_31 : decode b_M_wipe 31 = .ok (.getfield 7, 3) := by decide +kernel
theorem d_M_wipe_34 : decode b_M_wipe 34 = .ok (.ifCond .ne 10, 3) := by decide +kernel
theorem d_M_wipe_37 : decode b_M_wipe 37 = .ok (.aload_n 0, 1) := by decide +kernel
theorem d_M_wipe_38 : decode b_M_wipe 38 = .ok (.getfield 33, 3) := by decide +kernel
theorem d_M_wipe_41 : decode b_M_wipe 41 = .ok (.iload_n 1, 1) := by decide +kernel
theorem d_M_wipe_42 : decode b_M_wipe 42 = .ok (.iconst 1, 1) := by decide +kernel
theorem d_M_wipe_43 : decode b_M_wipe 43 = .ok (.bastore, 1) := by decide +kernel
theorem d_M_wipe_44 : decode b_M_wipe 44 = .ok (.return_, 1) := by decide +kernel
theorem d_M_recover_0 : decode b_M_recover 0 = .ok (.aload_n 0, 1) := by decide +kernel
theorem d_M_recover_1 : decode b_M_recover 1 = .ok (.aload_n 0, 1) := by decide +kernel
theorem d_M_recover_2 : decode b_M_recover 2 = .ok (.iload_n 1, 1) := by decide +kernel
theorem d_M_recover_3 : decode b_M_recover 3 = .ok (.invokevirtual 96, 3) := by decide +kernel
theorem d_M_recover_6 : decode b_M_recover 6 = .ok (.putfield 7, 3) := by decide +kernel
theorem d_M_recover_9 : decode b_M_recover 9 = .ok (.aload_n 0, 1) := by decide +kernel
theorem d_M_recover_10 : decode b_M_recover 10 = .ok (.getfield 7, 3) := by decide +kernel
theorem d_M_recover_13 : decode b_M_recover 13 = .ok (.ifCond .eq 5, 3) := by decide +kernel
theorem d_M_recover_16 : decode b_M_recover 16 = .ok (.iconst 0, 1) := by decide +kernel
theorem d_M_recover_17 : decode b_M_recover 17 = .ok (.ireturn, 1) := by decide +kernel
theorem d_M_recover_18 : decode b_M_recover 18 = .ok (.iconst 0, 1) := by decide +kernel
theorem d_M_recover_19 : decode b_M_recover 19 = .ok (.istore_n 2, 1) := by decide +kernel
theorem d_M_recover_20 : decode b_M_recover 20 = .ok (.iconst 1, 1) := by decide +kernel
theorem d_M_recover_21 : decode b_M_recover 21 = .ok (.istore_n 3, 1) := by decide +kernel
theorem d_M_recover_22 : decode b_M_recover 22 = .ok (.iload_n 3, 1) := by decide +kernel
theorem d_M_recover_23 : decode b_M_recover 23 = .ok (.bipush 8, 2) := by decide +kernel
theorem d_M_recover_25 : decode b_M_recover 25 = .ok (.if_icmp .ge 30, 3) := by decide +kernel
theorem d_M_recover_28 : decode b_M_recover 28 = .ok (.iload_n 3, 1) := by decide +kernel
theorem d_M_recover_29 : decode b_M_recover 29 = .ok (.iload_n 1, 1) := by decide +kernel
theorem d_M_recover_30 : decode b_M_recover 30 = .ok (.if_icmp .eq 19, 3) := by decide +kernel
theorem d_M_recover_33 : decode b_M_recover 33 = .ok (.aload_n 0, 1) := by decide +kernel
theorem d_M_recover_34 : decode b_M_recover 34 = .ok (.iload_n 3, 1) := by decide +kernel
theorem d_M_recover_35 : decode b_M_recover 35 = .ok (.invokevirtual 120, 3) := by decide +kernel
theorem d_M_recover_38 : decode b_M_recover 38 = .ok (.ifCond .eq 11, 3) := by decide +kernel
theorem d_M_recover_41 : decode b_M_recover 41 = .ok (.iload_n 2, 1) := by decide +kernel
theorem d_M_recover_42 : decode b_M_recover 42 = .ok (.iconst 1, 1) := by decide +kernel
theorem d_M_recover_43 : decode b_M_recover 43 = .ok (.iload_n 3, 1) := by decide +kernel
theorem d_M_recover_44 : decode b_M_recover 44 = .ok (.iconst 1, 1) := by decide +kernel
theorem d_M_recover_45 : decode b_M_recover 45 = .ok (.isub, 1) := by decide +kernel
theorem d_M_recover_46 : decode b_M_recover 46 = .ok (.ishl, 1) := by decide +kernel
theorem d_M_recover_47 : decode b_M_recover 47 = .ok (.ior, 1) := by decide +kernel
theorem d_M_recover_48 : decode b_M_recover 48 = .ok (.istore_n 2, 1) := by decide +kernel
theorem d_M_recover_49 : decode b_M_recover 49 = .ok (.iinc 3 1, 3) := by decide +kernel
theorem d_M_recover_52 : decode b_M_recover 52 = .ok (.goto (-30), 3) := by decide +kernel
theorem d_M_recover_55 : decode b_M_recover 55 = .ok (.iload_n 2, 1) := by decide +kernel
theorem d_M_recover_56 : decode b_M_recover 56 = .ok (.invokestatic 123, 3) := by decide +kernel
theorem d_M_recover_59 : decode b_M_recover 59 = .ok (.istore_n 3, 1) := by decide +kernel
theorem d_M_recover_60 : decode b_M_recover 60 = .ok (.aload_n 0, 1) := by decide +kernel
theorem d_M_recover_61 : decode b_M_recover 61 = .ok (.getfield 33, 3) := by decide +kernel
theorem d_M_recover_64 : decode b_M_recover 64 = .ok (.iload_n 1, 1) := by decide +kernel
theorem d_M_recover_65 : decode b_M_recover 65 = .ok (.baload, 1) := by decide +kernel
theorem d_M_recover_66 : decode b_M_recover 66 = .ok (.ifCond .eq 7, 3) := by decide +kernel
theorem d_M_recover_69 : decode b_M_recover 69 = .ok (.iload_n 3, 1) := by decide +kernel
theorem d_M_recover_70 : decode b_M_recover 70 = .ok (.ifCond .ne 10, 3) := by decide +kernel
theorem d_M_recover_73 : decode b_M_recover 73 = .ok (.aload_n 0, 1) := by decide +kernel
theorem d_M_recover_74 : decode b_M_recover 74 = .ok (.iconst 3, 1) := by decide +kernel
theorem d_M_recover_75 : decode b_M_recover 75 = .ok (.putfield 7, 3) := by decide +kernel
theorem d_M_recover_78 : decode b_M_recover 78 = .ok (.iconst 0, 1) := by decide +kernel
theorem d_M_recover_79 : decode b_M_recover 79 = .ok (.ireturn, 1) := by decide +kernel
theorem d_M_recover_80 : decode b_M_recover 80 = .ok (.aload_n 0, 1) := by decide +kernel
theorem d_M_recover_81 : decode b_M_recover 81 = .ok (.getfield 29, 3) := by decide +kernel
theorem d_M_recover_84 : decode b_M_recover 84 = .ok (.iload_n 1, 1) := by decide +kernel
theorem d_M_recover_85 : decode b_M_recover 85 = .ok (.aload_n 0, 1) := by decide +kernel
theorem d_M_recover_86 : decode b_M_recover 86 = .ok (.iload_n 3, 1) := by decide +kernel
theorem d_M_recover_87 : decode b_M_recover 87 = .ok (.iload_n 1, 1) := by decide +kernel
theorem d_M_recover_88 : decode b_M_recover 88 = .ok (.invokevirtual 126, 3) := by decide +kernel
theorem d_M_recover_91 : decode b_M_recover 91 = .ok (.iastore, 1) := by decide +kernel
theorem d_M_recover_92 : decode b_M_recover 92 = .ok (.aload_n 0, 1) := by decide +kernel
theorem d_M_recover_93 : decode b_M_recover 93 = .ok (.getfield 33, 3) := by decide +kernel
theorem d_M_recover_96 : decode b_M_recover 96 = .ok (.iload_n 1, 1) := by decide +kernel
theorem d_M_recover_97 : decode b_M_recover 97 = .ok (.iconst 0, 1) := by decide +kernel
theorem d_M_recover_98 : decode b_M_recover 98 = .ok (.bastore, 1) := by decide +kernel
theorem d_M_recover_99 : decode b_M_recover 99 = .ok (.iload_n 3, 1) := by decide +kernel
theorem d_M_recover_100 : decode b_M_recover 100 = .ok (.ireturn, 1) := by decide +kernel
theorem d_M_fitsSums_0 : decode b_M_fitsSums 0 = .ok (.aload_n 0, 1) := by decide +kernel
theorem d_M_fitsSums_1 : decode b_M_fitsSums 1 = .ok (.getfield 33, 3) := by decide +kernel
theorem d_M_fitsSums_4 : decode b_M_fitsSums 4 = .ok (.iload_n 1, 1) := by decide +kernel
theorem d_M_fitsSums_5 : decode b_M_fitsSums 5 = .ok (.baload, 1) := by decide +kernel
theorem d_M_fitsSums_6 : decode b_M_fitsSums 6 = .ok (.ifCond .ne 34, 3) := by decide +kernel
theorem d_M_fitsSums_9 : decode b_M_fitsSums 9 = .ok (.aload_n 0, 1) := by decide +kernel
theorem d_M_fitsSums_10 : decode b_M_fitsSums 10 = .ok (.aload_n 0, 1) := by decide +kernel
theorem d_M_fitsSums_11 : decode b_M_fitsSums 11 = .ok (.getfield 19, 3) := by decide +kernel
theorem d_M_fitsSums_14 : decode b_M_fitsSums 14 = .ok (.aload_n 0, 1) := by decide +kernel
theorem d_M_fitsSums_15 : decode b_M_fitsSums 15 = .ok (.getfield 29, 3) := by decide +kernel
theorem d_M_fitsSums_18 : decode b_M_fitsSums 18 = .ok (.iload_n 1, 1) := by decide +kernel
theorem d_M_fitsSums_19 : decode b_M_fitsSums 19 = .ok (.iaload, 1) := by decide +kernel
theorem d_M_fitsSums_20 : decode b_M_fitsSums 20 = .ok (.invokevirtual 68, 3) := by decide +kernel
theorem d_M_fitsSums_23 : decode b_M_fitsSums 23 = .ok (.aload_n 0, 1) := by decide +kernel
theorem d_M_fitsSums_24 : decode b_M_fitsSums 24 = .ok (.aload_n 0, 1) := by decide +kernel
theorem d_M_fitsSums_25 : decode b_M_fitsSums 25 = .ok (.getfield 37, 3) := by decide +kernel
theorem d_M_fitsSums_28 : decode b_M_fitsSums 28 = .ok (.iconst 0, 1) := by decide +kernel
theorem d_M_fitsSums_29 : decode b_M_fitsSums 29 = .ok (.iload_n 1, 1) := by decide +kernel
theorem d_M_fitsSums_30 : decode b_M_fitsSums 30 = .ok (.invokevirtual 72, 3) := by decide +kernel
theorem d_M_fitsSums_33 : decode b_M_fitsSums 33 = .ok (.if_icmp .ne 7, 3) := by decide +kernel
theorem d_M_fitsSums_36 : decode b_M_fitsSums 36 = .ok (.iconst 1, 1) := by decide +kernel
theorem d_M_fitsSums_37 : decode b_M_fitsSums 37 = .ok (.goto 4, 3) := by decide +kernel
theorem d_M_fitsSums_40 : decode b_M_fitsSums 40 = .ok (.iconst 0, 1) := by decide +kernel
theorem d_M_fitsSums_41 : decode b_M_fitsSums 41 = .ok (.ireturn, 1) := by decide +kernel
theorem d_M_four_0 : decode b_M_four 0 = .ok (.iconst 0, 1) := by decide +kernel
theorem d_M_four_1 : decode b_M_four 1 = .ok (.istore_n 1, 1) := by decide +kernel
theorem d_M_four_2 : decode b_M_four 2 = .ok (.iconst 0, 1) := by decide +kernel
theorem d_M_four_3 : decode b_M_four 3 = .ok (.istore_n 2, 1) := by decide +kernel
theorem d_M_four_4 : decode b_M_four 4 = .ok (.iconst 1, 1) := by decide +kernel
theorem d_M_four_5 : decode b_M_four 5 = .ok (.istore_n 3, 1) := by decide +kernel
theorem d_M_four_6 : decode b_M_four 6 = .ok (.iload_n 3, 1) := by decide +kernel
theorem d_M_four_7 : decode b_M_four 7 = .ok (.bipush 8, 2) := by decide +kernel
theorem d_M_four_9 : decode b_M_four 9 = .ok (.if_icmp .ge 36, 3) := by decide +kernel
theorem d_M_four_12 : decode b_M_four 12 = .ok (.iload_n 0, 1) := by decide +kernel
theorem d_M_four_13 : decode b_M_four 13 = .ok (.iload_n 3, 1) := by decide +kernel
theorem d_M_four_14 : decode b_M_four 14 = .ok (.iconst 1, 1) := by decide +kernel
theorem d_M_four_15 : decode b_M_four 15 = .ok (.isub, 1) := by decide +kernel
theorem d_M_four_16 : decode b_M_four 16 = .ok (.ishr, 1) := by decide +kernel
theorem d_M_four_17 : decode b_M_four 17 = .ok (.iconst 1, 1) := by decide +kernel
theorem d_M_four_18 : decode b_M_four 18 = .ok (.iand, 1) := by decide +kernel
theorem d_M_four_19 : decode b_M_four 19 = .ok (.iconst 1, 1) := by decide +kernel
theorem d_M_four_20 : decode b_M_four 20 = .ok (.if_icmp .ne 19, 3) := by decide +kernel
theorem d_M_four_23 : decode b_M_four 23 = .ok (.iload_n 2, 1) := by decide +kernel
theorem d_M_four_24 : decode b_M_four 24 = .ok (.iconst 4, 1) := by decide +kernel
theorem d_M_four_25 : decode b_M_four 25 = .ok (.if_icmp .ge 14, 3) := by decide +kernel
theorem d_M_four_28 : decode b_M_four 28 = .ok (.iload_n 1, 1) := by decide +kernel
theorem d_M_four_29 : decode b_M_four 29 = .ok (.iconst 1, 1) := by decide +kernel
theorem d_M_four_30 : decode b_M_four 30 = .ok (.iload_n 3, 1) := by decide +kernel
theorem d_M_four_31 : decode b_M_four 31 = .ok (.iconst 1, 1) := by decide +kernel
theorem d_M_four_32 : decode b_M_four 32 = .ok (.isub, 1) := by decide +kernel
theorem d_M_four_33 : decode b_M_four 33 = .ok (.ishl, 1) := by decide +kernel
theorem d_M_four_34 : decode b_M_four 34 = .ok (.ior, 1) := by decide +kernel
theorem d_M_four_35 : decode b_M_four 35 = .ok (.istore_n 1, 1) := by decide +kernel
theorem d_M_four_36 : decode b_M_four 36 = .ok (.iinc 2 1, 3) := by decide +kernel
theorem d_M_four_39 : decode b_M_four 39 = .ok (.iinc 3 1, 3) := by decide +kernel
theorem d_M_four_42 : decode b_M_four 42 = .ok (.goto (-36), 3) := by decide +kernel
theorem d_M_four_45 : decode b_M_four 45 = .ok (.iload_n 2, 1) := by decide +kernel
theorem d_M_four_46 : decode b_M_four 46 = .ok (.iconst 4, 1) := by decide +kernel
theorem d_M_four_47 : decode b_M_four 47 = .ok (.if_icmp .ne 7, 3) := by decide +kernel
theorem d_M_four_50 : decode b_M_four 50 = .ok (.iload_n 1, 1) := by decide +kernel
theorem d_M_four_51 : decode b_M_four 51 = .ok (.goto 4, 3) := by decide +kernel
theorem d_M_four_54 : decode b_M_four 54 = .ok (.iconst 0, 1) := by decide +kernel
theorem d_M_four_55 : decode b_M_four 55 = .ok (.ireturn, 1) := by decide +kernel
theorem d_M_interpolate_0 : decode b_M_interpolate 0 = .ok (.iconst 0, 1) := by decide +kernel
theorem d_M_interpolate_1 : decode b_M_interpolate 1 = .ok (.istore_n 3, 1) := by decide +kernel
theorem d_M_interpolate_2 : decode b_M_interpolate 2 = .ok (.iconst 1, 1) := by decide +kernel
theorem d_M_interpolate_3 : decode b_M_interpolate 3 = .ok (.istore 4, 2) := by decide +kernel
theorem d_M_interpolate_5 : decode b_M_interpolate 5 = .ok (.iload 4, 2) := by decide +kernel
theorem d_M_interpolate_7 : decode b_M_interpolate 7 = .ok (.bipush 8, 2) := by decide +kernel
theorem d_M_interpolate_9 : decode b_M_interpolate 9 = .ok (.if_icmp .ge 119, 3) := by decide +kernel
theorem d_M_interpolate_12 : decode b_M_interpolate 12 = .ok (.iload_n 1, 1) := by decide +kernel
theorem d_M_interpolate_13 : decode b_M_interpolate 13 = .ok (.iload 4, 2) := by decide +kernel
theorem d_M_interpolate_15 : decode b_M_interpolate 15 = .ok (.iconst 1, 1) := by decide +kernel
theorem d_M_interpolate_16 : decode b_M_interpolate 16 = .ok (.isub, 1) := by decide +kernel
theorem d_M_interpolate_17 : decode b_M_interpolate 17 = .ok (.ishr, 1) := by decide +kernel
theorem d_M_interpolate_18 : decode b_M_interpolate 18 = .ok (.iconst 1, 1) := by decide +kernel
theorem d_M_interpolate_19 : decode b_M_interpolate 19 = .ok (.iand, 1) := by decide +kernel
theorem d_M_interpolate_20 : decode b_M_interpolate 20 = .ok (.iconst 1, 1) := by decide +kernel
theorem d_M_interpolate_21 : decode b_M_interpolate 21 = .ok (.if_icmp .ne 101, 3) := by decide +kernel
theorem d_M_interpolate_24 : decode b_M_interpolate 24 = .ok (.aload_n 0, 1) := by decide +kernel
theorem d_M_interpolate_25 : decode b_M_interpolate 25 = .ok (.getfield 29, 3) := by decide +kernel
theorem d_M_interpolate_28 : decode b_M_interpolate 28 = .ok (.iload 4, 2) := by decide +kernel
theorem d_M_interpolate_30 : decode b_M_interpolate 30 = .ok (.iaload, 1) := by decide +kernel
theorem d_M_interpolate_31 : decode b_M_interpolate 31 = .ok (.istore 5, 2) := by decide +kernel
theorem d_M_interpolate_33 : decode b_M_interpolate 33 = .ok (.iconst 1, 1) := by decide +kernel
theorem d_M_interpolate_34 : decode b_M_interpolate 34 = .ok (.istore 6, 2) := by decide +kernel
theorem d_M_interpolate_36 : decode b_M_interpolate 36 = .ok (.iload 6, 2) := by decide +kernel
theorem d_M_interpolate_38 : decode b_M_interpolate 38 = .ok (.bipush 8, 2) := by decide +kernel
theorem d_M_interpolate_40 : decode b_M_interpolate 40 = .ok (.if_icmp .ge 72, 3) := by decide +kernel
theorem d_M_interpolate_43 : decode b_M_interpolate 43 = .ok (.iload 6, 2) := by decide +kernel
theorem d_M_interpolate_45 : decode b_M_interpolate 45 = .ok (.iload 4, 2) := by decide +kernel
theorem d_M_interpolate_47 : decode b_M_interpolate 47 = .ok (.if_icmp .eq 59, 3) := by decide +kernel
theorem d_M_interpolate_50 : decode b_M_interpolate 50 = .ok (.iload_n 1, 1) := by decide +kernel
theorem d_M_interpolate_51 : decode b_M_interpolate 51 = .ok (.iload 6, 2) := by decide +kernel
theorem d_M_interpolate_53 : decode b_M_interpolate 53 = .ok (.iconst 1, 1) := by decide +kernel
theorem d_M_interpolate_54 : decode b_M_interpolate 54 = .ok (.isub, 1) := by decide +kernel
theorem d_M_interpolate_55 : decode b_M_interpolate 55 = .ok (.ishr, 1) := by decide +kernel
theorem d_M_interpolate_56 : decode b_M_interpolate 56 = .ok (.iconst 1, 1) := by decide +kernel
theorem d_M_interpolate_57 : decode b_M_interpolate 57 = .ok (.iand, 1) := by decide +kernel
theorem d_M_interpolate_58 : decode b_M_interpolate 58 = .ok (.iconst 1, 1) := by decide +kernel
theorem d_M_interpolate_59 : decode b_M_interpolate 59 = .ok (.if_icmp .ne 47, 3) := by decide +kernel
theorem d_M_interpolate_62 : decode b_M_interpolate 62 = .ok (.iload 5, 2) := by decide +kernel
theorem d_M_interpolate_64 : decode b_M_interpolate 64 = .ok (.iload_n 2, 1) := by decide +kernel
theorem d_M_interpolate_65 : decode b_M_interpolate 65 = .ok (.iload 6, 2) := by decide +kernel
theorem d_M_interpolate_67 : decode b_M_interpolate 67 = .ok (.isub, 1) := by decide +kernel
theorem d_M_interpolate_68 : decode b_M_interpolate 68 = .ok (.aload_n 0, 1) := by decide +kernel
theorem d_M_interpolate_69 : decode b_M_interpolate 69 = .ok (.getfield 16, 3) := by decide +kernel
theorem d_M_interpolate_72 : decode b_M_interpolate 72 = .ok (.irem, 1) := by decide +kernel
theorem d_M_interpolate_73 : decode b_M_interpolate 73 = .ok (.aload_n 0, 1) := by decide +kernel
theorem d_M_interpolate_74 : decode b_M_interpolate 74 = .ok (.getfield 16, 3) := by decide +kernel
theorem d_M_interpolate_77 : decode b_M_interpolate 77 = .ok (.iadd, 1) := by decide +kernel
theorem d_M_interpolate_78 : decode b_M_interpolate 78 = .ok (.aload_n 0, 1) := by decide +kernel
theorem d_M_interpolate_79 : decode b_M_interpolate 79 = .ok (.getfield 16, 3) := by decide +kernel
theorem d_M_interpolate_82 : decode b_M_interpolate 82 = .ok (.irem, 1) := by decide +kernel
theorem d_M_interpolate_83 : decode b_M_interpolate 83 = .ok (.imul, 1) := by decide +kernel
theorem d_M_interpolate_84 : decode b_M_interpolate 84 = .ok (.aload_n 0, 1) := by decide +kernel
theorem d_M_interpolate_85 : decode b_M_interpolate 85 = .ok (.getfield 16, 3) := by decide +kernel
theorem d_M_interpolate_88 : decode b_M_interpolate 88 = .ok (.irem, 1) := by decide +kernel
theorem d_M_interpolate_89 : decode b_M_interpolate 89 = .ok (.aload_n 0, 1) := by decide +kernel
theorem d_M_interpolate_90 : decode b_M_interpolate 90 = .ok (.iload 4, 2) := by decide +kernel
theorem d_M_interpolate_92 : decode b_M_interpolate 92 = .ok (.iload 6, 2) := by decide +kernel
theorem d_M_interpolate_94 : decode b_M_interpolate 94 = .ok (.isub, 1) := by decide +kernel
theorem d_M_interpolate_95 : decode b_M_interpolate 95 = .ok (.invokevirtual 79, 3) := by decide +kernel
theorem d_M_interpolate_98 : decode b_M_interpolate 98 = .ok (.imul, 1) := by decide +kernel
theorem d_M_interpolate_99 : decode b_M_interpolate 99 = .ok (.aload_n 0, 1) := by decide +kernel
theorem d_M_interpolate_100 : decode b_M_interpolate 100 = .ok (.getfield 16, 3) := by decide +kernel
theorem d_M_interpolate_103 : decode b_M_interpolate 103 = .ok (.irem, 1) := by decide +kernel
theorem d_M_interpolate_104 : decode b_M_interpolate 104 = .ok (.istore 5, 2) := by decide +kernel
theorem d_M_interpolate_106 : decode b_M_interpolate 106 = .ok (.iinc 6 1, 3) := by decide +kernel
theorem d_M_interpolate_109 : decode b_M_interpolate 109 = .ok (.goto (-73), 3) := by decide +kernel
theorem d_M_interpolate_112 : decode b_M_interpolate 112 = .ok (.iload_n 3, 1) := by decide +kernel
theorem d_M_interpolate_113 : decode b_M_interpolate 113 = .ok (.iload 5, 2) := by decide +kernel
theorem d_M_interpolate_115 : decode b_M_interpolate 115 = .ok (.iadd, 1) := by decide +kernel
theorem d_M_interpolate_116 : decode b_M_interpolate 116 = .ok (.aload_n 0, 1) := by decide +kernel
theorem d_M_interpolate_117 : decode b_M_interpolate 117 = .ok (.getfield 16, 3) := by decide +kernel
theorem d_M_interpolate_120 : decode b_M_interpolate 120 = .ok (.irem, 1) := by decide +kernel
theorem d_M_interpolate_121 : decode b_M_interpolate 121 = .ok (.istore_n 3, 1) := by decide +kernel
theorem d_M_interpolate_122 : decode b_M_interpolate 122 = .ok (.iinc 4 1, 3) := by decide +kernel
theorem d_M_interpolate_125 : decode b_M_interpolate 125 = .ok (.goto (-120), 3) := by decide +kernel
theorem d_M_interpolate_128 : decode b_M_interpolate 128 = .ok (.iload_n 3, 1) := by decide +kernel
theorem d_M_interpolate_129 : decode b_M_interpolate 129 = .ok (.ireturn, 1) := by decide +kernel
theorem d_M_inverse_0 : decode b_M_inverse 0 = .ok (.iconst 1, 1) := by decide +kernel
theorem d_M_inverse_1 : decode b_M_inverse 1 = .ok (.istore_n 2, 1) := by decide +kernel
theorem d_M_inverse_2 : decode b_M_inverse 2 = .ok (.iload_n 1, 1) := by decide +kernel
theorem d_M_inverse_3 : decode b_M_inverse 3 = .ok (.aload_n 0, 1) := by decide +kernel
theorem d_M_inverse_4 : decode b_M_inverse 4 = .ok (.getfield 16, 3) := by decide +kernel
theorem d_M_inverse_7 : decode b_M_inverse 7 = .ok (.irem, 1) := by decide +kernel
theorem d_M_inverse_8 : decode b_M_inverse 8 = .ok (.aload_n 0, 1) := by decide +kernel
theorem d_M_inverse_9 : decode b_M_inverse 9 = .ok (.getfield 16, 3) := by decide +kernel
theorem d_M_inverse_12 : decode b_M_inverse 12 = .ok (.iadd, 1) := by decide +kernel
theorem d_M_inverse_13 : decode b_M_inverse 13 = .ok (.aload_n 0, 1) := by decide +kernel
theorem d_M_inverse_14 : decode b_M_inverse 14 = .ok (.getfield 16, 3) := by decide +kernel
theorem d_M_inverse_17 : decode b_M_inverse 17 = .ok (.irem, 1) := by decide +kernel
theorem d_M_inverse_18 : decode b_M_inverse 18 = .ok (.istore_n 3, 1) := by decide +kernel
theorem d_M_inverse_19 : decode b_M_inverse 19 = .ok (.aload_n 0, 1) := by decide +kernel
theorem d_M_inverse_20 : decode b_M_inverse 20 = .ok (.getfield 16, 3) := by decide +kernel
theorem d_M_inverse_23 : decode b_M_inverse 23 = .ok (.iconst 2, 1) := by decide +kernel
theorem d_M_inverse_24 : decode b_M_inverse 24 = .ok (.isub, 1) := by decide +kernel
theorem d_M_inverse_25 : decode b_M_inverse 25 = .ok (.istore 4, 2) := by decide +kernel
theorem d_M_inverse_27 : decode b_M_inverse 27 = .ok (.iload 4, 2) := by decide +kernel
theorem d_M_inverse_29 : decode b_M_inverse 29 = .ok (.ifCond .le 38, 3) := by decide +kernel
theorem d_M_inverse_32 : decode b_M_inverse 32 = .ok (.iload 4, 2) := by decide +kernel
theorem d_M_inverse_34 : decode b_M_inverse 34 = .ok (.iconst 1, 1) := by decide +kernel
theorem d_M_inverse_35 : decode b_M_inverse 35 = .ok (.iand, 1) := by decide +kernel
theorem d_M_inverse_36 : decode b_M_inverse 36 = .ok (.iconst 1, 1) := by decide +kernel
theorem d_M_inverse_37 : decode b_M_inverse 37 = .ok (.if_icmp .ne 12, 3) := by decide +kernel
theorem d_M_inverse_40 : decode b_M_inverse 40 = .ok (.iload_n 2, 1) := by decide +kernel
theorem d_M_inverse_41 : decode b_M_inverse 41 = .ok (.iload_n 3, 1) := by decide +kernel
theorem d_M_inverse_42 : decode b_M_inverse 42 = .ok (.imul, 1) := by decide +kernel
theorem d_M_inverse_43 : decode b_M_inverse 43 = .ok (.aload_n 0, 1) := by decide +kernel
theorem d_M_inverse_44 : decode b_M_inverse 44 = .ok (.getfield 16, 3) := by decide +kernel
theorem d_M_inverse_47 : decode b_M_inverse 47 = .ok (.irem, 1) := by decide +kernel
theorem d_M_inverse_48 : decode b_M_inverse 48 = .ok (.istore_n 2, 1) := by decide +kernel
theorem d_M_inverse_49 : decode b_M_inverse 49 = .ok (.iload_n 3, 1) := by decide +kernel
theorem d_M_inverse_50 : decode b_M_inverse 50 = .ok (.iload_n 3, 1) := by decide +kernel
theorem d_M_inverse_51 : decode b_M_inverse 51 = .ok (.imul, 1) := by decide +kernel
theorem d_M_inverse_52 : decode b_M_inverse 52 = .ok (.aload_n 0, 1) := by decide +kernel
theorem d_M_inverse_53 : decode b_M_inverse 53 = .ok (.getfield 16, 3) := by decide +kernel
theorem d_M_inverse_56 : decode b_M_inverse 56 = .ok (.irem, 1) := by decide +kernel
theorem d_M_inverse_57 : decode b_M_inverse 57 = .ok (.istore_n 3, 1) := by decide +kernel
theorem d_M_inverse_58 : decode b_M_inverse 58 = .ok (.iload 4, 2) := by decide +kernel
theorem d_M_inverse_60 : decode b_M_inverse 60 = .ok (.iconst 1, 1) := by decide +kernel
theorem d_M_inverse_61 : decode b_M_inverse 61 = .ok (.ishr, 1) := by decide +kernel
theorem d_M_inverse_62 : decode b_M_inverse 62 = .ok (.istore 4, 2) := by decide +kernel
theorem d_M_inverse_64 : decode b_M_inverse 64 = .ok (.goto (-37), 3) := by decide +kernel
theorem d_M_inverse_67 : decode b_M_inverse 67 = .ok (.iload_n 2, 1) := by decide +kernel
theorem d_M_inverse_68 : decode b_M_inverse 68 = .ok (.ireturn, 1) := by decide +kernel
theorem d_M_share_0 : decode b_M_share 0 = .ok (.aload_n 0, 1) := by decide +kernel
theorem d_M_share_1 : decode b_M_share 1 = .ok (.aload_n 0, 1) := by decide +kernel
theorem d_M_share_2 : decode b_M_share 2 = .ok (.iload_n 1, 1) := by decide +kernel
theorem d_M_share_3 : decode b_M_share 3 = .ok (.invokevirtual 96, 3) := by decide +kernel
theorem d_M_share_6 : decode b_M_share 6 = .ok (.putfield 7, 3) := by decide +kernel
theorem d_M_share_9 : decode b_M_share 9 = .ok (.aload_n 0, 1) := by decide +kernel
theorem d_M_share_10 : decode b_M_share 10 = .ok (.getfield 7, 3) := by decide +kernel
theorem d_M_share_13 : decode b_M_share 13 = .ok (.ifCond .eq 7, 3) := by decide +kernel
theorem d_M_share_16 : decode b_M_share 16 = .ok (.iconst 0, 1) := by decide +kernel
theorem d_M_share_17 : decode b_M_share 17 = .ok (.goto 22, 3) := by decide +kernel
theorem d_M_share_20 : decode b_M_share 20 = .ok (.aload_n 0, 1) := by decide +kernel
theorem d_M_share_21 : decode b_M_share 21 = .ok (.getfield 33, 3) := by decide +kernel
theorem d_M_share_24 : decode b_M_share 24 = .ok (.iload_n 1, 1) := by decide +kernel
theorem d_M_share_25 : decode b_M_share 25 = .ok (.baload, 1) := by decide +kernel
theorem d_M_share_26 : decode b_M_share 26 = .ok (.ifCond .eq 7, 3) := by decide +kernel
theorem d_M_share_29 : decode b_M_share 29 = .ok (.iconst (-1), 1) := by decide +kernel
theorem d_M_share_30 : decode b_M_share 30 = .ok (.goto 9, 3) := by decide +kernel
theorem d_M_share_33 : decode b_M_share 33 = .ok (.aload_n 0, 1) := by decide +kernel
theorem d_M_share_34 : decode b_M_share 34 = .ok (.getfield 29, 3) := by decide +kernel
theorem d_M_share_37 : decode b_M_share 37 = .ok (.iload_n 1, 1) := by decide +kernel
theorem d_M_share_38 : decode b_M_share 38 = .ok (.iaload, 1) := by decide +kernel
theorem d_M_share_39 : decode b_M_share 39 = .ok (.ireturn, 1) := by decide +kernel
theorem d_M_fits_0 : decode b_M_fits 0 = .ok (.aload_n 0, 1) := by decide +kernel
theorem d_M_fits_1 : decode b_M_fits 1 = .ok (.aload_n 0, 1) := by decide +kernel
theorem d_M_fits_2 : decode b_M_fits 2 = .ok (.iload_n 1, 1) := by decide +kernel
theorem d_M_fits_3 : decode b_M_fits 3 = .ok (.invokevirtual 96, 3) := by decide +kernel
theorem d_M_fits_6 : decode b_M_fits 6 = .ok (.putfield 7, 3) := by decide +kernel
theorem d_M_fits_9 : decode b_M_fits 9 = .ok (.aload_n 0, 1) := by decide +kernel
theorem d_M_fits_10 : decode b_M_fits 10 = .ok (.getfield 7, 3) := by decide +kernel
theorem d_M_fits_13 : decode b_M_fits 13 = .ok (.ifCond .ne 15, 3) := by decide +kernel
theorem d_M_fits_16 : decode b_M_fits 16 = .ok (.aload_n 0, 1) := by decide +kernel
theorem d_M_fits_17 : decode b_M_fits 17 = .ok (.iload_n 1, 1) := by decide +kernel
theorem d_M_fits_18 : decode b_M_fits 18 = .ok (.invokevirtual 120, 3) := by decide +kernel
theorem d_M_fits_21 : decode b_M_fits 21 = .ok (.ifCond .eq 7, 3) := by decide +kernel
theorem d_M_fits_24 : decode b_M_fits 24 = .ok (.iconst 1, 1) := by decide +kernel
theorem d_M_fits_25 : decode b_M_fits 25 = .ok (.goto 4, 3) := by decide +kernel
theorem d_M_fits_28 : decode b_M_fits 28 = .ok (.iconst 0, 1) := by decide +kernel
theorem d_M_fits_29 : decode b_M_fits 29 = .ok (.ireturn, 1) := by decide +kernel
theorem d_M_sum_0 : decode b_M_sum 0 = .ok (.aload_n 0, 1) := by decide +kernel
theorem d_M_sum_1 : decode b_M_sum 1 = .ok (.aload_n 0, 1) := by decide +kernel
theorem d_M_sum_2 : decode b_M_sum 2 = .ok (.getfield 22, 3) := by decide +kernel
theorem d_M_sum_5 : decode b_M_sum 5 = .ok (.ifCond .ne 7, 3) := by decide +kernel
theorem d_M_sum_8 : decode b_M_sum 8 = .ok (.iconst 1, 1) := by decide +kernel
theorem d_M_sum_9 : decode b_M_sum 9 = .ok (.goto 17, 3) := by decide +kernel
theorem d_M_sum_12 : decode b_M_sum 12 = .ok (.iload_n 1, 1) := by decide +kernel
theorem d_M_sum_13 : decode b_M_sum 13 = .ok (.ifCond .lt 8, 3) := by decide +kernel
theorem d_M_sum_16 : decode b_M_sum 16 = .ok (.iload_n 1, 1) := by decide +kernel
theorem d_M_sum_17 : decode b_M_sum 17 = .ok (.iconst 3, 1) := by decide +kernel
theorem d_M_sum_18 : decode b_M_sum 18 = .ok (.if_icmp .le 7, 3) := by decide +kernel
theorem d_M_sum_21 : decode b_M_sum 21 = .ok (.iconst 2, 1) := by decide +kernel
theorem d_M_sum_22 : decode b_M_sum 22 = .ok (.goto 4, 3) := by decide +kernel
theorem d_M_sum_25 : decode b_M_sum 25 = .ok (.iconst 0, 1) := by decide +kernel
theorem d_M_sum_26 : decode b_M_sum 26 = .ok (.putfield 7, 3) := by decide +kernel
theorem d_M_sum_29 : decode b_M_sum 29 = .ok (.aload_n 0, 1) := by decide +kernel
theorem d_M_sum_30 : decode b_M_sum 30 = .ok (.getfield 7, 3) := by decide +kernel
theorem d_M_sum_33 : decode b_M_sum 33 = .ok (.ifCond .eq 7, 3) := by decide +kernel
theorem d_M_sum_36 : decode b_M_sum 36 = .ok (.iconst 0, 1) := by decide +kernel
theorem d_M_sum_37 : decode b_M_sum 37 = .ok (.goto 9, 3) := by decide +kernel
theorem d_M_sum_40 : decode b_M_sum 40 = .ok (.aload_n 0, 1) := by decide +kernel
theorem d_M_sum_41 : decode b_M_sum 41 = .ok (.getfield 37, 3) := by decide +kernel
theorem d_M_sum_44 : decode b_M_sum 44 = .ok (.iload_n 1, 1) := by decide +kernel
theorem d_M_sum_45 : decode b_M_sum 45 = .ok (.iaload, 1) := by decide +kernel
theorem d_M_sum_46 : decode b_M_sum 46 = .ok (.ireturn, 1) := by decide +kernel
theorem d_M_element_0 : decode b_M_element 0 = .ok (.aload_n 0, 1) := by decide +kernel
theorem d_M_element_1 : decode b_M_element 1 = .ok (.aload_n 0, 1) := by decide +kernel
theorem d_M_element_2 : decode b_M_element 2 = .ok (.iload_n 1, 1) := by decide +kernel
theorem d_M_element_3 : decode b_M_element 3 = .ok (.invokevirtual 96, 3) := by decide +kernel
theorem d_M_element_6 : decode b_M_element 6 = .ok (.putfield 7, 3) := by decide +kernel
theorem d_M_element_9 : decode b_M_element 9 = .ok (.aload_n 0, 1) := by decide +kernel
theorem d_M_element_10 : decode b_M_element 10 = .ok (.getfield 7, 3) := by decide +kernel
theorem d_M_element_13 : decode b_M_element 13 = .ok (.ifCond .eq 7, 3) := by decide +kernel
theorem d_M_element_16 : decode b_M_element 16 = .ok (.iconst 0, 1) := by decide +kernel
theorem d_M_element_17 : decode b_M_element 17 = .ok (.goto 13, 3) := by decide +kernel
theorem d_M_element_20 : decode b_M_element 20 = .ok (.aload_n 0, 1) := by decide +kernel
theorem d_M_element_21 : decode b_M_element 21 = .ok (.aload_n 0, 1) := by decide +kernel
theorem d_M_element_22 : decode b_M_element 22 = .ok (.getfield 37, 3) := by decide +kernel
theorem d_M_element_25 : decode b_M_element 25 = .ok (.iconst 0, 1) := by decide +kernel
theorem d_M_element_26 : decode b_M_element 26 = .ok (.iload_n 1, 1) := by decide +kernel
theorem d_M_element_27 : decode b_M_element 27 = .ok (.invokevirtual 72, 3) := by decide +kernel
theorem d_M_element_30 : decode b_M_element 30 = .ok (.ireturn, 1) := by decide +kernel
theorem d_M_reconstruct_0 : decode b_M_reconstruct 0 = .ok (.aload_n 0, 1) := by decide +kernel
theorem d_M_reconstruct_1 : decode b_M_reconstruct 1 = .ok (.aload_n 0, 1) := by decide +kernel
theorem d_M_reconstruct_2 : decode b_M_reconstruct 2 = .ok (.getfield 22, 3) := by decide +kernel
theorem d_M_reconstruct_5 : decode b_M_reconstruct 5 = .ok (.ifCond .ne 7, 3) := by decide +kernel
theorem d_M_reconstruct_8 : decode b_M_reconstruct 8 = .ok (.iconst 1, 1) := by decide +kernel
theorem d_M_reconstruct_9 : decode b_M_reconstruct 9 = .ok (.goto 25, 3) := by decide +kernel
theorem d_M_reconstruct_12 : decode b_M_reconstruct 12 = .ok (.iload_n 1, 1) := by decide +kernel
theorem d_M_reconstruct_13 : decode b_M_reconstruct 13 = .ok (.ifCond .lt 16, 3) := by decide +kernel
theorem d_M_reconstruct_16 : decode b_M_reconstruct 16 = .ok (.iload_n 1, 1) := by decide +kernel
theorem d_M_reconstruct_17 : decode b_M_reconstruct 17 = .ok (.bipush 127, 2) := by decide +kernel
theorem d_M_reconstruct_19 : decode b_M_reconstruct 19 = .ok (.if_icmp .gt 10, 3) := by decide +kernel
theorem d_M_reconstruct_22 : decode b_M_reconstruct 22 = .ok (.iload_n 1, 1) := by decide +kernel
theorem d_M_reconstruct_23 : decode b_M_reconstruct 23 = .ok (.invokestatic 123, 3) := by decide +kernel
theorem d_M_reconstruct_26 : decode b_M_reconstruct 26 = .ok (.ifCond .ne 7, 3) := by decide +kernel
theorem d_M_reconstruct_29 : decode b_M_reconstruct 29 = .ok (.iconst 2, 1) := by decide +kernel
theorem d_M_reconstruct_30 : decode b_M_reconstruct 30 = .ok (.goto 4, 3) := by decide +kernel
theorem d_M_reconstruct_33 : decode b_M_reconstruct 33 = .ok (.iconst 0, 1) := by decide +kernel
theorem d_M_reconstruct_34 : decode b_M_reconstruct 34 = .ok (.putfield 7, 3) := by decide +kernel
theorem d_M_reconstruct_37 : decode b_M_reconstruct 37 = .ok (.aload_n 0, 1) := by decide +kernel
theorem d_M_reconstruct_38 : decode b_M_reconstruct 38 = .ok (.getfield 7, 3) := by decide +kernel
theorem d_M_reconstruct_41 : decode b_M_reconstruct 41 = .ok (.ifCond .eq 5, 3) := by decide +kernel
theorem d_M_reconstruct_44 : decode b_M_reconstruct 44 = .ok (.iconst 0, 1) := by decide +kernel
theorem d_M_reconstruct_45 : decode b_M_reconstruct 45 = .ok (.ireturn, 1) := by decide +kernel
theorem d_M_reconstruct_46 : decode b_M_reconstruct 46 = .ok (.iconst 1, 1) := by decide +kernel
theorem d_M_reconstruct_47 : decode b_M_reconstruct 47 = .ok (.istore_n 2, 1) := by decide +kernel
theorem d_M_reconstruct_48 : decode b_M_reconstruct 48 = .ok (.iload_n 2, 1) := by decide +kernel
theorem d_M_reconstruct_49 : decode b_M_reconstruct 49 = .ok (.bipush 8, 2) := by decide +kernel
theorem d_M_reconstruct_51 : decode b_M_reconstruct 51 = .ok (.if_icmp .ge 34, 3) := by decide +kernel
theorem d_M_reconstruct_54 : decode b_M_reconstruct 54 = .ok (.iload_n 1, 1) := by decide +kernel
theorem d_M_reconstruct_55 : decode b_M_reconstruct 55 = .ok (.iload_n 2, 1) := by decide +kernel
theorem d_M_reconstruct_56 : decode b_M_reconstruct 56 = .ok (.iconst 1, 1) := by decide +kernel
theorem d_M_reconstruct_57 : decode b_M_reconstruct 57 = .ok (.isub, 1) := by decide +kernel
theorem d_M_reconstruct_58 : decode b_M_reconstruct 58 = .ok (.ishr, 1) := by decide +kernel
theorem d_M_reconstruct_59 : decode b_M_reconstruct 59 = .ok (.iconst 1, 1) := by decide +kernel
theorem d_M_reconstruct_60 : decode b_M_reconstruct 60 = .ok (.iand, 1) := by decide +kernel
theorem d_M_reconstruct_61 : decode b_M_reconstruct 61 = .ok (.iconst 1, 1) := by decide +kernel
theorem d_M_reconstruct_62 : decode b_M_reconstruct 62 = .ok (.if_icmp .ne 17, 3) := by decide +kernel
theorem d_M_reconstruct_65 : decode b_M_reconstruct 65 = .ok (.aload_n 0, 1) := by decide +kernel
