theorem d_M_found_0 : decode b_M_found 0 = .ok (.aload_n 0, 1) := by decide +kernel
theorem d_M_found_1 : decode b_M_found 1 = .ok (.aload_n 0, 1) := by decide +kernel
theorem d_M_found_2 : decode b_M_found 2 = .ok (.getfield 13, 3) := by decide +kernel
theorem d_M_found_5 : decode b_M_found 5 = .ok (.ifCond .ne 7, 3) := by decide +kernel
theorem d_M_found_8 : decode b_M_found 8 = .ok (.iconst 1, 1) := by decide +kernel
theorem d_M_found_9 : decode b_M_found 9 = .ok (.goto 41, 3) := by decide +kernel
theorem d_M_found_12 : decode b_M_found 12 = .ok (.aload_n 0, 1) := by decide +kernel
theorem d_M_found_13 : decode b_M_found 13 = .ok (.iload_n 1, 1) := by decide +kernel
theorem d_M_found_14 : decode b_M_found 14 = .ok (.invokevirtual 87, 3) := by decide +kernel
theorem d_M_found_17 : decode b_M_found 17 = .ok (.ifCond .ne 28, 3) := by decide +kernel
theorem d_M_found_20 : decode b_M_found 20 = .ok (.aload_n 0, 1) := by decide +kernel
theorem d_M_found_21 : decode b_M_found 21 = .ok (.iload_n 2, 1) := by decide +kernel
theorem d_M_found_22 : decode b_M_found 22 = .ok (.invokevirtual 87, 3) := by decide +kernel
theorem d_M_found_25 : decode b_M_found 25 = .ok (.ifCond .ne 20, 3) := by decide +kernel
theorem d_M_found_28 : decode b_M_found 28 = .ok (.aload_n 0, 1) := by decide +kernel
theorem d_M_found_29 : decode b_M_found 29 = .ok (.iload_n 3, 1) := by decide +kernel
theorem d_M_found_30 : decode b_M_found 30 = .ok (.invokevirtual 87, 3) := by decide +kernel
theorem d_M_found_33 : decode b_M_found 33 = .ok (.ifCond .ne 12, 3) := by decide +kernel
theorem d_M_found_36 : decode b_M_found 36 = .ok (.aload_n 0, 1) := by decide +kernel
theorem d_M_found_37 : decode b_M_found 37 = .ok (.iload 4, 2) := by decide +kernel
theorem d_M_found_39 : decode b_M_found 39 = .ok (.invokevirtual 87, 3) := by decide +kernel
theorem d_M_found_42 : decode b_M_found 42 = .ok (.ifCond .eq 7, 3) := by decide +kernel
theorem d_M_found_45 : decode b_M_found 45 = .ok (.iconst 2, 1) := by decide +kernel
theorem d_M_found_46 : decode b_M_found 46 = .ok (.goto 4, 3) := by decide +kernel
theorem d_M_found_49 : decode b_M_found 49 = .ok (.iconst 0, 1) := by decide +kernel
theorem d_M_found_50 : decode b_M_found 50 = .ok (.putfield 7, 3) := by decide +kernel
theorem d_M_found_53 : decode b_M_found 53 = .ok (.aload_n 0, 1) := by decide +kernel
theorem d_M_found_54 : decode b_M_found 54 = .ok (.getfield 7, 3) := by decide +kernel
theorem d_M_found_57 : decode b_M_found 57 = .ok (.ifCond .eq 4, 3) := by decide +kernel
theorem d_M_found_60 : decode b_M_found 60 = .ok (.return_, 1) := by decide +kernel
theorem d_M_found_61 : decode b_M_found 61 = .ok (.aload_n 0, 1) := by decide +kernel
theorem d_M_found_62 : decode b_M_found 62 = .ok (.getfield 46, 3) := by decide +kernel
theorem d_M_found_65 : decode b_M_found 65 = .ok (.iconst 0, 1) := by decide +kernel
theorem d_M_found_66 : decode b_M_found 66 = .ok (.iload_n 1, 1) := by decide +kernel
theorem d_M_found_67 : decode b_M_found 67 = .ok (.iastore, 1) := by decide +kernel
theorem d_M_found_68 : decode b_M_found 68 = .ok (.aload_n 0, 1) := by decide +kernel
theorem d_M_found_69 : decode b_M_found 69 = .ok (.getfield 46, 3) := by decide +kernel
theorem d_M_found_72 : decode b_M_found 72 = .ok (.iconst 1, 1) := by decide +kernel
theorem d_M_found_73 : decode b_M_found 73 = .ok (.iload_n 2, 1) := by decide +kernel
theorem d_M_found_74 : decode b_M_found 74 = .ok (.iastore, 1) := by decide +kernel
theorem d_M_found_75 : decode b_M_found 75 = .ok (.aload_n 0, 1) := by decide +kernel
theorem d_M_found_76 : decode b_M_found 76 = .ok (.getfield 46, 3) := by decide +kernel
theorem d_M_found_79 : decode b_M_found 79 = .ok (.iconst 2, 1) := by decide +kernel
theorem d_M_found_80 : decode b_M_found 80 = .ok (.iload_n 3, 1) := by decide +kernel
theorem d_M_found_81 : decode b_M_found 81 = .ok (.iastore, 1) := by decide +kernel
theorem d_M_found_82 : decode b_M_found 82 = .ok (.aload_n 0, 1) := by decide +kernel
theorem d_M_found_83 : decode b_M_found 83 = .ok (.getfield 46, 3) := by decide +kernel
theorem d_M_found_86 : decode b_M_found 86 = .ok (.iconst 3, 1) := by decide +kernel
theorem d_M_found_87 : decode b_M_found 87 = .ok (.iload 4, 2) := by decide +kernel
theorem d_M_found_89 : decode b_M_found 89 = .ok (.iastore, 1) := by decide +kernel
theorem d_M_found_90 : decode b_M_found 90 = .ok (.iconst 0, 1) := by decide +kernel
theorem d_M_found_91 : decode b_M_found 91 = .ok (.istore 5, 2) := by decide +kernel
theorem d_M_found_93 : decode b_M_found 93 = .ok (.iload 5, 2) := by decide +kernel
theorem d_M_found_95 : decode b_M_found 95 = .ok (.iconst 4, 1) := by decide +kernel
theorem d_M_found_96 : decode b_M_found 96 = .ok (.if_icmp .ge 31, 3) := by decide +kernel
theorem d_M_found_99 : decode b_M_found 99 = .ok (.aload_n 0, 1) := by decide +kernel
theorem d_M_found_100 : decode b_M_found 100 = .ok (.getfield 37, 3) := by decide +kernel
theorem d_M_found_103 : decode b_M_found 103 = .ok (.iload 5, 2) := by decide +kernel
theorem d_M_found_105 : decode b_M_found 105 = .ok (.aload_n 0, 1) := by decide +kernel
theorem d_M_found_106 : decode b_M_found 106 = .ok (.aload_n 0, 1) := by decide +kernel
theorem d_M_found_107 : decode b_M_found 107 = .ok (.getfield 19, 3) := by decide +kernel
theorem d_M_found_110 : decode b_M_found 110 = .ok (.aload_n 0, 1) := by decide +kernel
theorem d_M_found_111 : decode b_M_found 111 = .ok (.getfield 46, 3) := by decide +kernel
theorem d_M_found_114 : decode b_M_found 114 = .ok (.iload 5, 2) := by decide +kernel
theorem d_M_found_116 : decode b_M_found 116 = .ok (.iaload, 1) := by decide +kernel
theorem d_M_found_117 : decode b_M_found 117 = .ok (.invokevirtual 68, 3) := by decide +kernel
theorem d_M_found_120 : decode b_M_found 120 = .ok (.iastore, 1) := by decide +kernel
theorem d_M_found_121 : decode b_M_found 121 = .ok (.iinc 5 1, 3) := by decide +kernel
theorem d_M_found_124 : decode b_M_found 124 = .ok (.goto (-31), 3) := by decide +kernel
theorem d_M_found_127 : decode b_M_found 127 = .ok (.iconst 1, 1) := by decide +kernel
theorem d_M_found_128 : decode b_M_found 128 = .ok (.istore 5, 2) := by decide +kernel
theorem d_M_found_130 : decode b_M_found 130 = .ok (.iload 5, 2) := by decide +kernel
theorem d_M_found_132 : decode b_M_found 132 = .ok (.bipush 8, 2) := by decide +kernel
theorem d_M_found_134 : decode b_M_found 134 = .ok (.if_icmp .ge 31, 3) := by decide +kernel
theorem d_M_found_137 : decode b_M_found 137 = .ok (.aload_n 0, 1) := by decide +kernel
theorem d_M_found_138 : decode b_M_found 138 = .ok (.getfield 29, 3) := by decide +kernel
theorem d_M_found_141 : decode b_M_found 141 = .ok (.iload 5, 2) := by decide +kernel
theorem d_M_found_143 : decode b_M_found 143 = .ok (.aload_n 0, 1) := by decide +kernel
theorem d_M_found_144 : decode b_M_found 144 = .ok (.iconst 0, 1) := by decide +kernel
theorem d_M_found_145 : decode b_M_found 145 = .ok (.iload 5, 2) := by decide +kernel
theorem d_M_found_147 : decode b_M_found 147 = .ok (.invokevirtual 76, 3) := by decide +kernel
theorem d_M_found_150 : decode b_M_found 150 = .ok (.iastore, 1) := by decide +kernel
theorem d_M_found_151 : decode b_M_found 151 = .ok (.aload_n 0, 1) := by decide +kernel
theorem d_M_found_152 : decode b_M_found 152 = .ok (.getfield 33, 3) := by decide +kernel
theorem d_M_found_155 : decode b_M_found 155 = .ok (.iload 5, 2) := by decide +kernel
theorem d_M_found_157 : decode b_M_found 157 = .ok (.iconst 0, 1) := by decide +kernel
theorem d_M_found_158 : decode b_M_found 158 = .ok (.bastore, 1) := by decide +kernel
theorem d_M_found_159 : decode b_M_found 159 = .ok (.iinc 5 1, 3) := by decide +kernel
theorem d_M_found_162 : decode b_M_found 162 = .ok (.goto (-32), 3) := by decide +kernel
theorem d_M_found_165 : decode b_M_found 165 = .ok (.aload_n 0, 1) := by decide +kernel
theorem d_M_found_166 : decode b_M_found 166 = .ok (.iconst 1, 1) := by decide +kernel
theorem d_M_found_167 : decode b_M_found 167 = .ok (.putfield 22, 3) := by decide +kernel
theorem d_M_found_170 : decode b_M_found 170 = .ok (.aload_n 0, 1) := by decide +kernel
theorem d_M_found_171 : decode b_M_found 171 = .ok (.iconst 0, 1) := by decide +kernel
theorem d_M_found_172 : decode b_M_found 172 = .ok (.putfield 61, 3) := by decide +kernel
theorem d_M_found_175 : decode b_M_found 175 = .ok (.aload_n 0, 1) := by decide +kernel
theorem d_M_found_176 : decode b_M_found 176 = .ok (.iconst 0, 1) := by decide +kernel
theorem d_M_found_177 : decode b_M_found 177 = .ok (.putfield 26, 3) := by decide +kernel
theorem d_M_found_180 : decode b_M_found 180 = .ok (.aload_n 0, 1) := by decide +kernel
theorem d_M_found_181 : decode b_M_found 181 = .ok (.invokevirtual 90, 3) := by decide +kernel
theorem d_M_found_184 : decode b_M_found 184 = .ok (.return_, 1) := by decide +kernel
theorem d_M_noNumber_0 : decode b_M_noNumber 0 = .ok (.iload_n 1, 1) := by decide +kernel
theorem d_M_noNumber_1 : decode b_M_noNumber 1 = .ok (.ifCond .lt 11, 3) := by decide +kernel
theorem d_M_noNumber_4 : decode b_M_noNumber 4 = .ok (.iload_n 1, 1) := by decide +kernel
theorem d_M_noNumber_5 : decode b_M_noNumber 5 = .ok (.aload_n 0, 1) := by decide +kernel
theorem d_M_noNumber_6 : decode b_M_noNumber 6 = .ok (.getfield 16, 3) := by decide +kernel
theorem d_M_noNumber_9 : decode b_M_noNumber 9 = .ok (.if_icmp .lt 7, 3) := by decide +kernel
theorem d_M_noNumber_12 : decode b_M_noNumber 12 = .ok (.iconst 1, 1) := by decide +kernel
theorem d_M_noNumber_13 : decode b_M_noNumber 13 = .ok (.goto 4, 3) := by decide +kernel
theorem d_M_noNumber_16 : decode b_M_noNumber 16 = .ok (.iconst 0, 1) := by decide +kernel
theorem d_M_noNumber_17 : decode b_M_noNumber 17 = .ok (.ireturn, 1) := by decide +kernel
theorem d_M_valueAt_0 : decode b_M_valueAt 0 = .ok (.iconst 0, 1) := by decide +kernel
theorem d_M_valueAt_1 : decode b_M_valueAt 1 = .ok (.istore_n 3, 1) := by decide +kernel
theorem d_M_valueAt_2 : decode b_M_valueAt 2 = .ok (.iconst 3, 1) := by decide +kernel
theorem d_M_valueAt_3 : decode b_M_valueAt 3 = .ok (.istore 4, 2) := by decide +kernel
theorem d_M_valueAt_5 : decode b_M_valueAt 5 = .ok (.iload 4, 2) := by decide +kernel
theorem d_M_valueAt_7 : decode b_M_valueAt 7 = .ok (.ifCond .lt 30, 3) := by decide +kernel
theorem d_M_valueAt_10 : decode b_M_valueAt 10 = .ok (.iload_n 3, 1) := by decide +kernel
theorem d_M_valueAt_11 : decode b_M_valueAt 11 = .ok (.iload_n 2, 1) := by decide +kernel
theorem d_M_valueAt_12 : decode b_M_valueAt 12 = .ok (.imul, 1) := by decide +kernel
theorem d_M_valueAt_13 : decode b_M_valueAt 13 = .ok (.aload_n 0, 1) := by decide +kernel
theorem d_M_valueAt_14 : decode b_M_valueAt 14 = .ok (.getfield 46, 3) := by decide +kernel
theorem d_M_valueAt_17 : decode b_M_valueAt 17 = .ok (.iconst 4, 1) := by decide +kernel
theorem d_M_valueAt_18 : decode b_M_valueAt 18 = .ok (.iload_n 1, 1) := by decide +kernel
theorem d_M_valueAt_19 : decode b_M_valueAt 19 = .ok (.imul, 1) := by decide +kernel
theorem d_M_valueAt_20 : decode b_M_valueAt 20 = .ok (.iload 4, 2) := by decide +kernel
theorem d_M_valueAt_22 : decode b_M_valueAt 22 = .ok (.iadd, 1) := by decide +kernel
theorem d_M_valueAt_23 : decode b_M_valueAt 23 = .ok (.iaload, 1) := by decide +kernel
theorem d_M_valueAt_24 : decode b_M_valueAt 24 = .ok (.iadd, 1) := by decide +kernel
theorem d_M_valueAt_25 : decode b_M_valueAt 25 = .ok (.aload_n 0, 1) := by decide +kernel
theorem d_M_valueAt_26 : decode b_M_valueAt 26 = .ok (.getfield 16, 3) := by decide +kernel
theorem d_M_valueAt_29 : decode b_M_valueAt 29 = .ok (.irem, 1) := by decide +kernel
theorem d_M_valueAt_30 : decode b_M_valueAt 30 = .ok (.istore_n 3, 1) := by decide +kernel
theorem d_M_valueAt_31 : decode b_M_valueAt 31 = .ok (.iinc 4 (-1), 3) := by decide +kernel
theorem d_M_valueAt_34 : decode b_M_valueAt 34 = .ok (.goto (-29), 3) := by decide +kernel
theorem d_M_valueAt_37 : decode b_M_valueAt 37 = .ok (.iload_n 3, 1) := by decide +kernel
theorem d_M_valueAt_38 : decode b_M_valueAt 38 = .ok (.ireturn, 1) := by decide +kernel
theorem d_M_newWeek_0 : decode b_M_newWeek 0 = .ok (.aload_n 0, 1) := by decide +kernel
theorem d_M_newWeek_1 : decode b_M_newWeek 1 = .ok (.dup, 1) := by decide +kernel
theorem d_M_newWeek_2 : decode b_M_newWeek 2 = .ok (.getfield 26, 3) := by decide +kernel
theorem d_M_newWeek_5 : decode b_M_newWeek 5 = .ok (.iconst 1, 1) := by decide +kernel
theorem d_M_newWeek_6 : decode b_M_newWeek 6 = .ok (.iadd, 1) := by decide +kernel
theorem d_M_newWeek_7 : decode b_M_newWeek 7 = .ok (.putfield 26, 3) := by decide +kernel
theorem d_M_newWeek_10 : decode b_M_newWeek 10 = .ok (.iconst 0, 1) := by decide +kernel
theorem d_M_newWeek_11 : decode b_M_newWeek 11 = .ok (.istore_n 1, 1) := by decide +kernel
theorem d_M_newWeek_12 : decode b_M_newWeek 12 = .ok (.iload_n 1, 1) := by decide +kernel
theorem d_M_newWeek_13 : decode b_M_newWeek 13 = .ok (.bipush 8, 2) := by decide +kernel
theorem d_M_newWeek_15 : decode b_M_newWeek 15 = .ok (.if_icmp .ge 23, 3) := by decide +kernel
theorem d_M_newWeek_18 : decode b_M_newWeek 18 = .ok (.aload_n 0, 1) := by decide +kernel
theorem d_M_newWeek_19 : decode b_M_newWeek 19 = .ok (.getfield 40, 3) := by decide +kernel
theorem d_M_newWeek_22 : decode b_M_newWeek 22 = .ok (.iload_n 1, 1) := by decide +kernel
theorem d_M_newWeek_23 : decode b_M_newWeek 23 = .ok (.iconst 0, 1) := by decide +kernel
theorem d_M_newWeek_24 : decode b_M_newWeek 24 = .ok (.iastore, 1) := by decide +kernel
theorem d_M_newWeek_25 : decode b_M_newWeek 25 = .ok (.aload_n 0, 1) := by decide +kernel
theorem d_M_newWeek_26 : decode b_M_newWeek 26 = .ok (.getfield 43, 3) := by decide +kernel
theorem d_M_newWeek_29 : decode b_M_newWeek 29 = .ok (.iload_n 1, 1) := by decide +kernel
theorem d_M_newWeek_30 : decode b_M_newWeek 30 = .ok (.iconst 0, 1) := by decide +kernel
theorem d_M_newWeek_31 : decode b_M_newWeek 31 = .ok (.bastore, 1) := by decide +kernel
theorem d_M_newWeek_32 : decode b_M_newWeek 32 = .ok (.iinc 1 1, 3) := by decide +kernel
theorem d_M_newWeek_35 : decode b_M_newWeek 35 = .ok (.goto (-23), 3) := by decide +kernel
theorem d_M_newWeek_38 : decode b_M_newWeek 38 = .ok (.iconst 0, 1) := by decide +kernel
theorem d_M_newWeek_39 : decode b_M_newWeek 39 = .ok (.istore_n 1, 1) := by decide +kernel
theorem d_M_newWeek_40 : decode b_M_newWeek 40 = .ok (.iload_n 1, 1) := by decide +kernel
theorem d_M_newWeek_41 : decode b_M_newWeek 41 = .ok (.bipush 64, 2) := by decide +kernel
theorem d_M_newWeek_43 : decode b_M_newWeek 43 = .ok (.if_icmp .ge 23, 3) := by decide +kernel
theorem d_M_newWeek_46 : decode b_M_newWeek 46 = .ok (.aload_n 0, 1) := by decide +kernel
theorem d_M_newWeek_47 : decode b_M_newWeek 47 = .ok (.getfield 55, 3) := by decide +kernel
theorem d_M_newWeek_50 : decode b_M_newWeek 50 = .ok (.iload_n 1, 1) := by decide +kernel
theorem d_M_newWeek_51 : decode b_M_newWeek 51 = .ok (.iconst 0, 1) := by decide +kernel
theorem d_M_newWeek_52 : decode b_M_newWeek 52 = .ok (.bastore, 1) := by decide +kernel
theorem d_M_newWeek_53 : decode b_M_newWeek 53 = .ok (.aload_n 0, 1) := by decide +kernel
theorem d_M_newWeek_54 : decode b_M_newWeek 54 = .ok (.getfield 58, 3) := by decide +kernel
theorem d_M_newWeek_57 : decode b_M_newWeek 57 = .ok (.iload_n 1, 1) := by decide +kernel
theorem d_M_newWeek_58 : decode b_M_newWeek 58 = .ok (.iconst 0, 1) := by decide +kernel
theorem d_M_newWeek_59 : decode b_M_newWeek 59 = .ok (.bastore, 1) := by decide +kernel
theorem d_M_newWeek_60 : decode b_M_newWeek 60 = .ok (.iinc 1 1, 3) := by decide +kernel
theorem d_M_newWeek_63 : decode b_M_newWeek 63 = .ok (.goto (-23), 3) := by decide +kernel
theorem d_M_newWeek_66 : decode b_M_newWeek 66 = .ok (.return_, 1) := by decide +kernel
theorem d_M_fault_0 : decode b_M_fault 0 = .ok (.aload_n 0, 1) := by decide +kernel
theorem d_M_fault_1 : decode b_M_fault 1 = .ok (.aload_n 0, 1) := by decide +kernel
theorem d_M_fault_2 : decode b_M_fault 2 = .ok (.iload_n 1, 1) := by decide +kernel
theorem d_M_fault_3 : decode b_M_fault 3 = .ok (.invokevirtual 96, 3) := by decide +kernel
theorem d_M_fault_6 : decode b_M_fault 6 = .ok (.putfield 7, 3) := by decide +kernel
theorem d_M_fault_9 : decode b_M_fault 9 = .ok (.aload_n 0, 1) := by decide +kernel
theorem d_M_fault_10 : decode b_M_fault 10 = .ok (.getfield 7, 3) := by decide +kernel
theorem d_M_fault_13 : decode b_M_fault 13 = .ok (.ifCond .ne 18, 3) := by decide +kernel
theorem d_M_fault_16 : decode b_M_fault 16 = .ok (.iload_n 2, 1) := by decide +kernel
theorem d_M_fault_17 : decode b_M_fault 17 = .ok (.ifCond .lt 9, 3) := by decide +kernel
theorem d_M_fault_20 : decode b_M_fault 20 = .ok (.iload_n 2, 1) := by decide +kernel
theorem d_M_fault_21 : decode b_M_fault 21 = .ok (.bipush 6, 2) := by decide +kernel
theorem d_M_fault_23 : decode b_M_fault 23 = .ok (.if_icmp .le 8, 3) := by decide +kernel
theorem d_M_fault_26 : decode b_M_fault 26 = .ok (.aload_n 0, 1) := by decide +kernel
theorem d_M_fault_27 : decode b_M_fault 27 = .ok (.iconst 3, 1) := by decide +kernel
theorem d_M_fault_28 : decode b_M_fault 28 = .ok (.putfield 7, 3) := by decide +kernel
theorem d_M_fault_31 : decode b_M_fault 31 = .ok (.aload_n 0, 1) := by decide +kernel
theorem d_M_fault_32 : decode b_M_fault 32 = .ok (.getfield 7, 3) := by decide +kernel
theorem d_M_fault_35 : decode b_M_fault 35 = .ok (.ifCond .eq 4, 3) := by decide +kernel
theorem d_M_fault_38 : decode b_M_fault 38 = .ok (.return_, 1) := by decide +kernel
theorem d_M_fault_39 : decode b_M_fault 39 = .ok (.iload_n 2, 1) := by decide +kernel
theorem d_M_fault_40 : decode b_M_fault 40 = .ok (.ifCond .le 7, 3) := by decide +kernel
theorem d_M_fault_43 : decode b_M_fault 43 = .ok (.iconst 1, 1) := by decide +kernel
theorem d_M_fault_44 : decode b_M_fault 44 = .ok (.goto 4, 3) := by decide +kernel
theorem d_M_fault_47 : decode b_M_fault 47 = .ok (.iconst 0, 1) := by decide +kernel
theorem d_M_fault_48 : decode b_M_fault 48 = .ok (.istore_n 3, 1) := by decide +kernel
theorem d_M_fault_49 : decode b_M_fault 49 = .ok (.iconst 1, 1) := by decide +kernel
theorem d_M_fault_50 : decode b_M_fault 50 = .ok (.istore 4, 2) := by decide +kernel
theorem d_M_fault_52 : decode b_M_fault 52 = .ok (.iload 4, 2) := by decide +kernel
theorem d_M_fault_54 : decode b_M_fault 54 = .ok (.bipush 8, 2) := by decide +kernel
theorem d_M_fault_56 : decode b_M_fault 56 = .ok (.if_icmp .ge 33, 3) := by decide +kernel
theorem d_M_fault_59 : decode b_M_fault 59 = .ok (.iload_n 3, 1) := by decide +kernel
theorem d_M_fault_60 : decode b_M_fault 60 = .ok (.iload 4, 2) := by decide +kernel
theorem d_M_fault_62 : decode b_M_fault 62 = .ok (.iload_n 1, 1) := by decide +kernel
theorem d_M_fault_63 : decode b_M_fault 63 = .ok (.if_icmp .eq 17, 3) := by decide +kernel
theorem d_M_fault_66 : decode b_M_fault 66 = .ok (.aload_n 0, 1) := by decide +kernel
theorem d_M_fault_67 : decode b_M_fault 67 = .ok (.getfield 40, 3) := by decide +kernel
theorem d_M_fault_70 : decode b_M_fault 70 = .ok (.iload 4, 2) := by decide +kernel
theorem d_M_fault_72 : decode b_M_fault 72 = .ok (.iaload, 1) := by decide +kernel
theorem d_M_fault_73 : decode b_M_fault 73 = .ok (.ifCond .le 7, 3) := by decide +kernel
theorem d_M_fault_76 : decode b_M_fault 76 = .ok (.iconst 1, 1) := by decide +kernel
theorem d_M_fault_77 : decode b_M_fault 77 = .ok (.goto 4, 3) := by decide +kernel
theorem d_M_fault_80 : decode b_M_fault 80 = .ok (.iconst 0, 1) := by decide +kernel
theorem d_M_fault_81 : decode b_M_fault 81 = .ok (.iadd, 1) := by decide +kernel
theorem d_M_fault_82 : decode b_M_fault 82 = .ok (.istore_n 3, 1) := by decide +kernel
theorem d_M_fault_83 : decode b_M_fault 83 = .ok (.iinc 4 1, 3) := by decide +kernel
theorem d_M_fault_86 : decode b_M_fault 86 = .ok (.goto (-34), 3) := by decide +kernel
theorem d_M_fault_89 : decode b_M_fault 89 = .ok (.aload_n 0, 1) := by decide +kernel
theorem d_M_fault_90 : decode b_M_fault 90 = .ok (.getfield 43, 3) := by decide +kernel
theorem d_M_fault_93 : decode b_M_fault 93 = .ok (.iload_n 1, 1) := by decide +kernel
theorem d_M_fault_94 : decode b_M_fault 94 = .ok (.baload, 1) := by decide +kernel
theorem d_M_fault_95 : decode b_M_fault 95 = .ok (.ifCond .ne 12, 3) := by decide +kernel
theorem d_M_fault_98 : decode b_M_fault 98 = .ok (.iload_n 2, 1) := by decide +kernel
theorem d_M_fault_99 : decode b_M_fault 99 = .ok (.ifCond .le 14, 3) := by decide +kernel
theorem d_M_fault_102 : decode b_M_fault 102 = .ok (.iload_n 3, 1) := by decide +kernel
theorem d_M_fault_103 : decode b_M_fault 103 = .ok (.iconst 3, 1) := by decide +kernel
theorem d_M_fault_104 : decode b_M_fault 104 = .ok (.if_icmp .le 9, 3) := by decide +kernel
theorem d_M_fault_107 : decode b_M_fault 107 = .ok (.aload_n 0, 1) := by decide +kernel
theorem d_M_fault_108 : decode b_M_fault 108 = .ok (.iconst 4, 1) := by decide +kernel
theorem d_M_fault_109 : decode b_M_fault 109 = .ok (.putfield 7, 3) := by decide +kernel
theorem d_M_fault_112 : decode b_M_fault 112 = .ok (.return_, 1) := by decide +kernel
theorem d_M_fault_113 : decode b_M_fault 113 = .ok (.aload_n 0, 1) := by decide +kernel
theorem d_M_fault_114 : decode b_M_fault 114 = .ok (.getfield 40, 3) := by decide +kernel
theorem d_M_fault_117 : decode b_M_fault 117 = .ok (.iload_n 1, 1) := by decide +kernel
theorem d_M_fault_118 : decode b_M_fault 118 = .ok (.iload_n 2, 1) := by decide +kernel
theorem d_M_fault_119 : decode b_M_fault 119 = .ok (.iastore, 1) := by decide +kernel
theorem d_M_fault_120 : decode b_M_fault 120 = .ok (.return_, 1) := by decide +kernel
theorem d_M_first_0 : decode b_M_first 0 = .ok (.aload_n 0, 1) := by decide +kernel
theorem d_M_first_1 : decode b_M_first 1 = .ok (.getfield 22, 3) := by decide +kernel
theorem d_M_first_4 : decode b_M_first 4 = .ok (.ifCond .ne 7, 3) := by decide +kernel
theorem d_M_first_7 : decode b_M_first 7 = .ok (.iconst 1, 1) := by decide +kernel
theorem d_M_first_8 : decode b_M_first 8 = .ok (.goto 15, 3) := by decide +kernel
theorem d_M_first_11 : decode b_M_first 11 = .ok (.iload_n 1, 1) := by decide +kernel
theorem d_M_first_12 : decode b_M_first 12 = .ok (.invokestatic 93, 3) := by decide +kernel
theorem d_M_first_15 : decode b_M_first 15 = .ok (.ifCond .eq 7, 3) := by decide +kernel
theorem d_M_first_18 : decode b_M_first 18 = .ok (.iconst 2, 1) := by decide +kernel
theorem d_M_first_19 : decode b_M_first 19 = .ok (.goto 4, 3) := by decide +kernel
theorem d_M_first_22 : decode b_M_first 22 = .ok (.iconst 0, 1) := by decide +kernel
theorem d_M_first_23 : decode b_M_first 23 = .ok (.ireturn, 1) := by decide +kernel
theorem d_M_noSeat_0 : decode b_M_noSeat 0 = .ok (.iload_n 0, 1) := by decide +kernel
theorem d_M_noSeat_1 : decode b_M_noSeat 1 = .ok (.iconst 1, 1) := by decide +kernel
theorem d_M_noSeat_2 : decode b_M_noSeat 2 = .ok (.if_icmp .lt 9, 3) := by decide +kernel
theorem d_M_noSeat_5 : decode b_M_noSeat 5 = .ok (.iload_n 0, 1) := by decide +kernel
theorem d_M_noSeat_6 : decode b_M_noSeat 6 = .ok (.bipush 7, 2) := by decide +kernel
theorem d_M_noSeat_8 : decode b_M_noSeat 8 = .ok (.if_icmp .le 7, 3) := by decide +kernel
theorem d_M_noSeat_11 : decode b_M_noSeat 11 = .ok (.iconst 1, 1) := by decide +kernel
theorem d_M_noSeat_12 : decode b_M_noSeat 12 = .ok (.goto 4, 3) := by decide +kernel
theorem d_M_noSeat_15 : decode b_M_noSeat 15 = .ok (.iconst 0, 1) := by decide +kernel
theorem d_M_noSeat_16 : decode b_M_noSeat 16 = .ok (.ireturn, 1) := by decide +kernel
theorem d_M_deal_0 : decode b_M_deal 0 = .ok (.aload_n 0, 1) := by decide +kernel
theorem d_M_deal_1 : decode b_M_deal 1 = .ok (.aload_n 0, 1) := by decide +kernel
theorem d_M_deal_2 : decode b_M_deal 2 = .ok (.iload_n 1, 1) := by decide +kernel
theorem d_M_deal_3 : decode b_M_deal 3 = .ok (.invokevirtual 96, 3) := by decide +kernel
theorem d_M_deal_6 : decode b_M_deal 6 = .ok (.putfield 7, 3) := by decide +kernel
theorem d_M_deal_9 : decode b_M_deal 9 = .ok (.aload_n 0, 1) := by decide +kernel
theorem d_M_deal_10 : decode b_M_deal 10 = .ok (.getfield 7, 3) := by decide +kernel
theorem d_M_deal_13 : decode b_M_deal 13 = .ok (.ifCond .ne 33, 3) := by decide +kernel
theorem d_M_deal_16 : decode b_M_deal 16 = .ok (.aload_n 0, 1) := by decide +kernel
theorem d_M_deal_17 : decode b_M_deal 17 = .ok (.iload_n 2, 1) := by decide +kernel
theorem d_M_deal_18 : decode b_M_deal 18 = .ok (.invokevirtual 87, 3) := by decide +kernel
theorem d_M_deal_21 : decode b_M_deal 21 = .ok (.ifCond .ne 20, 3) := by decide +kernel
theorem d_M_deal_24 : decode b_M_deal 24 = .ok (.aload_n 0, 1) := by decide +kernel
theorem d_M_deal_25 : decode b_M_deal 25 = .ok (.iload_n 3, 1) := by decide +kernel
theorem d_M_deal_26 : decode b_M_deal 26 = .ok (.invokevirtual 87, 3) := by decide +kernel
theorem d_M_deal_29 : decode b_M_deal 29 = .ok (.ifCond .ne 12, 3) := by decide +kernel
theorem d_M_deal_32 : decode b_M_deal 32 = .ok (.aload_n 0, 1) := by decide +kernel
theorem d_M_deal_33 : decode b_M_deal 33 = .ok (.iload 4, 2) := by decide +kernel
theorem d_M_deal_35 : decode b_M_deal 35 = .ok (.invokevirtual 87, 3) := by decide +kernel
theorem d_M_deal_38 : decode b_M_deal 38 = .ok (.ifCond .eq 8, 3) := by decide +kernel
theorem d_M_deal_41 : decode b_M_deal 41 = .ok (.aload_n 0, 1) := by decide +kernel
theorem d_M_deal_42 : decode b_M_deal 42 = .ok (.iconst 3, 1) := by decide +kernel
theorem d_M_deal_43 : decode b_M_deal 43 = .ok (.putfield 7, 3) := by decide +kernel
theorem d_M_deal_46 : decode b_M_deal 46 = .ok (.aload_n 0, 1) := by decide +kernel
theorem d_M_deal_47 : decode b_M_deal 47 = .ok (.getfield 7, 3) := by decide +kernel
theorem d_M_deal_50 : decode b_M_deal 50 = .ok (.ifCond .ne 27, 3) := by decide +kernel
theorem d_M_deal_53 : decode b_M_deal 53 = .ok (.aload_n 0, 1) := by decide +kernel
theorem d_M_deal_54 : decode b_M_deal 54 = .ok (.getfield 43, 3) := by decide +kernel
theorem d_M_deal_57 : decode b_M_deal 57 = .ok (.iload_n 1, 1) := by decide +kernel
theorem d_M_deal_58 : decode b_M_deal 58 = .ok (.baload, 1) := by decide +kernel
theorem d_M_deal_59 : decode b_M_deal 59 = .ok (.ifCond .ne 13, 3) := by decide +kernel
theorem d_M_deal_62 : decode b_M_deal 62 = .ok (.aload_n 0, 1) := by decide +kernel
theorem d_M_deal_63 : decode b_M_deal 63 = .ok (.getfield 61, 3) := by decide +kernel
theorem d_M_deal_66 : decode b_M_deal 66 = .ok (.sipush 250, 3) := by decide +kernel
theorem d_M_deal_69 : decode b_M_deal 69 = .ok (.if_icmp .ne 8, 3) := by decide +kernel
theorem d_M_deal_72 : decode b_M_deal 72 = .ok (.aload_n 0, 1) := by decide +kernel
theorem d_M_deal_73 : decode b_M_deal 73 = .ok (.iconst 4, 1) := by decide +kernel
theorem d_M_deal_74 : decode b_M_deal 74 = .ok (.putfield 7, 3) := by decide +kernel
theorem d_M_deal_77 : decode b_M_deal 77 = .ok (.aload_n 0, 1) := by decide +kernel
theorem d_M_deal_78 : decode b_M_deal 78 = .ok (.getfield 7, 3) := by decide +kernel
theorem d_M_deal_81 : decode b_M_deal 81 = .ok (.ifCond .eq 4, 3) := by decide +kernel
theorem d_M_deal_84 : decode b_M_deal 84 = .ok (.return_, 1) := by decide +kernel
theorem d_M_deal_85 : decode b_M_deal 85 = .ok (.aload_n 0, 1) := by decide +kernel
theorem d_M_deal_86 : decode b_M_deal 86 = .ok (.getfield 43, 3) := by decide +kernel
theorem d_M_deal_89 : decode b_M_deal 89 = .ok (.iload_n 1, 1) := by decide +kernel
theorem d_M_deal_90 : decode b_M_deal 90 = .ok (.iconst 1, 1) := by decide +kernel
theorem d_M_deal_91 : decode b_M_deal 91 = .ok (.bastore, 1) := by decide +kernel
theorem d_M_deal_92 : decode b_M_deal 92 = .ok (.aload_n 0, 1) := by decide +kernel
theorem d_M_deal_93 : decode b_M_deal 93 = .ok (.getfield 40, 3) := by decide +kernel
theorem d_M_deal_96 : decode b_M_deal 96 = .ok (.iload_n 1, 1) := by decide +kernel
theorem d_M_deal_97 : decode b_M_deal 97 = .ok (.iaload, 1) := by decide +kernel
theorem d_M_deal_98 : decode b_M_deal 98 = .ok (.iconst 1, 1) := by decide +kernel
theorem d_M_deal_99 : decode b_M_deal 99 = .ok (.if_icmp .ne 4, 3) := by decide +kernel
theorem d_M_deal_102 : decode b_M_deal 102 = .ok (.return_, 1) := by decide +kernel
theorem d_M_deal_103 : decode b_M_deal 103 = .ok (.aload_n 0, 1) := by decide +kernel
theorem d_M_deal_104 : decode b_M_deal 104 = .ok (.getfield 46, 3) := by decide +kernel
theorem d_M_deal_107 : decode b_M_deal 107 = .ok (.iconst 4, 1) := by decide +kernel
theorem d_M_deal_108 : decode b_M_deal 108 = .ok (.iload_n 1, 1) := by decide +kernel
theorem d_M_deal_109 : decode b_M_deal 109 = .ok (.imul, 1) := by decide +kernel
theorem d_M_deal_110 : decode b_M_deal 110 = .ok (.aload_n 0, 1) := by decide +kernel
theorem d_M_deal_111 : decode b_M_deal 111 = .ok (.getfield 40, 3) := by decide +kernel
theorem d_M_deal_114 : decode b_M_deal 114 = .ok (.iload_n 1, 1) := by decide +kernel
theorem d_M_deal_115 : decode b_M_deal 115 = .ok (.iaload, 1) := by decide +kernel
theorem d_M_deal_116 : decode b_M_deal 116 = .ok (.iconst 3, 1) := by decide +kernel
theorem d_M_deal_117 : decode b_M_deal 117 = .ok (.if_icmp .ne 7, 3) := by decide +kernel
theorem d_M_deal_120 : decode b_M_deal 120 = .ok (.iconst 1, 1) := by decide +kernel
theorem d_M_deal_121 : decode b_M_deal 121 = .ok (.goto 4, 3) := by decide +kernel
theorem d_M_deal_124 : decode b_M_deal 124 = .ok (.iconst 0, 1) := by decide +kernel
theorem d_M_deal_125 : decode b_M_deal 125 = .ok (.iastore, 1) := by decide +kernel
theorem d_M_deal_126 : decode b_M_deal 126 = .ok (.aload_n 0, 1) := by decide +kernel
theorem d_M_deal_127 : decode b_M_deal 127 = .ok (.getfield 46, 3) := by decide +kernel
theorem d_M_deal_130 : decode b_M_deal 130 = .ok (.iconst 4, 1) := by decide +kernel
theorem d_M_deal_131 : decode b_M_deal 131 = .ok (.iload_n 1, 1) := by decide +kernel
theorem d_M_deal_132 : decode b_M_deal 132 = .ok (.imul, 1) := by decide +kernel
theorem d_M_deal_133 : decode b_M_deal 133 = .ok (.iconst 1, 1) := by decide +kernel
theorem d_M_deal_134 : decode b_M_deal 134 = .ok (.iadd, 1) := by decide +kernel
theorem d_M_deal_135 : decode b_M_deal 135 = .ok (.iload_n 2, 1) := by decide +kernel
theorem d_M_deal_136 : decode b_M_deal 136 = .ok (.iastore, 1) := by decide +kernel
theorem d_M_deal_137 : decode b_M_deal 137 = .ok (.aload_n 0, 1) := by decide +kernel
theorem d_M_deal_138 : decode b_M_deal 138 = .ok (.getfield 46, 3) := by decide +kernel
theorem d_M_deal_141 : decode b_M_deal 141 = .ok (.iconst 4, 1) := by decide +kernel
theorem d_M_deal_142 : decode b_M_deal 142 = .ok (.iload_n 1, 1) := by decide +kernel
theorem d_M_deal_143 : decode b_M_deal 143 = .ok (.imul, 1) := by decide +kernel
theorem d_M_deal_144 : decode b_M_deal 144 = .ok (.iconst 2, 1) := by decide +kernel
theorem d_M_deal_145 : decode b_M_deal 145 = .ok (.iadd, 1) := by decide +kernel
theorem d_M_deal_146 : decode b_M_deal 146 = .ok (.iload_n 3, 1) := by decide +kernel
theorem d_M_deal_147 : decode b_M_deal 147 = .ok (.iastore, 1) := by decide +kernel
theorem d_M_deal_148 : decode b_M_deal 148 = .ok (.aload_n 0, 1) := by decide +kernel
theorem d_M_deal_149 : decode b_M_deal 149 = .ok (.getfield 46, 3) := by decide +kernel
theorem d_M_deal_152 : decode b_M_deal 152 = .ok (.iconst 4, 1) := by decide +kernel
theorem d_M_deal_153 : decode b_M_deal 153 = .ok (.iload_n 1, 1) := by decide +kernel
theorem d_M_deal_154 : decode b_M_deal 154 = .ok (.imul, 1) := by decide +kernel
theorem d_M_deal_155 : decode b_M_deal 155 = .ok (.iconst 3, 1) := by decide +kernel
theorem d_M_deal_156 : decode b_M_deal 156 = .ok (.iadd, 1) := by decide +kernel
theorem d_M_deal_157 : decode b_M_deal 157 = .ok (.iload 4, 2) := by decide +kernel
theorem d_M_deal_159 : decode b_M_deal 159 = .ok (.iastore, 1) := by decide +kernel
theorem d_M_deal_160 : decode b_M_deal 160 = .ok (.iconst 0, 1) := by decide +kernel
theorem d_M_deal_161 : decode b_M_deal 161 = .ok (.istore 5, 2) := by decide +kernel
theorem d_M_deal_163 : decode b_M_deal 163 = .ok (.iload 5, 2) := by decide +kernel
theorem d_M_deal_165 : decode b_M_deal 165 = .ok (.iconst 4, 1) := by decide +kernel
theorem d_M_deal_166 : decode b_M_deal 166 = .ok (.if_icmp .ge 39, 3) := by decide +kernel
theorem d_M_deal_169 : decode b_M_deal 169 = .ok (.aload_n 0, 1) := by decide +kernel
theorem d_M_deal_170 : decode b_M_deal 170 = .ok (.getfield 49, 3) := by decide +kernel
theorem d_M_deal_173 : decode b_M_deal 173 = .ok (.iconst 4, 1) := by decide +kernel
theorem d_M_deal_174 : decode b_M_deal 174 = .ok (.iload_n 1, 1) := by decide +kernel
theorem d_M_deal_175 : decode b_M_deal 175 = .ok (.imul, 1) := by decide +kernel
theorem d_M_deal_176 : decode b_M_deal 176 = .ok (.iload 5, 2) := by decide +kernel
theorem d_M_deal_178 : decode b_M_deal 178 = .ok (.iadd, 1) := by decide +kernel
theorem d_M_deal_179 : decode b_M_deal 179 = .ok (.aload_n 0, 1) := by decide +kernel
theorem d_M_deal_180 : decode b_M_deal 180 = .ok (.aload_n 0, 1) := by decide +kernel
theorem d_M_deal_181 : decode b_M_deal 181 = .ok (.getfield 19, 3) := by decide +kernel
theorem d_M_deal_184 : decode b_M_deal 184 = .ok (.aload_n 0, 1) := by decide +kernel
theorem d_M_deal_185 : decode b_M_deal 185 = .ok (.getfield 46, 3) := by decide +kernel
theorem d_M_deal_188 : decode b_M_deal 188 = .ok (.iconst 4, 1) := by decide +kernel
theorem d_M_deal_189 : decode b_M_deal 189 = .ok (.iload_n 1, 1) := by decide +kernel
theorem d_M_deal_190 : decode b_M_deal 190 = .ok (.imul, 1) := by decide +kernel
theorem d_M_deal_191 : decode b_M_deal 191 = .ok (.iload 5, 2) := by decide +kernel
theorem d_M_deal_193 : decode b_M_deal 193 = .ok (.iadd, 1) := by decide +kernel
theorem d_M_deal_194 : decode b_M_deal 194 = .ok (.iaload, 1) := by decide +kernel
theorem d_M_deal_195 : decode b_M_deal 195 = .ok (.invokevirtual 68, 3) := by decide +kernel
theorem d_M_deal_198 : decode b_M_deal 198 = .ok (.iastore, 1) := by decide +kernel
theorem d_M_deal_199 : decode b_M_deal 199 = .ok (.iinc 5 1, 3) := by decide +kernel
theorem d_M_deal_202 : decode b_M_deal 202 = .ok (.goto (-39), 3) := by decide +kernel
theorem d_M_deal_205 : decode b_M_deal 205 = .ok (.aload_n 0, 1) := by decide +kernel
theorem d_M_deal_206 : decode b_M_deal 206 = .ok (.iconst 1, 1) := by decide +kernel
theorem d_M_deal_207 : decode b_M_deal 207 = .ok (.iload_n 1, 1) := by decide +kernel
theorem d_M_deal_208 : decode b_M_deal 208 = .ok (.iconst 0, 1) := by decide +kernel
theorem d_M_deal_209 : decode b_M_deal 209 = .ok (.iconst 0, 1) := by decide +kernel
theorem d_M_deal_210 : decode b_M_deal 210 = .ok (.invokevirtual 99, 3) := by decide +kernel
theorem d_M_deal_213 : decode b_M_deal 213 = .ok (.iconst 1, 1) := by decide +kernel
theorem d_M_deal_214 : decode b_M_deal 214 = .ok (.istore 5, 2) := by decide +kernel
theorem d_M_deal_216 : decode b_M_deal 216 = .ok (.iload 5, 2) := by decide +kernel
theorem d_M_deal_218 : decode b_M_deal 218 = .ok (.bipush 8, 2) := by decide +kernel
theorem d_M_deal_220 : decode b_M_deal 220 = .ok (.if_icmp .ge 28, 3) := by decide +kernel
theorem d_M_deal_223 : decode b_M_deal 223 = .ok (.aload_n 0, 1) := by decide +kernel
theorem d_M_deal_224 : decode b_M_deal 224 = .ok (.getfield 52, 3) := by decide +kernel
theorem d_M_deal_227 : decode b_M_deal 227 = .ok (.bipush 8, 2) := by decide +kernel
theorem d_M_deal_229 : decode b_M_deal 229 = .ok (.iload_n 1, 1) := by decide +kernel
theorem d_M_deal_230 : decode b_M_deal 230 = .ok (.imul, 1) := by decide +kernel
theorem d_M_deal_231 : decode b_M_deal 231 = .ok (.iload 5, 2) := by decide +kernel
theorem d_M_deal_233 : decode b_M_deal 233 = .ok (.iadd, 1) := by decide +kernel
theorem d_M_deal_234 : decode b_M_deal 234 = .ok (.aload_n 0, 1) := by decide +kernel
theorem d_M_deal_235 : decode b_M_deal 235 = .ok (.iload_n 1, 1) := by decide +kernel
theorem d_M_deal_236 : decode b_M_deal 236 = .ok (.iload 5, 2) := by decide +kernel
theorem d_M_deal_238 : decode b_M_deal 238 = .ok (.invokevirtual 103, 3) := by decide +kernel
theorem d_M_deal_241 : decode b_M_deal 241 = .ok (.iastore, 1) := by decide +kernel
theorem d_M_deal_242 : decode b_M_deal 242 = .ok (.iinc 5 1, 3) := by decide +kernel
theorem d_M_deal_245 : decode b_M_deal 245 = .ok (.goto (-29), 3) := by decide +kernel
theorem d_M_deal_248 : decode b_M_deal 248 = .ok (.return_, 1) := by decide +kernel
theorem d_M_put_0 : decode b_M_put 0 = .ok (.aload_n 0, 1) := by decide +kernel
theorem d_M_put_1 : decode b_M_put 1 = .ok (.getfield 64, 3) := by decide +kernel
theorem d_M_put_4 : decode b_M_put 4 = .ok (.bipush 9, 2) := by decide +kernel
theorem d_M_put_6 : decode b_M_put 6 = .ok (.aload_n 0, 1) := by decide +kernel
theorem d_M_put_7 : decode b_M_put 7 = .ok (.getfield 61, 3) := by decide +kernel
theorem d_M_put_10 : decode b_M_put 10 = .ok (.imul, 1) := by decide +kernel
theorem d_M_put_11 : decode b_M_put 11 = .ok (.iload_n 1, 1) := by decide +kernel
theorem d_M_put_12 : decode b_M_put 12 = .ok (.iastore, 1) := by decide +kernel
theorem d_M_put_13 : decode b_M_put 13 = .ok (.aload_n 0, 1) := by decide +kernel
theorem d_M_put_14 : decode b_M_put 14 = .ok (.getfield 64, 3) := by decide +kernel
theorem d_M_put_17 : decode b_M_put 17 = .ok (.bipush 9, 2) := by decide +kernel
theorem d_M_put_19 : decode b_M_put 19 = .ok (.aload_n 0, 1) := by decide +kernel
theorem d_M_put_20 : decode b_M_put 20 = .ok (.getfield 61, 3) := by decide +kernel
theorem d_M_put_23 : decode b_M_put 23 = .ok (.imul, 1) := by decide +kernel
theorem d_M_put_24 : decode b_M_put 24 = .ok (.iconst 1, 1) := by decide +kernel
theorem d_M_put_25 : decode b_M_put 25 = .ok (.iadd, 1) := by decide +kernel
theorem d_M_put_26 : decode b_M_put 26 = .ok (.iload_n 2, 1) := by decide +kernel
theorem d_M_put_27 : decode b_M_put 27 = .ok (.iastore, 1) := by decide +kernel
theorem d_M_put_28 : decode b_M_put 28 = .ok (.aload_n 0, 1) := by decide +kernel
theorem d_M_put_29 : decode b_M_put 29 = .ok (.getfield 64, 3) := by decide +kernel
theorem d_M_put_32 : decode b_M_put 32 = .ok (.bipush 9, 2) := by decide +kernel
theorem d_M_put_34 : decode b_M_put 34 = .ok (.aload_n 0, 1) := by decide +kernel
theorem d_M_put_35 : decode b_M_put 35 = .ok (.getfield 61, 3) := by decide +kernel
theorem d_M_put_38 : decode b_M_put 38 = .ok (.imul, 1) := by decide +kernel
theorem d_M_put_39 : decode b_M_put 39 = .ok (.iconst 2, 1) := by decide +kernel
theorem d_M_put_40 : decode b_M_put 40 = .ok (.iadd, 1) := by decide +kernel
theorem d_M_put_41 : decode b_M_put 41 = .ok (.iload_n 3, 1) := by decide +kernel
theorem d_M_put_42 : decode b_M_put 42 = .ok (.iastore, 1) := by decide +kernel
theorem d_M_put_43 : decode b_M_put 43 = .ok (.aload_n 0, 1) := by decide +kernel
theorem d_M_put_44 : decode b_M_put 44 = .ok (.getfield 64, 3) := by decide +kernel
theorem d_M_put_47 : decode b_M_put 47 = .ok (.bipush 9, 2) := by decide +kernel
theorem d_M_put_49 : decode b_M_put 49 = .ok (.aload_n 0, 1) := by decide +kernel
theorem d_M_put_50 : decode b_M_put 50 = .ok (.getfield 61, 3) := by decide +kernel
theorem d_M_put_53 : decode b_M_put 53 = .ok (.imul, 1) := by decide +kernel
