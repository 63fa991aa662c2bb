theorem d_M_reconstruct_66 : decode b_M_reconstruct 66 = .ok (.getfield 33, 3) := by decide +kernel
theorem d_M_reconstruct_69 : decode b_M_reconstruct 69 = .ok (.iload_n 2, 1) := by decide +kernel
theorem d_M_reconstruct_70 : decode b_M_reconstruct 70 = .ok (.baload, 1) := by decide +kernel
theorem d_M_reconstruct_71 : decode b_M_reconstruct 71 = .ok (.ifCond .eq 8, 3) := by decide +kernel
theorem d_M_reconstruct_74 : decode b_M_reconstruct 74 = .ok (.aload_n 0, 1) := by decide +kernel
theorem d_M_reconstruct_75 : decode b_M_reconstruct 75 = .ok (.iconst 2, 1) := by decide +kernel
theorem d_M_reconstruct_76 : decode b_M_reconstruct 76 = .ok (.putfield 7, 3) := by decide +kernel
theorem d_M_reconstruct_79 : decode b_M_reconstruct 79 = .ok (.iinc 2 1, 3) := by decide +kernel
theorem d_M_reconstruct_82 : decode b_M_reconstruct 82 = .ok (.goto (-34), 3) := by decide +kernel
theorem d_M_reconstruct_85 : decode b_M_reconstruct 85 = .ok (.aload_n 0, 1) := by decide +kernel
theorem d_M_reconstruct_86 : decode b_M_reconstruct 86 = .ok (.getfield 7, 3) := by decide +kernel
theorem d_M_reconstruct_89 : decode b_M_reconstruct 89 = .ok (.ifCond .eq 7, 3) := by decide +kernel
theorem d_M_reconstruct_92 : decode b_M_reconstruct 92 = .ok (.iconst 0, 1) := by decide +kernel
theorem d_M_reconstruct_93 : decode b_M_reconstruct 93 = .ok (.goto 12, 3) := by decide +kernel
theorem d_M_reconstruct_96 : decode b_M_reconstruct 96 = .ok (.aload_n 0, 1) := by decide +kernel
theorem d_M_reconstruct_97 : decode b_M_reconstruct 97 = .ok (.iload_n 1, 1) := by decide +kernel
theorem d_M_reconstruct_98 : decode b_M_reconstruct 98 = .ok (.invokestatic 123, 3) := by decide +kernel
theorem d_M_reconstruct_101 : decode b_M_reconstruct 101 = .ok (.iconst 0, 1) := by decide +kernel
theorem d_M_reconstruct_102 : decode b_M_reconstruct 102 = .ok (.invokevirtual 126, 3) := by decide +kernel
theorem d_M_reconstruct_105 : decode b_M_reconstruct 105 = .ok (.ireturn, 1) := by decide +kernel
theorem d_M_post_0 : decode b_M_post 0 = .ok (.aload_n 0, 1) := by decide +kernel
theorem d_M_post_1 : decode b_M_post 1 = .ok (.aload_n 0, 1) := by decide +kernel
theorem d_M_post_2 : decode b_M_post 2 = .ok (.getfield 22, 3) := by decide +kernel
theorem d_M_post_5 : decode b_M_post 5 = .ok (.ifCond .ne 7, 3) := by decide +kernel
theorem d_M_post_8 : decode b_M_post 8 = .ok (.iconst 1, 1) := by decide +kernel
theorem d_M_post_9 : decode b_M_post 9 = .ok (.goto 34, 3) := by decide +kernel
theorem d_M_post_12 : decode b_M_post 12 = .ok (.iload_n 1, 1) := by decide +kernel
theorem d_M_post_13 : decode b_M_post 13 = .ok (.ifCond .lt 11, 3) := by decide +kernel
theorem d_M_post_16 : decode b_M_post 16 = .ok (.iload_n 1, 1) := by decide +kernel
theorem d_M_post_17 : decode b_M_post 17 = .ok (.aload_n 0, 1) := by decide +kernel
theorem d_M_post_18 : decode b_M_post 18 = .ok (.getfield 61, 3) := by decide +kernel
theorem d_M_post_21 : decode b_M_post 21 = .ok (.if_icmp .lt 7, 3) := by decide +kernel
theorem d_M_post_24 : decode b_M_post 24 = .ok (.iconst 2, 1) := by decide +kernel
theorem d_M_post_25 : decode b_M_post 25 = .ok (.goto 18, 3) := by decide +kernel
theorem d_M_post_28 : decode b_M_post 28 = .ok (.iload_n 2, 1) := by decide +kernel
theorem d_M_post_29 : decode b_M_post 29 = .ok (.ifCond .lt 9, 3) := by decide +kernel
theorem d_M_post_32 : decode b_M_post 32 = .ok (.iload_n 2, 1) := by decide +kernel
theorem d_M_post_33 : decode b_M_post 33 = .ok (.bipush 8, 2) := by decide +kernel
theorem d_M_post_35 : decode b_M_post 35 = .ok (.if_icmp .le 7, 3) := by decide +kernel
theorem d_M_post_38 : decode b_M_post 38 = .ok (.iconst 3, 1) := by decide +kernel
theorem d_M_post_39 : decode b_M_post 39 = .ok (.goto 4, 3) := by decide +kernel
theorem d_M_post_42 : decode b_M_post 42 = .ok (.iconst 0, 1) := by decide +kernel
theorem d_M_post_43 : decode b_M_post 43 = .ok (.putfield 7, 3) := by decide +kernel
theorem d_M_post_46 : decode b_M_post 46 = .ok (.aload_n 0, 1) := by decide +kernel
theorem d_M_post_47 : decode b_M_post 47 = .ok (.getfield 7, 3) := by decide +kernel
theorem d_M_post_50 : decode b_M_post 50 = .ok (.ifCond .eq 7, 3) := by decide +kernel
theorem d_M_post_53 : decode b_M_post 53 = .ok (.iconst 0, 1) := by decide +kernel
theorem d_M_post_54 : decode b_M_post 54 = .ok (.goto 14, 3) := by decide +kernel
theorem d_M_post_57 : decode b_M_post 57 = .ok (.aload_n 0, 1) := by decide +kernel
theorem d_M_post_58 : decode b_M_post 58 = .ok (.getfield 64, 3) := by decide +kernel
theorem d_M_post_61 : decode b_M_post 61 = .ok (.bipush 9, 2) := by decide +kernel
theorem d_M_post_63 : decode b_M_post 63 = .ok (.iload_n 1, 1) := by decide +kernel
theorem d_M_post_64 : decode b_M_post 64 = .ok (.imul, 1) := by decide +kernel
theorem d_M_post_65 : decode b_M_post 65 = .ok (.iload_n 2, 1) := by decide +kernel
theorem d_M_post_66 : decode b_M_post 66 = .ok (.iadd, 1) := by decide +kernel
theorem d_M_post_67 : decode b_M_post 67 = .ok (.iaload, 1) := by decide +kernel
theorem d_M_post_68 : decode b_M_post 68 = .ok (.ireturn, 1) := by decide +kernel
theorem d_M_about_0 : decode b_M_about 0 = .ok (.aload_n 0, 1) := by decide +kernel
theorem d_M_about_1 : decode b_M_about 1 = .ok (.iload_n 1, 1) := by decide +kernel
theorem d_M_about_2 : decode b_M_about 2 = .ok (.ifCond .lt 9, 3) := by decide +kernel
theorem d_M_about_5 : decode b_M_about 5 = .ok (.iload_n 1, 1) := by decide +kernel
theorem d_M_about_6 : decode b_M_about 6 = .ok (.bipush 6, 2) := by decide +kernel
theorem d_M_about_8 : decode b_M_about 8 = .ok (.if_icmp .le 7, 3) := by decide +kernel
theorem d_M_about_11 : decode b_M_about 11 = .ok (.iconst 1, 1) := by decide +kernel
theorem d_M_about_12 : decode b_M_about 12 = .ok (.goto 4, 3) := by decide +kernel
theorem d_M_about_15 : decode b_M_about 15 = .ok (.iconst 0, 1) := by decide +kernel
theorem d_M_about_16 : decode b_M_about 16 = .ok (.putfield 7, 3) := by decide +kernel
theorem d_M_about_19 : decode b_M_about 19 = .ok (.aload_n 0, 1) := by decide +kernel
theorem d_M_about_20 : decode b_M_about 20 = .ok (.getfield 7, 3) := by decide +kernel
theorem d_M_about_23 : decode b_M_about 23 = .ok (.ifCond .ne 10, 3) := by decide +kernel
theorem d_M_about_26 : decode b_M_about 26 = .ok (.aload_n 0, 1) := by decide +kernel
theorem d_M_about_27 : decode b_M_about 27 = .ok (.getfield 22, 3) := by decide +kernel
theorem d_M_about_30 : decode b_M_about 30 = .ok (.ifCond .ne 5, 3) := by decide +kernel
theorem d_M_about_33 : decode b_M_about 33 = .ok (.iconst 0, 1) := by decide +kernel
theorem d_M_about_34 : decode b_M_about 34 = .ok (.ireturn, 1) := by decide +kernel
theorem d_M_about_35 : decode b_M_about 35 = .ok (.iload_n 1, 1) := by decide +kernel
theorem d_M_about_36 : decode b_M_about 36 = .ok (.ifCond .ne 8, 3) := by decide +kernel
theorem d_M_about_39 : decode b_M_about 39 = .ok (.aload_n 0, 1) := by decide +kernel
theorem d_M_about_40 : decode b_M_about 40 = .ok (.getfield 26, 3) := by decide +kernel
theorem d_M_about_43 : decode b_M_about 43 = .ok (.ireturn, 1) := by decide +kernel
theorem d_M_about_44 : decode b_M_about 44 = .ok (.iload_n 1, 1) := by decide +kernel
theorem d_M_about_45 : decode b_M_about 45 = .ok (.iconst 1, 1) := by decide +kernel
theorem d_M_about_46 : decode b_M_about 46 = .ok (.if_icmp .ne 8, 3) := by decide +kernel
theorem d_M_about_49 : decode b_M_about 49 = .ok (.aload_n 0, 1) := by decide +kernel
theorem d_M_about_50 : decode b_M_about 50 = .ok (.getfield 61, 3) := by decide +kernel
theorem d_M_about_53 : decode b_M_about 53 = .ok (.ireturn, 1) := by decide +kernel
theorem d_M_about_54 : decode b_M_about 54 = .ok (.iconst 0, 1) := by decide +kernel
theorem d_M_about_55 : decode b_M_about 55 = .ok (.istore_n 2, 1) := by decide +kernel
theorem d_M_about_56 : decode b_M_about 56 = .ok (.iload_n 1, 1) := by decide +kernel
theorem d_M_about_57 : decode b_M_about 57 = .ok (.iconst 4, 1) := by decide +kernel
theorem d_M_about_58 : decode b_M_about 58 = .ok (.if_icmp .ge 53, 3) := by decide +kernel
theorem d_M_about_61 : decode b_M_about 61 = .ok (.iconst 0, 1) := by decide +kernel
theorem d_M_about_62 : decode b_M_about 62 = .ok (.istore_n 3, 1) := by decide +kernel
theorem d_M_about_63 : decode b_M_about 63 = .ok (.iload_n 3, 1) := by decide +kernel
theorem d_M_about_64 : decode b_M_about 64 = .ok (.bipush 64, 2) := by decide +kernel
theorem d_M_about_66 : decode b_M_about 66 = .ok (.if_icmp .ge 43, 3) := by decide +kernel
theorem d_M_about_69 : decode b_M_about 69 = .ok (.iload_n 2, 1) := by decide +kernel
theorem d_M_about_70 : decode b_M_about 70 = .ok (.iload_n 1, 1) := by decide +kernel
theorem d_M_about_71 : decode b_M_about 71 = .ok (.iconst 2, 1) := by decide +kernel
theorem d_M_about_72 : decode b_M_about 72 = .ok (.if_icmp .ne 15, 3) := by decide +kernel
theorem d_M_about_75 : decode b_M_about 75 = .ok (.aload_n 0, 1) := by decide +kernel
theorem d_M_about_76 : decode b_M_about 76 = .ok (.getfield 55, 3) := by decide +kernel
theorem d_M_about_79 : decode b_M_about 79 = .ok (.iload_n 3, 1) := by decide +kernel
theorem d_M_about_80 : decode b_M_about 80 = .ok (.baload, 1) := by decide +kernel
theorem d_M_about_81 : decode b_M_about 81 = .ok (.ifCond .eq 19, 3) := by decide +kernel
theorem d_M_about_84 : decode b_M_about 84 = .ok (.goto 12, 3) := by decide +kernel
theorem d_M_about_87 : decode b_M_about 87 = .ok (.aload_n 0, 1) := by decide +kernel
theorem d_M_about_88 : decode b_M_about 88 = .ok (.getfield 58, 3) := by decide +kernel
theorem d_M_about_91 : decode b_M_about 91 = .ok (.iload_n 3, 1) := by decide +kernel
theorem d_M_about_92 : decode b_M_about 92 = .ok (.baload, 1) := by decide +kernel
theorem d_M_about_93 : decode b_M_about 93 = .ok (.ifCond .eq 7, 3) := by decide +kernel
theorem d_M_about_96 : decode b_M_about 96 = .ok (.iconst 1, 1) := by decide +kernel
theorem d_M_about_97 : decode b_M_about 97 = .ok (.goto 4, 3) := by decide +kernel
theorem d_M_about_100 : decode b_M_about 100 = .ok (.iconst 0, 1) := by decide +kernel
theorem d_M_about_101 : decode b_M_about 101 = .ok (.iadd, 1) := by decide +kernel
theorem d_M_about_102 : decode b_M_about 102 = .ok (.istore_n 2, 1) := by decide +kernel
theorem d_M_about_103 : decode b_M_about 103 = .ok (.iinc 3 1, 3) := by decide +kernel
theorem d_M_about_106 : decode b_M_about 106 = .ok (.goto (-43), 3) := by decide +kernel
theorem d_M_about_109 : decode b_M_about 109 = .ok (.iload_n 2, 1) := by decide +kernel
theorem d_M_about_110 : decode b_M_about 110 = .ok (.ireturn, 1) := by decide +kernel
theorem d_M_about_111 : decode b_M_about 111 = .ok (.iconst 1, 1) := by decide +kernel
theorem d_M_about_112 : decode b_M_about 112 = .ok (.istore_n 3, 1) := by decide +kernel
theorem d_M_about_113 : decode b_M_about 113 = .ok (.iload_n 3, 1) := by decide +kernel
theorem d_M_about_114 : decode b_M_about 114 = .ok (.bipush 8, 2) := by decide +kernel
theorem d_M_about_116 : decode b_M_about 116 = .ok (.if_icmp .ge 65, 3) := by decide +kernel
theorem d_M_about_119 : decode b_M_about 119 = .ok (.iload_n 1, 1) := by decide +kernel
theorem d_M_about_120 : decode b_M_about 120 = .ok (.iconst 4, 1) := by decide +kernel
theorem d_M_about_121 : decode b_M_about 121 = .ok (.if_icmp .ne 11, 3) := by decide +kernel
theorem d_M_about_124 : decode b_M_about 124 = .ok (.aload_n 0, 1) := by decide +kernel
theorem d_M_about_125 : decode b_M_about 125 = .ok (.iload_n 3, 1) := by decide +kernel
theorem d_M_about_126 : decode b_M_about 126 = .ok (.invokevirtual 110, 3) := by decide +kernel
theorem d_M_about_129 : decode b_M_about 129 = .ok (.goto 31, 3) := by decide +kernel
theorem d_M_about_132 : decode b_M_about 132 = .ok (.iload_n 1, 1) := by decide +kernel
theorem d_M_about_133 : decode b_M_about 133 = .ok (.iconst 5, 1) := by decide +kernel
theorem d_M_about_134 : decode b_M_about 134 = .ok (.if_icmp .ne 12, 3) := by decide +kernel
theorem d_M_about_137 : decode b_M_about 137 = .ok (.aload_n 0, 1) := by decide +kernel
theorem d_M_about_138 : decode b_M_about 138 = .ok (.getfield 33, 3) := by decide +kernel
theorem d_M_about_141 : decode b_M_about 141 = .ok (.iload_n 3, 1) := by decide +kernel
theorem d_M_about_142 : decode b_M_about 142 = .ok (.baload, 1) := by decide +kernel
theorem d_M_about_143 : decode b_M_about 143 = .ok (.goto 17, 3) := by decide +kernel
theorem d_M_about_146 : decode b_M_about 146 = .ok (.aload_n 0, 1) := by decide +kernel
theorem d_M_about_147 : decode b_M_about 147 = .ok (.getfield 40, 3) := by decide +kernel
theorem d_M_about_150 : decode b_M_about 150 = .ok (.iload_n 3, 1) := by decide +kernel
theorem d_M_about_151 : decode b_M_about 151 = .ok (.iaload, 1) := by decide +kernel
theorem d_M_about_152 : decode b_M_about 152 = .ok (.ifCond .le 7, 3) := by decide +kernel
theorem d_M_about_155 : decode b_M_about 155 = .ok (.iconst 1, 1) := by decide +kernel
theorem d_M_about_156 : decode b_M_about 156 = .ok (.goto 4, 3) := by decide +kernel
theorem d_M_about_159 : decode b_M_about 159 = .ok (.iconst 0, 1) := by decide +kernel
theorem d_M_about_160 : decode b_M_about 160 = .ok (.istore 4, 2) := by decide +kernel
theorem d_M_about_162 : decode b_M_about 162 = .ok (.iload 4, 2) := by decide +kernel
theorem d_M_about_164 : decode b_M_about 164 = .ok (.ifCond .eq 11, 3) := by decide +kernel
theorem d_M_about_167 : decode b_M_about 167 = .ok (.iload_n 2, 1) := by decide +kernel
theorem d_M_about_168 : decode b_M_about 168 = .ok (.iconst 1, 1) := by decide +kernel
theorem d_M_about_169 : decode b_M_about 169 = .ok (.iload_n 3, 1) := by decide +kernel
theorem d_M_about_170 : decode b_M_about 170 = .ok (.iconst 1, 1) := by decide +kernel
theorem d_M_about_171 : decode b_M_about 171 = .ok (.isub, 1) := by decide +kernel
theorem d_M_about_172 : decode b_M_about 172 = .ok (.ishl, 1) := by decide +kernel
theorem d_M_about_173 : decode b_M_about 173 = .ok (.ior, 1) := by decide +kernel
theorem d_M_about_174 : decode b_M_about 174 = .ok (.istore_n 2, 1) := by decide +kernel
theorem d_M_about_175 : decode b_M_about 175 = .ok (.iinc 3 1, 3) := by decide +kernel
theorem d_M_about_178 : decode b_M_about 178 = .ok (.goto (-65), 3) := by decide +kernel
theorem d_M_about_181 : decode b_M_about 181 = .ok (.iload_n 2, 1) := by decide +kernel
theorem d_M_about_182 : decode b_M_about 182 = .ok (.ireturn, 1) := by decide +kernel
theorem d_L_law_0 : decode code 0 = .ok (.new 8, 3) := by decide +kernel
theorem d_L_law_3 : decode code 3 = .ok (.dup, 1) := by decide +kernel
theorem d_L_law_4 : decode code 4 = .ok (.invokespecial 76, 3) := by decide +kernel
theorem d_L_law_7 : decode code 7 = .ok (.astore_n 1, 1) := by decide +kernel
theorem d_L_law_8 : decode code 8 = .ok (.new 77, 3) := by decide +kernel
theorem d_L_law_11 : decode code 11 = .ok (.dup, 1) := by decide +kernel
theorem d_L_law_12 : decode code 12 = .ok (.invokespecial 79, 3) := by decide +kernel
theorem d_L_law_15 : decode code 15 = .ok (.astore_n 2, 1) := by decide +kernel
theorem d_L_law_16 : decode code 16 = .ok (.iconst 1, 1) := by decide +kernel
theorem d_L_law_17 : decode code 17 = .ok (.newarray .long, 2) := by decide +kernel
theorem d_L_law_19 : decode code 19 = .ok (.astore_n 3, 1) := by decide +kernel
theorem d_L_law_20 : decode code 20 = .ok (.iconst 0, 1) := by decide +kernel
theorem d_L_law_21 : decode code 21 = .ok (.istore 4, 2) := by decide +kernel
theorem d_L_law_23 : decode code 23 = .ok (.iload 4, 2) := by decide +kernel
theorem d_L_law_25 : decode code 25 = .ok (.aload_n 0, 1) := by decide +kernel
theorem d_L_law_26 : decode code 26 = .ok (.arraylength, 1) := by decide +kernel
theorem d_L_law_27 : decode code 27 = .ok (.iconst 5, 1) := by decide +kernel
theorem d_L_law_28 : decode code 28 = .ok (.isub, 1) := by decide +kernel
theorem d_L_law_29 : decode code 29 = .ok (.if_icmp .gt 1023, 3) := by decide +kernel
theorem d_L_law_32 : decode code 32 = .ok (.aload_n 0, 1) := by decide +kernel
theorem d_L_law_33 : decode code 33 = .ok (.iload 4, 2) := by decide +kernel
theorem d_L_law_35 : decode code 35 = .ok (.iaload, 1) := by decide +kernel
theorem d_L_law_36 : decode code 36 = .ok (.bipush 15, 2) := by decide +kernel
theorem d_L_law_38 : decode code 38 = .ok (.iand, 1) := by decide +kernel
theorem d_L_law_39 : decode code 39 = .ok (.tableswitch 1007 0 15 #[77, 137, 209, 257, 329, 385, 460, 504, 540, 596, 652, 715, 771, 827, 883, 951], 77) := by decide +kernel
theorem d_L_law_116 : decode code 116 = .ok (.aload_n 1, 1) := by decide +kernel
theorem d_L_law_117 : decode code 117 = .ok (.aload_n 0, 1) := by decide +kernel
theorem d_L_law_118 : decode code 118 = .ok (.iload 4, 2) := by decide +kernel
theorem d_L_law_120 : decode code 120 = .ok (.iconst 1, 1) := by decide +kernel
theorem d_L_law_121 : decode code 121 = .ok (.iadd, 1) := by decide +kernel
theorem d_L_law_122 : decode code 122 = .ok (.iaload, 1) := by decide +kernel
theorem d_L_law_123 : decode code 123 = .ok (.aload_n 0, 1) := by decide +kernel
theorem d_L_law_124 : decode code 124 = .ok (.iload 4, 2) := by decide +kernel
theorem d_L_law_126 : decode code 126 = .ok (.iconst 2, 1) := by decide +kernel
theorem d_L_law_127 : decode code 127 = .ok (.iadd, 1) := by decide +kernel
theorem d_L_law_128 : decode code 128 = .ok (.iaload, 1) := by decide +kernel
theorem d_L_law_129 : decode code 129 = .ok (.aload_n 0, 1) := by decide +kernel
theorem d_L_law_130 : decode code 130 = .ok (.iload 4, 2) := by decide +kernel
theorem d_L_law_132 : decode code 132 = .ok (.iconst 3, 1) := by decide +kernel
theorem d_L_law_133 : decode code 133 = .ok (.iadd, 1) := by decide +kernel
theorem d_L_law_134 : decode code 134 = .ok (.iaload, 1) := by decide +kernel
theorem d_L_law_135 : decode code 135 = .ok (.invokestatic 80, 3) := by decide +kernel
theorem d_L_law_138 : decode code 138 = .ok (.istore 5, 2) := by decide +kernel
theorem d_L_law_140 : decode code 140 = .ok (.aload_n 2, 1) := by decide +kernel
theorem d_L_law_141 : decode code 141 = .ok (.aload_n 0, 1) := by decide +kernel
theorem d_L_law_142 : decode code 142 = .ok (.iload 4, 2) := by decide +kernel
theorem d_L_law_144 : decode code 144 = .ok (.iconst 1, 1) := by decide +kernel
theorem d_L_law_145 : decode code 145 = .ok (.iadd, 1) := by decide +kernel
theorem d_L_law_146 : decode code 146 = .ok (.iaload, 1) := by decide +kernel
theorem d_L_law_147 : decode code 147 = .ok (.aload_n 0, 1) := by decide +kernel
theorem d_L_law_148 : decode code 148 = .ok (.iload 4, 2) := by decide +kernel
theorem d_L_law_150 : decode code 150 = .ok (.iconst 2, 1) := by decide +kernel
theorem d_L_law_151 : decode code 151 = .ok (.iadd, 1) := by decide +kernel
theorem d_L_law_152 : decode code 152 = .ok (.iaload, 1) := by decide +kernel
theorem d_L_law_153 : decode code 153 = .ok (.aload_n 0, 1) := by decide +kernel
theorem d_L_law_154 : decode code 154 = .ok (.iload 4, 2) := by decide +kernel
theorem d_L_law_156 : decode code 156 = .ok (.iconst 3, 1) := by decide +kernel
theorem d_L_law_157 : decode code 157 = .ok (.iadd, 1) := by decide +kernel
theorem d_L_law_158 : decode code 158 = .ok (.iaload, 1) := by decide +kernel
theorem d_L_law_159 : decode code 159 = .ok (.invokevirtual 85, 3) := by decide +kernel
theorem d_L_law_162 : decode code 162 = .ok (.aload_n 2, 1) := by decide +kernel
theorem d_L_law_163 : decode code 163 = .ok (.invokevirtual 86, 3) := by decide +kernel
theorem d_L_law_166 : decode code 166 = .ok (.iload 5, 2) := by decide +kernel
theorem d_L_law_168 : decode code 168 = .ok (.if_icmp .eq 5, 3) := by decide +kernel
theorem d_L_law_171 : decode code 171 = .ok (.iconst 0, 1) := by decide +kernel
theorem d_L_law_172 : decode code 172 = .ok (.ireturn, 1) := by decide +kernel
theorem d_L_law_173 : decode code 173 = .ok (.goto 873, 3) := by decide +kernel
theorem d_L_law_176 : decode code 176 = .ok (.aload_n 1, 1) := by decide +kernel
theorem d_L_law_177 : decode code 177 = .ok (.aload_n 0, 1) := by decide +kernel
theorem d_L_law_178 : decode code 178 = .ok (.iload 4, 2) := by decide +kernel
theorem d_L_law_180 : decode code 180 = .ok (.iconst 1, 1) := by decide +kernel
theorem d_L_law_181 : decode code 181 = .ok (.iadd, 1) := by decide +kernel
theorem d_L_law_182 : decode code 182 = .ok (.iaload, 1) := by decide +kernel
theorem d_L_law_183 : decode code 183 = .ok (.aload_n 0, 1) := by decide +kernel
theorem d_L_law_184 : decode code 184 = .ok (.iload 4, 2) := by decide +kernel
theorem d_L_law_186 : decode code 186 = .ok (.iconst 2, 1) := by decide +kernel
theorem d_L_law_187 : decode code 187 = .ok (.iadd, 1) := by decide +kernel
theorem d_L_law_188 : decode code 188 = .ok (.iaload, 1) := by decide +kernel
theorem d_L_law_189 : decode code 189 = .ok (.aload_n 0, 1) := by decide +kernel
theorem d_L_law_190 : decode code 190 = .ok (.iload 4, 2) := by decide +kernel
theorem d_L_law_192 : decode code 192 = .ok (.iconst 3, 1) := by decide +kernel
theorem d_L_law_193 : decode code 193 = .ok (.iadd, 1) := by decide +kernel
theorem d_L_law_194 : decode code 194 = .ok (.iaload, 1) := by decide +kernel
theorem d_L_law_195 : decode code 195 = .ok (.aload_n 0, 1) := by decide +kernel
theorem d_L_law_196 : decode code 196 = .ok (.iload 4, 2) := by decide +kernel
theorem d_L_law_198 : decode code 198 = .ok (.iconst 4, 1) := by decide +kernel
theorem d_L_law_199 : decode code 199 = .ok (.iadd, 1) := by decide +kernel
theorem d_L_law_200 : decode code 200 = .ok (.iaload, 1) := by decide +kernel
theorem d_L_law_201 : decode code 201 = .ok (.invokestatic 89, 3) := by decide +kernel
theorem d_L_law_204 : decode code 204 = .ok (.istore 5, 2) := by decide +kernel
theorem d_L_law_206 : decode code 206 = .ok (.aload_n 2, 1) := by decide +kernel
theorem d_L_law_207 : decode code 207 = .ok (.aload_n 0, 1) := by decide +kernel
theorem d_L_law_208 : decode code 208 = .ok (.iload 4, 2) := by decide +kernel
theorem d_L_law_210 : decode code 210 = .ok (.iconst 1, 1) := by decide +kernel
theorem d_L_law_211 : decode code 211 = .ok (.iadd, 1) := by decide +kernel
theorem d_L_law_212 : decode code 212 = .ok (.iaload, 1) := by decide +kernel
theorem d_L_law_213 : decode code 213 = .ok (.aload_n 0, 1) := by decide +kernel
theorem d_L_law_214 : decode code 214 = .ok (.iload 4, 2) := by decide +kernel
theorem d_L_law_216 : decode code 216 = .ok (.iconst 2, 1) := by decide +kernel
theorem d_L_law_217 : decode code 217 = .ok (.iadd, 1) := by decide +kernel
theorem d_L_law_218 : decode code 218 = .ok (.iaload, 1) := by decide +kernel
theorem d_L_law_219 : decode code 219 = .ok (.aload_n 0, 1) := by decide +kernel
theorem d_L_law_220 : decode code 220 = .ok (.iload 4, 2) := by decide +kernel
theorem d_L_law_222 : decode code 222 = .ok (.iconst 3, 1) := by decide +kernel
theorem d_L_law_223 : decode code 223 = .ok (.iadd, 1) := by decide +kernel
theorem d_L_law_224 : decode code 224 = .ok (.iaload, 1) := by decide +kernel
theorem d_L_law_225 : decode code 225 = .ok (.aload_n 0, 1) := by decide +kernel
theorem d_L_law_226 : decode code 226 = .ok (.iload 4, 2) := by decide +kernel
theorem d_L_law_228 : decode code 228 = .ok (.iconst 4, 1) := by decide +kernel
theorem d_L_law_229 : decode code 229 = .ok (.iadd, 1) := by decide +kernel
theorem d_L_law_230 : decode code 230 = .ok (.iaload, 1) := by decide +kernel
theorem d_L_law_231 : decode code 231 = .ok (.invokevirtual 92, 3) := by decide +kernel
theorem d_L_law_234 : decode code 234 = .ok (.aload_n 2, 1) := by decide +kernel
theorem d_L_law_235 : decode code 235 = .ok (.invokevirtual 86, 3) := by decide +kernel
theorem d_L_law_238 : decode code 238 = .ok (.iload 5, 2) := by decide +kernel
theorem d_L_law_240 : decode code 240 = .ok (.if_icmp .eq 5, 3) := by decide +kernel
theorem d_L_law_243 : decode code 243 = .ok (.iconst 0, 1) := by decide +kernel
theorem d_L_law_244 : decode code 244 = .ok (.ireturn, 1) := by decide +kernel
theorem d_L_law_245 : decode code 245 = .ok (.goto 801, 3) := by decide +kernel
theorem d_L_law_248 : decode code 248 = .ok (.aload_n 1, 1) := by decide +kernel
theorem d_L_law_249 : decode code 249 = .ok (.aload_n 0, 1) := by decide +kernel
theorem d_L_law_250 : decode code 250 = .ok (.iload 4, 2) := by decide +kernel
theorem d_L_law_252 : decode code 252 = .ok (.iconst 1, 1) := by decide +kernel
theorem d_L_law_253 : decode code 253 = .ok (.iadd, 1) := by decide +kernel
theorem d_L_law_254 : decode code 254 = .ok (.iaload, 1) := by decide +kernel
theorem d_L_law_255 : decode code 255 = .ok (.aload_n 0, 1) := by decide +kernel
theorem d_L_law_256 : decode code 256 = .ok (.iload 4, 2) := by decide +kernel
theorem d_L_law_258 : decode code 258 = .ok (.iconst 2, 1) := by decide +kernel
theorem d_L_law_259 : decode code 259 = .ok (.iadd, 1) := by decide +kernel
theorem d_L_law_260 : decode code 260 = .ok (.iaload, 1) := by decide +kernel
theorem d_L_law_261 : decode code 261 = .ok (.invokestatic 93, 3) := by decide +kernel
theorem d_L_law_264 : decode code 264 = .ok (.istore 5, 2) := by decide +kernel
theorem d_L_law_266 : decode code 266 = .ok (.aload_n 2, 1) := by decide +kernel
theorem d_L_law_267 : decode code 267 = .ok (.aload_n 0, 1) := by decide +kernel
theorem d_L_law_268 : decode code 268 = .ok (.iload 4, 2) := by decide +kernel
theorem d_L_law_270 : decode code 270 = .ok (.iconst 1, 1) := by decide +kernel
theorem d_L_law_271 : decode code 271 = .ok (.iadd, 1) := by decide +kernel
theorem d_L_law_272 : decode code 272 = .ok (.iaload, 1) := by decide +kernel
theorem d_L_law_273 : decode code 273 = .ok (.aload_n 0, 1) := by decide +kernel
theorem d_L_law_274 : decode code 274 = .ok (.iload 4, 2) := by decide +kernel
theorem d_L_law_276 : decode code 276 = .ok (.iconst 2, 1) := by decide +kernel
theorem d_L_law_277 : decode code 277 = .ok (.iadd, 1) := by decide +kernel
theorem d_L_law_278 : decode code 278 = .ok (.iaload, 1) := by decide +kernel
theorem d_L_law_279 : decode code 279 = .ok (.invokevirtual 96, 3) := by decide +kernel
theorem d_L_law_282 : decode code 282 = .ok (.aload_n 2, 1) := by decide +kernel
theorem d_L_law_283 : decode code 283 = .ok (.invokevirtual 86, 3) := by decide +kernel
theorem d_L_law_286 : decode code 286 = .ok (.iload 5, 2) := by decide +kernel
theorem d_L_law_288 : decode code 288 = .ok (.if_icmp .eq 5, 3) := by decide +kernel
theorem d_L_law_291 : decode code 291 = .ok (.iconst 0, 1) := by decide +kernel
theorem d_L_law_292 : decode code 292 = .ok (.ireturn, 1) := by decide +kernel
theorem d_L_law_293 : decode code 293 = .ok (.goto 753, 3) := by decide +kernel
theorem d_L_law_296 : decode code 296 = .ok (.aload_n 1, 1) := by decide +kernel
theorem d_L_law_297 : decode code 297 = .ok (.aload_n 0, 1) := by decide +kernel
theorem d_L_law_298 : decode code 298 = .ok (.iload 4, 2) := by decide +kernel
theorem d_L_law_300 : decode code 300 = .ok (.iconst 1, 1) := by decide +kernel
theorem d_L_law_301 : decode code 301 = .ok (.iadd, 1) := by decide +kernel
theorem d_L_law_302 : decode code 302 = .ok (.iaload, 1) := by decide +kernel
theorem d_L_law_303 : decode code 303 = .ok (.aload_n 0, 1) := by decide +kernel
theorem d_L_law_304 : decode code 304 = .ok (.iload 4, 2) := by decide +kernel
theorem d_L_law_306 : decode code 306 = .ok (.iconst 2, 1) := by decide +kernel
theorem d_L_law_307 : decode code 307 = .ok (.iadd, 1) := by decide +kernel
theorem d_L_law_308 : decode code 308 = .ok (.iaload, 1) := by decide +kernel
theorem d_L_law_309 : decode code 309 = .ok (.aload_n 0, 1) := by decide +kernel
theorem d_L_law_310 : decode code 310 = .ok (.iload 4, 2) := by decide +kernel
theorem d_L_law_312 : decode code 312 = .ok (.iconst 3, 1) := by decide +kernel
theorem d_L_law_313 : decode code 313 = .ok (.iadd, 1) := by decide +kernel
theorem d_L_law_314 : decode code 314 = .ok (.iaload, 1) := by decide +kernel
theorem d_L_law_315 : decode code 315 = .ok (.aload_n 0, 1) := by decide +kernel
theorem d_L_law_316 : decode code 316 = .ok (.iload 4, 2) := by decide +kernel
theorem d_L_law_318 : decode code 318 = .ok (.iconst 4, 1) := by decide +kernel
theorem d_L_law_319 : decode code 319 = .ok (.iadd, 1) := by decide +kernel
theorem d_L_law_320 : decode code 320 = .ok (.iaload, 1) := by decide +kernel
theorem d_L_law_321 : decode code 321 = .ok (.invokestatic 97, 3) := by decide +kernel
theorem d_L_law_324 : decode code 324 = .ok (.istore 5, 2) := by decide +kernel
theorem d_L_law_326 : decode code 326 = .ok (.aload_n 2, 1) := by decide +kernel
theorem d_L_law_327 : decode code 327 = .ok (.aload_n 0, 1) := by decide +kernel
theorem d_L_law_328 : decode code 328 = .ok (.iload 4, 2) := by decide +kernel
theorem d_L_law_330 : decode code 330 = .ok (.iconst 1, 1) := by decide +kernel
theorem d_L_law_331 : decode code 331 = .ok (.iadd, 1) := by decide +kernel
theorem d_L_law_332 : decode code 332 = .ok (.iaload, 1) := by decide +kernel
theorem d_L_law_333 : decode code 333 = .ok (.aload_n 0, 1) := by decide +kernel
theorem d_L_law_334 : decode code 334 = .ok (.iload 4, 2) := by decide +kernel
theorem d_L_law_336 : decode code 336 = .ok (.iconst 2, 1) := by decide +kernel
theorem d_L_law_337 : decode code 337 = .ok (.iadd, 1) := by decide +kernel
theorem d_L_law_338 : decode code 338 = .ok (.iaload, 1) := by decide +kernel
theorem d_L_law_339 : decode code 339 = .ok (.aload_n 0, 1) := by decide +kernel
theorem d_L_law_340 : decode code 340 = .ok (.iload 4, 2) := by decide +kernel
theorem d_L_law_342 : decode code 342 = .ok (.iconst 3, 1) := by decide +kernel
theorem d_L_law_343 : decode code 343 = .ok (.iadd, 1) := by decide +kernel
theorem d_L_law_344 : decode code 344 = .ok (.iaload, 1) := by decide +kernel
theorem d_L_law_345 : decode code 345 = .ok (.aload_n 0, 1) := by decide +kernel
theorem d_L_law_346 : decode code 346 = .ok (.iload 4, 2) := by decide +kernel
theorem d_L_law_348 : decode code 348 = .ok (.iconst 4, 1) := by decide +kernel
theorem d_L_law_349 : decode code 349 = .ok (.iadd, 1) := by decide +kernel
theorem d_L_law_350 : decode code 350 = .ok (.iaload, 1) := by decide +kernel
theorem d_L_law_351 : decode code 351 = .ok (.invokevirtual 99, 3) := by decide +kernel
theorem d_L_law_354 : decode code 354 = .ok (.aload_n 2, 1) := by decide +kernel
theorem d_L_law_355 : decode code 355 = .ok (.invokevirtual 86, 3) := by decide +kernel
theorem d_L_law_358 : decode code 358 = .ok (.iload 5, 2) := by decide +kernel
theorem d_L_law_360 : decode code 360 = .ok (.if_icmp .eq 5, 3) := by decide +kernel
theorem d_L_law_363 : decode code 363 = .ok (.iconst 0, 1) := by decide +kernel
theorem d_L_law_364 : decode code 364 = .ok (.ireturn, 1) := by decide +kernel
theorem d_L_law_365 : decode code 365 = .ok (.goto 681, 3) := by decide +kernel
theorem d_L_law_368 : decode code 368 = .ok (.aload_n 1, 1) := by decide +kernel
theorem d_L_law_369 : decode code 369 = .ok (.aload_n 0, 1) := by decide +kernel
theorem d_L_law_370 : decode code 370 = .ok (.iload 4, 2) := by decide +kernel
theorem d_L_law_372 : decode code 372 = .ok (.iconst 1, 1) := by decide +kernel
theorem d_L_law_373 : decode code 373 = .ok (.iadd, 1) := by decide +kernel
theorem d_L_law_374 : decode code 374 = .ok (.iaload, 1) := by decide +kernel
theorem d_L_law_375 : decode code 375 = .ok (.aload_n 3, 1) := by decide +kernel
theorem d_L_law_376 : decode code 376 = .ok (.invokestatic 100, 3) := by decide +kernel
theorem d_L_law_379 : decode code 379 = .ok (.istore 5, 2) := by decide +kernel
theorem d_L_law_381 : decode code 381 = .ok (.aload_n 2, 1) := by decide +kernel
theorem d_L_law_382 : decode code 382 = .ok (.aload_n 0, 1) := by decide +kernel
theorem d_L_law_383 : decode code 383 = .ok (.iload 4, 2) := by decide +kernel
theorem d_L_law_385 : decode code 385 = .ok (.iconst 1, 1) := by decide +kernel
theorem d_L_law_386 : decode code 386 = .ok (.iadd, 1) := by decide +kernel
theorem d_L_law_387 : decode code 387 = .ok (.iaload, 1) := by decide +kernel
theorem d_L_law_388 : decode code 388 = .ok (.invokevirtual 103, 3) := by decide +kernel
theorem d_L_law_391 : decode code 391 = .ok (.istore 6, 2) := by decide +kernel
theorem d_L_law_393 : decode code 393 = .ok (.aload_n 2, 1) := by decide +kernel
theorem d_L_law_394 : decode code 394 = .ok (.invokevirtual 86, 3) := by decide +kernel
theorem d_L_law_397 : decode code 397 = .ok (.iload 5, 2) := by decide +kernel
theorem d_L_law_399 : decode code 399 = .ok (.if_icmp .eq 5, 3) := by decide +kernel
theorem d_L_law_402 : decode code 402 = .ok (.iconst 0, 1) := by decide +kernel
theorem d_L_law_403 : decode code 403 = .ok (.ireturn, 1) := by decide +kernel
theorem d_L_law_404 : decode code 404 = .ok (.iload 5, 2) := by decide +kernel
theorem d_L_law_406 : decode code 406 = .ok (.ifCond .ne 15, 3) := by decide +kernel
theorem d_L_law_409 : decode code 409 = .ok (.aload_n 3, 1) := by decide +kernel
theorem d_L_law_410 : decode code 410 = .ok (.iconst 0, 1) := by decide +kernel
theorem d_L_law_411 : decode code 411 = .ok (.laload, 1) := by decide +kernel
theorem d_L_law_412 : decode code 412 = .ok (.iload 6, 2) := by decide +kernel
theorem d_L_law_414 : decode code 414 = .ok (.i2l, 1) := by decide +kernel
theorem d_L_law_415 : decode code 415 = .ok (.lcmp, 1) := by decide +kernel
theorem d_L_law_416 : decode code 416 = .ok (.ifCond .eq 5, 3) := by decide +kernel
theorem d_L_law_419 : decode code 419 = .ok (.iconst 0, 1) := by decide +kernel
theorem d_L_law_420 : decode code 420 = .ok (.ireturn, 1) := by decide +kernel
theorem d_L_law_421 : decode code 421 = .ok (.goto 625, 3) := by decide +kernel
theorem d_L_law_424 : decode code 424 = .ok (.aload_n 1, 1) := by decide +kernel
theorem d_L_law_425 : decode code 425 = .ok (.aload_n 0, 1) := by decide +kernel
theorem d_L_law_426 : decode code 426 = .ok (.iload 4, 2) := by decide +kernel
theorem d_L_law_428 : decode code 428 = .ok (.iconst 1, 1) := by decide +kernel
theorem d_L_law_429 : decode code 429 = .ok (.iadd, 1) := by decide +kernel
theorem d_L_law_430 : decode code 430 = .ok (.iaload, 1) := by decide +kernel
theorem d_L_law_431 : decode code 431 = .ok (.aload_n 0, 1) := by decide +kernel
theorem d_L_law_432 : decode code 432 = .ok (.iload 4, 2) := by decide +kernel
theorem d_L_law_434 : decode code 434 = .ok (.iconst 2, 1) := by decide +kernel
theorem d_L_law_435 : decode code 435 = .ok (.iadd, 1) := by decide +kernel
theorem d_L_law_436 : decode code 436 = .ok (.iaload, 1) := by decide +kernel
theorem d_L_law_437 : decode code 437 = .ok (.aload_n 3, 1) := by decide +kernel
theorem d_L_law_438 : decode code 438 = .ok (.invokestatic 104, 3) := by decide +kernel
theorem d_L_law_441 : decode code 441 = .ok (.istore 5, 2) := by decide +kernel
theorem d_L_law_443 : decode code 443 = .ok (.aload_n 2, 1) := by decide +kernel
theorem d_L_law_444 : decode code 444 = .ok (.aload_n 0, 1) := by decide +kernel
theorem d_L_law_445 : decode code 445 = .ok (.iload 4, 2) := by decide +kernel
theorem d_L_law_447 : decode code 447 = .ok (.iconst 1, 1) := by decide +kernel
theorem d_L_law_448 : decode code 448 = .ok (.iadd, 1) := by decide +kernel
theorem d_L_law_449 : decode code 449 = .ok (.iaload, 1) := by decide +kernel
theorem d_L_law_450 : decode code 450 = .ok (.aload_n 0, 1) := by decide +kernel
theorem d_L_law_451 : decode code 451 = .ok (.iload 4, 2) := by decide +kernel
theorem d_L_law_453 : decode code 453 = .ok (.iconst 2, 1) := by decide +kernel
theorem d_L_law_454 : decode code 454 = .ok (.iadd, 1) := by decide +kernel
theorem d_L_law_455 : decode code 455 = .ok (.iaload, 1) := by decide +kernel
theorem d_L_law_456 : decode code 456 = .ok (.invokevirtual 107, 3) := by decide +kernel
theorem d_L_law_459 : decode code 459 = .ok (.istore 6, 2) := by decide +kernel
theorem d_L_law_461 : decode code 461 = .ok (.aload_n 2, 1) := by decide +kernel
theorem d_L_law_462 : decode code 462 = .ok (.invokevirtual 86, 3) := by decide +kernel
theorem d_L_law_465 : decode code 465 = .ok (.iload 5, 2) := by decide +kernel
theorem d_L_law_467 : decode code 467 = .ok (.if_icmp .eq 5, 3) := by decide +kernel
theorem d_L_law_470 : decode code 470 = .ok (.iconst 0, 1) := by decide +kernel
theorem d_L_law_471 : decode code 471 = .ok (.ireturn, 1) := by decide +kernel
theorem d_L_law_472 : decode code 472 = .ok (.iload 5, 2) := by decide +kernel
theorem d_L_law_474 : decode code 474 = .ok (.ifCond .ne 22, 3) := by decide +kernel
theorem d_L_law_477 : decode code 477 = .ok (.aload_n 3, 1) := by decide +kernel
theorem d_L_law_478 : decode code 478 = .ok (.iconst 0, 1) := by decide +kernel
theorem d_L_law_479 : decode code 479 = .ok (.laload, 1) := by decide +kernel
theorem d_L_law_480 : decode code 480 = .ok (.iload 6, 2) := by decide +kernel
theorem d_L_law_482 : decode code 482 = .ok (.ifCond .eq 7, 3) := by decide +kernel
theorem d_L_law_485 : decode code 485 = .ok (.lconst 1, 1) := by decide +kernel
theorem d_L_law_486 : decode code 486 = .ok (.goto 4, 3) := by decide +kernel
theorem d_L_law_489 : decode code 489 = .ok (.lconst 0, 1) := by decide +kernel
theorem d_L_law_490 : decode code 490 = .ok (.lcmp, 1) := by decide +kernel
theorem d_L_law_491 : decode code 491 = .ok (.ifCond .eq 5, 3) := by decide +kernel
theorem d_L_law_494 : decode code 494 = .ok (.iconst 0, 1) := by decide +kernel
theorem d_L_law_495 : decode code 495 = .ok (.ireturn, 1) := by decide +kernel
theorem d_L_law_496 : decode code 496 = .ok (.goto 550, 3) := by decide +kernel
theorem d_L_law_499 : decode code 499 = .ok (.aload_n 1, 1) := by decide +kernel
