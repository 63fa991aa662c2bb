theorem d_M_put_54 : decode b_M_put 54 = .ok (.iconst 3, 1) := by decide +kernel
theorem d_M_put_55 : decode b_M_put 55 = .ok (.iadd, 1) := by decide +kernel
theorem d_M_put_56 : decode b_M_put 56 = .ok (.iload 4, 2) := by decide +kernel
theorem d_M_put_58 : decode b_M_put 58 = .ok (.iastore, 1) := by decide +kernel
theorem d_M_put_59 : decode b_M_put 59 = .ok (.aload_n 0, 1) := by decide +kernel
theorem d_M_put_60 : decode b_M_put 60 = .ok (.getfield 64, 3) := by decide +kernel
theorem d_M_put_63 : decode b_M_put 63 = .ok (.bipush 9, 2) := by decide +kernel
theorem d_M_put_65 : decode b_M_put 65 = .ok (.aload_n 0, 1) := by decide +kernel
theorem d_M_put_66 : decode b_M_put 66 = .ok (.getfield 61, 3) := by decide +kernel
theorem d_M_put_69 : decode b_M_put 69 = .ok (.imul, 1) := by decide +kernel
theorem d_M_put_70 : decode b_M_put 70 = .ok (.iconst 4, 1) := by decide +kernel
theorem d_M_put_71 : decode b_M_put 71 = .ok (.iadd, 1) := by decide +kernel
theorem d_M_put_72 : decode b_M_put 72 = .ok (.aload_n 0, 1) := by decide +kernel
theorem d_M_put_73 : decode b_M_put 73 = .ok (.getfield 26, 3) := by decide +kernel
theorem d_M_put_76 : decode b_M_put 76 = .ok (.iastore, 1) := by decide +kernel
theorem d_M_put_77 : decode b_M_put 77 = .ok (.iconst 0, 1) := by decide +kernel
theorem d_M_put_78 : decode b_M_put 78 = .ok (.istore 5, 2) := by decide +kernel
theorem d_M_put_80 : decode b_M_put 80 = .ok (.iload 5, 2) := by decide +kernel
theorem d_M_put_82 : decode b_M_put 82 = .ok (.iconst 4, 1) := by decide +kernel
theorem d_M_put_83 : decode b_M_put 83 = .ok (.if_icmp .ge 46, 3) := by decide +kernel
theorem d_M_put_86 : decode b_M_put 86 = .ok (.aload_n 0, 1) := by decide +kernel
theorem d_M_put_87 : decode b_M_put 87 = .ok (.getfield 64, 3) := by decide +kernel
theorem d_M_put_90 : decode b_M_put 90 = .ok (.bipush 9, 2) := by decide +kernel
theorem d_M_put_92 : decode b_M_put 92 = .ok (.aload_n 0, 1) := by decide +kernel
theorem d_M_put_93 : decode b_M_put 93 = .ok (.getfield 61, 3) := by decide +kernel
theorem d_M_put_96 : decode b_M_put 96 = .ok (.imul, 1) := by decide +kernel
theorem d_M_put_97 : decode b_M_put 97 = .ok (.iconst 5, 1) := by decide +kernel
theorem d_M_put_98 : decode b_M_put 98 = .ok (.iadd, 1) := by decide +kernel
theorem d_M_put_99 : decode b_M_put 99 = .ok (.iload 5, 2) := by decide +kernel
theorem d_M_put_101 : decode b_M_put 101 = .ok (.iadd, 1) := by decide +kernel
theorem d_M_put_102 : decode b_M_put 102 = .ok (.iload_n 1, 1) := by decide +kernel
theorem d_M_put_103 : decode b_M_put 103 = .ok (.iconst 1, 1) := by decide +kernel
theorem d_M_put_104 : decode b_M_put 104 = .ok (.if_icmp .ne 17, 3) := by decide +kernel
theorem d_M_put_107 : decode b_M_put 107 = .ok (.aload_n 0, 1) := by decide +kernel
theorem d_M_put_108 : decode b_M_put 108 = .ok (.getfield 49, 3) := by decide +kernel
theorem d_M_put_111 : decode b_M_put 111 = .ok (.iconst 4, 1) := by decide +kernel
theorem d_M_put_112 : decode b_M_put 112 = .ok (.iload_n 2, 1) := by decide +kernel
theorem d_M_put_113 : decode b_M_put 113 = .ok (.imul, 1) := by decide +kernel
theorem d_M_put_114 : decode b_M_put 114 = .ok (.iload 5, 2) := by decide +kernel
theorem d_M_put_116 : decode b_M_put 116 = .ok (.iadd, 1) := by decide +kernel
theorem d_M_put_117 : decode b_M_put 117 = .ok (.iaload, 1) := by decide +kernel
theorem d_M_put_118 : decode b_M_put 118 = .ok (.goto 4, 3) := by decide +kernel
theorem d_M_put_121 : decode b_M_put 121 = .ok (.iconst 0, 1) := by decide +kernel
theorem d_M_put_122 : decode b_M_put 122 = .ok (.iastore, 1) := by decide +kernel
theorem d_M_put_123 : decode b_M_put 123 = .ok (.iinc 5 1, 3) := by decide +kernel
theorem d_M_put_126 : decode b_M_put 126 = .ok (.goto (-46), 3) := by decide +kernel
theorem d_M_put_129 : decode b_M_put 129 = .ok (.aload_n 0, 1) := by decide +kernel
theorem d_M_put_130 : decode b_M_put 130 = .ok (.dup, 1) := by decide +kernel
theorem d_M_put_131 : decode b_M_put 131 = .ok (.getfield 61, 3) := by decide +kernel
theorem d_M_put_134 : decode b_M_put 134 = .ok (.iconst 1, 1) := by decide +kernel
theorem d_M_put_135 : decode b_M_put 135 = .ok (.iadd, 1) := by decide +kernel
theorem d_M_put_136 : decode b_M_put 136 = .ok (.putfield 61, 3) := by decide +kernel
theorem d_M_put_139 : decode b_M_put 139 = .ok (.return_, 1) := by decide +kernel
theorem d_M_sent_0 : decode b_M_sent 0 = .ok (.aload_n 0, 1) := by decide +kernel
theorem d_M_sent_1 : decode b_M_sent 1 = .ok (.getfield 40, 3) := by decide +kernel
theorem d_M_sent_4 : decode b_M_sent 4 = .ok (.iload_n 1, 1) := by decide +kernel
theorem d_M_sent_5 : decode b_M_sent 5 = .ok (.iaload, 1) := by decide +kernel
theorem d_M_sent_6 : decode b_M_sent 6 = .ok (.istore_n 3, 1) := by decide +kernel
theorem d_M_sent_7 : decode b_M_sent 7 = .ok (.iload_n 3, 1) := by decide +kernel
theorem d_M_sent_8 : decode b_M_sent 8 = .ok (.iconst 2, 1) := by decide +kernel
theorem d_M_sent_9 : decode b_M_sent 9 = .ok (.if_icmp .eq 14, 3) := by decide +kernel
theorem d_M_sent_12 : decode b_M_sent 12 = .ok (.iload_n 3, 1) := by decide +kernel
theorem d_M_sent_13 : decode b_M_sent 13 = .ok (.iconst 5, 1) := by decide +kernel
theorem d_M_sent_14 : decode b_M_sent 14 = .ok (.if_icmp .eq 9, 3) := by decide +kernel
theorem d_M_sent_17 : decode b_M_sent 17 = .ok (.iload_n 3, 1) := by decide +kernel
theorem d_M_sent_18 : decode b_M_sent 18 = .ok (.bipush 6, 2) := by decide +kernel
theorem d_M_sent_20 : decode b_M_sent 20 = .ok (.if_icmp .ne 17, 3) := by decide +kernel
theorem d_M_sent_23 : decode b_M_sent 23 = .ok (.iload_n 2, 1) := by decide +kernel
theorem d_M_sent_24 : decode b_M_sent 24 = .ok (.iload_n 1, 1) := by decide +kernel
theorem d_M_sent_25 : decode b_M_sent 25 = .ok (.bipush 7, 2) := by decide +kernel
theorem d_M_sent_27 : decode b_M_sent 27 = .ok (.irem, 1) := by decide +kernel
theorem d_M_sent_28 : decode b_M_sent 28 = .ok (.iconst 1, 1) := by decide +kernel
theorem d_M_sent_29 : decode b_M_sent 29 = .ok (.iadd, 1) := by decide +kernel
theorem d_M_sent_30 : decode b_M_sent 30 = .ok (.if_icmp .ne 7, 3) := by decide +kernel
theorem d_M_sent_33 : decode b_M_sent 33 = .ok (.iconst 1, 1) := by decide +kernel
theorem d_M_sent_34 : decode b_M_sent 34 = .ok (.goto 4, 3) := by decide +kernel
theorem d_M_sent_37 : decode b_M_sent 37 = .ok (.iconst 0, 1) := by decide +kernel
theorem d_M_sent_38 : decode b_M_sent 38 = .ok (.istore 4, 2) := by decide +kernel
theorem d_M_sent_40 : decode b_M_sent 40 = .ok (.aload_n 0, 1) := by decide +kernel
theorem d_M_sent_41 : decode b_M_sent 41 = .ok (.iload_n 1, 1) := by decide +kernel
theorem d_M_sent_42 : decode b_M_sent 42 = .ok (.iload_n 2, 1) := by decide +kernel
theorem d_M_sent_43 : decode b_M_sent 43 = .ok (.invokevirtual 76, 3) := by decide +kernel
theorem d_M_sent_46 : decode b_M_sent 46 = .ok (.iload 4, 2) := by decide +kernel
theorem d_M_sent_48 : decode b_M_sent 48 = .ok (.ifCond .eq 7, 3) := by decide +kernel
theorem d_M_sent_51 : decode b_M_sent 51 = .ok (.iconst 1, 1) := by decide +kernel
theorem d_M_sent_52 : decode b_M_sent 52 = .ok (.goto 4, 3) := by decide +kernel
theorem d_M_sent_55 : decode b_M_sent 55 = .ok (.iconst 0, 1) := by decide +kernel
theorem d_M_sent_56 : decode b_M_sent 56 = .ok (.iadd, 1) := by decide +kernel
theorem d_M_sent_57 : decode b_M_sent 57 = .ok (.aload_n 0, 1) := by decide +kernel
theorem d_M_sent_58 : decode b_M_sent 58 = .ok (.getfield 16, 3) := by decide +kernel
theorem d_M_sent_61 : decode b_M_sent 61 = .ok (.irem, 1) := by decide +kernel
theorem d_M_sent_62 : decode b_M_sent 62 = .ok (.ireturn, 1) := by decide +kernel
theorem d_M_look_0 : decode b_M_look 0 = .ok (.aload_n 0, 1) := by decide +kernel
theorem d_M_look_1 : decode b_M_look 1 = .ok (.aload_n 0, 1) := by decide +kernel
theorem d_M_look_2 : decode b_M_look 2 = .ok (.iload_n 1, 1) := by decide +kernel
theorem d_M_look_3 : decode b_M_look 3 = .ok (.invokevirtual 96, 3) := by decide +kernel
theorem d_M_look_6 : decode b_M_look 6 = .ok (.putfield 7, 3) := by decide +kernel
theorem d_M_look_9 : decode b_M_look 9 = .ok (.aload_n 0, 1) := by decide +kernel
theorem d_M_look_10 : decode b_M_look 10 = .ok (.getfield 7, 3) := by decide +kernel
theorem d_M_look_13 : decode b_M_look 13 = .ok (.ifCond .eq 5, 3) := by decide +kernel
theorem d_M_look_16 : decode b_M_look 16 = .ok (.iconst 0, 1) := by decide +kernel
theorem d_M_look_17 : decode b_M_look 17 = .ok (.ireturn, 1) := by decide +kernel
theorem d_M_look_18 : decode b_M_look 18 = .ok (.iconst 0, 1) := by decide +kernel
theorem d_M_look_19 : decode b_M_look 19 = .ok (.istore_n 2, 1) := by decide +kernel
theorem d_M_look_20 : decode b_M_look 20 = .ok (.iconst 1, 1) := by decide +kernel
theorem d_M_look_21 : decode b_M_look 21 = .ok (.istore_n 3, 1) := by decide +kernel
theorem d_M_look_22 : decode b_M_look 22 = .ok (.iload_n 3, 1) := by decide +kernel
theorem d_M_look_23 : decode b_M_look 23 = .ok (.bipush 8, 2) := by decide +kernel
theorem d_M_look_25 : decode b_M_look 25 = .ok (.if_icmp .ge 26, 3) := by decide +kernel
theorem d_M_look_28 : decode b_M_look 28 = .ok (.iload_n 2, 1) := by decide +kernel
theorem d_M_look_29 : decode b_M_look 29 = .ok (.aload_n 0, 1) := by decide +kernel
theorem d_M_look_30 : decode b_M_look 30 = .ok (.iload_n 1, 1) := by decide +kernel
theorem d_M_look_31 : decode b_M_look 31 = .ok (.iload_n 3, 1) := by decide +kernel
theorem d_M_look_32 : decode b_M_look 32 = .ok (.invokevirtual 106, 3) := by decide +kernel
theorem d_M_look_35 : decode b_M_look 35 = .ok (.ifCond .eq 7, 3) := by decide +kernel
theorem d_M_look_38 : decode b_M_look 38 = .ok (.iconst 1, 1) := by decide +kernel
theorem d_M_look_39 : decode b_M_look 39 = .ok (.goto 4, 3) := by decide +kernel
theorem d_M_look_42 : decode b_M_look 42 = .ok (.iconst 0, 1) := by decide +kernel
theorem d_M_look_43 : decode b_M_look 43 = .ok (.iadd, 1) := by decide +kernel
theorem d_M_look_44 : decode b_M_look 44 = .ok (.istore_n 2, 1) := by decide +kernel
theorem d_M_look_45 : decode b_M_look 45 = .ok (.iinc 3 1, 3) := by decide +kernel
theorem d_M_look_48 : decode b_M_look 48 = .ok (.goto (-26), 3) := by decide +kernel
theorem d_M_look_51 : decode b_M_look 51 = .ok (.aload_n 0, 1) := by decide +kernel
theorem d_M_look_52 : decode b_M_look 52 = .ok (.getfield 61, 3) := by decide +kernel
theorem d_M_look_55 : decode b_M_look 55 = .ok (.iload_n 2, 1) := by decide +kernel
theorem d_M_look_56 : decode b_M_look 56 = .ok (.iadd, 1) := by decide +kernel
theorem d_M_look_57 : decode b_M_look 57 = .ok (.sipush 250, 3) := by decide +kernel
theorem d_M_look_60 : decode b_M_look 60 = .ok (.if_icmp .le 10, 3) := by decide +kernel
theorem d_M_look_63 : decode b_M_look 63 = .ok (.aload_n 0, 1) := by decide +kernel
theorem d_M_look_64 : decode b_M_look 64 = .ok (.iconst 3, 1) := by decide +kernel
theorem d_M_look_65 : decode b_M_look 65 = .ok (.putfield 7, 3) := by decide +kernel
theorem d_M_look_68 : decode b_M_look 68 = .ok (.iconst 0, 1) := by decide +kernel
theorem d_M_look_69 : decode b_M_look 69 = .ok (.ireturn, 1) := by decide +kernel
theorem d_M_look_70 : decode b_M_look 70 = .ok (.iconst 1, 1) := by decide +kernel
theorem d_M_look_71 : decode b_M_look 71 = .ok (.istore_n 3, 1) := by decide +kernel
theorem d_M_look_72 : decode b_M_look 72 = .ok (.iload_n 3, 1) := by decide +kernel
theorem d_M_look_73 : decode b_M_look 73 = .ok (.bipush 8, 2) := by decide +kernel
theorem d_M_look_75 : decode b_M_look 75 = .ok (.if_icmp .ge 38, 3) := by decide +kernel
theorem d_M_look_78 : decode b_M_look 78 = .ok (.aload_n 0, 1) := by decide +kernel
theorem d_M_look_79 : decode b_M_look 79 = .ok (.iload_n 1, 1) := by decide +kernel
theorem d_M_look_80 : decode b_M_look 80 = .ok (.iload_n 3, 1) := by decide +kernel
theorem d_M_look_81 : decode b_M_look 81 = .ok (.invokevirtual 106, 3) := by decide +kernel
theorem d_M_look_84 : decode b_M_look 84 = .ok (.ifCond .eq 23, 3) := by decide +kernel
theorem d_M_look_87 : decode b_M_look 87 = .ok (.aload_n 0, 1) := by decide +kernel
theorem d_M_look_88 : decode b_M_look 88 = .ok (.iconst 2, 1) := by decide +kernel
theorem d_M_look_89 : decode b_M_look 89 = .ok (.iload_n 1, 1) := by decide +kernel
theorem d_M_look_90 : decode b_M_look 90 = .ok (.iload_n 3, 1) := by decide +kernel
theorem d_M_look_91 : decode b_M_look 91 = .ok (.iconst 0, 1) := by decide +kernel
theorem d_M_look_92 : decode b_M_look 92 = .ok (.invokevirtual 99, 3) := by decide +kernel
theorem d_M_look_95 : decode b_M_look 95 = .ok (.aload_n 0, 1) := by decide +kernel
theorem d_M_look_96 : decode b_M_look 96 = .ok (.getfield 55, 3) := by decide +kernel
theorem d_M_look_99 : decode b_M_look 99 = .ok (.bipush 8, 2) := by decide +kernel
theorem d_M_look_101 : decode b_M_look 101 = .ok (.iload_n 3, 1) := by decide +kernel
theorem d_M_look_102 : decode b_M_look 102 = .ok (.imul, 1) := by decide +kernel
theorem d_M_look_103 : decode b_M_look 103 = .ok (.iload_n 1, 1) := by decide +kernel
theorem d_M_look_104 : decode b_M_look 104 = .ok (.iadd, 1) := by decide +kernel
theorem d_M_look_105 : decode b_M_look 105 = .ok (.iconst 1, 1) := by decide +kernel
theorem d_M_look_106 : decode b_M_look 106 = .ok (.bastore, 1) := by decide +kernel
theorem d_M_look_107 : decode b_M_look 107 = .ok (.iinc 3 1, 3) := by decide +kernel
theorem d_M_look_110 : decode b_M_look 110 = .ok (.goto (-38), 3) := by decide +kernel
theorem d_M_look_113 : decode b_M_look 113 = .ok (.iload_n 2, 1) := by decide +kernel
theorem d_M_look_114 : decode b_M_look 114 = .ok (.ireturn, 1) := by decide +kernel
theorem d_M_complains_0 : decode b_M_complains 0 = .ok (.aload_n 0, 1) := by decide +kernel
theorem d_M_complains_1 : decode b_M_complains 1 = .ok (.iload_n 2, 1) := by decide +kernel
theorem d_M_complains_2 : decode b_M_complains 2 = .ok (.invokevirtual 110, 3) := by decide +kernel
theorem d_M_complains_5 : decode b_M_complains 5 = .ok (.ifCond .eq 51, 3) := by decide +kernel
theorem d_M_complains_8 : decode b_M_complains 8 = .ok (.aload_n 0, 1) := by decide +kernel
theorem d_M_complains_9 : decode b_M_complains 9 = .ok (.getfield 55, 3) := by decide +kernel
theorem d_M_complains_12 : decode b_M_complains 12 = .ok (.bipush 8, 2) := by decide +kernel
theorem d_M_complains_14 : decode b_M_complains 14 = .ok (.iload_n 2, 1) := by decide +kernel
theorem d_M_complains_15 : decode b_M_complains 15 = .ok (.imul, 1) := by decide +kernel
theorem d_M_complains_16 : decode b_M_complains 16 = .ok (.iload_n 1, 1) := by decide +kernel
theorem d_M_complains_17 : decode b_M_complains 17 = .ok (.iadd, 1) := by decide +kernel
theorem d_M_complains_18 : decode b_M_complains 18 = .ok (.baload, 1) := by decide +kernel
theorem d_M_complains_19 : decode b_M_complains 19 = .ok (.ifCond .ne 37, 3) := by decide +kernel
theorem d_M_complains_22 : decode b_M_complains 22 = .ok (.aload_n 0, 1) := by decide +kernel
theorem d_M_complains_23 : decode b_M_complains 23 = .ok (.getfield 40, 3) := by decide +kernel
theorem d_M_complains_26 : decode b_M_complains 26 = .ok (.iload_n 1, 1) := by decide +kernel
theorem d_M_complains_27 : decode b_M_complains 27 = .ok (.iaload, 1) := by decide +kernel
theorem d_M_complains_28 : decode b_M_complains 28 = .ok (.iconst 4, 1) := by decide +kernel
theorem d_M_complains_29 : decode b_M_complains 29 = .ok (.if_icmp .eq 23, 3) := by decide +kernel
theorem d_M_complains_32 : decode b_M_complains 32 = .ok (.aload_n 0, 1) := by decide +kernel
theorem d_M_complains_33 : decode b_M_complains 33 = .ok (.iload_n 2, 1) := by decide +kernel
theorem d_M_complains_34 : decode b_M_complains 34 = .ok (.iload_n 1, 1) := by decide +kernel
theorem d_M_complains_35 : decode b_M_complains 35 = .ok (.aload_n 0, 1) := by decide +kernel
theorem d_M_complains_36 : decode b_M_complains 36 = .ok (.getfield 52, 3) := by decide +kernel
theorem d_M_complains_39 : decode b_M_complains 39 = .ok (.bipush 8, 2) := by decide +kernel
theorem d_M_complains_41 : decode b_M_complains 41 = .ok (.iload_n 2, 1) := by decide +kernel
theorem d_M_complains_42 : decode b_M_complains 42 = .ok (.imul, 1) := by decide +kernel
theorem d_M_complains_43 : decode b_M_complains 43 = .ok (.iload_n 1, 1) := by decide +kernel
theorem d_M_complains_44 : decode b_M_complains 44 = .ok (.iadd, 1) := by decide +kernel
theorem d_M_complains_45 : decode b_M_complains 45 = .ok (.iaload, 1) := by decide +kernel
theorem d_M_complains_46 : decode b_M_complains 46 = .ok (.invokevirtual 113, 3) := by decide +kernel
theorem d_M_complains_49 : decode b_M_complains 49 = .ok (.ifCond .ne 7, 3) := by decide +kernel
theorem d_M_complains_52 : decode b_M_complains 52 = .ok (.iconst 1, 1) := by decide +kernel
theorem d_M_complains_53 : decode b_M_complains 53 = .ok (.goto 4, 3) := by decide +kernel
theorem d_M_complains_56 : decode b_M_complains 56 = .ok (.iconst 0, 1) := by decide +kernel
theorem d_M_complains_57 : decode b_M_complains 57 = .ok (.ireturn, 1) := by decide +kernel
theorem d_M_dealer_0 : decode b_M_dealer 0 = .ok (.aload_n 0, 1) := by decide +kernel
theorem d_M_dealer_1 : decode b_M_dealer 1 = .ok (.getfield 43, 3) := by decide +kernel
theorem d_M_dealer_4 : decode b_M_dealer 4 = .ok (.iload_n 1, 1) := by decide +kernel
theorem d_M_dealer_5 : decode b_M_dealer 5 = .ok (.baload, 1) := by decide +kernel
theorem d_M_dealer_6 : decode b_M_dealer 6 = .ok (.ifCond .eq 17, 3) := by decide +kernel
theorem d_M_dealer_9 : decode b_M_dealer 9 = .ok (.aload_n 0, 1) := by decide +kernel
theorem d_M_dealer_10 : decode b_M_dealer 10 = .ok (.getfield 40, 3) := by decide +kernel
theorem d_M_dealer_13 : decode b_M_dealer 13 = .ok (.iload_n 1, 1) := by decide +kernel
theorem d_M_dealer_14 : decode b_M_dealer 14 = .ok (.iaload, 1) := by decide +kernel
theorem d_M_dealer_15 : decode b_M_dealer 15 = .ok (.iconst 1, 1) := by decide +kernel
theorem d_M_dealer_16 : decode b_M_dealer 16 = .ok (.if_icmp .eq 7, 3) := by decide +kernel
theorem d_M_dealer_19 : decode b_M_dealer 19 = .ok (.iconst 1, 1) := by decide +kernel
theorem d_M_dealer_20 : decode b_M_dealer 20 = .ok (.goto 4, 3) := by decide +kernel
theorem d_M_dealer_23 : decode b_M_dealer 23 = .ok (.iconst 0, 1) := by decide +kernel
theorem d_M_dealer_24 : decode b_M_dealer 24 = .ok (.ireturn, 1) := by decide +kernel
theorem d_M_goodShare_0 : decode b_M_goodShare 0 = .ok (.aload_n 0, 1) := by decide +kernel
theorem d_M_goodShare_1 : decode b_M_goodShare 1 = .ok (.aload_n 0, 1) := by decide +kernel
theorem d_M_goodShare_2 : decode b_M_goodShare 2 = .ok (.getfield 19, 3) := by decide +kernel
theorem d_M_goodShare_5 : decode b_M_goodShare 5 = .ok (.iload_n 3, 1) := by decide +kernel
theorem d_M_goodShare_6 : decode b_M_goodShare 6 = .ok (.invokevirtual 68, 3) := by decide +kernel
theorem d_M_goodShare_9 : decode b_M_goodShare 9 = .ok (.aload_n 0, 1) := by decide +kernel
theorem d_M_goodShare_10 : decode b_M_goodShare 10 = .ok (.aload_n 0, 1) := by decide +kernel
theorem d_M_goodShare_11 : decode b_M_goodShare 11 = .ok (.getfield 49, 3) := by decide +kernel
theorem d_M_goodShare_14 : decode b_M_goodShare 14 = .ok (.iconst 4, 1) := by decide +kernel
theorem d_M_goodShare_15 : decode b_M_goodShare 15 = .ok (.iload_n 1, 1) := by decide +kernel
theorem d_M_goodShare_16 : decode b_M_goodShare 16 = .ok (.imul, 1) := by decide +kernel
theorem d_M_goodShare_17 : decode b_M_goodShare 17 = .ok (.iload_n 2, 1) := by decide +kernel
theorem d_M_goodShare_18 : decode b_M_goodShare 18 = .ok (.invokevirtual 72, 3) := by decide +kernel
theorem d_M_goodShare_21 : decode b_M_goodShare 21 = .ok (.if_icmp .ne 7, 3) := by decide +kernel
theorem d_M_goodShare_24 : decode b_M_goodShare 24 = .ok (.iconst 1, 1) := by decide +kernel
theorem d_M_goodShare_25 : decode b_M_goodShare 25 = .ok (.goto 4, 3) := by decide +kernel
theorem d_M_goodShare_28 : decode b_M_goodShare 28 = .ok (.iconst 0, 1) := by decide +kernel
theorem d_M_goodShare_29 : decode b_M_goodShare 29 = .ok (.ireturn, 1) := by decide +kernel
theorem d_M_timesAt_0 : decode b_M_timesAt 0 = .ok (.lconst 1, 1) := by decide +kernel
theorem d_M_timesAt_1 : decode b_M_timesAt 1 = .ok (.lstore 4, 2) := by decide +kernel
theorem d_M_timesAt_3 : decode b_M_timesAt 3 = .ok (.iconst 1, 1) := by decide +kernel
theorem d_M_timesAt_4 : decode b_M_timesAt 4 = .ok (.istore 6, 2) := by decide +kernel
theorem d_M_timesAt_6 : decode b_M_timesAt 6 = .ok (.iconst 0, 1) := by decide +kernel
theorem d_M_timesAt_7 : decode b_M_timesAt 7 = .ok (.istore 7, 2) := by decide +kernel
theorem d_M_timesAt_9 : decode b_M_timesAt 9 = .ok (.iload 7, 2) := by decide +kernel
theorem d_M_timesAt_11 : decode b_M_timesAt 11 = .ok (.iconst 4, 1) := by decide +kernel
theorem d_M_timesAt_12 : decode b_M_timesAt 12 = .ok (.if_icmp .ge 39, 3) := by decide +kernel
theorem d_M_timesAt_15 : decode b_M_timesAt 15 = .ok (.lload 4, 2) := by decide +kernel
theorem d_M_timesAt_17 : decode b_M_timesAt 17 = .ok (.aload_n 0, 1) := by decide +kernel
theorem d_M_timesAt_18 : decode b_M_timesAt 18 = .ok (.aload_n 1, 1) := by decide +kernel
theorem d_M_timesAt_19 : decode b_M_timesAt 19 = .ok (.iload_n 2, 1) := by decide +kernel
theorem d_M_timesAt_20 : decode b_M_timesAt 20 = .ok (.iload 7, 2) := by decide +kernel
theorem d_M_timesAt_22 : decode b_M_timesAt 22 = .ok (.iadd, 1) := by decide +kernel
theorem d_M_timesAt_23 : decode b_M_timesAt 23 = .ok (.iaload, 1) := by decide +kernel
theorem d_M_timesAt_24 : decode b_M_timesAt 24 = .ok (.iload 6, 2) := by decide +kernel
theorem d_M_timesAt_26 : decode b_M_timesAt 26 = .ok (.invokevirtual 68, 3) := by decide +kernel
theorem d_M_timesAt_29 : decode b_M_timesAt 29 = .ok (.i2l, 1) := by decide +kernel
theorem d_M_timesAt_30 : decode b_M_timesAt 30 = .ok (.lmul, 1) := by decide +kernel
theorem d_M_timesAt_31 : decode b_M_timesAt 31 = .ok (.aload_n 0, 1) := by decide +kernel
theorem d_M_timesAt_32 : decode b_M_timesAt 32 = .ok (.getfield 13, 3) := by decide +kernel
theorem d_M_timesAt_35 : decode b_M_timesAt 35 = .ok (.i2l, 1) := by decide +kernel
theorem d_M_timesAt_36 : decode b_M_timesAt 36 = .ok (.lrem, 1) := by decide +kernel
theorem d_M_timesAt_37 : decode b_M_timesAt 37 = .ok (.lstore 4, 2) := by decide +kernel
theorem d_M_timesAt_39 : decode b_M_timesAt 39 = .ok (.iload 6, 2) := by decide +kernel
theorem d_M_timesAt_41 : decode b_M_timesAt 41 = .ok (.iload_n 3, 1) := by decide +kernel
theorem d_M_timesAt_42 : decode b_M_timesAt 42 = .ok (.imul, 1) := by decide +kernel
theorem d_M_timesAt_43 : decode b_M_timesAt 43 = .ok (.istore 6, 2) := by decide +kernel
theorem d_M_timesAt_45 : decode b_M_timesAt 45 = .ok (.iinc 7 1, 3) := by decide +kernel
theorem d_M_timesAt_48 : decode b_M_timesAt 48 = .ok (.goto (-39), 3) := by decide +kernel
theorem d_M_timesAt_51 : decode b_M_timesAt 51 = .ok (.lload 4, 2) := by decide +kernel
theorem d_M_timesAt_53 : decode b_M_timesAt 53 = .ok (.l2i, 1) := by decide +kernel
theorem d_M_timesAt_54 : decode b_M_timesAt 54 = .ok (.ireturn, 1) := by decide +kernel
theorem d_M_answer_0 : decode b_M_answer 0 = .ok (.aload_n 0, 1) := by decide +kernel
theorem d_M_answer_1 : decode b_M_answer 1 = .ok (.aload_n 0, 1) := by decide +kernel
theorem d_M_answer_2 : decode b_M_answer 2 = .ok (.iload_n 1, 1) := by decide +kernel
theorem d_M_answer_3 : decode b_M_answer 3 = .ok (.invokevirtual 96, 3) := by decide +kernel
theorem d_M_answer_6 : decode b_M_answer 6 = .ok (.putfield 7, 3) := by decide +kernel
theorem d_M_answer_9 : decode b_M_answer 9 = .ok (.aload_n 0, 1) := by decide +kernel
theorem d_M_answer_10 : decode b_M_answer 10 = .ok (.getfield 7, 3) := by decide +kernel
theorem d_M_answer_13 : decode b_M_answer 13 = .ok (.ifCond .ne 12, 3) := by decide +kernel
theorem d_M_answer_16 : decode b_M_answer 16 = .ok (.aload_n 0, 1) := by decide +kernel
theorem d_M_answer_17 : decode b_M_answer 17 = .ok (.aload_n 0, 1) := by decide +kernel
theorem d_M_answer_18 : decode b_M_answer 18 = .ok (.iload_n 2, 1) := by decide +kernel
theorem d_M_answer_19 : decode b_M_answer 19 = .ok (.invokevirtual 96, 3) := by decide +kernel
theorem d_M_answer_22 : decode b_M_answer 22 = .ok (.putfield 7, 3) := by decide +kernel
theorem d_M_answer_25 : decode b_M_answer 25 = .ok (.aload_n 0, 1) := by decide +kernel
theorem d_M_answer_26 : decode b_M_answer 26 = .ok (.getfield 7, 3) := by decide +kernel
theorem d_M_answer_29 : decode b_M_answer 29 = .ok (.ifCond .ne 16, 3) := by decide +kernel
theorem d_M_answer_32 : decode b_M_answer 32 = .ok (.aload_n 0, 1) := by decide +kernel
theorem d_M_answer_33 : decode b_M_answer 33 = .ok (.iload_n 1, 1) := by decide +kernel
theorem d_M_answer_34 : decode b_M_answer 34 = .ok (.invokevirtual 110, 3) := by decide +kernel
theorem d_M_answer_37 : decode b_M_answer 37 = .ok (.ifCond .ne 8, 3) := by decide +kernel
theorem d_M_answer_40 : decode b_M_answer 40 = .ok (.aload_n 0, 1) := by decide +kernel
theorem d_M_answer_41 : decode b_M_answer 41 = .ok (.iconst 3, 1) := by decide +kernel
theorem d_M_answer_42 : decode b_M_answer 42 = .ok (.putfield 7, 3) := by decide +kernel
theorem d_M_answer_45 : decode b_M_answer 45 = .ok (.aload_n 0, 1) := by decide +kernel
theorem d_M_answer_46 : decode b_M_answer 46 = .ok (.getfield 7, 3) := by decide +kernel
theorem d_M_answer_49 : decode b_M_answer 49 = .ok (.ifCond .ne 18, 3) := by decide +kernel
theorem d_M_answer_52 : decode b_M_answer 52 = .ok (.aload_n 0, 1) := by decide +kernel
theorem d_M_answer_53 : decode b_M_answer 53 = .ok (.getfield 61, 3) := by decide +kernel
theorem d_M_answer_56 : decode b_M_answer 56 = .ok (.sipush 250, 3) := by decide +kernel
theorem d_M_answer_59 : decode b_M_answer 59 = .ok (.if_icmp .ne 8, 3) := by decide +kernel
theorem d_M_answer_62 : decode b_M_answer 62 = .ok (.aload_n 0, 1) := by decide +kernel
theorem d_M_answer_63 : decode b_M_answer 63 = .ok (.iconst 4, 1) := by decide +kernel
theorem d_M_answer_64 : decode b_M_answer 64 = .ok (.putfield 7, 3) := by decide +kernel
theorem d_M_answer_67 : decode b_M_answer 67 = .ok (.aload_n 0, 1) := by decide +kernel
theorem d_M_answer_68 : decode b_M_answer 68 = .ok (.getfield 7, 3) := by decide +kernel
theorem d_M_answer_71 : decode b_M_answer 71 = .ok (.ifCond .ne 14, 3) := by decide +kernel
theorem d_M_answer_74 : decode b_M_answer 74 = .ok (.aload_n 0, 1) := by decide +kernel
theorem d_M_answer_75 : decode b_M_answer 75 = .ok (.getfield 40, 3) := by decide +kernel
theorem d_M_answer_78 : decode b_M_answer 78 = .ok (.iload_n 1, 1) := by decide +kernel
theorem d_M_answer_79 : decode b_M_answer 79 = .ok (.iaload, 1) := by decide +kernel
theorem d_M_answer_80 : decode b_M_answer 80 = .ok (.bipush 6, 2) := by decide +kernel
theorem d_M_answer_82 : decode b_M_answer 82 = .ok (.if_icmp .ne 5, 3) := by decide +kernel
theorem d_M_answer_85 : decode b_M_answer 85 = .ok (.iconst 0, 1) := by decide +kernel
theorem d_M_answer_86 : decode b_M_answer 86 = .ok (.ireturn, 1) := by decide +kernel
theorem d_M_answer_87 : decode b_M_answer 87 = .ok (.aload_n 0, 1) := by decide +kernel
theorem d_M_answer_88 : decode b_M_answer 88 = .ok (.getfield 40, 3) := by decide +kernel
theorem d_M_answer_91 : decode b_M_answer 91 = .ok (.iload_n 1, 1) := by decide +kernel
theorem d_M_answer_92 : decode b_M_answer 92 = .ok (.iaload, 1) := by decide +kernel
theorem d_M_answer_93 : decode b_M_answer 93 = .ok (.iconst 5, 1) := by decide +kernel
theorem d_M_answer_94 : decode b_M_answer 94 = .ok (.if_icmp .ne 12, 3) := by decide +kernel
theorem d_M_answer_97 : decode b_M_answer 97 = .ok (.aload_n 0, 1) := by decide +kernel
theorem d_M_answer_98 : decode b_M_answer 98 = .ok (.iload_n 1, 1) := by decide +kernel
theorem d_M_answer_99 : decode b_M_answer 99 = .ok (.iload_n 2, 1) := by decide +kernel
theorem d_M_answer_100 : decode b_M_answer 100 = .ok (.invokevirtual 76, 3) := by decide +kernel
theorem d_M_answer_103 : decode b_M_answer 103 = .ok (.goto 9, 3) := by decide +kernel
theorem d_M_answer_106 : decode b_M_answer 106 = .ok (.aload_n 0, 1) := by decide +kernel
theorem d_M_answer_107 : decode b_M_answer 107 = .ok (.iload_n 1, 1) := by decide +kernel
theorem d_M_answer_108 : decode b_M_answer 108 = .ok (.iload_n 2, 1) := by decide +kernel
theorem d_M_answer_109 : decode b_M_answer 109 = .ok (.invokevirtual 103, 3) := by decide +kernel
theorem d_M_answer_112 : decode b_M_answer 112 = .ok (.istore_n 3, 1) := by decide +kernel
theorem d_M_answer_113 : decode b_M_answer 113 = .ok (.aload_n 0, 1) := by decide +kernel
theorem d_M_answer_114 : decode b_M_answer 114 = .ok (.iconst 3, 1) := by decide +kernel
theorem d_M_answer_115 : decode b_M_answer 115 = .ok (.iload_n 1, 1) := by decide +kernel
theorem d_M_answer_116 : decode b_M_answer 116 = .ok (.iload_n 2, 1) := by decide +kernel
theorem d_M_answer_117 : decode b_M_answer 117 = .ok (.iload_n 3, 1) := by decide +kernel
theorem d_M_answer_118 : decode b_M_answer 118 = .ok (.invokevirtual 99, 3) := by decide +kernel
theorem d_M_answer_121 : decode b_M_answer 121 = .ok (.bipush 8, 2) := by decide +kernel
theorem d_M_answer_123 : decode b_M_answer 123 = .ok (.iload_n 1, 1) := by decide +kernel
theorem d_M_answer_124 : decode b_M_answer 124 = .ok (.imul, 1) := by decide +kernel
theorem d_M_answer_125 : decode b_M_answer 125 = .ok (.iload_n 2, 1) := by decide +kernel
theorem d_M_answer_126 : decode b_M_answer 126 = .ok (.iadd, 1) := by decide +kernel
theorem d_M_answer_127 : decode b_M_answer 127 = .ok (.istore 4, 2) := by decide +kernel
theorem d_M_answer_129 : decode b_M_answer 129 = .ok (.aload_n 0, 1) := by decide +kernel
theorem d_M_answer_130 : decode b_M_answer 130 = .ok (.getfield 55, 3) := by decide +kernel
theorem d_M_answer_133 : decode b_M_answer 133 = .ok (.iload 4, 2) := by decide +kernel
theorem d_M_answer_135 : decode b_M_answer 135 = .ok (.baload, 1) := by decide +kernel
theorem d_M_answer_136 : decode b_M_answer 136 = .ok (.ifCond .eq 23, 3) := by decide +kernel
theorem d_M_answer_139 : decode b_M_answer 139 = .ok (.aload_n 0, 1) := by decide +kernel
theorem d_M_answer_140 : decode b_M_answer 140 = .ok (.getfield 58, 3) := by decide +kernel
theorem d_M_answer_143 : decode b_M_answer 143 = .ok (.iload 4, 2) := by decide +kernel
theorem d_M_answer_145 : decode b_M_answer 145 = .ok (.baload, 1) := by decide +kernel
theorem d_M_answer_146 : decode b_M_answer 146 = .ok (.ifCond .ne 13, 3) := by decide +kernel
theorem d_M_answer_149 : decode b_M_answer 149 = .ok (.aload_n 0, 1) := by decide +kernel
theorem d_M_answer_150 : decode b_M_answer 150 = .ok (.iload_n 1, 1) := by decide +kernel
theorem d_M_answer_151 : decode b_M_answer 151 = .ok (.iload_n 2, 1) := by decide +kernel
theorem d_M_answer_152 : decode b_M_answer 152 = .ok (.iload_n 3, 1) := by decide +kernel
theorem d_M_answer_153 : decode b_M_answer 153 = .ok (.invokevirtual 113, 3) := by decide +kernel
theorem d_M_answer_156 : decode b_M_answer 156 = .ok (.ifCond .ne 5, 3) := by decide +kernel
theorem d_M_answer_159 : decode b_M_answer 159 = .ok (.iconst 0, 1) := by decide +kernel
theorem d_M_answer_160 : decode b_M_answer 160 = .ok (.ireturn, 1) := by decide +kernel
theorem d_M_answer_161 : decode b_M_answer 161 = .ok (.aload_n 0, 1) := by decide +kernel
theorem d_M_answer_162 : decode b_M_answer 162 = .ok (.getfield 58, 3) := by decide +kernel
theorem d_M_answer_165 : decode b_M_answer 165 = .ok (.iload 4, 2) := by decide +kernel
theorem d_M_answer_167 : decode b_M_answer 167 = .ok (.iconst 1, 1) := by decide +kernel
theorem d_M_answer_168 : decode b_M_answer 168 = .ok (.bastore, 1) := by decide +kernel
theorem d_M_answer_169 : decode b_M_answer 169 = .ok (.aload_n 0, 1) := by decide +kernel
theorem d_M_answer_170 : decode b_M_answer 170 = .ok (.getfield 52, 3) := by decide +kernel
theorem d_M_answer_173 : decode b_M_answer 173 = .ok (.iload 4, 2) := by decide +kernel
theorem d_M_answer_175 : decode b_M_answer 175 = .ok (.iload_n 3, 1) := by decide +kernel
theorem d_M_answer_176 : decode b_M_answer 176 = .ok (.iastore, 1) := by decide +kernel
theorem d_M_answer_177 : decode b_M_answer 177 = .ok (.iconst 1, 1) := by decide +kernel
theorem d_M_answer_178 : decode b_M_answer 178 = .ok (.ireturn, 1) := by decide +kernel
theorem d_M_close_0 : decode b_M_close 0 = .ok (.aload_n 0, 1) := by decide +kernel
theorem d_M_close_1 : decode b_M_close 1 = .ok (.aload_n 0, 1) := by decide +kernel
theorem d_M_close_2 : decode b_M_close 2 = .ok (.getfield 22, 3) := by decide +kernel
theorem d_M_close_5 : decode b_M_close 5 = .ok (.ifCond .eq 7, 3) := by decide +kernel
theorem d_M_close_8 : decode b_M_close 8 = .ok (.iconst 0, 1) := by decide +kernel
theorem d_M_close_9 : decode b_M_close 9 = .ok (.goto 4, 3) := by decide +kernel
theorem d_M_close_12 : decode b_M_close 12 = .ok (.iconst 1, 1) := by decide +kernel
theorem d_M_close_13 : decode b_M_close 13 = .ok (.putfield 7, 3) := by decide +kernel
theorem d_M_close_16 : decode b_M_close 16 = .ok (.aload_n 0, 1) := by decide +kernel
theorem d_M_close_17 : decode b_M_close 17 = .ok (.getfield 7, 3) := by decide +kernel
theorem d_M_close_20 : decode b_M_close 20 = .ok (.ifCond .eq 5, 3) := by decide +kernel
theorem d_M_close_23 : decode b_M_close 23 = .ok (.iconst 0, 1) := by decide +kernel
theorem d_M_close_24 : decode b_M_close 24 = .ok (.ireturn, 1) := by decide +kernel
theorem d_M_close_25 : decode b_M_close 25 = .ok (.iconst 0, 1) := by decide +kernel
theorem d_M_close_26 : decode b_M_close 26 = .ok (.istore_n 1, 1) := by decide +kernel
theorem d_M_close_27 : decode b_M_close 27 = .ok (.iconst 1, 1) := by decide +kernel
theorem d_M_close_28 : decode b_M_close 28 = .ok (.istore_n 2, 1) := by decide +kernel
theorem d_M_close_29 : decode b_M_close 29 = .ok (.iload_n 2, 1) := by decide +kernel
theorem d_M_close_30 : decode b_M_close 30 = .ok (.bipush 8, 2) := by decide +kernel
theorem d_M_close_32 : decode b_M_close 32 = .ok (.if_icmp .ge 113, 3) := by decide +kernel
theorem d_M_close_35 : decode b_M_close 35 = .ok (.aload_n 0, 1) := by decide +kernel
theorem d_M_close_36 : decode b_M_close 36 = .ok (.iload_n 2, 1) := by decide +kernel
theorem d_M_close_37 : decode b_M_close 37 = .ok (.invokevirtual 117, 3) := by decide +kernel
theorem d_M_close_40 : decode b_M_close 40 = .ok (.ifCond .eq 99, 3) := by decide +kernel
theorem d_M_close_43 : decode b_M_close 43 = .ok (.iload_n 1, 1) := by decide +kernel
theorem d_M_close_44 : decode b_M_close 44 = .ok (.iconst 1, 1) := by decide +kernel
theorem d_M_close_45 : decode b_M_close 45 = .ok (.iload_n 2, 1) := by decide +kernel
theorem d_M_close_46 : decode b_M_close 46 = .ok (.iconst 1, 1) := by decide +kernel
theorem d_M_close_47 : decode b_M_close 47 = .ok (.isub, 1) := by decide +kernel
theorem d_M_close_48 : decode b_M_close 48 = .ok (.ishl, 1) := by decide +kernel
theorem d_M_close_49 : decode b_M_close 49 = .ok (.ior, 1) := by decide +kernel
theorem d_M_close_50 : decode b_M_close 50 = .ok (.istore_n 1, 1) := by decide +kernel
theorem d_M_close_51 : decode b_M_close 51 = .ok (.iconst 1, 1) := by decide +kernel
theorem d_M_close_52 : decode b_M_close 52 = .ok (.istore_n 3, 1) := by decide +kernel
theorem d_M_close_53 : decode b_M_close 53 = .ok (.iload_n 3, 1) := by decide +kernel
theorem d_M_close_54 : decode b_M_close 54 = .ok (.bipush 8, 2) := by decide +kernel
theorem d_M_close_56 : decode b_M_close 56 = .ok (.if_icmp .ge 38, 3) := by decide +kernel
theorem d_M_close_59 : decode b_M_close 59 = .ok (.aload_n 0, 1) := by decide +kernel
theorem d_M_close_60 : decode b_M_close 60 = .ok (.getfield 29, 3) := by decide +kernel
theorem d_M_close_63 : decode b_M_close 63 = .ok (.iload_n 3, 1) := by decide +kernel
theorem d_M_close_64 : decode b_M_close 64 = .ok (.aload_n 0, 1) := by decide +kernel
theorem d_M_close_65 : decode b_M_close 65 = .ok (.getfield 29, 3) := by decide +kernel
theorem d_M_close_68 : decode b_M_close 68 = .ok (.iload_n 3, 1) := by decide +kernel
theorem d_M_close_69 : decode b_M_close 69 = .ok (.iaload, 1) := by decide +kernel
theorem d_M_close_70 : decode b_M_close 70 = .ok (.aload_n 0, 1) := by decide +kernel
theorem d_M_close_71 : decode b_M_close 71 = .ok (.getfield 52, 3) := by decide +kernel
theorem d_M_close_74 : decode b_M_close 74 = .ok (.bipush 8, 2) := by decide +kernel
theorem d_M_close_76 : decode b_M_close 76 = .ok (.iload_n 2, 1) := by decide +kernel
theorem d_M_close_77 : decode b_M_close 77 = .ok (.imul, 1) := by decide +kernel
theorem d_M_close_78 : decode b_M_close 78 = .ok (.iload_n 3, 1) := by decide +kernel
theorem d_M_close_79 : decode b_M_close 79 = .ok (.iadd, 1) := by decide +kernel
theorem d_M_close_80 : decode b_M_close 80 = .ok (.iaload, 1) := by decide +kernel
theorem d_M_close_81 : decode b_M_close 81 = .ok (.iadd, 1) := by decide +kernel
theorem d_M_close_82 : decode b_M_close 82 = .ok (.aload_n 0, 1) := by decide +kernel
theorem d_M_close_83 : decode b_M_close 83 = .ok (.getfield 16, 3) := by decide +kernel
theorem d_M_close_86 : decode b_M_close 86 = .ok (.irem, 1) := by decide +kernel
theorem d_M_close_87 : decode b_M_close 87 = .ok (.iastore, 1) := by decide +kernel
theorem d_M_close_88 : decode b_M_close 88 = .ok (.iinc 3 1, 3) := by decide +kernel
theorem d_M_close_91 : decode b_M_close 91 = .ok (.goto (-38), 3) := by decide +kernel
theorem d_M_close_94 : decode b_M_close 94 = .ok (.iconst 0, 1) := by decide +kernel
theorem d_M_close_95 : decode b_M_close 95 = .ok (.istore_n 3, 1) := by decide +kernel
theorem d_M_close_96 : decode b_M_close 96 = .ok (.iload_n 3, 1) := by decide +kernel
theorem d_M_close_97 : decode b_M_close 97 = .ok (.iconst 4, 1) := by decide +kernel
theorem d_M_close_98 : decode b_M_close 98 = .ok (.if_icmp .ge 41, 3) := by decide +kernel
theorem d_M_close_101 : decode b_M_close 101 = .ok (.aload_n 0, 1) := by decide +kernel
theorem d_M_close_102 : decode b_M_close 102 = .ok (.getfield 37, 3) := by decide +kernel
theorem d_M_close_105 : decode b_M_close 105 = .ok (.iload_n 3, 1) := by decide +kernel
theorem d_M_close_106 : decode b_M_close 106 = .ok (.aload_n 0, 1) := by decide +kernel
theorem d_M_close_107 : decode b_M_close 107 = .ok (.getfield 37, 3) := by decide +kernel
theorem d_M_close_110 : decode b_M_close 110 = .ok (.iload_n 3, 1) := by decide +kernel
theorem d_M_close_111 : decode b_M_close 111 = .ok (.iaload, 1) := by decide +kernel
theorem d_M_close_112 : decode b_M_close 112 = .ok (.i2l, 1) := by decide +kernel
theorem d_M_close_113 : decode b_M_close 113 = .ok (.aload_n 0, 1) := by decide +kernel
theorem d_M_close_114 : decode b_M_close 114 = .ok (.getfield 49, 3) := by decide +kernel
theorem d_M_close_117 : decode b_M_close 117 = .ok (.iconst 4, 1) := by decide +kernel
theorem d_M_close_118 : decode b_M_close 118 = .ok (.iload_n 2, 1) := by decide +kernel
theorem d_M_close_119 : decode b_M_close 119 = .ok (.imul, 1) := by decide +kernel
theorem d_M_close_120 : decode b_M_close 120 = .ok (.iload_n 3, 1) := by decide +kernel
theorem d_M_close_121 : decode b_M_close 121 = .ok (.iadd, 1) := by decide +kernel
theorem d_M_close_122 : decode b_M_close 122 = .ok (.iaload, 1) := by decide +kernel
theorem d_M_close_123 : decode b_M_close 123 = .ok (.i2l, 1) := by decide +kernel
theorem d_M_close_124 : decode b_M_close 124 = .ok (.lmul, 1) := by decide +kernel
theorem d_M_close_125 : decode b_M_close 125 = .ok (.aload_n 0, 1) := by decide +kernel
