theorem d_K_sum_10 : decode b_K_sum 10 = .ok (.if_icmp .lt 11, 3) := by decide +kernel
theorem d_K_sum_13 : decode b_K_sum 13 = .ok (.new 189, 3) := by decide +kernel
theorem d_K_sum_16 : decode b_K_sum 16 = .ok (.dup, 1) := by decide +kernel
theorem d_K_sum_17 : decode b_K_sum 17 = .ok (.invokespecial 191, 3) := by decide +kernel
theorem d_K_sum_20 : decode b_K_sum 20 = .ok (.athrow, 1) := by decide +kernel
theorem d_K_sum_21 : decode b_K_sum 21 = .ok (.aload_n 0, 1) := by decide +kernel
theorem d_K_sum_22 : decode b_K_sum 22 = .ok (.getfield 36, 3) := by decide +kernel
theorem d_K_sum_25 : decode b_K_sum 25 = .ok (.iload_n 1, 1) := by decide +kernel
theorem d_K_sum_26 : decode b_K_sum 26 = .ok (.iaload, 1) := by decide +kernel
theorem d_K_sum_27 : decode b_K_sum 27 = .ok (.ireturn, 1) := by decide +kernel
theorem d_L_element_0 : decode b_L_element 0 = .ok (.aload_n 2, 1) := by decide +kernel
theorem d_L_element_1 : decode b_L_element 1 = .ok (.iconst 0, 1) := by decide +kernel
theorem d_L_element_2 : decode b_L_element 2 = .ok (.aload_n 0, 1) := by decide +kernel
theorem d_L_element_3 : decode b_L_element 3 = .ok (.iload_n 1, 1) := by decide +kernel
theorem d_L_element_4 : decode b_L_element 4 = .ok (.invokevirtual 63, 3) := by decide +kernel
theorem d_L_element_7 : decode b_L_element 7 = .ok (.i2l, 1) := by decide +kernel
theorem d_L_element_8 : decode b_L_element 8 = .ok (.lastore, 1) := by decide +kernel
theorem d_L_element_9 : decode b_L_element 9 = .ok (.goto 9, 3) := by decide +kernel
theorem d_L_element_12 : decode b_L_element 12 = .ok (.astore_n 3, 1) := by decide +kernel
theorem d_L_element_13 : decode b_L_element 13 = .ok (.iconst 1, 1) := by decide +kernel
theorem d_L_element_14 : decode b_L_element 14 = .ok (.ireturn, 1) := by decide +kernel
theorem d_L_element_15 : decode b_L_element 15 = .ok (.astore_n 3, 1) := by decide +kernel
theorem d_L_element_16 : decode b_L_element 16 = .ok (.iconst 2, 1) := by decide +kernel
theorem d_L_element_17 : decode b_L_element 17 = .ok (.ireturn, 1) := by decide +kernel
theorem d_L_element_18 : decode b_L_element 18 = .ok (.iconst 0, 1) := by decide +kernel
theorem d_L_element_19 : decode b_L_element 19 = .ok (.ireturn, 1) := by decide +kernel
theorem d_K_element_0 : decode b_K_element 0 = .ok (.aload_n 0, 1) := by decide +kernel
theorem d_K_element_1 : decode b_K_element 1 = .ok (.invokevirtual 95, 3) := by decide +kernel
theorem d_K_element_4 : decode b_K_element 4 = .ok (.iload_n 1, 1) := by decide +kernel
theorem d_K_element_5 : decode b_K_element 5 = .ok (.invokestatic 98, 3) := by decide +kernel
theorem d_K_element_8 : decode b_K_element 8 = .ok (.aload_n 0, 1) := by decide +kernel
theorem d_K_element_9 : decode b_K_element 9 = .ok (.getfield 12, 3) := by decide +kernel
theorem d_K_element_12 : decode b_K_element 12 = .ok (.iload_n 1, 1) := by decide +kernel
theorem d_K_element_13 : decode b_K_element 13 = .ok (.aload_n 0, 1) := by decide +kernel
theorem d_K_element_14 : decode b_K_element 14 = .ok (.getfield 36, 3) := by decide +kernel
theorem d_K_element_17 : decode b_K_element 17 = .ok (.invokevirtual 192, 3) := by decide +kernel
theorem d_K_element_20 : decode b_K_element 20 = .ok (.ireturn, 1) := by decide +kernel
theorem d_L_reconstruct_0 : decode b_L_reconstruct 0 = .ok (.aload_n 2, 1) := by decide +kernel
theorem d_L_reconstruct_1 : decode b_L_reconstruct 1 = .ok (.iconst 0, 1) := by decide +kernel
theorem d_L_reconstruct_2 : decode b_L_reconstruct 2 = .ok (.aload_n 0, 1) := by decide +kernel
theorem d_L_reconstruct_3 : decode b_L_reconstruct 3 = .ok (.iload_n 1, 1) := by decide +kernel
theorem d_L_reconstruct_4 : decode b_L_reconstruct 4 = .ok (.invokevirtual 66, 3) := by decide +kernel
theorem d_L_reconstruct_7 : decode b_L_reconstruct 7 = .ok (.i2l, 1) := by decide +kernel
theorem d_L_reconstruct_8 : decode b_L_reconstruct 8 = .ok (.lastore, 1) := by decide +kernel
theorem d_L_reconstruct_9 : decode b_L_reconstruct 9 = .ok (.goto 9, 3) := by decide +kernel
theorem d_L_reconstruct_12 : decode b_L_reconstruct 12 = .ok (.astore_n 3, 1) := by decide +kernel
theorem d_L_reconstruct_13 : decode b_L_reconstruct 13 = .ok (.iconst 1, 1) := by decide +kernel
theorem d_L_reconstruct_14 : decode b_L_reconstruct 14 = .ok (.ireturn, 1) := by decide +kernel
theorem d_L_reconstruct_15 : decode b_L_reconstruct 15 = .ok (.astore_n 3, 1) := by decide +kernel
theorem d_L_reconstruct_16 : decode b_L_reconstruct 16 = .ok (.iconst 2, 1) := by decide +kernel
theorem d_L_reconstruct_17 : decode b_L_reconstruct 17 = .ok (.ireturn, 1) := by decide +kernel
theorem d_L_reconstruct_18 : decode b_L_reconstruct 18 = .ok (.iconst 0, 1) := by decide +kernel
theorem d_L_reconstruct_19 : decode b_L_reconstruct 19 = .ok (.ireturn, 1) := by decide +kernel
theorem d_K_reconstruct_0 : decode b_K_reconstruct 0 = .ok (.aload_n 0, 1) := by decide +kernel
theorem d_K_reconstruct_1 : decode b_K_reconstruct 1 = .ok (.invokevirtual 95, 3) := by decide +kernel
theorem d_K_reconstruct_4 : decode b_K_reconstruct 4 = .ok (.iload_n 1, 1) := by decide +kernel
theorem d_K_reconstruct_5 : decode b_K_reconstruct 5 = .ok (.ifCond .lt 26, 3) := by decide +kernel
theorem d_K_reconstruct_8 : decode b_K_reconstruct 8 = .ok (.iload_n 1, 1) := by decide +kernel
theorem d_K_reconstruct_9 : decode b_K_reconstruct 9 = .ok (.bipush 127, 2) := by decide +kernel
theorem d_K_reconstruct_11 : decode b_K_reconstruct 11 = .ok (.if_icmp .gt 20, 3) := by decide +kernel
theorem d_K_reconstruct_14 : decode b_K_reconstruct 14 = .ok (.iload_n 1, 1) := by decide +kernel
theorem d_K_reconstruct_15 : decode b_K_reconstruct 15 = .ok (.invokestatic 142, 3) := by decide +kernel
theorem d_K_reconstruct_18 : decode b_K_reconstruct 18 = .ok (.iconst 4, 1) := by decide +kernel
theorem d_K_reconstruct_19 : decode b_K_reconstruct 19 = .ok (.if_icmp .lt 12, 3) := by decide +kernel
theorem d_K_reconstruct_22 : decode b_K_reconstruct 22 = .ok (.iload_n 1, 1) := by decide +kernel
theorem d_K_reconstruct_23 : decode b_K_reconstruct 23 = .ok (.aload_n 0, 1) := by decide +kernel
theorem d_K_reconstruct_24 : decode b_K_reconstruct 24 = .ok (.invokevirtual 195, 3) := by decide +kernel
theorem d_K_reconstruct_27 : decode b_K_reconstruct 27 = .ok (.iand, 1) := by decide +kernel
theorem d_K_reconstruct_28 : decode b_K_reconstruct 28 = .ok (.ifCond .eq 11, 3) := by decide +kernel
theorem d_K_reconstruct_31 : decode b_K_reconstruct 31 = .ok (.new 50, 3) := by decide +kernel
theorem d_K_reconstruct_34 : decode b_K_reconstruct 34 = .ok (.dup, 1) := by decide +kernel
theorem d_K_reconstruct_35 : decode b_K_reconstruct 35 = .ok (.invokespecial 52, 3) := by decide +kernel
theorem d_K_reconstruct_38 : decode b_K_reconstruct 38 = .ok (.athrow, 1) := by decide +kernel
theorem d_K_reconstruct_39 : decode b_K_reconstruct 39 = .ok (.aload_n 0, 1) := by decide +kernel
theorem d_K_reconstruct_40 : decode b_K_reconstruct 40 = .ok (.getfield 12, 3) := by decide +kernel
theorem d_K_reconstruct_43 : decode b_K_reconstruct 43 = .ok (.iconst 0, 1) := by decide +kernel
theorem d_K_reconstruct_44 : decode b_K_reconstruct 44 = .ok (.iload_n 1, 1) := by decide +kernel
theorem d_K_reconstruct_45 : decode b_K_reconstruct 45 = .ok (.invokestatic 179, 3) := by decide +kernel
theorem d_K_reconstruct_48 : decode b_K_reconstruct 48 = .ok (.aload_n 0, 1) := by decide +kernel
theorem d_K_reconstruct_49 : decode b_K_reconstruct 49 = .ok (.getfield 32, 3) := by decide +kernel
theorem d_K_reconstruct_52 : decode b_K_reconstruct 52 = .ok (.invokevirtual 182, 3) := by decide +kernel
theorem d_K_reconstruct_55 : decode b_K_reconstruct 55 = .ok (.ireturn, 1) := by decide +kernel
theorem d_K_wiped_0 : decode b_K_wiped 0 = .ok (.iconst 0, 1) := by decide +kernel
theorem d_K_wiped_1 : decode b_K_wiped 1 = .ok (.istore_n 1, 1) := by decide +kernel
theorem d_K_wiped_2 : decode b_K_wiped 2 = .ok (.iconst 1, 1) := by decide +kernel
theorem d_K_wiped_3 : decode b_K_wiped 3 = .ok (.istore_n 2, 1) := by decide +kernel
theorem d_K_wiped_4 : decode b_K_wiped 4 = .ok (.iload_n 2, 1) := by decide +kernel
theorem d_K_wiped_5 : decode b_K_wiped 5 = .ok (.bipush 7, 2) := by decide +kernel
theorem d_K_wiped_7 : decode b_K_wiped 7 = .ok (.if_icmp .gt 24, 3) := by decide +kernel
theorem d_K_wiped_10 : decode b_K_wiped 10 = .ok (.aload_n 0, 1) := by decide +kernel
theorem d_K_wiped_11 : decode b_K_wiped 11 = .ok (.iload_n 2, 1) := by decide +kernel
theorem d_K_wiped_12 : decode b_K_wiped 12 = .ok (.invokevirtual 173, 3) := by decide +kernel
theorem d_K_wiped_15 : decode b_K_wiped 15 = .ok (.ifCond .eq 10, 3) := by decide +kernel
theorem d_K_wiped_18 : decode b_K_wiped 18 = .ok (.iload_n 1, 1) := by decide +kernel
theorem d_K_wiped_19 : decode b_K_wiped 19 = .ok (.iload_n 2, 1) := by decide +kernel
theorem d_K_wiped_20 : decode b_K_wiped 20 = .ok (.invokestatic 229, 3) := by decide +kernel
theorem d_K_wiped_23 : decode b_K_wiped 23 = .ok (.ior, 1) := by decide +kernel
theorem d_K_wiped_24 : decode b_K_wiped 24 = .ok (.istore_n 1, 1) := by decide +kernel
theorem d_K_wiped_25 : decode b_K_wiped 25 = .ok (.iinc 2 1, 3) := by decide +kernel
theorem d_K_wiped_28 : decode b_K_wiped 28 = .ok (.goto (-24), 3) := by decide +kernel
theorem d_K_wiped_31 : decode b_K_wiped 31 = .ok (.iload_n 1, 1) := by decide +kernel
theorem d_K_wiped_32 : decode b_K_wiped 32 = .ok (.ireturn, 1) := by decide +kernel
theorem d_L_post_0 : decode b_L_post 0 = .ok (.aload_n 3, 1) := by decide +kernel
theorem d_L_post_1 : decode b_L_post 1 = .ok (.iconst 0, 1) := by decide +kernel
theorem d_L_post_2 : decode b_L_post 2 = .ok (.aload_n 0, 1) := by decide +kernel
theorem d_L_post_3 : decode b_L_post 3 = .ok (.iload_n 1, 1) := by decide +kernel
theorem d_L_post_4 : decode b_L_post 4 = .ok (.iload_n 2, 1) := by decide +kernel
theorem d_L_post_5 : decode b_L_post 5 = .ok (.invokevirtual 69, 3) := by decide +kernel
theorem d_L_post_8 : decode b_L_post 8 = .ok (.i2l, 1) := by decide +kernel
theorem d_L_post_9 : decode b_L_post 9 = .ok (.lastore, 1) := by decide +kernel
theorem d_L_post_10 : decode b_L_post 10 = .ok (.goto 15, 3) := by decide +kernel
theorem d_L_post_13 : decode b_L_post 13 = .ok (.astore 4, 2) := by decide +kernel
theorem d_L_post_15 : decode b_L_post 15 = .ok (.iconst 1, 1) := by decide +kernel
theorem d_L_post_16 : decode b_L_post 16 = .ok (.ireturn, 1) := by decide +kernel
theorem d_L_post_17 : decode b_L_post 17 = .ok (.astore 4, 2) := by decide +kernel
theorem d_L_post_19 : decode b_L_post 19 = .ok (.iconst 2, 1) := by decide +kernel
theorem d_L_post_20 : decode b_L_post 20 = .ok (.ireturn, 1) := by decide +kernel
theorem d_L_post_21 : decode b_L_post 21 = .ok (.astore 4, 2) := by decide +kernel
theorem d_L_post_23 : decode b_L_post 23 = .ok (.iconst 3, 1) := by decide +kernel
theorem d_L_post_24 : decode b_L_post 24 = .ok (.ireturn, 1) := by decide +kernel
theorem d_L_post_25 : decode b_L_post 25 = .ok (.iconst 0, 1) := by decide +kernel
theorem d_L_post_26 : decode b_L_post 26 = .ok (.ireturn, 1) := by decide +kernel
theorem d_K_post_0 : decode b_K_post 0 = .ok (.aload_n 0, 1) := by decide +kernel
theorem d_K_post_1 : decode b_K_post 1 = .ok (.invokevirtual 95, 3) := by decide +kernel
theorem d_K_post_4 : decode b_K_post 4 = .ok (.iload_n 1, 1) := by decide +kernel
theorem d_K_post_5 : decode b_K_post 5 = .ok (.ifCond .lt 14, 3) := by decide +kernel
theorem d_K_post_8 : decode b_K_post 8 = .ok (.iload_n 1, 1) := by decide +kernel
theorem d_K_post_9 : decode b_K_post 9 = .ok (.aload_n 0, 1) := by decide +kernel
theorem d_K_post_10 : decode b_K_post 10 = .ok (.getfield 19, 3) := by decide +kernel
theorem d_K_post_13 : decode b_K_post 13 = .ok (.invokevirtual 198, 3) := by decide +kernel
theorem d_K_post_16 : decode b_K_post 16 = .ok (.if_icmp .lt 11, 3) := by decide +kernel
theorem d_K_post_19 : decode b_K_post 19 = .ok (.new 189, 3) := by decide +kernel
theorem d_K_post_22 : decode b_K_post 22 = .ok (.dup, 1) := by decide +kernel
theorem d_K_post_23 : decode b_K_post 23 = .ok (.invokespecial 191, 3) := by decide +kernel
theorem d_K_post_26 : decode b_K_post 26 = .ok (.athrow, 1) := by decide +kernel
theorem d_K_post_27 : decode b_K_post 27 = .ok (.iload_n 2, 1) := by decide +kernel
theorem d_K_post_28 : decode b_K_post 28 = .ok (.ifCond .lt 9, 3) := by decide +kernel
theorem d_K_post_31 : decode b_K_post 31 = .ok (.iload_n 2, 1) := by decide +kernel
theorem d_K_post_32 : decode b_K_post 32 = .ok (.bipush 9, 2) := by decide +kernel
theorem d_K_post_34 : decode b_K_post 34 = .ok (.if_icmp .lt 11, 3) := by decide +kernel
theorem d_K_post_37 : decode b_K_post 37 = .ok (.new 50, 3) := by decide +kernel
theorem d_K_post_40 : decode b_K_post 40 = .ok (.dup, 1) := by decide +kernel
theorem d_K_post_41 : decode b_K_post 41 = .ok (.invokespecial 52, 3) := by decide +kernel
theorem d_K_post_44 : decode b_K_post 44 = .ok (.athrow, 1) := by decide +kernel
theorem d_K_post_45 : decode b_K_post 45 = .ok (.aload_n 0, 1) := by decide +kernel
theorem d_K_post_46 : decode b_K_post 46 = .ok (.getfield 19, 3) := by decide +kernel
theorem d_K_post_49 : decode b_K_post 49 = .ok (.iload_n 1, 1) := by decide +kernel
theorem d_K_post_50 : decode b_K_post 50 = .ok (.iload_n 2, 1) := by decide +kernel
theorem d_K_post_51 : decode b_K_post 51 = .ok (.invokevirtual 201, 3) := by decide +kernel
theorem d_K_post_54 : decode b_K_post 54 = .ok (.ireturn, 1) := by decide +kernel
theorem d_B_size_0 : decode b_B_size 0 = .ok (.aload_n 0, 1) := by decide +kernel
theorem d_B_size_1 : decode b_B_size 1 = .ok (.getfield 15, 3) := by decide +kernel
theorem d_B_size_4 : decode b_B_size 4 = .ok (.ireturn, 1) := by decide +kernel
theorem d_B_read_0 : decode b_B_read 0 = .ok (.aload_n 0, 1) := by decide +kernel
theorem d_B_read_1 : decode b_B_read 1 = .ok (.getfield 11, 3) := by decide +kernel
theorem d_B_read_4 : decode b_B_read 4 = .ok (.iload_n 1, 1) := by decide +kernel
theorem d_B_read_5 : decode b_B_read 5 = .ok (.bipush 9, 2) := by decide +kernel
theorem d_B_read_7 : decode b_B_read 7 = .ok (.imul, 1) := by decide +kernel
theorem d_B_read_8 : decode b_B_read 8 = .ok (.iload_n 2, 1) := by decide +kernel
theorem d_B_read_9 : decode b_B_read 9 = .ok (.iadd, 1) := by decide +kernel
theorem d_B_read_10 : decode b_B_read 10 = .ok (.iaload, 1) := by decide +kernel
theorem d_B_read_11 : decode b_B_read 11 = .ok (.ireturn, 1) := by decide +kernel
theorem d_L_about_0 : decode b_L_about 0 = .ok (.aload_n 2, 1) := by decide +kernel
theorem d_L_about_1 : decode b_L_about 1 = .ok (.iconst 0, 1) := by decide +kernel
theorem d_L_about_2 : decode b_L_about 2 = .ok (.aload_n 0, 1) := by decide +kernel
theorem d_L_about_3 : decode b_L_about 3 = .ok (.iload_n 1, 1) := by decide +kernel
theorem d_L_about_4 : decode b_L_about 4 = .ok (.invokevirtual 73, 3) := by decide +kernel
theorem d_L_about_7 : decode b_L_about 7 = .ok (.i2l, 1) := by decide +kernel
theorem d_L_about_8 : decode b_L_about 8 = .ok (.lastore, 1) := by decide +kernel
theorem d_L_about_9 : decode b_L_about 9 = .ok (.goto 6, 3) := by decide +kernel
theorem d_L_about_12 : decode b_L_about 12 = .ok (.astore_n 3, 1) := by decide +kernel
theorem d_L_about_13 : decode b_L_about 13 = .ok (.iconst 1, 1) := by decide +kernel
theorem d_L_about_14 : decode b_L_about 14 = .ok (.ireturn, 1) := by decide +kernel
theorem d_L_about_15 : decode b_L_about 15 = .ok (.iconst 0, 1) := by decide +kernel
theorem d_L_about_16 : decode b_L_about 16 = .ok (.ireturn, 1) := by decide +kernel
theorem d_K_about_0 : decode b_K_about 0 = .ok (.iload_n 1, 1) := by decide +kernel
theorem d_K_about_1 : decode b_K_about 1 = .ok (.tableswitch 93 0 6 #[43, 48, 56, 64, 72, 80, 85], 43) := by decide +kernel
theorem d_K_about_44 : decode b_K_about 44 = .ok (.aload_n 0, 1) := by decide +kernel
theorem d_K_about_45 : decode b_K_about 45 = .ok (.getfield 42, 3) := by decide +kernel
theorem d_K_about_48 : decode b_K_about 48 = .ok (.ireturn, 1) := by decide +kernel
theorem d_K_about_49 : decode b_K_about 49 = .ok (.aload_n 0, 1) := by decide +kernel
theorem d_K_about_50 : decode b_K_about 50 = .ok (.getfield 19, 3) := by decide +kernel
theorem d_K_about_53 : decode b_K_about 53 = .ok (.invokevirtual 198, 3) := by decide +kernel
theorem d_K_about_56 : decode b_K_about 56 = .ok (.ireturn, 1) := by decide +kernel
theorem d_K_about_57 : decode b_K_about 57 = .ok (.aload_n 0, 1) := by decide +kernel
theorem d_K_about_58 : decode b_K_about 58 = .ok (.getfield 28, 3) := by decide +kernel
theorem d_K_about_61 : decode b_K_about 61 = .ok (.invokevirtual 204, 3) := by decide +kernel
theorem d_K_about_64 : decode b_K_about 64 = .ok (.ireturn, 1) := by decide +kernel
theorem d_K_about_65 : decode b_K_about 65 = .ok (.aload_n 0, 1) := by decide +kernel
theorem d_K_about_66 : decode b_K_about 66 = .ok (.getfield 28, 3) := by decide +kernel
theorem d_K_about_69 : decode b_K_about 69 = .ok (.invokevirtual 207, 3) := by decide +kernel
theorem d_K_about_72 : decode b_K_about 72 = .ok (.ireturn, 1) := by decide +kernel
theorem d_K_about_73 : decode b_K_about 73 = .ok (.aload_n 0, 1) := by decide +kernel
theorem d_K_about_74 : decode b_K_about 74 = .ok (.getfield 28, 3) := by decide +kernel
theorem d_K_about_77 : decode b_K_about 77 = .ok (.invokevirtual 157, 3) := by decide +kernel
theorem d_K_about_80 : decode b_K_about 80 = .ok (.ireturn, 1) := by decide +kernel
theorem d_K_about_81 : decode b_K_about 81 = .ok (.aload_n 0, 1) := by decide +kernel
theorem d_K_about_82 : decode b_K_about 82 = .ok (.invokevirtual 195, 3) := by decide +kernel
theorem d_K_about_85 : decode b_K_about 85 = .ok (.ireturn, 1) := by decide +kernel
theorem d_K_about_86 : decode b_K_about 86 = .ok (.aload_n 0, 1) := by decide +kernel
theorem d_K_about_87 : decode b_K_about 87 = .ok (.getfield 28, 3) := by decide +kernel
theorem d_K_about_90 : decode b_K_about 90 = .ok (.invokevirtual 210, 3) := by decide +kernel
theorem d_K_about_93 : decode b_K_about 93 = .ok (.ireturn, 1) := by decide +kernel
theorem d_K_about_94 : decode b_K_about 94 = .ok (.new 50, 3) := by decide +kernel
theorem d_K_about_97 : decode b_K_about 97 = .ok (.dup, 1) := by decide +kernel
theorem d_K_about_98 : decode b_K_about 98 = .ok (.invokespecial 52, 3) := by decide +kernel
theorem d_K_about_101 : decode b_K_about 101 = .ok (.athrow, 1) := by decide +kernel
theorem d_V_complaintCount_0 : decode b_V_complaintCount 0 = .ok (.aload_n 0, 1) := by decide +kernel
theorem d_V_complaintCount_1 : decode b_V_complaintCount 1 = .ok (.getfield 26, 3) := by decide +kernel
theorem d_V_complaintCount_4 : decode b_V_complaintCount 4 = .ok (.invokestatic 97, 3) := by decide +kernel
theorem d_V_complaintCount_7 : decode b_V_complaintCount 7 = .ok (.ireturn, 1) := by decide +kernel
theorem d_V_countAll_0 : decode b_V_countAll 0 = .ok (.iconst 0, 1) := by decide +kernel
theorem d_V_countAll_1 : decode b_V_countAll 1 = .ok (.istore_n 1, 1) := by decide +kernel
theorem d_V_countAll_2 : decode b_V_countAll 2 = .ok (.iconst 1, 1) := by decide +kernel
theorem d_V_countAll_3 : decode b_V_countAll 3 = .ok (.istore_n 2, 1) := by decide +kernel
theorem d_V_countAll_4 : decode b_V_countAll 4 = .ok (.iload_n 2, 1) := by decide +kernel
theorem d_V_countAll_5 : decode b_V_countAll 5 = .ok (.bipush 7, 2) := by decide +kernel
theorem d_V_countAll_7 : decode b_V_countAll 7 = .ok (.if_icmp .gt 18, 3) := by decide +kernel
theorem d_V_countAll_10 : decode b_V_countAll 10 = .ok (.iload_n 1, 1) := by decide +kernel
theorem d_V_countAll_11 : decode b_V_countAll 11 = .ok (.aload_n 0, 1) := by decide +kernel
theorem d_V_countAll_12 : decode b_V_countAll 12 = .ok (.iload_n 2, 1) := by decide +kernel
theorem d_V_countAll_13 : decode b_V_countAll 13 = .ok (.iaload, 1) := by decide +kernel
theorem d_V_countAll_14 : decode b_V_countAll 14 = .ok (.invokestatic 61, 3) := by decide +kernel
theorem d_V_countAll_17 : decode b_V_countAll 17 = .ok (.iadd, 1) := by decide +kernel
theorem d_V_countAll_18 : decode b_V_countAll 18 = .ok (.istore_n 1, 1) := by decide +kernel
theorem d_V_countAll_19 : decode b_V_countAll 19 = .ok (.iinc 2 1, 3) := by decide +kernel
theorem d_V_countAll_22 : decode b_V_countAll 22 = .ok (.goto (-18), 3) := by decide +kernel
theorem d_V_countAll_25 : decode b_V_countAll 25 = .ok (.iload_n 1, 1) := by decide +kernel
theorem d_V_countAll_26 : decode b_V_countAll 26 = .ok (.ireturn, 1) := by decide +kernel
theorem d_V_settledCount_0 : decode b_V_settledCount 0 = .ok (.aload_n 0, 1) := by decide +kernel
theorem d_V_settledCount_1 : decode b_V_settledCount 1 = .ok (.getfield 29, 3) := by decide +kernel
theorem d_V_settledCount_4 : decode b_V_settledCount 4 = .ok (.invokestatic 97, 3) := by decide +kernel
theorem d_V_settledCount_7 : decode b_V_settledCount 7 = .ok (.ireturn, 1) := by decide +kernel
theorem d_M_init_0 : decode b_M_init 0 = .ok (.aload_n 0, 1) := by decide +kernel
theorem d_M_init_1 : decode b_M_init 1 = .ok (.invokespecial 1, 3) := by decide +kernel
theorem d_M_init_4 : decode b_M_init 4 = .ok (.aload_n 0, 1) := by decide +kernel
theorem d_M_init_5 : decode b_M_init 5 = .ok (.iconst 0, 1) := by decide +kernel
theorem d_M_init_6 : decode b_M_init 6 = .ok (.putfield 7, 3) := by decide +kernel
theorem d_M_init_9 : decode b_M_init 9 = .ok (.aload_n 0, 1) := by decide +kernel
theorem d_M_init_10 : decode b_M_init 10 = .ok (.iconst 0, 1) := by decide +kernel
theorem d_M_init_11 : decode b_M_init 11 = .ok (.putfield 13, 3) := by decide +kernel
theorem d_M_init_14 : decode b_M_init 14 = .ok (.aload_n 0, 1) := by decide +kernel
theorem d_M_init_15 : decode b_M_init 15 = .ok (.iconst 0, 1) := by decide +kernel
theorem d_M_init_16 : decode b_M_init 16 = .ok (.putfield 16, 3) := by decide +kernel
theorem d_M_init_19 : decode b_M_init 19 = .ok (.aload_n 0, 1) := by decide +kernel
theorem d_M_init_20 : decode b_M_init 20 = .ok (.iconst 0, 1) := by decide +kernel
theorem d_M_init_21 : decode b_M_init 21 = .ok (.putfield 19, 3) := by decide +kernel
theorem d_M_init_24 : decode b_M_init 24 = .ok (.aload_n 0, 1) := by decide +kernel
theorem d_M_init_25 : decode b_M_init 25 = .ok (.iconst 0, 1) := by decide +kernel
theorem d_M_init_26 : decode b_M_init 26 = .ok (.putfield 22, 3) := by decide +kernel
theorem d_M_init_29 : decode b_M_init 29 = .ok (.aload_n 0, 1) := by decide +kernel
theorem d_M_init_30 : decode b_M_init 30 = .ok (.iconst 0, 1) := by decide +kernel
theorem d_M_init_31 : decode b_M_init 31 = .ok (.putfield 26, 3) := by decide +kernel
theorem d_M_init_34 : decode b_M_init 34 = .ok (.aload_n 0, 1) := by decide +kernel
theorem d_M_init_35 : decode b_M_init 35 = .ok (.bipush 8, 2) := by decide +kernel
theorem d_M_init_37 : decode b_M_init 37 = .ok (.newarray .int, 2) := by decide +kernel
theorem d_M_init_39 : decode b_M_init 39 = .ok (.putfield 29, 3) := by decide +kernel
theorem d_M_init_42 : decode b_M_init 42 = .ok (.aload_n 0, 1) := by decide +kernel
theorem d_M_init_43 : decode b_M_init 43 = .ok (.bipush 8, 2) := by decide +kernel
theorem d_M_init_45 : decode b_M_init 45 = .ok (.newarray .boolean, 2) := by decide +kernel
theorem d_M_init_47 : decode b_M_init 47 = .ok (.putfield 33, 3) := by decide +kernel
theorem d_M_init_50 : decode b_M_init 50 = .ok (.aload_n 0, 1) := by decide +kernel
theorem d_M_init_51 : decode b_M_init 51 = .ok (.iconst 4, 1) := by decide +kernel
theorem d_M_init_52 : decode b_M_init 52 = .ok (.newarray .int, 2) := by decide +kernel
theorem d_M_init_54 : decode b_M_init 54 = .ok (.putfield 37, 3) := by decide +kernel
theorem d_M_init_57 : decode b_M_init 57 = .ok (.aload_n 0, 1) := by decide +kernel
theorem d_M_init_58 : decode b_M_init 58 = .ok (.bipush 8, 2) := by decide +kernel
theorem d_M_init_60 : decode b_M_init 60 = .ok (.newarray .int, 2) := by decide +kernel
theorem d_M_init_62 : decode b_M_init 62 = .ok (.putfield 40, 3) := by decide +kernel
theorem d_M_init_65 : decode b_M_init 65 = .ok (.aload_n 0, 1) := by decide +kernel
theorem d_M_init_66 : decode b_M_init 66 = .ok (.bipush 8, 2) := by decide +kernel
theorem d_M_init_68 : decode b_M_init 68 = .ok (.newarray .boolean, 2) := by decide +kernel
theorem d_M_init_70 : decode b_M_init 70 = .ok (.putfield 43, 3) := by decide +kernel
theorem d_M_init_73 : decode b_M_init 73 = .ok (.aload_n 0, 1) := by decide +kernel
theorem d_M_init_74 : decode b_M_init 74 = .ok (.bipush 32, 2) := by decide +kernel
theorem d_M_init_76 : decode b_M_init 76 = .ok (.newarray .int, 2) := by decide +kernel
theorem d_M_init_78 : decode b_M_init 78 = .ok (.putfield 46, 3) := by decide +kernel
theorem d_M_init_81 : decode b_M_init 81 = .ok (.aload_n 0, 1) := by decide +kernel
theorem d_M_init_82 : decode b_M_init 82 = .ok (.bipush 32, 2) := by decide +kernel
theorem d_M_init_84 : decode b_M_init 84 = .ok (.newarray .int, 2) := by decide +kernel
theorem d_M_init_86 : decode b_M_init 86 = .ok (.putfield 49, 3) := by decide +kernel
theorem d_M_init_89 : decode b_M_init 89 = .ok (.aload_n 0, 1) := by decide +kernel
theorem d_M_init_90 : decode b_M_init 90 = .ok (.bipush 64, 2) := by decide +kernel
theorem d_M_init_92 : decode b_M_init 92 = .ok (.newarray .int, 2) := by decide +kernel
theorem d_M_init_94 : decode b_M_init 94 = .ok (.putfield 52, 3) := by decide +kernel
theorem d_M_init_97 : decode b_M_init 97 = .ok (.aload_n 0, 1) := by decide +kernel
theorem d_M_init_98 : decode b_M_init 98 = .ok (.bipush 64, 2) := by decide +kernel
theorem d_M_init_100 : decode b_M_init 100 = .ok (.newarray .boolean, 2) := by decide +kernel
theorem d_M_init_102 : decode b_M_init 102 = .ok (.putfield 55, 3) := by decide +kernel
theorem d_M_init_105 : decode b_M_init 105 = .ok (.aload_n 0, 1) := by decide +kernel
theorem d_M_init_106 : decode b_M_init 106 = .ok (.bipush 64, 2) := by decide +kernel
theorem d_M_init_108 : decode b_M_init 108 = .ok (.newarray .boolean, 2) := by decide +kernel
theorem d_M_init_110 : decode b_M_init 110 = .ok (.putfield 58, 3) := by decide +kernel
theorem d_M_init_113 : decode b_M_init 113 = .ok (.aload_n 0, 1) := by decide +kernel
theorem d_M_init_114 : decode b_M_init 114 = .ok (.iconst 0, 1) := by decide +kernel
theorem d_M_init_115 : decode b_M_init 115 = .ok (.putfield 61, 3) := by decide +kernel
theorem d_M_init_118 : decode b_M_init 118 = .ok (.aload_n 0, 1) := by decide +kernel
theorem d_M_init_119 : decode b_M_init 119 = .ok (.sipush 2250, 3) := by decide +kernel
theorem d_M_init_122 : decode b_M_init 122 = .ok (.newarray .int, 2) := by decide +kernel
theorem d_M_init_124 : decode b_M_init 124 = .ok (.putfield 64, 3) := by decide +kernel
theorem d_M_init_127 : decode b_M_init 127 = .ok (.return_, 1) := by decide +kernel
theorem d_M_thrown_0 : decode b_M_thrown 0 = .ok (.aload_n 0, 1) := by decide +kernel
theorem d_M_thrown_1 : decode b_M_thrown 1 = .ok (.getfield 7, 3) := by decide +kernel
theorem d_M_thrown_4 : decode b_M_thrown 4 = .ok (.ireturn, 1) := by decide +kernel
theorem d_M_group_0 : decode b_M_group 0 = .ok (.iload_n 2, 1) := by decide +kernel
theorem d_M_group_1 : decode b_M_group 1 = .ok (.bipush 11, 2) := by decide +kernel
theorem d_M_group_3 : decode b_M_group 3 = .ok (.if_icmp .lt 51, 3) := by decide +kernel
theorem d_M_group_6 : decode b_M_group 6 = .ok (.iload_n 2, 1) := by decide +kernel
theorem d_M_group_7 : decode b_M_group 7 = .ok (.sipush 32749, 3) := by decide +kernel
theorem d_M_group_10 : decode b_M_group 10 = .ok (.if_icmp .gt 44, 3) := by decide +kernel
theorem d_M_group_13 : decode b_M_group 13 = .ok (.iload_n 1, 1) := by decide +kernel
theorem d_M_group_14 : decode b_M_group 14 = .ok (.iload_n 2, 1) := by decide +kernel
theorem d_M_group_15 : decode b_M_group 15 = .ok (.if_icmp .le 39, 3) := by decide +kernel
theorem d_M_group_18 : decode b_M_group 18 = .ok (.iload_n 2, 1) := by decide +kernel
theorem d_M_group_19 : decode b_M_group 19 = .ok (.invokestatic 83, 3) := by decide +kernel
theorem d_M_group_22 : decode b_M_group 22 = .ok (.ifCond .eq 32, 3) := by decide +kernel
theorem d_M_group_25 : decode b_M_group 25 = .ok (.iload_n 1, 1) := by decide +kernel
theorem d_M_group_26 : decode b_M_group 26 = .ok (.invokestatic 83, 3) := by decide +kernel
theorem d_M_group_29 : decode b_M_group 29 = .ok (.ifCond .eq 25, 3) := by decide +kernel
theorem d_M_group_32 : decode b_M_group 32 = .ok (.iload_n 1, 1) := by decide +kernel
theorem d_M_group_33 : decode b_M_group 33 = .ok (.iconst 1, 1) := by decide +kernel
theorem d_M_group_34 : decode b_M_group 34 = .ok (.isub, 1) := by decide +kernel
theorem d_M_group_35 : decode b_M_group 35 = .ok (.iload_n 2, 1) := by decide +kernel
theorem d_M_group_36 : decode b_M_group 36 = .ok (.irem, 1) := by decide +kernel
theorem d_M_group_37 : decode b_M_group 37 = .ok (.ifCond .ne 17, 3) := by decide +kernel
theorem d_M_group_40 : decode b_M_group 40 = .ok (.iload_n 3, 1) := by decide +kernel
theorem d_M_group_41 : decode b_M_group 41 = .ok (.iconst 2, 1) := by decide +kernel
theorem d_M_group_42 : decode b_M_group 42 = .ok (.if_icmp .lt 12, 3) := by decide +kernel
theorem d_M_group_45 : decode b_M_group 45 = .ok (.iload_n 3, 1) := by decide +kernel
theorem d_M_group_46 : decode b_M_group 46 = .ok (.iload_n 1, 1) := by decide +kernel
theorem d_M_group_47 : decode b_M_group 47 = .ok (.if_icmp .ge 7, 3) := by decide +kernel
theorem d_M_group_50 : decode b_M_group 50 = .ok (.iconst 1, 1) := by decide +kernel
theorem d_M_group_51 : decode b_M_group 51 = .ok (.goto 4, 3) := by decide +kernel
theorem d_M_group_54 : decode b_M_group 54 = .ok (.iconst 0, 1) := by decide +kernel
theorem d_M_group_55 : decode b_M_group 55 = .ok (.istore 4, 2) := by decide +kernel
theorem d_M_group_57 : decode b_M_group 57 = .ok (.iload 4, 2) := by decide +kernel
theorem d_M_group_59 : decode b_M_group 59 = .ok (.ifCond .eq 42, 3) := by decide +kernel
theorem d_M_group_62 : decode b_M_group 62 = .ok (.aload_n 0, 1) := by decide +kernel
theorem d_M_group_63 : decode b_M_group 63 = .ok (.getfield 13, 3) := by decide +kernel
theorem d_M_group_66 : decode b_M_group 66 = .ok (.istore 5, 2) := by decide +kernel
theorem d_M_group_68 : decode b_M_group 68 = .ok (.aload_n 0, 1) := by decide +kernel
theorem d_M_group_69 : decode b_M_group 69 = .ok (.iload_n 1, 1) := by decide +kernel
theorem d_M_group_70 : decode b_M_group 70 = .ok (.putfield 13, 3) := by decide +kernel
theorem d_M_group_73 : decode b_M_group 73 = .ok (.aload_n 0, 1) := by decide +kernel
theorem d_M_group_74 : decode b_M_group 74 = .ok (.iload_n 3, 1) := by decide +kernel
theorem d_M_group_75 : decode b_M_group 75 = .ok (.iload_n 2, 1) := by decide +kernel
theorem d_M_group_76 : decode b_M_group 76 = .ok (.invokevirtual 68, 3) := by decide +kernel
theorem d_M_group_79 : decode b_M_group 79 = .ok (.iconst 1, 1) := by decide +kernel
theorem d_M_group_80 : decode b_M_group 80 = .ok (.if_icmp .ne 7, 3) := by decide +kernel
theorem d_M_group_83 : decode b_M_group 83 = .ok (.iconst 1, 1) := by decide +kernel
theorem d_M_group_84 : decode b_M_group 84 = .ok (.goto 4, 3) := by decide +kernel
theorem d_M_group_87 : decode b_M_group 87 = .ok (.iconst 0, 1) := by decide +kernel
theorem d_M_group_88 : decode b_M_group 88 = .ok (.istore 4, 2) := by decide +kernel
theorem d_M_group_90 : decode b_M_group 90 = .ok (.iload 4, 2) := by decide +kernel
theorem d_M_group_92 : decode b_M_group 92 = .ok (.ifCond .ne 9, 3) := by decide +kernel
theorem d_M_group_95 : decode b_M_group 95 = .ok (.aload_n 0, 1) := by decide +kernel
theorem d_M_group_96 : decode b_M_group 96 = .ok (.iload 5, 2) := by decide +kernel
theorem d_M_group_98 : decode b_M_group 98 = .ok (.putfield 13, 3) := by decide +kernel
theorem d_M_group_101 : decode b_M_group 101 = .ok (.aload_n 0, 1) := by decide +kernel
theorem d_M_group_102 : decode b_M_group 102 = .ok (.iload 4, 2) := by decide +kernel
theorem d_M_group_104 : decode b_M_group 104 = .ok (.ifCond .eq 7, 3) := by decide +kernel
theorem d_M_group_107 : decode b_M_group 107 = .ok (.iconst 0, 1) := by decide +kernel
theorem d_M_group_108 : decode b_M_group 108 = .ok (.goto 4, 3) := by decide +kernel
theorem d_M_group_111 : decode b_M_group 111 = .ok (.iconst 1, 1) := by decide +kernel
theorem d_M_group_112 : decode b_M_group 112 = .ok (.putfield 7, 3) := by decide +kernel
theorem d_M_group_115 : decode b_M_group 115 = .ok (.iload 4, 2) := by decide +kernel
theorem d_M_group_117 : decode b_M_group 117 = .ok (.ifCond .ne 4, 3) := by decide +kernel
theorem d_M_group_120 : decode b_M_group 120 = .ok (.return_, 1) := by decide +kernel
theorem d_M_group_121 : decode b_M_group 121 = .ok (.aload_n 0, 1) := by decide +kernel
theorem d_M_group_122 : decode b_M_group 122 = .ok (.iload_n 2, 1) := by decide +kernel
theorem d_M_group_123 : decode b_M_group 123 = .ok (.putfield 16, 3) := by decide +kernel
theorem d_M_group_126 : decode b_M_group 126 = .ok (.aload_n 0, 1) := by decide +kernel
theorem d_M_group_127 : decode b_M_group 127 = .ok (.iload_n 3, 1) := by decide +kernel
theorem d_M_group_128 : decode b_M_group 128 = .ok (.putfield 19, 3) := by decide +kernel
theorem d_M_group_131 : decode b_M_group 131 = .ok (.aload_n 0, 1) := by decide +kernel
theorem d_M_group_132 : decode b_M_group 132 = .ok (.iconst 0, 1) := by decide +kernel
theorem d_M_group_133 : decode b_M_group 133 = .ok (.putfield 22, 3) := by decide +kernel
theorem d_M_group_136 : decode b_M_group 136 = .ok (.aload_n 0, 1) := by decide +kernel
theorem d_M_group_137 : decode b_M_group 137 = .ok (.iconst 0, 1) := by decide +kernel
theorem d_M_group_138 : decode b_M_group 138 = .ok (.putfield 26, 3) := by decide +kernel
theorem d_M_group_141 : decode b_M_group 141 = .ok (.aload_n 0, 1) := by decide +kernel
theorem d_M_group_142 : decode b_M_group 142 = .ok (.iconst 0, 1) := by decide +kernel
theorem d_M_group_143 : decode b_M_group 143 = .ok (.putfield 61, 3) := by decide +kernel
theorem d_M_group_146 : decode b_M_group 146 = .ok (.return_, 1) := by decide +kernel
theorem d_M_prime_0 : decode b_M_prime 0 = .ok (.iload_n 0, 1) := by decide +kernel
theorem d_M_prime_1 : decode b_M_prime 1 = .ok (.iconst 2, 1) := by decide +kernel
theorem d_M_prime_2 : decode b_M_prime 2 = .ok (.if_icmp .ge 5, 3) := by decide +kernel
theorem d_M_prime_5 : decode b_M_prime 5 = .ok (.iconst 0, 1) := by decide +kernel
theorem d_M_prime_6 : decode b_M_prime 6 = .ok (.ireturn, 1) := by decide +kernel
theorem d_M_prime_7 : decode b_M_prime 7 = .ok (.iconst 2, 1) := by decide +kernel
theorem d_M_prime_8 : decode b_M_prime 8 = .ok (.istore_n 1, 1) := by decide +kernel
theorem d_M_prime_9 : decode b_M_prime 9 = .ok (.iload_n 1, 1) := by decide +kernel
theorem d_M_prime_10 : decode b_M_prime 10 = .ok (.ldc 67, 2) := by decide +kernel
theorem d_M_prime_12 : decode b_M_prime 12 = .ok (.if_icmp .ge 24, 3) := by decide +kernel
theorem d_M_prime_15 : decode b_M_prime 15 = .ok (.iload_n 1, 1) := by decide +kernel
theorem d_M_prime_16 : decode b_M_prime 16 = .ok (.iload_n 1, 1) := by decide +kernel
theorem d_M_prime_17 : decode b_M_prime 17 = .ok (.imul, 1) := by decide +kernel
theorem d_M_prime_18 : decode b_M_prime 18 = .ok (.iload_n 0, 1) := by decide +kernel
theorem d_M_prime_19 : decode b_M_prime 19 = .ok (.if_icmp .gt 17, 3) := by decide +kernel
theorem d_M_prime_22 : decode b_M_prime 22 = .ok (.iload_n 0, 1) := by decide +kernel
theorem d_M_prime_23 : decode b_M_prime 23 = .ok (.iload_n 1, 1) := by decide +kernel
theorem d_M_prime_24 : decode b_M_prime 24 = .ok (.irem, 1) := by decide +kernel
theorem d_M_prime_25 : decode b_M_prime 25 = .ok (.ifCond .ne 5, 3) := by decide +kernel
theorem d_M_prime_28 : decode b_M_prime 28 = .ok (.iconst 0, 1) := by decide +kernel
theorem d_M_prime_29 : decode b_M_prime 29 = .ok (.ireturn, 1) := by decide +kernel
theorem d_M_prime_30 : decode b_M_prime 30 = .ok (.iinc 1 1, 3) := by decide +kernel
theorem d_M_prime_33 : decode b_M_prime 33 = .ok (.goto (-24), 3) := by decide +kernel
theorem d_M_prime_36 : decode b_M_prime 36 = .ok (.iconst 1, 1) := by decide +kernel
theorem d_M_prime_37 : decode b_M_prime 37 = .ok (.ireturn, 1) := by decide +kernel
theorem d_M_power_0 : decode b_M_power 0 = .ok (.lconst 1, 1) := by decide +kernel
theorem d_M_power_1 : decode b_M_power 1 = .ok (.lstore_n 3, 1) := by decide +kernel
theorem d_M_power_2 : decode b_M_power 2 = .ok (.iload_n 1, 1) := by decide +kernel
theorem d_M_power_3 : decode b_M_power 3 = .ok (.aload_n 0, 1) := by decide +kernel
theorem d_M_power_4 : decode b_M_power 4 = .ok (.getfield 13, 3) := by decide +kernel
theorem d_M_power_7 : decode b_M_power 7 = .ok (.irem, 1) := by decide +kernel
theorem d_M_power_8 : decode b_M_power 8 = .ok (.i2l, 1) := by decide +kernel
theorem d_M_power_9 : decode b_M_power 9 = .ok (.lstore 5, 2) := by decide +kernel
theorem d_M_power_11 : decode b_M_power 11 = .ok (.iload_n 2, 1) := by decide +kernel
theorem d_M_power_12 : decode b_M_power 12 = .ok (.istore 7, 2) := by decide +kernel
theorem d_M_power_14 : decode b_M_power 14 = .ok (.iload 7, 2) := by decide +kernel
theorem d_M_power_16 : decode b_M_power 16 = .ok (.ifCond .le 44, 3) := by decide +kernel
theorem d_M_power_19 : decode b_M_power 19 = .ok (.iload 7, 2) := by decide +kernel
theorem d_M_power_21 : decode b_M_power 21 = .ok (.iconst 1, 1) := by decide +kernel
theorem d_M_power_22 : decode b_M_power 22 = .ok (.iand, 1) := by decide +kernel
theorem d_M_power_23 : decode b_M_power 23 = .ok (.iconst 1, 1) := by decide +kernel
theorem d_M_power_24 : decode b_M_power 24 = .ok (.if_icmp .ne 14, 3) := by decide +kernel
theorem d_M_power_27 : decode b_M_power 27 = .ok (.lload_n 3, 1) := by decide +kernel
theorem d_M_power_28 : decode b_M_power 28 = .ok (.lload 5, 2) := by decide +kernel
theorem d_M_power_30 : decode b_M_power 30 = .ok (.lmul, 1) := by decide +kernel
theorem d_M_power_31 : decode b_M_power 31 = .ok (.aload_n 0, 1) := by decide +kernel
theorem d_M_power_32 : decode b_M_power 32 = .ok (.getfield 13, 3) := by decide +kernel
theorem d_M_power_35 : decode b_M_power 35 = .ok (.i2l, 1) := by decide +kernel
theorem d_M_power_36 : decode b_M_power 36 = .ok (.lrem, 1) := by decide +kernel
theorem d_M_power_37 : decode b_M_power 37 = .ok (.lstore_n 3, 1) := by decide +kernel
theorem d_M_power_38 : decode b_M_power 38 = .ok (.lload 5, 2) := by decide +kernel
theorem d_M_power_40 : decode b_M_power 40 = .ok (.lload 5, 2) := by decide +kernel
theorem d_M_power_42 : decode b_M_power 42 = .ok (.lmul, 1) := by decide +kernel
theorem d_M_power_43 : decode b_M_power 43 = .ok (.aload_n 0, 1) := by decide +kernel
theorem d_M_power_44 : decode b_M_power 44 = .ok (.getfield 13, 3) := by decide +kernel
theorem d_M_power_47 : decode b_M_power 47 = .ok (.i2l, 1) := by decide +kernel
theorem d_M_power_48 : decode b_M_power 48 = .ok (.lrem, 1) := by decide +kernel
theorem d_M_power_49 : decode b_M_power 49 = .ok (.lstore 5, 2) := by decide +kernel
theorem d_M_power_51 : decode b_M_power 51 = .ok (.iload 7, 2) := by decide +kernel
theorem d_M_power_53 : decode b_M_power 53 = .ok (.iconst 1, 1) := by decide +kernel
theorem d_M_power_54 : decode b_M_power 54 = .ok (.ishr, 1) := by decide +kernel
theorem d_M_power_55 : decode b_M_power 55 = .ok (.istore 7, 2) := by decide +kernel
theorem d_M_power_57 : decode b_M_power 57 = .ok (.goto (-43), 3) := by decide +kernel
theorem d_M_power_60 : decode b_M_power 60 = .ok (.lload_n 3, 1) := by decide +kernel
theorem d_M_power_61 : decode b_M_power 61 = .ok (.l2i, 1) := by decide +kernel
theorem d_M_power_62 : decode b_M_power 62 = .ok (.ireturn, 1) := by decide +kernel
