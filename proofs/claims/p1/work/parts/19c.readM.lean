set_option maxRecDepth 20000 in
theorem dX12_starts_0 : decode cX12_starts 0 = .ok (.aload_n 0, 1) := by decide +kernel
set_option maxRecDepth 20000 in
theorem dX12_starts_1 : decode cX12_starts 1 = .ok (.aload_n 1, 1) := by decide +kernel
set_option maxRecDepth 20000 in
theorem dX12_starts_2 : decode cX12_starts 2 = .ok (.putfield 23, 3) := by decide +kernel
set_option maxRecDepth 20000 in
theorem dX12_starts_5 : decode cX12_starts 5 = .ok (.aload_n 0, 1) := by decide +kernel
set_option maxRecDepth 20000 in
theorem dX12_starts_6 : decode cX12_starts 6 = .ok (.iload_n 2, 1) := by decide +kernel
set_option maxRecDepth 20000 in
theorem dX12_starts_7 : decode cX12_starts 7 = .ok (.putfield 119, 3) := by decide +kernel
set_option maxRecDepth 20000 in
theorem dX12_starts_10 : decode cX12_starts 10 = .ok (.aload_n 0, 1) := by decide +kernel
set_option maxRecDepth 20000 in
theorem dX12_starts_11 : decode cX12_starts 11 = .ok (.iload_n 3, 1) := by decide +kernel
set_option maxRecDepth 20000 in
theorem dX12_starts_12 : decode cX12_starts 12 = .ok (.putfield 116, 3) := by decide +kernel
set_option maxRecDepth 20000 in
theorem dX12_starts_15 : decode cX12_starts 15 = .ok (.aload_n 0, 1) := by decide +kernel
set_option maxRecDepth 20000 in
theorem dX12_starts_16 : decode cX12_starts 16 = .ok (.iconst 0, 1) := by decide +kernel
set_option maxRecDepth 20000 in
theorem dX12_starts_17 : decode cX12_starts 17 = .ok (.putfield 113, 3) := by decide +kernel
set_option maxRecDepth 20000 in
theorem dX12_starts_20 : decode cX12_starts 20 = .ok (.aload_n 0, 1) := by decide +kernel
set_option maxRecDepth 20000 in
theorem dX12_starts_21 : decode cX12_starts 21 = .ok (.iconst (-1), 1) := by decide +kernel
set_option maxRecDepth 20000 in
theorem dX12_starts_22 : decode cX12_starts 22 = .ok (.putfield 122, 3) := by decide +kernel
set_option maxRecDepth 20000 in
theorem dX12_starts_25 : decode cX12_starts 25 = .ok (.return_, 1) := by decide +kernel
set_option maxRecDepth 20000 in
theorem dX12_look_0 : decode cX12_look 0 = .ok (.aload_n 0, 1) := by decide +kernel
set_option maxRecDepth 20000 in
theorem dX12_look_1 : decode cX12_look 1 = .ok (.getfield 113, 3) := by decide +kernel
set_option maxRecDepth 20000 in
theorem dX12_look_4 : decode cX12_look 4 = .ok (.aload_n 0, 1) := by decide +kernel
set_option maxRecDepth 20000 in
theorem dX12_look_5 : decode cX12_look 5 = .ok (.getfield 116, 3) := by decide +kernel
set_option maxRecDepth 20000 in
theorem dX12_look_8 : decode cX12_look 8 = .ok (.if_icmp .ge 35, 3) := by decide +kernel
set_option maxRecDepth 20000 in
theorem dX12_look_43 : decode cX12_look 43 = .ok (.aload_n 0, 1) := by decide +kernel
set_option maxRecDepth 20000 in
theorem dX12_look_44 : decode cX12_look 44 = .ok (.getfield 113, 3) := by decide +kernel
set_option maxRecDepth 20000 in
theorem dX12_look_47 : decode cX12_look 47 = .ok (.aload_n 0, 1) := by decide +kernel
set_option maxRecDepth 20000 in
theorem dX12_look_48 : decode cX12_look 48 = .ok (.getfield 116, 3) := by decide +kernel
set_option maxRecDepth 20000 in
theorem dX12_look_51 : decode cX12_look 51 = .ok (.if_icmp .ge 24, 3) := by decide +kernel
set_option maxRecDepth 20000 in
theorem dX12_look_75 : decode cX12_look 75 = .ok (.iconst (-1), 1) := by decide +kernel
set_option maxRecDepth 20000 in
theorem dX12_look_76 : decode cX12_look 76 = .ok (.ireturn, 1) := by decide +kernel
set_option maxRecDepth 20000 in
theorem dX12_isDigit_0 : decode cX12_isDigit 0 = .ok (.aload_n 0, 1) := by decide +kernel
set_option maxRecDepth 20000 in
theorem dX12_isDigit_1 : decode cX12_isDigit 1 = .ok (.getfield 113, 3) := by decide +kernel
set_option maxRecDepth 20000 in
theorem dX12_isDigit_4 : decode cX12_isDigit 4 = .ok (.aload_n 0, 1) := by decide +kernel
set_option maxRecDepth 20000 in
theorem dX12_isDigit_5 : decode cX12_isDigit 5 = .ok (.getfield 116, 3) := by decide +kernel
set_option maxRecDepth 20000 in
theorem dX12_isDigit_8 : decode cX12_isDigit 8 = .ok (.if_icmp .ge 45, 3) := by decide +kernel
set_option maxRecDepth 20000 in
theorem dX12_isDigit_53 : decode cX12_isDigit 53 = .ok (.iconst 0, 1) := by decide +kernel
set_option maxRecDepth 20000 in
theorem dX12_isDigit_54 : decode cX12_isDigit 54 = .ok (.ireturn, 1) := by decide +kernel
set_option maxRecDepth 20000 in
theorem dX12_fails_0 : decode cX12_fails 0 = .ok (.aload_n 0, 1) := by decide +kernel
set_option maxRecDepth 20000 in
theorem dX12_fails_1 : decode cX12_fails 1 = .ok (.getfield 122, 3) := by decide +kernel
set_option maxRecDepth 20000 in
theorem dX12_fails_4 : decode cX12_fails 4 = .ok (.iconst (-1), 1) := by decide +kernel
set_option maxRecDepth 20000 in
theorem dX12_fails_5 : decode cX12_fails 5 = .ok (.if_icmp .ne 11, 3) := by decide +kernel
set_option maxRecDepth 20000 in
theorem dX12_fails_8 : decode cX12_fails 8 = .ok (.aload_n 0, 1) := by decide +kernel
set_option maxRecDepth 20000 in
theorem dX12_fails_9 : decode cX12_fails 9 = .ok (.aload_n 0, 1) := by decide +kernel
set_option maxRecDepth 20000 in
theorem dX12_fails_10 : decode cX12_fails 10 = .ok (.getfield 113, 3) := by decide +kernel
set_option maxRecDepth 20000 in
theorem dX12_fails_13 : decode cX12_fails 13 = .ok (.putfield 122, 3) := by decide +kernel
set_option maxRecDepth 20000 in
theorem dX12_fails_16 : decode cX12_fails 16 = .ok (.iconst 0, 1) := by decide +kernel
set_option maxRecDepth 20000 in
theorem dX12_fails_17 : decode cX12_fails 17 = .ok (.ireturn, 1) := by decide +kernel
set_option maxRecDepth 20000 in
theorem dX12_readWalk_0 : decode cX12_readWalk 0 = .ok (.aload_n 0, 1) := by decide +kernel
set_option maxRecDepth 20000 in
theorem dX12_readWalk_1 : decode cX12_readWalk 1 = .ok (.aload_n 0, 1) := by decide +kernel
set_option maxRecDepth 20000 in
theorem dX12_readWalk_2 : decode cX12_readWalk 2 = .ok (.getfield 9, 3) := by decide +kernel
set_option maxRecDepth 20000 in
theorem dX12_readWalk_5 : decode cX12_readWalk 5 = .ok (.iconst 0, 1) := by decide +kernel
set_option maxRecDepth 20000 in
theorem dX12_readWalk_6 : decode cX12_readWalk 6 = .ok (.aload_n 0, 1) := by decide +kernel
set_option maxRecDepth 20000 in
theorem dX12_readWalk_7 : decode cX12_readWalk 7 = .ok (.getfield 103, 3) := by decide +kernel
set_option maxRecDepth 20000 in
theorem dX12_readWalk_10 : decode cX12_readWalk 10 = .ok (.invokevirtual 201, 3) := by decide +kernel
set_option maxRecDepth 20000 in
theorem dX12_readWalk_13 : decode cX12_readWalk 13 = .ok (.iconst 0, 1) := by decide +kernel
set_option maxRecDepth 20000 in
theorem dX12_readWalk_14 : decode cX12_readWalk 14 = .ok (.istore_n 1, 1) := by decide +kernel
set_option maxRecDepth 20000 in
theorem dX12_readWalk_15 : decode cX12_readWalk 15 = .ok (.aload_n 0, 1) := by decide +kernel
set_option maxRecDepth 20000 in
theorem dX12_readWalk_16 : decode cX12_readWalk 16 = .ok (.invokevirtual 132, 3) := by decide +kernel
set_option maxRecDepth 20000 in
theorem dX12_readWalk_19 : decode cX12_readWalk 19 = .ok (.pop, 1) := by decide +kernel
set_option maxRecDepth 20000 in
theorem dX12_readWalk_20 : decode cX12_readWalk 20 = .ok (.aload_n 0, 1) := by decide +kernel
set_option maxRecDepth 20000 in
theorem dX12_readWalk_21 : decode cX12_readWalk 21 = .ok (.invokevirtual 162, 3) := by decide +kernel
set_option maxRecDepth 20000 in
theorem dX12_readWalk_24 : decode cX12_readWalk 24 = .ok (.ifCond .eq 55, 3) := by decide +kernel
set_option maxRecDepth 20000 in
theorem dX12_readWalk_79 : decode cX12_readWalk 79 = .ok (.aload_n 0, 1) := by decide +kernel
set_option maxRecDepth 20000 in
theorem dX12_readWalk_80 : decode cX12_readWalk 80 = .ok (.getfield 55, 3) := by decide +kernel
set_option maxRecDepth 20000 in
theorem dX12_readWalk_83 : decode cX12_readWalk 83 = .ok (.iconst 4, 1) := by decide +kernel
set_option maxRecDepth 20000 in
theorem dX12_readWalk_84 : decode cX12_readWalk 84 = .ok (.iload_n 1, 1) := by decide +kernel
set_option maxRecDepth 20000 in
theorem dX12_readWalk_85 : decode cX12_readWalk 85 = .ok (.iastore, 1) := by decide +kernel
set_option maxRecDepth 20000 in
theorem dX12_readWalk_86 : decode cX12_readWalk 86 = .ok (.iload_n 1, 1) := by decide +kernel
set_option maxRecDepth 20000 in
theorem dX12_readWalk_87 : decode cX12_readWalk 87 = .ok (.ifCond .eq 11, 3) := by decide +kernel
set_option maxRecDepth 20000 in
theorem dX12_readWalk_98 : decode cX12_readWalk 98 = .ok (.aload_n 0, 1) := by decide +kernel
set_option maxRecDepth 20000 in
theorem dX12_readWalk_99 : decode cX12_readWalk 99 = .ok (.invokevirtual 128, 3) := by decide +kernel
set_option maxRecDepth 20000 in
theorem dX12_readWalk_102 : decode cX12_readWalk 102 = .ok (.pop, 1) := by decide +kernel
set_option maxRecDepth 20000 in
theorem dX12_readWalk_103 : decode cX12_readWalk 103 = .ok (.return_, 1) := by decide +kernel
set_option maxRecDepth 20000 in
theorem dJ0_coder_7d493_0 : decode cJ0_coder_7d493 0 = .ok (.getstatic 38, 3) := by decide +kernel
set_option maxRecDepth 20000 in
theorem dJ0_coder_7d493_3 : decode cJ0_coder_7d493 3 = .ok (.ifCond .eq 10, 3) := by decide +kernel
set_option maxRecDepth 20000 in
theorem dJ0_coder_7d493_6 : decode cJ0_coder_7d493 6 = .ok (.aload_n 0, 1) := by decide +kernel
set_option maxRecDepth 20000 in
theorem dJ0_coder_7d493_7 : decode cJ0_coder_7d493 7 = .ok (.getfield 15, 3) := by decide +kernel
set_option maxRecDepth 20000 in
theorem dJ0_coder_7d493_10 : decode cJ0_coder_7d493 10 = .ok (.goto 4, 3) := by decide +kernel
set_option maxRecDepth 20000 in
theorem dJ0_coder_7d493_14 : decode cJ0_coder_7d493 14 = .ok (.ireturn, 1) := by decide +kernel
set_option maxRecDepth 20000 in
theorem dJ0_length_8abf5_0 : decode cJ0_length_8abf5 0 = .ok (.aload_n 0, 1) := by decide +kernel
set_option maxRecDepth 20000 in
theorem dJ0_length_8abf5_1 : decode cJ0_length_8abf5 1 = .ok (.getfield 9, 3) := by decide +kernel
set_option maxRecDepth 20000 in
theorem dJ0_length_8abf5_4 : decode cJ0_length_8abf5 4 = .ok (.arraylength, 1) := by decide +kernel
set_option maxRecDepth 20000 in
theorem dJ0_length_8abf5_5 : decode cJ0_length_8abf5 5 = .ok (.aload_n 0, 1) := by decide +kernel
set_option maxRecDepth 20000 in
theorem dJ0_length_8abf5_6 : decode cJ0_length_8abf5 6 = .ok (.invokevirtual 335, 3) := by decide +kernel
set_option maxRecDepth 20000 in
theorem dJ0_length_8abf5_9 : decode cJ0_length_8abf5 9 = .ok (.ishr, 1) := by decide +kernel
set_option maxRecDepth 20000 in
theorem dJ0_length_8abf5_10 : decode cJ0_length_8abf5 10 = .ok (.ireturn, 1) := by decide +kernel
set_option maxRecDepth 20000 in
theorem dJ0_isLatin1_aae02_0 : decode cJ0_isLatin1_aae02 0 = .ok (.getstatic 38, 3) := by decide +kernel
set_option maxRecDepth 20000 in
theorem dJ0_isLatin1_aae02_3 : decode cJ0_isLatin1_aae02 3 = .ok (.ifCond .eq 14, 3) := by decide +kernel
set_option maxRecDepth 20000 in
theorem dJ0_isLatin1_aae02_6 : decode cJ0_isLatin1_aae02 6 = .ok (.aload_n 0, 1) := by decide +kernel
set_option maxRecDepth 20000 in
theorem dJ0_isLatin1_aae02_7 : decode cJ0_isLatin1_aae02 7 = .ok (.getfield 15, 3) := by decide +kernel
set_option maxRecDepth 20000 in
theorem dJ0_isLatin1_aae02_10 : decode cJ0_isLatin1_aae02 10 = .ok (.ifCond .ne 7, 3) := by decide +kernel
set_option maxRecDepth 20000 in
theorem dJ0_isLatin1_aae02_13 : decode cJ0_isLatin1_aae02 13 = .ok (.iconst 1, 1) := by decide +kernel
set_option maxRecDepth 20000 in
theorem dJ0_isLatin1_aae02_14 : decode cJ0_isLatin1_aae02 14 = .ok (.goto 4, 3) := by decide +kernel
set_option maxRecDepth 20000 in
theorem dJ0_isLatin1_aae02_18 : decode cJ0_isLatin1_aae02 18 = .ok (.ireturn, 1) := by decide +kernel
set_option maxRecDepth 20000 in
theorem dJ3_checkIndex_8e157_0 : decode cJ3_checkIndex_8e157 0 = .ok (.iload_n 0, 1) := by decide +kernel
set_option maxRecDepth 20000 in
theorem dJ3_checkIndex_8e157_1 : decode cJ3_checkIndex_8e157 1 = .ok (.ifCond .lt 8, 3) := by decide +kernel
set_option maxRecDepth 20000 in
theorem dJ3_checkIndex_8e157_4 : decode cJ3_checkIndex_8e157 4 = .ok (.iload_n 0, 1) := by decide +kernel
set_option maxRecDepth 20000 in
theorem dJ3_checkIndex_8e157_5 : decode cJ3_checkIndex_8e157 5 = .ok (.iload_n 1, 1) := by decide +kernel
set_option maxRecDepth 20000 in
theorem dJ3_checkIndex_8e157_6 : decode cJ3_checkIndex_8e157 6 = .ok (.if_icmp .lt 10, 3) := by decide +kernel
set_option maxRecDepth 20000 in
theorem dJ3_checkIndex_8e157_16 : decode cJ3_checkIndex_8e157 16 = .ok (.iload_n 0, 1) := by decide +kernel
set_option maxRecDepth 20000 in
theorem dJ3_checkIndex_8e157_17 : decode cJ3_checkIndex_8e157 17 = .ok (.ireturn, 1) := by decide +kernel
set_option maxRecDepth 20000 in
theorem dJ0_checkIndex_df160_0 : decode cJ0_checkIndex_df160 0 = .ok (.iload_n 0, 1) := by decide +kernel
set_option maxRecDepth 20000 in
theorem dJ0_checkIndex_df160_1 : decode cJ0_checkIndex_df160 1 = .ok (.iload_n 1, 1) := by decide +kernel
set_option maxRecDepth 20000 in
theorem dJ0_checkIndex_df160_2 : decode cJ0_checkIndex_df160 2 = .ok (.getstatic 1053, 3) := by decide +kernel
set_option maxRecDepth 20000 in
theorem dJ0_checkIndex_df160_5 : decode cJ0_checkIndex_df160 5 = .ok (.invokestatic 1059, 3) := by decide +kernel
set_option maxRecDepth 20000 in
theorem dJ0_checkIndex_df160_8 : decode cJ0_checkIndex_df160 8 = .ok (.pop, 1) := by decide +kernel
set_option maxRecDepth 20000 in
theorem dJ0_checkIndex_df160_9 : decode cJ0_checkIndex_df160 9 = .ok (.return_, 1) := by decide +kernel
set_option maxRecDepth 20000 in
theorem dJ1_charAt_3b067_0 : decode cJ1_charAt_3b067 0 = .ok (.iload_n 1, 1) := by decide +kernel
set_option maxRecDepth 20000 in
theorem dJ1_charAt_3b067_1 : decode cJ1_charAt_3b067 1 = .ok (.aload_n 0, 1) := by decide +kernel
set_option maxRecDepth 20000 in
theorem dJ1_charAt_3b067_2 : decode cJ1_charAt_3b067 2 = .ok (.arraylength, 1) := by decide +kernel
set_option maxRecDepth 20000 in
theorem dJ1_charAt_3b067_3 : decode cJ1_charAt_3b067 3 = .ok (.invokestatic 9, 3) := by decide +kernel
set_option maxRecDepth 20000 in
theorem dJ1_charAt_3b067_6 : decode cJ1_charAt_3b067 6 = .ok (.aload_n 0, 1) := by decide +kernel
set_option maxRecDepth 20000 in
theorem dJ1_charAt_3b067_7 : decode cJ1_charAt_3b067 7 = .ok (.iload_n 1, 1) := by decide +kernel
set_option maxRecDepth 20000 in
theorem dJ1_charAt_3b067_8 : decode cJ1_charAt_3b067 8 = .ok (.baload, 1) := by decide +kernel
set_option maxRecDepth 20000 in
theorem dJ1_charAt_3b067_9 : decode cJ1_charAt_3b067 9 = .ok (.sipush 255, 3) := by decide +kernel
set_option maxRecDepth 20000 in
theorem dJ1_charAt_3b067_12 : decode cJ1_charAt_3b067 12 = .ok (.iand, 1) := by decide +kernel
set_option maxRecDepth 20000 in
theorem dJ1_charAt_3b067_13 : decode cJ1_charAt_3b067 13 = .ok (.i2c, 1) := by decide +kernel
set_option maxRecDepth 20000 in
theorem dJ1_charAt_3b067_14 : decode cJ1_charAt_3b067 14 = .ok (.ireturn, 1) := by decide +kernel
set_option maxRecDepth 20000 in
theorem dJ0_charAt_5068e_0 : decode cJ0_charAt_5068e 0 = .ok (.aload_n 0, 1) := by decide +kernel
set_option maxRecDepth 20000 in
theorem dJ0_charAt_5068e_1 : decode cJ0_charAt_5068e 1 = .ok (.invokevirtual 492, 3) := by decide +kernel
set_option maxRecDepth 20000 in
theorem dJ0_charAt_5068e_4 : decode cJ0_charAt_5068e 4 = .ok (.ifCond .eq 12, 3) := by decide +kernel
set_option maxRecDepth 20000 in
theorem dJ0_charAt_5068e_7 : decode cJ0_charAt_5068e 7 = .ok (.aload_n 0, 1) := by decide +kernel
set_option maxRecDepth 20000 in
theorem dJ0_charAt_5068e_8 : decode cJ0_charAt_5068e 8 = .ok (.getfield 9, 3) := by decide +kernel
set_option maxRecDepth 20000 in
theorem dJ0_charAt_5068e_11 : decode cJ0_charAt_5068e 11 = .ok (.iload_n 1, 1) := by decide +kernel
set_option maxRecDepth 20000 in
theorem dJ0_charAt_5068e_12 : decode cJ0_charAt_5068e 12 = .ok (.invokestatic 495, 3) := by decide +kernel
set_option maxRecDepth 20000 in
theorem dJ0_charAt_5068e_15 : decode cJ0_charAt_5068e 15 = .ok (.ireturn, 1) := by decide +kernel
set_option maxRecDepth 20000 in
theorem dX12_isAmong_0 : decode cX12_isAmong 0 = .ok (.iconst 0, 1) := by decide +kernel
set_option maxRecDepth 20000 in
theorem dX12_isAmong_1 : decode cX12_isAmong 1 = .ok (.istore_n 2, 1) := by decide +kernel
set_option maxRecDepth 20000 in
theorem dX12_isAmong_2 : decode cX12_isAmong 2 = .ok (.iload_n 2, 1) := by decide +kernel
set_option maxRecDepth 20000 in
theorem dX12_isAmong_3 : decode cX12_isAmong 3 = .ok (.aload_n 0, 1) := by decide +kernel
set_option maxRecDepth 20000 in
theorem dX12_isAmong_4 : decode cX12_isAmong 4 = .ok (.invokevirtual 93, 3) := by decide +kernel
set_option maxRecDepth 20000 in
theorem dX12_isAmong_7 : decode cX12_isAmong 7 = .ok (.if_icmp .ge 20, 3) := by decide +kernel
set_option maxRecDepth 20000 in
theorem dX12_isAmong_10 : decode cX12_isAmong 10 = .ok (.aload_n 0, 1) := by decide +kernel
set_option maxRecDepth 20000 in
theorem dX12_isAmong_11 : decode cX12_isAmong 11 = .ok (.iload_n 2, 1) := by decide +kernel
set_option maxRecDepth 20000 in
theorem dX12_isAmong_12 : decode cX12_isAmong 12 = .ok (.invokevirtual 99, 3) := by decide +kernel
set_option maxRecDepth 20000 in
theorem dX12_isAmong_15 : decode cX12_isAmong 15 = .ok (.iload_n 1, 1) := by decide +kernel
set_option maxRecDepth 20000 in
theorem dX12_isAmong_16 : decode cX12_isAmong 16 = .ok (.if_icmp .ne 5, 3) := by decide +kernel
set_option maxRecDepth 20000 in
theorem dX12_isAmong_21 : decode cX12_isAmong 21 = .ok (.iinc 2 1, 3) := by decide +kernel
set_option maxRecDepth 20000 in
theorem dX12_isAmong_24 : decode cX12_isAmong 24 = .ok (.goto (-22), 3) := by decide +kernel
set_option maxRecDepth 20000 in
theorem dX12_isAmong_27 : decode cX12_isAmong 27 = .ok (.iconst 0, 1) := by decide +kernel
set_option maxRecDepth 20000 in
theorem dX12_isAmong_28 : decode cX12_isAmong 28 = .ok (.ireturn, 1) := by decide +kernel
set_option maxRecDepth 20000 in
theorem dX12_clause_0 : decode cX12_clause 0 = .ok (.aload_n 0, 1) := by decide +kernel
set_option maxRecDepth 20000 in
theorem dX12_clause_1 : decode cX12_clause 1 = .ok (.invokevirtual 132, 3) := by decide +kernel
set_option maxRecDepth 20000 in
theorem dX12_clause_4 : decode cX12_clause 4 = .ok (.istore_n 1, 1) := by decide +kernel
set_option maxRecDepth 20000 in
theorem dX12_clause_5 : decode cX12_clause 5 = .ok (.ldc 26, 2) := by decide +kernel
set_option maxRecDepth 20000 in
theorem dX12_clause_7 : decode cX12_clause 7 = .ok (.iload_n 1, 1) := by decide +kernel
set_option maxRecDepth 20000 in
theorem dX12_clause_8 : decode cX12_clause 8 = .ok (.invokestatic 148, 3) := by decide +kernel
set_option maxRecDepth 20000 in
theorem dX12_clause_11 : decode cX12_clause 11 = .ok (.ifCond .ne 9, 3) := by decide +kernel
set_option maxRecDepth 20000 in
theorem dX12_clause_14 : decode cX12_clause 14 = .ok (.aload_n 0, 1) := by decide +kernel
set_option maxRecDepth 20000 in
theorem dX12_clause_15 : decode cX12_clause 15 = .ok (.invokevirtual 128, 3) := by decide +kernel
set_option maxRecDepth 20000 in
theorem dX12_clause_18 : decode cX12_clause 18 = .ok (.pop, 1) := by decide +kernel
set_option maxRecDepth 20000 in
theorem dX12_clause_19 : decode cX12_clause 19 = .ok (.return_, 1) := by decide +kernel
set_option maxRecDepth 20000 in
theorem dX12_goThrough_0 : decode cX12_goThrough 0 = .ok (.aload_n 0, 1) := by decide +kernel
set_option maxRecDepth 20000 in
theorem dX12_goThrough_1 : decode cX12_goThrough 1 = .ok (.aload_n 1, 1) := by decide +kernel
set_option maxRecDepth 20000 in
theorem dX12_goThrough_2 : decode cX12_goThrough 2 = .ok (.iload_n 2, 1) := by decide +kernel
set_option maxRecDepth 20000 in
theorem dX12_goThrough_3 : decode cX12_goThrough 3 = .ok (.iload_n 3, 1) := by decide +kernel
set_option maxRecDepth 20000 in
theorem dX12_goThrough_4 : decode cX12_goThrough 4 = .ok (.invokevirtual 201, 3) := by decide +kernel
set_option maxRecDepth 20000 in
theorem dX12_goThrough_7 : decode cX12_goThrough 7 = .ok (.aload_n 0, 1) := by decide +kernel
set_option maxRecDepth 20000 in
theorem dX12_goThrough_8 : decode cX12_goThrough 8 = .ok (.bipush 121, 2) := by decide +kernel
set_option maxRecDepth 20000 in
theorem dX12_goThrough_10 : decode cX12_goThrough 10 = .ok (.putfield 195, 3) := by decide +kernel
set_option maxRecDepth 20000 in
theorem dX12_goThrough_13 : decode cX12_goThrough 13 = .ok (.aload_n 0, 1) := by decide +kernel
set_option maxRecDepth 20000 in
theorem dX12_goThrough_14 : decode cX12_goThrough 14 = .ok (.iconst 0, 1) := by decide +kernel
set_option maxRecDepth 20000 in
theorem dX12_goThrough_15 : decode cX12_goThrough 15 = .ok (.putfield 125, 3) := by decide +kernel
set_option maxRecDepth 20000 in
theorem dX12_goThrough_18 : decode cX12_goThrough 18 = .ok (.aload_n 0, 1) := by decide +kernel
set_option maxRecDepth 20000 in
theorem dX12_goThrough_19 : decode cX12_goThrough 19 = .ok (.iconst 0, 1) := by decide +kernel
set_option maxRecDepth 20000 in
theorem dX12_goThrough_20 : decode cX12_goThrough 20 = .ok (.putfield 191, 3) := by decide +kernel
set_option maxRecDepth 20000 in
theorem dX12_goThrough_23 : decode cX12_goThrough 23 = .ok (.aload_n 0, 1) := by decide +kernel
set_option maxRecDepth 20000 in
theorem dX12_goThrough_24 : decode cX12_goThrough 24 = .ok (.iconst 0, 1) := by decide +kernel
set_option maxRecDepth 20000 in
theorem dX12_goThrough_25 : decode cX12_goThrough 25 = .ok (.putfield 198, 3) := by decide +kernel
set_option maxRecDepth 20000 in
theorem dX12_goThrough_28 : decode cX12_goThrough 28 = .ok (.aload_n 0, 1) := by decide +kernel
set_option maxRecDepth 20000 in
theorem dX12_goThrough_29 : decode cX12_goThrough 29 = .ok (.invokevirtual 205, 3) := by decide +kernel
set_option maxRecDepth 20000 in
theorem dX12_goThrough_32 : decode cX12_goThrough 32 = .ok (.aload_n 0, 1) := by decide +kernel
set_option maxRecDepth 20000 in
theorem dX12_goThrough_33 : decode cX12_goThrough 33 = .ok (.getfield 122, 3) := by decide +kernel
set_option maxRecDepth 20000 in
theorem dX12_goThrough_36 : decode cX12_goThrough 36 = .ok (.iconst (-1), 1) := by decide +kernel
set_option maxRecDepth 20000 in
theorem dX12_goThrough_37 : decode cX12_goThrough 37 = .ok (.if_icmp .ne 29, 3) := by decide +kernel
set_option maxRecDepth 20000 in
theorem dX12_goThrough_66 : decode cX12_goThrough 66 = .ok (.aload_n 0, 1) := by decide +kernel
set_option maxRecDepth 20000 in
theorem dX12_goThrough_67 : decode cX12_goThrough 67 = .ok (.getfield 122, 3) := by decide +kernel
set_option maxRecDepth 20000 in
theorem dX12_goThrough_70 : decode cX12_goThrough 70 = .ok (.iconst (-1), 1) := by decide +kernel
set_option maxRecDepth 20000 in
theorem dX12_goThrough_71 : decode cX12_goThrough 71 = .ok (.if_icmp .ne 16, 3) := by decide +kernel
set_option maxRecDepth 20000 in
theorem dX12_goThrough_87 : decode cX12_goThrough 87 = .ok (.return_, 1) := by decide +kernel
set_option maxRecDepth 20000 in
theorem dX12_readClause_0 : decode cX12_readClause 0 = .ok (.aload_n 0, 1) := by decide +kernel
set_option maxRecDepth 20000 in
theorem dX12_readClause_1 : decode cX12_readClause 1 = .ok (.invokevirtual 132, 3) := by decide +kernel
set_option maxRecDepth 20000 in
theorem dX12_readClause_4 : decode cX12_readClause 4 = .ok (.istore_n 1, 1) := by decide +kernel
set_option maxRecDepth 20000 in
theorem dX12_readClause_5 : decode cX12_readClause 5 = .ok (.iload_n 1, 1) := by decide +kernel
set_option maxRecDepth 20000 in
theorem dX12_readClause_6 : decode cX12_readClause 6 = .ok (.bipush 115, 2) := by decide +kernel
set_option maxRecDepth 20000 in
theorem dX12_readClause_8 : decode cX12_readClause 8 = .ok (.if_icmp .ne 10, 3) := by decide +kernel
set_option maxRecDepth 20000 in
theorem dX12_readClause_18 : decode cX12_readClause 18 = .ok (.iload_n 1, 1) := by decide +kernel
set_option maxRecDepth 20000 in
theorem dX12_readClause_19 : decode cX12_readClause 19 = .ok (.bipush 101, 2) := by decide +kernel
set_option maxRecDepth 20000 in
theorem dX12_readClause_21 : decode cX12_readClause 21 = .ok (.if_icmp .ne 12, 3) := by decide +kernel
set_option maxRecDepth 20000 in
theorem dX12_readClause_33 : decode cX12_readClause 33 = .ok (.iload_n 1, 1) := by decide +kernel
set_option maxRecDepth 20000 in
theorem dX12_readClause_34 : decode cX12_readClause 34 = .ok (.bipush 112, 2) := by decide +kernel
set_option maxRecDepth 20000 in
theorem dX12_readClause_36 : decode cX12_readClause 36 = .ok (.if_icmp .ne 15, 3) := by decide +kernel
set_option maxRecDepth 20000 in
theorem dX12_readClause_51 : decode cX12_readClause 51 = .ok (.iconst 0, 1) := by decide +kernel
set_option maxRecDepth 20000 in
theorem dX12_readClause_52 : decode cX12_readClause 52 = .ok (.istore_n 2, 1) := by decide +kernel
set_option maxRecDepth 20000 in
theorem dX12_readClause_53 : decode cX12_readClause 53 = .ok (.iload_n 2, 1) := by decide +kernel
set_option maxRecDepth 20000 in
theorem dX12_readClause_54 : decode cX12_readClause 54 = .ok (.ifCond .ne 9, 3) := by decide +kernel
set_option maxRecDepth 20000 in
theorem dX12_readClause_57 : decode cX12_readClause 57 = .ok (.aload_n 0, 1) := by decide +kernel
set_option maxRecDepth 20000 in
theorem dX12_readClause_58 : decode cX12_readClause 58 = .ok (.invokevirtual 128, 3) := by decide +kernel
set_option maxRecDepth 20000 in
theorem dX12_readClause_61 : decode cX12_readClause 61 = .ok (.pop, 1) := by decide +kernel
set_option maxRecDepth 20000 in
theorem dX12_readClause_62 : decode cX12_readClause 62 = .ok (.return_, 1) := by decide +kernel
set_option maxRecDepth 20000 in
theorem dX12_readTown_0 : decode cX12_readTown 0 = .ok (.aload_n 0, 1) := by decide +kernel
set_option maxRecDepth 20000 in
theorem dX12_readTown_1 : decode cX12_readTown 1 = .ok (.aload_n 0, 1) := by decide +kernel
set_option maxRecDepth 20000 in
theorem dX12_readTown_2 : decode cX12_readTown 2 = .ok (.getfield 9, 3) := by decide +kernel
set_option maxRecDepth 20000 in
theorem dX12_readTown_5 : decode cX12_readTown 5 = .ok (.iconst 0, 1) := by decide +kernel
set_option maxRecDepth 20000 in
theorem dX12_readTown_6 : decode cX12_readTown 6 = .ok (.aload_n 0, 1) := by decide +kernel
set_option maxRecDepth 20000 in
theorem dX12_readTown_7 : decode cX12_readTown 7 = .ok (.getfield 103, 3) := by decide +kernel
set_option maxRecDepth 20000 in
theorem dX12_readTown_10 : decode cX12_readTown 10 = .ok (.invokevirtual 201, 3) := by decide +kernel
set_option maxRecDepth 20000 in
theorem dX12_readTown_13 : decode cX12_readTown 13 = .ok (.aload_n 0, 1) := by decide +kernel
set_option maxRecDepth 20000 in
theorem dX12_readTown_14 : decode cX12_readTown 14 = .ok (.iconst 0, 1) := by decide +kernel
set_option maxRecDepth 20000 in
theorem dX12_readTown_15 : decode cX12_readTown 15 = .ok (.putfield 239, 3) := by decide +kernel
set_option maxRecDepth 20000 in
theorem dX12_readTown_18 : decode cX12_readTown 18 = .ok (.aload_n 0, 1) := by decide +kernel
set_option maxRecDepth 20000 in
theorem dX12_readTown_19 : decode cX12_readTown 19 = .ok (.iconst 0, 1) := by decide +kernel
set_option maxRecDepth 20000 in
theorem dX12_readTown_20 : decode cX12_readTown 20 = .ok (.putfield 242, 3) := by decide +kernel
set_option maxRecDepth 20000 in
theorem dX12_readTown_23 : decode cX12_readTown 23 = .ok (.aload_n 0, 1) := by decide +kernel
set_option maxRecDepth 20000 in
theorem dX12_readTown_24 : decode cX12_readTown 24 = .ok (.iconst 0, 1) := by decide +kernel
set_option maxRecDepth 20000 in
theorem dX12_readTown_25 : decode cX12_readTown 25 = .ok (.putfield 236, 3) := by decide +kernel
set_option maxRecDepth 20000 in
theorem dX12_readTown_28 : decode cX12_readTown 28 = .ok (.aload_n 0, 1) := by decide +kernel
set_option maxRecDepth 20000 in
theorem dX12_readTown_29 : decode cX12_readTown 29 = .ok (.getfield 37, 3) := by decide +kernel
set_option maxRecDepth 20000 in
theorem dX12_readTown_32 : decode cX12_readTown 32 = .ok (.iconst 0, 1) := by decide +kernel
set_option maxRecDepth 20000 in
theorem dX12_readTown_33 : decode cX12_readTown 33 = .ok (.iconst 4, 1) := by decide +kernel
set_option maxRecDepth 20000 in
theorem dX12_readTown_34 : decode cX12_readTown 34 = .ok (.iastore, 1) := by decide +kernel
set_option maxRecDepth 20000 in
theorem dX12_readTown_35 : decode cX12_readTown 35 = .ok (.aload_n 0, 1) := by decide +kernel
set_option maxRecDepth 20000 in
theorem dX12_readTown_36 : decode cX12_readTown 36 = .ok (.getfield 37, 3) := by decide +kernel
set_option maxRecDepth 20000 in
theorem dX12_readTown_39 : decode cX12_readTown 39 = .ok (.iconst 1, 1) := by decide +kernel
set_option maxRecDepth 20000 in
theorem dX12_readTown_40 : decode cX12_readTown 40 = .ok (.bipush 20, 2) := by decide +kernel
set_option maxRecDepth 20000 in
theorem dX12_readTown_42 : decode cX12_readTown 42 = .ok (.iastore, 1) := by decide +kernel
set_option maxRecDepth 20000 in
theorem dX12_readTown_43 : decode cX12_readTown 43 = .ok (.iconst 1, 1) := by decide +kernel
set_option maxRecDepth 20000 in
theorem dX12_readTown_44 : decode cX12_readTown 44 = .ok (.istore_n 1, 1) := by decide +kernel
set_option maxRecDepth 20000 in
theorem dX12_readTown_45 : decode cX12_readTown 45 = .ok (.iload_n 1, 1) := by decide +kernel
set_option maxRecDepth 20000 in
theorem dX12_readTown_46 : decode cX12_readTown 46 = .ok (.ifCond .eq 55, 3) := by decide +kernel
set_option maxRecDepth 20000 in
theorem dX12_readTown_49 : decode cX12_readTown 49 = .ok (.aload_n 0, 1) := by decide +kernel
set_option maxRecDepth 20000 in
theorem dX12_readTown_50 : decode cX12_readTown 50 = .ok (.getfield 122, 3) := by decide +kernel
set_option maxRecDepth 20000 in
theorem dX12_readTown_53 : decode cX12_readTown 53 = .ok (.iconst (-1), 1) := by decide +kernel
set_option maxRecDepth 20000 in
theorem dX12_readTown_54 : decode cX12_readTown 54 = .ok (.if_icmp .ne 47, 3) := by decide +kernel
set_option maxRecDepth 20000 in
theorem dX12_readTown_57 : decode cX12_readTown 57 = .ok (.aload_n 0, 1) := by decide +kernel
set_option maxRecDepth 20000 in
theorem dX12_readTown_58 : decode cX12_readTown 58 = .ok (.invokevirtual 255, 3) := by decide +kernel
set_option maxRecDepth 20000 in
theorem dX12_readTown_61 : decode cX12_readTown 61 = .ok (.aload_n 0, 1) := by decide +kernel
set_option maxRecDepth 20000 in
theorem dX12_readTown_62 : decode cX12_readTown 62 = .ok (.getfield 122, 3) := by decide +kernel
set_option maxRecDepth 20000 in
theorem dX12_readTown_65 : decode cX12_readTown 65 = .ok (.iconst (-1), 1) := by decide +kernel
set_option maxRecDepth 20000 in
theorem dX12_readTown_66 : decode cX12_readTown 66 = .ok (.if_icmp .ne 16, 3) := by decide +kernel
set_option maxRecDepth 20000 in
theorem dX12_readTown_82 : decode cX12_readTown 82 = .ok (.iconst 0, 1) := by decide +kernel
set_option maxRecDepth 20000 in
theorem dX12_readTown_83 : decode cX12_readTown 83 = .ok (.istore_n 1, 1) := by decide +kernel
set_option maxRecDepth 20000 in
theorem dX12_readTown_84 : decode cX12_readTown 84 = .ok (.iload_n 1, 1) := by decide +kernel
set_option maxRecDepth 20000 in
theorem dX12_readTown_85 : decode cX12_readTown 85 = .ok (.ifCond .eq (-40), 3) := by decide +kernel
set_option maxRecDepth 20000 in
theorem dX12_readTown_101 : decode cX12_readTown 101 = .ok (.aload_n 0, 1) := by decide +kernel
set_option maxRecDepth 20000 in
theorem dX12_readTown_102 : decode cX12_readTown 102 = .ok (.getfield 122, 3) := by decide +kernel
set_option maxRecDepth 20000 in
theorem dX12_readTown_105 : decode cX12_readTown 105 = .ok (.iconst (-1), 1) := by decide +kernel
set_option maxRecDepth 20000 in
theorem dX12_readTown_106 : decode cX12_readTown 106 = .ok (.if_icmp .ne 23, 3) := by decide +kernel
set_option maxRecDepth 20000 in
theorem dX12_readTown_129 : decode cX12_readTown 129 = .ok (.return_, 1) := by decide +kernel
set_option maxRecDepth 20000 in
theorem dX12_fault_0 : decode cX12_fault 0 = .ok (.aload_n 0, 1) := by decide +kernel
set_option maxRecDepth 20000 in
theorem dX12_fault_1 : decode cX12_fault 1 = .ok (.iconst 0, 1) := by decide +kernel
set_option maxRecDepth 20000 in
theorem dX12_fault_2 : decode cX12_fault 2 = .ok (.putfield 90, 3) := by decide +kernel
set_option maxRecDepth 20000 in
theorem dX12_fault_5 : decode cX12_fault 5 = .ok (.iload_n 1, 1) := by decide +kernel
set_option maxRecDepth 20000 in
theorem dX12_fault_6 : decode cX12_fault 6 = .ok (.i2l, 1) := by decide +kernel
set_option maxRecDepth 20000 in
theorem dX12_fault_7 : decode cX12_fault 7 = .ok (.lconst 0, 1) := by decide +kernel
set_option maxRecDepth 20000 in
theorem dX12_fault_8 : decode cX12_fault 8 = .ok (.ldc2_w 261, 3) := by decide +kernel
set_option maxRecDepth 20000 in
theorem dX12_fault_11 : decode cX12_fault 11 = .ok (.invokestatic 211, 3) := by decide +kernel
set_option maxRecDepth 20000 in
theorem dX12_fault_14 : decode cX12_fault 14 = .ok (.ifCond .ne 6, 3) := by decide +kernel
set_option maxRecDepth 20000 in
theorem dX12_fault_17 : decode cX12_fault 17 = .ok (.bipush (-2), 2) := by decide +kernel
set_option maxRecDepth 20000 in
theorem dX12_fault_19 : decode cX12_fault 19 = .ok (.ireturn, 1) := by decide +kernel
set_option maxRecDepth 20000 in
theorem dX12_fault_20 : decode cX12_fault 20 = .ok (.iload_n 1, 1) := by decide +kernel
set_option maxRecDepth 20000 in
theorem dX12_fault_21 : decode cX12_fault 21 = .ok (.ifCond .ne 7, 3) := by decide +kernel
set_option maxRecDepth 20000 in
theorem dX12_fault_28 : decode cX12_fault 28 = .ok (.iload_n 1, 1) := by decide +kernel
set_option maxRecDepth 20000 in
theorem dX12_fault_29 : decode cX12_fault 29 = .ok (.iconst 1, 1) := by decide +kernel
set_option maxRecDepth 20000 in
theorem dX12_fault_30 : decode cX12_fault 30 = .ok (.if_icmp .ne 16, 3) := by decide +kernel
set_option maxRecDepth 20000 in
theorem dX12_fault_46 : decode cX12_fault 46 = .ok (.iload_n 1, 1) := by decide +kernel
set_option maxRecDepth 20000 in
theorem dX12_fault_47 : decode cX12_fault 47 = .ok (.iconst 2, 1) := by decide +kernel
set_option maxRecDepth 20000 in
theorem dX12_fault_48 : decode cX12_fault 48 = .ok (.if_icmp .ne 7, 3) := by decide +kernel
set_option maxRecDepth 20000 in
theorem dX12_fault_51 : decode cX12_fault 51 = .ok (.aload_n 0, 1) := by decide +kernel
set_option maxRecDepth 20000 in
theorem dX12_fault_52 : decode cX12_fault 52 = .ok (.invokevirtual 269, 3) := by decide +kernel
set_option maxRecDepth 20000 in
theorem dX12_fault_55 : decode cX12_fault 55 = .ok (.aload_n 0, 1) := by decide +kernel
set_option maxRecDepth 20000 in
theorem dX12_fault_56 : decode cX12_fault 56 = .ok (.getfield 122, 3) := by decide +kernel
set_option maxRecDepth 20000 in
theorem dX12_fault_59 : decode cX12_fault 59 = .ok (.ireturn, 1) := by decide +kernel
set_option maxRecDepth 20000 in
theorem dX12_fault_33 : decode cX12_fault 33 = .ok (.aload_n 0, 1) := by decide +kernel
set_option maxRecDepth 20000 in
theorem dX12_fault_34 : decode cX12_fault 34 = .ok (.aload_n 0, 1) := by decide +kernel
set_option maxRecDepth 20000 in
theorem dX12_fault_35 : decode cX12_fault 35 = .ok (.getfield 9, 3) := by decide +kernel
set_option maxRecDepth 20000 in
theorem dX12_fault_38 : decode cX12_fault 38 = .ok (.iconst 0, 1) := by decide +kernel
set_option maxRecDepth 20000 in
theorem dX12_fault_39 : decode cX12_fault 39 = .ok (.aload_n 0, 1) := by decide +kernel
set_option maxRecDepth 20000 in
theorem dX12_fault_40 : decode cX12_fault 40 = .ok (.getfield 103, 3) := by decide +kernel
set_option maxRecDepth 20000 in
theorem dX12_fault_43 : decode cX12_fault 43 = .ok (.invokevirtual 266, 3) := by decide +kernel
set_option maxRecDepth 20000 in
theorem dX12_fault_24 : decode cX12_fault 24 = .ok (.aload_n 0, 1) := by decide +kernel
set_option maxRecDepth 20000 in
theorem dX12_fault_25 : decode cX12_fault 25 = .ok (.invokevirtual 263, 3) := by decide +kernel
set_option maxRecDepth 20000 in
theorem dX12_text_0 : decode cX12_text 0 = .ok (.aload_n 0, 1) := by decide +kernel
set_option maxRecDepth 20000 in
theorem dX12_text_1 : decode cX12_text 1 = .ok (.iconst 0, 1) := by decide +kernel
set_option maxRecDepth 20000 in
theorem dX12_text_2 : decode cX12_text 2 = .ok (.putfield 90, 3) := by decide +kernel
set_option maxRecDepth 20000 in
theorem dX12_text_5 : decode cX12_text 5 = .ok (.iload_n 1, 1) := by decide +kernel
set_option maxRecDepth 20000 in
theorem dX12_text_6 : decode cX12_text 6 = .ok (.i2l, 1) := by decide +kernel
set_option maxRecDepth 20000 in
theorem dX12_text_7 : decode cX12_text 7 = .ok (.lconst 0, 1) := by decide +kernel
set_option maxRecDepth 20000 in
theorem dX12_text_8 : decode cX12_text 8 = .ok (.ldc2_w 261, 3) := by decide +kernel
set_option maxRecDepth 20000 in
theorem dX12_text_11 : decode cX12_text 11 = .ok (.invokestatic 211, 3) := by decide +kernel
set_option maxRecDepth 20000 in
theorem dX12_text_14 : decode cX12_text 14 = .ok (.ifCond .eq 38, 3) := by decide +kernel
set_option maxRecDepth 20000 in
theorem dX12_text_52 : decode cX12_text 52 = .ok (.iconst (-1), 1) := by decide +kernel
set_option maxRecDepth 20000 in
theorem dX12_text_53 : decode cX12_text 53 = .ok (.ireturn, 1) := by decide +kernel
set_option maxRecDepth 20000 in
theorem dX12_text_17 : decode cX12_text 17 = .ok (.iload_n 1, 1) := by decide +kernel
set_option maxRecDepth 20000 in
theorem dX12_text_18 : decode cX12_text 18 = .ok (.iconst 1, 1) := by decide +kernel
set_option maxRecDepth 20000 in
theorem dX12_text_19 : decode cX12_text 19 = .ok (.if_icmp .ne 11, 3) := by decide +kernel
set_option maxRecDepth 20000 in
theorem dX12_text_30 : decode cX12_text 30 = .ok (.iload_n 1, 1) := by decide +kernel
set_option maxRecDepth 20000 in
theorem dX12_text_31 : decode cX12_text 31 = .ok (.iconst 2, 1) := by decide +kernel
set_option maxRecDepth 20000 in
theorem dX12_text_32 : decode cX12_text 32 = .ok (.if_icmp .ne 11, 3) := by decide +kernel
set_option maxRecDepth 20000 in
theorem dX12_text_43 : decode cX12_text 43 = .ok (.aload_n 0, 1) := by decide +kernel
set_option maxRecDepth 20000 in
theorem dX12_text_44 : decode cX12_text 44 = .ok (.iload_n 1, 1) := by decide +kernel
set_option maxRecDepth 20000 in
theorem dX12_text_45 : decode cX12_text 45 = .ok (.invokevirtual 278, 3) := by decide +kernel
set_option maxRecDepth 20000 in
theorem dX12_text_48 : decode cX12_text 48 = .ok (.iconst (-1), 1) := by decide +kernel
set_option maxRecDepth 20000 in
theorem dX12_text_49 : decode cX12_text 49 = .ok (.if_icmp .eq 5, 3) := by decide +kernel
set_option maxRecDepth 20000 in
theorem dX12_text_35 : decode cX12_text 35 = .ok (.aload_n 0, 1) := by decide +kernel
set_option maxRecDepth 20000 in
theorem dX12_text_36 : decode cX12_text 36 = .ok (.getfield 275, 3) := by decide +kernel
set_option maxRecDepth 20000 in
theorem dX12_text_39 : decode cX12_text 39 = .ok (.iconst 4, 1) := by decide +kernel
set_option maxRecDepth 20000 in
theorem dX12_text_40 : decode cX12_text 40 = .ok (.if_icmp .eq 12, 3) := by decide +kernel
set_option maxRecDepth 20000 in
theorem dX12_text_22 : decode cX12_text 22 = .ok (.aload_n 0, 1) := by decide +kernel
set_option maxRecDepth 20000 in
theorem dX12_text_23 : decode cX12_text 23 = .ok (.getfield 272, 3) := by decide +kernel
set_option maxRecDepth 20000 in
theorem dX12_text_26 : decode cX12_text 26 = .ok (.iconst 4, 1) := by decide +kernel
set_option maxRecDepth 20000 in
theorem dX12_text_27 : decode cX12_text 27 = .ok (.if_icmp .eq 25, 3) := by decide +kernel
def vs_f_X12_starts_a1 : List Cond := .code yX12_starts cX12_starts 4 none :: ([.fieldLink RX12 23 "WallChapelsModel" "text" "[B", .fieldLink RX12 119 "WallChapelsModel" "begins" "I", .fieldLink RX12 116 "WallChapelsModel" "ends" "I", .fieldLink RX12 113 "WallChapelsModel" "at" "I", .fieldLink RX12 122 "WallChapelsModel" "fault" "I"] ++ (u_ws RX12 TX12 54))
theorem vs_f_X12_starts_a1_uX12 : ∀ w ∈ u_ws RX12 TX12 54, w ∈ vs_f_X12_starts_a1 := fun _ h => List.mem_cons_of_mem _ (List.mem_append_right _ (h))
set_option maxHeartbeats 4000000 in
set_option maxRecDepth 100000 in
theorem f_X12_starts_a1 (l : Launch) (dC : Nat → ClassId) (dI : Nat → Nat → Nat) (sz : Nat) (r : Nat → Nat) : Met l yX12_starts vs_f_X12_starts_a1 ({ frames := 0, cells := 0, slots := 0, locals := 0 }) (va_Pc [.ref (r 100), .ref (r 1), .int 0, .int 0] (cW dC dI [((r 100), .inr (12, mF r 0 0 0 0 0 0 0 0 0 0 0 0 0 (-1) 1))] [] sz)) (va_Qv (fun (_ : Unit) => True) (fun (_ : Unit) (t : State) => cB dC dI (va_A [((r 100), .inr (12, mF r 0 0 0 0 0 0 0 0 0 0 0 0 0 (-1) 1))] sz) [((r 100), .inr (12, mF r 0 0 0 0 0 (-1) 0 0 0 0 0 0 0 (-1) 1))] [] t) (va_A [((r 100), .inr (12, mF r 0 0 0 0 0 0 0 0 0 0 0 0 0 (-1) 1))] sz)) 0 0 (va_A [((r 100), .inr (12, mF r 0 0 0 0 0 0 0 0 0 0 0 0 0 (-1) 1))] sz) := by
  refine Met.ofW (cc := cX12_starts) (maxL := 4) (ret := none) (by decide) rfl ?_
  intro p e s m args below meth c s₁ B hml hv
  obtain ⟨rfl, hsz, hP, hK, hD0, hG⟩ := hv
  have hx := B.exec
  have hb := B.bytes
  have hr := B.returns
  have hts := atoms_spec (ws := vs_f_X12_starts_a1) B.pre
  have hown : s.vm.findClass RX12 = some m.cls := findClass_of_methodNamed B.named
  have hlocks := B.notSynchronized
  have hiX12 : ∀ w ∈ u_ws RX12 TX12 54, w ∈ vs_f_X12_starts_a1 := vs_f_X12_starts_a1_uX12
  subst hsz
  have hD := hD0.self (sz := s.heap.size)
  generalize hAe : va_A [((r 100), .inr (12, mF r 0 0 0 0 0 0 0 0 0 0 0 0 0 (-1) 1))] s.heap.size = A at hD ⊢
  have hA : ∀ q : Nat, s.heap.size ≤ q → A q := fun q h => by rw [← hAe]; exact Or.inr h
  have hS : va_S A s.heap s.heap [] := va_S.rf
  have hP : va_P (dC, dI) vwCl [((r 100), .inr (12, mF r 0 0 0 0 0 0 0 0 0 0 0 0 0 (-1) 1))] s.heap := hP
  have hl := lv_entry ([.ref (r 100), .ref (r 1), .int 0, .int 0]) (n := 4) (Nat.le_of_ble_eq_true rfl)
  rw [lg_entry_eq]
  generalize (lg_sl ([.ref (r 100), .ref (r 1), .int 0, .int 0]) ++ List.replicate (4 - (lg_sl ([.ref (r 100), .ref (r 1), .int 0, .int 0])).length) Slot.unset).toArray = ls at hl ⊢
  have hl : lv_has ls 4 [(0, .ref (r 100)), (1, .ref (r 1)), (2, .int 0), (3, .int 0)] := hl
  refine lv_aload_n hx hb dX12_starts_0 rfl (lv_at hl 0 rfl) ?_
  refine lv_aload_n hx hb dX12_starts_1 rfl (lv_at hl 1 rfl) ?_
  refine va_put (D := (dC, dI)) (ci := 12) (v := .ref (r 1)) (ty := .array .byte) (C := RX12) (T := TX12) (N := 54) hx hb hts hiX12 tyX12 tyX12_ok nmX12 hown hK hP hD hS 0 rfl rfl 5 (by decide) (hts (.fieldLink RX12 23 "WallChapelsModel" "text" "[B") (by decide +kernel)) (fun _ h9 => h9) rfl (by decide +kernel) rfl rfl (Nat.le_of_ble_eq_true rfl) dX12_starts_2 (fun H locs hP hD hS => ?_)
  have hP : va_P (dC, dI) vwCl [((r 100), .inr (12, mF r 0 0 0 0 0 0 0 0 0 0 0 0 0 (-1) 1))] H := hP
  have hD : va_D A [((r 100), .inr (12, mF r 0 0 0 0 0 0 0 0 0 0 0 0 0 (-1) 1))] := hD
  refine lv_aload_n hx hb dX12_starts_5 rfl (lv_at hl 0 rfl) ?_
  refine lv_iload_n hx hb dX12_starts_6 rfl (lv_at hl 2 rfl) ?_
  refine va_put (D := (dC, dI)) (ci := 12) (v := .int 0) (ty := .int) (C := RX12) (T := TX12) (N := 54) hx hb hts hiX12 tyX12 tyX12_ok nmX12 hown hK hP hD hS 0 rfl rfl 8 (by decide) (hts (.fieldLink RX12 119 "WallChapelsModel" "begins" "I") (by decide +kernel)) (fun _ h9 => h9) rfl (by decide +kernel) rfl rfl (Nat.le_of_ble_eq_true rfl) dX12_starts_7 (fun H locs hP hD hS => ?_)
  have hP : va_P (dC, dI) vwCl [((r 100), .inr (12, mF r 0 0 0 0 0 0 0 0 0 0 0 0 0 (-1) 1))] H := hP
  have hD : va_D A [((r 100), .inr (12, mF r 0 0 0 0 0 0 0 0 0 0 0 0 0 (-1) 1))] := hD
  refine lv_aload_n hx hb dX12_starts_10 rfl (lv_at hl 0 rfl) ?_
  refine lv_iload_n hx hb dX12_starts_11 rfl (lv_at hl 3 rfl) ?_
  refine va_put (D := (dC, dI)) (ci := 12) (v := .int 0) (ty := .int) (C := RX12) (T := TX12) (N := 54) hx hb hts hiX12 tyX12 tyX12_ok nmX12 hown hK hP hD hS 0 rfl rfl 9 (by decide) (hts (.fieldLink RX12 116 "WallChapelsModel" "ends" "I") (by decide +kernel)) (fun _ h9 => h9) rfl (by decide +kernel) rfl rfl (Nat.le_of_ble_eq_true rfl) dX12_starts_12 (fun H locs hP hD hS => ?_)
  have hP : va_P (dC, dI) vwCl [((r 100), .inr (12, mF r 0 0 0 0 0 0 0 0 0 0 0 0 0 (-1) 1))] H := hP
  have hD : va_D A [((r 100), .inr (12, mF r 0 0 0 0 0 0 0 0 0 0 0 0 0 (-1) 1))] := hD
  refine lv_aload_n hx hb dX12_starts_15 rfl (lv_at hl 0 rfl) ?_
  refine lv_iconst (v := 0) hx hb dX12_starts_16 (by decide) ?_
  refine va_put (D := (dC, dI)) (ci := 12) (v := .int 0) (ty := .int) (C := RX12) (T := TX12) (N := 54) hx hb hts hiX12 tyX12 tyX12_ok nmX12 hown hK hP hD hS 0 rfl rfl 10 (by decide) (hts (.fieldLink RX12 113 "WallChapelsModel" "at" "I") (by decide +kernel)) (fun _ h9 => h9) rfl (by decide +kernel) rfl rfl (Nat.le_of_ble_eq_true rfl) dX12_starts_17 (fun H locs hP hD hS => ?_)
  have hP : va_P (dC, dI) vwCl [((r 100), .inr (12, mF r 0 0 0 0 0 0 0 0 0 0 0 0 0 (-1) 1))] H := hP
  have hD : va_D A [((r 100), .inr (12, mF r 0 0 0 0 0 0 0 0 0 0 0 0 0 (-1) 1))] := hD
  refine lv_aload_n hx hb dX12_starts_20 rfl (lv_at hl 0 rfl) ?_
  refine lv_iconst (v := (-1)) hx hb dX12_starts_21 (by decide) ?_
  refine va_put (D := (dC, dI)) (ci := 12) (v := .int (-1)) (ty := .int) (C := RX12) (T := TX12) (N := 54) hx hb hts hiX12 tyX12 tyX12_ok nmX12 hown hK hP hD hS 0 rfl rfl 11 (by decide) (hts (.fieldLink RX12 122 "WallChapelsModel" "fault" "I") (by decide +kernel)) (fun _ h9 => h9) rfl (by decide +kernel) rfl rfl (Nat.le_of_ble_eq_true rfl) dX12_starts_22 (fun H locs hP hD hS => ?_)
  have hP : va_P (dC, dI) vwCl [((r 100), .inr (12, mF r 0 0 0 0 0 (-1) 0 0 0 0 0 0 0 (-1) 1))] H := hP
  have hD : va_D A [((r 100), .inr (12, mF r 0 0 0 0 0 (-1) 0 0 0 0 0 0 0 (-1) 1))] := hD
  have hP9 := hP.sub (ws' := [((r 100), .inr (12, mF r 0 0 0 0 0 (-1) 0 0 0 0 0 0 0 (-1) 1))]) [0] rfl
  have hD9 := hD.sub (ws' := [((r 100), .inr (12, mF r 0 0 0 0 0 (-1) 0 0 0 0 0 0 0 (-1) 1))]) [0] (by decide) rfl
  have hK9 := hK.sub (tys' := []) [] rfl
  exact W.vret hx hb hr (fun t ht hW => ⟨⟨(), rfl, trivial, ⟨by rw [ht]; exact hP9, va_K.moved hW.alike hK9, hD9⟩⟩, hS.F ht⟩) hS.2.2 dX12_starts_25
def vs_f_X12_look_a1 : List Cond := .code yX12_look cX12_look 1 (some .int) :: ([.fieldLink RX12 113 "WallChapelsModel" "at" "I", .fieldLink RX12 116 "WallChapelsModel" "ends" "I"] ++ (u_ws RX12 TX12 54))
theorem vs_f_X12_look_a1_uX12 : ∀ w ∈ u_ws RX12 TX12 54, w ∈ vs_f_X12_look_a1 := fun _ h => List.mem_cons_of_mem _ (List.mem_append_right _ (h))
set_option maxHeartbeats 4000000 in
set_option maxRecDepth 100000 in
theorem f_X12_look_a1 (l : Launch) (dC : Nat → ClassId) (dI : Nat → Nat → Nat) (sz : Nat) (r : Nat → Nat) : Met l yX12_look vs_f_X12_look_a1 ({ frames := 0, cells := 0, slots := 0, locals := 0 }) (va_Pc [.ref (r 100)] (cW dC dI [((r 100), .inr (12, mF r 0 0 0 0 0 (-1) 0 0 0 0 0 0 0 (-1) 1))] [] sz)) (va_Qi (fun (r : Int32) (_ : Unit) => r = (-1)) (fun (_ : Unit) (t : State) => cB dC dI (va_A [((r 100), .inr (12, mF r 0 0 0 0 0 (-1) 0 0 0 0 0 0 0 (-1) 1))] sz) [((r 100), .inr (12, mF r 0 0 0 0 0 (-1) 0 0 0 0 0 0 0 (-1) 1))] [] t) (va_A [((r 100), .inr (12, mF r 0 0 0 0 0 (-1) 0 0 0 0 0 0 0 (-1) 1))] sz)) 0 0 (va_A [((r 100), .inr (12, mF r 0 0 0 0 0 (-1) 0 0 0 0 0 0 0 (-1) 1))] sz) := by
  refine Met.ofW (cc := cX12_look) (maxL := 1) (ret := (some .int)) (by decide) rfl ?_
  intro p e s m args below meth c s₁ B hml hv
  obtain ⟨rfl, hsz, hP, hK, hD0, hG⟩ := hv
  have hx := B.exec
  have hb := B.bytes
  have hr := B.returns
  have hts := atoms_spec (ws := vs_f_X12_look_a1) B.pre
  have hown : s.vm.findClass RX12 = some m.cls := findClass_of_methodNamed B.named
  have hlocks := B.notSynchronized
  have hiX12 : ∀ w ∈ u_ws RX12 TX12 54, w ∈ vs_f_X12_look_a1 := vs_f_X12_look_a1_uX12
  subst hsz
  have hD := hD0.self (sz := s.heap.size)
  generalize hAe : va_A [((r 100), .inr (12, mF r 0 0 0 0 0 (-1) 0 0 0 0 0 0 0 (-1) 1))] s.heap.size = A at hD ⊢
  have hA : ∀ q : Nat, s.heap.size ≤ q → A q := fun q h => by rw [← hAe]; exact Or.inr h
  have hS : va_S A s.heap s.heap [] := va_S.rf
  have hP : va_P (dC, dI) vwCl [((r 100), .inr (12, mF r 0 0 0 0 0 (-1) 0 0 0 0 0 0 0 (-1) 1))] s.heap := hP
  have hl := lv_entry ([.ref (r 100)]) (n := 1) (Nat.le_of_ble_eq_true rfl)
  rw [lg_entry_eq]
  generalize (lg_sl ([.ref (r 100)]) ++ List.replicate (1 - (lg_sl ([.ref (r 100)])).length) Slot.unset).toArray = ls at hl ⊢
  have hl : lv_has ls 1 [(0, .ref (r 100))] := hl
  refine lv_aload_n hx hb dX12_look_0 rfl (lv_at hl 0 rfl) ?_
  refine va_get (D := (dC, dI)) (ci := 12) (v := .int 0) (C := RX12) (T := TX12) (N := 54) hx hb hts hiX12 hown hK hP 0 rfl rfl 10 (by decide) (hts (.fieldLink RX12 113 "WallChapelsModel" "at" "I") (by decide +kernel)) (fun _ h9 => h9) rfl dX12_look_1 ?_
  refine lv_aload_n hx hb dX12_look_4 rfl (lv_at hl 0 rfl) ?_
  refine va_get (D := (dC, dI)) (ci := 12) (v := .int 0) (C := RX12) (T := TX12) (N := 54) hx hb hts hiX12 hown hK hP 0 rfl rfl 9 (by decide) (hts (.fieldLink RX12 116 "WallChapelsModel" "ends" "I") (by decide +kernel)) (fun _ h9 => h9) rfl dX12_look_5 ?_
  refine lv_icmp_ge (tgt := 43) hx hb dX12_look_8 (by decide) (fun c_1 => ?_) (fun c_1 => absurd (by decide) c_1)
  refine lv_aload_n hx hb dX12_look_43 rfl (lv_at hl 0 rfl) ?_
  refine va_get (D := (dC, dI)) (ci := 12) (v := .int 0) (C := RX12) (T := TX12) (N := 54) hx hb hts hiX12 hown hK hP 0 rfl rfl 10 (by decide) (hts (.fieldLink RX12 113 "WallChapelsModel" "at" "I") (by decide +kernel)) (fun _ h9 => h9) rfl dX12_look_44 ?_
  refine lv_aload_n hx hb dX12_look_47 rfl (lv_at hl 0 rfl) ?_
  refine va_get (D := (dC, dI)) (ci := 12) (v := .int 0) (C := RX12) (T := TX12) (N := 54) hx hb hts hiX12 hown hK hP 0 rfl rfl 9 (by decide) (hts (.fieldLink RX12 116 "WallChapelsModel" "ends" "I") (by decide +kernel)) (fun _ h9 => h9) rfl dX12_look_48 ?_
  refine lv_icmp_ge (tgt := 75) hx hb dX12_look_51 (by decide) (fun c_2 => ?_) (fun c_2 => absurd (by decide) c_2)
  refine lv_iconst (v := (-1)) hx hb dX12_look_75 (by decide) ?_
  have hP9 := hP.sub (ws' := [((r 100), .inr (12, mF r 0 0 0 0 0 (-1) 0 0 0 0 0 0 0 (-1) 1))]) [0] rfl
  have hD9 := hD.sub (ws' := [((r 100), .inr (12, mF r 0 0 0 0 0 (-1) 0 0 0 0 0 0 0 (-1) 1))]) [0] (by decide) rfl
  have hK9 := hK.sub (tys' := []) [] rfl
  exact W.iret (v := (-1)) hx hb hr (fun t ht hW => ⟨⟨(-1), (), rfl, rfl, ⟨by rw [ht]; exact hP9, va_K.moved hW.alike hK9, hD9⟩⟩, hS.F ht⟩) hS.2.2 dX12_look_76
def vs_f_X12_isDigit_a1 : List Cond := .code yX12_isDigit cX12_isDigit 1 (some .boolean) :: ([.fieldLink RX12 113 "WallChapelsModel" "at" "I", .fieldLink RX12 116 "WallChapelsModel" "ends" "I"] ++ (u_ws RX12 TX12 54))
theorem vs_f_X12_isDigit_a1_uX12 : ∀ w ∈ u_ws RX12 TX12 54, w ∈ vs_f_X12_isDigit_a1 := fun _ h => List.mem_cons_of_mem _ (List.mem_append_right _ (h))
set_option maxHeartbeats 4000000 in
set_option maxRecDepth 100000 in
theorem f_X12_isDigit_a1 (l : Launch) (dC : Nat → ClassId) (dI : Nat → Nat → Nat) (sz : Nat) (r : Nat → Nat) : Met l yX12_isDigit vs_f_X12_isDigit_a1 ({ frames := 0, cells := 0, slots := 0, locals := 0 }) (va_Pc [.ref (r 100)] (cW dC dI [((r 100), .inr (12, mF r 0 0 0 0 0 (-1) 0 0 0 0 0 0 0 (-1) 1))] [] sz)) (va_Qi (fun (r : Int32) (_ : Unit) => r = 0) (fun (_ : Unit) (t : State) => cB dC dI (va_A [((r 100), .inr (12, mF r 0 0 0 0 0 (-1) 0 0 0 0 0 0 0 (-1) 1))] sz) [((r 100), .inr (12, mF r 0 0 0 0 0 (-1) 0 0 0 0 0 0 0 (-1) 1))] [] t) (va_A [((r 100), .inr (12, mF r 0 0 0 0 0 (-1) 0 0 0 0 0 0 0 (-1) 1))] sz)) 0 0 (va_A [((r 100), .inr (12, mF r 0 0 0 0 0 (-1) 0 0 0 0 0 0 0 (-1) 1))] sz) := by
  refine Met.ofW (cc := cX12_isDigit) (maxL := 1) (ret := (some .boolean)) (by decide) rfl ?_
  intro p e s m args below meth c s₁ B hml hv
  obtain ⟨rfl, hsz, hP, hK, hD0, hG⟩ := hv
  have hx := B.exec
  have hb := B.bytes
  have hr := B.returns
  have hts := atoms_spec (ws := vs_f_X12_isDigit_a1) B.pre
  have hown : s.vm.findClass RX12 = some m.cls := findClass_of_methodNamed B.named
  have hlocks := B.notSynchronized
  have hiX12 : ∀ w ∈ u_ws RX12 TX12 54, w ∈ vs_f_X12_isDigit_a1 := vs_f_X12_isDigit_a1_uX12
  subst hsz
  have hD := hD0.self (sz := s.heap.size)
  generalize hAe : va_A [((r 100), .inr (12, mF r 0 0 0 0 0 (-1) 0 0 0 0 0 0 0 (-1) 1))] s.heap.size = A at hD ⊢
  have hA : ∀ q : Nat, s.heap.size ≤ q → A q := fun q h => by rw [← hAe]; exact Or.inr h
  have hS : va_S A s.heap s.heap [] := va_S.rf
  have hP : va_P (dC, dI) vwCl [((r 100), .inr (12, mF r 0 0 0 0 0 (-1) 0 0 0 0 0 0 0 (-1) 1))] s.heap := hP
  have hl := lv_entry ([.ref (r 100)]) (n := 1) (Nat.le_of_ble_eq_true rfl)
  rw [lg_entry_eq]
  generalize (lg_sl ([.ref (r 100)]) ++ List.replicate (1 - (lg_sl ([.ref (r 100)])).length) Slot.unset).toArray = ls at hl ⊢
  have hl : lv_has ls 1 [(0, .ref (r 100))] := hl
  refine lv_aload_n hx hb dX12_isDigit_0 rfl (lv_at hl 0 rfl) ?_
  refine va_get (D := (dC, dI)) (ci := 12) (v := .int 0) (C := RX12) (T := TX12) (N := 54) hx hb hts hiX12 hown hK hP 0 rfl rfl 10 (by decide) (hts (.fieldLink RX12 113 "WallChapelsModel" "at" "I") (by decide +kernel)) (fun _ h9 => h9) rfl dX12_isDigit_1 ?_
  refine lv_aload_n hx hb dX12_isDigit_4 rfl (lv_at hl 0 rfl) ?_
  refine va_get (D := (dC, dI)) (ci := 12) (v := .int 0) (C := RX12) (T := TX12) (N := 54) hx hb hts hiX12 hown hK hP 0 rfl rfl 9 (by decide) (hts (.fieldLink RX12 116 "WallChapelsModel" "ends" "I") (by decide +kernel)) (fun _ h9 => h9) rfl dX12_isDigit_5 ?_
  refine lv_icmp_ge (tgt := 53) hx hb dX12_isDigit_8 (by decide) (fun c_1 => ?_) (fun c_1 => absurd (by decide) c_1)
  refine lv_iconst (v := 0) hx hb dX12_isDigit_53 (by decide) ?_
  have hP9 := hP.sub (ws' := [((r 100), .inr (12, mF r 0 0 0 0 0 (-1) 0 0 0 0 0 0 0 (-1) 1))]) [0] rfl
  have hD9 := hD.sub (ws' := [((r 100), .inr (12, mF r 0 0 0 0 0 (-1) 0 0 0 0 0 0 0 (-1) 1))]) [0] (by decide) rfl
  have hK9 := hK.sub (tys' := []) [] rfl
  exact W.zret (v := 0) hx hb hr rfl (fun t ht hW => ⟨⟨0, (), rfl, rfl, ⟨by rw [ht]; exact hP9, va_K.moved hW.alike hK9, hD9⟩⟩, hS.F ht⟩) hS.2.2 dX12_isDigit_54
def vs_f_X12_fails_a1 : List Cond := .code yX12_fails cX12_fails 1 (some .boolean) :: ([.fieldLink RX12 122 "WallChapelsModel" "fault" "I", .fieldLink RX12 113 "WallChapelsModel" "at" "I"] ++ (u_ws RX12 TX12 54))
theorem vs_f_X12_fails_a1_uX12 : ∀ w ∈ u_ws RX12 TX12 54, w ∈ vs_f_X12_fails_a1 := fun _ h => List.mem_cons_of_mem _ (List.mem_append_right _ (h))
set_option maxHeartbeats 4000000 in
set_option maxRecDepth 100000 in
theorem f_X12_fails_a1 (l : Launch) (dC : Nat → ClassId) (dI : Nat → Nat → Nat) (sz : Nat) (r : Nat → Nat) : Met l yX12_fails vs_f_X12_fails_a1 ({ frames := 0, cells := 0, slots := 0, locals := 0 }) (va_Pc [.ref (r 100)] (cW dC dI [((r 100), .inr (12, mF r 0 0 0 0 0 (-1) 0 0 0 0 0 0 0 (-1) 1))] [] sz)) (va_Qi (fun (r : Int32) (_ : Unit) => r = 0) (fun (_ : Unit) (t : State) => cB dC dI (va_A [((r 100), .inr (12, mF r 0 0 0 0 0 (-1) 0 0 0 0 0 0 0 (-1) 1))] sz) [((r 100), .inr (12, mF r 0 0 0 0 0 0 0 0 0 0 0 0 0 (-1) 1))] [] t) (va_A [((r 100), .inr (12, mF r 0 0 0 0 0 (-1) 0 0 0 0 0 0 0 (-1) 1))] sz)) 0 0 (va_A [((r 100), .inr (12, mF r 0 0 0 0 0 (-1) 0 0 0 0 0 0 0 (-1) 1))] sz) := by
  refine Met.ofW (cc := cX12_fails) (maxL := 1) (ret := (some .boolean)) (by decide) rfl ?_
  intro p e s m args below meth c s₁ B hml hv
  obtain ⟨rfl, hsz, hP, hK, hD0, hG⟩ := hv
  have hx := B.exec
  have hb := B.bytes
  have hr := B.returns
  have hts := atoms_spec (ws := vs_f_X12_fails_a1) B.pre
  have hown : s.vm.findClass RX12 = some m.cls := findClass_of_methodNamed B.named
  have hlocks := B.notSynchronized
  have hiX12 : ∀ w ∈ u_ws RX12 TX12 54, w ∈ vs_f_X12_fails_a1 := vs_f_X12_fails_a1_uX12
  subst hsz
  have hD := hD0.self (sz := s.heap.size)
  generalize hAe : va_A [((r 100), .inr (12, mF r 0 0 0 0 0 (-1) 0 0 0 0 0 0 0 (-1) 1))] s.heap.size = A at hD ⊢
  have hA : ∀ q : Nat, s.heap.size ≤ q → A q := fun q h => by rw [← hAe]; exact Or.inr h
  have hS : va_S A s.heap s.heap [] := va_S.rf
  have hP : va_P (dC, dI) vwCl [((r 100), .inr (12, mF r 0 0 0 0 0 (-1) 0 0 0 0 0 0 0 (-1) 1))] s.heap := hP
  have hl := lv_entry ([.ref (r 100)]) (n := 1) (Nat.le_of_ble_eq_true rfl)
  rw [lg_entry_eq]
  generalize (lg_sl ([.ref (r 100)]) ++ List.replicate (1 - (lg_sl ([.ref (r 100)])).length) Slot.unset).toArray = ls at hl ⊢
  have hl : lv_has ls 1 [(0, .ref (r 100))] := hl
  refine lv_aload_n hx hb dX12_fails_0 rfl (lv_at hl 0 rfl) ?_
  refine va_get (D := (dC, dI)) (ci := 12) (v := .int (-1)) (C := RX12) (T := TX12) (N := 54) hx hb hts hiX12 hown hK hP 0 rfl rfl 11 (by decide) (hts (.fieldLink RX12 122 "WallChapelsModel" "fault" "I") (by decide +kernel)) (fun _ h9 => h9) rfl dX12_fails_1 ?_
  refine lv_iconst (v := (-1)) hx hb dX12_fails_4 (by decide) ?_
  refine lv_icmp_ne (tgt := 16) hx hb dX12_fails_5 (by decide) (fun c_1 => absurd c_1 (by decide)) (fun c_1 => ?_)
  refine lv_aload_n hx hb dX12_fails_8 rfl (lv_at hl 0 rfl) ?_
  refine lv_aload_n hx hb dX12_fails_9 rfl (lv_at hl 0 rfl) ?_
  refine va_get (D := (dC, dI)) (ci := 12) (v := .int 0) (C := RX12) (T := TX12) (N := 54) hx hb hts hiX12 hown hK hP 0 rfl rfl 10 (by decide) (hts (.fieldLink RX12 113 "WallChapelsModel" "at" "I") (by decide +kernel)) (fun _ h9 => h9) rfl dX12_fails_10 ?_
  refine va_put (D := (dC, dI)) (ci := 12) (v := .int 0) (ty := .int) (C := RX12) (T := TX12) (N := 54) hx hb hts hiX12 tyX12 tyX12_ok nmX12 hown hK hP hD hS 0 rfl rfl 11 (by decide) (hts (.fieldLink RX12 122 "WallChapelsModel" "fault" "I") (by decide +kernel)) (fun _ h9 => h9) rfl (by decide +kernel) rfl rfl (Nat.le_of_ble_eq_true rfl) dX12_fails_13 (fun H locs hP hD hS => ?_)
  have hP : va_P (dC, dI) vwCl [((r 100), .inr (12, mF r 0 0 0 0 0 0 0 0 0 0 0 0 0 (-1) 1))] H := hP
  have hD : va_D A [((r 100), .inr (12, mF r 0 0 0 0 0 0 0 0 0 0 0 0 0 (-1) 1))] := hD
  refine lv_iconst (v := 0) hx hb dX12_fails_16 (by decide) ?_
  have hP9 := hP.sub (ws' := [((r 100), .inr (12, mF r 0 0 0 0 0 0 0 0 0 0 0 0 0 (-1) 1))]) [0] rfl
  have hD9 := hD.sub (ws' := [((r 100), .inr (12, mF r 0 0 0 0 0 0 0 0 0 0 0 0 0 (-1) 1))]) [0] (by decide) rfl
  have hK9 := hK.sub (tys' := []) [] rfl
  exact W.zret (v := 0) hx hb hr rfl (fun t ht hW => ⟨⟨0, (), rfl, rfl, ⟨by rw [ht]; exact hP9, va_K.moved hW.alike hK9, hD9⟩⟩, hS.F ht⟩) hS.2.2 dX12_fails_17
def vs_f_X12_readWalk_a1 : List Cond := .code yX12_readWalk cX12_readWalk 2 none :: ([.fieldLink RX12 9 "WallChapelsModel" "tape" "[B", .fieldLink RX12 103 "WallChapelsModel" "length" "I", .initialized RX12, .instanceMethod yX12_starts, .selects RX12 yX12_starts yX12_starts, .fieldLink RX12 23 "WallChapelsModel" "text" "[B", .fieldLink RX12 119 "WallChapelsModel" "begins" "I", .fieldLink RX12 116 "WallChapelsModel" "ends" "I", .fieldLink RX12 113 "WallChapelsModel" "at" "I", .fieldLink RX12 122 "WallChapelsModel" "fault" "I", .code yX12_starts cX12_starts 4 none, .methodLink RX12 201 yX12_starts, .instanceMethod yX12_look, .selects RX12 yX12_look yX12_look, .code yX12_look cX12_look 1 (some .int), .methodLink RX12 132 yX12_look, .instanceMethod yX12_isDigit, .selects RX12 yX12_isDigit yX12_isDigit, .code yX12_isDigit cX12_isDigit 1 (some .boolean), .methodLink RX12 162 yX12_isDigit, .fieldLink RX12 55 "WallChapelsModel" "walkLong" "[I", .instanceMethod yX12_fails, .selects RX12 yX12_fails yX12_fails, .code yX12_fails cX12_fails 1 (some .boolean), .methodLink RX12 128 yX12_fails] ++ (u_ws RX12 TX12 54))
theorem vs_f_X12_readWalk_a1_uX12 : ∀ w ∈ u_ws RX12 TX12 54, w ∈ vs_f_X12_readWalk_a1 := fun _ h => List.mem_cons_of_mem _ (List.mem_append_right _ (h))
set_option maxRecDepth 20000 in
theorem g_f_X12_readWalk_a1_f_X12_starts_a1 : GoodIn vs_f_X12_readWalk_a1 (wsV RX12 201 RX12 yX12_starts vs_f_X12_starts_a1) := goodIn_r _ [12, 4, 5, 3, 11, 6, 7, 8, 9, 10, 26, 27, 28, 29, 30, 31, 32, 33, 34, 35, 36, 37, 38, 39, 40, 41, 42, 43, 44, 45, 46, 47, 48, 49, 50, 51, 52, 53, 54, 55, 56, 57, 58, 59, 60, 61, 62, 63, 64, 65, 66, 67, 68, 69, 70, 71, 72, 73, 74, 75, 76, 77, 78, 79] (by decide +kernel) (by decide +kernel)
set_option maxRecDepth 20000 in
theorem g_f_X12_readWalk_a1_f_X12_look_a1 : GoodIn vs_f_X12_readWalk_a1 (wsV RX12 132 RX12 yX12_look vs_f_X12_look_a1) := goodIn_r _ [16, 13, 14, 3, 15, 9, 8, 26, 27, 28, 29, 30, 31, 32, 33, 34, 35, 36, 37, 38, 39, 40, 41, 42, 43, 44, 45, 46, 47, 48, 49, 50, 51, 52, 53, 54, 55, 56, 57, 58, 59, 60, 61, 62, 63, 64, 65, 66, 67, 68, 69, 70, 71, 72, 73, 74, 75, 76, 77, 78, 79] (by decide +kernel) (by decide +kernel)
set_option maxRecDepth 20000 in
theorem g_f_X12_readWalk_a1_f_X12_isDigit_a1 : GoodIn vs_f_X12_readWalk_a1 (wsV RX12 162 RX12 yX12_isDigit vs_f_X12_isDigit_a1) := goodIn_r _ [20, 17, 18, 3, 19, 9, 8, 26, 27, 28, 29, 30, 31, 32, 33, 34, 35, 36, 37, 38, 39, 40, 41, 42, 43, 44, 45, 46, 47, 48, 49, 50, 51, 52, 53, 54, 55, 56, 57, 58, 59, 60, 61, 62, 63, 64, 65, 66, 67, 68, 69, 70, 71, 72, 73, 74, 75, 76, 77, 78, 79] (by decide +kernel) (by decide +kernel)
set_option maxRecDepth 20000 in
theorem g_f_X12_readWalk_a1_f_X12_fails_a1 : GoodIn vs_f_X12_readWalk_a1 (wsV RX12 128 RX12 yX12_fails vs_f_X12_fails_a1) := goodIn_r _ [25, 22, 23, 3, 24, 10, 9, 26, 27, 28, 29, 30, 31, 32, 33, 34, 35, 36, 37, 38, 39, 40, 41, 42, 43, 44, 45, 46, 47, 48, 49, 50, 51, 52, 53, 54, 55, 56, 57, 58, 59, 60, 61, 62, 63, 64, 65, 66, 67, 68, 69, 70, 71, 72, 73, 74, 75, 76, 77, 78, 79] (by decide +kernel) (by decide +kernel)
set_option maxHeartbeats 4000000 in
set_option maxRecDepth 100000 in
theorem f_X12_readWalk_a1 (l : Launch) (dC : Nat → ClassId) (dI : Nat → Nat → Nat) (sz : Nat) (r : Nat → Nat) (kL : ClassId) : Met l yX12_readWalk vs_f_X12_readWalk_a1 ({ frames := 1, cells := 0, slots := 0, locals := 23 }) (va_Pc [.ref (r 100)] (cW dC dI [((r 100), .inr (12, mF r 0 0 0 0 0 0 0 0 0 0 0 0 0 (-1) 1)), ((r 24), .inl (kL, 5, .inl (fun _ => 0)))] [(kL, .int)] sz)) (va_Qv (fun (_ : Unit) => True) (fun (_ : Unit) (t : State) => cB dC dI (va_A [((r 100), .inr (12, mF r 0 0 0 0 0 0 0 0 0 0 0 0 0 (-1) 1)), ((r 24), .inl (kL, 5, .inl (fun _ => 0)))] sz) [((r 100), .inr (12, mF r 0 0 0 0 0 0 0 0 0 0 0 0 0 (-1) 1)), ((r 24), .inl (kL, 5, .inl (upd (fun _ => 0) (4 : Int32).toNatClampNeg 0)))] [(kL, .int)] t) (va_A [((r 100), .inr (12, mF r 0 0 0 0 0 0 0 0 0 0 0 0 0 (-1) 1)), ((r 24), .inl (kL, 5, .inl (fun _ => 0)))] sz)) 0 0 (va_A [((r 100), .inr (12, mF r 0 0 0 0 0 0 0 0 0 0 0 0 0 (-1) 1)), ((r 24), .inl (kL, 5, .inl (fun _ => 0)))] sz) := by
  refine Met.ofW (cc := cX12_readWalk) (maxL := 2) (ret := none) (by decide) rfl ?_
  intro p e s m args below meth c s₁ B hml hv
  obtain ⟨rfl, hsz, hP, hK, hD0, hG⟩ := hv
  have hx := B.exec
  have hb := B.bytes
  have hr := B.returns
  have hts := atoms_spec (ws := vs_f_X12_readWalk_a1) B.pre
  have hown : s.vm.findClass RX12 = some m.cls := findClass_of_methodNamed B.named
  have hlocks := B.notSynchronized
  have hiX12 : ∀ w ∈ u_ws RX12 TX12 54, w ∈ vs_f_X12_readWalk_a1 := vs_f_X12_readWalk_a1_uX12
  subst hsz
  have hD := hD0.self (sz := s.heap.size)
  generalize hAe : va_A [((r 100), .inr (12, mF r 0 0 0 0 0 0 0 0 0 0 0 0 0 (-1) 1)), ((r 24), .inl (kL, 5, .inl (fun _ => 0)))] s.heap.size = A at hD ⊢
  have hA : ∀ q : Nat, s.heap.size ≤ q → A q := fun q h => by rw [← hAe]; exact Or.inr h
  have hS : va_S A s.heap s.heap [] := va_S.rf
  have hP : va_P (dC, dI) vwCl [((r 100), .inr (12, mF r 0 0 0 0 0 0 0 0 0 0 0 0 0 (-1) 1)), ((r 24), .inl (kL, 5, .inl (fun _ => 0)))] s.heap := hP
  have hl := lv_entry ([.ref (r 100)]) (n := 2) (Nat.le_of_ble_eq_true rfl)
  rw [lg_entry_eq]
  generalize (lg_sl ([.ref (r 100)]) ++ List.replicate (2 - (lg_sl ([.ref (r 100)])).length) Slot.unset).toArray = ls at hl ⊢
  have hl : lv_has ls 2 [(0, .ref (r 100))] := hl
  refine lv_aload_n hx hb dX12_readWalk_0 rfl (lv_at hl 0 rfl) ?_
  refine lv_aload_n hx hb dX12_readWalk_1 rfl (lv_at hl 0 rfl) ?_
  refine va_get (D := (dC, dI)) (ci := 12) (v := .ref (r 1)) (C := RX12) (T := TX12) (N := 54) hx hb hts hiX12 hown hK hP 0 rfl rfl 1 (by decide) (hts (.fieldLink RX12 9 "WallChapelsModel" "tape" "[B") (by decide +kernel)) (fun _ h9 => h9) rfl dX12_readWalk_2 ?_
  refine lv_iconst (v := 0) hx hb dX12_readWalk_5 (by decide) ?_
  refine lv_aload_n hx hb dX12_readWalk_6 rfl (lv_at hl 0 rfl) ?_
  refine va_get (D := (dC, dI)) (ci := 12) (v := .int 0) (C := RX12) (T := TX12) (N := 54) hx hb hts hiX12 hown hK hP 0 rfl rfl 6 (by decide) (hts (.fieldLink RX12 103 "WallChapelsModel" "length" "I") (by decide +kernel)) (fun _ h9 => h9) rfl dX12_readWalk_7 ?_
  have hPc := hP.sub (ws' := [((r 100), .inr (12, mF r 0 0 0 0 0 0 0 0 0 0 0 0 0 (-1) 1))]) [0] rfl
  have hDc := hD.sub (ws' := [((r 100), .inr (12, mF r 0 0 0 0 0 0 0 0 0 0 0 0 0 (-1) 1))]) [0] (by decide) rfl
  have hKc := hK.sub (tys' := []) [] rfl
  have hFc := va_free (wc := [((r 100), .inr (12, mF r 0 0 0 0 0 0 0 0 0 0 0 0 0 (-1) 1))]) hD hS hA [0] rfl
  refine va_callv (va_runV (As := [.ref (r 1), .int 0, .int 0]) (rest := []) ⟨hx, hb, hml, hown, hts⟩ (f_X12_starts_a1 l dC dI s.heap.size r ) (cwV 3 hts g_f_X12_readWalk_a1_f_X12_starts_a1 rfl rfl rfl (by decide +kernel) ⟨Nat.le_of_ble_eq_true rfl, Nat.le_of_ble_eq_true rfl⟩) ⟨cW_blind, va_recv hKc hPc (ci := 12) (q0 := 0) rfl rfl, fun U hU hW => ⟨rfl, cW_use hU hW hPc hKc hDc hG⟩⟩ rfl rfl hl.1 rfl (lv_room (Nat.le_of_ble_eq_true rfl)) dX12_readWalk_10 ⟨Nat.le_of_ble_eq_true rfl, Nat.le_of_ble_eq_true rfl⟩) hS (fun q _ h => hFc q h) hFc (fun u t H1 locs ht hvm hw hB hz1 hk1 hS => ?_)
  obtain ⟨hP1, hK1, hD1⟩ := hB
  rw [ht] at hP1
  have hK1 := va_K.moved hvm.symm hK1
  obtain ⟨hP, hD⟩ := va_join (wr := [((r 24), .inl (kL, 5, .inl (fun _ => 0)))]) (w1 := [((r 100), .inr (12, mF r 0 0 0 0 0 (-1) 0 0 0 0 0 0 0 (-1) 1))]) hP hD [0] [1] rfl rfl (by decide) (by decide) hk1 hFc hP1 hD1
  generalize H1 = H at hP hS ⊢
  have hP : va_P (dC, dI) vwCl [((r 24), .inl (kL, 5, .inl (fun _ => 0))), ((r 100), .inr (12, mF r 0 0 0 0 0 (-1) 0 0 0 0 0 0 0 (-1) 1))] H := hP
  have hD : va_D A [((r 24), .inl (kL, 5, .inl (fun _ => 0))), ((r 100), .inr (12, mF r 0 0 0 0 0 (-1) 0 0 0 0 0 0 0 (-1) 1))] := hD
  refine W.widen (k := 0) (n := 0) (Nat.le_of_ble_eq_true rfl) (Nat.le_of_ble_eq_true rfl) ?_
  refine lv_iconst (v := 0) hx hb dX12_readWalk_13 (by decide) ?_
  refine lv_istore_n (lv' := [(1, .int 0), (0, .ref (r 100))]) hx hb dX12_readWalk_14 rfl hl (by decide) rfl (fun ls hl => ?_)
  refine lv_aload_n hx hb dX12_readWalk_15 rfl (lv_at hl 1 rfl) ?_
  have hPc := hP.sub (ws' := [((r 100), .inr (12, mF r 0 0 0 0 0 (-1) 0 0 0 0 0 0 0 (-1) 1))]) [1] rfl
  have hDc := hD.sub (ws' := [((r 100), .inr (12, mF r 0 0 0 0 0 (-1) 0 0 0 0 0 0 0 (-1) 1))]) [1] (by decide) rfl
  have hKc := hK.sub (tys' := []) [] rfl
  have hFc := va_free (wc := [((r 100), .inr (12, mF r 0 0 0 0 0 (-1) 0 0 0 0 0 0 0 (-1) 1))]) hD hS hA [1] rfl
  refine va_calli (va_runV (As := []) (rest := []) ⟨hx, hb, hml, hown, hts⟩ (f_X12_look_a1 l dC dI H.size r ) (cwV 0 hts g_f_X12_readWalk_a1_f_X12_look_a1 rfl rfl rfl (by decide +kernel) ⟨Nat.le_of_ble_eq_true rfl, Nat.le_of_ble_eq_true rfl⟩) ⟨cW_blind, va_recv hKc hPc (ci := 12) (q0 := 0) rfl rfl, fun U hU hW => ⟨rfl, cW_use hU hW hPc hKc hDc hG⟩⟩ rfl rfl hl.1 rfl (lv_room (Nat.le_of_ble_eq_true rfl)) dX12_readWalk_16 ⟨Nat.le_of_ble_eq_true rfl, Nat.le_of_ble_eq_true rfl⟩) hS (fun q _ h => hFc q h) hFc (fun r_2 u t H1 locs ht hvm hw hB hz1 hk1 hS => ?_)
  obtain ⟨hP1, hK1, hD1⟩ := hB
  rw [ht] at hP1
  have hK1 := va_K.moved hvm.symm hK1
  obtain ⟨hP, hD⟩ := va_join (wr := [((r 24), .inl (kL, 5, .inl (fun _ => 0)))]) (w1 := [((r 100), .inr (12, mF r 0 0 0 0 0 (-1) 0 0 0 0 0 0 0 (-1) 1))]) hP hD [1] [0] rfl rfl (by decide) (by decide) hk1 hFc hP1 hD1
  generalize H1 = H at hP hS ⊢
  have hP : va_P (dC, dI) vwCl [((r 24), .inl (kL, 5, .inl (fun _ => 0))), ((r 100), .inr (12, mF r 0 0 0 0 0 (-1) 0 0 0 0 0 0 0 (-1) 1))] H := hP
  have hD : va_D A [((r 24), .inl (kL, 5, .inl (fun _ => 0))), ((r 100), .inr (12, mF r 0 0 0 0 0 (-1) 0 0 0 0 0 0 0 (-1) 1))] := hD
  refine W.widen (k := 0) (n := 0) (Nat.le_of_ble_eq_true rfl) (Nat.le_of_ble_eq_true rfl) ?_
  obtain rfl : r_2 = (-1) := hw
  refine lv_pop hx hb dX12_readWalk_19 rfl ?_
  refine lv_aload_n hx hb dX12_readWalk_20 rfl (lv_at hl 1 rfl) ?_
  have hPc := hP.sub (ws' := [((r 100), .inr (12, mF r 0 0 0 0 0 (-1) 0 0 0 0 0 0 0 (-1) 1))]) [1] rfl
  have hDc := hD.sub (ws' := [((r 100), .inr (12, mF r 0 0 0 0 0 (-1) 0 0 0 0 0 0 0 (-1) 1))]) [1] (by decide) rfl
  have hKc := hK.sub (tys' := []) [] rfl
  have hFc := va_free (wc := [((r 100), .inr (12, mF r 0 0 0 0 0 (-1) 0 0 0 0 0 0 0 (-1) 1))]) hD hS hA [1] rfl
  refine va_calli (va_runV (As := []) (rest := []) ⟨hx, hb, hml, hown, hts⟩ (f_X12_isDigit_a1 l dC dI H.size r ) (cwV 0 hts g_f_X12_readWalk_a1_f_X12_isDigit_a1 rfl rfl rfl (by decide +kernel) ⟨Nat.le_of_ble_eq_true rfl, Nat.le_of_ble_eq_true rfl⟩) ⟨cW_blind, va_recv hKc hPc (ci := 12) (q0 := 0) rfl rfl, fun U hU hW => ⟨rfl, cW_use hU hW hPc hKc hDc hG⟩⟩ rfl rfl hl.1 rfl (lv_room (Nat.le_of_ble_eq_true rfl)) dX12_readWalk_21 ⟨Nat.le_of_ble_eq_true rfl, Nat.le_of_ble_eq_true rfl⟩) hS (fun q _ h => hFc q h) hFc (fun r_3 u t H1 locs ht hvm hw hB hz1 hk1 hS => ?_)
  obtain ⟨hP1, hK1, hD1⟩ := hB
  rw [ht] at hP1
  have hK1 := va_K.moved hvm.symm hK1
  obtain ⟨hP, hD⟩ := va_join (wr := [((r 24), .inl (kL, 5, .inl (fun _ => 0)))]) (w1 := [((r 100), .inr (12, mF r 0 0 0 0 0 (-1) 0 0 0 0 0 0 0 (-1) 1))]) hP hD [1] [0] rfl rfl (by decide) (by decide) hk1 hFc hP1 hD1
  generalize H1 = H at hP hS ⊢
  have hP : va_P (dC, dI) vwCl [((r 24), .inl (kL, 5, .inl (fun _ => 0))), ((r 100), .inr (12, mF r 0 0 0 0 0 (-1) 0 0 0 0 0 0 0 (-1) 1))] H := hP
  have hD : va_D A [((r 24), .inl (kL, 5, .inl (fun _ => 0))), ((r 100), .inr (12, mF r 0 0 0 0 0 (-1) 0 0 0 0 0 0 0 (-1) 1))] := hD
  refine W.widen (k := 0) (n := 0) (Nat.le_of_ble_eq_true rfl) (Nat.le_of_ble_eq_true rfl) ?_
  obtain rfl : r_3 = 0 := hw
  refine lv_if_eq (tgt := 79) hx hb dX12_readWalk_24 (by decide) (fun c_4 => ?_) (fun c_4 => absurd (by decide) c_4)
  refine lv_aload_n hx hb dX12_readWalk_79 rfl (lv_at hl 1 rfl) ?_
  refine va_get (D := (dC, dI)) (ci := 12) (v := .ref (r 24)) (C := RX12) (T := TX12) (N := 54) hx hb hts hiX12 hown hK hP 1 rfl rfl 24 (by decide) (hts (.fieldLink RX12 55 "WallChapelsModel" "walkLong" "[I") (by decide +kernel)) (fun _ h9 => h9) rfl dX12_readWalk_80 ?_
  refine lv_iconst (v := 4) hx hb dX12_readWalk_83 (by decide) ?_
  refine lv_iload_n hx hb dX12_readWalk_84 rfl (lv_at hl 0 rfl) ?_
  refine va_iast (D := (dC, dI)) hx hb hK hP hD hS 0 0 rfl rfl (i := 4) (vp_in_nI (n := 4) (by decide) (by decide)) dX12_readWalk_85 (fun H locs hP hD hS => ?_)
  have hP : va_P (dC, dI) vwCl [((r 24), .inl (kL, 5, .inl (upd (fun _ => 0) (4 : Int32).toNatClampNeg 0))), ((r 100), .inr (12, mF r 0 0 0 0 0 (-1) 0 0 0 0 0 0 0 (-1) 1))] H := hP
  have hD : va_D A [((r 24), .inl (kL, 5, .inl (upd (fun _ => 0) (4 : Int32).toNatClampNeg 0))), ((r 100), .inr (12, mF r 0 0 0 0 0 (-1) 0 0 0 0 0 0 0 (-1) 1))] := hD
  refine lv_iload_n hx hb dX12_readWalk_86 rfl (lv_at hl 0 rfl) ?_
  refine lv_if_eq (tgt := 98) hx hb dX12_readWalk_87 (by decide) (fun c_5 => ?_) (fun c_5 => absurd (by decide) c_5)
  refine lv_aload_n hx hb dX12_readWalk_98 rfl (lv_at hl 1 rfl) ?_
  have hPc := hP.sub (ws' := [((r 100), .inr (12, mF r 0 0 0 0 0 (-1) 0 0 0 0 0 0 0 (-1) 1))]) [1] rfl
  have hDc := hD.sub (ws' := [((r 100), .inr (12, mF r 0 0 0 0 0 (-1) 0 0 0 0 0 0 0 (-1) 1))]) [1] (by decide) rfl
  have hKc := hK.sub (tys' := []) [] rfl
  have hFc := va_free (wc := [((r 100), .inr (12, mF r 0 0 0 0 0 (-1) 0 0 0 0 0 0 0 (-1) 1))]) hD hS hA [1] rfl
  refine va_calli (va_runV (As := []) (rest := []) ⟨hx, hb, hml, hown, hts⟩ (f_X12_fails_a1 l dC dI H.size r ) (cwV 0 hts g_f_X12_readWalk_a1_f_X12_fails_a1 rfl rfl rfl (by decide +kernel) ⟨Nat.le_of_ble_eq_true rfl, Nat.le_of_ble_eq_true rfl⟩) ⟨cW_blind, va_recv hKc hPc (ci := 12) (q0 := 0) rfl rfl, fun U hU hW => ⟨rfl, cW_use hU hW hPc hKc hDc hG⟩⟩ rfl rfl hl.1 rfl (lv_room (Nat.le_of_ble_eq_true rfl)) dX12_readWalk_99 ⟨Nat.le_of_ble_eq_true rfl, Nat.le_of_ble_eq_true rfl⟩) hS (fun q _ h => hFc q h) hFc (fun r_6 u t H1 locs ht hvm hw hB hz1 hk1 hS => ?_)
  obtain ⟨hP1, hK1, hD1⟩ := hB
  rw [ht] at hP1
  have hK1 := va_K.moved hvm.symm hK1
  obtain ⟨hP, hD⟩ := va_join (wr := [((r 24), .inl (kL, 5, .inl (upd (fun _ => 0) (4 : Int32).toNatClampNeg 0)))]) (w1 := [((r 100), .inr (12, mF r 0 0 0 0 0 0 0 0 0 0 0 0 0 (-1) 1))]) hP hD [1] [0] rfl rfl (by decide) (by decide) hk1 hFc hP1 hD1
  generalize H1 = H at hP hS ⊢
  have hP : va_P (dC, dI) vwCl [((r 24), .inl (kL, 5, .inl (upd (fun _ => 0) (4 : Int32).toNatClampNeg 0))), ((r 100), .inr (12, mF r 0 0 0 0 0 0 0 0 0 0 0 0 0 (-1) 1))] H := hP
  have hD : va_D A [((r 24), .inl (kL, 5, .inl (upd (fun _ => 0) (4 : Int32).toNatClampNeg 0))), ((r 100), .inr (12, mF r 0 0 0 0 0 0 0 0 0 0 0 0 0 (-1) 1))] := hD
  refine W.widen (k := 0) (n := 0) (Nat.le_of_ble_eq_true rfl) (Nat.le_of_ble_eq_true rfl) ?_
  obtain rfl : r_6 = 0 := hw
  refine lv_pop hx hb dX12_readWalk_102 rfl ?_
  have hP9 := hP.sub (ws' := [((r 100), .inr (12, mF r 0 0 0 0 0 0 0 0 0 0 0 0 0 (-1) 1)), ((r 24), .inl (kL, 5, .inl (upd (fun _ => 0) (4 : Int32).toNatClampNeg 0)))]) [1, 0] rfl
  have hD9 := hD.sub (ws' := [((r 100), .inr (12, mF r 0 0 0 0 0 0 0 0 0 0 0 0 0 (-1) 1)), ((r 24), .inl (kL, 5, .inl (upd (fun _ => 0) (4 : Int32).toNatClampNeg 0)))]) [1, 0] (by decide) rfl
  have hK9 := hK.sub (tys' := [(kL, .int)]) [0] rfl
  exact W.vret hx hb hr (fun t ht hW => ⟨⟨(), rfl, trivial, ⟨by rw [ht]; exact hP9, va_K.moved hW.alike hK9, hD9⟩⟩, hS.F ht⟩) hS.2.2 dX12_readWalk_103
def vs_f_X12_look_a2 : List Cond := .code yX12_look cX12_look 1 (some .int) :: ([.fieldLink RX12 113 "WallChapelsModel" "at" "I", .fieldLink RX12 116 "WallChapelsModel" "ends" "I"] ++ (u_ws RX12 TX12 54))
theorem vs_f_X12_look_a2_uX12 : ∀ w ∈ u_ws RX12 TX12 54, w ∈ vs_f_X12_look_a2 := fun _ h => List.mem_cons_of_mem _ (List.mem_append_right _ (h))
set_option maxHeartbeats 4000000 in
set_option maxRecDepth 100000 in
theorem f_X12_look_a2 (l : Launch) (dC : Nat → ClassId) (dI : Nat → Nat → Nat) (sz : Nat) (r : Nat → Nat) : Met l yX12_look vs_f_X12_look_a2 ({ frames := 0, cells := 0, slots := 0, locals := 0 }) (va_Pc [.ref (r 100)] (cW dC dI [((r 100), .inr (12, mF r 0 0 0 0 0 (-1) 0 121 0 0 0 0 0 (-1) 1))] [] sz)) (va_Qi (fun (r : Int32) (_ : Unit) => r = (-1)) (fun (_ : Unit) (t : State) => cB dC dI (va_A [((r 100), .inr (12, mF r 0 0 0 0 0 (-1) 0 121 0 0 0 0 0 (-1) 1))] sz) [((r 100), .inr (12, mF r 0 0 0 0 0 (-1) 0 121 0 0 0 0 0 (-1) 1))] [] t) (va_A [((r 100), .inr (12, mF r 0 0 0 0 0 (-1) 0 121 0 0 0 0 0 (-1) 1))] sz)) 0 0 (va_A [((r 100), .inr (12, mF r 0 0 0 0 0 (-1) 0 121 0 0 0 0 0 (-1) 1))] sz) := by
  refine Met.ofW (cc := cX12_look) (maxL := 1) (ret := (some .int)) (by decide) rfl ?_
  intro p e s m args below meth c s₁ B hml hv
  obtain ⟨rfl, hsz, hP, hK, hD0, hG⟩ := hv
  have hx := B.exec
  have hb := B.bytes
  have hr := B.returns
  have hts := atoms_spec (ws := vs_f_X12_look_a2) B.pre
  have hown : s.vm.findClass RX12 = some m.cls := findClass_of_methodNamed B.named
  have hlocks := B.notSynchronized
  have hiX12 : ∀ w ∈ u_ws RX12 TX12 54, w ∈ vs_f_X12_look_a2 := vs_f_X12_look_a2_uX12
  subst hsz
  have hD := hD0.self (sz := s.heap.size)
  generalize hAe : va_A [((r 100), .inr (12, mF r 0 0 0 0 0 (-1) 0 121 0 0 0 0 0 (-1) 1))] s.heap.size = A at hD ⊢
  have hA : ∀ q : Nat, s.heap.size ≤ q → A q := fun q h => by rw [← hAe]; exact Or.inr h
  have hS : va_S A s.heap s.heap [] := va_S.rf
  have hP : va_P (dC, dI) vwCl [((r 100), .inr (12, mF r 0 0 0 0 0 (-1) 0 121 0 0 0 0 0 (-1) 1))] s.heap := hP
  have hl := lv_entry ([.ref (r 100)]) (n := 1) (Nat.le_of_ble_eq_true rfl)
  rw [lg_entry_eq]
  generalize (lg_sl ([.ref (r 100)]) ++ List.replicate (1 - (lg_sl ([.ref (r 100)])).length) Slot.unset).toArray = ls at hl ⊢
  have hl : lv_has ls 1 [(0, .ref (r 100))] := hl
  refine lv_aload_n hx hb dX12_look_0 rfl (lv_at hl 0 rfl) ?_
  refine va_get (D := (dC, dI)) (ci := 12) (v := .int 0) (C := RX12) (T := TX12) (N := 54) hx hb hts hiX12 hown hK hP 0 rfl rfl 10 (by decide) (hts (.fieldLink RX12 113 "WallChapelsModel" "at" "I") (by decide +kernel)) (fun _ h9 => h9) rfl dX12_look_1 ?_
  refine lv_aload_n hx hb dX12_look_4 rfl (lv_at hl 0 rfl) ?_
  refine va_get (D := (dC, dI)) (ci := 12) (v := .int 0) (C := RX12) (T := TX12) (N := 54) hx hb hts hiX12 hown hK hP 0 rfl rfl 9 (by decide) (hts (.fieldLink RX12 116 "WallChapelsModel" "ends" "I") (by decide +kernel)) (fun _ h9 => h9) rfl dX12_look_5 ?_
  refine lv_icmp_ge (tgt := 43) hx hb dX12_look_8 (by decide) (fun c_1 => ?_) (fun c_1 => absurd (by decide) c_1)
  refine lv_aload_n hx hb dX12_look_43 rfl (lv_at hl 0 rfl) ?_
  refine va_get (D := (dC, dI)) (ci := 12) (v := .int 0) (C := RX12) (T := TX12) (N := 54) hx hb hts hiX12 hown hK hP 0 rfl rfl 10 (by decide) (hts (.fieldLink RX12 113 "WallChapelsModel" "at" "I") (by decide +kernel)) (fun _ h9 => h9) rfl dX12_look_44 ?_
  refine lv_aload_n hx hb dX12_look_47 rfl (lv_at hl 0 rfl) ?_
  refine va_get (D := (dC, dI)) (ci := 12) (v := .int 0) (C := RX12) (T := TX12) (N := 54) hx hb hts hiX12 hown hK hP 0 rfl rfl 9 (by decide) (hts (.fieldLink RX12 116 "WallChapelsModel" "ends" "I") (by decide +kernel)) (fun _ h9 => h9) rfl dX12_look_48 ?_
  refine lv_icmp_ge (tgt := 75) hx hb dX12_look_51 (by decide) (fun c_2 => ?_) (fun c_2 => absurd (by decide) c_2)
  refine lv_iconst (v := (-1)) hx hb dX12_look_75 (by decide) ?_
  have hP9 := hP.sub (ws' := [((r 100), .inr (12, mF r 0 0 0 0 0 (-1) 0 121 0 0 0 0 0 (-1) 1))]) [0] rfl
  have hD9 := hD.sub (ws' := [((r 100), .inr (12, mF r 0 0 0 0 0 (-1) 0 121 0 0 0 0 0 (-1) 1))]) [0] (by decide) rfl
  have hK9 := hK.sub (tys' := []) [] rfl
  exact W.iret (v := (-1)) hx hb hr (fun t ht hW => ⟨⟨(-1), (), rfl, rfl, ⟨by rw [ht]; exact hP9, va_K.moved hW.alike hK9, hD9⟩⟩, hS.F ht⟩) hS.2.2 dX12_look_76
def vs_f_J0_coder_7d493_a1 : List Cond := .code yJ0_coder_7d493 cJ0_coder_7d493 1 (some .byte) :: ([.fieldLink RJ0 38 "java/lang/String" "COMPACT_STRINGS" "Z", .fieldLink RJ0 15 "java/lang/String" "coder" "B"])
set_option maxHeartbeats 4000000 in
set_option maxRecDepth 100000 in
theorem f_J0_coder_7d493_a1 (l : Launch) (dC : Nat → ClassId) (dI : Nat → Nat → Nat) (sz : Nat) (sk sv : Nat → Nat) (s2 tz : Nat) : Met l yJ0_coder_7d493 vs_f_J0_coder_7d493_a1 ({ frames := 0, cells := 0, slots := 0, locals := 0 }) (va_Pc [.ref (sk 0)] (cWx dC dI [] [] sz sk sv s2 tz)) (va_Qi (fun (r : Int32) (_ : Unit) => r = 0) (fun (_ : Unit) (t : State) => cB dC dI (va_A [] sz) [] [] t) (va_A [] sz)) 0 0 (va_A [] sz) := by
  refine Met.ofW (cc := cJ0_coder_7d493) (maxL := 1) (ret := (some .byte)) (by decide) rfl ?_
  intro p e s m args below meth c s₁ B hml hv
  obtain ⟨rfl, ⟨hsz, hP, hK, hD0, hG⟩, hE⟩ := hv
  have hx := B.exec
  have hb := B.bytes
  have hr := B.returns
  have hts := atoms_spec (ws := vs_f_J0_coder_7d493_a1) B.pre
  have hown : s.vm.findClass RJ0 = some m.cls := findClass_of_methodNamed B.named
  have hlocks := B.notSynchronized
  subst hsz
  have hD := hD0.self (sz := s.heap.size)
  generalize hAe : va_A [] s.heap.size = A at hD hE ⊢
  have hA : ∀ q : Nat, s.heap.size ≤ q → A q := fun q h => by rw [← hAe]; exact Or.inr h
  have hS : va_S A s.heap s.heap [] := va_S.rf
  have hP : va_P (dC, dI) vwCl [] s.heap := hP
  have hl := lv_entry ([.ref (sk 0)]) (n := 1) (Nat.le_of_ble_eq_true rfl)
  rw [lg_entry_eq]
  generalize (lg_sl ([.ref (sk 0)]) ++ List.replicate (1 - (lg_sl ([.ref (sk 0)])).length) Slot.unset).toArray = ls at hl ⊢
  have hl : lv_has ls 1 [(0, .ref (sk 0))] := hl
  refine va_gets (C := "java/lang/String") (n := "COMPACT_STRINGS") (d := "Z") (v := .int 1) hx hb hE.1.2.1 hS hown (hts (.fieldLink RJ0 38 "java/lang/String" "COMPACT_STRINGS" "Z") (by decide +kernel)) (fun _ h9 => h9) dJ0_coder_7d493_0 ?_
  refine lv_if_eq (tgt := 13) hx hb dJ0_coder_7d493_3 (by decide) (fun c_1 => absurd c_1 (by decide)) (fun c_1 => ?_)
  refine lv_aload_n hx hb dJ0_coder_7d493_6 rfl (lv_at hl 0 rfl) ?_
  refine vk_getf (o := "java/lang/String") (n := "coder") (d := "B") (v := .int 0) hx hb (hE.1.1.1 0 (by decide)).2.1 hS hown (hts (.fieldLink RJ0 15 "java/lang/String" "coder" "B") (by decide +kernel)) (fun _ h9 => h9) dJ0_coder_7d493_7 ?_
  refine lv_goto (tgt := 14) hx hb dJ0_coder_7d493_10 (by decide) ?_
  have hP9 := hP.sub (ws' := []) [] rfl
  have hD9 := hD.sub (ws' := []) [] (by decide) rfl
  have hK9 := hK.sub (tys' := []) [] rfl
  exact W.zret (v := 0) hx hb hr rfl (fun t ht hW => ⟨⟨0, (), rfl, rfl, ⟨by rw [ht]; exact hP9, va_K.moved hW.alike hK9, hD9⟩⟩, hS.F ht⟩) hS.2.2 dJ0_coder_7d493_14
def vs_f_J0_length_8abf5_a1 : List Cond := .code yJ0_length_8abf5 cJ0_length_8abf5 1 (some .int) :: ([.fieldLink RJ0 9 "java/lang/String" "value" "[B", .initialized RJ0, .instanceMethod yJ0_coder_7d493, .selects RJ0 yJ0_coder_7d493 yJ0_coder_7d493, .fieldLink RJ0 38 "java/lang/String" "COMPACT_STRINGS" "Z", .fieldLink RJ0 15 "java/lang/String" "coder" "B", .code yJ0_coder_7d493 cJ0_coder_7d493 1 (some .byte), .methodLink RJ0 335 yJ0_coder_7d493])
set_option maxRecDepth 20000 in
theorem g_f_J0_length_8abf5_a1_f_J0_coder_7d493_a1 : GoodIn vs_f_J0_length_8abf5_a1 (wsV RJ0 335 RJ0 yJ0_coder_7d493 vs_f_J0_coder_7d493_a1) := goodIn_r _ [8, 3, 4, 2, 7, 5, 6] (by decide +kernel) (by decide +kernel)
set_option maxHeartbeats 4000000 in
set_option maxRecDepth 100000 in
theorem f_J0_length_8abf5_a1 (l : Launch) (dC : Nat → ClassId) (dI : Nat → Nat → Nat) (sz : Nat) (sk sv : Nat → Nat) (s2 tz : Nat) : Met l yJ0_length_8abf5 vs_f_J0_length_8abf5_a1 ({ frames := 1, cells := 0, slots := 0, locals := 20 }) (va_Pc [.ref (sk 0)] (cWx dC dI [] [] sz sk sv s2 tz)) (va_Qi (fun (r : Int32) (_ : Unit) => r = 1) (fun (_ : Unit) (t : State) => cB dC dI (va_A [] sz) [] [] t) (va_A [] sz)) 0 0 (va_A [] sz) := by
  refine Met.ofW (cc := cJ0_length_8abf5) (maxL := 1) (ret := (some .int)) (by decide) rfl ?_
  intro p e s m args below meth c s₁ B hml hv
  obtain ⟨rfl, ⟨hsz, hP, hK, hD0, hG⟩, hE⟩ := hv
  have hx := B.exec
  have hb := B.bytes
  have hr := B.returns
  have hts := atoms_spec (ws := vs_f_J0_length_8abf5_a1) B.pre
  have hown : s.vm.findClass RJ0 = some m.cls := findClass_of_methodNamed B.named
  have hlocks := B.notSynchronized
  subst hsz
  have hD := hD0.self (sz := s.heap.size)
  generalize hAe : va_A [] s.heap.size = A at hD hE ⊢
  have hA : ∀ q : Nat, s.heap.size ≤ q → A q := fun q h => by rw [← hAe]; exact Or.inr h
  have hS : va_S A s.heap s.heap [] := va_S.rf
  have hP : va_P (dC, dI) vwCl [] s.heap := hP
  have hl := lv_entry ([.ref (sk 0)]) (n := 1) (Nat.le_of_ble_eq_true rfl)
  rw [lg_entry_eq]
  generalize (lg_sl ([.ref (sk 0)]) ++ List.replicate (1 - (lg_sl ([.ref (sk 0)])).length) Slot.unset).toArray = ls at hl ⊢
  have hl : lv_has ls 1 [(0, .ref (sk 0))] := hl
  refine lv_aload_n hx hb dJ0_length_8abf5_0 rfl (lv_at hl 0 rfl) ?_
  refine vk_getf (o := "java/lang/String") (n := "value") (d := "[B") (v := .ref (sv 0)) hx hb (hE.1.1.1 0 (by decide)).2.2.1 hS hown (hts (.fieldLink RJ0 9 "java/lang/String" "value" "[B") (by decide +kernel)) (fun _ h9 => h9) dJ0_length_8abf5_1 ?_
  refine va_tlen hx hb (hE.1.1.1 0 (by decide)).2.2.2 hS (v := 1) rfl dJ0_length_8abf5_4 ?_
  refine lv_aload_n hx hb dJ0_length_8abf5_5 rfl (lv_at hl 0 rfl) ?_
  have hPc := hP.sub (ws' := []) [] rfl
  have hDc := hD.sub (ws' := []) [] (by decide) rfl
  have hKc := hK.sub (tys' := []) [] rfl
  have hFc := va_free (wc := []) hD hS hA [] rfl
  refine va_calli (va_runV (As := []) (rest := [.int 1]) ⟨hx, hb, hml, hown, hts⟩ (f_J0_coder_7d493_a1 l dC dI s.heap.size sk sv s2 tz  ) (cwV 0 hts g_f_J0_length_8abf5_a1_f_J0_coder_7d493_a1 rfl rfl rfl (by decide +kernel) ⟨Nat.le_of_ble_eq_true rfl, Nat.le_of_ble_eq_true rfl⟩) ⟨cW_blindx, vk_recv hE.1.1 (i := 0) (by decide) hS, fun U hU hW => ⟨rfl, cW_usex hU hW hPc hKc hDc hG hS hFc hE⟩⟩ rfl rfl hl.1 rfl (lv_room (Nat.le_of_ble_eq_true rfl)) dJ0_length_8abf5_6 ⟨Nat.le_of_ble_eq_true rfl, Nat.le_of_ble_eq_true rfl⟩) hS (fun q _ h => hFc q h) hFc (fun r_1 u t H1 locs ht hvm hw hB hz1 hk1 hS => ?_)
  obtain ⟨hP1, hK1, hD1⟩ := hB
  rw [ht] at hP1
  have hK1 := va_K.moved hvm.symm hK1
  obtain ⟨hP, hD⟩ := va_join (wr := []) (w1 := []) hP hD [] [] rfl rfl (by decide) (by decide) hk1 hFc hP1 hD1
  generalize H1 = H at hP hS ⊢
  have hP : va_P (dC, dI) vwCl [] H := hP
  have hD : va_D A [] := hD
  refine W.widen (k := 0) (n := 0) (Nat.le_of_ble_eq_true rfl) (Nat.le_of_ble_eq_true rfl) ?_
  obtain rfl : r_1 = 0 := hw
  refine lv_ishr hx hb dJ0_length_8abf5_9 ?_
  refine lv_topi (fun v_2 e_2 => ?_)
  obtain rfl : v_2 = 1 := by rw [e_2]; decide
  have hP9 := hP.sub (ws' := []) [] rfl
  have hD9 := hD.sub (ws' := []) [] (by decide) rfl
  have hK9 := hK.sub (tys' := []) [] rfl
  exact W.iret (v := 1) hx hb hr (fun t ht hW => ⟨⟨1, (), rfl, rfl, ⟨by rw [ht]; exact hP9, va_K.moved hW.alike hK9, hD9⟩⟩, hS.F ht⟩) hS.2.2 dJ0_length_8abf5_10
def vs_f_J0_isLatin1_aae02_a1 : List Cond := .code yJ0_isLatin1_aae02 cJ0_isLatin1_aae02 1 (some .boolean) :: ([.fieldLink RJ0 38 "java/lang/String" "COMPACT_STRINGS" "Z", .fieldLink RJ0 15 "java/lang/String" "coder" "B"])
set_option maxHeartbeats 4000000 in
set_option maxRecDepth 100000 in
theorem f_J0_isLatin1_aae02_a1 (l : Launch) (dC : Nat → ClassId) (dI : Nat → Nat → Nat) (sz : Nat) (sk sv : Nat → Nat) (s2 tz : Nat) : Met l yJ0_isLatin1_aae02 vs_f_J0_isLatin1_aae02_a1 ({ frames := 0, cells := 0, slots := 0, locals := 0 }) (va_Pc [.ref (sk 0)] (cWx dC dI [] [] sz sk sv s2 tz)) (va_Qi (fun (r : Int32) (_ : Unit) => r = 1) (fun (_ : Unit) (t : State) => cB dC dI (va_A [] sz) [] [] t) (va_A [] sz)) 0 0 (va_A [] sz) := by
  refine Met.ofW (cc := cJ0_isLatin1_aae02) (maxL := 1) (ret := (some .boolean)) (by decide) rfl ?_
  intro p e s m args below meth c s₁ B hml hv
  obtain ⟨rfl, ⟨hsz, hP, hK, hD0, hG⟩, hE⟩ := hv
  have hx := B.exec
  have hb := B.bytes
  have hr := B.returns
  have hts := atoms_spec (ws := vs_f_J0_isLatin1_aae02_a1) B.pre
  have hown : s.vm.findClass RJ0 = some m.cls := findClass_of_methodNamed B.named
  have hlocks := B.notSynchronized
  subst hsz
  have hD := hD0.self (sz := s.heap.size)
  generalize hAe : va_A [] s.heap.size = A at hD hE ⊢
  have hA : ∀ q : Nat, s.heap.size ≤ q → A q := fun q h => by rw [← hAe]; exact Or.inr h
  have hS : va_S A s.heap s.heap [] := va_S.rf
  have hP : va_P (dC, dI) vwCl [] s.heap := hP
  have hl := lv_entry ([.ref (sk 0)]) (n := 1) (Nat.le_of_ble_eq_true rfl)
  rw [lg_entry_eq]
  generalize (lg_sl ([.ref (sk 0)]) ++ List.replicate (1 - (lg_sl ([.ref (sk 0)])).length) Slot.unset).toArray = ls at hl ⊢
  have hl : lv_has ls 1 [(0, .ref (sk 0))] := hl
  refine va_gets (C := "java/lang/String") (n := "COMPACT_STRINGS") (d := "Z") (v := .int 1) hx hb hE.1.2.1 hS hown (hts (.fieldLink RJ0 38 "java/lang/String" "COMPACT_STRINGS" "Z") (by decide +kernel)) (fun _ h9 => h9) dJ0_isLatin1_aae02_0 ?_
  refine lv_if_eq (tgt := 17) hx hb dJ0_isLatin1_aae02_3 (by decide) (fun c_1 => absurd c_1 (by decide)) (fun c_1 => ?_)
  refine lv_aload_n hx hb dJ0_isLatin1_aae02_6 rfl (lv_at hl 0 rfl) ?_
  refine vk_getf (o := "java/lang/String") (n := "coder") (d := "B") (v := .int 0) hx hb (hE.1.1.1 0 (by decide)).2.1 hS hown (hts (.fieldLink RJ0 15 "java/lang/String" "coder" "B") (by decide +kernel)) (fun _ h9 => h9) dJ0_isLatin1_aae02_7 ?_
  refine lv_if_ne (tgt := 17) hx hb dJ0_isLatin1_aae02_10 (by decide) (fun c_2 => absurd c_2 (by decide)) (fun c_2 => ?_)
  refine lv_iconst (v := 1) hx hb dJ0_isLatin1_aae02_13 (by decide) ?_
  refine lv_goto (tgt := 18) hx hb dJ0_isLatin1_aae02_14 (by decide) ?_
  have hP9 := hP.sub (ws' := []) [] rfl
  have hD9 := hD.sub (ws' := []) [] (by decide) rfl
  have hK9 := hK.sub (tys' := []) [] rfl
  exact W.zret (v := 1) hx hb hr rfl (fun t ht hW => ⟨⟨1, (), rfl, rfl, ⟨by rw [ht]; exact hP9, va_K.moved hW.alike hK9, hD9⟩⟩, hS.F ht⟩) hS.2.2 dJ0_isLatin1_aae02_18
def vs_f_J3_checkIndex_8e157_a1 : List Cond := .code yJ3_checkIndex_8e157 cJ3_checkIndex_8e157 3 (some .int) :: ([])
set_option maxHeartbeats 4000000 in
set_option maxRecDepth 100000 in
theorem f_J3_checkIndex_8e157_a1 (l : Launch) (dC : Nat → ClassId) (dI : Nat → Nat → Nat) (sz : Nat) : Met l yJ3_checkIndex_8e157 vs_f_J3_checkIndex_8e157_a1 ({ frames := 0, cells := 0, slots := 0, locals := 0 }) (va_Pc [.int 0, .int 1, .null] (cW dC dI [] [] sz)) (va_Qi (fun (r : Int32) (_ : Unit) => r = 0) (fun (_ : Unit) (t : State) => cB dC dI (va_A [] sz) [] [] t) (va_A [] sz)) 0 0 (va_A [] sz) := by
  refine Met.ofW (cc := cJ3_checkIndex_8e157) (maxL := 3) (ret := (some .int)) (by decide) rfl ?_
  intro p e s m args below meth c s₁ B hml hv
  obtain ⟨rfl, hsz, hP, hK, hD0, hG⟩ := hv
  have hx := B.exec
  have hb := B.bytes
  have hr := B.returns
  have hts := atoms_spec (ws := vs_f_J3_checkIndex_8e157_a1) B.pre
  have hown : s.vm.findClass RJ3 = some m.cls := findClass_of_methodNamed B.named
  have hlocks := B.notSynchronized
  subst hsz
  have hD := hD0.self (sz := s.heap.size)
  generalize hAe : va_A [] s.heap.size = A at hD ⊢
  have hA : ∀ q : Nat, s.heap.size ≤ q → A q := fun q h => by rw [← hAe]; exact Or.inr h
  have hS : va_S A s.heap s.heap [] := va_S.rf
  have hP : va_P (dC, dI) vwCl [] s.heap := hP
  have hl := lv_entry ([.int 0, .int 1, .null]) (n := 3) (Nat.le_of_ble_eq_true rfl)
  rw [lg_entry_eq]
  generalize (lg_sl ([.int 0, .int 1, .null]) ++ List.replicate (3 - (lg_sl ([.int 0, .int 1, .null])).length) Slot.unset).toArray = ls at hl ⊢
  have hl : lv_has ls 3 [(0, .int 0), (1, .int 1), (2, .null)] := hl
  refine lv_iload_n hx hb dJ3_checkIndex_8e157_0 rfl (lv_at hl 0 rfl) ?_
  refine lv_if_lt (tgt := 9) hx hb dJ3_checkIndex_8e157_1 (by decide) (fun c_1 => absurd c_1 (by decide)) (fun c_1 => ?_)
  refine lv_iload_n hx hb dJ3_checkIndex_8e157_4 rfl (lv_at hl 0 rfl) ?_
  refine lv_iload_n hx hb dJ3_checkIndex_8e157_5 rfl (lv_at hl 1 rfl) ?_
  refine lv_icmp_lt (tgt := 16) hx hb dJ3_checkIndex_8e157_6 (by decide) (fun c_2 => ?_) (fun c_2 => absurd (by decide) c_2)
  refine lv_iload_n hx hb dJ3_checkIndex_8e157_16 rfl (lv_at hl 0 rfl) ?_
  have hP9 := hP.sub (ws' := []) [] rfl
  have hD9 := hD.sub (ws' := []) [] (by decide) rfl
  have hK9 := hK.sub (tys' := []) [] rfl
  exact W.iret (v := 0) hx hb hr (fun t ht hW => ⟨⟨0, (), rfl, rfl, ⟨by rw [ht]; exact hP9, va_K.moved hW.alike hK9, hD9⟩⟩, hS.F ht⟩) hS.2.2 dJ3_checkIndex_8e157_17
def vs_f_J3_checkIndex_8e157_a2 : List Cond := .code yJ3_checkIndex_8e157 cJ3_checkIndex_8e157 3 (some .int) :: ([])
set_option maxHeartbeats 4000000 in
set_option maxRecDepth 100000 in
theorem f_J3_checkIndex_8e157_a2 (l : Launch) (dC : Nat → ClassId) (dI : Nat → Nat → Nat) (sz : Nat) (b2 : Nat) : Met l yJ3_checkIndex_8e157 vs_f_J3_checkIndex_8e157_a2 ({ frames := 0, cells := 0, slots := 0, locals := 0 }) (va_Pc [.int 0, .int 1, .ref b2] (cW dC dI [] [] sz)) (va_Qi (fun (r : Int32) (_ : Unit) => r = 0) (fun (_ : Unit) (t : State) => cB dC dI (va_A [] sz) [] [] t) (va_A [] sz)) 0 0 (va_A [] sz) := by
  refine Met.ofW (cc := cJ3_checkIndex_8e157) (maxL := 3) (ret := (some .int)) (by decide) rfl ?_
  intro p e s m args below meth c s₁ B hml hv
  obtain ⟨rfl, hsz, hP, hK, hD0, hG⟩ := hv
  have hx := B.exec
  have hb := B.bytes
  have hr := B.returns
  have hts := atoms_spec (ws := vs_f_J3_checkIndex_8e157_a2) B.pre
  have hown : s.vm.findClass RJ3 = some m.cls := findClass_of_methodNamed B.named
  have hlocks := B.notSynchronized
  subst hsz
  have hD := hD0.self (sz := s.heap.size)
  generalize hAe : va_A [] s.heap.size = A at hD ⊢
  have hA : ∀ q : Nat, s.heap.size ≤ q → A q := fun q h => by rw [← hAe]; exact Or.inr h
  have hS : va_S A s.heap s.heap [] := va_S.rf
  have hP : va_P (dC, dI) vwCl [] s.heap := hP
  have hl := lv_entry ([.int 0, .int 1, .ref b2]) (n := 3) (Nat.le_of_ble_eq_true rfl)
  rw [lg_entry_eq]
  generalize (lg_sl ([.int 0, .int 1, .ref b2]) ++ List.replicate (3 - (lg_sl ([.int 0, .int 1, .ref b2])).length) Slot.unset).toArray = ls at hl ⊢
  have hl : lv_has ls 3 [(0, .int 0), (1, .int 1), (2, .ref b2)] := hl
  refine lv_iload_n hx hb dJ3_checkIndex_8e157_0 rfl (lv_at hl 0 rfl) ?_
  refine lv_if_lt (tgt := 9) hx hb dJ3_checkIndex_8e157_1 (by decide) (fun c_1 => absurd c_1 (by decide)) (fun c_1 => ?_)
  refine lv_iload_n hx hb dJ3_checkIndex_8e157_4 rfl (lv_at hl 0 rfl) ?_
  refine lv_iload_n hx hb dJ3_checkIndex_8e157_5 rfl (lv_at hl 1 rfl) ?_
  refine lv_icmp_lt (tgt := 16) hx hb dJ3_checkIndex_8e157_6 (by decide) (fun c_2 => ?_) (fun c_2 => absurd (by decide) c_2)
  refine lv_iload_n hx hb dJ3_checkIndex_8e157_16 rfl (lv_at hl 0 rfl) ?_
  have hP9 := hP.sub (ws' := []) [] rfl
  have hD9 := hD.sub (ws' := []) [] (by decide) rfl
  have hK9 := hK.sub (tys' := []) [] rfl
  exact W.iret (v := 0) hx hb hr (fun t ht hW => ⟨⟨0, (), rfl, rfl, ⟨by rw [ht]; exact hP9, va_K.moved hW.alike hK9, hD9⟩⟩, hS.F ht⟩) hS.2.2 dJ3_checkIndex_8e157_17
def vs_f_J0_checkIndex_df160_a1 : List Cond := .code yJ0_checkIndex_df160 cJ0_checkIndex_df160 2 none :: ([.fieldLink RJ0 1053 "jdk/internal/util/Preconditions" "SIOOBE_FORMATTER" "Ljava/util/function/BiFunction;", .initialized RJ3, .static yJ3_checkIndex_8e157, .code yJ3_checkIndex_8e157 cJ3_checkIndex_8e157 3 (some .int), .methodLink RJ0 1059 yJ3_checkIndex_8e157])
set_option maxRecDepth 20000 in
theorem g_f_J0_checkIndex_df160_a1_f_J3_checkIndex_8e157_a1 : GoodIn vs_f_J0_checkIndex_df160_a1 (va_wsS RJ0 1059 yJ3_checkIndex_8e157 vs_f_J3_checkIndex_8e157_a1) := goodIn_r _ [5, 3, 2, 4] (by decide +kernel) (by decide +kernel)
set_option maxRecDepth 20000 in
theorem g_f_J0_checkIndex_df160_a1_f_J3_checkIndex_8e157_a2 : GoodIn vs_f_J0_checkIndex_df160_a1 (va_wsS RJ0 1059 yJ3_checkIndex_8e157 vs_f_J3_checkIndex_8e157_a2) := goodIn_r _ [5, 3, 2, 4] (by decide +kernel) (by decide +kernel)
set_option maxHeartbeats 4000000 in
set_option maxRecDepth 100000 in
theorem f_J0_checkIndex_df160_a1 (l : Launch) (dC : Nat → ClassId) (dI : Nat → Nat → Nat) (sz : Nat) (sk sv : Nat → Nat) (s2 tz : Nat) : Met l yJ0_checkIndex_df160 vs_f_J0_checkIndex_df160_a1 ({ frames := 1, cells := 0, slots := 0, locals := 22 }) (va_Pc [.int 0, .int 1] (cWx dC dI [] [] sz sk sv s2 tz)) (va_Qv (fun (_ : Unit) => True) (fun (_ : Unit) (t : State) => cB dC dI (va_A [] sz) [] [] t) (va_A [] sz)) 0 0 (va_A [] sz) := by
  refine Met.ofW (cc := cJ0_checkIndex_df160) (maxL := 2) (ret := none) (by decide) rfl ?_
  intro p e s m args below meth c s₁ B hml hv
  obtain ⟨rfl, ⟨hsz, hP, hK, hD0, hG⟩, hE⟩ := hv
  have hx := B.exec
  have hb := B.bytes
  have hr := B.returns
  have hts := atoms_spec (ws := vs_f_J0_checkIndex_df160_a1) B.pre
  have hown : s.vm.findClass RJ0 = some m.cls := findClass_of_methodNamed B.named
  have hlocks := B.notSynchronized
  subst hsz
  have hD := hD0.self (sz := s.heap.size)
  generalize hAe : va_A [] s.heap.size = A at hD hE ⊢
  have hA : ∀ q : Nat, s.heap.size ≤ q → A q := fun q h => by rw [← hAe]; exact Or.inr h
  have hS : va_S A s.heap s.heap [] := va_S.rf
  have hP : va_P (dC, dI) vwCl [] s.heap := hP
  have hl := lv_entry ([.int 0, .int 1]) (n := 2) (Nat.le_of_ble_eq_true rfl)
  rw [lg_entry_eq]
  generalize (lg_sl ([.int 0, .int 1]) ++ List.replicate (2 - (lg_sl ([.int 0, .int 1])).length) Slot.unset).toArray = ls at hl ⊢
  have hl : lv_has ls 2 [(0, .int 0), (1, .int 1)] := hl
  refine lv_iload_n hx hb dJ0_checkIndex_df160_0 rfl (lv_at hl 0 rfl) ?_
  refine lv_iload_n hx hb dJ0_checkIndex_df160_1 rfl (lv_at hl 1 rfl) ?_
  rcases hE.1.2.2.1 with hz | ⟨t1, hz⟩
  · refine va_gets (C := "jdk/internal/util/Preconditions") (n := "SIOOBE_FORMATTER") (d := "Ljava/util/function/BiFunction;") (v := .null) hx hb hz hS hown (hts (.fieldLink RJ0 1053 "jdk/internal/util/Preconditions" "SIOOBE_FORMATTER" "Ljava/util/function/BiFunction;") (by decide +kernel)) (fun _ h9 => h9) dJ0_checkIndex_df160_2 ?_
    have hPc := hP.sub (ws' := []) [] rfl
    have hDc := hD.sub (ws' := []) [] (by decide) rfl
    have hKc := hK.sub (tys' := []) [] rfl
    have hFc := va_free (wc := []) hD hS hA [] rfl
    refine va_calli (va_runS (As := [.int 0, .int 1, .null]) (rest := []) ⟨hx, hb, hml, hown, hts⟩ (f_J3_checkIndex_8e157_a1 l dC dI s.heap.size  ) (va_cwS 3 hts g_f_J0_checkIndex_df160_a1_f_J3_checkIndex_8e157_a1 rfl rfl rfl (by decide +kernel) ⟨Nat.le_of_ble_eq_true rfl, Nat.le_of_ble_eq_true rfl⟩) ⟨cW_blind, fun U hU hW => ⟨rfl, cW_use hU hW hPc hKc hDc hG⟩⟩ rfl rfl hl.1 rfl (lv_room (Nat.le_of_ble_eq_true rfl)) dJ0_checkIndex_df160_5 ⟨Nat.le_of_ble_eq_true rfl, Nat.le_of_ble_eq_true rfl⟩) hS (fun q _ h => hFc q h) hFc (fun r_2 u t H1 locs ht hvm hw hB hz1 hk1 hS => ?_)
    obtain ⟨hP1, hK1, hD1⟩ := hB
    rw [ht] at hP1
    have hK1 := va_K.moved hvm.symm hK1
    obtain ⟨hP, hD⟩ := va_join (wr := []) (w1 := []) hP hD [] [] rfl rfl (by decide) (by decide) hk1 hFc hP1 hD1
    generalize H1 = H at hP hS ⊢
    have hP : va_P (dC, dI) vwCl [] H := hP
    have hD : va_D A [] := hD
    refine W.widen (k := 0) (n := 0) (Nat.le_of_ble_eq_true rfl) (Nat.le_of_ble_eq_true rfl) ?_
    obtain rfl : r_2 = 0 := hw
    refine lv_pop hx hb dJ0_checkIndex_df160_8 rfl ?_
    have hP9 := hP.sub (ws' := []) [] rfl
    have hD9 := hD.sub (ws' := []) [] (by decide) rfl
    have hK9 := hK.sub (tys' := []) [] rfl
    exact W.vret hx hb hr (fun t ht hW => ⟨⟨(), rfl, trivial, ⟨by rw [ht]; exact hP9, va_K.moved hW.alike hK9, hD9⟩⟩, hS.F ht⟩) hS.2.2 dJ0_checkIndex_df160_9
  · refine va_gets (C := "jdk/internal/util/Preconditions") (n := "SIOOBE_FORMATTER") (d := "Ljava/util/function/BiFunction;") (v := .ref t1) hx hb hz hS hown (hts (.fieldLink RJ0 1053 "jdk/internal/util/Preconditions" "SIOOBE_FORMATTER" "Ljava/util/function/BiFunction;") (by decide +kernel)) (fun _ h9 => h9) dJ0_checkIndex_df160_2 ?_
    have hPc := hP.sub (ws' := []) [] rfl
    have hDc := hD.sub (ws' := []) [] (by decide) rfl
    have hKc := hK.sub (tys' := []) [] rfl
    have hFc := va_free (wc := []) hD hS hA [] rfl
    refine va_calli (va_runS (As := [.int 0, .int 1, .ref t1]) (rest := []) ⟨hx, hb, hml, hown, hts⟩ (f_J3_checkIndex_8e157_a2 l dC dI s.heap.size  t1) (va_cwS 3 hts g_f_J0_checkIndex_df160_a1_f_J3_checkIndex_8e157_a2 rfl rfl rfl (by decide +kernel) ⟨Nat.le_of_ble_eq_true rfl, Nat.le_of_ble_eq_true rfl⟩) ⟨cW_blind, fun U hU hW => ⟨rfl, cW_use hU hW hPc hKc hDc hG⟩⟩ rfl rfl hl.1 rfl (lv_room (Nat.le_of_ble_eq_true rfl)) dJ0_checkIndex_df160_5 ⟨Nat.le_of_ble_eq_true rfl, Nat.le_of_ble_eq_true rfl⟩) hS (fun q _ h => hFc q h) hFc (fun r_3 u t H1 locs ht hvm hw hB hz1 hk1 hS => ?_)
    obtain ⟨hP1, hK1, hD1⟩ := hB
    rw [ht] at hP1
    have hK1 := va_K.moved hvm.symm hK1
    obtain ⟨hP, hD⟩ := va_join (wr := []) (w1 := []) hP hD [] [] rfl rfl (by decide) (by decide) hk1 hFc hP1 hD1
    generalize H1 = H at hP hS ⊢
    have hP : va_P (dC, dI) vwCl [] H := hP
    have hD : va_D A [] := hD
    refine W.widen (k := 0) (n := 0) (Nat.le_of_ble_eq_true rfl) (Nat.le_of_ble_eq_true rfl) ?_
    obtain rfl : r_3 = 0 := hw
    refine lv_pop hx hb dJ0_checkIndex_df160_8 rfl ?_
    have hP9 := hP.sub (ws' := []) [] rfl
    have hD9 := hD.sub (ws' := []) [] (by decide) rfl
    have hK9 := hK.sub (tys' := []) [] rfl
    exact W.vret hx hb hr (fun t ht hW => ⟨⟨(), rfl, trivial, ⟨by rw [ht]; exact hP9, va_K.moved hW.alike hK9, hD9⟩⟩, hS.F ht⟩) hS.2.2 dJ0_checkIndex_df160_9
def vs_f_J1_charAt_3b067_a1 : List Cond := .code yJ1_charAt_3b067 cJ1_charAt_3b067 2 (some .char) :: ([.initialized RJ0, .static yJ0_checkIndex_df160, .fieldLink RJ0 1053 "jdk/internal/util/Preconditions" "SIOOBE_FORMATTER" "Ljava/util/function/BiFunction;", .initialized RJ3, .static yJ3_checkIndex_8e157, .code yJ3_checkIndex_8e157 cJ3_checkIndex_8e157 3 (some .int), .methodLink RJ0 1059 yJ3_checkIndex_8e157, .code yJ0_checkIndex_df160 cJ0_checkIndex_df160 2 none, .methodLink RJ1 9 yJ0_checkIndex_df160])
set_option maxRecDepth 20000 in
theorem g_f_J1_charAt_3b067_a1_f_J0_checkIndex_df160_a1 : GoodIn vs_f_J1_charAt_3b067_a1 (va_wsS RJ1 9 yJ0_checkIndex_df160 vs_f_J0_checkIndex_df160_a1) := goodIn_r _ [9, 2, 1, 8, 3, 4, 5, 6, 7] (by decide +kernel) (by decide +kernel)
set_option maxHeartbeats 4000000 in
set_option maxRecDepth 100000 in
theorem f_J1_charAt_3b067_a1 (l : Launch) (dC : Nat → ClassId) (dI : Nat → Nat → Nat) (sz : Nat) (sk sv : Nat → Nat) (s2 tz : Nat) : Met l yJ1_charAt_3b067 vs_f_J1_charAt_3b067_a1 ({ frames := 2, cells := 0, slots := 0, locals := 43 }) (va_Pc [.ref (sv 0), .int 0] (cWx dC dI [] [] sz sk sv s2 tz)) (va_Qi (fun (r : Int32) (_ : Unit) => r = 121) (fun (_ : Unit) (t : State) => cB dC dI (va_A [] sz) [] [] t) (va_A [] sz)) 0 0 (va_A [] sz) := by
  refine Met.ofW (cc := cJ1_charAt_3b067) (maxL := 2) (ret := (some .char)) (by decide) rfl ?_
  intro p e s m args below meth c s₁ B hml hv
  obtain ⟨rfl, ⟨hsz, hP, hK, hD0, hG⟩, hE⟩ := hv
  have hx := B.exec
  have hb := B.bytes
  have hr := B.returns
  have hts := atoms_spec (ws := vs_f_J1_charAt_3b067_a1) B.pre
  have hown : s.vm.findClass RJ1 = some m.cls := findClass_of_methodNamed B.named
  have hlocks := B.notSynchronized
  subst hsz
  have hD := hD0.self (sz := s.heap.size)
  generalize hAe : va_A [] s.heap.size = A at hD hE ⊢
  have hA : ∀ q : Nat, s.heap.size ≤ q → A q := fun q h => by rw [← hAe]; exact Or.inr h
  have hS : va_S A s.heap s.heap [] := va_S.rf
  have hP : va_P (dC, dI) vwCl [] s.heap := hP
  have hl := lv_entry ([.ref (sv 0), .int 0]) (n := 2) (Nat.le_of_ble_eq_true rfl)
  rw [lg_entry_eq]
  generalize (lg_sl ([.ref (sv 0), .int 0]) ++ List.replicate (2 - (lg_sl ([.ref (sv 0), .int 0])).length) Slot.unset).toArray = ls at hl ⊢
  have hl : lv_has ls 2 [(0, .ref (sv 0)), (1, .int 0)] := hl
  refine lv_iload_n hx hb dJ1_charAt_3b067_0 rfl (lv_at hl 1 rfl) ?_
  refine lv_aload_n hx hb dJ1_charAt_3b067_1 rfl (lv_at hl 0 rfl) ?_
  refine va_tlen hx hb (hE.1.1.1 0 (by decide)).2.2.2 hS (v := 1) rfl dJ1_charAt_3b067_2 ?_
  have hPc := hP.sub (ws' := []) [] rfl
  have hDc := hD.sub (ws' := []) [] (by decide) rfl
  have hKc := hK.sub (tys' := []) [] rfl
  have hFc := va_free (wc := []) hD hS hA [] rfl
  refine va_callv (va_runS (As := [.int 0, .int 1]) (rest := []) ⟨hx, hb, hml, hown, hts⟩ (f_J0_checkIndex_df160_a1 l dC dI s.heap.size sk sv s2 tz  ) (va_cwS 2 hts g_f_J1_charAt_3b067_a1_f_J0_checkIndex_df160_a1 rfl rfl rfl (by decide +kernel) ⟨Nat.le_of_ble_eq_true rfl, Nat.le_of_ble_eq_true rfl⟩) ⟨cW_blindx, fun U hU hW => ⟨rfl, cW_usex hU hW hPc hKc hDc hG hS hFc hE⟩⟩ rfl rfl hl.1 rfl (lv_room (Nat.le_of_ble_eq_true rfl)) dJ1_charAt_3b067_3 ⟨Nat.le_of_ble_eq_true rfl, Nat.le_of_ble_eq_true rfl⟩) hS (fun q _ h => hFc q h) hFc (fun u t H1 locs ht hvm hw hB hz1 hk1 hS => ?_)
  obtain ⟨hP1, hK1, hD1⟩ := hB
  rw [ht] at hP1
  have hK1 := va_K.moved hvm.symm hK1
  obtain ⟨hP, hD⟩ := va_join (wr := []) (w1 := []) hP hD [] [] rfl rfl (by decide) (by decide) hk1 hFc hP1 hD1
  generalize H1 = H at hP hS ⊢
  have hP : va_P (dC, dI) vwCl [] H := hP
  have hD : va_D A [] := hD
  refine W.widen (k := 0) (n := 0) (Nat.le_of_ble_eq_true rfl) (Nat.le_of_ble_eq_true rfl) ?_
  refine lv_aload_n hx hb dJ1_charAt_3b067_6 rfl (lv_at hl 0 rfl) ?_
  refine lv_iload_n hx hb dJ1_charAt_3b067_7 rfl (lv_at hl 1 rfl) ?_
  refine va_tb hx hb (hE.1.1.1 0 (by decide)).2.2.2 hS (i := 0) (vp_in_nI (n := 0) (by decide) (by decide)) (v := .int 121) rfl dJ1_charAt_3b067_8 ?_
  refine lv_sipush (v := 255) hx hb dJ1_charAt_3b067_9 (by decide) ?_
  refine lv_iand hx hb dJ1_charAt_3b067_12 ?_
  refine lv_topi (fun v_2 e_2 => ?_)
  obtain rfl : v_2 = 121 := by rw [e_2]; decide
  refine lv_i2c (v := 121) hx hb dJ1_charAt_3b067_13 (by decide) ?_
  have hP9 := hP.sub (ws' := []) [] rfl
  have hD9 := hD.sub (ws' := []) [] (by decide) rfl
  have hK9 := hK.sub (tys' := []) [] rfl
  exact W.zret (v := 121) hx hb hr rfl (fun t ht hW => ⟨⟨121, (), rfl, rfl, ⟨by rw [ht]; exact hP9, va_K.moved hW.alike hK9, hD9⟩⟩, hS.F ht⟩) hS.2.2 dJ1_charAt_3b067_14
def vs_f_J0_charAt_5068e_a1 : List Cond := .code yJ0_charAt_5068e cJ0_charAt_5068e 2 (some .char) :: ([.initialized RJ0, .instanceMethod yJ0_isLatin1_aae02, .selects RJ0 yJ0_isLatin1_aae02 yJ0_isLatin1_aae02, .fieldLink RJ0 38 "java/lang/String" "COMPACT_STRINGS" "Z", .fieldLink RJ0 15 "java/lang/String" "coder" "B", .code yJ0_isLatin1_aae02 cJ0_isLatin1_aae02 1 (some .boolean), .methodLink RJ0 492 yJ0_isLatin1_aae02, .fieldLink RJ0 9 "java/lang/String" "value" "[B", .initialized RJ1, .static yJ1_charAt_3b067, .static yJ0_checkIndex_df160, .fieldLink RJ0 1053 "jdk/internal/util/Preconditions" "SIOOBE_FORMATTER" "Ljava/util/function/BiFunction;", .initialized RJ3, .static yJ3_checkIndex_8e157, .code yJ3_checkIndex_8e157 cJ3_checkIndex_8e157 3 (some .int), .methodLink RJ0 1059 yJ3_checkIndex_8e157, .code yJ0_checkIndex_df160 cJ0_checkIndex_df160 2 none, .methodLink RJ1 9 yJ0_checkIndex_df160, .code yJ1_charAt_3b067 cJ1_charAt_3b067 2 (some .char), .methodLink RJ0 495 yJ1_charAt_3b067])
set_option maxRecDepth 20000 in
theorem g_f_J0_charAt_5068e_a1_f_J0_isLatin1_aae02_a1 : GoodIn vs_f_J0_charAt_5068e_a1 (wsV RJ0 492 RJ0 yJ0_isLatin1_aae02 vs_f_J0_isLatin1_aae02_a1) := goodIn_r _ [7, 2, 3, 1, 6, 4, 5] (by decide +kernel) (by decide +kernel)
set_option maxRecDepth 20000 in
theorem g_f_J0_charAt_5068e_a1_f_J1_charAt_3b067_a1 : GoodIn vs_f_J0_charAt_5068e_a1 (va_wsS RJ0 495 yJ1_charAt_3b067 vs_f_J1_charAt_3b067_a1) := goodIn_r _ [20, 10, 9, 19, 1, 11, 12, 13, 14, 15, 16, 17, 18] (by decide +kernel) (by decide +kernel)
set_option maxHeartbeats 4000000 in
set_option maxRecDepth 100000 in
theorem f_J0_charAt_5068e_a1 (l : Launch) (dC : Nat → ClassId) (dI : Nat → Nat → Nat) (sz : Nat) (sk sv : Nat → Nat) (s2 tz : Nat) : Met l yJ0_charAt_5068e vs_f_J0_charAt_5068e_a1 ({ frames := 3, cells := 0, slots := 0, locals := 64 }) (va_Pc [.ref (sk 0), .int 0] (cWx dC dI [] [] sz sk sv s2 tz)) (va_Qi (fun (r : Int32) (_ : Unit) => r = 121) (fun (_ : Unit) (t : State) => cB dC dI (va_A [] sz) [] [] t) (va_A [] sz)) 0 0 (va_A [] sz) := by
  refine Met.ofW (cc := cJ0_charAt_5068e) (maxL := 2) (ret := (some .char)) (by decide) rfl ?_
  intro p e s m args below meth c s₁ B hml hv
  obtain ⟨rfl, ⟨hsz, hP, hK, hD0, hG⟩, hE⟩ := hv
  have hx := B.exec
  have hb := B.bytes
  have hr := B.returns
  have hts := atoms_spec (ws := vs_f_J0_charAt_5068e_a1) B.pre
  have hown : s.vm.findClass RJ0 = some m.cls := findClass_of_methodNamed B.named
  have hlocks := B.notSynchronized
  subst hsz
  have hD := hD0.self (sz := s.heap.size)
  generalize hAe : va_A [] s.heap.size = A at hD hE ⊢
  have hA : ∀ q : Nat, s.heap.size ≤ q → A q := fun q h => by rw [← hAe]; exact Or.inr h
  have hS : va_S A s.heap s.heap [] := va_S.rf
  have hP : va_P (dC, dI) vwCl [] s.heap := hP
  have hl := lv_entry ([.ref (sk 0), .int 0]) (n := 2) (Nat.le_of_ble_eq_true rfl)
  rw [lg_entry_eq]
  generalize (lg_sl ([.ref (sk 0), .int 0]) ++ List.replicate (2 - (lg_sl ([.ref (sk 0), .int 0])).length) Slot.unset).toArray = ls at hl ⊢
  have hl : lv_has ls 2 [(0, .ref (sk 0)), (1, .int 0)] := hl
  refine lv_aload_n hx hb dJ0_charAt_5068e_0 rfl (lv_at hl 0 rfl) ?_
  have hPc := hP.sub (ws' := []) [] rfl
  have hDc := hD.sub (ws' := []) [] (by decide) rfl
  have hKc := hK.sub (tys' := []) [] rfl
  have hFc := va_free (wc := []) hD hS hA [] rfl
  refine va_calli (va_runV (As := []) (rest := []) ⟨hx, hb, hml, hown, hts⟩ (f_J0_isLatin1_aae02_a1 l dC dI s.heap.size sk sv s2 tz  ) (cwV 0 hts g_f_J0_charAt_5068e_a1_f_J0_isLatin1_aae02_a1 rfl rfl rfl (by decide +kernel) ⟨Nat.le_of_ble_eq_true rfl, Nat.le_of_ble_eq_true rfl⟩) ⟨cW_blindx, vk_recv hE.1.1 (i := 0) (by decide) hS, fun U hU hW => ⟨rfl, cW_usex hU hW hPc hKc hDc hG hS hFc hE⟩⟩ rfl rfl hl.1 rfl (lv_room (Nat.le_of_ble_eq_true rfl)) dJ0_charAt_5068e_1 ⟨Nat.le_of_ble_eq_true rfl, Nat.le_of_ble_eq_true rfl⟩) hS (fun q _ h => hFc q h) hFc (fun r_1 u t H1 locs ht hvm hw hB hz1 hk1 hS => ?_)
  obtain ⟨hP1, hK1, hD1⟩ := hB
  rw [ht] at hP1
  have hK1 := va_K.moved hvm.symm hK1
  obtain ⟨hP, hD⟩ := va_join (wr := []) (w1 := []) hP hD [] [] rfl rfl (by decide) (by decide) hk1 hFc hP1 hD1
  generalize H1 = H at hP hS ⊢
  have hP : va_P (dC, dI) vwCl [] H := hP
  have hD : va_D A [] := hD
  refine W.widen (k := 0) (n := 0) (Nat.le_of_ble_eq_true rfl) (Nat.le_of_ble_eq_true rfl) ?_
  obtain rfl : r_1 = 1 := hw
  refine lv_if_eq (tgt := 16) hx hb dJ0_charAt_5068e_4 (by decide) (fun c_2 => absurd c_2 (by decide)) (fun c_2 => ?_)
  refine lv_aload_n hx hb dJ0_charAt_5068e_7 rfl (lv_at hl 0 rfl) ?_
  refine vk_getf (o := "java/lang/String") (n := "value") (d := "[B") (v := .ref (sv 0)) hx hb (hE.1.1.1 0 (by decide)).2.2.1 hS hown (hts (.fieldLink RJ0 9 "java/lang/String" "value" "[B") (by decide +kernel)) (fun _ h9 => h9) dJ0_charAt_5068e_8 ?_
  refine lv_iload_n hx hb dJ0_charAt_5068e_11 rfl (lv_at hl 1 rfl) ?_
  have hPc := hP.sub (ws' := []) [] rfl
  have hDc := hD.sub (ws' := []) [] (by decide) rfl
  have hKc := hK.sub (tys' := []) [] rfl
  have hFc := va_free (wc := []) hD hS hA [] rfl
  refine va_calli (va_runS (As := [.ref (sv 0), .int 0]) (rest := []) ⟨hx, hb, hml, hown, hts⟩ (f_J1_charAt_3b067_a1 l dC dI H.size sk sv s2 tz  ) (va_cwS 2 hts g_f_J0_charAt_5068e_a1_f_J1_charAt_3b067_a1 rfl rfl rfl (by decide +kernel) ⟨Nat.le_of_ble_eq_true rfl, Nat.le_of_ble_eq_true rfl⟩) ⟨cW_blindx, fun U hU hW => ⟨rfl, cW_usex hU hW hPc hKc hDc hG hS hFc hE⟩⟩ rfl rfl hl.1 rfl (lv_room (Nat.le_of_ble_eq_true rfl)) dJ0_charAt_5068e_12 ⟨Nat.le_of_ble_eq_true rfl, Nat.le_of_ble_eq_true rfl⟩) hS (fun q _ h => hFc q h) hFc (fun r_3 u t H1 locs ht hvm hw hB hz1 hk1 hS => ?_)
  obtain ⟨hP1, hK1, hD1⟩ := hB
  rw [ht] at hP1
  have hK1 := va_K.moved hvm.symm hK1
  obtain ⟨hP, hD⟩ := va_join (wr := []) (w1 := []) hP hD [] [] rfl rfl (by decide) (by decide) hk1 hFc hP1 hD1
  generalize H1 = H at hP hS ⊢
  have hP : va_P (dC, dI) vwCl [] H := hP
  have hD : va_D A [] := hD
  refine W.widen (k := 0) (n := 0) (Nat.le_of_ble_eq_true rfl) (Nat.le_of_ble_eq_true rfl) ?_
  obtain rfl : r_3 = 121 := hw
  have hP9 := hP.sub (ws' := []) [] rfl
  have hD9 := hD.sub (ws' := []) [] (by decide) rfl
  have hK9 := hK.sub (tys' := []) [] rfl
  exact W.zret (v := 121) hx hb hr rfl (fun t ht hW => ⟨⟨121, (), rfl, rfl, ⟨by rw [ht]; exact hP9, va_K.moved hW.alike hK9, hD9⟩⟩, hS.F ht⟩) hS.2.2 dJ0_charAt_5068e_15
def vs_f_X12_isAmong_a1 : List Cond := .code yX12_isAmong cX12_isAmong 3 (some .boolean) :: ([.initialized RJ0, .instanceMethod yJ0_length_8abf5, .selects RJ0 yJ0_length_8abf5 yJ0_length_8abf5, .fieldLink RJ0 9 "java/lang/String" "value" "[B", .instanceMethod yJ0_coder_7d493, .selects RJ0 yJ0_coder_7d493 yJ0_coder_7d493, .fieldLink RJ0 38 "java/lang/String" "COMPACT_STRINGS" "Z", .fieldLink RJ0 15 "java/lang/String" "coder" "B", .code yJ0_coder_7d493 cJ0_coder_7d493 1 (some .byte), .methodLink RJ0 335 yJ0_coder_7d493, .code yJ0_length_8abf5 cJ0_length_8abf5 1 (some .int), .methodLink RX12 93 yJ0_length_8abf5, .instanceMethod yJ0_charAt_5068e, .selects RJ0 yJ0_charAt_5068e yJ0_charAt_5068e, .instanceMethod yJ0_isLatin1_aae02, .selects RJ0 yJ0_isLatin1_aae02 yJ0_isLatin1_aae02, .code yJ0_isLatin1_aae02 cJ0_isLatin1_aae02 1 (some .boolean), .methodLink RJ0 492 yJ0_isLatin1_aae02, .initialized RJ1, .static yJ1_charAt_3b067, .static yJ0_checkIndex_df160, .fieldLink RJ0 1053 "jdk/internal/util/Preconditions" "SIOOBE_FORMATTER" "Ljava/util/function/BiFunction;", .initialized RJ3, .static yJ3_checkIndex_8e157, .code yJ3_checkIndex_8e157 cJ3_checkIndex_8e157 3 (some .int), .methodLink RJ0 1059 yJ3_checkIndex_8e157, .code yJ0_checkIndex_df160 cJ0_checkIndex_df160 2 none, .methodLink RJ1 9 yJ0_checkIndex_df160, .code yJ1_charAt_3b067 cJ1_charAt_3b067 2 (some .char), .methodLink RJ0 495 yJ1_charAt_3b067, .code yJ0_charAt_5068e cJ0_charAt_5068e 2 (some .char), .methodLink RX12 99 yJ0_charAt_5068e])
set_option maxRecDepth 20000 in
theorem g_f_X12_isAmong_a1_f_J0_length_8abf5_a1 : GoodIn vs_f_X12_isAmong_a1 (wsV RX12 93 RJ0 yJ0_length_8abf5 vs_f_J0_length_8abf5_a1) := goodIn_r _ [12, 2, 3, 1, 11, 4, 1, 5, 6, 7, 8, 9, 10] (by decide +kernel) (by decide +kernel)
set_option maxRecDepth 20000 in
theorem g_f_X12_isAmong_a1_f_J0_charAt_5068e_a1 : GoodIn vs_f_X12_isAmong_a1 (wsV RX12 99 RJ0 yJ0_charAt_5068e vs_f_J0_charAt_5068e_a1) := goodIn_r _ [32, 13, 14, 1, 31, 1, 15, 16, 7, 8, 17, 18, 4, 19, 20, 21, 22, 23, 24, 25, 26, 27, 28, 29, 30] (by decide +kernel) (by decide +kernel)
set_option maxHeartbeats 4000000 in
set_option maxRecDepth 100000 in
theorem f_X12_isAmong_a1 (l : Launch) (dC : Nat → ClassId) (dI : Nat → Nat → Nat) (sz : Nat) (sk sv : Nat → Nat) (s2 tz : Nat) : Met l yX12_isAmong vs_f_X12_isAmong_a1 ({ frames := 4, cells := 0, slots := 0, locals := 85 }) (va_Pc [.ref (sk 0), .int (-1)] (cWx dC dI [] [] sz sk sv s2 tz)) (va_Qi (fun (r : Int32) (_ : Unit) => r = 0) (fun (_ : Unit) (t : State) => cB dC dI (va_A [] sz) [] [] t) (va_A [] sz)) 0 0 (va_A [] sz) := by
  refine Met.ofW (cc := cX12_isAmong) (maxL := 3) (ret := (some .boolean)) (by decide) rfl ?_
  intro p e s m args below meth c s₁ B hml hv
  obtain ⟨rfl, ⟨hsz, hP, hK, hD0, hG⟩, hE⟩ := hv
  have hx := B.exec
  have hb := B.bytes
  have hr := B.returns
  have hts := atoms_spec (ws := vs_f_X12_isAmong_a1) B.pre
  have hown : s.vm.findClass RX12 = some m.cls := findClass_of_methodNamed B.named
  have hlocks := B.notSynchronized
  subst hsz
  have hD := hD0.self (sz := s.heap.size)
  generalize hAe : va_A [] s.heap.size = A at hD hE ⊢
  have hA : ∀ q : Nat, s.heap.size ≤ q → A q := fun q h => by rw [← hAe]; exact Or.inr h
  have hS : va_S A s.heap s.heap [] := va_S.rf
  have hP : va_P (dC, dI) vwCl [] s.heap := hP
  have hl := lv_entry ([.ref (sk 0), .int (-1)]) (n := 3) (Nat.le_of_ble_eq_true rfl)
  rw [lg_entry_eq]
  generalize (lg_sl ([.ref (sk 0), .int (-1)]) ++ List.replicate (3 - (lg_sl ([.ref (sk 0), .int (-1)])).length) Slot.unset).toArray = ls at hl ⊢
  have hl : lv_has ls 3 [(0, .ref (sk 0)), (1, .int (-1))] := hl
  refine lv_iconst (v := 0) hx hb dX12_isAmong_0 (by decide) ?_
  refine lv_istore_n (lv' := [(2, .int 0), (0, .ref (sk 0)), (1, .int (-1))]) hx hb dX12_isAmong_1 rfl hl (by decide) rfl (fun ls hl => ?_)
  refine lv_iload_n hx hb dX12_isAmong_2 rfl (lv_at hl 0 rfl) ?_
  refine lv_aload_n hx hb dX12_isAmong_3 rfl (lv_at hl 1 rfl) ?_
  have hPc := hP.sub (ws' := []) [] rfl
  have hDc := hD.sub (ws' := []) [] (by decide) rfl
  have hKc := hK.sub (tys' := []) [] rfl
  have hFc := va_free (wc := []) hD hS hA [] rfl
  refine va_calli (va_runV (As := []) (rest := [.int 0]) ⟨hx, hb, hml, hown, hts⟩ (f_J0_length_8abf5_a1 l dC dI s.heap.size sk sv s2 tz  ) (cwV 0 hts g_f_X12_isAmong_a1_f_J0_length_8abf5_a1 rfl rfl rfl (by decide +kernel) ⟨Nat.le_of_ble_eq_true rfl, Nat.le_of_ble_eq_true rfl⟩) ⟨cW_blindx, vk_recv hE.1.1 (i := 0) (by decide) hS, fun U hU hW => ⟨rfl, cW_usex hU hW hPc hKc hDc hG hS hFc hE⟩⟩ rfl rfl hl.1 rfl (lv_room (Nat.le_of_ble_eq_true rfl)) dX12_isAmong_4 ⟨Nat.le_of_ble_eq_true rfl, Nat.le_of_ble_eq_true rfl⟩) hS (fun q _ h => hFc q h) hFc (fun r_1 u t H1 locs ht hvm hw hB hz1 hk1 hS => ?_)
  obtain ⟨hP1, hK1, hD1⟩ := hB
  rw [ht] at hP1
  have hK1 := va_K.moved hvm.symm hK1
  obtain ⟨hP, hD⟩ := va_join (wr := []) (w1 := []) hP hD [] [] rfl rfl (by decide) (by decide) hk1 hFc hP1 hD1
  generalize H1 = H at hP hS ⊢
  have hP : va_P (dC, dI) vwCl [] H := hP
  have hD : va_D A [] := hD
  refine W.widen (k := 0) (n := 0) (Nat.le_of_ble_eq_true rfl) (Nat.le_of_ble_eq_true rfl) ?_
  obtain rfl : r_1 = 1 := hw
  refine lv_icmp_ge (tgt := 27) hx hb dX12_isAmong_7 (by decide) (fun c_2 => absurd c_2 (by decide)) (fun c_2 => ?_)
  refine lv_aload_n hx hb dX12_isAmong_10 rfl (lv_at hl 1 rfl) ?_
  refine lv_iload_n hx hb dX12_isAmong_11 rfl (lv_at hl 0 rfl) ?_
  have hPc := hP.sub (ws' := []) [] rfl
  have hDc := hD.sub (ws' := []) [] (by decide) rfl
  have hKc := hK.sub (tys' := []) [] rfl
  have hFc := va_free (wc := []) hD hS hA [] rfl
  refine va_calli (va_runV (As := [.int 0]) (rest := []) ⟨hx, hb, hml, hown, hts⟩ (f_J0_charAt_5068e_a1 l dC dI H.size sk sv s2 tz  ) (cwV 1 hts g_f_X12_isAmong_a1_f_J0_charAt_5068e_a1 rfl rfl rfl (by decide +kernel) ⟨Nat.le_of_ble_eq_true rfl, Nat.le_of_ble_eq_true rfl⟩) ⟨cW_blindx, vk_recv hE.1.1 (i := 0) (by decide) hS, fun U hU hW => ⟨rfl, cW_usex hU hW hPc hKc hDc hG hS hFc hE⟩⟩ rfl rfl hl.1 rfl (lv_room (Nat.le_of_ble_eq_true rfl)) dX12_isAmong_12 ⟨Nat.le_of_ble_eq_true rfl, Nat.le_of_ble_eq_true rfl⟩) hS (fun q _ h => hFc q h) hFc (fun r_3 u t H1 locs ht hvm hw hB hz1 hk1 hS => ?_)
  obtain ⟨hP1, hK1, hD1⟩ := hB
  rw [ht] at hP1
  have hK1 := va_K.moved hvm.symm hK1
  obtain ⟨hP, hD⟩ := va_join (wr := []) (w1 := []) hP hD [] [] rfl rfl (by decide) (by decide) hk1 hFc hP1 hD1
  generalize H1 = H at hP hS ⊢
  have hP : va_P (dC, dI) vwCl [] H := hP
  have hD : va_D A [] := hD
  refine W.widen (k := 0) (n := 0) (Nat.le_of_ble_eq_true rfl) (Nat.le_of_ble_eq_true rfl) ?_
  obtain rfl : r_3 = 121 := hw
  refine lv_iload_n hx hb dX12_isAmong_15 rfl (lv_at hl 2 rfl) ?_
  refine lv_icmp_ne (tgt := 21) hx hb dX12_isAmong_16 (by decide) (fun c_4 => ?_) (fun c_4 => absurd c_4 (by decide))
  refine lv_iinc (v := 1) (lv' := [(2, .int 1), (0, .ref (sk 0)), (1, .int (-1))]) hx hb dX12_isAmong_21 hl (k := 0) rfl (by decide) (by decide) rfl (fun ls hl => ?_)
  refine lv_goto (tgt := 2) hx hb dX12_isAmong_24 (by decide) ?_
  refine lv_iload_n hx hb dX12_isAmong_2 rfl (lv_at hl 0 rfl) ?_
  refine lv_aload_n hx hb dX12_isAmong_3 rfl (lv_at hl 1 rfl) ?_
  have hPc := hP.sub (ws' := []) [] rfl
  have hDc := hD.sub (ws' := []) [] (by decide) rfl
  have hKc := hK.sub (tys' := []) [] rfl
  have hFc := va_free (wc := []) hD hS hA [] rfl
  refine va_calli (va_runV (As := []) (rest := [.int 1]) ⟨hx, hb, hml, hown, hts⟩ (f_J0_length_8abf5_a1 l dC dI H.size sk sv s2 tz  ) (cwV 0 hts g_f_X12_isAmong_a1_f_J0_length_8abf5_a1 rfl rfl rfl (by decide +kernel) ⟨Nat.le_of_ble_eq_true rfl, Nat.le_of_ble_eq_true rfl⟩) ⟨cW_blindx, vk_recv hE.1.1 (i := 0) (by decide) hS, fun U hU hW => ⟨rfl, cW_usex hU hW hPc hKc hDc hG hS hFc hE⟩⟩ rfl rfl hl.1 rfl (lv_room (Nat.le_of_ble_eq_true rfl)) dX12_isAmong_4 ⟨Nat.le_of_ble_eq_true rfl, Nat.le_of_ble_eq_true rfl⟩) hS (fun q _ h => hFc q h) hFc (fun r_5 u t H1 locs ht hvm hw hB hz1 hk1 hS => ?_)
  obtain ⟨hP1, hK1, hD1⟩ := hB
  rw [ht] at hP1
  have hK1 := va_K.moved hvm.symm hK1
  obtain ⟨hP, hD⟩ := va_join (wr := []) (w1 := []) hP hD [] [] rfl rfl (by decide) (by decide) hk1 hFc hP1 hD1
  generalize H1 = H at hP hS ⊢
  have hP : va_P (dC, dI) vwCl [] H := hP
  have hD : va_D A [] := hD
  refine W.widen (k := 0) (n := 0) (Nat.le_of_ble_eq_true rfl) (Nat.le_of_ble_eq_true rfl) ?_
  obtain rfl : r_5 = 1 := hw
  refine lv_icmp_ge (tgt := 27) hx hb dX12_isAmong_7 (by decide) (fun c_6 => ?_) (fun c_6 => absurd (by decide) c_6)
  refine lv_iconst (v := 0) hx hb dX12_isAmong_27 (by decide) ?_
  have hP9 := hP.sub (ws' := []) [] rfl
  have hD9 := hD.sub (ws' := []) [] (by decide) rfl
  have hK9 := hK.sub (tys' := []) [] rfl
  exact W.zret (v := 0) hx hb hr rfl (fun t ht hW => ⟨⟨0, (), rfl, rfl, ⟨by rw [ht]; exact hP9, va_K.moved hW.alike hK9, hD9⟩⟩, hS.F ht⟩) hS.2.2 dX12_isAmong_28
def vs_f_X12_fails_a2 : List Cond := .code yX12_fails cX12_fails 1 (some .boolean) :: ([.fieldLink RX12 122 "WallChapelsModel" "fault" "I", .fieldLink RX12 113 "WallChapelsModel" "at" "I"] ++ (u_ws RX12 TX12 54))
theorem vs_f_X12_fails_a2_uX12 : ∀ w ∈ u_ws RX12 TX12 54, w ∈ vs_f_X12_fails_a2 := fun _ h => List.mem_cons_of_mem _ (List.mem_append_right _ (h))
set_option maxHeartbeats 4000000 in
set_option maxRecDepth 100000 in
theorem f_X12_fails_a2 (l : Launch) (dC : Nat → ClassId) (dI : Nat → Nat → Nat) (sz : Nat) (r : Nat → Nat) : Met l yX12_fails vs_f_X12_fails_a2 ({ frames := 0, cells := 0, slots := 0, locals := 0 }) (va_Pc [.ref (r 100)] (cW dC dI [((r 100), .inr (12, mF r 0 0 0 0 0 (-1) 0 121 0 0 0 0 0 (-1) 1))] [] sz)) (va_Qi (fun (r : Int32) (_ : Unit) => r = 0) (fun (_ : Unit) (t : State) => cB dC dI (va_A [((r 100), .inr (12, mF r 0 0 0 0 0 (-1) 0 121 0 0 0 0 0 (-1) 1))] sz) [((r 100), .inr (12, mF r 0 0 0 0 0 0 0 121 0 0 0 0 0 (-1) 1))] [] t) (va_A [((r 100), .inr (12, mF r 0 0 0 0 0 (-1) 0 121 0 0 0 0 0 (-1) 1))] sz)) 0 0 (va_A [((r 100), .inr (12, mF r 0 0 0 0 0 (-1) 0 121 0 0 0 0 0 (-1) 1))] sz) := by
  refine Met.ofW (cc := cX12_fails) (maxL := 1) (ret := (some .boolean)) (by decide) rfl ?_
  intro p e s m args below meth c s₁ B hml hv
  obtain ⟨rfl, hsz, hP, hK, hD0, hG⟩ := hv
  have hx := B.exec
  have hb := B.bytes
  have hr := B.returns
  have hts := atoms_spec (ws := vs_f_X12_fails_a2) B.pre
  have hown : s.vm.findClass RX12 = some m.cls := findClass_of_methodNamed B.named
  have hlocks := B.notSynchronized
  have hiX12 : ∀ w ∈ u_ws RX12 TX12 54, w ∈ vs_f_X12_fails_a2 := vs_f_X12_fails_a2_uX12
  subst hsz
  have hD := hD0.self (sz := s.heap.size)
  generalize hAe : va_A [((r 100), .inr (12, mF r 0 0 0 0 0 (-1) 0 121 0 0 0 0 0 (-1) 1))] s.heap.size = A at hD ⊢
  have hA : ∀ q : Nat, s.heap.size ≤ q → A q := fun q h => by rw [← hAe]; exact Or.inr h
  have hS : va_S A s.heap s.heap [] := va_S.rf
  have hP : va_P (dC, dI) vwCl [((r 100), .inr (12, mF r 0 0 0 0 0 (-1) 0 121 0 0 0 0 0 (-1) 1))] s.heap := hP
  have hl := lv_entry ([.ref (r 100)]) (n := 1) (Nat.le_of_ble_eq_true rfl)
  rw [lg_entry_eq]
  generalize (lg_sl ([.ref (r 100)]) ++ List.replicate (1 - (lg_sl ([.ref (r 100)])).length) Slot.unset).toArray = ls at hl ⊢
  have hl : lv_has ls 1 [(0, .ref (r 100))] := hl
  refine lv_aload_n hx hb dX12_fails_0 rfl (lv_at hl 0 rfl) ?_
  refine va_get (D := (dC, dI)) (ci := 12) (v := .int (-1)) (C := RX12) (T := TX12) (N := 54) hx hb hts hiX12 hown hK hP 0 rfl rfl 11 (by decide) (hts (.fieldLink RX12 122 "WallChapelsModel" "fault" "I") (by decide +kernel)) (fun _ h9 => h9) rfl dX12_fails_1 ?_
  refine lv_iconst (v := (-1)) hx hb dX12_fails_4 (by decide) ?_
  refine lv_icmp_ne (tgt := 16) hx hb dX12_fails_5 (by decide) (fun c_1 => absurd c_1 (by decide)) (fun c_1 => ?_)
  refine lv_aload_n hx hb dX12_fails_8 rfl (lv_at hl 0 rfl) ?_
  refine lv_aload_n hx hb dX12_fails_9 rfl (lv_at hl 0 rfl) ?_
  refine va_get (D := (dC, dI)) (ci := 12) (v := .int 0) (C := RX12) (T := TX12) (N := 54) hx hb hts hiX12 hown hK hP 0 rfl rfl 10 (by decide) (hts (.fieldLink RX12 113 "WallChapelsModel" "at" "I") (by decide +kernel)) (fun _ h9 => h9) rfl dX12_fails_10 ?_
  refine va_put (D := (dC, dI)) (ci := 12) (v := .int 0) (ty := .int) (C := RX12) (T := TX12) (N := 54) hx hb hts hiX12 tyX12 tyX12_ok nmX12 hown hK hP hD hS 0 rfl rfl 11 (by decide) (hts (.fieldLink RX12 122 "WallChapelsModel" "fault" "I") (by decide +kernel)) (fun _ h9 => h9) rfl (by decide +kernel) rfl rfl (Nat.le_of_ble_eq_true rfl) dX12_fails_13 (fun H locs hP hD hS => ?_)
  have hP : va_P (dC, dI) vwCl [((r 100), .inr (12, mF r 0 0 0 0 0 0 0 121 0 0 0 0 0 (-1) 1))] H := hP
  have hD : va_D A [((r 100), .inr (12, mF r 0 0 0 0 0 0 0 121 0 0 0 0 0 (-1) 1))] := hD
  refine lv_iconst (v := 0) hx hb dX12_fails_16 (by decide) ?_
  have hP9 := hP.sub (ws' := [((r 100), .inr (12, mF r 0 0 0 0 0 0 0 121 0 0 0 0 0 (-1) 1))]) [0] rfl
  have hD9 := hD.sub (ws' := [((r 100), .inr (12, mF r 0 0 0 0 0 0 0 121 0 0 0 0 0 (-1) 1))]) [0] (by decide) rfl
  have hK9 := hK.sub (tys' := []) [] rfl
  exact W.zret (v := 0) hx hb hr rfl (fun t ht hW => ⟨⟨0, (), rfl, rfl, ⟨by rw [ht]; exact hP9, va_K.moved hW.alike hK9, hD9⟩⟩, hS.F ht⟩) hS.2.2 dX12_fails_17
def vs_f_X12_clause_a1 : List Cond := .code yX12_clause cX12_clause 5 none :: ([.initialized RX12, .instanceMethod yX12_look, .selects RX12 yX12_look yX12_look, .fieldLink RX12 113 "WallChapelsModel" "at" "I", .fieldLink RX12 116 "WallChapelsModel" "ends" "I", .code yX12_look cX12_look 1 (some .int), .methodLink RX12 132 yX12_look, .static yX12_isAmong, .initialized RJ0, .instanceMethod yJ0_length_8abf5, .selects RJ0 yJ0_length_8abf5 yJ0_length_8abf5, .fieldLink RJ0 9 "java/lang/String" "value" "[B", .instanceMethod yJ0_coder_7d493, .selects RJ0 yJ0_coder_7d493 yJ0_coder_7d493, .fieldLink RJ0 38 "java/lang/String" "COMPACT_STRINGS" "Z", .fieldLink RJ0 15 "java/lang/String" "coder" "B", .code yJ0_coder_7d493 cJ0_coder_7d493 1 (some .byte), .methodLink RJ0 335 yJ0_coder_7d493, .code yJ0_length_8abf5 cJ0_length_8abf5 1 (some .int), .methodLink RX12 93 yJ0_length_8abf5, .instanceMethod yJ0_charAt_5068e, .selects RJ0 yJ0_charAt_5068e yJ0_charAt_5068e, .instanceMethod yJ0_isLatin1_aae02, .selects RJ0 yJ0_isLatin1_aae02 yJ0_isLatin1_aae02, .code yJ0_isLatin1_aae02 cJ0_isLatin1_aae02 1 (some .boolean), .methodLink RJ0 492 yJ0_isLatin1_aae02, .initialized RJ1, .static yJ1_charAt_3b067, .static yJ0_checkIndex_df160, .fieldLink RJ0 1053 "jdk/internal/util/Preconditions" "SIOOBE_FORMATTER" "Ljava/util/function/BiFunction;", .initialized RJ3, .static yJ3_checkIndex_8e157, .code yJ3_checkIndex_8e157 cJ3_checkIndex_8e157 3 (some .int), .methodLink RJ0 1059 yJ3_checkIndex_8e157, .code yJ0_checkIndex_df160 cJ0_checkIndex_df160 2 none, .methodLink RJ1 9 yJ0_checkIndex_df160, .code yJ1_charAt_3b067 cJ1_charAt_3b067 2 (some .char), .methodLink RJ0 495 yJ1_charAt_3b067, .code yJ0_charAt_5068e cJ0_charAt_5068e 2 (some .char), .methodLink RX12 99 yJ0_charAt_5068e, .code yX12_isAmong cX12_isAmong 3 (some .boolean), .methodLink RX12 148 yX12_isAmong, .instanceMethod yX12_fails, .selects RX12 yX12_fails yX12_fails, .fieldLink RX12 122 "WallChapelsModel" "fault" "I", .code yX12_fails cX12_fails 1 (some .boolean), .methodLink RX12 128 yX12_fails] ++ (u_ws RX12 TX12 54))
theorem vs_f_X12_clause_a1_uX12 : ∀ w ∈ u_ws RX12 TX12 54, w ∈ vs_f_X12_clause_a1 := fun _ h => List.mem_cons_of_mem _ (List.mem_append_right _ (h))
set_option maxRecDepth 20000 in
theorem g_f_X12_clause_a1_f_X12_look_a2 : GoodIn vs_f_X12_clause_a1 (wsV RX12 132 RX12 yX12_look vs_f_X12_look_a2) := goodIn_r _ [7, 2, 3, 1, 6, 4, 5, 48, 49, 50, 51, 52, 53, 54, 55, 56, 57, 58, 59, 60, 61, 62, 63, 64, 65, 66, 67, 68, 69, 70, 71, 72, 73, 74, 75, 76, 77, 78, 79, 80, 81, 82, 83, 84, 85, 86, 87, 88, 89, 90, 91, 92, 93, 94, 95, 96, 97, 98, 99, 100, 101] (by decide +kernel) (by decide +kernel)
set_option maxRecDepth 20000 in
theorem g_f_X12_clause_a1_f_X12_isAmong_a1 : GoodIn vs_f_X12_clause_a1 (va_wsS RX12 148 yX12_isAmong vs_f_X12_isAmong_a1) := goodIn_r _ [42, 8, 1, 41, 9, 10, 11, 12, 13, 14, 15, 16, 17, 18, 19, 20, 21, 22, 23, 24, 25, 26, 27, 28, 29, 30, 31, 32, 33, 34, 35, 36, 37, 38, 39, 40] (by decide +kernel) (by decide +kernel)
set_option maxRecDepth 20000 in
theorem g_f_X12_clause_a1_f_X12_fails_a2 : GoodIn vs_f_X12_clause_a1 (wsV RX12 128 RX12 yX12_fails vs_f_X12_fails_a2) := goodIn_r _ [47, 43, 44, 1, 46, 45, 4, 48, 49, 50, 51, 52, 53, 54, 55, 56, 57, 58, 59, 60, 61, 62, 63, 64, 65, 66, 67, 68, 69, 70, 71, 72, 73, 74, 75, 76, 77, 78, 79, 80, 81, 82, 83, 84, 85, 86, 87, 88, 89, 90, 91, 92, 93, 94, 95, 96, 97, 98, 99, 100, 101] (by decide +kernel) (by decide +kernel)
set_option maxHeartbeats 4000000 in
set_option maxRecDepth 100000 in
theorem f_X12_clause_a1 (l : Launch) (dC : Nat → ClassId) (dI : Nat → Nat → Nat) (sz : Nat) (sk sv : Nat → Nat) (s2 tz : Nat) (r : Nat → Nat) : Met l yX12_clause vs_f_X12_clause_a1 ({ frames := 5, cells := 0, slots := 0, locals := 107 }) (va_Pc [.ref (r 100)] (cWx dC dI [((r 100), .inr (12, mF r 0 0 0 0 0 (-1) 0 121 0 0 0 0 0 (-1) 1))] [] sz sk sv s2 tz)) (va_Qv (fun (_ : Unit) => True) (fun (_ : Unit) (t : State) => cB dC dI (va_A [((r 100), .inr (12, mF r 0 0 0 0 0 (-1) 0 121 0 0 0 0 0 (-1) 1))] sz) [((r 100), .inr (12, mF r 0 0 0 0 0 0 0 121 0 0 0 0 0 (-1) 1))] [] t) (va_A [((r 100), .inr (12, mF r 0 0 0 0 0 (-1) 0 121 0 0 0 0 0 (-1) 1))] sz)) 0 0 (va_A [((r 100), .inr (12, mF r 0 0 0 0 0 (-1) 0 121 0 0 0 0 0 (-1) 1))] sz) := by
  refine Met.ofW (cc := cX12_clause) (maxL := 5) (ret := none) (by decide) rfl ?_
  intro p e s m args below meth c s₁ B hml hv
  obtain ⟨rfl, ⟨hsz, hP, hK, hD0, hG⟩, hE⟩ := hv
  have hx := B.exec
  have hb := B.bytes
  have hr := B.returns
  have hts := atoms_spec (ws := vs_f_X12_clause_a1) B.pre
  have hown : s.vm.findClass RX12 = some m.cls := findClass_of_methodNamed B.named
  have hlocks := B.notSynchronized
  have hiX12 : ∀ w ∈ u_ws RX12 TX12 54, w ∈ vs_f_X12_clause_a1 := vs_f_X12_clause_a1_uX12
  subst hsz
  have hD := hD0.self (sz := s.heap.size)
  generalize hAe : va_A [((r 100), .inr (12, mF r 0 0 0 0 0 (-1) 0 121 0 0 0 0 0 (-1) 1))] s.heap.size = A at hD hE ⊢
  have hA : ∀ q : Nat, s.heap.size ≤ q → A q := fun q h => by rw [← hAe]; exact Or.inr h
  have hS : va_S A s.heap s.heap [] := va_S.rf
  have hP : va_P (dC, dI) vwCl [((r 100), .inr (12, mF r 0 0 0 0 0 (-1) 0 121 0 0 0 0 0 (-1) 1))] s.heap := hP
  have hl := lv_entry ([.ref (r 100)]) (n := 5) (Nat.le_of_ble_eq_true rfl)
  rw [lg_entry_eq]
  generalize (lg_sl ([.ref (r 100)]) ++ List.replicate (5 - (lg_sl ([.ref (r 100)])).length) Slot.unset).toArray = ls at hl ⊢
  have hl : lv_has ls 5 [(0, .ref (r 100))] := hl
  refine lv_aload_n hx hb dX12_clause_0 rfl (lv_at hl 0 rfl) ?_
  have hPc := hP.sub (ws' := [((r 100), .inr (12, mF r 0 0 0 0 0 (-1) 0 121 0 0 0 0 0 (-1) 1))]) [0] rfl
  have hDc := hD.sub (ws' := [((r 100), .inr (12, mF r 0 0 0 0 0 (-1) 0 121 0 0 0 0 0 (-1) 1))]) [0] (by decide) rfl
  have hKc := hK.sub (tys' := []) [] rfl
  have hFc := va_free (wc := [((r 100), .inr (12, mF r 0 0 0 0 0 (-1) 0 121 0 0 0 0 0 (-1) 1))]) hD hS hA [0] rfl
  refine va_calli (va_runV (As := []) (rest := []) ⟨hx, hb, hml, hown, hts⟩ (f_X12_look_a2 l dC dI s.heap.size r ) (cwV 0 hts g_f_X12_clause_a1_f_X12_look_a2 rfl rfl rfl (by decide +kernel) ⟨Nat.le_of_ble_eq_true rfl, Nat.le_of_ble_eq_true rfl⟩) ⟨cW_blind, va_recv hKc hPc (ci := 12) (q0 := 0) rfl rfl, fun U hU hW => ⟨rfl, cW_use hU hW hPc hKc hDc hG⟩⟩ rfl rfl hl.1 rfl (lv_room (Nat.le_of_ble_eq_true rfl)) dX12_clause_1 ⟨Nat.le_of_ble_eq_true rfl, Nat.le_of_ble_eq_true rfl⟩) hS (fun q _ h => hFc q h) hFc (fun r_1 u t H1 locs ht hvm hw hB hz1 hk1 hS => ?_)
  obtain ⟨hP1, hK1, hD1⟩ := hB
  rw [ht] at hP1
  have hK1 := va_K.moved hvm.symm hK1
  obtain ⟨hP, hD⟩ := va_join (wr := []) (w1 := [((r 100), .inr (12, mF r 0 0 0 0 0 (-1) 0 121 0 0 0 0 0 (-1) 1))]) hP hD [0] [] rfl rfl (by decide) (by decide) hk1 hFc hP1 hD1
  generalize H1 = H at hP hS ⊢
  have hP : va_P (dC, dI) vwCl [((r 100), .inr (12, mF r 0 0 0 0 0 (-1) 0 121 0 0 0 0 0 (-1) 1))] H := hP
  have hD : va_D A [((r 100), .inr (12, mF r 0 0 0 0 0 (-1) 0 121 0 0 0 0 0 (-1) 1))] := hD
  refine W.widen (k := 0) (n := 0) (Nat.le_of_ble_eq_true rfl) (Nat.le_of_ble_eq_true rfl) ?_
  obtain rfl : r_1 = (-1) := hw
  refine lv_istore_n (lv' := [(1, .int (-1)), (0, .ref (r 100))]) hx hb dX12_clause_4 rfl hl (by decide) rfl (fun ls hl => ?_)
  refine va_ldcS hx hb hown hE.2.1 dX12_clause_5 ?_
  refine lv_iload_n hx hb dX12_clause_7 rfl (lv_at hl 0 rfl) ?_
  have hPc := hP.sub (ws' := []) [] rfl
  have hDc := hD.sub (ws' := []) [] (by decide) rfl
  have hKc := hK.sub (tys' := []) [] rfl
  have hFc := va_free (wc := []) hD hS hA [] rfl
  refine va_calli (va_runS (As := [.ref (sk 0), .int (-1)]) (rest := []) ⟨hx, hb, hml, hown, hts⟩ (f_X12_isAmong_a1 l dC dI H.size sk sv s2 tz  ) (va_cwS 2 hts g_f_X12_clause_a1_f_X12_isAmong_a1 rfl rfl rfl (by decide +kernel) ⟨Nat.le_of_ble_eq_true rfl, Nat.le_of_ble_eq_true rfl⟩) ⟨cW_blindx, fun U hU hW => ⟨rfl, cW_usex hU hW hPc hKc hDc hG hS hFc hE⟩⟩ rfl rfl hl.1 rfl (lv_room (Nat.le_of_ble_eq_true rfl)) dX12_clause_8 ⟨Nat.le_of_ble_eq_true rfl, Nat.le_of_ble_eq_true rfl⟩) hS (fun q _ h => hFc q h) hFc (fun r_2 u t H1 locs ht hvm hw hB hz1 hk1 hS => ?_)
  obtain ⟨hP1, hK1, hD1⟩ := hB
  rw [ht] at hP1
  have hK1 := va_K.moved hvm.symm hK1
  obtain ⟨hP, hD⟩ := va_join (wr := [((r 100), .inr (12, mF r 0 0 0 0 0 (-1) 0 121 0 0 0 0 0 (-1) 1))]) (w1 := []) hP hD [] [0] rfl rfl (by decide) (by decide) hk1 hFc hP1 hD1
  generalize H1 = H at hP hS ⊢
  have hP : va_P (dC, dI) vwCl [((r 100), .inr (12, mF r 0 0 0 0 0 (-1) 0 121 0 0 0 0 0 (-1) 1))] H := hP
  have hD : va_D A [((r 100), .inr (12, mF r 0 0 0 0 0 (-1) 0 121 0 0 0 0 0 (-1) 1))] := hD
  refine W.widen (k := 0) (n := 0) (Nat.le_of_ble_eq_true rfl) (Nat.le_of_ble_eq_true rfl) ?_
  obtain rfl : r_2 = 0 := hw
  refine lv_if_ne (tgt := 20) hx hb dX12_clause_11 (by decide) (fun c_3 => absurd c_3 (by decide)) (fun c_3 => ?_)
  refine lv_aload_n hx hb dX12_clause_14 rfl (lv_at hl 1 rfl) ?_
  have hPc := hP.sub (ws' := [((r 100), .inr (12, mF r 0 0 0 0 0 (-1) 0 121 0 0 0 0 0 (-1) 1))]) [0] rfl
  have hDc := hD.sub (ws' := [((r 100), .inr (12, mF r 0 0 0 0 0 (-1) 0 121 0 0 0 0 0 (-1) 1))]) [0] (by decide) rfl
  have hKc := hK.sub (tys' := []) [] rfl
  have hFc := va_free (wc := [((r 100), .inr (12, mF r 0 0 0 0 0 (-1) 0 121 0 0 0 0 0 (-1) 1))]) hD hS hA [0] rfl
  refine va_calli (va_runV (As := []) (rest := []) ⟨hx, hb, hml, hown, hts⟩ (f_X12_fails_a2 l dC dI H.size r ) (cwV 0 hts g_f_X12_clause_a1_f_X12_fails_a2 rfl rfl rfl (by decide +kernel) ⟨Nat.le_of_ble_eq_true rfl, Nat.le_of_ble_eq_true rfl⟩) ⟨cW_blind, va_recv hKc hPc (ci := 12) (q0 := 0) rfl rfl, fun U hU hW => ⟨rfl, cW_use hU hW hPc hKc hDc hG⟩⟩ rfl rfl hl.1 rfl (lv_room (Nat.le_of_ble_eq_true rfl)) dX12_clause_15 ⟨Nat.le_of_ble_eq_true rfl, Nat.le_of_ble_eq_true rfl⟩) hS (fun q _ h => hFc q h) hFc (fun r_4 u t H1 locs ht hvm hw hB hz1 hk1 hS => ?_)
  obtain ⟨hP1, hK1, hD1⟩ := hB
  rw [ht] at hP1
  have hK1 := va_K.moved hvm.symm hK1
  obtain ⟨hP, hD⟩ := va_join (wr := []) (w1 := [((r 100), .inr (12, mF r 0 0 0 0 0 0 0 121 0 0 0 0 0 (-1) 1))]) hP hD [0] [] rfl rfl (by decide) (by decide) hk1 hFc hP1 hD1
  generalize H1 = H at hP hS ⊢
  have hP : va_P (dC, dI) vwCl [((r 100), .inr (12, mF r 0 0 0 0 0 0 0 121 0 0 0 0 0 (-1) 1))] H := hP
  have hD : va_D A [((r 100), .inr (12, mF r 0 0 0 0 0 0 0 121 0 0 0 0 0 (-1) 1))] := hD
  refine W.widen (k := 0) (n := 0) (Nat.le_of_ble_eq_true rfl) (Nat.le_of_ble_eq_true rfl) ?_
  obtain rfl : r_4 = 0 := hw
  refine lv_pop hx hb dX12_clause_18 rfl ?_
  have hP9 := hP.sub (ws' := [((r 100), .inr (12, mF r 0 0 0 0 0 0 0 121 0 0 0 0 0 (-1) 1))]) [0] rfl
  have hD9 := hD.sub (ws' := [((r 100), .inr (12, mF r 0 0 0 0 0 0 0 121 0 0 0 0 0 (-1) 1))]) [0] (by decide) rfl
  have hK9 := hK.sub (tys' := []) [] rfl
  exact W.vret hx hb hr (fun t ht hW => ⟨⟨(), rfl, trivial, ⟨by rw [ht]; exact hP9, va_K.moved hW.alike hK9, hD9⟩⟩, hS.F ht⟩) hS.2.2 dX12_clause_19
def vs_f_X12_goThrough_a1 : List Cond := .code yX12_goThrough cX12_goThrough 4 none :: ([.initialized RX12, .instanceMethod yX12_starts, .selects RX12 yX12_starts yX12_starts, .fieldLink RX12 23 "WallChapelsModel" "text" "[B", .fieldLink RX12 119 "WallChapelsModel" "begins" "I", .fieldLink RX12 116 "WallChapelsModel" "ends" "I", .fieldLink RX12 113 "WallChapelsModel" "at" "I", .fieldLink RX12 122 "WallChapelsModel" "fault" "I", .code yX12_starts cX12_starts 4 none, .methodLink RX12 201 yX12_starts, .fieldLink RX12 195 "WallChapelsModel" "label" "I", .fieldLink RX12 125 "WallChapelsModel" "deep" "I", .fieldLink RX12 191 "WallChapelsModel" "hasFound" "Z", .fieldLink RX12 198 "WallChapelsModel" "found" "I", .instanceMethod yX12_clause, .selects RX12 yX12_clause yX12_clause, .instanceMethod yX12_look, .selects RX12 yX12_look yX12_look, .code yX12_look cX12_look 1 (some .int), .methodLink RX12 132 yX12_look, .static yX12_isAmong, .initialized RJ0, .instanceMethod yJ0_length_8abf5, .selects RJ0 yJ0_length_8abf5 yJ0_length_8abf5, .fieldLink RJ0 9 "java/lang/String" "value" "[B", .instanceMethod yJ0_coder_7d493, .selects RJ0 yJ0_coder_7d493 yJ0_coder_7d493, .fieldLink RJ0 38 "java/lang/String" "COMPACT_STRINGS" "Z", .fieldLink RJ0 15 "java/lang/String" "coder" "B", .code yJ0_coder_7d493 cJ0_coder_7d493 1 (some .byte), .methodLink RJ0 335 yJ0_coder_7d493, .code yJ0_length_8abf5 cJ0_length_8abf5 1 (some .int), .methodLink RX12 93 yJ0_length_8abf5, .instanceMethod yJ0_charAt_5068e, .selects RJ0 yJ0_charAt_5068e yJ0_charAt_5068e, .instanceMethod yJ0_isLatin1_aae02, .selects RJ0 yJ0_isLatin1_aae02 yJ0_isLatin1_aae02, .code yJ0_isLatin1_aae02 cJ0_isLatin1_aae02 1 (some .boolean), .methodLink RJ0 492 yJ0_isLatin1_aae02, .initialized RJ1, .static yJ1_charAt_3b067, .static yJ0_checkIndex_df160, .fieldLink RJ0 1053 "jdk/internal/util/Preconditions" "SIOOBE_FORMATTER" "Ljava/util/function/BiFunction;", .initialized RJ3, .static yJ3_checkIndex_8e157, .code yJ3_checkIndex_8e157 cJ3_checkIndex_8e157 3 (some .int), .methodLink RJ0 1059 yJ3_checkIndex_8e157, .code yJ0_checkIndex_df160 cJ0_checkIndex_df160 2 none, .methodLink RJ1 9 yJ0_checkIndex_df160, .code yJ1_charAt_3b067 cJ1_charAt_3b067 2 (some .char), .methodLink RJ0 495 yJ1_charAt_3b067, .code yJ0_charAt_5068e cJ0_charAt_5068e 2 (some .char), .methodLink RX12 99 yJ0_charAt_5068e, .code yX12_isAmong cX12_isAmong 3 (some .boolean), .methodLink RX12 148 yX12_isAmong, .instanceMethod yX12_fails, .selects RX12 yX12_fails yX12_fails, .code yX12_fails cX12_fails 1 (some .boolean), .methodLink RX12 128 yX12_fails, .code yX12_clause cX12_clause 5 none, .methodLink RX12 205 yX12_clause] ++ (u_ws RX12 TX12 54))
theorem vs_f_X12_goThrough_a1_uX12 : ∀ w ∈ u_ws RX12 TX12 54, w ∈ vs_f_X12_goThrough_a1 := fun _ h => List.mem_cons_of_mem _ (List.mem_append_right _ (h))
set_option maxRecDepth 20000 in
theorem g_f_X12_goThrough_a1_f_X12_starts_a1 : GoodIn vs_f_X12_goThrough_a1 (wsV RX12 201 RX12 yX12_starts vs_f_X12_starts_a1) := goodIn_r _ [10, 2, 3, 1, 9, 4, 5, 6, 7, 8, 62, 63, 64, 65, 66, 67, 68, 69, 70, 71, 72, 73, 74, 75, 76, 77, 78, 79, 80, 81, 82, 83, 84, 85, 86, 87, 88, 89, 90, 91, 92, 93, 94, 95, 96, 97, 98, 99, 100, 101, 102, 103, 104, 105, 106, 107, 108, 109, 110, 111, 112, 113, 114, 115] (by decide +kernel) (by decide +kernel)
set_option maxRecDepth 20000 in
theorem g_f_X12_goThrough_a1_f_X12_clause_a1 : GoodIn vs_f_X12_goThrough_a1 (wsV RX12 205 RX12 yX12_clause vs_f_X12_clause_a1) := goodIn_r _ [61, 15, 16, 1, 60, 1, 17, 18, 7, 6, 19, 20, 21, 22, 23, 24, 25, 26, 27, 28, 29, 30, 31, 32, 33, 34, 35, 36, 37, 38, 39, 40, 41, 42, 43, 44, 45, 46, 47, 48, 49, 50, 51, 52, 53, 54, 55, 56, 57, 8, 58, 59, 62, 63, 64, 65, 66, 67, 68, 69, 70, 71, 72, 73, 74, 75, 76, 77, 78, 79, 80, 81, 82, 83, 84, 85, 86, 87, 88, 89, 90, 91, 92, 93, 94, 95, 96, 97, 98, 99, 100, 101, 102, 103, 104, 105, 106, 107, 108, 109, 110, 111, 112, 113, 114, 115] (by decide +kernel) (by decide +kernel)
set_option maxHeartbeats 4000000 in
set_option maxRecDepth 100000 in
theorem f_X12_goThrough_a1 (l : Launch) (dC : Nat → ClassId) (dI : Nat → Nat → Nat) (sz : Nat) (sk sv : Nat → Nat) (s2 tz : Nat) (r : Nat → Nat) : Met l yX12_goThrough vs_f_X12_goThrough_a1 ({ frames := 6, cells := 0, slots := 0, locals := 131 }) (va_Pc [.ref (r 100), .ref (r 1), .int 0, .int 0] (cWx dC dI [((r 100), .inr (12, mF r 0 0 0 0 0 0 0 0 0 0 0 0 0 (-1) 1))] [] sz sk sv s2 tz)) (va_Qv (fun (_ : Unit) => True) (fun (_ : Unit) (t : State) => cB dC dI (va_A [((r 100), .inr (12, mF r 0 0 0 0 0 0 0 0 0 0 0 0 0 (-1) 1))] sz) [((r 100), .inr (12, mF r 0 0 0 0 0 0 0 121 0 0 0 0 0 (-1) 1))] [] t) (va_A [((r 100), .inr (12, mF r 0 0 0 0 0 0 0 0 0 0 0 0 0 (-1) 1))] sz)) 0 0 (va_A [((r 100), .inr (12, mF r 0 0 0 0 0 0 0 0 0 0 0 0 0 (-1) 1))] sz) := by
  refine Met.ofW (cc := cX12_goThrough) (maxL := 4) (ret := none) (by decide) rfl ?_
  intro p e s m args below meth c s₁ B hml hv
  obtain ⟨rfl, ⟨hsz, hP, hK, hD0, hG⟩, hE⟩ := hv
  have hx := B.exec
  have hb := B.bytes
  have hr := B.returns
  have hts := atoms_spec (ws := vs_f_X12_goThrough_a1) B.pre
  have hown : s.vm.findClass RX12 = some m.cls := findClass_of_methodNamed B.named
  have hlocks := B.notSynchronized
  have hiX12 : ∀ w ∈ u_ws RX12 TX12 54, w ∈ vs_f_X12_goThrough_a1 := vs_f_X12_goThrough_a1_uX12
  subst hsz
  have hD := hD0.self (sz := s.heap.size)
  generalize hAe : va_A [((r 100), .inr (12, mF r 0 0 0 0 0 0 0 0 0 0 0 0 0 (-1) 1))] s.heap.size = A at hD hE ⊢
  have hA : ∀ q : Nat, s.heap.size ≤ q → A q := fun q h => by rw [← hAe]; exact Or.inr h
  have hS : va_S A s.heap s.heap [] := va_S.rf
  have hP : va_P (dC, dI) vwCl [((r 100), .inr (12, mF r 0 0 0 0 0 0 0 0 0 0 0 0 0 (-1) 1))] s.heap := hP
  have hl := lv_entry ([.ref (r 100), .ref (r 1), .int 0, .int 0]) (n := 4) (Nat.le_of_ble_eq_true rfl)
  rw [lg_entry_eq]
  generalize (lg_sl ([.ref (r 100), .ref (r 1), .int 0, .int 0]) ++ List.replicate (4 - (lg_sl ([.ref (r 100), .ref (r 1), .int 0, .int 0])).length) Slot.unset).toArray = ls at hl ⊢
  have hl : lv_has ls 4 [(0, .ref (r 100)), (1, .ref (r 1)), (2, .int 0), (3, .int 0)] := hl
  refine lv_aload_n hx hb dX12_goThrough_0 rfl (lv_at hl 0 rfl) ?_
  refine lv_aload_n hx hb dX12_goThrough_1 rfl (lv_at hl 1 rfl) ?_
  refine lv_iload_n hx hb dX12_goThrough_2 rfl (lv_at hl 2 rfl) ?_
  refine lv_iload_n hx hb dX12_goThrough_3 rfl (lv_at hl 3 rfl) ?_
  have hPc := hP.sub (ws' := [((r 100), .inr (12, mF r 0 0 0 0 0 0 0 0 0 0 0 0 0 (-1) 1))]) [0] rfl
  have hDc := hD.sub (ws' := [((r 100), .inr (12, mF r 0 0 0 0 0 0 0 0 0 0 0 0 0 (-1) 1))]) [0] (by decide) rfl
  have hKc := hK.sub (tys' := []) [] rfl
  have hFc := va_free (wc := [((r 100), .inr (12, mF r 0 0 0 0 0 0 0 0 0 0 0 0 0 (-1) 1))]) hD hS hA [0] rfl
  refine va_callv (va_runV (As := [.ref (r 1), .int 0, .int 0]) (rest := []) ⟨hx, hb, hml, hown, hts⟩ (f_X12_starts_a1 l dC dI s.heap.size r ) (cwV 3 hts g_f_X12_goThrough_a1_f_X12_starts_a1 rfl rfl rfl (by decide +kernel) ⟨Nat.le_of_ble_eq_true rfl, Nat.le_of_ble_eq_true rfl⟩) ⟨cW_blind, va_recv hKc hPc (ci := 12) (q0 := 0) rfl rfl, fun U hU hW => ⟨rfl, cW_use hU hW hPc hKc hDc hG⟩⟩ rfl rfl hl.1 rfl (lv_room (Nat.le_of_ble_eq_true rfl)) dX12_goThrough_4 ⟨Nat.le_of_ble_eq_true rfl, Nat.le_of_ble_eq_true rfl⟩) hS (fun q _ h => hFc q h) hFc (fun u t H1 locs ht hvm hw hB hz1 hk1 hS => ?_)
  obtain ⟨hP1, hK1, hD1⟩ := hB
  rw [ht] at hP1
  have hK1 := va_K.moved hvm.symm hK1
  obtain ⟨hP, hD⟩ := va_join (wr := []) (w1 := [((r 100), .inr (12, mF r 0 0 0 0 0 (-1) 0 0 0 0 0 0 0 (-1) 1))]) hP hD [0] [] rfl rfl (by decide) (by decide) hk1 hFc hP1 hD1
  generalize H1 = H at hP hS ⊢
  have hP : va_P (dC, dI) vwCl [((r 100), .inr (12, mF r 0 0 0 0 0 (-1) 0 0 0 0 0 0 0 (-1) 1))] H := hP
  have hD : va_D A [((r 100), .inr (12, mF r 0 0 0 0 0 (-1) 0 0 0 0 0 0 0 (-1) 1))] := hD
  refine W.widen (k := 0) (n := 0) (Nat.le_of_ble_eq_true rfl) (Nat.le_of_ble_eq_true rfl) ?_
  refine lv_aload_n hx hb dX12_goThrough_7 rfl (lv_at hl 0 rfl) ?_
  refine lv_bipush (v := 121) hx hb dX12_goThrough_8 (by decide) ?_
  refine va_put (D := (dC, dI)) (ci := 12) (v := .int 121) (ty := .int) (C := RX12) (T := TX12) (N := 54) hx hb hts hiX12 tyX12 tyX12_ok nmX12 hown hK hP hD hS 0 rfl rfl 13 (by decide) (hts (.fieldLink RX12 195 "WallChapelsModel" "label" "I") (by decide +kernel)) (fun _ h9 => h9) rfl (by decide +kernel) rfl rfl (Nat.le_of_ble_eq_true rfl) dX12_goThrough_10 (fun H locs hP hD hS => ?_)
  have hP : va_P (dC, dI) vwCl [((r 100), .inr (12, mF r 0 0 0 0 0 (-1) 0 121 0 0 0 0 0 (-1) 1))] H := hP
  have hD : va_D A [((r 100), .inr (12, mF r 0 0 0 0 0 (-1) 0 121 0 0 0 0 0 (-1) 1))] := hD
  refine lv_aload_n hx hb dX12_goThrough_13 rfl (lv_at hl 0 rfl) ?_
  refine lv_iconst (v := 0) hx hb dX12_goThrough_14 (by decide) ?_
  refine va_put (D := (dC, dI)) (ci := 12) (v := .int 0) (ty := .int) (C := RX12) (T := TX12) (N := 54) hx hb hts hiX12 tyX12 tyX12_ok nmX12 hown hK hP hD hS 0 rfl rfl 12 (by decide) (hts (.fieldLink RX12 125 "WallChapelsModel" "deep" "I") (by decide +kernel)) (fun _ h9 => h9) rfl (by decide +kernel) rfl rfl (Nat.le_of_ble_eq_true rfl) dX12_goThrough_15 (fun H locs hP hD hS => ?_)
  have hP : va_P (dC, dI) vwCl [((r 100), .inr (12, mF r 0 0 0 0 0 (-1) 0 121 0 0 0 0 0 (-1) 1))] H := hP
  have hD : va_D A [((r 100), .inr (12, mF r 0 0 0 0 0 (-1) 0 121 0 0 0 0 0 (-1) 1))] := hD
  refine lv_aload_n hx hb dX12_goThrough_18 rfl (lv_at hl 0 rfl) ?_
  refine lv_iconst (v := 0) hx hb dX12_goThrough_19 (by decide) ?_
  refine va_put (D := (dC, dI)) (ci := 12) (v := .int 0) (ty := .boolean) (C := RX12) (T := TX12) (N := 54) hx hb hts hiX12 tyX12 tyX12_ok nmX12 hown hK hP hD hS 0 rfl rfl 17 (by decide) (hts (.fieldLink RX12 191 "WallChapelsModel" "hasFound" "Z") (by decide +kernel)) (fun _ h9 => h9) rfl (by decide +kernel) rfl rfl (Nat.le_of_ble_eq_true rfl) dX12_goThrough_20 (fun H locs hP hD hS => ?_)
  have hP : va_P (dC, dI) vwCl [((r 100), .inr (12, mF r 0 0 0 0 0 (-1) 0 121 0 0 0 0 0 (-1) 1))] H := hP
  have hD : va_D A [((r 100), .inr (12, mF r 0 0 0 0 0 (-1) 0 121 0 0 0 0 0 (-1) 1))] := hD
  refine lv_aload_n hx hb dX12_goThrough_23 rfl (lv_at hl 0 rfl) ?_
  refine lv_iconst (v := 0) hx hb dX12_goThrough_24 (by decide) ?_
  refine va_put (D := (dC, dI)) (ci := 12) (v := .int 0) (ty := .int) (C := RX12) (T := TX12) (N := 54) hx hb hts hiX12 tyX12 tyX12_ok nmX12 hown hK hP hD hS 0 rfl rfl 14 (by decide) (hts (.fieldLink RX12 198 "WallChapelsModel" "found" "I") (by decide +kernel)) (fun _ h9 => h9) rfl (by decide +kernel) rfl rfl (Nat.le_of_ble_eq_true rfl) dX12_goThrough_25 (fun H locs hP hD hS => ?_)
  have hP : va_P (dC, dI) vwCl [((r 100), .inr (12, mF r 0 0 0 0 0 (-1) 0 121 0 0 0 0 0 (-1) 1))] H := hP
  have hD : va_D A [((r 100), .inr (12, mF r 0 0 0 0 0 (-1) 0 121 0 0 0 0 0 (-1) 1))] := hD
  refine lv_aload_n hx hb dX12_goThrough_28 rfl (lv_at hl 0 rfl) ?_
  have hPc := hP.sub (ws' := [((r 100), .inr (12, mF r 0 0 0 0 0 (-1) 0 121 0 0 0 0 0 (-1) 1))]) [0] rfl
  have hDc := hD.sub (ws' := [((r 100), .inr (12, mF r 0 0 0 0 0 (-1) 0 121 0 0 0 0 0 (-1) 1))]) [0] (by decide) rfl
  have hKc := hK.sub (tys' := []) [] rfl
  have hFc := va_free (wc := [((r 100), .inr (12, mF r 0 0 0 0 0 (-1) 0 121 0 0 0 0 0 (-1) 1))]) hD hS hA [0] rfl
  refine va_callv (va_runV (As := []) (rest := []) ⟨hx, hb, hml, hown, hts⟩ (f_X12_clause_a1 l dC dI H.size sk sv s2 tz r ) (cwV 0 hts g_f_X12_goThrough_a1_f_X12_clause_a1 rfl rfl rfl (by decide +kernel) ⟨Nat.le_of_ble_eq_true rfl, Nat.le_of_ble_eq_true rfl⟩) ⟨cW_blindx, va_recv hKc hPc (ci := 12) (q0 := 0) rfl rfl, fun U hU hW => ⟨rfl, cW_usex hU hW hPc hKc hDc hG hS hFc hE⟩⟩ rfl rfl hl.1 rfl (lv_room (Nat.le_of_ble_eq_true rfl)) dX12_goThrough_29 ⟨Nat.le_of_ble_eq_true rfl, Nat.le_of_ble_eq_true rfl⟩) hS (fun q _ h => hFc q h) hFc (fun u t H1 locs ht hvm hw hB hz1 hk1 hS => ?_)
  obtain ⟨hP1, hK1, hD1⟩ := hB
  rw [ht] at hP1
  have hK1 := va_K.moved hvm.symm hK1
  obtain ⟨hP, hD⟩ := va_join (wr := []) (w1 := [((r 100), .inr (12, mF r 0 0 0 0 0 0 0 121 0 0 0 0 0 (-1) 1))]) hP hD [0] [] rfl rfl (by decide) (by decide) hk1 hFc hP1 hD1
  generalize H1 = H at hP hS ⊢
  have hP : va_P (dC, dI) vwCl [((r 100), .inr (12, mF r 0 0 0 0 0 0 0 121 0 0 0 0 0 (-1) 1))] H := hP
  have hD : va_D A [((r 100), .inr (12, mF r 0 0 0 0 0 0 0 121 0 0 0 0 0 (-1) 1))] := hD
  refine W.widen (k := 0) (n := 0) (Nat.le_of_ble_eq_true rfl) (Nat.le_of_ble_eq_true rfl) ?_
  refine lv_aload_n hx hb dX12_goThrough_32 rfl (lv_at hl 0 rfl) ?_
  refine va_get (D := (dC, dI)) (ci := 12) (v := .int 0) (C := RX12) (T := TX12) (N := 54) hx hb hts hiX12 hown hK hP 0 rfl rfl 11 (by decide) (hts (.fieldLink RX12 122 "WallChapelsModel" "fault" "I") (by decide +kernel)) (fun _ h9 => h9) rfl dX12_goThrough_33 ?_
  refine lv_iconst (v := (-1)) hx hb dX12_goThrough_36 (by decide) ?_
  refine lv_icmp_ne (tgt := 66) hx hb dX12_goThrough_37 (by decide) (fun c_3 => ?_) (fun c_3 => absurd c_3 (by decide))
  refine lv_aload_n hx hb dX12_goThrough_66 rfl (lv_at hl 0 rfl) ?_
  refine va_get (D := (dC, dI)) (ci := 12) (v := .int 0) (C := RX12) (T := TX12) (N := 54) hx hb hts hiX12 hown hK hP 0 rfl rfl 11 (by decide) (hts (.fieldLink RX12 122 "WallChapelsModel" "fault" "I") (by decide +kernel)) (fun _ h9 => h9) rfl dX12_goThrough_67 ?_
  refine lv_iconst (v := (-1)) hx hb dX12_goThrough_70 (by decide) ?_
  refine lv_icmp_ne (tgt := 87) hx hb dX12_goThrough_71 (by decide) (fun c_4 => ?_) (fun c_4 => absurd c_4 (by decide))
  have hP9 := hP.sub (ws' := [((r 100), .inr (12, mF r 0 0 0 0 0 0 0 121 0 0 0 0 0 (-1) 1))]) [0] rfl
  have hD9 := hD.sub (ws' := [((r 100), .inr (12, mF r 0 0 0 0 0 0 0 121 0 0 0 0 0 (-1) 1))]) [0] (by decide) rfl
  have hK9 := hK.sub (tys' := []) [] rfl
  exact W.vret hx hb hr (fun t ht hW => ⟨⟨(), rfl, trivial, ⟨by rw [ht]; exact hP9, va_K.moved hW.alike hK9, hD9⟩⟩, hS.F ht⟩) hS.2.2 dX12_goThrough_87
def vs_f_X12_readClause_a1 : List Cond := .code yX12_readClause cX12_readClause 3 none :: ([.initialized RX12, .instanceMethod yX12_look, .selects RX12 yX12_look yX12_look, .fieldLink RX12 113 "WallChapelsModel" "at" "I", .fieldLink RX12 116 "WallChapelsModel" "ends" "I", .code yX12_look cX12_look 1 (some .int), .methodLink RX12 132 yX12_look, .instanceMethod yX12_fails, .selects RX12 yX12_fails yX12_fails, .fieldLink RX12 122 "WallChapelsModel" "fault" "I", .code yX12_fails cX12_fails 1 (some .boolean), .methodLink RX12 128 yX12_fails] ++ (u_ws RX12 TX12 54))
theorem vs_f_X12_readClause_a1_uX12 : ∀ w ∈ u_ws RX12 TX12 54, w ∈ vs_f_X12_readClause_a1 := fun _ h => List.mem_cons_of_mem _ (List.mem_append_right _ (h))
set_option maxRecDepth 20000 in
theorem g_f_X12_readClause_a1_f_X12_look_a1 : GoodIn vs_f_X12_readClause_a1 (wsV RX12 132 RX12 yX12_look vs_f_X12_look_a1) := goodIn_r _ [7, 2, 3, 1, 6, 4, 5, 13, 14, 15, 16, 17, 18, 19, 20, 21, 22, 23, 24, 25, 26, 27, 28, 29, 30, 31, 32, 33, 34, 35, 36, 37, 38, 39, 40, 41, 42, 43, 44, 45, 46, 47, 48, 49, 50, 51, 52, 53, 54, 55, 56, 57, 58, 59, 60, 61, 62, 63, 64, 65, 66] (by decide +kernel) (by decide +kernel)
set_option maxRecDepth 20000 in
theorem g_f_X12_readClause_a1_f_X12_fails_a1 : GoodIn vs_f_X12_readClause_a1 (wsV RX12 128 RX12 yX12_fails vs_f_X12_fails_a1) := goodIn_r _ [12, 8, 9, 1, 11, 10, 4, 13, 14, 15, 16, 17, 18, 19, 20, 21, 22, 23, 24, 25, 26, 27, 28, 29, 30, 31, 32, 33, 34, 35, 36, 37, 38, 39, 40, 41, 42, 43, 44, 45, 46, 47, 48, 49, 50, 51, 52, 53, 54, 55, 56, 57, 58, 59, 60, 61, 62, 63, 64, 65, 66] (by decide +kernel) (by decide +kernel)
set_option maxHeartbeats 4000000 in
set_option maxRecDepth 100000 in
theorem f_X12_readClause_a1 (l : Launch) (dC : Nat → ClassId) (dI : Nat → Nat → Nat) (sz : Nat) (r : Nat → Nat) : Met l yX12_readClause vs_f_X12_readClause_a1 ({ frames := 1, cells := 0, slots := 0, locals := 20 }) (va_Pc [.ref (r 100)] (cW dC dI [((r 100), .inr (12, mF r 0 0 0 0 0 (-1) 0 0 0 0 0 0 0 (-1) 1))] [] sz)) (va_Qv (fun (_ : Unit) => True) (fun (_ : Unit) (t : State) => cB dC dI (va_A [((r 100), .inr (12, mF r 0 0 0 0 0 (-1) 0 0 0 0 0 0 0 (-1) 1))] sz) [((r 100), .inr (12, mF r 0 0 0 0 0 0 0 0 0 0 0 0 0 (-1) 1))] [] t) (va_A [((r 100), .inr (12, mF r 0 0 0 0 0 (-1) 0 0 0 0 0 0 0 (-1) 1))] sz)) 0 0 (va_A [((r 100), .inr (12, mF r 0 0 0 0 0 (-1) 0 0 0 0 0 0 0 (-1) 1))] sz) := by
  refine Met.ofW (cc := cX12_readClause) (maxL := 3) (ret := none) (by decide) rfl ?_
  intro p e s m args below meth c s₁ B hml hv
  obtain ⟨rfl, hsz, hP, hK, hD0, hG⟩ := hv
  have hx := B.exec
  have hb := B.bytes
  have hr := B.returns
  have hts := atoms_spec (ws := vs_f_X12_readClause_a1) B.pre
  have hown : s.vm.findClass RX12 = some m.cls := findClass_of_methodNamed B.named
  have hlocks := B.notSynchronized
  have hiX12 : ∀ w ∈ u_ws RX12 TX12 54, w ∈ vs_f_X12_readClause_a1 := vs_f_X12_readClause_a1_uX12
  subst hsz
  have hD := hD0.self (sz := s.heap.size)
  generalize hAe : va_A [((r 100), .inr (12, mF r 0 0 0 0 0 (-1) 0 0 0 0 0 0 0 (-1) 1))] s.heap.size = A at hD ⊢
  have hA : ∀ q : Nat, s.heap.size ≤ q → A q := fun q h => by rw [← hAe]; exact Or.inr h
  have hS : va_S A s.heap s.heap [] := va_S.rf
  have hP : va_P (dC, dI) vwCl [((r 100), .inr (12, mF r 0 0 0 0 0 (-1) 0 0 0 0 0 0 0 (-1) 1))] s.heap := hP
  have hl := lv_entry ([.ref (r 100)]) (n := 3) (Nat.le_of_ble_eq_true rfl)
  rw [lg_entry_eq]
  generalize (lg_sl ([.ref (r 100)]) ++ List.replicate (3 - (lg_sl ([.ref (r 100)])).length) Slot.unset).toArray = ls at hl ⊢
  have hl : lv_has ls 3 [(0, .ref (r 100))] := hl
  refine lv_aload_n hx hb dX12_readClause_0 rfl (lv_at hl 0 rfl) ?_
  have hPc := hP.sub (ws' := [((r 100), .inr (12, mF r 0 0 0 0 0 (-1) 0 0 0 0 0 0 0 (-1) 1))]) [0] rfl
  have hDc := hD.sub (ws' := [((r 100), .inr (12, mF r 0 0 0 0 0 (-1) 0 0 0 0 0 0 0 (-1) 1))]) [0] (by decide) rfl
  have hKc := hK.sub (tys' := []) [] rfl
  have hFc := va_free (wc := [((r 100), .inr (12, mF r 0 0 0 0 0 (-1) 0 0 0 0 0 0 0 (-1) 1))]) hD hS hA [0] rfl
  refine va_calli (va_runV (As := []) (rest := []) ⟨hx, hb, hml, hown, hts⟩ (f_X12_look_a1 l dC dI s.heap.size r ) (cwV 0 hts g_f_X12_readClause_a1_f_X12_look_a1 rfl rfl rfl (by decide +kernel) ⟨Nat.le_of_ble_eq_true rfl, Nat.le_of_ble_eq_true rfl⟩) ⟨cW_blind, va_recv hKc hPc (ci := 12) (q0 := 0) rfl rfl, fun U hU hW => ⟨rfl, cW_use hU hW hPc hKc hDc hG⟩⟩ rfl rfl hl.1 rfl (lv_room (Nat.le_of_ble_eq_true rfl)) dX12_readClause_1 ⟨Nat.le_of_ble_eq_true rfl, Nat.le_of_ble_eq_true rfl⟩) hS (fun q _ h => hFc q h) hFc (fun r_1 u t H1 locs ht hvm hw hB hz1 hk1 hS => ?_)
  obtain ⟨hP1, hK1, hD1⟩ := hB
  rw [ht] at hP1
  have hK1 := va_K.moved hvm.symm hK1
  obtain ⟨hP, hD⟩ := va_join (wr := []) (w1 := [((r 100), .inr (12, mF r 0 0 0 0 0 (-1) 0 0 0 0 0 0 0 (-1) 1))]) hP hD [0] [] rfl rfl (by decide) (by decide) hk1 hFc hP1 hD1
  generalize H1 = H at hP hS ⊢
  have hP : va_P (dC, dI) vwCl [((r 100), .inr (12, mF r 0 0 0 0 0 (-1) 0 0 0 0 0 0 0 (-1) 1))] H := hP
  have hD : va_D A [((r 100), .inr (12, mF r 0 0 0 0 0 (-1) 0 0 0 0 0 0 0 (-1) 1))] := hD
  refine W.widen (k := 0) (n := 0) (Nat.le_of_ble_eq_true rfl) (Nat.le_of_ble_eq_true rfl) ?_
  obtain rfl : r_1 = (-1) := hw
  refine lv_istore_n (lv' := [(1, .int (-1)), (0, .ref (r 100))]) hx hb dX12_readClause_4 rfl hl (by decide) rfl (fun ls hl => ?_)
  refine lv_iload_n hx hb dX12_readClause_5 rfl (lv_at hl 0 rfl) ?_
  refine lv_bipush (v := 115) hx hb dX12_readClause_6 (by decide) ?_
  refine lv_icmp_ne (tgt := 18) hx hb dX12_readClause_8 (by decide) (fun c_2 => ?_) (fun c_2 => absurd c_2 (by decide))
  refine lv_iload_n hx hb dX12_readClause_18 rfl (lv_at hl 0 rfl) ?_
  refine lv_bipush (v := 101) hx hb dX12_readClause_19 (by decide) ?_
  refine lv_icmp_ne (tgt := 33) hx hb dX12_readClause_21 (by decide) (fun c_3 => ?_) (fun c_3 => absurd c_3 (by decide))
  refine lv_iload_n hx hb dX12_readClause_33 rfl (lv_at hl 0 rfl) ?_
  refine lv_bipush (v := 112) hx hb dX12_readClause_34 (by decide) ?_
  refine lv_icmp_ne (tgt := 51) hx hb dX12_readClause_36 (by decide) (fun c_4 => ?_) (fun c_4 => absurd c_4 (by decide))
  refine lv_iconst (v := 0) hx hb dX12_readClause_51 (by decide) ?_
  refine lv_istore_n (lv' := [(2, .int 0), (1, .int (-1)), (0, .ref (r 100))]) hx hb dX12_readClause_52 rfl hl (by decide) rfl (fun ls hl => ?_)
  refine lv_iload_n hx hb dX12_readClause_53 rfl (lv_at hl 0 rfl) ?_
  refine lv_if_ne (tgt := 63) hx hb dX12_readClause_54 (by decide) (fun c_5 => absurd c_5 (by decide)) (fun c_5 => ?_)
  refine lv_aload_n hx hb dX12_readClause_57 rfl (lv_at hl 2 rfl) ?_
  have hPc := hP.sub (ws' := [((r 100), .inr (12, mF r 0 0 0 0 0 (-1) 0 0 0 0 0 0 0 (-1) 1))]) [0] rfl
  have hDc := hD.sub (ws' := [((r 100), .inr (12, mF r 0 0 0 0 0 (-1) 0 0 0 0 0 0 0 (-1) 1))]) [0] (by decide) rfl
  have hKc := hK.sub (tys' := []) [] rfl
  have hFc := va_free (wc := [((r 100), .inr (12, mF r 0 0 0 0 0 (-1) 0 0 0 0 0 0 0 (-1) 1))]) hD hS hA [0] rfl
  refine va_calli (va_runV (As := []) (rest := []) ⟨hx, hb, hml, hown, hts⟩ (f_X12_fails_a1 l dC dI H.size r ) (cwV 0 hts g_f_X12_readClause_a1_f_X12_fails_a1 rfl rfl rfl (by decide +kernel) ⟨Nat.le_of_ble_eq_true rfl, Nat.le_of_ble_eq_true rfl⟩) ⟨cW_blind, va_recv hKc hPc (ci := 12) (q0 := 0) rfl rfl, fun U hU hW => ⟨rfl, cW_use hU hW hPc hKc hDc hG⟩⟩ rfl rfl hl.1 rfl (lv_room (Nat.le_of_ble_eq_true rfl)) dX12_readClause_58 ⟨Nat.le_of_ble_eq_true rfl, Nat.le_of_ble_eq_true rfl⟩) hS (fun q _ h => hFc q h) hFc (fun r_6 u t H1 locs ht hvm hw hB hz1 hk1 hS => ?_)
  obtain ⟨hP1, hK1, hD1⟩ := hB
  rw [ht] at hP1
  have hK1 := va_K.moved hvm.symm hK1
  obtain ⟨hP, hD⟩ := va_join (wr := []) (w1 := [((r 100), .inr (12, mF r 0 0 0 0 0 0 0 0 0 0 0 0 0 (-1) 1))]) hP hD [0] [] rfl rfl (by decide) (by decide) hk1 hFc hP1 hD1
  generalize H1 = H at hP hS ⊢
  have hP : va_P (dC, dI) vwCl [((r 100), .inr (12, mF r 0 0 0 0 0 0 0 0 0 0 0 0 0 (-1) 1))] H := hP
  have hD : va_D A [((r 100), .inr (12, mF r 0 0 0 0 0 0 0 0 0 0 0 0 0 (-1) 1))] := hD
  refine W.widen (k := 0) (n := 0) (Nat.le_of_ble_eq_true rfl) (Nat.le_of_ble_eq_true rfl) ?_
  obtain rfl : r_6 = 0 := hw
  refine lv_pop hx hb dX12_readClause_61 rfl ?_
  have hP9 := hP.sub (ws' := [((r 100), .inr (12, mF r 0 0 0 0 0 0 0 0 0 0 0 0 0 (-1) 1))]) [0] rfl
  have hD9 := hD.sub (ws' := [((r 100), .inr (12, mF r 0 0 0 0 0 0 0 0 0 0 0 0 0 (-1) 1))]) [0] (by decide) rfl
  have hK9 := hK.sub (tys' := []) [] rfl
  exact W.vret hx hb hr (fun t ht hW => ⟨⟨(), rfl, trivial, ⟨by rw [ht]; exact hP9, va_K.moved hW.alike hK9, hD9⟩⟩, hS.F ht⟩) hS.2.2 dX12_readClause_62
def vs_f_X12_readTown_a1 : List Cond := .code yX12_readTown cX12_readTown 2 none :: ([.fieldLink RX12 9 "WallChapelsModel" "tape" "[B", .fieldLink RX12 103 "WallChapelsModel" "length" "I", .initialized RX12, .instanceMethod yX12_starts, .selects RX12 yX12_starts yX12_starts, .fieldLink RX12 23 "WallChapelsModel" "text" "[B", .fieldLink RX12 119 "WallChapelsModel" "begins" "I", .fieldLink RX12 116 "WallChapelsModel" "ends" "I", .fieldLink RX12 113 "WallChapelsModel" "at" "I", .fieldLink RX12 122 "WallChapelsModel" "fault" "I", .code yX12_starts cX12_starts 4 none, .methodLink RX12 201 yX12_starts, .fieldLink RX12 239 "WallChapelsModel" "streetsRead" "I", .fieldLink RX12 242 "WallChapelsModel" "walkersRead" "I", .fieldLink RX12 236 "WallChapelsModel" "hasRules" "Z", .fieldLink RX12 37 "WallChapelsModel" "ruleRead" "[I", .instanceMethod yX12_readClause, .selects RX12 yX12_readClause yX12_readClause, .instanceMethod yX12_look, .selects RX12 yX12_look yX12_look, .code yX12_look cX12_look 1 (some .int), .methodLink RX12 132 yX12_look, .instanceMethod yX12_fails, .selects RX12 yX12_fails yX12_fails, .code yX12_fails cX12_fails 1 (some .boolean), .methodLink RX12 128 yX12_fails, .code yX12_readClause cX12_readClause 3 none, .methodLink RX12 255 yX12_readClause] ++ (u_ws RX12 TX12 54))
theorem vs_f_X12_readTown_a1_uX12 : ∀ w ∈ u_ws RX12 TX12 54, w ∈ vs_f_X12_readTown_a1 := fun _ h => List.mem_cons_of_mem _ (List.mem_append_right _ (h))
set_option maxRecDepth 20000 in
theorem g_f_X12_readTown_a1_f_X12_starts_a1 : GoodIn vs_f_X12_readTown_a1 (wsV RX12 201 RX12 yX12_starts vs_f_X12_starts_a1) := goodIn_r _ [12, 4, 5, 3, 11, 6, 7, 8, 9, 10, 29, 30, 31, 32, 33, 34, 35, 36, 37, 38, 39, 40, 41, 42, 43, 44, 45, 46, 47, 48, 49, 50, 51, 52, 53, 54, 55, 56, 57, 58, 59, 60, 61, 62, 63, 64, 65, 66, 67, 68, 69, 70, 71, 72, 73, 74, 75, 76, 77, 78, 79, 80, 81, 82] (by decide +kernel) (by decide +kernel)
set_option maxRecDepth 20000 in
theorem g_f_X12_readTown_a1_f_X12_readClause_a1 : GoodIn vs_f_X12_readTown_a1 (wsV RX12 255 RX12 yX12_readClause vs_f_X12_readClause_a1) := goodIn_r _ [28, 17, 18, 3, 27, 3, 19, 20, 9, 8, 21, 22, 23, 24, 10, 25, 26, 29, 30, 31, 32, 33, 34, 35, 36, 37, 38, 39, 40, 41, 42, 43, 44, 45, 46, 47, 48, 49, 50, 51, 52, 53, 54, 55, 56, 57, 58, 59, 60, 61, 62, 63, 64, 65, 66, 67, 68, 69, 70, 71, 72, 73, 74, 75, 76, 77, 78, 79, 80, 81, 82] (by decide +kernel) (by decide +kernel)
set_option maxHeartbeats 4000000 in
set_option maxRecDepth 100000 in
theorem f_X12_readTown_a1 (l : Launch) (dC : Nat → ClassId) (dI : Nat → Nat → Nat) (sz : Nat) (r : Nat → Nat) (kU : ClassId) : Met l yX12_readTown vs_f_X12_readTown_a1 ({ frames := 2, cells := 0, slots := 0, locals := 42 }) (va_Pc [.ref (r 100)] (cW dC dI [((r 100), .inr (12, mF r 0 0 0 0 0 0 0 0 0 0 0 0 0 (-1) 1)), ((r 18), .inl (kU, 2, .inl (fun _ => 0)))] [(kU, .int)] sz)) (va_Qv (fun (_ : Unit) => True) (fun (_ : Unit) (t : State) => cB dC dI (va_A [((r 100), .inr (12, mF r 0 0 0 0 0 0 0 0 0 0 0 0 0 (-1) 1)), ((r 18), .inl (kU, 2, .inl (fun _ => 0)))] sz) [((r 100), .inr (12, mF r 0 0 0 0 0 0 0 0 0 0 0 0 0 (-1) 1)), ((r 18), .inl (kU, 2, .inl (upd (upd (fun _ => 0) (0 : Int32).toNatClampNeg 4) (1 : Int32).toNatClampNeg 20)))] [(kU, .int)] t) (va_A [((r 100), .inr (12, mF r 0 0 0 0 0 0 0 0 0 0 0 0 0 (-1) 1)), ((r 18), .inl (kU, 2, .inl (fun _ => 0)))] sz)) 0 0 (va_A [((r 100), .inr (12, mF r 0 0 0 0 0 0 0 0 0 0 0 0 0 (-1) 1)), ((r 18), .inl (kU, 2, .inl (fun _ => 0)))] sz) := by
  refine Met.ofW (cc := cX12_readTown) (maxL := 2) (ret := none) (by decide) rfl ?_
  intro p e s m args below meth c s₁ B hml hv
  obtain ⟨rfl, hsz, hP, hK, hD0, hG⟩ := hv
  have hx := B.exec
  have hb := B.bytes
  have hr := B.returns
  have hts := atoms_spec (ws := vs_f_X12_readTown_a1) B.pre
  have hown : s.vm.findClass RX12 = some m.cls := findClass_of_methodNamed B.named
  have hlocks := B.notSynchronized
  have hiX12 : ∀ w ∈ u_ws RX12 TX12 54, w ∈ vs_f_X12_readTown_a1 := vs_f_X12_readTown_a1_uX12
  subst hsz
  have hD := hD0.self (sz := s.heap.size)
  generalize hAe : va_A [((r 100), .inr (12, mF r 0 0 0 0 0 0 0 0 0 0 0 0 0 (-1) 1)), ((r 18), .inl (kU, 2, .inl (fun _ => 0)))] s.heap.size = A at hD ⊢
  have hA : ∀ q : Nat, s.heap.size ≤ q → A q := fun q h => by rw [← hAe]; exact Or.inr h
  have hS : va_S A s.heap s.heap [] := va_S.rf
  have hP : va_P (dC, dI) vwCl [((r 100), .inr (12, mF r 0 0 0 0 0 0 0 0 0 0 0 0 0 (-1) 1)), ((r 18), .inl (kU, 2, .inl (fun _ => 0)))] s.heap := hP
  have hl := lv_entry ([.ref (r 100)]) (n := 2) (Nat.le_of_ble_eq_true rfl)
  rw [lg_entry_eq]
  generalize (lg_sl ([.ref (r 100)]) ++ List.replicate (2 - (lg_sl ([.ref (r 100)])).length) Slot.unset).toArray = ls at hl ⊢
  have hl : lv_has ls 2 [(0, .ref (r 100))] := hl
  refine lv_aload_n hx hb dX12_readTown_0 rfl (lv_at hl 0 rfl) ?_
  refine lv_aload_n hx hb dX12_readTown_1 rfl (lv_at hl 0 rfl) ?_
  refine va_get (D := (dC, dI)) (ci := 12) (v := .ref (r 1)) (C := RX12) (T := TX12) (N := 54) hx hb hts hiX12 hown hK hP 0 rfl rfl 1 (by decide) (hts (.fieldLink RX12 9 "WallChapelsModel" "tape" "[B") (by decide +kernel)) (fun _ h9 => h9) rfl dX12_readTown_2 ?_
  refine lv_iconst (v := 0) hx hb dX12_readTown_5 (by decide) ?_
  refine lv_aload_n hx hb dX12_readTown_6 rfl (lv_at hl 0 rfl) ?_
  refine va_get (D := (dC, dI)) (ci := 12) (v := .int 0) (C := RX12) (T := TX12) (N := 54) hx hb hts hiX12 hown hK hP 0 rfl rfl 6 (by decide) (hts (.fieldLink RX12 103 "WallChapelsModel" "length" "I") (by decide +kernel)) (fun _ h9 => h9) rfl dX12_readTown_7 ?_
  have hPc := hP.sub (ws' := [((r 100), .inr (12, mF r 0 0 0 0 0 0 0 0 0 0 0 0 0 (-1) 1))]) [0] rfl
  have hDc := hD.sub (ws' := [((r 100), .inr (12, mF r 0 0 0 0 0 0 0 0 0 0 0 0 0 (-1) 1))]) [0] (by decide) rfl
  have hKc := hK.sub (tys' := []) [] rfl
  have hFc := va_free (wc := [((r 100), .inr (12, mF r 0 0 0 0 0 0 0 0 0 0 0 0 0 (-1) 1))]) hD hS hA [0] rfl
  refine va_callv (va_runV (As := [.ref (r 1), .int 0, .int 0]) (rest := []) ⟨hx, hb, hml, hown, hts⟩ (f_X12_starts_a1 l dC dI s.heap.size r ) (cwV 3 hts g_f_X12_readTown_a1_f_X12_starts_a1 rfl rfl rfl (by decide +kernel) ⟨Nat.le_of_ble_eq_true rfl, Nat.le_of_ble_eq_true rfl⟩) ⟨cW_blind, va_recv hKc hPc (ci := 12) (q0 := 0) rfl rfl, fun U hU hW => ⟨rfl, cW_use hU hW hPc hKc hDc hG⟩⟩ rfl rfl hl.1 rfl (lv_room (Nat.le_of_ble_eq_true rfl)) dX12_readTown_10 ⟨Nat.le_of_ble_eq_true rfl, Nat.le_of_ble_eq_true rfl⟩) hS (fun q _ h => hFc q h) hFc (fun u t H1 locs ht hvm hw hB hz1 hk1 hS => ?_)
  obtain ⟨hP1, hK1, hD1⟩ := hB
  rw [ht] at hP1
  have hK1 := va_K.moved hvm.symm hK1
  obtain ⟨hP, hD⟩ := va_join (wr := [((r 18), .inl (kU, 2, .inl (fun _ => 0)))]) (w1 := [((r 100), .inr (12, mF r 0 0 0 0 0 (-1) 0 0 0 0 0 0 0 (-1) 1))]) hP hD [0] [1] rfl rfl (by decide) (by decide) hk1 hFc hP1 hD1
  generalize H1 = H at hP hS ⊢
  have hP : va_P (dC, dI) vwCl [((r 18), .inl (kU, 2, .inl (fun _ => 0))), ((r 100), .inr (12, mF r 0 0 0 0 0 (-1) 0 0 0 0 0 0 0 (-1) 1))] H := hP
  have hD : va_D A [((r 18), .inl (kU, 2, .inl (fun _ => 0))), ((r 100), .inr (12, mF r 0 0 0 0 0 (-1) 0 0 0 0 0 0 0 (-1) 1))] := hD
  refine W.widen (k := 0) (n := 0) (Nat.le_of_ble_eq_true rfl) (Nat.le_of_ble_eq_true rfl) ?_
  refine lv_aload_n hx hb dX12_readTown_13 rfl (lv_at hl 0 rfl) ?_
  refine lv_iconst (v := 0) hx hb dX12_readTown_14 (by decide) ?_
  refine va_put (D := (dC, dI)) (ci := 12) (v := .int 0) (ty := .int) (C := RX12) (T := TX12) (N := 54) hx hb hts hiX12 tyX12 tyX12_ok nmX12 hown hK hP hD hS 1 rfl rfl 28 (by decide) (hts (.fieldLink RX12 239 "WallChapelsModel" "streetsRead" "I") (by decide +kernel)) (fun _ h9 => h9) rfl (by decide +kernel) rfl rfl (Nat.le_of_ble_eq_true rfl) dX12_readTown_15 (fun H locs hP hD hS => ?_)
  have hP : va_P (dC, dI) vwCl [((r 18), .inl (kU, 2, .inl (fun _ => 0))), ((r 100), .inr (12, mF r 0 0 0 0 0 (-1) 0 0 0 0 0 0 0 (-1) 1))] H := hP
  have hD : va_D A [((r 18), .inl (kU, 2, .inl (fun _ => 0))), ((r 100), .inr (12, mF r 0 0 0 0 0 (-1) 0 0 0 0 0 0 0 (-1) 1))] := hD
  refine lv_aload_n hx hb dX12_readTown_18 rfl (lv_at hl 0 rfl) ?_
  refine lv_iconst (v := 0) hx hb dX12_readTown_19 (by decide) ?_
  refine va_put (D := (dC, dI)) (ci := 12) (v := .int 0) (ty := .int) (C := RX12) (T := TX12) (N := 54) hx hb hts hiX12 tyX12 tyX12_ok nmX12 hown hK hP hD hS 1 rfl rfl 29 (by decide) (hts (.fieldLink RX12 242 "WallChapelsModel" "walkersRead" "I") (by decide +kernel)) (fun _ h9 => h9) rfl (by decide +kernel) rfl rfl (Nat.le_of_ble_eq_true rfl) dX12_readTown_20 (fun H locs hP hD hS => ?_)
  have hP : va_P (dC, dI) vwCl [((r 18), .inl (kU, 2, .inl (fun _ => 0))), ((r 100), .inr (12, mF r 0 0 0 0 0 (-1) 0 0 0 0 0 0 0 (-1) 1))] H := hP
  have hD : va_D A [((r 18), .inl (kU, 2, .inl (fun _ => 0))), ((r 100), .inr (12, mF r 0 0 0 0 0 (-1) 0 0 0 0 0 0 0 (-1) 1))] := hD
  refine lv_aload_n hx hb dX12_readTown_23 rfl (lv_at hl 0 rfl) ?_
  refine lv_iconst (v := 0) hx hb dX12_readTown_24 (by decide) ?_
  refine va_put (D := (dC, dI)) (ci := 12) (v := .int 0) (ty := .boolean) (C := RX12) (T := TX12) (N := 54) hx hb hts hiX12 tyX12 tyX12_ok nmX12 hown hK hP hD hS 1 rfl rfl 31 (by decide) (hts (.fieldLink RX12 236 "WallChapelsModel" "hasRules" "Z") (by decide +kernel)) (fun _ h9 => h9) rfl (by decide +kernel) rfl rfl (Nat.le_of_ble_eq_true rfl) dX12_readTown_25 (fun H locs hP hD hS => ?_)
  have hP : va_P (dC, dI) vwCl [((r 18), .inl (kU, 2, .inl (fun _ => 0))), ((r 100), .inr (12, mF r 0 0 0 0 0 (-1) 0 0 0 0 0 0 0 (-1) 1))] H := hP
  have hD : va_D A [((r 18), .inl (kU, 2, .inl (fun _ => 0))), ((r 100), .inr (12, mF r 0 0 0 0 0 (-1) 0 0 0 0 0 0 0 (-1) 1))] := hD
  refine lv_aload_n hx hb dX12_readTown_28 rfl (lv_at hl 0 rfl) ?_
  refine va_get (D := (dC, dI)) (ci := 12) (v := .ref (r 18)) (C := RX12) (T := TX12) (N := 54) hx hb hts hiX12 hown hK hP 1 rfl rfl 18 (by decide) (hts (.fieldLink RX12 37 "WallChapelsModel" "ruleRead" "[I") (by decide +kernel)) (fun _ h9 => h9) rfl dX12_readTown_29 ?_
  refine lv_iconst (v := 0) hx hb dX12_readTown_32 (by decide) ?_
  refine lv_iconst (v := 4) hx hb dX12_readTown_33 (by decide) ?_
  refine va_iast (D := (dC, dI)) hx hb hK hP hD hS 0 0 rfl rfl (i := 0) (vp_in_nI (n := 0) (by decide) (by decide)) dX12_readTown_34 (fun H locs hP hD hS => ?_)
  have hP : va_P (dC, dI) vwCl [((r 18), .inl (kU, 2, .inl (upd (fun _ => 0) (0 : Int32).toNatClampNeg 4))), ((r 100), .inr (12, mF r 0 0 0 0 0 (-1) 0 0 0 0 0 0 0 (-1) 1))] H := hP
  have hD : va_D A [((r 18), .inl (kU, 2, .inl (upd (fun _ => 0) (0 : Int32).toNatClampNeg 4))), ((r 100), .inr (12, mF r 0 0 0 0 0 (-1) 0 0 0 0 0 0 0 (-1) 1))] := hD
  refine lv_aload_n hx hb dX12_readTown_35 rfl (lv_at hl 0 rfl) ?_
  refine va_get (D := (dC, dI)) (ci := 12) (v := .ref (r 18)) (C := RX12) (T := TX12) (N := 54) hx hb hts hiX12 hown hK hP 1 rfl rfl 18 (by decide) (hts (.fieldLink RX12 37 "WallChapelsModel" "ruleRead" "[I") (by decide +kernel)) (fun _ h9 => h9) rfl dX12_readTown_36 ?_
  refine lv_iconst (v := 1) hx hb dX12_readTown_39 (by decide) ?_
  refine lv_bipush (v := 20) hx hb dX12_readTown_40 (by decide) ?_
  refine va_iast (D := (dC, dI)) hx hb hK hP hD hS 0 0 rfl rfl (i := 1) (vp_in_nI (n := 1) (by decide) (by decide)) dX12_readTown_42 (fun H locs hP hD hS => ?_)
  have hP : va_P (dC, dI) vwCl [((r 18), .inl (kU, 2, .inl (upd (upd (fun _ => 0) (0 : Int32).toNatClampNeg 4) (1 : Int32).toNatClampNeg 20))), ((r 100), .inr (12, mF r 0 0 0 0 0 (-1) 0 0 0 0 0 0 0 (-1) 1))] H := hP
  have hD : va_D A [((r 18), .inl (kU, 2, .inl (upd (upd (fun _ => 0) (0 : Int32).toNatClampNeg 4) (1 : Int32).toNatClampNeg 20))), ((r 100), .inr (12, mF r 0 0 0 0 0 (-1) 0 0 0 0 0 0 0 (-1) 1))] := hD
  refine lv_iconst (v := 1) hx hb dX12_readTown_43 (by decide) ?_
  refine lv_istore_n (lv' := [(1, .int 1), (0, .ref (r 100))]) hx hb dX12_readTown_44 rfl hl (by decide) rfl (fun ls hl => ?_)
  refine lv_iload_n hx hb dX12_readTown_45 rfl (lv_at hl 0 rfl) ?_
  refine lv_if_eq (tgt := 101) hx hb dX12_readTown_46 (by decide) (fun c_2 => absurd c_2 (by decide)) (fun c_2 => ?_)
  refine lv_aload_n hx hb dX12_readTown_49 rfl (lv_at hl 1 rfl) ?_
  refine va_get (D := (dC, dI)) (ci := 12) (v := .int (-1)) (C := RX12) (T := TX12) (N := 54) hx hb hts hiX12 hown hK hP 1 rfl rfl 11 (by decide) (hts (.fieldLink RX12 122 "WallChapelsModel" "fault" "I") (by decide +kernel)) (fun _ h9 => h9) rfl dX12_readTown_50 ?_
  refine lv_iconst (v := (-1)) hx hb dX12_readTown_53 (by decide) ?_
  refine lv_icmp_ne (tgt := 101) hx hb dX12_readTown_54 (by decide) (fun c_3 => absurd c_3 (by decide)) (fun c_3 => ?_)
  refine lv_aload_n hx hb dX12_readTown_57 rfl (lv_at hl 1 rfl) ?_
  have hPc := hP.sub (ws' := [((r 100), .inr (12, mF r 0 0 0 0 0 (-1) 0 0 0 0 0 0 0 (-1) 1))]) [1] rfl
  have hDc := hD.sub (ws' := [((r 100), .inr (12, mF r 0 0 0 0 0 (-1) 0 0 0 0 0 0 0 (-1) 1))]) [1] (by decide) rfl
  have hKc := hK.sub (tys' := []) [] rfl
  have hFc := va_free (wc := [((r 100), .inr (12, mF r 0 0 0 0 0 (-1) 0 0 0 0 0 0 0 (-1) 1))]) hD hS hA [1] rfl
  refine va_callv (va_runV (As := []) (rest := []) ⟨hx, hb, hml, hown, hts⟩ (f_X12_readClause_a1 l dC dI H.size r ) (cwV 0 hts g_f_X12_readTown_a1_f_X12_readClause_a1 rfl rfl rfl (by decide +kernel) ⟨Nat.le_of_ble_eq_true rfl, Nat.le_of_ble_eq_true rfl⟩) ⟨cW_blind, va_recv hKc hPc (ci := 12) (q0 := 0) rfl rfl, fun U hU hW => ⟨rfl, cW_use hU hW hPc hKc hDc hG⟩⟩ rfl rfl hl.1 rfl (lv_room (Nat.le_of_ble_eq_true rfl)) dX12_readTown_58 ⟨Nat.le_of_ble_eq_true rfl, Nat.le_of_ble_eq_true rfl⟩) hS (fun q _ h => hFc q h) hFc (fun u t H1 locs ht hvm hw hB hz1 hk1 hS => ?_)
  obtain ⟨hP1, hK1, hD1⟩ := hB
  rw [ht] at hP1
  have hK1 := va_K.moved hvm.symm hK1
  obtain ⟨hP, hD⟩ := va_join (wr := [((r 18), .inl (kU, 2, .inl (upd (upd (fun _ => 0) (0 : Int32).toNatClampNeg 4) (1 : Int32).toNatClampNeg 20)))]) (w1 := [((r 100), .inr (12, mF r 0 0 0 0 0 0 0 0 0 0 0 0 0 (-1) 1))]) hP hD [1] [0] rfl rfl (by decide) (by decide) hk1 hFc hP1 hD1
  generalize H1 = H at hP hS ⊢
  have hP : va_P (dC, dI) vwCl [((r 18), .inl (kU, 2, .inl (upd (upd (fun _ => 0) (0 : Int32).toNatClampNeg 4) (1 : Int32).toNatClampNeg 20))), ((r 100), .inr (12, mF r 0 0 0 0 0 0 0 0 0 0 0 0 0 (-1) 1))] H := hP
  have hD : va_D A [((r 18), .inl (kU, 2, .inl (upd (upd (fun _ => 0) (0 : Int32).toNatClampNeg 4) (1 : Int32).toNatClampNeg 20))), ((r 100), .inr (12, mF r 0 0 0 0 0 0 0 0 0 0 0 0 0 (-1) 1))] := hD
  refine W.widen (k := 0) (n := 0) (Nat.le_of_ble_eq_true rfl) (Nat.le_of_ble_eq_true rfl) ?_
  refine lv_aload_n hx hb dX12_readTown_61 rfl (lv_at hl 1 rfl) ?_
  refine va_get (D := (dC, dI)) (ci := 12) (v := .int 0) (C := RX12) (T := TX12) (N := 54) hx hb hts hiX12 hown hK hP 1 rfl rfl 11 (by decide) (hts (.fieldLink RX12 122 "WallChapelsModel" "fault" "I") (by decide +kernel)) (fun _ h9 => h9) rfl dX12_readTown_62 ?_
  refine lv_iconst (v := (-1)) hx hb dX12_readTown_65 (by decide) ?_
  refine lv_icmp_ne (tgt := 82) hx hb dX12_readTown_66 (by decide) (fun c_5 => ?_) (fun c_5 => absurd c_5 (by decide))
  refine lv_iconst (v := 0) hx hb dX12_readTown_82 (by decide) ?_
  refine lv_istore_n (lv' := [(1, .int 0), (0, .ref (r 100))]) hx hb dX12_readTown_83 rfl hl (by decide) rfl (fun ls hl => ?_)
  refine lv_iload_n hx hb dX12_readTown_84 rfl (lv_at hl 0 rfl) ?_
  refine lv_if_eq (tgt := 45) hx hb dX12_readTown_85 (by decide) (fun c_6 => ?_) (fun c_6 => absurd (by decide) c_6)
  refine lv_iload_n hx hb dX12_readTown_45 rfl (lv_at hl 0 rfl) ?_
  refine lv_if_eq (tgt := 101) hx hb dX12_readTown_46 (by decide) (fun c_7 => ?_) (fun c_7 => absurd (by decide) c_7)
  refine lv_aload_n hx hb dX12_readTown_101 rfl (lv_at hl 1 rfl) ?_
  refine va_get (D := (dC, dI)) (ci := 12) (v := .int 0) (C := RX12) (T := TX12) (N := 54) hx hb hts hiX12 hown hK hP 1 rfl rfl 11 (by decide) (hts (.fieldLink RX12 122 "WallChapelsModel" "fault" "I") (by decide +kernel)) (fun _ h9 => h9) rfl dX12_readTown_102 ?_
  refine lv_iconst (v := (-1)) hx hb dX12_readTown_105 (by decide) ?_
  refine lv_icmp_ne (tgt := 129) hx hb dX12_readTown_106 (by decide) (fun c_8 => ?_) (fun c_8 => absurd c_8 (by decide))
  have hP9 := hP.sub (ws' := [((r 100), .inr (12, mF r 0 0 0 0 0 0 0 0 0 0 0 0 0 (-1) 1)), ((r 18), .inl (kU, 2, .inl (upd (upd (fun _ => 0) (0 : Int32).toNatClampNeg 4) (1 : Int32).toNatClampNeg 20)))]) [1, 0] rfl
  have hD9 := hD.sub (ws' := [((r 100), .inr (12, mF r 0 0 0 0 0 0 0 0 0 0 0 0 0 (-1) 1)), ((r 18), .inl (kU, 2, .inl (upd (upd (fun _ => 0) (0 : Int32).toNatClampNeg 4) (1 : Int32).toNatClampNeg 20)))]) [1, 0] (by decide) rfl
  have hK9 := hK.sub (tys' := [(kU, .int)]) [0] rfl
  exact W.vret hx hb hr (fun t ht hW => ⟨⟨(), rfl, trivial, ⟨by rw [ht]; exact hP9, va_K.moved hW.alike hK9, hD9⟩⟩, hS.F ht⟩) hS.2.2 dX12_readTown_129
def vs_f_X12_fault : List Cond := .code yX12_fault cX12_fault 2 (some .int) :: ([.fieldLink RX12 90 "WallChapelsModel" "thrown" "I", .constantLong RX12 261 (2), .initialized RX12, .static yX12_isIn, .code yX12_isIn cX12_isIn 6 (some .boolean), .methodLink RX12 211 yX12_isIn, .instanceMethod yX12_readWalk, .selects RX12 yX12_readWalk yX12_readWalk, .fieldLink RX12 9 "WallChapelsModel" "tape" "[B", .fieldLink RX12 103 "WallChapelsModel" "length" "I", .instanceMethod yX12_starts, .selects RX12 yX12_starts yX12_starts, .fieldLink RX12 23 "WallChapelsModel" "text" "[B", .fieldLink RX12 119 "WallChapelsModel" "begins" "I", .fieldLink RX12 116 "WallChapelsModel" "ends" "I", .fieldLink RX12 113 "WallChapelsModel" "at" "I", .fieldLink RX12 122 "WallChapelsModel" "fault" "I", .code yX12_starts cX12_starts 4 none, .methodLink RX12 201 yX12_starts, .instanceMethod yX12_look, .selects RX12 yX12_look yX12_look, .code yX12_look cX12_look 1 (some .int), .methodLink RX12 132 yX12_look, .instanceMethod yX12_isDigit, .selects RX12 yX12_isDigit yX12_isDigit, .code yX12_isDigit cX12_isDigit 1 (some .boolean), .methodLink RX12 162 yX12_isDigit, .fieldLink RX12 55 "WallChapelsModel" "walkLong" "[I", .instanceMethod yX12_fails, .selects RX12 yX12_fails yX12_fails, .code yX12_fails cX12_fails 1 (some .boolean), .methodLink RX12 128 yX12_fails, .code yX12_readWalk cX12_readWalk 2 none, .methodLink RX12 269 yX12_readWalk, .instanceMethod yX12_goThrough, .selects RX12 yX12_goThrough yX12_goThrough, .fieldLink RX12 195 "WallChapelsModel" "label" "I", .fieldLink RX12 125 "WallChapelsModel" "deep" "I", .fieldLink RX12 191 "WallChapelsModel" "hasFound" "Z", .fieldLink RX12 198 "WallChapelsModel" "found" "I", .instanceMethod yX12_clause, .selects RX12 yX12_clause yX12_clause, .static yX12_isAmong, .initialized RJ0, .instanceMethod yJ0_length_8abf5, .selects RJ0 yJ0_length_8abf5 yJ0_length_8abf5, .fieldLink RJ0 9 "java/lang/String" "value" "[B", .instanceMethod yJ0_coder_7d493, .selects RJ0 yJ0_coder_7d493 yJ0_coder_7d493, .fieldLink RJ0 38 "java/lang/String" "COMPACT_STRINGS" "Z", .fieldLink RJ0 15 "java/lang/String" "coder" "B", .code yJ0_coder_7d493 cJ0_coder_7d493 1 (some .byte), .methodLink RJ0 335 yJ0_coder_7d493, .code yJ0_length_8abf5 cJ0_length_8abf5 1 (some .int), .methodLink RX12 93 yJ0_length_8abf5, .instanceMethod yJ0_charAt_5068e, .selects RJ0 yJ0_charAt_5068e yJ0_charAt_5068e, .instanceMethod yJ0_isLatin1_aae02, .selects RJ0 yJ0_isLatin1_aae02 yJ0_isLatin1_aae02, .code yJ0_isLatin1_aae02 cJ0_isLatin1_aae02 1 (some .boolean), .methodLink RJ0 492 yJ0_isLatin1_aae02, .initialized RJ1, .static yJ1_charAt_3b067, .static yJ0_checkIndex_df160, .fieldLink RJ0 1053 "jdk/internal/util/Preconditions" "SIOOBE_FORMATTER" "Ljava/util/function/BiFunction;", .initialized RJ3, .static yJ3_checkIndex_8e157, .code yJ3_checkIndex_8e157 cJ3_checkIndex_8e157 3 (some .int), .methodLink RJ0 1059 yJ3_checkIndex_8e157, .code yJ0_checkIndex_df160 cJ0_checkIndex_df160 2 none, .methodLink RJ1 9 yJ0_checkIndex_df160, .code yJ1_charAt_3b067 cJ1_charAt_3b067 2 (some .char), .methodLink RJ0 495 yJ1_charAt_3b067, .code yJ0_charAt_5068e cJ0_charAt_5068e 2 (some .char), .methodLink RX12 99 yJ0_charAt_5068e, .code yX12_isAmong cX12_isAmong 3 (some .boolean), .methodLink RX12 148 yX12_isAmong, .code yX12_clause cX12_clause 5 none, .methodLink RX12 205 yX12_clause, .code yX12_goThrough cX12_goThrough 4 none, .methodLink RX12 266 yX12_goThrough, .instanceMethod yX12_readTown, .selects RX12 yX12_readTown yX12_readTown, .fieldLink RX12 239 "WallChapelsModel" "streetsRead" "I", .fieldLink RX12 242 "WallChapelsModel" "walkersRead" "I", .fieldLink RX12 236 "WallChapelsModel" "hasRules" "Z", .fieldLink RX12 37 "WallChapelsModel" "ruleRead" "[I", .instanceMethod yX12_readClause, .selects RX12 yX12_readClause yX12_readClause, .code yX12_readClause cX12_readClause 3 none, .methodLink RX12 255 yX12_readClause, .code yX12_readTown cX12_readTown 2 none, .methodLink RX12 263 yX12_readTown] ++ (u_ws RX12 TX12 54))
theorem vs_f_X12_fault_uX12 : ∀ w ∈ u_ws RX12 TX12 54, w ∈ vs_f_X12_fault := fun _ h => List.mem_cons_of_mem _ (List.mem_append_right _ (h))
set_option maxRecDepth 20000 in
theorem g_f_X12_fault_f_X12_isIn : GoodIn vs_f_X12_fault (va_wsS RX12 211 yX12_isIn vs_f_X12_isIn) := goodIn_r _ [6, 4, 3, 5] (by decide +kernel) (by decide +kernel)
set_option maxRecDepth 20000 in
theorem g_f_X12_fault_f_X12_readWalk_a1 : GoodIn vs_f_X12_fault (wsV RX12 269 RX12 yX12_readWalk vs_f_X12_readWalk_a1) := goodIn_r _ [34, 7, 8, 3, 33, 9, 10, 3, 11, 12, 13, 14, 15, 16, 17, 18, 19, 20, 21, 22, 23, 24, 25, 26, 27, 28, 29, 30, 31, 32, 94, 95, 96, 97, 98, 99, 100, 101, 102, 103, 104, 105, 106, 107, 108, 109, 110, 111, 112, 113, 114, 115, 116, 117, 118, 119, 120, 121, 122, 123, 124, 125, 126, 127, 128, 129, 130, 131, 132, 133, 134, 135, 136, 137, 138, 139, 140, 141, 142, 143, 144, 145, 146, 147] (by decide +kernel) (by decide +kernel)
set_option maxRecDepth 20000 in
theorem g_f_X12_fault_f_X12_goThrough_a1 : GoodIn vs_f_X12_fault (wsV RX12 266 RX12 yX12_goThrough vs_f_X12_goThrough_a1) := goodIn_r _ [81, 35, 36, 3, 80, 3, 11, 12, 13, 14, 15, 16, 17, 18, 19, 37, 38, 39, 40, 41, 42, 20, 21, 22, 23, 43, 44, 45, 46, 47, 48, 49, 50, 51, 52, 53, 54, 55, 56, 57, 58, 59, 60, 61, 62, 63, 64, 65, 66, 67, 68, 69, 70, 71, 72, 73, 74, 75, 76, 77, 29, 30, 31, 32, 78, 79, 94, 95, 96, 97, 98, 99, 100, 101, 102, 103, 104, 105, 106, 107, 108, 109, 110, 111, 112, 113, 114, 115, 116, 117, 118, 119, 120, 121, 122, 123, 124, 125, 126, 127, 128, 129, 130, 131, 132, 133, 134, 135, 136, 137, 138, 139, 140, 141, 142, 143, 144, 145, 146, 147] (by decide +kernel) (by decide +kernel)
set_option maxRecDepth 20000 in
theorem g_f_X12_fault_f_X12_readTown_a1 : GoodIn vs_f_X12_fault (wsV RX12 263 RX12 yX12_readTown vs_f_X12_readTown_a1) := goodIn_r _ [93, 82, 83, 3, 92, 9, 10, 3, 11, 12, 13, 14, 15, 16, 17, 18, 19, 84, 85, 86, 87, 88, 89, 20, 21, 22, 23, 29, 30, 31, 32, 90, 91, 94, 95, 96, 97, 98, 99, 100, 101, 102, 103, 104, 105, 106, 107, 108, 109, 110, 111, 112, 113, 114, 115, 116, 117, 118, 119, 120, 121, 122, 123, 124, 125, 126, 127, 128, 129, 130, 131, 132, 133, 134, 135, 136, 137, 138, 139, 140, 141, 142, 143, 144, 145, 146, 147] (by decide +kernel) (by decide +kernel)
set_option maxHeartbeats 4000000 in
set_option maxRecDepth 100000 in
theorem f_X12_fault (l : Launch) (dC : Nat → ClassId) (dI : Nat → Nat → Nat) (sz : Nat) (sk sv : Nat → Nat) (s2 tz : Nat) (r : Nat → Nat) (kU : ClassId) (kL : ClassId) (p0 : Int32) : Met l yX12_fault vs_f_X12_fault ({ frames := 7, cells := 0, slots := 0, locals := 154 }) (va_Pc [.ref (r 100), .int p0] (cWx dC dI [((r 100), .inr (12, mF r 0 0 0 0 0 0 0 0 0 0 0 0 0 (-1) 1)), ((r 18), .inl (kU, 2, .inl (fun _ => 0))), ((r 24), .inl (kL, 5, .inl (fun _ => 0)))] [(kU, .int), (kL, .int)] sz sk sv s2 tz)) (va_Qi (fun (r : Int32) (_ : Unit) => r = (if p0 < 0 ∨ 2 < p0 then -2 else 0)) (fun (_ : Unit) (t : State) => True) (va_A [((r 100), .inr (12, mF r 0 0 0 0 0 0 0 0 0 0 0 0 0 (-1) 1)), ((r 18), .inl (kU, 2, .inl (fun _ => 0))), ((r 24), .inl (kL, 5, .inl (fun _ => 0)))] sz)) 0 0 (va_A [((r 100), .inr (12, mF r 0 0 0 0 0 0 0 0 0 0 0 0 0 (-1) 1)), ((r 18), .inl (kU, 2, .inl (fun _ => 0))), ((r 24), .inl (kL, 5, .inl (fun _ => 0)))] sz) := by
  refine Met.ofW (cc := cX12_fault) (maxL := 2) (ret := (some .int)) (by decide) rfl ?_
  intro p e s m args below meth c s₁ B hml hv
  obtain ⟨rfl, ⟨hsz, hP, hK, hD0, hG⟩, hE⟩ := hv
  have hx := B.exec
  have hb := B.bytes
  have hr := B.returns
  have hts := atoms_spec (ws := vs_f_X12_fault) B.pre
  have hown : s.vm.findClass RX12 = some m.cls := findClass_of_methodNamed B.named
  have hlocks := B.notSynchronized
  have hiX12 : ∀ w ∈ u_ws RX12 TX12 54, w ∈ vs_f_X12_fault := vs_f_X12_fault_uX12
  subst hsz
  have hD := hD0.self (sz := s.heap.size)
  generalize hAe : va_A [((r 100), .inr (12, mF r 0 0 0 0 0 0 0 0 0 0 0 0 0 (-1) 1)), ((r 18), .inl (kU, 2, .inl (fun _ => 0))), ((r 24), .inl (kL, 5, .inl (fun _ => 0)))] s.heap.size = A at hD hE ⊢
  have hA : ∀ q : Nat, s.heap.size ≤ q → A q := fun q h => by rw [← hAe]; exact Or.inr h
  have hS : va_S A s.heap s.heap [] := va_S.rf
  have hP : va_P (dC, dI) vwCl [((r 100), .inr (12, mF r 0 0 0 0 0 0 0 0 0 0 0 0 0 (-1) 1)), ((r 18), .inl (kU, 2, .inl (fun _ => 0))), ((r 24), .inl (kL, 5, .inl (fun _ => 0)))] s.heap := hP
  have hl := lv_entry ([.ref (r 100), .int p0]) (n := 2) (Nat.le_of_ble_eq_true rfl)
  rw [lg_entry_eq]
  generalize (lg_sl ([.ref (r 100), .int p0]) ++ List.replicate (2 - (lg_sl ([.ref (r 100), .int p0])).length) Slot.unset).toArray = ls at hl ⊢
  have hl : lv_has ls 2 [(0, .ref (r 100)), (1, .int p0)] := hl
  refine lv_aload_n hx hb dX12_fault_0 rfl (lv_at hl 0 rfl) ?_
  refine lv_iconst (v := 0) hx hb dX12_fault_1 (by decide) ?_
  refine va_put (D := (dC, dI)) (ci := 12) (v := .int 0) (ty := .int) (C := RX12) (T := TX12) (N := 54) hx hb hts hiX12 tyX12 tyX12_ok nmX12 hown hK hP hD hS 0 rfl rfl 0 (by decide) (hts (.fieldLink RX12 90 "WallChapelsModel" "thrown" "I") (by decide +kernel)) (fun _ h9 => h9) rfl (by decide +kernel) rfl rfl (Nat.le_of_ble_eq_true rfl) dX12_fault_2 (fun H locs hP hD hS => ?_)
  have hP : va_P (dC, dI) vwCl [((r 100), .inr (12, mF r 0 0 0 0 0 0 0 0 0 0 0 0 0 (-1) 1)), ((r 18), .inl (kU, 2, .inl (fun _ => 0))), ((r 24), .inl (kL, 5, .inl (fun _ => 0)))] H := hP
  have hD : va_D A [((r 100), .inr (12, mF r 0 0 0 0 0 0 0 0 0 0 0 0 0 (-1) 1)), ((r 18), .inl (kU, 2, .inl (fun _ => 0))), ((r 24), .inl (kL, 5, .inl (fun _ => 0)))] := hD
  refine lv_iload_n hx hb dX12_fault_5 rfl (lv_at hl 1 rfl) ?_
  refine lv_i2l (v := p0.toInt64) hx hb dX12_fault_6 rfl ?_
  refine lv_lconst (v := 0) hx hb dX12_fault_7 rfl ?_
  refine lv_ldc2 hx hb hown (hts (.constantLong RX12 261 (2)) (by decide +kernel)) dX12_fault_8 ?_
  have hPc := hP.sub (ws' := []) [] rfl
  have hDc := hD.sub (ws' := []) [] (by decide) rfl
  have hKc := hK.sub (tys' := []) [] rfl
  have hFc := va_free (wc := []) hD hS hA [] rfl
  refine va_calli (va_runS (As := [.long (p0.toInt64), .long 0, .long 2]) (rest := []) ⟨hx, hb, hml, hown, hts⟩ (f_X12_isIn l dC dI H.size p0 0 2 0 2 (by decide) (by decide)) (va_cwS 3 hts g_f_X12_fault_f_X12_isIn rfl rfl rfl (by decide +kernel) ⟨Nat.le_of_ble_eq_true rfl, Nat.le_of_ble_eq_true rfl⟩) ⟨cW_blind, fun U hU hW => ⟨rfl, cW_use hU hW hPc hKc hDc hG⟩⟩ rfl rfl hl.1 rfl (lv_room (Nat.le_of_ble_eq_true rfl)) dX12_fault_11 ⟨Nat.le_of_ble_eq_true rfl, Nat.le_of_ble_eq_true rfl⟩) hS (fun q _ h => hFc q h) hFc (fun r_1 u t H1 locs ht hvm hw hB hz1 hk1 hS => ?_)
  obtain ⟨hP, hD⟩ := va_join (wr := [((r 100), .inr (12, mF r 0 0 0 0 0 0 0 0 0 0 0 0 0 (-1) 1)), ((r 18), .inl (kU, 2, .inl (fun _ => 0))), ((r 24), .inl (kL, 5, .inl (fun _ => 0)))]) (w1 := []) hP hD [] [0, 1, 2] rfl rfl (by decide) (by decide) hk1 hFc (va_P_nil H1) va_D_nil
  generalize H1 = H at hP hS ⊢
  have hP : va_P (dC, dI) vwCl [((r 100), .inr (12, mF r 0 0 0 0 0 0 0 0 0 0 0 0 0 (-1) 1)), ((r 18), .inl (kU, 2, .inl (fun _ => 0))), ((r 24), .inl (kL, 5, .inl (fun _ => 0)))] H := hP
  have hD : va_D A [((r 100), .inr (12, mF r 0 0 0 0 0 0 0 0 0 0 0 0 0 (-1) 1)), ((r 18), .inl (kU, 2, .inl (fun _ => 0))), ((r 24), .inl (kL, 5, .inl (fun _ => 0)))] := hD
  refine W.widen (k := 0) (n := 0) (Nat.le_of_ble_eq_true rfl) (Nat.le_of_ble_eq_true rfl) ?_
  by_cases c_2 : (p0 < 0 ∨ 2 < p0)
  · rw [if_pos c_2] at hw
    obtain rfl : r_1 = 0 := hw
    refine lv_if_ne (tgt := 20) hx hb dX12_fault_14 (by decide) (fun c_3 => absurd c_3 (by decide)) (fun c_3 => ?_)
    refine lv_bipush (v := (-2)) hx hb dX12_fault_17 (by decide) ?_
    exact W.iret (v := (-2)) hx hb hr (fun t ht hW => ⟨⟨(-2), (), rfl, by rw [if_pos (show (p0 < 0 ∨ 2 < p0) by have zI := c_2; simp only [i_lt, i_le, i_eq, i_zm1000000, i_zm30, i_zm20, i_zm2, i_zm1, i_z0, i_z1, i_z2, i_z3, i_z4, i_z5, i_z6, i_z7, i_z8, i_z9, i_z10, i_z11, i_z12, i_z13, i_z14, i_z15, i_z16, i_z17, i_z18, i_z19, i_z20, i_z21, i_z22, i_z23, i_z24, i_z30, i_z32, i_z40, i_z41, i_z50, i_z58, i_z59, i_z60, i_z63, i_z99, i_z100, i_z240, i_z255, i_z999] at zI; simp only [i_lt, i_le, i_eq, i_zm1000000, i_zm30, i_zm20, i_zm2, i_zm1, i_z0, i_z1, i_z2, i_z3, i_z4, i_z5, i_z6, i_z7, i_z8, i_z9, i_z10, i_z11, i_z12, i_z13, i_z14, i_z15, i_z16, i_z17, i_z18, i_z19, i_z20, i_z21, i_z22, i_z23, i_z24, i_z30, i_z32, i_z40, i_z41, i_z50, i_z58, i_z59, i_z60, i_z63, i_z99, i_z100, i_z240, i_z255, i_z999]; omega)], trivial⟩, hS.F ht⟩) hS.2.2 dX12_fault_19
  · rw [if_neg c_2] at hw
    obtain rfl : r_1 = 1 := hw
    refine lv_if_ne (tgt := 20) hx hb dX12_fault_14 (by decide) (fun c_4 => ?_) (fun c_4 => absurd c_4 (by decide))
    refine lv_iload_n hx hb dX12_fault_20 rfl (lv_at hl 1 rfl) ?_
    refine lv_if_ne (tgt := 28) hx hb dX12_fault_21 (by decide) (fun c_5 => ?_) (fun c_5 => ?_)
    · refine lv_iload_n hx hb dX12_fault_28 rfl (lv_at hl 1 rfl) ?_
      refine lv_iconst (v := 1) hx hb dX12_fault_29 (by decide) ?_
      refine lv_icmp_ne (tgt := 46) hx hb dX12_fault_30 (by decide) (fun c_6 => ?_) (fun c_6 => ?_)
      · refine lv_iload_n hx hb dX12_fault_46 rfl (lv_at hl 1 rfl) ?_
        refine lv_iconst (v := 2) hx hb dX12_fault_47 (by decide) ?_
        refine lv_icmp_ne (tgt := 55) hx hb dX12_fault_48 (by decide) (fun c_7 => by have z0 := (not_or.mp c_2).1; have z1 := (not_or.mp c_2).2; have z2 := c_5; have z3 := c_6; have z4 := c_7; simp only [i_lt, i_le, i_eq, i_zm1000000, i_zm30, i_zm20, i_zm2, i_zm1, i_z0, i_z1, i_z2, i_z3, i_z4, i_z5, i_z6, i_z7, i_z8, i_z9, i_z10, i_z11, i_z12, i_z13, i_z14, i_z15, i_z16, i_z17, i_z18, i_z19, i_z20, i_z21, i_z22, i_z23, i_z24, i_z30, i_z32, i_z40, i_z41, i_z50, i_z58, i_z59, i_z60, i_z63, i_z99, i_z100, i_z240, i_z255, i_z999] at z0 z1 z2 z3 z4; omega) (fun c_7 => ?_)
        refine lv_aload_n hx hb dX12_fault_51 rfl (lv_at hl 0 rfl) ?_
        have hPc := hP.sub (ws' := [((r 100), .inr (12, mF r 0 0 0 0 0 0 0 0 0 0 0 0 0 (-1) 1)), ((r 24), .inl (kL, 5, .inl (fun _ => 0)))]) [0, 2] rfl
        have hDc := hD.sub (ws' := [((r 100), .inr (12, mF r 0 0 0 0 0 0 0 0 0 0 0 0 0 (-1) 1)), ((r 24), .inl (kL, 5, .inl (fun _ => 0)))]) [0, 2] (by decide) rfl
        have hKc := hK.sub (tys' := [(kL, .int)]) [1] rfl
        have hFc := va_free (wc := [((r 100), .inr (12, mF r 0 0 0 0 0 0 0 0 0 0 0 0 0 (-1) 1)), ((r 24), .inl (kL, 5, .inl (fun _ => 0)))]) hD hS hA [0, 2] rfl
        refine va_callv (va_runV (As := []) (rest := []) ⟨hx, hb, hml, hown, hts⟩ (f_X12_readWalk_a1 l dC dI H.size r kL ) (cwV 0 hts g_f_X12_fault_f_X12_readWalk_a1 rfl rfl rfl (by decide +kernel) ⟨Nat.le_of_ble_eq_true rfl, Nat.le_of_ble_eq_true rfl⟩) ⟨cW_blind, va_recv hKc hPc (ci := 12) (q0 := 0) rfl rfl, fun U hU hW => ⟨rfl, cW_use hU hW hPc hKc hDc hG⟩⟩ rfl rfl hl.1 rfl (lv_room (Nat.le_of_ble_eq_true rfl)) dX12_fault_52 ⟨Nat.le_of_ble_eq_true rfl, Nat.le_of_ble_eq_true rfl⟩) hS (fun q _ h => hFc q h) hFc (fun u t H1 locs ht hvm hw hB hz1 hk1 hS => ?_)
        obtain ⟨hP1, hK1, hD1⟩ := hB
        rw [ht] at hP1
        have hK1 := va_K.moved hvm.symm hK1
        obtain ⟨hP, hD⟩ := va_join (wr := [((r 18), .inl (kU, 2, .inl (fun _ => 0)))]) (w1 := [((r 100), .inr (12, mF r 0 0 0 0 0 0 0 0 0 0 0 0 0 (-1) 1)), ((r 24), .inl (kL, 5, .inl (upd (fun _ => 0) (4 : Int32).toNatClampNeg 0)))]) hP hD [0, 2] [1] rfl rfl (by decide) (by decide) hk1 hFc hP1 hD1
        generalize H1 = H at hP hS ⊢
        have hP : va_P (dC, dI) vwCl [((r 18), .inl (kU, 2, .inl (fun _ => 0))), ((r 100), .inr (12, mF r 0 0 0 0 0 0 0 0 0 0 0 0 0 (-1) 1)), ((r 24), .inl (kL, 5, .inl (upd (fun _ => 0) (4 : Int32).toNatClampNeg 0)))] H := hP
        have hD : va_D A [((r 18), .inl (kU, 2, .inl (fun _ => 0))), ((r 100), .inr (12, mF r 0 0 0 0 0 0 0 0 0 0 0 0 0 (-1) 1)), ((r 24), .inl (kL, 5, .inl (upd (fun _ => 0) (4 : Int32).toNatClampNeg 0)))] := hD
        refine W.widen (k := 0) (n := 0) (Nat.le_of_ble_eq_true rfl) (Nat.le_of_ble_eq_true rfl) ?_
        refine lv_aload_n hx hb dX12_fault_55 rfl (lv_at hl 0 rfl) ?_
        refine va_get (D := (dC, dI)) (ci := 12) (v := .int 0) (C := RX12) (T := TX12) (N := 54) hx hb hts hiX12 hown hK hP 1 rfl rfl 11 (by decide) (hts (.fieldLink RX12 122 "WallChapelsModel" "fault" "I") (by decide +kernel)) (fun _ h9 => h9) rfl dX12_fault_56 ?_
        exact W.iret (v := 0) hx hb hr (fun t ht hW => ⟨⟨0, (), rfl, by rw [if_neg (show ¬ (p0 < 0 ∨ 2 < p0) by have zI := c_2; simp only [i_lt, i_le, i_eq, i_zm1000000, i_zm30, i_zm20, i_zm2, i_zm1, i_z0, i_z1, i_z2, i_z3, i_z4, i_z5, i_z6, i_z7, i_z8, i_z9, i_z10, i_z11, i_z12, i_z13, i_z14, i_z15, i_z16, i_z17, i_z18, i_z19, i_z20, i_z21, i_z22, i_z23, i_z24, i_z30, i_z32, i_z40, i_z41, i_z50, i_z58, i_z59, i_z60, i_z63, i_z99, i_z100, i_z240, i_z255, i_z999] at zI; have z0 := (not_or.mp c_2).1; have z1 := (not_or.mp c_2).2; have z2 := c_5; have z3 := c_6; have z4 := c_7; simp only [i_lt, i_le, i_eq, i_zm1000000, i_zm30, i_zm20, i_zm2, i_zm1, i_z0, i_z1, i_z2, i_z3, i_z4, i_z5, i_z6, i_z7, i_z8, i_z9, i_z10, i_z11, i_z12, i_z13, i_z14, i_z15, i_z16, i_z17, i_z18, i_z19, i_z20, i_z21, i_z22, i_z23, i_z24, i_z30, i_z32, i_z40, i_z41, i_z50, i_z58, i_z59, i_z60, i_z63, i_z99, i_z100, i_z240, i_z255, i_z999] at z0 z1 z2 z3 z4; simp only [i_lt, i_le, i_eq, i_zm1000000, i_zm30, i_zm20, i_zm2, i_zm1, i_z0, i_z1, i_z2, i_z3, i_z4, i_z5, i_z6, i_z7, i_z8, i_z9, i_z10, i_z11, i_z12, i_z13, i_z14, i_z15, i_z16, i_z17, i_z18, i_z19, i_z20, i_z21, i_z22, i_z23, i_z24, i_z30, i_z32, i_z40, i_z41, i_z50, i_z58, i_z59, i_z60, i_z63, i_z99, i_z100, i_z240, i_z255, i_z999]; omega)], trivial⟩, hS.F ht⟩) hS.2.2 dX12_fault_59
      · refine lv_aload_n hx hb dX12_fault_33 rfl (lv_at hl 0 rfl) ?_
        refine lv_aload_n hx hb dX12_fault_34 rfl (lv_at hl 0 rfl) ?_
        refine va_get (D := (dC, dI)) (ci := 12) (v := .ref (r 1)) (C := RX12) (T := TX12) (N := 54) hx hb hts hiX12 hown hK hP 0 rfl rfl 1 (by decide) (hts (.fieldLink RX12 9 "WallChapelsModel" "tape" "[B") (by decide +kernel)) (fun _ h9 => h9) rfl dX12_fault_35 ?_
        refine lv_iconst (v := 0) hx hb dX12_fault_38 (by decide) ?_
        refine lv_aload_n hx hb dX12_fault_39 rfl (lv_at hl 0 rfl) ?_
        refine va_get (D := (dC, dI)) (ci := 12) (v := .int 0) (C := RX12) (T := TX12) (N := 54) hx hb hts hiX12 hown hK hP 0 rfl rfl 6 (by decide) (hts (.fieldLink RX12 103 "WallChapelsModel" "length" "I") (by decide +kernel)) (fun _ h9 => h9) rfl dX12_fault_40 ?_
        have hPc := hP.sub (ws' := [((r 100), .inr (12, mF r 0 0 0 0 0 0 0 0 0 0 0 0 0 (-1) 1))]) [0] rfl
        have hDc := hD.sub (ws' := [((r 100), .inr (12, mF r 0 0 0 0 0 0 0 0 0 0 0 0 0 (-1) 1))]) [0] (by decide) rfl
        have hKc := hK.sub (tys' := []) [] rfl
        have hFc := va_free (wc := [((r 100), .inr (12, mF r 0 0 0 0 0 0 0 0 0 0 0 0 0 (-1) 1))]) hD hS hA [0] rfl
        refine va_callv (va_runV (As := [.ref (r 1), .int 0, .int 0]) (rest := []) ⟨hx, hb, hml, hown, hts⟩ (f_X12_goThrough_a1 l dC dI H.size sk sv s2 tz r ) (cwV 3 hts g_f_X12_fault_f_X12_goThrough_a1 rfl rfl rfl (by decide +kernel) ⟨Nat.le_of_ble_eq_true rfl, Nat.le_of_ble_eq_true rfl⟩) ⟨cW_blindx, va_recv hKc hPc (ci := 12) (q0 := 0) rfl rfl, fun U hU hW => ⟨rfl, cW_usex hU hW hPc hKc hDc hG hS hFc hE⟩⟩ rfl rfl hl.1 rfl (lv_room (Nat.le_of_ble_eq_true rfl)) dX12_fault_43 ⟨Nat.le_of_ble_eq_true rfl, Nat.le_of_ble_eq_true rfl⟩) hS (fun q _ h => hFc q h) hFc (fun u t H1 locs ht hvm hw hB hz1 hk1 hS => ?_)
        obtain ⟨hP1, hK1, hD1⟩ := hB
        rw [ht] at hP1
        have hK1 := va_K.moved hvm.symm hK1
        obtain ⟨hP, hD⟩ := va_join (wr := [((r 18), .inl (kU, 2, .inl (fun _ => 0))), ((r 24), .inl (kL, 5, .inl (fun _ => 0)))]) (w1 := [((r 100), .inr (12, mF r 0 0 0 0 0 0 0 121 0 0 0 0 0 (-1) 1))]) hP hD [0] [1, 2] rfl rfl (by decide) (by decide) hk1 hFc hP1 hD1
        generalize H1 = H at hP hS ⊢
        have hP : va_P (dC, dI) vwCl [((r 18), .inl (kU, 2, .inl (fun _ => 0))), ((r 24), .inl (kL, 5, .inl (fun _ => 0))), ((r 100), .inr (12, mF r 0 0 0 0 0 0 0 121 0 0 0 0 0 (-1) 1))] H := hP
        have hD : va_D A [((r 18), .inl (kU, 2, .inl (fun _ => 0))), ((r 24), .inl (kL, 5, .inl (fun _ => 0))), ((r 100), .inr (12, mF r 0 0 0 0 0 0 0 121 0 0 0 0 0 (-1) 1))] := hD
        refine W.widen (k := 0) (n := 0) (Nat.le_of_ble_eq_true rfl) (Nat.le_of_ble_eq_true rfl) ?_
        refine lv_iload_n hx hb dX12_fault_46 rfl (lv_at hl 1 rfl) ?_
        refine lv_iconst (v := 2) hx hb dX12_fault_47 (by decide) ?_
        refine lv_icmp_ne (tgt := 55) hx hb dX12_fault_48 (by decide) (fun c_10 => ?_) (fun c_10 => by have z0 := (not_or.mp c_2).1; have z1 := (not_or.mp c_2).2; have z2 := c_5; have z3 := c_6; have z4 := c_10; simp only [i_lt, i_le, i_eq, i_zm1000000, i_zm30, i_zm20, i_zm2, i_zm1, i_z0, i_z1, i_z2, i_z3, i_z4, i_z5, i_z6, i_z7, i_z8, i_z9, i_z10, i_z11, i_z12, i_z13, i_z14, i_z15, i_z16, i_z17, i_z18, i_z19, i_z20, i_z21, i_z22, i_z23, i_z24, i_z30, i_z32, i_z40, i_z41, i_z50, i_z58, i_z59, i_z60, i_z63, i_z99, i_z100, i_z240, i_z255, i_z999] at z0 z1 z2 z3 z4; omega)
        refine lv_aload_n hx hb dX12_fault_55 rfl (lv_at hl 0 rfl) ?_
        refine va_get (D := (dC, dI)) (ci := 12) (v := .int 0) (C := RX12) (T := TX12) (N := 54) hx hb hts hiX12 hown hK hP 2 rfl rfl 11 (by decide) (hts (.fieldLink RX12 122 "WallChapelsModel" "fault" "I") (by decide +kernel)) (fun _ h9 => h9) rfl dX12_fault_56 ?_
        exact W.iret (v := 0) hx hb hr (fun t ht hW => ⟨⟨0, (), rfl, by rw [if_neg (show ¬ (p0 < 0 ∨ 2 < p0) by have zI := c_2; simp only [i_lt, i_le, i_eq, i_zm1000000, i_zm30, i_zm20, i_zm2, i_zm1, i_z0, i_z1, i_z2, i_z3, i_z4, i_z5, i_z6, i_z7, i_z8, i_z9, i_z10, i_z11, i_z12, i_z13, i_z14, i_z15, i_z16, i_z17, i_z18, i_z19, i_z20, i_z21, i_z22, i_z23, i_z24, i_z30, i_z32, i_z40, i_z41, i_z50, i_z58, i_z59, i_z60, i_z63, i_z99, i_z100, i_z240, i_z255, i_z999] at zI; have z0 := (not_or.mp c_2).1; have z1 := (not_or.mp c_2).2; have z2 := c_5; have z3 := c_6; have z4 := c_10; simp only [i_lt, i_le, i_eq, i_zm1000000, i_zm30, i_zm20, i_zm2, i_zm1, i_z0, i_z1, i_z2, i_z3, i_z4, i_z5, i_z6, i_z7, i_z8, i_z9, i_z10, i_z11, i_z12, i_z13, i_z14, i_z15, i_z16, i_z17, i_z18, i_z19, i_z20, i_z21, i_z22, i_z23, i_z24, i_z30, i_z32, i_z40, i_z41, i_z50, i_z58, i_z59, i_z60, i_z63, i_z99, i_z100, i_z240, i_z255, i_z999] at z0 z1 z2 z3 z4; simp only [i_lt, i_le, i_eq, i_zm1000000, i_zm30, i_zm20, i_zm2, i_zm1, i_z0, i_z1, i_z2, i_z3, i_z4, i_z5, i_z6, i_z7, i_z8, i_z9, i_z10, i_z11, i_z12, i_z13, i_z14, i_z15, i_z16, i_z17, i_z18, i_z19, i_z20, i_z21, i_z22, i_z23, i_z24, i_z30, i_z32, i_z40, i_z41, i_z50, i_z58, i_z59, i_z60, i_z63, i_z99, i_z100, i_z240, i_z255, i_z999]; omega)], trivial⟩, hS.F ht⟩) hS.2.2 dX12_fault_59
    · refine lv_aload_n hx hb dX12_fault_24 rfl (lv_at hl 0 rfl) ?_
      have hPc := hP.sub (ws' := [((r 100), .inr (12, mF r 0 0 0 0 0 0 0 0 0 0 0 0 0 (-1) 1)), ((r 18), .inl (kU, 2, .inl (fun _ => 0)))]) [0, 1] rfl
      have hDc := hD.sub (ws' := [((r 100), .inr (12, mF r 0 0 0 0 0 0 0 0 0 0 0 0 0 (-1) 1)), ((r 18), .inl (kU, 2, .inl (fun _ => 0)))]) [0, 1] (by decide) rfl
      have hKc := hK.sub (tys' := [(kU, .int)]) [0] rfl
      have hFc := va_free (wc := [((r 100), .inr (12, mF r 0 0 0 0 0 0 0 0 0 0 0 0 0 (-1) 1)), ((r 18), .inl (kU, 2, .inl (fun _ => 0)))]) hD hS hA [0, 1] rfl
      refine va_callv (va_runV (As := []) (rest := []) ⟨hx, hb, hml, hown, hts⟩ (f_X12_readTown_a1 l dC dI H.size r kU ) (cwV 0 hts g_f_X12_fault_f_X12_readTown_a1 rfl rfl rfl (by decide +kernel) ⟨Nat.le_of_ble_eq_true rfl, Nat.le_of_ble_eq_true rfl⟩) ⟨cW_blind, va_recv hKc hPc (ci := 12) (q0 := 0) rfl rfl, fun U hU hW => ⟨rfl, cW_use hU hW hPc hKc hDc hG⟩⟩ rfl rfl hl.1 rfl (lv_room (Nat.le_of_ble_eq_true rfl)) dX12_fault_25 ⟨Nat.le_of_ble_eq_true rfl, Nat.le_of_ble_eq_true rfl⟩) hS (fun q _ h => hFc q h) hFc (fun u t H1 locs ht hvm hw hB hz1 hk1 hS => ?_)
      obtain ⟨hP1, hK1, hD1⟩ := hB
      rw [ht] at hP1
      have hK1 := va_K.moved hvm.symm hK1
      obtain ⟨hP, hD⟩ := va_join (wr := [((r 24), .inl (kL, 5, .inl (fun _ => 0)))]) (w1 := [((r 100), .inr (12, mF r 0 0 0 0 0 0 0 0 0 0 0 0 0 (-1) 1)), ((r 18), .inl (kU, 2, .inl (upd (upd (fun _ => 0) (0 : Int32).toNatClampNeg 4) (1 : Int32).toNatClampNeg 20)))]) hP hD [0, 1] [2] rfl rfl (by decide) (by decide) hk1 hFc hP1 hD1
      generalize H1 = H at hP hS ⊢
      have hP : va_P (dC, dI) vwCl [((r 24), .inl (kL, 5, .inl (fun _ => 0))), ((r 100), .inr (12, mF r 0 0 0 0 0 0 0 0 0 0 0 0 0 (-1) 1)), ((r 18), .inl (kU, 2, .inl (upd (upd (fun _ => 0) (0 : Int32).toNatClampNeg 4) (1 : Int32).toNatClampNeg 20)))] H := hP
      have hD : va_D A [((r 24), .inl (kL, 5, .inl (fun _ => 0))), ((r 100), .inr (12, mF r 0 0 0 0 0 0 0 0 0 0 0 0 0 (-1) 1)), ((r 18), .inl (kU, 2, .inl (upd (upd (fun _ => 0) (0 : Int32).toNatClampNeg 4) (1 : Int32).toNatClampNeg 20)))] := hD
      refine W.widen (k := 0) (n := 0) (Nat.le_of_ble_eq_true rfl) (Nat.le_of_ble_eq_true rfl) ?_
      refine lv_iload_n hx hb dX12_fault_28 rfl (lv_at hl 1 rfl) ?_
      refine lv_iconst (v := 1) hx hb dX12_fault_29 (by decide) ?_
      refine lv_icmp_ne (tgt := 46) hx hb dX12_fault_30 (by decide) (fun c_12 => ?_) (fun c_12 => by have z0 := (not_or.mp c_2).1; have z1 := (not_or.mp c_2).2; have z2 := c_5; have z3 := c_12; simp only [i_lt, i_le, i_eq, i_zm1000000, i_zm30, i_zm20, i_zm2, i_zm1, i_z0, i_z1, i_z2, i_z3, i_z4, i_z5, i_z6, i_z7, i_z8, i_z9, i_z10, i_z11, i_z12, i_z13, i_z14, i_z15, i_z16, i_z17, i_z18, i_z19, i_z20, i_z21, i_z22, i_z23, i_z24, i_z30, i_z32, i_z40, i_z41, i_z50, i_z58, i_z59, i_z60, i_z63, i_z99, i_z100, i_z240, i_z255, i_z999] at z0 z1 z2 z3; omega)
      refine lv_iload_n hx hb dX12_fault_46 rfl (lv_at hl 1 rfl) ?_
      refine lv_iconst (v := 2) hx hb dX12_fault_47 (by decide) ?_
      refine lv_icmp_ne (tgt := 55) hx hb dX12_fault_48 (by decide) (fun c_13 => ?_) (fun c_13 => by have z0 := (not_or.mp c_2).1; have z1 := (not_or.mp c_2).2; have z2 := c_5; have z3 := c_12; have z4 := c_13; simp only [i_lt, i_le, i_eq, i_zm1000000, i_zm30, i_zm20, i_zm2, i_zm1, i_z0, i_z1, i_z2, i_z3, i_z4, i_z5, i_z6, i_z7, i_z8, i_z9, i_z10, i_z11, i_z12, i_z13, i_z14, i_z15, i_z16, i_z17, i_z18, i_z19, i_z20, i_z21, i_z22, i_z23, i_z24, i_z30, i_z32, i_z40, i_z41, i_z50, i_z58, i_z59, i_z60, i_z63, i_z99, i_z100, i_z240, i_z255, i_z999] at z0 z1 z2 z3 z4; omega)
      refine lv_aload_n hx hb dX12_fault_55 rfl (lv_at hl 0 rfl) ?_
      refine va_get (D := (dC, dI)) (ci := 12) (v := .int 0) (C := RX12) (T := TX12) (N := 54) hx hb hts hiX12 hown hK hP 1 rfl rfl 11 (by decide) (hts (.fieldLink RX12 122 "WallChapelsModel" "fault" "I") (by decide +kernel)) (fun _ h9 => h9) rfl dX12_fault_56 ?_
      exact W.iret (v := 0) hx hb hr (fun t ht hW => ⟨⟨0, (), rfl, by rw [if_neg (show ¬ (p0 < 0 ∨ 2 < p0) by have zI := c_2; simp only [i_lt, i_le, i_eq, i_zm1000000, i_zm30, i_zm20, i_zm2, i_zm1, i_z0, i_z1, i_z2, i_z3, i_z4, i_z5, i_z6, i_z7, i_z8, i_z9, i_z10, i_z11, i_z12, i_z13, i_z14, i_z15, i_z16, i_z17, i_z18, i_z19, i_z20, i_z21, i_z22, i_z23, i_z24, i_z30, i_z32, i_z40, i_z41, i_z50, i_z58, i_z59, i_z60, i_z63, i_z99, i_z100, i_z240, i_z255, i_z999] at zI; have z0 := (not_or.mp c_2).1; have z1 := (not_or.mp c_2).2; have z2 := c_5; have z3 := c_12; have z4 := c_13; simp only [i_lt, i_le, i_eq, i_zm1000000, i_zm30, i_zm20, i_zm2, i_zm1, i_z0, i_z1, i_z2, i_z3, i_z4, i_z5, i_z6, i_z7, i_z8, i_z9, i_z10, i_z11, i_z12, i_z13, i_z14, i_z15, i_z16, i_z17, i_z18, i_z19, i_z20, i_z21, i_z22, i_z23, i_z24, i_z30, i_z32, i_z40, i_z41, i_z50, i_z58, i_z59, i_z60, i_z63, i_z99, i_z100, i_z240, i_z255, i_z999] at z0 z1 z2 z3 z4; simp only [i_lt, i_le, i_eq, i_zm1000000, i_zm30, i_zm20, i_zm2, i_zm1, i_z0, i_z1, i_z2, i_z3, i_z4, i_z5, i_z6, i_z7, i_z8, i_z9, i_z10, i_z11, i_z12, i_z13, i_z14, i_z15, i_z16, i_z17, i_z18, i_z19, i_z20, i_z21, i_z22, i_z23, i_z24, i_z30, i_z32, i_z40, i_z41, i_z50, i_z58, i_z59, i_z60, i_z63, i_z99, i_z100, i_z240, i_z255, i_z999]; omega)], trivial⟩, hS.F ht⟩) hS.2.2 dX12_fault_59
def vs_f_X12_text : List Cond := .code yX12_text cX12_text 4 (some .int) :: ([.fieldLink RX12 90 "WallChapelsModel" "thrown" "I", .constantLong RX12 261 (2), .initialized RX12, .static yX12_isIn, .code yX12_isIn cX12_isIn 6 (some .boolean), .methodLink RX12 211 yX12_isIn, .instanceMethod yX12_fault, .selects RX12 yX12_fault yX12_fault, .instanceMethod yX12_readWalk, .selects RX12 yX12_readWalk yX12_readWalk, .fieldLink RX12 9 "WallChapelsModel" "tape" "[B", .fieldLink RX12 103 "WallChapelsModel" "length" "I", .instanceMethod yX12_starts, .selects RX12 yX12_starts yX12_starts, .fieldLink RX12 23 "WallChapelsModel" "text" "[B", .fieldLink RX12 119 "WallChapelsModel" "begins" "I", .fieldLink RX12 116 "WallChapelsModel" "ends" "I", .fieldLink RX12 113 "WallChapelsModel" "at" "I", .fieldLink RX12 122 "WallChapelsModel" "fault" "I", .code yX12_starts cX12_starts 4 none, .methodLink RX12 201 yX12_starts, .instanceMethod yX12_look, .selects RX12 yX12_look yX12_look, .code yX12_look cX12_look 1 (some .int), .methodLink RX12 132 yX12_look, .instanceMethod yX12_isDigit, .selects RX12 yX12_isDigit yX12_isDigit, .code yX12_isDigit cX12_isDigit 1 (some .boolean), .methodLink RX12 162 yX12_isDigit, .fieldLink RX12 55 "WallChapelsModel" "walkLong" "[I", .instanceMethod yX12_fails, .selects RX12 yX12_fails yX12_fails, .code yX12_fails cX12_fails 1 (some .boolean), .methodLink RX12 128 yX12_fails, .code yX12_readWalk cX12_readWalk 2 none, .methodLink RX12 269 yX12_readWalk, .instanceMethod yX12_goThrough, .selects RX12 yX12_goThrough yX12_goThrough, .fieldLink RX12 195 "WallChapelsModel" "label" "I", .fieldLink RX12 125 "WallChapelsModel" "deep" "I", .fieldLink RX12 191 "WallChapelsModel" "hasFound" "Z", .fieldLink RX12 198 "WallChapelsModel" "found" "I", .instanceMethod yX12_clause, .selects RX12 yX12_clause yX12_clause, .static yX12_isAmong, .initialized RJ0, .instanceMethod yJ0_length_8abf5, .selects RJ0 yJ0_length_8abf5 yJ0_length_8abf5, .fieldLink RJ0 9 "java/lang/String" "value" "[B", .instanceMethod yJ0_coder_7d493, .selects RJ0 yJ0_coder_7d493 yJ0_coder_7d493, .fieldLink RJ0 38 "java/lang/String" "COMPACT_STRINGS" "Z", .fieldLink RJ0 15 "java/lang/String" "coder" "B", .code yJ0_coder_7d493 cJ0_coder_7d493 1 (some .byte), .methodLink RJ0 335 yJ0_coder_7d493, .code yJ0_length_8abf5 cJ0_length_8abf5 1 (some .int), .methodLink RX12 93 yJ0_length_8abf5, .instanceMethod yJ0_charAt_5068e, .selects RJ0 yJ0_charAt_5068e yJ0_charAt_5068e, .instanceMethod yJ0_isLatin1_aae02, .selects RJ0 yJ0_isLatin1_aae02 yJ0_isLatin1_aae02, .code yJ0_isLatin1_aae02 cJ0_isLatin1_aae02 1 (some .boolean), .methodLink RJ0 492 yJ0_isLatin1_aae02, .initialized RJ1, .static yJ1_charAt_3b067, .static yJ0_checkIndex_df160, .fieldLink RJ0 1053 "jdk/internal/util/Preconditions" "SIOOBE_FORMATTER" "Ljava/util/function/BiFunction;", .initialized RJ3, .static yJ3_checkIndex_8e157, .code yJ3_checkIndex_8e157 cJ3_checkIndex_8e157 3 (some .int), .methodLink RJ0 1059 yJ3_checkIndex_8e157, .code yJ0_checkIndex_df160 cJ0_checkIndex_df160 2 none, .methodLink RJ1 9 yJ0_checkIndex_df160, .code yJ1_charAt_3b067 cJ1_charAt_3b067 2 (some .char), .methodLink RJ0 495 yJ1_charAt_3b067, .code yJ0_charAt_5068e cJ0_charAt_5068e 2 (some .char), .methodLink RX12 99 yJ0_charAt_5068e, .code yX12_isAmong cX12_isAmong 3 (some .boolean), .methodLink RX12 148 yX12_isAmong, .code yX12_clause cX12_clause 5 none, .methodLink RX12 205 yX12_clause, .code yX12_goThrough cX12_goThrough 4 none, .methodLink RX12 266 yX12_goThrough, .instanceMethod yX12_readTown, .selects RX12 yX12_readTown yX12_readTown, .fieldLink RX12 239 "WallChapelsModel" "streetsRead" "I", .fieldLink RX12 242 "WallChapelsModel" "walkersRead" "I", .fieldLink RX12 236 "WallChapelsModel" "hasRules" "Z", .fieldLink RX12 37 "WallChapelsModel" "ruleRead" "[I", .instanceMethod yX12_readClause, .selects RX12 yX12_readClause yX12_readClause, .code yX12_readClause cX12_readClause 3 none, .methodLink RX12 255 yX12_readClause, .code yX12_readTown cX12_readTown 2 none, .methodLink RX12 263 yX12_readTown, .code yX12_fault cX12_fault 2 (some .int), .methodLink RX12 278 yX12_fault, .fieldLink RX12 275 "WallChapelsModel" "walks" "I", .fieldLink RX12 272 "WallChapelsModel" "lawMany" "I"] ++ (u_ws RX12 TX12 54))
theorem vs_f_X12_text_uX12 : ∀ w ∈ u_ws RX12 TX12 54, w ∈ vs_f_X12_text := fun _ h => List.mem_cons_of_mem _ (List.mem_append_right _ (h))
set_option maxRecDepth 20000 in
theorem g_f_X12_text_f_X12_isIn : GoodIn vs_f_X12_text (va_wsS RX12 211 yX12_isIn vs_f_X12_isIn) := goodIn_r _ [6, 4, 3, 5] (by decide +kernel) (by decide +kernel)
set_option maxRecDepth 20000 in
theorem g_f_X12_text_f_X12_fault : GoodIn vs_f_X12_text (wsV RX12 278 RX12 yX12_fault vs_f_X12_fault) := goodIn_r _ [97, 7, 8, 3, 96, 1, 2, 3, 4, 5, 6, 9, 10, 11, 12, 13, 14, 15, 16, 17, 18, 19, 20, 21, 22, 23, 24, 25, 26, 27, 28, 29, 30, 31, 32, 33, 34, 35, 36, 37, 38, 39, 40, 41, 42, 43, 44, 45, 46, 47, 48, 49, 50, 51, 52, 53, 54, 55, 56, 57, 58, 59, 60, 61, 62, 63, 64, 65, 66, 67, 68, 69, 70, 71, 72, 73, 74, 75, 76, 77, 78, 79, 80, 81, 82, 83, 84, 85, 86, 87, 88, 89, 90, 91, 92, 93, 94, 95, 100, 101, 102, 103, 104, 105, 106, 107, 108, 109, 110, 111, 112, 113, 114, 115, 116, 117, 118, 119, 120, 121, 122, 123, 124, 125, 126, 127, 128, 129, 130, 131, 132, 133, 134, 135, 136, 137, 138, 139, 140, 141, 142, 143, 144, 145, 146, 147, 148, 149, 150, 151, 152, 153] (by decide +kernel) (by decide +kernel)
set_option maxHeartbeats 4000000 in
set_option maxRecDepth 100000 in
theorem f_X12_text (l : Launch) (dC : Nat → ClassId) (dI : Nat → Nat → Nat) (sz : Nat) (sk sv : Nat → Nat) (s2 tz : Nat) (r : Nat → Nat) (kU : ClassId) (kL : ClassId) (p0 : Int32) : Met l yX12_text vs_f_X12_text ({ frames := 8, cells := 0, slots := 0, locals := 175 }) (va_Pc [.ref (r 100), .int p0] (cWx dC dI [((r 100), .inr (12, mF r 0 0 0 0 0 0 0 0 0 0 0 0 0 (-1) 1)), ((r 18), .inl (kU, 2, .inl (fun _ => 0))), ((r 24), .inl (kL, 5, .inl (fun _ => 0)))] [(kU, .int), (kL, .int)] sz sk sv s2 tz)) (va_Qi (fun (r : Int32) (_ : Unit) => r = (-1)) (fun (_ : Unit) (t : State) => True) (va_A [((r 100), .inr (12, mF r 0 0 0 0 0 0 0 0 0 0 0 0 0 (-1) 1)), ((r 18), .inl (kU, 2, .inl (fun _ => 0))), ((r 24), .inl (kL, 5, .inl (fun _ => 0)))] sz)) 0 0 (va_A [((r 100), .inr (12, mF r 0 0 0 0 0 0 0 0 0 0 0 0 0 (-1) 1)), ((r 18), .inl (kU, 2, .inl (fun _ => 0))), ((r 24), .inl (kL, 5, .inl (fun _ => 0)))] sz) := by
  refine Met.ofW (cc := cX12_text) (maxL := 4) (ret := (some .int)) (by decide) rfl ?_
  intro p e s m args below meth c s₁ B hml hv
  obtain ⟨rfl, ⟨hsz, hP, hK, hD0, hG⟩, hE⟩ := hv
  have hx := B.exec
  have hb := B.bytes
  have hr := B.returns
  have hts := atoms_spec (ws := vs_f_X12_text) B.pre
  have hown : s.vm.findClass RX12 = some m.cls := findClass_of_methodNamed B.named
  have hlocks := B.notSynchronized
  have hiX12 : ∀ w ∈ u_ws RX12 TX12 54, w ∈ vs_f_X12_text := vs_f_X12_text_uX12
  subst hsz
  have hD := hD0.self (sz := s.heap.size)
  generalize hAe : va_A [((r 100), .inr (12, mF r 0 0 0 0 0 0 0 0 0 0 0 0 0 (-1) 1)), ((r 18), .inl (kU, 2, .inl (fun _ => 0))), ((r 24), .inl (kL, 5, .inl (fun _ => 0)))] s.heap.size = A at hD hE ⊢
  have hA : ∀ q : Nat, s.heap.size ≤ q → A q := fun q h => by rw [← hAe]; exact Or.inr h
  have hS : va_S A s.heap s.heap [] := va_S.rf
  have hP : va_P (dC, dI) vwCl [((r 100), .inr (12, mF r 0 0 0 0 0 0 0 0 0 0 0 0 0 (-1) 1)), ((r 18), .inl (kU, 2, .inl (fun _ => 0))), ((r 24), .inl (kL, 5, .inl (fun _ => 0)))] s.heap := hP
  have hl := lv_entry ([.ref (r 100), .int p0]) (n := 4) (Nat.le_of_ble_eq_true rfl)
  rw [lg_entry_eq]
  generalize (lg_sl ([.ref (r 100), .int p0]) ++ List.replicate (4 - (lg_sl ([.ref (r 100), .int p0])).length) Slot.unset).toArray = ls at hl ⊢
  have hl : lv_has ls 4 [(0, .ref (r 100)), (1, .int p0)] := hl
  refine lv_aload_n hx hb dX12_text_0 rfl (lv_at hl 0 rfl) ?_
  refine lv_iconst (v := 0) hx hb dX12_text_1 (by decide) ?_
  refine va_put (D := (dC, dI)) (ci := 12) (v := .int 0) (ty := .int) (C := RX12) (T := TX12) (N := 54) hx hb hts hiX12 tyX12 tyX12_ok nmX12 hown hK hP hD hS 0 rfl rfl 0 (by decide) (hts (.fieldLink RX12 90 "WallChapelsModel" "thrown" "I") (by decide +kernel)) (fun _ h9 => h9) rfl (by decide +kernel) rfl rfl (Nat.le_of_ble_eq_true rfl) dX12_text_2 (fun H locs hP hD hS => ?_)
  have hP : va_P (dC, dI) vwCl [((r 100), .inr (12, mF r 0 0 0 0 0 0 0 0 0 0 0 0 0 (-1) 1)), ((r 18), .inl (kU, 2, .inl (fun _ => 0))), ((r 24), .inl (kL, 5, .inl (fun _ => 0)))] H := hP
  have hD : va_D A [((r 100), .inr (12, mF r 0 0 0 0 0 0 0 0 0 0 0 0 0 (-1) 1)), ((r 18), .inl (kU, 2, .inl (fun _ => 0))), ((r 24), .inl (kL, 5, .inl (fun _ => 0)))] := hD
  refine lv_iload_n hx hb dX12_text_5 rfl (lv_at hl 1 rfl) ?_
  refine lv_i2l (v := p0.toInt64) hx hb dX12_text_6 rfl ?_
  refine lv_lconst (v := 0) hx hb dX12_text_7 rfl ?_
  refine lv_ldc2 hx hb hown (hts (.constantLong RX12 261 (2)) (by decide +kernel)) dX12_text_8 ?_
  have hPc := hP.sub (ws' := []) [] rfl
  have hDc := hD.sub (ws' := []) [] (by decide) rfl
  have hKc := hK.sub (tys' := []) [] rfl
  have hFc := va_free (wc := []) hD hS hA [] rfl
  refine va_calli (va_runS (As := [.long (p0.toInt64), .long 0, .long 2]) (rest := []) ⟨hx, hb, hml, hown, hts⟩ (f_X12_isIn l dC dI H.size p0 0 2 0 2 (by decide) (by decide)) (va_cwS 3 hts g_f_X12_text_f_X12_isIn rfl rfl rfl (by decide +kernel) ⟨Nat.le_of_ble_eq_true rfl, Nat.le_of_ble_eq_true rfl⟩) ⟨cW_blind, fun U hU hW => ⟨rfl, cW_use hU hW hPc hKc hDc hG⟩⟩ rfl rfl hl.1 rfl (lv_room (Nat.le_of_ble_eq_true rfl)) dX12_text_11 ⟨Nat.le_of_ble_eq_true rfl, Nat.le_of_ble_eq_true rfl⟩) hS (fun q _ h => hFc q h) hFc (fun r_1 u t H1 locs ht hvm hw hB hz1 hk1 hS => ?_)
  obtain ⟨hP, hD⟩ := va_join (wr := [((r 100), .inr (12, mF r 0 0 0 0 0 0 0 0 0 0 0 0 0 (-1) 1)), ((r 18), .inl (kU, 2, .inl (fun _ => 0))), ((r 24), .inl (kL, 5, .inl (fun _ => 0)))]) (w1 := []) hP hD [] [0, 1, 2] rfl rfl (by decide) (by decide) hk1 hFc (va_P_nil H1) va_D_nil
  generalize H1 = H at hP hS ⊢
  have hP : va_P (dC, dI) vwCl [((r 100), .inr (12, mF r 0 0 0 0 0 0 0 0 0 0 0 0 0 (-1) 1)), ((r 18), .inl (kU, 2, .inl (fun _ => 0))), ((r 24), .inl (kL, 5, .inl (fun _ => 0)))] H := hP
  have hD : va_D A [((r 100), .inr (12, mF r 0 0 0 0 0 0 0 0 0 0 0 0 0 (-1) 1)), ((r 18), .inl (kU, 2, .inl (fun _ => 0))), ((r 24), .inl (kL, 5, .inl (fun _ => 0)))] := hD
  refine W.widen (k := 0) (n := 0) (Nat.le_of_ble_eq_true rfl) (Nat.le_of_ble_eq_true rfl) ?_
  by_cases c_2 : (p0 < 0 ∨ 2 < p0)
  · rw [if_pos c_2] at hw
    obtain rfl : r_1 = 0 := hw
    refine lv_if_eq (tgt := 52) hx hb dX12_text_14 (by decide) (fun c_3 => ?_) (fun c_3 => absurd (by decide) c_3)
    refine lv_iconst (v := (-1)) hx hb dX12_text_52 (by decide) ?_
    exact W.iret (v := (-1)) hx hb hr (fun t ht hW => ⟨⟨(-1), (), rfl, rfl, trivial⟩, hS.F ht⟩) hS.2.2 dX12_text_53
  · rw [if_neg c_2] at hw
    obtain rfl : r_1 = 1 := hw
    refine lv_if_eq (tgt := 52) hx hb dX12_text_14 (by decide) (fun c_4 => absurd c_4 (by decide)) (fun c_4 => ?_)
    refine lv_iload_n hx hb dX12_text_17 rfl (lv_at hl 1 rfl) ?_
    refine lv_iconst (v := 1) hx hb dX12_text_18 (by decide) ?_
    refine lv_icmp_ne (tgt := 30) hx hb dX12_text_19 (by decide) (fun c_5 => ?_) (fun c_5 => ?_)
    · refine lv_iload_n hx hb dX12_text_30 rfl (lv_at hl 1 rfl) ?_
      refine lv_iconst (v := 2) hx hb dX12_text_31 (by decide) ?_
      refine lv_icmp_ne (tgt := 43) hx hb dX12_text_32 (by decide) (fun c_6 => ?_) (fun c_6 => ?_)
      · refine lv_aload_n hx hb dX12_text_43 rfl (lv_at hl 0 rfl) ?_
        refine lv_iload_n hx hb dX12_text_44 rfl (lv_at hl 1 rfl) ?_
        have hPc := hP.sub (ws' := [((r 100), .inr (12, mF r 0 0 0 0 0 0 0 0 0 0 0 0 0 (-1) 1)), ((r 18), .inl (kU, 2, .inl (fun _ => 0))), ((r 24), .inl (kL, 5, .inl (fun _ => 0)))]) [0, 1, 2] rfl
        have hDc := hD.sub (ws' := [((r 100), .inr (12, mF r 0 0 0 0 0 0 0 0 0 0 0 0 0 (-1) 1)), ((r 18), .inl (kU, 2, .inl (fun _ => 0))), ((r 24), .inl (kL, 5, .inl (fun _ => 0)))]) [0, 1, 2] (by decide) rfl
        have hKc := hK.sub (tys' := [(kU, .int), (kL, .int)]) [0, 1] rfl
        have hFc := va_free (wc := [((r 100), .inr (12, mF r 0 0 0 0 0 0 0 0 0 0 0 0 0 (-1) 1)), ((r 18), .inl (kU, 2, .inl (fun _ => 0))), ((r 24), .inl (kL, 5, .inl (fun _ => 0)))]) hD hS hA [0, 1, 2] rfl
        refine va_calli (va_runV (As := [.int p0]) (rest := []) ⟨hx, hb, hml, hown, hts⟩ (f_X12_fault l dC dI H.size sk sv s2 tz r kU kL p0) (cwV 1 hts g_f_X12_text_f_X12_fault rfl rfl rfl (by decide +kernel) ⟨Nat.le_of_ble_eq_true rfl, Nat.le_of_ble_eq_true rfl⟩) ⟨cW_blindx, va_recv hKc hPc (ci := 12) (q0 := 0) rfl rfl, fun U hU hW => ⟨rfl, cW_usex hU hW hPc hKc hDc hG hS hFc hE⟩⟩ rfl rfl hl.1 rfl (lv_room (Nat.le_of_ble_eq_true rfl)) dX12_text_45 ⟨Nat.le_of_ble_eq_true rfl, Nat.le_of_ble_eq_true rfl⟩) hS (fun q _ h => hFc q h) hFc (fun r_7 u t H1 locs ht hvm hw hB hz1 hk1 hS => ?_)
        obtain ⟨hP, hD⟩ := va_join (wr := []) (w1 := []) hP hD [0, 1, 2] [] rfl rfl (by decide) (by decide) hk1 hFc (va_P_nil H1) va_D_nil
        generalize H1 = H at hP hS ⊢
        have hP : va_P (dC, dI) vwCl [] H := hP
        have hD : va_D A [] := hD
        refine W.widen (k := 0) (n := 0) (Nat.le_of_ble_eq_true rfl) (Nat.le_of_ble_eq_true rfl) ?_
        have hne_8 : ¬ r_7 = -1 := by rw [hw]; split <;> decide
        refine lv_iconst (v := (-1)) hx hb dX12_text_48 (by decide) ?_
        refine lv_icmp_eq (tgt := 54) hx hb dX12_text_49 (by decide) (fun c_9 => by have z0 := hne_8; have z1 := c_9; simp only [i_lt, i_le, i_eq, i_zm1000000, i_zm30, i_zm20, i_zm2, i_zm1, i_z0, i_z1, i_z2, i_z3, i_z4, i_z5, i_z6, i_z7, i_z8, i_z9, i_z10, i_z11, i_z12, i_z13, i_z14, i_z15, i_z16, i_z17, i_z18, i_z19, i_z20, i_z21, i_z22, i_z23, i_z24, i_z30, i_z32, i_z40, i_z41, i_z50, i_z58, i_z59, i_z60, i_z63, i_z99, i_z100, i_z240, i_z255, i_z999] at z0 z1; omega) (fun c_9 => ?_)
        refine lv_iconst (v := (-1)) hx hb dX12_text_52 (by decide) ?_
        exact W.iret (v := (-1)) hx hb hr (fun t ht hW => ⟨⟨(-1), (), rfl, rfl, trivial⟩, hS.F ht⟩) hS.2.2 dX12_text_53
      · refine lv_aload_n hx hb dX12_text_35 rfl (lv_at hl 0 rfl) ?_
        refine va_get (D := (dC, dI)) (ci := 12) (v := .int 0) (C := RX12) (T := TX12) (N := 54) hx hb hts hiX12 hown hK hP 0 rfl rfl 30 (by decide) (hts (.fieldLink RX12 275 "WallChapelsModel" "walks" "I") (by decide +kernel)) (fun _ h9 => h9) rfl dX12_text_36 ?_
        refine lv_iconst (v := 4) hx hb dX12_text_39 (by decide) ?_
        refine lv_icmp_eq (tgt := 52) hx hb dX12_text_40 (by decide) (fun c_10 => absurd c_10 (by decide)) (fun c_10 => ?_)
        refine lv_aload_n hx hb dX12_text_43 rfl (lv_at hl 0 rfl) ?_
        refine lv_iload_n hx hb dX12_text_44 rfl (lv_at hl 1 rfl) ?_
        have hPc := hP.sub (ws' := [((r 100), .inr (12, mF r 0 0 0 0 0 0 0 0 0 0 0 0 0 (-1) 1)), ((r 18), .inl (kU, 2, .inl (fun _ => 0))), ((r 24), .inl (kL, 5, .inl (fun _ => 0)))]) [0, 1, 2] rfl
        have hDc := hD.sub (ws' := [((r 100), .inr (12, mF r 0 0 0 0 0 0 0 0 0 0 0 0 0 (-1) 1)), ((r 18), .inl (kU, 2, .inl (fun _ => 0))), ((r 24), .inl (kL, 5, .inl (fun _ => 0)))]) [0, 1, 2] (by decide) rfl
        have hKc := hK.sub (tys' := [(kU, .int), (kL, .int)]) [0, 1] rfl
        have hFc := va_free (wc := [((r 100), .inr (12, mF r 0 0 0 0 0 0 0 0 0 0 0 0 0 (-1) 1)), ((r 18), .inl (kU, 2, .inl (fun _ => 0))), ((r 24), .inl (kL, 5, .inl (fun _ => 0)))]) hD hS hA [0, 1, 2] rfl
        refine va_calli (va_runV (As := [.int p0]) (rest := []) ⟨hx, hb, hml, hown, hts⟩ (f_X12_fault l dC dI H.size sk sv s2 tz r kU kL p0) (cwV 1 hts g_f_X12_text_f_X12_fault rfl rfl rfl (by decide +kernel) ⟨Nat.le_of_ble_eq_true rfl, Nat.le_of_ble_eq_true rfl⟩) ⟨cW_blindx, va_recv hKc hPc (ci := 12) (q0 := 0) rfl rfl, fun U hU hW => ⟨rfl, cW_usex hU hW hPc hKc hDc hG hS hFc hE⟩⟩ rfl rfl hl.1 rfl (lv_room (Nat.le_of_ble_eq_true rfl)) dX12_text_45 ⟨Nat.le_of_ble_eq_true rfl, Nat.le_of_ble_eq_true rfl⟩) hS (fun q _ h => hFc q h) hFc (fun r_11 u t H1 locs ht hvm hw hB hz1 hk1 hS => ?_)
        obtain ⟨hP, hD⟩ := va_join (wr := []) (w1 := []) hP hD [0, 1, 2] [] rfl rfl (by decide) (by decide) hk1 hFc (va_P_nil H1) va_D_nil
        generalize H1 = H at hP hS ⊢
        have hP : va_P (dC, dI) vwCl [] H := hP
        have hD : va_D A [] := hD
        refine W.widen (k := 0) (n := 0) (Nat.le_of_ble_eq_true rfl) (Nat.le_of_ble_eq_true rfl) ?_
        have hne_12 : ¬ r_11 = -1 := by rw [hw]; split <;> decide
        refine lv_iconst (v := (-1)) hx hb dX12_text_48 (by decide) ?_
        refine lv_icmp_eq (tgt := 54) hx hb dX12_text_49 (by decide) (fun c_13 => by have z0 := hne_12; have z1 := c_13; simp only [i_lt, i_le, i_eq, i_zm1000000, i_zm30, i_zm20, i_zm2, i_zm1, i_z0, i_z1, i_z2, i_z3, i_z4, i_z5, i_z6, i_z7, i_z8, i_z9, i_z10, i_z11, i_z12, i_z13, i_z14, i_z15, i_z16, i_z17, i_z18, i_z19, i_z20, i_z21, i_z22, i_z23, i_z24, i_z30, i_z32, i_z40, i_z41, i_z50, i_z58, i_z59, i_z60, i_z63, i_z99, i_z100, i_z240, i_z255, i_z999] at z0 z1; omega) (fun c_13 => ?_)
        refine lv_iconst (v := (-1)) hx hb dX12_text_52 (by decide) ?_
        exact W.iret (v := (-1)) hx hb hr (fun t ht hW => ⟨⟨(-1), (), rfl, rfl, trivial⟩, hS.F ht⟩) hS.2.2 dX12_text_53
    · refine lv_aload_n hx hb dX12_text_22 rfl (lv_at hl 0 rfl) ?_
      refine va_get (D := (dC, dI)) (ci := 12) (v := .int 0) (C := RX12) (T := TX12) (N := 54) hx hb hts hiX12 hown hK hP 0 rfl rfl 7 (by decide) (hts (.fieldLink RX12 272 "WallChapelsModel" "lawMany" "I") (by decide +kernel)) (fun _ h9 => h9) rfl dX12_text_23 ?_
      refine lv_iconst (v := 4) hx hb dX12_text_26 (by decide) ?_
      refine lv_icmp_eq (tgt := 52) hx hb dX12_text_27 (by decide) (fun c_14 => absurd c_14 (by decide)) (fun c_14 => ?_)
      refine lv_iload_n hx hb dX12_text_30 rfl (lv_at hl 1 rfl) ?_
      refine lv_iconst (v := 2) hx hb dX12_text_31 (by decide) ?_
      refine lv_icmp_ne (tgt := 43) hx hb dX12_text_32 (by decide) (fun c_15 => ?_) (fun c_15 => by have z0 := (not_or.mp c_2).1; have z1 := (not_or.mp c_2).2; have z2 := c_5; have z3 := c_15; simp only [i_lt, i_le, i_eq, i_zm1000000, i_zm30, i_zm20, i_zm2, i_zm1, i_z0, i_z1, i_z2, i_z3, i_z4, i_z5, i_z6, i_z7, i_z8, i_z9, i_z10, i_z11, i_z12, i_z13, i_z14, i_z15, i_z16, i_z17, i_z18, i_z19, i_z20, i_z21, i_z22, i_z23, i_z24, i_z30, i_z32, i_z40, i_z41, i_z50, i_z58, i_z59, i_z60, i_z63, i_z99, i_z100, i_z240, i_z255, i_z999] at z0 z1 z2 z3; omega)
      refine lv_aload_n hx hb dX12_text_43 rfl (lv_at hl 0 rfl) ?_
      refine lv_iload_n hx hb dX12_text_44 rfl (lv_at hl 1 rfl) ?_
      have hPc := hP.sub (ws' := [((r 100), .inr (12, mF r 0 0 0 0 0 0 0 0 0 0 0 0 0 (-1) 1)), ((r 18), .inl (kU, 2, .inl (fun _ => 0))), ((r 24), .inl (kL, 5, .inl (fun _ => 0)))]) [0, 1, 2] rfl
      have hDc := hD.sub (ws' := [((r 100), .inr (12, mF r 0 0 0 0 0 0 0 0 0 0 0 0 0 (-1) 1)), ((r 18), .inl (kU, 2, .inl (fun _ => 0))), ((r 24), .inl (kL, 5, .inl (fun _ => 0)))]) [0, 1, 2] (by decide) rfl
      have hKc := hK.sub (tys' := [(kU, .int), (kL, .int)]) [0, 1] rfl
      have hFc := va_free (wc := [((r 100), .inr (12, mF r 0 0 0 0 0 0 0 0 0 0 0 0 0 (-1) 1)), ((r 18), .inl (kU, 2, .inl (fun _ => 0))), ((r 24), .inl (kL, 5, .inl (fun _ => 0)))]) hD hS hA [0, 1, 2] rfl
      refine va_calli (va_runV (As := [.int p0]) (rest := []) ⟨hx, hb, hml, hown, hts⟩ (f_X12_fault l dC dI H.size sk sv s2 tz r kU kL p0) (cwV 1 hts g_f_X12_text_f_X12_fault rfl rfl rfl (by decide +kernel) ⟨Nat.le_of_ble_eq_true rfl, Nat.le_of_ble_eq_true rfl⟩) ⟨cW_blindx, va_recv hKc hPc (ci := 12) (q0 := 0) rfl rfl, fun U hU hW => ⟨rfl, cW_usex hU hW hPc hKc hDc hG hS hFc hE⟩⟩ rfl rfl hl.1 rfl (lv_room (Nat.le_of_ble_eq_true rfl)) dX12_text_45 ⟨Nat.le_of_ble_eq_true rfl, Nat.le_of_ble_eq_true rfl⟩) hS (fun q _ h => hFc q h) hFc (fun r_16 u t H1 locs ht hvm hw hB hz1 hk1 hS => ?_)
      obtain ⟨hP, hD⟩ := va_join (wr := []) (w1 := []) hP hD [0, 1, 2] [] rfl rfl (by decide) (by decide) hk1 hFc (va_P_nil H1) va_D_nil
      generalize H1 = H at hP hS ⊢
      have hP : va_P (dC, dI) vwCl [] H := hP
      have hD : va_D A [] := hD
      refine W.widen (k := 0) (n := 0) (Nat.le_of_ble_eq_true rfl) (Nat.le_of_ble_eq_true rfl) ?_
      have hne_17 : ¬ r_16 = -1 := by rw [hw]; split <;> decide
      refine lv_iconst (v := (-1)) hx hb dX12_text_48 (by decide) ?_
      refine lv_icmp_eq (tgt := 54) hx hb dX12_text_49 (by decide) (fun c_18 => by have z0 := hne_17; have z1 := c_18; simp only [i_lt, i_le, i_eq, i_zm1000000, i_zm30, i_zm20, i_zm2, i_zm1, i_z0, i_z1, i_z2, i_z3, i_z4, i_z5, i_z6, i_z7, i_z8, i_z9, i_z10, i_z11, i_z12, i_z13, i_z14, i_z15, i_z16, i_z17, i_z18, i_z19, i_z20, i_z21, i_z22, i_z23, i_z24, i_z30, i_z32, i_z40, i_z41, i_z50, i_z58, i_z59, i_z60, i_z63, i_z99, i_z100, i_z240, i_z255, i_z999] at z0 z1; omega) (fun c_18 => ?_)
      refine lv_iconst (v := (-1)) hx hb dX12_text_52 (by decide) ?_
      exact W.iret (v := (-1)) hx hb hr (fun t ht hW => ⟨⟨(-1), (), rfl, rfl, trivial⟩, hS.F ht⟩) hS.2.2 dX12_text_53
