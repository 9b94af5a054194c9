set_option maxRecDepth 20000 in
theorem dX0_takeBack_0 : decode cX0_takeBack 0 = .ok (.aload_n 0, 1) := by decide +kernel
set_option maxRecDepth 20000 in
theorem dX0_takeBack_1 : decode cX0_takeBack 1 = .ok (.getfield 26, 3) := by decide +kernel
set_option maxRecDepth 20000 in
theorem dX0_takeBack_4 : decode cX0_takeBack 4 = .ok (.ifCond .ne 5, 3) := by decide +kernel
set_option maxRecDepth 20000 in
theorem dX0_takeBack_7 : decode cX0_takeBack 7 = .ok (.iconst 0, 1) := by decide +kernel
set_option maxRecDepth 20000 in
theorem dX0_takeBack_8 : decode cX0_takeBack 8 = .ok (.ireturn, 1) := by decide +kernel
set_option maxRecDepth 20000 in
theorem dX11_undo_0 : decode cX11_undo 0 = .ok (.aload_n 0, 1) := by decide +kernel
set_option maxRecDepth 20000 in
theorem dX11_undo_1 : decode cX11_undo 1 = .ok (.getfield 85, 3) := by decide +kernel
set_option maxRecDepth 20000 in
theorem dX11_undo_4 : decode cX11_undo 4 = .ok (.aload_n 0, 1) := by decide +kernel
set_option maxRecDepth 20000 in
theorem dX11_undo_5 : decode cX11_undo 5 = .ok (.getfield 75, 3) := by decide +kernel
set_option maxRecDepth 20000 in
theorem dX11_undo_8 : decode cX11_undo 8 = .ok (.invokevirtual 281, 3) := by decide +kernel
set_option maxRecDepth 20000 in
theorem dX11_undo_11 : decode cX11_undo 11 = .ok (.ifCond .ne 5, 3) := by decide +kernel
set_option maxRecDepth 20000 in
theorem dX11_undo_14 : decode cX11_undo 14 = .ok (.iconst (-1), 1) := by decide +kernel
set_option maxRecDepth 20000 in
theorem dX11_undo_15 : decode cX11_undo 15 = .ok (.ireturn, 1) := by decide +kernel
set_option maxRecDepth 20000 in
theorem dX5_begin_0 : decode cX5_begin 0 = .ok (.aload_n 0, 1) := by decide +kernel
set_option maxRecDepth 20000 in
theorem dX5_begin_1 : decode cX5_begin 1 = .ok (.iconst 0, 1) := by decide +kernel
set_option maxRecDepth 20000 in
theorem dX5_begin_2 : decode cX5_begin 2 = .ok (.putfield 26, 3) := by decide +kernel
set_option maxRecDepth 20000 in
theorem dX5_begin_5 : decode cX5_begin 5 = .ok (.aload_n 0, 1) := by decide +kernel
set_option maxRecDepth 20000 in
theorem dX5_begin_6 : decode cX5_begin 6 = .ok (.iconst 0, 1) := by decide +kernel
set_option maxRecDepth 20000 in
theorem dX5_begin_7 : decode cX5_begin 7 = .ok (.putfield 30, 3) := by decide +kernel
set_option maxRecDepth 20000 in
theorem dX5_begin_10 : decode cX5_begin 10 = .ok (.aload_n 0, 1) := by decide +kernel
set_option maxRecDepth 20000 in
theorem dX5_begin_11 : decode cX5_begin 11 = .ok (.iconst 0, 1) := by decide +kernel
set_option maxRecDepth 20000 in
theorem dX5_begin_12 : decode cX5_begin 12 = .ok (.putfield 33, 3) := by decide +kernel
set_option maxRecDepth 20000 in
theorem dX5_begin_15 : decode cX5_begin 15 = .ok (.aload_n 0, 1) := by decide +kernel
set_option maxRecDepth 20000 in
theorem dX5_begin_16 : decode cX5_begin 16 = .ok (.iconst 0, 1) := by decide +kernel
set_option maxRecDepth 20000 in
theorem dX5_begin_17 : decode cX5_begin 17 = .ok (.putfield 75, 3) := by decide +kernel
set_option maxRecDepth 20000 in
theorem dX5_begin_20 : decode cX5_begin 20 = .ok (.getstatic 79, 3) := by decide +kernel
set_option maxRecDepth 20000 in
theorem dX5_begin_23 : decode cX5_begin 23 = .ok (.iconst 0, 1) := by decide +kernel
set_option maxRecDepth 20000 in
theorem dX5_begin_24 : decode cX5_begin 24 = .ok (.aload_n 0, 1) := by decide +kernel
set_option maxRecDepth 20000 in
theorem dX5_begin_25 : decode cX5_begin 25 = .ok (.getfield 9, 3) := by decide +kernel
set_option maxRecDepth 20000 in
theorem dX5_begin_28 : decode cX5_begin 28 = .ok (.iconst 0, 1) := by decide +kernel
set_option maxRecDepth 20000 in
theorem dX5_begin_29 : decode cX5_begin 29 = .ok (.iconst 2, 1) := by decide +kernel
set_option maxRecDepth 20000 in
theorem dX5_begin_30 : decode cX5_begin 30 = .ok (.invokestatic 36, 3) := by decide +kernel
set_option maxRecDepth 20000 in
theorem dX5_begin_33 : decode cX5_begin 33 = .ok (.return_, 1) := by decide +kernel
set_option maxRecDepth 20000 in
theorem dX8_rewind_0 : decode cX8_rewind 0 = .ok (.aload_n 0, 1) := by decide +kernel
set_option maxRecDepth 20000 in
theorem dX8_rewind_1 : decode cX8_rewind 1 = .ok (.iconst 0, 1) := by decide +kernel
set_option maxRecDepth 20000 in
theorem dX8_rewind_2 : decode cX8_rewind 2 = .ok (.putfield 19, 3) := by decide +kernel
set_option maxRecDepth 20000 in
theorem dX8_rewind_5 : decode cX8_rewind 5 = .ok (.aload_n 0, 1) := by decide +kernel
set_option maxRecDepth 20000 in
theorem dX8_rewind_6 : decode cX8_rewind 6 = .ok (.iconst (-1), 1) := by decide +kernel
set_option maxRecDepth 20000 in
theorem dX8_rewind_7 : decode cX8_rewind 7 = .ok (.putfield 22, 3) := by decide +kernel
set_option maxRecDepth 20000 in
theorem dX8_rewind_10 : decode cX8_rewind 10 = .ok (.return_, 1) := by decide +kernel
set_option maxRecDepth 20000 in
theorem dX8_byteAtHead_0 : decode cX8_byteAtHead 0 = .ok (.aload_n 0, 1) := by decide +kernel
set_option maxRecDepth 20000 in
theorem dX8_byteAtHead_1 : decode cX8_byteAtHead 1 = .ok (.getfield 19, 3) := by decide +kernel
set_option maxRecDepth 20000 in
theorem dX8_byteAtHead_4 : decode cX8_byteAtHead 4 = .ok (.aload_n 0, 1) := by decide +kernel
set_option maxRecDepth 20000 in
theorem dX8_byteAtHead_5 : decode cX8_byteAtHead 5 = .ok (.getfield 15, 3) := by decide +kernel
set_option maxRecDepth 20000 in
theorem dX8_byteAtHead_8 : decode cX8_byteAtHead 8 = .ok (.if_icmp .ge 25, 3) := by decide +kernel
set_option maxRecDepth 20000 in
theorem dX8_byteAtHead_33 : decode cX8_byteAtHead 33 = .ok (.iconst (-1), 1) := by decide +kernel
set_option maxRecDepth 20000 in
theorem dX8_byteAtHead_34 : decode cX8_byteAtHead 34 = .ok (.ireturn, 1) := by decide +kernel
set_option maxRecDepth 20000 in
theorem dX8_ahead_0 : decode cX8_ahead 0 = .ok (.aload_n 0, 1) := by decide +kernel
set_option maxRecDepth 20000 in
theorem dX8_ahead_1 : decode cX8_ahead 1 = .ok (.getfield 19, 3) := by decide +kernel
set_option maxRecDepth 20000 in
theorem dX8_ahead_4 : decode cX8_ahead 4 = .ok (.aload_n 0, 1) := by decide +kernel
set_option maxRecDepth 20000 in
theorem dX8_ahead_5 : decode cX8_ahead 5 = .ok (.getfield 15, 3) := by decide +kernel
set_option maxRecDepth 20000 in
theorem dX8_ahead_8 : decode cX8_ahead 8 = .ok (.if_icmp .ge 25, 3) := by decide +kernel
set_option maxRecDepth 20000 in
theorem dX8_ahead_33 : decode cX8_ahead 33 = .ok (.aload_n 0, 1) := by decide +kernel
set_option maxRecDepth 20000 in
theorem dX8_ahead_34 : decode cX8_ahead 34 = .ok (.invokevirtual 25, 3) := by decide +kernel
set_option maxRecDepth 20000 in
theorem dX8_ahead_37 : decode cX8_ahead 37 = .ok (.ireturn, 1) := by decide +kernel
set_option maxRecDepth 20000 in
theorem dX8_refuseHere_0 : decode cX8_refuseHere 0 = .ok (.aload_n 0, 1) := by decide +kernel
set_option maxRecDepth 20000 in
theorem dX8_refuseHere_1 : decode cX8_refuseHere 1 = .ok (.aload_n 0, 1) := by decide +kernel
set_option maxRecDepth 20000 in
theorem dX8_refuseHere_2 : decode cX8_refuseHere 2 = .ok (.getfield 19, 3) := by decide +kernel
set_option maxRecDepth 20000 in
theorem dX8_refuseHere_5 : decode cX8_refuseHere 5 = .ok (.putfield 22, 3) := by decide +kernel
set_option maxRecDepth 20000 in
theorem dX8_refuseHere_8 : decode cX8_refuseHere 8 = .ok (.iconst 0, 1) := by decide +kernel
set_option maxRecDepth 20000 in
theorem dX8_refuseHere_9 : decode cX8_refuseHere 9 = .ok (.ireturn, 1) := by decide +kernel
set_option maxRecDepth 20000 in
theorem dX5_readClause_0 : decode cX5_readClause 0 = .ok (.aload_n 1, 1) := by decide +kernel
set_option maxRecDepth 20000 in
theorem dX5_readClause_1 : decode cX5_readClause 1 = .ok (.invokevirtual 57, 3) := by decide +kernel
set_option maxRecDepth 20000 in
theorem dX5_readClause_4 : decode cX5_readClause 4 = .ok (.istore_n 2, 1) := by decide +kernel
set_option maxRecDepth 20000 in
theorem dX5_readClause_5 : decode cX5_readClause 5 = .ok (.iload_n 2, 1) := by decide +kernel
set_option maxRecDepth 20000 in
theorem dX5_readClause_6 : decode cX5_readClause 6 = .ok (.bipush 115, 2) := by decide +kernel
set_option maxRecDepth 20000 in
theorem dX5_readClause_8 : decode cX5_readClause 8 = .ok (.if_icmp .ne 37, 3) := by decide +kernel
set_option maxRecDepth 20000 in
theorem dX5_readClause_45 : decode cX5_readClause 45 = .ok (.iload_n 2, 1) := by decide +kernel
set_option maxRecDepth 20000 in
theorem dX5_readClause_46 : decode cX5_readClause 46 = .ok (.bipush 101, 2) := by decide +kernel
set_option maxRecDepth 20000 in
theorem dX5_readClause_48 : decode cX5_readClause 48 = .ok (.if_icmp .ne 61, 3) := by decide +kernel
set_option maxRecDepth 20000 in
theorem dX5_readClause_109 : decode cX5_readClause 109 = .ok (.iload_n 2, 1) := by decide +kernel
set_option maxRecDepth 20000 in
theorem dX5_readClause_110 : decode cX5_readClause 110 = .ok (.bipush 112, 2) := by decide +kernel
set_option maxRecDepth 20000 in
theorem dX5_readClause_112 : decode cX5_readClause 112 = .ok (.if_icmp .ne 60, 3) := by decide +kernel
set_option maxRecDepth 20000 in
theorem dX5_readClause_172 : decode cX5_readClause 172 = .ok (.aload_n 1, 1) := by decide +kernel
set_option maxRecDepth 20000 in
theorem dX5_readClause_173 : decode cX5_readClause 173 = .ok (.invokevirtual 123, 3) := by decide +kernel
set_option maxRecDepth 20000 in
theorem dX5_readClause_176 : decode cX5_readClause 176 = .ok (.ireturn, 1) := by decide +kernel
set_option maxRecDepth 20000 in
theorem dX5_readFrom_0 : decode cX5_readFrom 0 = .ok (.aload_n 0, 1) := by decide +kernel
set_option maxRecDepth 20000 in
theorem dX5_readFrom_1 : decode cX5_readFrom 1 = .ok (.invokevirtual 42, 3) := by decide +kernel
set_option maxRecDepth 20000 in
theorem dX5_readFrom_4 : decode cX5_readFrom 4 = .ok (.aload_n 1, 1) := by decide +kernel
set_option maxRecDepth 20000 in
theorem dX5_readFrom_5 : decode cX5_readFrom 5 = .ok (.invokevirtual 45, 3) := by decide +kernel
set_option maxRecDepth 20000 in
theorem dX5_readFrom_8 : decode cX5_readFrom 8 = .ok (.iconst 0, 1) := by decide +kernel
set_option maxRecDepth 20000 in
theorem dX5_readFrom_9 : decode cX5_readFrom 9 = .ok (.istore_n 2, 1) := by decide +kernel
set_option maxRecDepth 20000 in
theorem dX5_readFrom_10 : decode cX5_readFrom 10 = .ok (.iload_n 2, 1) := by decide +kernel
set_option maxRecDepth 20000 in
theorem dX5_readFrom_11 : decode cX5_readFrom 11 = .ok (.sipush 240, 3) := by decide +kernel
set_option maxRecDepth 20000 in
theorem dX5_readFrom_14 : decode cX5_readFrom 14 = .ok (.if_icmp .gt 47, 3) := by decide +kernel
set_option maxRecDepth 20000 in
theorem dX5_readFrom_17 : decode cX5_readFrom 17 = .ok (.aload_n 0, 1) := by decide +kernel
set_option maxRecDepth 20000 in
theorem dX5_readFrom_18 : decode cX5_readFrom 18 = .ok (.aload_n 1, 1) := by decide +kernel
set_option maxRecDepth 20000 in
theorem dX5_readFrom_19 : decode cX5_readFrom 19 = .ok (.invokevirtual 50, 3) := by decide +kernel
set_option maxRecDepth 20000 in
theorem dX5_readFrom_22 : decode cX5_readFrom 22 = .ok (.ifCond .ne 8, 3) := by decide +kernel
set_option maxRecDepth 20000 in
theorem dX5_readFrom_25 : decode cX5_readFrom 25 = .ok (.aload_n 1, 1) := by decide +kernel
set_option maxRecDepth 20000 in
theorem dX5_readFrom_26 : decode cX5_readFrom 26 = .ok (.getfield 54, 3) := by decide +kernel
set_option maxRecDepth 20000 in
theorem dX5_readFrom_29 : decode cX5_readFrom 29 = .ok (.ireturn, 1) := by decide +kernel
set_option maxRecDepth 20000 in
theorem dX8_take_0 : decode cX8_take 0 = .ok (.aload_n 0, 1) := by decide +kernel
set_option maxRecDepth 20000 in
theorem dX8_take_1 : decode cX8_take 1 = .ok (.invokevirtual 29, 3) := by decide +kernel
set_option maxRecDepth 20000 in
theorem dX8_take_4 : decode cX8_take 4 = .ok (.iload_n 1, 1) := by decide +kernel
set_option maxRecDepth 20000 in
theorem dX8_take_5 : decode cX8_take 5 = .ok (.if_icmp .eq 8, 3) := by decide +kernel
set_option maxRecDepth 20000 in
theorem dX8_take_8 : decode cX8_take 8 = .ok (.aload_n 0, 1) := by decide +kernel
set_option maxRecDepth 20000 in
theorem dX8_take_9 : decode cX8_take 9 = .ok (.invokevirtual 32, 3) := by decide +kernel
set_option maxRecDepth 20000 in
theorem dX8_take_12 : decode cX8_take 12 = .ok (.ireturn, 1) := by decide +kernel
set_option maxRecDepth 20000 in
theorem dX2_readClause_0 : decode cX2_readClause 0 = .ok (.aload_n 0, 1) := by decide +kernel
set_option maxRecDepth 20000 in
theorem dX2_readClause_1 : decode cX2_readClause 1 = .ok (.getfield 15, 3) := by decide +kernel
set_option maxRecDepth 20000 in
theorem dX2_readClause_4 : decode cX2_readClause 4 = .ok (.bipush 121, 2) := by decide +kernel
set_option maxRecDepth 20000 in
theorem dX2_readClause_6 : decode cX2_readClause 6 = .ok (.invokevirtual 39, 3) := by decide +kernel
set_option maxRecDepth 20000 in
theorem dX2_readClause_9 : decode cX2_readClause 9 = .ok (.ifCond .eq 15, 3) := by decide +kernel
set_option maxRecDepth 20000 in
theorem dX2_readClause_24 : decode cX2_readClause 24 = .ok (.iconst 0, 1) := by decide +kernel
set_option maxRecDepth 20000 in
theorem dX2_readClause_25 : decode cX2_readClause 25 = .ok (.ireturn, 1) := by decide +kernel
set_option maxRecDepth 20000 in
theorem dX2_readLaw_0 : decode cX2_readLaw 0 = .ok (.aload_n 0, 1) := by decide +kernel
set_option maxRecDepth 20000 in
theorem dX2_readLaw_1 : decode cX2_readLaw 1 = .ok (.iconst 0, 1) := by decide +kernel
set_option maxRecDepth 20000 in
theorem dX2_readLaw_2 : decode cX2_readLaw 2 = .ok (.putfield 19, 3) := by decide +kernel
set_option maxRecDepth 20000 in
theorem dX2_readLaw_5 : decode cX2_readLaw 5 = .ok (.aload_n 0, 1) := by decide +kernel
set_option maxRecDepth 20000 in
theorem dX2_readLaw_6 : decode cX2_readLaw 6 = .ok (.getfield 15, 3) := by decide +kernel
set_option maxRecDepth 20000 in
theorem dX2_readLaw_9 : decode cX2_readLaw 9 = .ok (.invokevirtual 23, 3) := by decide +kernel
set_option maxRecDepth 20000 in
theorem dX2_readLaw_12 : decode cX2_readLaw 12 = .ok (.iconst 0, 1) := by decide +kernel
set_option maxRecDepth 20000 in
theorem dX2_readLaw_13 : decode cX2_readLaw 13 = .ok (.istore_n 1, 1) := by decide +kernel
set_option maxRecDepth 20000 in
theorem dX2_readLaw_14 : decode cX2_readLaw 14 = .ok (.iload_n 1, 1) := by decide +kernel
set_option maxRecDepth 20000 in
theorem dX2_readLaw_15 : decode cX2_readLaw 15 = .ok (.sipush 240, 3) := by decide +kernel
set_option maxRecDepth 20000 in
theorem dX2_readLaw_18 : decode cX2_readLaw 18 = .ok (.if_icmp .gt 57, 3) := by decide +kernel
set_option maxRecDepth 20000 in
theorem dX2_readLaw_21 : decode cX2_readLaw 21 = .ok (.aload_n 0, 1) := by decide +kernel
set_option maxRecDepth 20000 in
theorem dX2_readLaw_22 : decode cX2_readLaw 22 = .ok (.invokevirtual 28, 3) := by decide +kernel
set_option maxRecDepth 20000 in
theorem dX2_readLaw_25 : decode cX2_readLaw 25 = .ok (.ifCond .ne 11, 3) := by decide +kernel
set_option maxRecDepth 20000 in
theorem dX2_readLaw_28 : decode cX2_readLaw 28 = .ok (.aload_n 0, 1) := by decide +kernel
set_option maxRecDepth 20000 in
theorem dX2_readLaw_29 : decode cX2_readLaw 29 = .ok (.getfield 15, 3) := by decide +kernel
set_option maxRecDepth 20000 in
theorem dX2_readLaw_32 : decode cX2_readLaw 32 = .ok (.getfield 32, 3) := by decide +kernel
set_option maxRecDepth 20000 in
theorem dX2_readLaw_35 : decode cX2_readLaw 35 = .ok (.ireturn, 1) := by decide +kernel
set_option maxRecDepth 20000 in
theorem dX9_readFrom_0 : decode cX9_readFrom 0 = .ok (.aload_n 1, 1) := by decide +kernel
set_option maxRecDepth 20000 in
theorem dX9_readFrom_1 : decode cX9_readFrom 1 = .ok (.invokevirtual 23, 3) := by decide +kernel
set_option maxRecDepth 20000 in
theorem dX9_readFrom_4 : decode cX9_readFrom 4 = .ok (.aload_n 0, 1) := by decide +kernel
set_option maxRecDepth 20000 in
theorem dX9_readFrom_5 : decode cX9_readFrom 5 = .ok (.iconst 0, 1) := by decide +kernel
set_option maxRecDepth 20000 in
theorem dX9_readFrom_6 : decode cX9_readFrom 6 = .ok (.putfield 28, 3) := by decide +kernel
set_option maxRecDepth 20000 in
theorem dX9_readFrom_9 : decode cX9_readFrom 9 = .ok (.aload_n 1, 1) := by decide +kernel
set_option maxRecDepth 20000 in
theorem dX9_readFrom_10 : decode cX9_readFrom 10 = .ok (.invokevirtual 32, 3) := by decide +kernel
set_option maxRecDepth 20000 in
theorem dX9_readFrom_13 : decode cX9_readFrom 13 = .ok (.istore_n 2, 1) := by decide +kernel
set_option maxRecDepth 20000 in
theorem dX9_readFrom_14 : decode cX9_readFrom 14 = .ok (.iload_n 2, 1) := by decide +kernel
set_option maxRecDepth 20000 in
theorem dX9_readFrom_15 : decode cX9_readFrom 15 = .ok (.bipush 48, 2) := by decide +kernel
set_option maxRecDepth 20000 in
theorem dX9_readFrom_17 : decode cX9_readFrom 17 = .ok (.if_icmp .lt 53, 3) := by decide +kernel
set_option maxRecDepth 20000 in
theorem dX9_readFrom_70 : decode cX9_readFrom 70 = .ok (.aload_n 0, 1) := by decide +kernel
set_option maxRecDepth 20000 in
theorem dX9_readFrom_71 : decode cX9_readFrom 71 = .ok (.getfield 28, 3) := by decide +kernel
set_option maxRecDepth 20000 in
theorem dX9_readFrom_74 : decode cX9_readFrom 74 = .ok (.ifCond .le 15, 3) := by decide +kernel
set_option maxRecDepth 20000 in
theorem dX9_readFrom_89 : decode cX9_readFrom 89 = .ok (.aload_n 1, 1) := by decide +kernel
set_option maxRecDepth 20000 in
theorem dX9_readFrom_90 : decode cX9_readFrom 90 = .ok (.getfield 39, 3) := by decide +kernel
set_option maxRecDepth 20000 in
theorem dX9_readFrom_93 : decode cX9_readFrom 93 = .ok (.ireturn, 1) := by decide +kernel
set_option maxRecDepth 20000 in
theorem dX11_fault_0 : decode cX11_fault 0 = .ok (.iload_n 1, 1) := by decide +kernel
set_option maxRecDepth 20000 in
theorem dX11_fault_1 : decode cX11_fault 1 = .ok (.tableswitch 59 0 2 #[27, 39, 47], 27) := by decide +kernel
set_option maxRecDepth 20000 in
theorem dX11_fault_28 : decode cX11_fault 28 = .ok (.aload_n 0, 1) := by decide +kernel
set_option maxRecDepth 20000 in
theorem dX11_fault_29 : decode cX11_fault 29 = .ok (.getfield 23, 3) := by decide +kernel
set_option maxRecDepth 20000 in
theorem dX11_fault_32 : decode cX11_fault 32 = .ok (.aload_n 0, 1) := by decide +kernel
set_option maxRecDepth 20000 in
theorem dX11_fault_33 : decode cX11_fault 33 = .ok (.getfield 10, 3) := by decide +kernel
set_option maxRecDepth 20000 in
theorem dX11_fault_36 : decode cX11_fault 36 = .ok (.invokevirtual 117, 3) := by decide +kernel
set_option maxRecDepth 20000 in
theorem dX11_fault_39 : decode cX11_fault 39 = .ok (.ireturn, 1) := by decide +kernel
set_option maxRecDepth 20000 in
theorem dX11_fault_40 : decode cX11_fault 40 = .ok (.aload_n 0, 1) := by decide +kernel
set_option maxRecDepth 20000 in
theorem dX11_fault_41 : decode cX11_fault 41 = .ok (.getfield 31, 3) := by decide +kernel
set_option maxRecDepth 20000 in
theorem dX11_fault_44 : decode cX11_fault 44 = .ok (.invokevirtual 121, 3) := by decide +kernel
set_option maxRecDepth 20000 in
theorem dX11_fault_47 : decode cX11_fault 47 = .ok (.ireturn, 1) := by decide +kernel
set_option maxRecDepth 20000 in
theorem dX11_fault_48 : decode cX11_fault 48 = .ok (.aload_n 0, 1) := by decide +kernel
set_option maxRecDepth 20000 in
theorem dX11_fault_49 : decode cX11_fault 49 = .ok (.getfield 45, 3) := by decide +kernel
set_option maxRecDepth 20000 in
theorem dX11_fault_52 : decode cX11_fault 52 = .ok (.aload_n 0, 1) := by decide +kernel
set_option maxRecDepth 20000 in
theorem dX11_fault_53 : decode cX11_fault 53 = .ok (.getfield 10, 3) := by decide +kernel
set_option maxRecDepth 20000 in
theorem dX11_fault_56 : decode cX11_fault 56 = .ok (.invokevirtual 125, 3) := by decide +kernel
set_option maxRecDepth 20000 in
theorem dX11_fault_59 : decode cX11_fault 59 = .ok (.ireturn, 1) := by decide +kernel
set_option maxRecDepth 20000 in
theorem dX11_fault_60 : decode cX11_fault 60 = .ok (.bipush (-2), 2) := by decide +kernel
set_option maxRecDepth 20000 in
theorem dX11_fault_62 : decode cX11_fault 62 = .ok (.ireturn, 1) := by decide +kernel
set_option maxRecDepth 20000 in
theorem dX11_text_0 : decode cX11_text 0 = .ok (.aload_n 0, 1) := by decide +kernel
set_option maxRecDepth 20000 in
theorem dX11_text_1 : decode cX11_text 1 = .ok (.iload_n 1, 1) := by decide +kernel
set_option maxRecDepth 20000 in
theorem dX11_text_2 : decode cX11_text 2 = .ok (.invokevirtual 126, 3) := by decide +kernel
set_option maxRecDepth 20000 in
theorem dX11_text_5 : decode cX11_text 5 = .ok (.iconst (-1), 1) := by decide +kernel
set_option maxRecDepth 20000 in
theorem dX11_text_6 : decode cX11_text 6 = .ok (.if_icmp .eq 5, 3) := by decide +kernel
set_option maxRecDepth 20000 in
theorem dX11_text_9 : decode cX11_text 9 = .ok (.iconst (-1), 1) := by decide +kernel
set_option maxRecDepth 20000 in
theorem dX11_text_10 : decode cX11_text 10 = .ok (.ireturn, 1) := by decide +kernel
def vs_f_X0_takeBack_a1 : List Cond := .code yX0_takeBack cX0_takeBack 4 (some .boolean) :: ([.fieldLink RX0 26 "WallChapels$Acts" "held" "I"] ++ (u_ws RX0 TX0 3))
theorem vs_f_X0_takeBack_a1_uX0 : ∀ w ∈ u_ws RX0 TX0 3, w ∈ vs_f_X0_takeBack_a1 := fun _ h => List.mem_cons_of_mem _ (List.mem_append_right _ (h))
set_option maxHeartbeats 4000000 in
set_option maxRecDepth 100000 in
theorem f_X0_takeBack_a1 (l : Launch) (dC : Nat → ClassId) (dI : Nat → Nat → Nat) (sz : Nat) (q : Nat → Nat) : Met l yX0_takeBack vs_f_X0_takeBack_a1 ({ frames := 0, cells := 0, slots := 0, locals := 0 }) (va_Pc [.ref (q 11), .ref (q 9)] (cW dC dI [((q 11), .inr (0, [.ref (q 44), .int 0, .int 0]))] [] sz)) (va_Qi (fun (r : Int32) (_ : Unit) => r = 0) (fun (_ : Unit) (t : State) => cB dC dI (va_A [((q 11), .inr (0, [.ref (q 44), .int 0, .int 0]))] sz) [((q 11), .inr (0, [.ref (q 44), .int 0, .int 0]))] [] t) (va_A [((q 11), .inr (0, [.ref (q 44), .int 0, .int 0]))] sz)) 0 0 (va_A [((q 11), .inr (0, [.ref (q 44), .int 0, .int 0]))] sz) := by
  refine Met.ofW (cc := cX0_takeBack) (maxL := 4) (ret := (some .boolean)) (by decide) rfl ?_
  intro p e s m args below meth c s₁ B hml hv
  obtain ⟨rfl, hsz, hP, hK, hD0, hG⟩ := hv
  have hx := B.exec
  have hb := B.bytes
  have hr := B.returns
  have hts := atoms_spec (ws := vs_f_X0_takeBack_a1) B.pre
  have hown : s.vm.findClass RX0 = some m.cls := findClass_of_methodNamed B.named
  have hlocks := B.notSynchronized
  have hiX0 : ∀ w ∈ u_ws RX0 TX0 3, w ∈ vs_f_X0_takeBack_a1 := vs_f_X0_takeBack_a1_uX0
  subst hsz
  have hD := hD0.self (sz := s.heap.size)
  generalize hAe : va_A [((q 11), .inr (0, [.ref (q 44), .int 0, .int 0]))] s.heap.size = A at hD ⊢
  have hA : ∀ q : Nat, s.heap.size ≤ q → A q := fun q h => by rw [← hAe]; exact Or.inr h
  have hS : va_S A s.heap s.heap [] := va_S.rf
  have hP : va_P (dC, dI) vwCl [((q 11), .inr (0, [.ref (q 44), .int 0, .int 0]))] s.heap := hP
  have hl := lv_entry ([.ref (q 11), .ref (q 9)]) (n := 4) (Nat.le_of_ble_eq_true rfl)
  rw [lg_entry_eq]
  generalize (lg_sl ([.ref (q 11), .ref (q 9)]) ++ List.replicate (4 - (lg_sl ([.ref (q 11), .ref (q 9)])).length) Slot.unset).toArray = ls at hl ⊢
  have hl : lv_has ls 4 [(0, .ref (q 11)), (1, .ref (q 9))] := hl
  refine lv_aload_n hx hb dX0_takeBack_0 rfl (lv_at hl 0 rfl) ?_
  refine va_get (D := (dC, dI)) (ci := 0) (v := .int 0) (C := RX0) (T := TX0) (N := 3) hx hb hts hiX0 hown hK hP 0 rfl rfl 2 (by decide) (hts (.fieldLink RX0 26 "WallChapels$Acts" "held" "I") (by decide +kernel)) (fun _ h9 => h9) rfl dX0_takeBack_1 ?_
  refine lv_if_ne (tgt := 9) hx hb dX0_takeBack_4 (by decide) (fun c_1 => absurd c_1 (by decide)) (fun c_1 => ?_)
  refine lv_iconst (v := 0) hx hb dX0_takeBack_7 (by decide) ?_
  have hP9 := hP.sub (ws' := [((q 11), .inr (0, [.ref (q 44), .int 0, .int 0]))]) [0] rfl
  have hD9 := hD.sub (ws' := [((q 11), .inr (0, [.ref (q 44), .int 0, .int 0]))]) [0] (by decide) rfl
  have hK9 := hK.sub (tys' := []) [] rfl
  exact W.zret (v := 0) hx hb hr rfl (fun t ht hW => ⟨⟨0, (), rfl, rfl, ⟨by rw [ht]; exact hP9, va_K.moved hW.alike hK9, hD9⟩⟩, hS.F ht⟩) hS.2.2 dX0_takeBack_8
def vs_f_X11_undo : List Cond := .code yX11_undo cX11_undo 1 (some .int) :: ([.fieldLink RX11 85 "WallChapels" "acts" "LWallChapels$Acts;", .fieldLink RX11 75 "WallChapels" "now" "LWallChapels$Scene;", .initialized RX0, .instanceMethod yX0_takeBack, .selects RX0 yX0_takeBack yX0_takeBack, .fieldLink RX0 26 "WallChapels$Acts" "held" "I", .code yX0_takeBack cX0_takeBack 4 (some .boolean)] ++ (u_ws RX11 TX11 17 ++ (u_ws RX0 TX0 3)))
theorem vs_f_X11_undo_uX11 : ∀ w ∈ u_ws RX11 TX11 17, w ∈ vs_f_X11_undo := fun _ h => List.mem_cons_of_mem _ (List.mem_append_right _ (List.mem_append_left _ h))
theorem vs_f_X11_undo_uX0 : ∀ w ∈ u_ws RX0 TX0 3, w ∈ vs_f_X11_undo := fun _ h => List.mem_cons_of_mem _ (List.mem_append_right _ (List.mem_append_right _ (h)))
set_option maxRecDepth 20000 in
theorem g_f_X11_undo_f_X0_takeBack_a1 : GoodIn vs_f_X11_undo vs_f_X0_takeBack_a1 := goodIn_r _ [7, 6, 25, 26, 27] (by decide +kernel) (by decide +kernel)
set_option maxHeartbeats 4000000 in
set_option maxRecDepth 100000 in
theorem f_X11_undo (l : Launch) (dC : Nat → ClassId) (dI : Nat → Nat → Nat) (sz : Nat) (q : Nat → Nat) : Met l yX11_undo vs_f_X11_undo ({ frames := 1, cells := 0, slots := 0, locals := 23 }) (va_Pc [.ref (q 15)] (cW dC dI [((q 15), .inr (11, xF q 0 1)), ((q 11), .inr (0, [.ref (q 44), .int 0, .int 0]))] [] sz)) (va_Qi (fun (r : Int32) (_ : Unit) => r = (-1)) (fun (_ : Unit) (t : State) => True) (va_A [((q 15), .inr (11, xF q 0 1)), ((q 11), .inr (0, [.ref (q 44), .int 0, .int 0]))] sz)) 0 0 (va_A [((q 15), .inr (11, xF q 0 1)), ((q 11), .inr (0, [.ref (q 44), .int 0, .int 0]))] sz) := by
  refine Met.ofW (cc := cX11_undo) (maxL := 1) (ret := (some .int)) (by decide) rfl ?_
  intro p e s m args below meth c s₁ B hml hv
  obtain ⟨rfl, hsz, hP, hK, hD0, hG⟩ := hv
  have hx := B.exec
  have hb := B.bytes
  have hr := B.returns
  have hts := atoms_spec (ws := vs_f_X11_undo) B.pre
  have hown : s.vm.findClass RX11 = some m.cls := findClass_of_methodNamed B.named
  have hlocks := B.notSynchronized
  have hiX11 : ∀ w ∈ u_ws RX11 TX11 17, w ∈ vs_f_X11_undo := vs_f_X11_undo_uX11
  have hiX0 : ∀ w ∈ u_ws RX0 TX0 3, w ∈ vs_f_X11_undo := vs_f_X11_undo_uX0
  subst hsz
  have hD := hD0.self (sz := s.heap.size)
  generalize hAe : va_A [((q 15), .inr (11, xF q 0 1)), ((q 11), .inr (0, [.ref (q 44), .int 0, .int 0]))] s.heap.size = A at hD ⊢
  have hA : ∀ q : Nat, s.heap.size ≤ q → A q := fun q h => by rw [← hAe]; exact Or.inr h
  have hS : va_S A s.heap s.heap [] := va_S.rf
  have hP : va_P (dC, dI) vwCl [((q 15), .inr (11, xF q 0 1)), ((q 11), .inr (0, [.ref (q 44), .int 0, .int 0]))] s.heap := hP
  have hl := lv_entry ([.ref (q 15)]) (n := 1) (Nat.le_of_ble_eq_true rfl)
  rw [lg_entry_eq]
  generalize (lg_sl ([.ref (q 15)]) ++ List.replicate (1 - (lg_sl ([.ref (q 15)])).length) Slot.unset).toArray = ls at hl ⊢
  have hl : lv_has ls 1 [(0, .ref (q 15))] := hl
  refine lv_aload_n hx hb dX11_undo_0 rfl (lv_at hl 0 rfl) ?_
  refine va_get (D := (dC, dI)) (ci := 11) (v := .ref (q 11)) (C := RX11) (T := TX11) (N := 17) hx hb hts hiX11 hown hK hP 0 rfl rfl 11 (by decide) (hts (.fieldLink RX11 85 "WallChapels" "acts" "LWallChapels$Acts;") (by decide +kernel)) (fun _ h9 => h9) rfl dX11_undo_1 ?_
  refine lv_aload_n hx hb dX11_undo_4 rfl (lv_at hl 0 rfl) ?_
  refine va_get (D := (dC, dI)) (ci := 11) (v := .ref (q 9)) (C := RX11) (T := TX11) (N := 17) hx hb hts hiX11 hown hK hP 0 rfl rfl 9 (by decide) (hts (.fieldLink RX11 75 "WallChapels" "now" "LWallChapels$Scene;") (by decide +kernel)) (fun _ h9 => h9) rfl dX11_undo_5 ?_
  have hPc := hP.sub (ws' := [((q 11), .inr (0, [.ref (q 44), .int 0, .int 0]))]) [1] rfl
  have hDc := hD.sub (ws' := [((q 11), .inr (0, [.ref (q 44), .int 0, .int 0]))]) [1] (by decide) rfl
  have hKc := hK.sub (tys' := []) [] rfl
  have hFc := va_free (wc := [((q 11), .inr (0, [.ref (q 44), .int 0, .int 0]))]) hD hS hA [1] rfl
  refine va_calli (va_runVN (As := [.ref (q 9)]) (rest := []) ⟨hx, hb, hml, hown, hts⟩ (f_X0_takeBack_a1 l dC dI s.heap.size q ) ⟨va_cnB 1 hts g_f_X11_undo_f_X0_takeBack_a1 rfl rfl rfl (gx_n hG 106 rfl) (hts (.initialized RX0) (by decide +kernel)) (by decide +kernel) ⟨Nat.le_of_ble_eq_true rfl, Nat.le_of_ble_eq_true rfl⟩, (hts (.instanceMethod yX0_takeBack) (by decide +kernel)), (hts (.selects RX0 yX0_takeBack yX0_takeBack) (by decide +kernel))⟩ ⟨cW_blind, va_recv hKc hPc (ci := 0) (q0 := 0) rfl rfl, fun U hU hW => ⟨rfl, cW_use hU hW hPc hKc hDc hG⟩⟩ rfl rfl hl.1 rfl (lv_room (Nat.le_of_ble_eq_true rfl)) dX11_undo_8 ⟨Nat.le_of_ble_eq_true rfl, Nat.le_of_ble_eq_true rfl⟩) hS (fun q _ h => hFc q h) hFc (fun r_1 u t H1 locs ht hvm hw hB hz1 hk1 hS => ?_)
  obtain ⟨hP1, hK1, hD1⟩ := hB
  rw [ht] at hP1
  have hK1 := va_K.moved hvm.symm hK1
  obtain ⟨hP, hD⟩ := va_join (wr := [((q 15), .inr (11, xF q 0 1))]) (w1 := [((q 11), .inr (0, [.ref (q 44), .int 0, .int 0]))]) hP hD [1] [0] rfl rfl (by decide) (by decide) hk1 hFc hP1 hD1
  generalize H1 = H at hP hS ⊢
  have hP : va_P (dC, dI) vwCl [((q 15), .inr (11, xF q 0 1)), ((q 11), .inr (0, [.ref (q 44), .int 0, .int 0]))] H := hP
  have hD : va_D A [((q 15), .inr (11, xF q 0 1)), ((q 11), .inr (0, [.ref (q 44), .int 0, .int 0]))] := hD
  refine W.widen (k := 0) (n := 0) (Nat.le_of_ble_eq_true rfl) (Nat.le_of_ble_eq_true rfl) ?_
  obtain rfl : r_1 = 0 := hw
  refine lv_if_ne (tgt := 16) hx hb dX11_undo_11 (by decide) (fun c_2 => absurd c_2 (by decide)) (fun c_2 => ?_)
  refine lv_iconst (v := (-1)) hx hb dX11_undo_14 (by decide) ?_
  exact W.iret (v := (-1)) hx hb hr (fun t ht hW => ⟨⟨(-1), (), rfl, rfl, trivial⟩, hS.F ht⟩) hS.2.2 dX11_undo_15
def vs_f_X5_begin_a1 : List Cond := .code yX5_begin cX5_begin 1 none :: ([.fieldLink RX5 26 "WallChapels$Plan" "corners" "I", .fieldLink RX5 30 "WallChapels$Plan" "streets" "I", .fieldLink RX5 33 "WallChapels$Plan" "walkers" "I", .fieldLink RX5 75 "WallChapels$Plan" "ruled" "Z", .fieldLink RX5 79 "WallChapels$Plan" "RULE_WITHOUT" "[I", .fieldLink RX5 9 "WallChapels$Plan" "rules" "[I", .native arraycopyName, .static arraycopyName, .initialized RJ10, .methodLink RX5 36 arraycopyName] ++ (u_ws RX5 TX5 8))
theorem vs_f_X5_begin_a1_uX5 : ∀ w ∈ u_ws RX5 TX5 8, w ∈ vs_f_X5_begin_a1 := fun _ h => List.mem_cons_of_mem _ (List.mem_append_right _ (h))
set_option maxHeartbeats 4000000 in
set_option maxRecDepth 100000 in
theorem f_X5_begin_a1 (l : Launch) (dC : Nat → ClassId) (dI : Nat → Nat → Nat) (sz : Nat) (sk sv : Nat → Nat) (s2 tz : Nat) (q : Nat → Nat) (kR : ClassId) : Met l yX5_begin vs_f_X5_begin_a1 ({ frames := 1, cells := 0, slots := 0, locals := 40 }) (va_Pc [.ref (q 2)] (cWx dC dI [((q 2), .inr (5, [.int 0, .int 0, .int 0, .int 0, .ref (q 24), .ref (q 25), .ref (q 26), .ref (q 27)])), ((q 24), .inl (kR, 2, .inl (fun _ => 0)))] [(kR, .int)] sz sk sv s2 tz)) (va_Qv (fun (_ : Unit) => True) (fun (_ : Unit) (t : State) => cB dC dI (va_A [((q 2), .inr (5, [.int 0, .int 0, .int 0, .int 0, .ref (q 24), .ref (q 25), .ref (q 26), .ref (q 27)])), ((q 24), .inl (kR, 2, .inl (fun _ => 0)))] sz) [((q 2), .inr (5, [.int 0, .int 0, .int 0, .int 0, .ref (q 24), .ref (q 25), .ref (q 26), .ref (q 27)]))] [] t) (va_A [((q 2), .inr (5, [.int 0, .int 0, .int 0, .int 0, .ref (q 24), .ref (q 25), .ref (q 26), .ref (q 27)])), ((q 24), .inl (kR, 2, .inl (fun _ => 0)))] sz)) 0 0 (va_A [((q 2), .inr (5, [.int 0, .int 0, .int 0, .int 0, .ref (q 24), .ref (q 25), .ref (q 26), .ref (q 27)])), ((q 24), .inl (kR, 2, .inl (fun _ => 0)))] sz) := by
  refine Met.ofW (cc := cX5_begin) (maxL := 1) (ret := none) (by decide) rfl ?_
  intro p e s m args below meth c s₁ B hml hv
  obtain ⟨rfl, ⟨hsz, hP, hK, hD0, hG⟩, hE⟩ := hv
  have hx := B.exec
  have hb := B.bytes
  have hr := B.returns
  have hts := atoms_spec (ws := vs_f_X5_begin_a1) B.pre
  have hown : s.vm.findClass RX5 = some m.cls := findClass_of_methodNamed B.named
  have hlocks := B.notSynchronized
  have hiX5 : ∀ w ∈ u_ws RX5 TX5 8, w ∈ vs_f_X5_begin_a1 := vs_f_X5_begin_a1_uX5
  subst hsz
  have hD := hD0.self (sz := s.heap.size)
  generalize hAe : va_A [((q 2), .inr (5, [.int 0, .int 0, .int 0, .int 0, .ref (q 24), .ref (q 25), .ref (q 26), .ref (q 27)])), ((q 24), .inl (kR, 2, .inl (fun _ => 0)))] s.heap.size = A at hD hE ⊢
  have hA : ∀ q : Nat, s.heap.size ≤ q → A q := fun q h => by rw [← hAe]; exact Or.inr h
  have hS : va_S A s.heap s.heap [] := va_S.rf
  have hP : va_P (dC, dI) vwCl [((q 2), .inr (5, [.int 0, .int 0, .int 0, .int 0, .ref (q 24), .ref (q 25), .ref (q 26), .ref (q 27)])), ((q 24), .inl (kR, 2, .inl (fun _ => 0)))] s.heap := hP
  have hl := lv_entry ([.ref (q 2)]) (n := 1) (Nat.le_of_ble_eq_true rfl)
  rw [lg_entry_eq]
  generalize (lg_sl ([.ref (q 2)]) ++ List.replicate (1 - (lg_sl ([.ref (q 2)])).length) Slot.unset).toArray = ls at hl ⊢
  have hl : lv_has ls 1 [(0, .ref (q 2))] := hl
  refine lv_aload_n hx hb dX5_begin_0 rfl (lv_at hl 0 rfl) ?_
  refine lv_iconst (v := 0) hx hb dX5_begin_1 (by decide) ?_
  refine va_put (D := (dC, dI)) (ci := 5) (v := .int 0) (ty := .int) (C := RX5) (T := TX5) (N := 8) hx hb hts hiX5 tyX5 tyX5_ok nmX5 hown hK hP hD hS 0 rfl rfl 0 (by decide) (hts (.fieldLink RX5 26 "WallChapels$Plan" "corners" "I") (by decide +kernel)) (fun _ h9 => h9) rfl (by decide +kernel) rfl rfl (Nat.le_of_ble_eq_true rfl) dX5_begin_2 (fun H locs hP hD hS => ?_)
  have hP : va_P (dC, dI) vwCl [((q 2), .inr (5, [.int 0, .int 0, .int 0, .int 0, .ref (q 24), .ref (q 25), .ref (q 26), .ref (q 27)])), ((q 24), .inl (kR, 2, .inl (fun _ => 0)))] H := hP
  have hD : va_D A [((q 2), .inr (5, [.int 0, .int 0, .int 0, .int 0, .ref (q 24), .ref (q 25), .ref (q 26), .ref (q 27)])), ((q 24), .inl (kR, 2, .inl (fun _ => 0)))] := hD
  refine lv_aload_n hx hb dX5_begin_5 rfl (lv_at hl 0 rfl) ?_
  refine lv_iconst (v := 0) hx hb dX5_begin_6 (by decide) ?_
  refine va_put (D := (dC, dI)) (ci := 5) (v := .int 0) (ty := .int) (C := RX5) (T := TX5) (N := 8) hx hb hts hiX5 tyX5 tyX5_ok nmX5 hown hK hP hD hS 0 rfl rfl 1 (by decide) (hts (.fieldLink RX5 30 "WallChapels$Plan" "streets" "I") (by decide +kernel)) (fun _ h9 => h9) rfl (by decide +kernel) rfl rfl (Nat.le_of_ble_eq_true rfl) dX5_begin_7 (fun H locs hP hD hS => ?_)
  have hP : va_P (dC, dI) vwCl [((q 2), .inr (5, [.int 0, .int 0, .int 0, .int 0, .ref (q 24), .ref (q 25), .ref (q 26), .ref (q 27)])), ((q 24), .inl (kR, 2, .inl (fun _ => 0)))] H := hP
  have hD : va_D A [((q 2), .inr (5, [.int 0, .int 0, .int 0, .int 0, .ref (q 24), .ref (q 25), .ref (q 26), .ref (q 27)])), ((q 24), .inl (kR, 2, .inl (fun _ => 0)))] := hD
  refine lv_aload_n hx hb dX5_begin_10 rfl (lv_at hl 0 rfl) ?_
  refine lv_iconst (v := 0) hx hb dX5_begin_11 (by decide) ?_
  refine va_put (D := (dC, dI)) (ci := 5) (v := .int 0) (ty := .int) (C := RX5) (T := TX5) (N := 8) hx hb hts hiX5 tyX5 tyX5_ok nmX5 hown hK hP hD hS 0 rfl rfl 2 (by decide) (hts (.fieldLink RX5 33 "WallChapels$Plan" "walkers" "I") (by decide +kernel)) (fun _ h9 => h9) rfl (by decide +kernel) rfl rfl (Nat.le_of_ble_eq_true rfl) dX5_begin_12 (fun H locs hP hD hS => ?_)
  have hP : va_P (dC, dI) vwCl [((q 2), .inr (5, [.int 0, .int 0, .int 0, .int 0, .ref (q 24), .ref (q 25), .ref (q 26), .ref (q 27)])), ((q 24), .inl (kR, 2, .inl (fun _ => 0)))] H := hP
  have hD : va_D A [((q 2), .inr (5, [.int 0, .int 0, .int 0, .int 0, .ref (q 24), .ref (q 25), .ref (q 26), .ref (q 27)])), ((q 24), .inl (kR, 2, .inl (fun _ => 0)))] := hD
  refine lv_aload_n hx hb dX5_begin_15 rfl (lv_at hl 0 rfl) ?_
  refine lv_iconst (v := 0) hx hb dX5_begin_16 (by decide) ?_
  refine va_put (D := (dC, dI)) (ci := 5) (v := .int 0) (ty := .boolean) (C := RX5) (T := TX5) (N := 8) hx hb hts hiX5 tyX5 tyX5_ok nmX5 hown hK hP hD hS 0 rfl rfl 3 (by decide) (hts (.fieldLink RX5 75 "WallChapels$Plan" "ruled" "Z") (by decide +kernel)) (fun _ h9 => h9) rfl (by decide +kernel) rfl rfl (Nat.le_of_ble_eq_true rfl) dX5_begin_17 (fun H locs hP hD hS => ?_)
  have hP : va_P (dC, dI) vwCl [((q 2), .inr (5, [.int 0, .int 0, .int 0, .int 0, .ref (q 24), .ref (q 25), .ref (q 26), .ref (q 27)])), ((q 24), .inl (kR, 2, .inl (fun _ => 0)))] H := hP
  have hD : va_D A [((q 2), .inr (5, [.int 0, .int 0, .int 0, .int 0, .ref (q 24), .ref (q 25), .ref (q 26), .ref (q 27)])), ((q 24), .inl (kR, 2, .inl (fun _ => 0)))] := hD
  refine va_gets (C := "WallChapels$Plan") (n := "RULE_WITHOUT") (d := "[I") (v := .ref tz) hx hb hE.1.2.2.2.1 hS hown (hts (.fieldLink RX5 79 "WallChapels$Plan" "RULE_WITHOUT" "[I") (by decide +kernel)) (fun _ h9 => h9) dX5_begin_20 ?_
  refine lv_iconst (v := 0) hx hb dX5_begin_23 (by decide) ?_
  refine lv_aload_n hx hb dX5_begin_24 rfl (lv_at hl 0 rfl) ?_
  refine va_get (D := (dC, dI)) (ci := 5) (v := .ref (q 24)) (C := RX5) (T := TX5) (N := 8) hx hb hts hiX5 hown hK hP 0 rfl rfl 4 (by decide) (hts (.fieldLink RX5 9 "WallChapels$Plan" "rules" "[I") (by decide +kernel)) (fun _ h9 => h9) rfl dX5_begin_25 ?_
  refine lv_iconst (v := 0) hx hb dX5_begin_28 (by decide) ?_
  refine lv_iconst (v := 2) hx hb dX5_begin_29 (by decide) ?_
  refine my_copyT hx hb (hml.trans hl.1.symm) hown (hts (.methodLink RX5 36 arraycopyName) (by decide +kernel)) (hts (.native arraycopyName) (by decide +kernel)) (hts (.static arraycopyName) (by decide +kernel)) (hts (.initialized "java/lang/System") (by decide +kernel)) hK hP hD hS hE.1.2.2.2.2 1 0 rfl rfl (sp := 0) (dp := 0) (n := 2) (by decide) (by decide) (by decide) (by decide) (by decide) (Nat.le_of_ble_eq_true rfl) (Nat.le_of_ble_eq_true rfl) dX5_begin_30 (fun f9 H locs hP hD hS => ?_)
  have hP : va_P (dC, dI) vwCl [((q 2), .inr (5, [.int 0, .int 0, .int 0, .int 0, .ref (q 24), .ref (q 25), .ref (q 26), .ref (q 27)])), ((q 24), .inl (kR, 2, .inl f9))] H := hP
  have hD : va_D A [((q 2), .inr (5, [.int 0, .int 0, .int 0, .int 0, .ref (q 24), .ref (q 25), .ref (q 26), .ref (q 27)])), ((q 24), .inl (kR, 2, .inl f9))] := hD
  have hP9 := hP.sub (ws' := [((q 2), .inr (5, [.int 0, .int 0, .int 0, .int 0, .ref (q 24), .ref (q 25), .ref (q 26), .ref (q 27)]))]) [0] rfl
  have hD9 := hD.sub (ws' := [((q 2), .inr (5, [.int 0, .int 0, .int 0, .int 0, .ref (q 24), .ref (q 25), .ref (q 26), .ref (q 27)]))]) [0] (by decide) rfl
  have hK9 := hK.sub (tys' := []) [] rfl
  exact W.vret hx hb hr (fun t ht hW => ⟨⟨(), rfl, trivial, ⟨by rw [ht]; exact hP9, va_K.moved hW.alike hK9, hD9⟩⟩, hS.F ht⟩) hS.2.2 dX5_begin_33
def vs_f_X8_rewind_a1 : List Cond := .code yX8_rewind cX8_rewind 1 none :: ([.fieldLink RX8 19 "WallChapels$Tape" "head" "I", .fieldLink RX8 22 "WallChapels$Tape" "wrong" "I"] ++ (u_ws RX8 TX8 4))
theorem vs_f_X8_rewind_a1_uX8 : ∀ w ∈ u_ws RX8 TX8 4, w ∈ vs_f_X8_rewind_a1 := fun _ h => List.mem_cons_of_mem _ (List.mem_append_right _ (h))
set_option maxHeartbeats 4000000 in
set_option maxRecDepth 100000 in
theorem f_X8_rewind_a1 (l : Launch) (dC : Nat → ClassId) (dI : Nat → Nat → Nat) (sz : Nat) (q : Nat → Nat) : Met l yX8_rewind vs_f_X8_rewind_a1 ({ frames := 0, cells := 0, slots := 0, locals := 0 }) (va_Pc [.ref (q 0)] (cW dC dI [((q 0), .inr (8, [.ref (q 16), .int 0, .int 0, .int 0]))] [] sz)) (va_Qv (fun (_ : Unit) => True) (fun (_ : Unit) (t : State) => cB dC dI (va_A [((q 0), .inr (8, [.ref (q 16), .int 0, .int 0, .int 0]))] sz) [((q 0), .inr (8, [.ref (q 16), .int 0, .int 0, .int (-1)]))] [] t) (va_A [((q 0), .inr (8, [.ref (q 16), .int 0, .int 0, .int 0]))] sz)) 0 0 (va_A [((q 0), .inr (8, [.ref (q 16), .int 0, .int 0, .int 0]))] sz) := by
  refine Met.ofW (cc := cX8_rewind) (maxL := 1) (ret := none) (by decide) rfl ?_
  intro p e s m args below meth c s₁ B hml hv
  obtain ⟨rfl, hsz, hP, hK, hD0, hG⟩ := hv
  have hx := B.exec
  have hb := B.bytes
  have hr := B.returns
  have hts := atoms_spec (ws := vs_f_X8_rewind_a1) B.pre
  have hown : s.vm.findClass RX8 = some m.cls := findClass_of_methodNamed B.named
  have hlocks := B.notSynchronized
  have hiX8 : ∀ w ∈ u_ws RX8 TX8 4, w ∈ vs_f_X8_rewind_a1 := vs_f_X8_rewind_a1_uX8
  subst hsz
  have hD := hD0.self (sz := s.heap.size)
  generalize hAe : va_A [((q 0), .inr (8, [.ref (q 16), .int 0, .int 0, .int 0]))] s.heap.size = A at hD ⊢
  have hA : ∀ q : Nat, s.heap.size ≤ q → A q := fun q h => by rw [← hAe]; exact Or.inr h
  have hS : va_S A s.heap s.heap [] := va_S.rf
  have hP : va_P (dC, dI) vwCl [((q 0), .inr (8, [.ref (q 16), .int 0, .int 0, .int 0]))] s.heap := hP
  have hl := lv_entry ([.ref (q 0)]) (n := 1) (Nat.le_of_ble_eq_true rfl)
  rw [lg_entry_eq]
  generalize (lg_sl ([.ref (q 0)]) ++ List.replicate (1 - (lg_sl ([.ref (q 0)])).length) Slot.unset).toArray = ls at hl ⊢
  have hl : lv_has ls 1 [(0, .ref (q 0))] := hl
  refine lv_aload_n hx hb dX8_rewind_0 rfl (lv_at hl 0 rfl) ?_
  refine lv_iconst (v := 0) hx hb dX8_rewind_1 (by decide) ?_
  refine va_put (D := (dC, dI)) (ci := 8) (v := .int 0) (ty := .int) (C := RX8) (T := TX8) (N := 4) hx hb hts hiX8 tyX8 tyX8_ok nmX8 hown hK hP hD hS 0 rfl rfl 2 (by decide) (hts (.fieldLink RX8 19 "WallChapels$Tape" "head" "I") (by decide +kernel)) (fun _ h9 => h9) rfl (by decide +kernel) rfl rfl (Nat.le_of_ble_eq_true rfl) dX8_rewind_2 (fun H locs hP hD hS => ?_)
  have hP : va_P (dC, dI) vwCl [((q 0), .inr (8, [.ref (q 16), .int 0, .int 0, .int 0]))] H := hP
  have hD : va_D A [((q 0), .inr (8, [.ref (q 16), .int 0, .int 0, .int 0]))] := hD
  refine lv_aload_n hx hb dX8_rewind_5 rfl (lv_at hl 0 rfl) ?_
  refine lv_iconst (v := (-1)) hx hb dX8_rewind_6 (by decide) ?_
  refine va_put (D := (dC, dI)) (ci := 8) (v := .int (-1)) (ty := .int) (C := RX8) (T := TX8) (N := 4) hx hb hts hiX8 tyX8 tyX8_ok nmX8 hown hK hP hD hS 0 rfl rfl 3 (by decide) (hts (.fieldLink RX8 22 "WallChapels$Tape" "wrong" "I") (by decide +kernel)) (fun _ h9 => h9) rfl (by decide +kernel) rfl rfl (Nat.le_of_ble_eq_true rfl) dX8_rewind_7 (fun H locs hP hD hS => ?_)
  have hP : va_P (dC, dI) vwCl [((q 0), .inr (8, [.ref (q 16), .int 0, .int 0, .int (-1)]))] H := hP
  have hD : va_D A [((q 0), .inr (8, [.ref (q 16), .int 0, .int 0, .int (-1)]))] := hD
  have hP9 := hP.sub (ws' := [((q 0), .inr (8, [.ref (q 16), .int 0, .int 0, .int (-1)]))]) [0] rfl
  have hD9 := hD.sub (ws' := [((q 0), .inr (8, [.ref (q 16), .int 0, .int 0, .int (-1)]))]) [0] (by decide) rfl
  have hK9 := hK.sub (tys' := []) [] rfl
  exact W.vret hx hb hr (fun t ht hW => ⟨⟨(), rfl, trivial, ⟨by rw [ht]; exact hP9, va_K.moved hW.alike hK9, hD9⟩⟩, hS.F ht⟩) hS.2.2 dX8_rewind_10
def vs_f_X8_byteAtHead_a1 : List Cond := .code yX8_byteAtHead cX8_byteAtHead 1 (some .int) :: ([.fieldLink RX8 19 "WallChapels$Tape" "head" "I", .fieldLink RX8 15 "WallChapels$Tape" "length" "I"] ++ (u_ws RX8 TX8 4))
theorem vs_f_X8_byteAtHead_a1_uX8 : ∀ w ∈ u_ws RX8 TX8 4, w ∈ vs_f_X8_byteAtHead_a1 := fun _ h => List.mem_cons_of_mem _ (List.mem_append_right _ (h))
set_option maxHeartbeats 4000000 in
set_option maxRecDepth 100000 in
theorem f_X8_byteAtHead_a1 (l : Launch) (dC : Nat → ClassId) (dI : Nat → Nat → Nat) (sz : Nat) (q : Nat → Nat) : Met l yX8_byteAtHead vs_f_X8_byteAtHead_a1 ({ frames := 0, cells := 0, slots := 0, locals := 0 }) (va_Pc [.ref (q 0)] (cW dC dI [((q 0), .inr (8, [.ref (q 16), .int 0, .int 0, .int (-1)]))] [] sz)) (va_Qi (fun (r : Int32) (_ : Unit) => r = (-1)) (fun (_ : Unit) (t : State) => cB dC dI (va_A [((q 0), .inr (8, [.ref (q 16), .int 0, .int 0, .int (-1)]))] sz) [((q 0), .inr (8, [.ref (q 16), .int 0, .int 0, .int (-1)]))] [] t) (va_A [((q 0), .inr (8, [.ref (q 16), .int 0, .int 0, .int (-1)]))] sz)) 0 0 (va_A [((q 0), .inr (8, [.ref (q 16), .int 0, .int 0, .int (-1)]))] sz) := by
  refine Met.ofW (cc := cX8_byteAtHead) (maxL := 1) (ret := (some .int)) (by decide) rfl ?_
  intro p e s m args below meth c s₁ B hml hv
  obtain ⟨rfl, hsz, hP, hK, hD0, hG⟩ := hv
  have hx := B.exec
  have hb := B.bytes
  have hr := B.returns
  have hts := atoms_spec (ws := vs_f_X8_byteAtHead_a1) B.pre
  have hown : s.vm.findClass RX8 = some m.cls := findClass_of_methodNamed B.named
  have hlocks := B.notSynchronized
  have hiX8 : ∀ w ∈ u_ws RX8 TX8 4, w ∈ vs_f_X8_byteAtHead_a1 := vs_f_X8_byteAtHead_a1_uX8
  subst hsz
  have hD := hD0.self (sz := s.heap.size)
  generalize hAe : va_A [((q 0), .inr (8, [.ref (q 16), .int 0, .int 0, .int (-1)]))] s.heap.size = A at hD ⊢
  have hA : ∀ q : Nat, s.heap.size ≤ q → A q := fun q h => by rw [← hAe]; exact Or.inr h
  have hS : va_S A s.heap s.heap [] := va_S.rf
  have hP : va_P (dC, dI) vwCl [((q 0), .inr (8, [.ref (q 16), .int 0, .int 0, .int (-1)]))] s.heap := hP
  have hl := lv_entry ([.ref (q 0)]) (n := 1) (Nat.le_of_ble_eq_true rfl)
  rw [lg_entry_eq]
  generalize (lg_sl ([.ref (q 0)]) ++ List.replicate (1 - (lg_sl ([.ref (q 0)])).length) Slot.unset).toArray = ls at hl ⊢
  have hl : lv_has ls 1 [(0, .ref (q 0))] := hl
  refine lv_aload_n hx hb dX8_byteAtHead_0 rfl (lv_at hl 0 rfl) ?_
  refine va_get (D := (dC, dI)) (ci := 8) (v := .int 0) (C := RX8) (T := TX8) (N := 4) hx hb hts hiX8 hown hK hP 0 rfl rfl 2 (by decide) (hts (.fieldLink RX8 19 "WallChapels$Tape" "head" "I") (by decide +kernel)) (fun _ h9 => h9) rfl dX8_byteAtHead_1 ?_
  refine lv_aload_n hx hb dX8_byteAtHead_4 rfl (lv_at hl 0 rfl) ?_
  refine va_get (D := (dC, dI)) (ci := 8) (v := .int 0) (C := RX8) (T := TX8) (N := 4) hx hb hts hiX8 hown hK hP 0 rfl rfl 1 (by decide) (hts (.fieldLink RX8 15 "WallChapels$Tape" "length" "I") (by decide +kernel)) (fun _ h9 => h9) rfl dX8_byteAtHead_5 ?_
  refine lv_icmp_ge (tgt := 33) hx hb dX8_byteAtHead_8 (by decide) (fun c_1 => ?_) (fun c_1 => absurd (by decide) c_1)
  refine lv_iconst (v := (-1)) hx hb dX8_byteAtHead_33 (by decide) ?_
  have hP9 := hP.sub (ws' := [((q 0), .inr (8, [.ref (q 16), .int 0, .int 0, .int (-1)]))]) [0] rfl
  have hD9 := hD.sub (ws' := [((q 0), .inr (8, [.ref (q 16), .int 0, .int 0, .int (-1)]))]) [0] (by decide) rfl
  have hK9 := hK.sub (tys' := []) [] rfl
  exact W.iret (v := (-1)) hx hb hr (fun t ht hW => ⟨⟨(-1), (), rfl, rfl, ⟨by rw [ht]; exact hP9, va_K.moved hW.alike hK9, hD9⟩⟩, hS.F ht⟩) hS.2.2 dX8_byteAtHead_34
def vs_f_X8_ahead_a1 : List Cond := .code yX8_ahead cX8_ahead 1 (some .int) :: ([.fieldLink RX8 19 "WallChapels$Tape" "head" "I", .fieldLink RX8 15 "WallChapels$Tape" "length" "I", .initialized RX8, .instanceMethod yX8_byteAtHead, .selects RX8 yX8_byteAtHead yX8_byteAtHead, .code yX8_byteAtHead cX8_byteAtHead 1 (some .int), .methodLink RX8 25 yX8_byteAtHead] ++ (u_ws RX8 TX8 4))
theorem vs_f_X8_ahead_a1_uX8 : ∀ w ∈ u_ws RX8 TX8 4, w ∈ vs_f_X8_ahead_a1 := fun _ h => List.mem_cons_of_mem _ (List.mem_append_right _ (h))
set_option maxRecDepth 20000 in
theorem g_f_X8_ahead_a1_f_X8_byteAtHead_a1 : GoodIn vs_f_X8_ahead_a1 (wsV RX8 25 RX8 yX8_byteAtHead vs_f_X8_byteAtHead_a1) := goodIn_r _ [7, 4, 5, 3, 6, 1, 2, 8, 9, 10, 11] (by decide +kernel) (by decide +kernel)
set_option maxHeartbeats 4000000 in
set_option maxRecDepth 100000 in
theorem f_X8_ahead_a1 (l : Launch) (dC : Nat → ClassId) (dI : Nat → Nat → Nat) (sz : Nat) (q : Nat → Nat) : Met l yX8_ahead vs_f_X8_ahead_a1 ({ frames := 1, cells := 0, slots := 0, locals := 20 }) (va_Pc [.ref (q 0)] (cW dC dI [((q 0), .inr (8, [.ref (q 16), .int 0, .int 0, .int (-1)]))] [] sz)) (va_Qi (fun (r : Int32) (_ : Unit) => r = (-1)) (fun (_ : Unit) (t : State) => cB dC dI (va_A [((q 0), .inr (8, [.ref (q 16), .int 0, .int 0, .int (-1)]))] sz) [((q 0), .inr (8, [.ref (q 16), .int 0, .int 0, .int (-1)]))] [] t) (va_A [((q 0), .inr (8, [.ref (q 16), .int 0, .int 0, .int (-1)]))] sz)) 0 0 (va_A [((q 0), .inr (8, [.ref (q 16), .int 0, .int 0, .int (-1)]))] sz) := by
  refine Met.ofW (cc := cX8_ahead) (maxL := 1) (ret := (some .int)) (by decide) rfl ?_
  intro p e s m args below meth c s₁ B hml hv
  obtain ⟨rfl, hsz, hP, hK, hD0, hG⟩ := hv
  have hx := B.exec
  have hb := B.bytes
  have hr := B.returns
  have hts := atoms_spec (ws := vs_f_X8_ahead_a1) B.pre
  have hown : s.vm.findClass RX8 = some m.cls := findClass_of_methodNamed B.named
  have hlocks := B.notSynchronized
  have hiX8 : ∀ w ∈ u_ws RX8 TX8 4, w ∈ vs_f_X8_ahead_a1 := vs_f_X8_ahead_a1_uX8
  subst hsz
  have hD := hD0.self (sz := s.heap.size)
  generalize hAe : va_A [((q 0), .inr (8, [.ref (q 16), .int 0, .int 0, .int (-1)]))] s.heap.size = A at hD ⊢
  have hA : ∀ q : Nat, s.heap.size ≤ q → A q := fun q h => by rw [← hAe]; exact Or.inr h
  have hS : va_S A s.heap s.heap [] := va_S.rf
  have hP : va_P (dC, dI) vwCl [((q 0), .inr (8, [.ref (q 16), .int 0, .int 0, .int (-1)]))] s.heap := hP
  have hl := lv_entry ([.ref (q 0)]) (n := 1) (Nat.le_of_ble_eq_true rfl)
  rw [lg_entry_eq]
  generalize (lg_sl ([.ref (q 0)]) ++ List.replicate (1 - (lg_sl ([.ref (q 0)])).length) Slot.unset).toArray = ls at hl ⊢
  have hl : lv_has ls 1 [(0, .ref (q 0))] := hl
  refine lv_aload_n hx hb dX8_ahead_0 rfl (lv_at hl 0 rfl) ?_
  refine va_get (D := (dC, dI)) (ci := 8) (v := .int 0) (C := RX8) (T := TX8) (N := 4) hx hb hts hiX8 hown hK hP 0 rfl rfl 2 (by decide) (hts (.fieldLink RX8 19 "WallChapels$Tape" "head" "I") (by decide +kernel)) (fun _ h9 => h9) rfl dX8_ahead_1 ?_
  refine lv_aload_n hx hb dX8_ahead_4 rfl (lv_at hl 0 rfl) ?_
  refine va_get (D := (dC, dI)) (ci := 8) (v := .int 0) (C := RX8) (T := TX8) (N := 4) hx hb hts hiX8 hown hK hP 0 rfl rfl 1 (by decide) (hts (.fieldLink RX8 15 "WallChapels$Tape" "length" "I") (by decide +kernel)) (fun _ h9 => h9) rfl dX8_ahead_5 ?_
  refine lv_icmp_ge (tgt := 33) hx hb dX8_ahead_8 (by decide) (fun c_1 => ?_) (fun c_1 => absurd (by decide) c_1)
  refine lv_aload_n hx hb dX8_ahead_33 rfl (lv_at hl 0 rfl) ?_
  have hPc := hP.sub (ws' := [((q 0), .inr (8, [.ref (q 16), .int 0, .int 0, .int (-1)]))]) [0] rfl
  have hDc := hD.sub (ws' := [((q 0), .inr (8, [.ref (q 16), .int 0, .int 0, .int (-1)]))]) [0] (by decide) rfl
  have hKc := hK.sub (tys' := []) [] rfl
  have hFc := va_free (wc := [((q 0), .inr (8, [.ref (q 16), .int 0, .int 0, .int (-1)]))]) hD hS hA [0] rfl
  refine va_calli (va_runV (As := []) (rest := []) ⟨hx, hb, hml, hown, hts⟩ (f_X8_byteAtHead_a1 l dC dI s.heap.size q ) (cwV 0 hts g_f_X8_ahead_a1_f_X8_byteAtHead_a1 rfl rfl rfl (by decide +kernel) ⟨Nat.le_of_ble_eq_true rfl, Nat.le_of_ble_eq_true rfl⟩) ⟨cW_blind, va_recv hKc hPc (ci := 8) (q0 := 0) rfl rfl, fun U hU hW => ⟨rfl, cW_use hU hW hPc hKc hDc hG⟩⟩ rfl rfl hl.1 rfl (lv_room (Nat.le_of_ble_eq_true rfl)) dX8_ahead_34 ⟨Nat.le_of_ble_eq_true rfl, Nat.le_of_ble_eq_true rfl⟩) hS (fun q _ h => hFc q h) hFc (fun r_2 u t H1 locs ht hvm hw hB hz1 hk1 hS => ?_)
  obtain ⟨hP1, hK1, hD1⟩ := hB
  rw [ht] at hP1
  have hK1 := va_K.moved hvm.symm hK1
  obtain ⟨hP, hD⟩ := va_join (wr := []) (w1 := [((q 0), .inr (8, [.ref (q 16), .int 0, .int 0, .int (-1)]))]) hP hD [0] [] rfl rfl (by decide) (by decide) hk1 hFc hP1 hD1
  generalize H1 = H at hP hS ⊢
  have hP : va_P (dC, dI) vwCl [((q 0), .inr (8, [.ref (q 16), .int 0, .int 0, .int (-1)]))] H := hP
  have hD : va_D A [((q 0), .inr (8, [.ref (q 16), .int 0, .int 0, .int (-1)]))] := hD
  refine W.widen (k := 0) (n := 0) (Nat.le_of_ble_eq_true rfl) (Nat.le_of_ble_eq_true rfl) ?_
  obtain rfl : r_2 = (-1) := hw
  have hP9 := hP.sub (ws' := [((q 0), .inr (8, [.ref (q 16), .int 0, .int 0, .int (-1)]))]) [0] rfl
  have hD9 := hD.sub (ws' := [((q 0), .inr (8, [.ref (q 16), .int 0, .int 0, .int (-1)]))]) [0] (by decide) rfl
  have hK9 := hK.sub (tys' := []) [] rfl
  exact W.iret (v := (-1)) hx hb hr (fun t ht hW => ⟨⟨(-1), (), rfl, rfl, ⟨by rw [ht]; exact hP9, va_K.moved hW.alike hK9, hD9⟩⟩, hS.F ht⟩) hS.2.2 dX8_ahead_37
def vs_f_X8_refuseHere_a1 : List Cond := .code yX8_refuseHere cX8_refuseHere 1 (some .boolean) :: ([.fieldLink RX8 19 "WallChapels$Tape" "head" "I", .fieldLink RX8 22 "WallChapels$Tape" "wrong" "I"] ++ (u_ws RX8 TX8 4))
theorem vs_f_X8_refuseHere_a1_uX8 : ∀ w ∈ u_ws RX8 TX8 4, w ∈ vs_f_X8_refuseHere_a1 := fun _ h => List.mem_cons_of_mem _ (List.mem_append_right _ (h))
set_option maxHeartbeats 4000000 in
set_option maxRecDepth 100000 in
theorem f_X8_refuseHere_a1 (l : Launch) (dC : Nat → ClassId) (dI : Nat → Nat → Nat) (sz : Nat) (q : Nat → Nat) : Met l yX8_refuseHere vs_f_X8_refuseHere_a1 ({ frames := 0, cells := 0, slots := 0, locals := 0 }) (va_Pc [.ref (q 0)] (cW dC dI [((q 0), .inr (8, [.ref (q 16), .int 0, .int 0, .int (-1)]))] [] sz)) (va_Qi (fun (r : Int32) (_ : Unit) => r = 0) (fun (_ : Unit) (t : State) => cB dC dI (va_A [((q 0), .inr (8, [.ref (q 16), .int 0, .int 0, .int (-1)]))] sz) [((q 0), .inr (8, [.ref (q 16), .int 0, .int 0, .int 0]))] [] t) (va_A [((q 0), .inr (8, [.ref (q 16), .int 0, .int 0, .int (-1)]))] sz)) 0 0 (va_A [((q 0), .inr (8, [.ref (q 16), .int 0, .int 0, .int (-1)]))] sz) := by
  refine Met.ofW (cc := cX8_refuseHere) (maxL := 1) (ret := (some .boolean)) (by decide) rfl ?_
  intro p e s m args below meth c s₁ B hml hv
  obtain ⟨rfl, hsz, hP, hK, hD0, hG⟩ := hv
  have hx := B.exec
  have hb := B.bytes
  have hr := B.returns
  have hts := atoms_spec (ws := vs_f_X8_refuseHere_a1) B.pre
  have hown : s.vm.findClass RX8 = some m.cls := findClass_of_methodNamed B.named
  have hlocks := B.notSynchronized
  have hiX8 : ∀ w ∈ u_ws RX8 TX8 4, w ∈ vs_f_X8_refuseHere_a1 := vs_f_X8_refuseHere_a1_uX8
  subst hsz
  have hD := hD0.self (sz := s.heap.size)
  generalize hAe : va_A [((q 0), .inr (8, [.ref (q 16), .int 0, .int 0, .int (-1)]))] s.heap.size = A at hD ⊢
  have hA : ∀ q : Nat, s.heap.size ≤ q → A q := fun q h => by rw [← hAe]; exact Or.inr h
  have hS : va_S A s.heap s.heap [] := va_S.rf
  have hP : va_P (dC, dI) vwCl [((q 0), .inr (8, [.ref (q 16), .int 0, .int 0, .int (-1)]))] s.heap := hP
  have hl := lv_entry ([.ref (q 0)]) (n := 1) (Nat.le_of_ble_eq_true rfl)
  rw [lg_entry_eq]
  generalize (lg_sl ([.ref (q 0)]) ++ List.replicate (1 - (lg_sl ([.ref (q 0)])).length) Slot.unset).toArray = ls at hl ⊢
  have hl : lv_has ls 1 [(0, .ref (q 0))] := hl
  refine lv_aload_n hx hb dX8_refuseHere_0 rfl (lv_at hl 0 rfl) ?_
  refine lv_aload_n hx hb dX8_refuseHere_1 rfl (lv_at hl 0 rfl) ?_
  refine va_get (D := (dC, dI)) (ci := 8) (v := .int 0) (C := RX8) (T := TX8) (N := 4) hx hb hts hiX8 hown hK hP 0 rfl rfl 2 (by decide) (hts (.fieldLink RX8 19 "WallChapels$Tape" "head" "I") (by decide +kernel)) (fun _ h9 => h9) rfl dX8_refuseHere_2 ?_
  refine va_put (D := (dC, dI)) (ci := 8) (v := .int 0) (ty := .int) (C := RX8) (T := TX8) (N := 4) hx hb hts hiX8 tyX8 tyX8_ok nmX8 hown hK hP hD hS 0 rfl rfl 3 (by decide) (hts (.fieldLink RX8 22 "WallChapels$Tape" "wrong" "I") (by decide +kernel)) (fun _ h9 => h9) rfl (by decide +kernel) rfl rfl (Nat.le_of_ble_eq_true rfl) dX8_refuseHere_5 (fun H locs hP hD hS => ?_)
  have hP : va_P (dC, dI) vwCl [((q 0), .inr (8, [.ref (q 16), .int 0, .int 0, .int 0]))] H := hP
  have hD : va_D A [((q 0), .inr (8, [.ref (q 16), .int 0, .int 0, .int 0]))] := hD
  refine lv_iconst (v := 0) hx hb dX8_refuseHere_8 (by decide) ?_
  have hP9 := hP.sub (ws' := [((q 0), .inr (8, [.ref (q 16), .int 0, .int 0, .int 0]))]) [0] rfl
  have hD9 := hD.sub (ws' := [((q 0), .inr (8, [.ref (q 16), .int 0, .int 0, .int 0]))]) [0] (by decide) rfl
  have hK9 := hK.sub (tys' := []) [] rfl
  exact W.zret (v := 0) hx hb hr rfl (fun t ht hW => ⟨⟨0, (), rfl, rfl, ⟨by rw [ht]; exact hP9, va_K.moved hW.alike hK9, hD9⟩⟩, hS.F ht⟩) hS.2.2 dX8_refuseHere_9
def vs_f_X5_readClause_a1 : List Cond := .code yX5_readClause cX5_readClause 4 (some .boolean) :: ([.initialized RX8, .instanceMethod yX8_ahead, .selects RX8 yX8_ahead yX8_ahead, .fieldLink RX8 19 "WallChapels$Tape" "head" "I", .fieldLink RX8 15 "WallChapels$Tape" "length" "I", .instanceMethod yX8_byteAtHead, .selects RX8 yX8_byteAtHead yX8_byteAtHead, .code yX8_byteAtHead cX8_byteAtHead 1 (some .int), .methodLink RX8 25 yX8_byteAtHead, .code yX8_ahead cX8_ahead 1 (some .int), .instanceMethod yX8_refuseHere, .selects RX8 yX8_refuseHere yX8_refuseHere, .fieldLink RX8 22 "WallChapels$Tape" "wrong" "I", .code yX8_refuseHere cX8_refuseHere 1 (some .boolean)] ++ (u_ws RX8 TX8 4))
theorem vs_f_X5_readClause_a1_uX8 : ∀ w ∈ u_ws RX8 TX8 4, w ∈ vs_f_X5_readClause_a1 := fun _ h => List.mem_cons_of_mem _ (List.mem_append_right _ (h))
set_option maxRecDepth 20000 in
theorem g_f_X5_readClause_a1_f_X8_ahead_a1 : GoodIn vs_f_X5_readClause_a1 vs_f_X8_ahead_a1 := goodIn_r _ [10, 4, 5, 1, 6, 7, 8, 9, 15, 16, 17, 18] (by decide +kernel) (by decide +kernel)
set_option maxRecDepth 20000 in
theorem g_f_X5_readClause_a1_f_X8_refuseHere_a1 : GoodIn vs_f_X5_readClause_a1 vs_f_X8_refuseHere_a1 := goodIn_r _ [14, 4, 13, 15, 16, 17, 18] (by decide +kernel) (by decide +kernel)
set_option maxHeartbeats 4000000 in
set_option maxRecDepth 100000 in
theorem f_X5_readClause_a1 (l : Launch) (dC : Nat → ClassId) (dI : Nat → Nat → Nat) (sz : Nat) (q : Nat → Nat) : Met l yX5_readClause vs_f_X5_readClause_a1 ({ frames := 2, cells := 0, slots := 0, locals := 40 }) (va_Pc [.ref (q 2), .ref (q 0)] (cW dC dI [((q 2), .inr (5, [.int 0, .int 0, .int 0, .int 0, .ref (q 24), .ref (q 25), .ref (q 26), .ref (q 27)])), ((q 0), .inr (8, [.ref (q 16), .int 0, .int 0, .int (-1)]))] [] sz)) (va_Qi (fun (r : Int32) (_ : Unit) => r = 0) (fun (_ : Unit) (t : State) => cB dC dI (va_A [((q 2), .inr (5, [.int 0, .int 0, .int 0, .int 0, .ref (q 24), .ref (q 25), .ref (q 26), .ref (q 27)])), ((q 0), .inr (8, [.ref (q 16), .int 0, .int 0, .int (-1)]))] sz) [((q 2), .inr (5, [.int 0, .int 0, .int 0, .int 0, .ref (q 24), .ref (q 25), .ref (q 26), .ref (q 27)])), ((q 0), .inr (8, [.ref (q 16), .int 0, .int 0, .int 0]))] [] t) (va_A [((q 2), .inr (5, [.int 0, .int 0, .int 0, .int 0, .ref (q 24), .ref (q 25), .ref (q 26), .ref (q 27)])), ((q 0), .inr (8, [.ref (q 16), .int 0, .int 0, .int (-1)]))] sz)) 0 0 (va_A [((q 2), .inr (5, [.int 0, .int 0, .int 0, .int 0, .ref (q 24), .ref (q 25), .ref (q 26), .ref (q 27)])), ((q 0), .inr (8, [.ref (q 16), .int 0, .int 0, .int (-1)]))] sz) := by
  refine Met.ofW (cc := cX5_readClause) (maxL := 4) (ret := (some .boolean)) (by decide) rfl ?_
  intro p e s m args below meth c s₁ B hml hv
  obtain ⟨rfl, hsz, hP, hK, hD0, hG⟩ := hv
  have hx := B.exec
  have hb := B.bytes
  have hr := B.returns
  have hts := atoms_spec (ws := vs_f_X5_readClause_a1) B.pre
  have hown : s.vm.findClass RX5 = some m.cls := findClass_of_methodNamed B.named
  have hlocks := B.notSynchronized
  have hiX8 : ∀ w ∈ u_ws RX8 TX8 4, w ∈ vs_f_X5_readClause_a1 := vs_f_X5_readClause_a1_uX8
  subst hsz
  have hD := hD0.self (sz := s.heap.size)
  generalize hAe : va_A [((q 2), .inr (5, [.int 0, .int 0, .int 0, .int 0, .ref (q 24), .ref (q 25), .ref (q 26), .ref (q 27)])), ((q 0), .inr (8, [.ref (q 16), .int 0, .int 0, .int (-1)]))] s.heap.size = A at hD ⊢
  have hA : ∀ q : Nat, s.heap.size ≤ q → A q := fun q h => by rw [← hAe]; exact Or.inr h
  have hS : va_S A s.heap s.heap [] := va_S.rf
  have hP : va_P (dC, dI) vwCl [((q 2), .inr (5, [.int 0, .int 0, .int 0, .int 0, .ref (q 24), .ref (q 25), .ref (q 26), .ref (q 27)])), ((q 0), .inr (8, [.ref (q 16), .int 0, .int 0, .int (-1)]))] s.heap := hP
  have hl := lv_entry ([.ref (q 2), .ref (q 0)]) (n := 4) (Nat.le_of_ble_eq_true rfl)
  rw [lg_entry_eq]
  generalize (lg_sl ([.ref (q 2), .ref (q 0)]) ++ List.replicate (4 - (lg_sl ([.ref (q 2), .ref (q 0)])).length) Slot.unset).toArray = ls at hl ⊢
  have hl : lv_has ls 4 [(0, .ref (q 2)), (1, .ref (q 0))] := hl
  refine lv_aload_n hx hb dX5_readClause_0 rfl (lv_at hl 1 rfl) ?_
  have hPc := hP.sub (ws' := [((q 0), .inr (8, [.ref (q 16), .int 0, .int 0, .int (-1)]))]) [1] rfl
  have hDc := hD.sub (ws' := [((q 0), .inr (8, [.ref (q 16), .int 0, .int 0, .int (-1)]))]) [1] (by decide) rfl
  have hKc := hK.sub (tys' := []) [] rfl
  have hFc := va_free (wc := [((q 0), .inr (8, [.ref (q 16), .int 0, .int 0, .int (-1)]))]) hD hS hA [1] rfl
  refine va_calli (va_runVN (As := []) (rest := []) ⟨hx, hb, hml, hown, hts⟩ (f_X8_ahead_a1 l dC dI s.heap.size q ) ⟨va_cnB 0 hts g_f_X5_readClause_a1_f_X8_ahead_a1 rfl rfl rfl (gx_n hG 63 rfl) (hts (.initialized RX8) (by decide +kernel)) (by decide +kernel) ⟨Nat.le_of_ble_eq_true rfl, Nat.le_of_ble_eq_true rfl⟩, (hts (.instanceMethod yX8_ahead) (by decide +kernel)), (hts (.selects RX8 yX8_ahead yX8_ahead) (by decide +kernel))⟩ ⟨cW_blind, va_recv hKc hPc (ci := 8) (q0 := 0) rfl rfl, fun U hU hW => ⟨rfl, cW_use hU hW hPc hKc hDc hG⟩⟩ rfl rfl hl.1 rfl (lv_room (Nat.le_of_ble_eq_true rfl)) dX5_readClause_1 ⟨Nat.le_of_ble_eq_true rfl, Nat.le_of_ble_eq_true rfl⟩) hS (fun q _ h => hFc q h) hFc (fun r_1 u t H1 locs ht hvm hw hB hz1 hk1 hS => ?_)
  obtain ⟨hP1, hK1, hD1⟩ := hB
  rw [ht] at hP1
  have hK1 := va_K.moved hvm.symm hK1
  obtain ⟨hP, hD⟩ := va_join (wr := [((q 2), .inr (5, [.int 0, .int 0, .int 0, .int 0, .ref (q 24), .ref (q 25), .ref (q 26), .ref (q 27)]))]) (w1 := [((q 0), .inr (8, [.ref (q 16), .int 0, .int 0, .int (-1)]))]) hP hD [1] [0] rfl rfl (by decide) (by decide) hk1 hFc hP1 hD1
  generalize H1 = H at hP hS ⊢
  have hP : va_P (dC, dI) vwCl [((q 2), .inr (5, [.int 0, .int 0, .int 0, .int 0, .ref (q 24), .ref (q 25), .ref (q 26), .ref (q 27)])), ((q 0), .inr (8, [.ref (q 16), .int 0, .int 0, .int (-1)]))] H := hP
  have hD : va_D A [((q 2), .inr (5, [.int 0, .int 0, .int 0, .int 0, .ref (q 24), .ref (q 25), .ref (q 26), .ref (q 27)])), ((q 0), .inr (8, [.ref (q 16), .int 0, .int 0, .int (-1)]))] := hD
  refine W.widen (k := 0) (n := 0) (Nat.le_of_ble_eq_true rfl) (Nat.le_of_ble_eq_true rfl) ?_
  obtain rfl : r_1 = (-1) := hw
  refine lv_istore_n (lv' := [(2, .int (-1)), (0, .ref (q 2)), (1, .ref (q 0))]) hx hb dX5_readClause_4 rfl hl (by decide) rfl (fun ls hl => ?_)
  refine lv_iload_n hx hb dX5_readClause_5 rfl (lv_at hl 0 rfl) ?_
  refine lv_bipush (v := 115) hx hb dX5_readClause_6 (by decide) ?_
  refine lv_icmp_ne (tgt := 45) hx hb dX5_readClause_8 (by decide) (fun c_2 => ?_) (fun c_2 => absurd c_2 (by decide))
  refine lv_iload_n hx hb dX5_readClause_45 rfl (lv_at hl 0 rfl) ?_
  refine lv_bipush (v := 101) hx hb dX5_readClause_46 (by decide) ?_
  refine lv_icmp_ne (tgt := 109) hx hb dX5_readClause_48 (by decide) (fun c_3 => ?_) (fun c_3 => absurd c_3 (by decide))
  refine lv_iload_n hx hb dX5_readClause_109 rfl (lv_at hl 0 rfl) ?_
  refine lv_bipush (v := 112) hx hb dX5_readClause_110 (by decide) ?_
  refine lv_icmp_ne (tgt := 172) hx hb dX5_readClause_112 (by decide) (fun c_4 => ?_) (fun c_4 => absurd c_4 (by decide))
  refine lv_aload_n hx hb dX5_readClause_172 rfl (lv_at hl 2 rfl) ?_
  have hPc := hP.sub (ws' := [((q 0), .inr (8, [.ref (q 16), .int 0, .int 0, .int (-1)]))]) [1] rfl
  have hDc := hD.sub (ws' := [((q 0), .inr (8, [.ref (q 16), .int 0, .int 0, .int (-1)]))]) [1] (by decide) rfl
  have hKc := hK.sub (tys' := []) [] rfl
  have hFc := va_free (wc := [((q 0), .inr (8, [.ref (q 16), .int 0, .int 0, .int (-1)]))]) hD hS hA [1] rfl
  refine va_calli (va_runVN (As := []) (rest := []) ⟨hx, hb, hml, hown, hts⟩ (f_X8_refuseHere_a1 l dC dI H.size q ) ⟨va_cnB 0 hts g_f_X5_readClause_a1_f_X8_refuseHere_a1 rfl rfl rfl (gx_n hG 65 rfl) (hts (.initialized RX8) (by decide +kernel)) (by decide +kernel) ⟨Nat.le_of_ble_eq_true rfl, Nat.le_of_ble_eq_true rfl⟩, (hts (.instanceMethod yX8_refuseHere) (by decide +kernel)), (hts (.selects RX8 yX8_refuseHere yX8_refuseHere) (by decide +kernel))⟩ ⟨cW_blind, va_recv hKc hPc (ci := 8) (q0 := 0) rfl rfl, fun U hU hW => ⟨rfl, cW_use hU hW hPc hKc hDc hG⟩⟩ rfl rfl hl.1 rfl (lv_room (Nat.le_of_ble_eq_true rfl)) dX5_readClause_173 ⟨Nat.le_of_ble_eq_true rfl, Nat.le_of_ble_eq_true rfl⟩) hS (fun q _ h => hFc q h) hFc (fun r_5 u t H1 locs ht hvm hw hB hz1 hk1 hS => ?_)
  obtain ⟨hP1, hK1, hD1⟩ := hB
  rw [ht] at hP1
  have hK1 := va_K.moved hvm.symm hK1
  obtain ⟨hP, hD⟩ := va_join (wr := [((q 2), .inr (5, [.int 0, .int 0, .int 0, .int 0, .ref (q 24), .ref (q 25), .ref (q 26), .ref (q 27)]))]) (w1 := [((q 0), .inr (8, [.ref (q 16), .int 0, .int 0, .int 0]))]) hP hD [1] [0] rfl rfl (by decide) (by decide) hk1 hFc hP1 hD1
  generalize H1 = H at hP hS ⊢
  have hP : va_P (dC, dI) vwCl [((q 2), .inr (5, [.int 0, .int 0, .int 0, .int 0, .ref (q 24), .ref (q 25), .ref (q 26), .ref (q 27)])), ((q 0), .inr (8, [.ref (q 16), .int 0, .int 0, .int 0]))] H := hP
  have hD : va_D A [((q 2), .inr (5, [.int 0, .int 0, .int 0, .int 0, .ref (q 24), .ref (q 25), .ref (q 26), .ref (q 27)])), ((q 0), .inr (8, [.ref (q 16), .int 0, .int 0, .int 0]))] := hD
  refine W.widen (k := 0) (n := 0) (Nat.le_of_ble_eq_true rfl) (Nat.le_of_ble_eq_true rfl) ?_
  obtain rfl : r_5 = 0 := hw
  have hP9 := hP.sub (ws' := [((q 2), .inr (5, [.int 0, .int 0, .int 0, .int 0, .ref (q 24), .ref (q 25), .ref (q 26), .ref (q 27)])), ((q 0), .inr (8, [.ref (q 16), .int 0, .int 0, .int 0]))]) [0, 1] rfl
  have hD9 := hD.sub (ws' := [((q 2), .inr (5, [.int 0, .int 0, .int 0, .int 0, .ref (q 24), .ref (q 25), .ref (q 26), .ref (q 27)])), ((q 0), .inr (8, [.ref (q 16), .int 0, .int 0, .int 0]))]) [0, 1] (by decide) rfl
  have hK9 := hK.sub (tys' := []) [] rfl
  exact W.zret (v := 0) hx hb hr rfl (fun t ht hW => ⟨⟨0, (), rfl, rfl, ⟨by rw [ht]; exact hP9, va_K.moved hW.alike hK9, hD9⟩⟩, hS.F ht⟩) hS.2.2 dX5_readClause_176
def vs_f_X5_readFrom_a1 : List Cond := .code yX5_readFrom cX5_readFrom 3 (some .int) :: ([.initialized RX5, .instanceMethod yX5_begin, .selects RX5 yX5_begin yX5_begin, .fieldLink RX5 26 "WallChapels$Plan" "corners" "I", .fieldLink RX5 30 "WallChapels$Plan" "streets" "I", .fieldLink RX5 33 "WallChapels$Plan" "walkers" "I", .fieldLink RX5 75 "WallChapels$Plan" "ruled" "Z", .fieldLink RX5 79 "WallChapels$Plan" "RULE_WITHOUT" "[I", .fieldLink RX5 9 "WallChapels$Plan" "rules" "[I", .native arraycopyName, .static arraycopyName, .initialized RJ10, .methodLink RX5 36 arraycopyName, .code yX5_begin cX5_begin 1 none, .methodLink RX5 42 yX5_begin, .initialized RX8, .instanceMethod yX8_rewind, .selects RX8 yX8_rewind yX8_rewind, .fieldLink RX8 19 "WallChapels$Tape" "head" "I", .fieldLink RX8 22 "WallChapels$Tape" "wrong" "I", .code yX8_rewind cX8_rewind 1 none, .instanceMethod yX5_readClause, .selects RX5 yX5_readClause yX5_readClause, .instanceMethod yX8_ahead, .selects RX8 yX8_ahead yX8_ahead, .fieldLink RX8 15 "WallChapels$Tape" "length" "I", .instanceMethod yX8_byteAtHead, .selects RX8 yX8_byteAtHead yX8_byteAtHead, .code yX8_byteAtHead cX8_byteAtHead 1 (some .int), .methodLink RX8 25 yX8_byteAtHead, .code yX8_ahead cX8_ahead 1 (some .int), .instanceMethod yX8_refuseHere, .selects RX8 yX8_refuseHere yX8_refuseHere, .code yX8_refuseHere cX8_refuseHere 1 (some .boolean), .code yX5_readClause cX5_readClause 4 (some .boolean), .methodLink RX5 50 yX5_readClause] ++ (u_ws RX5 TX5 8 ++ (u_ws RX8 TX8 4)))
theorem vs_f_X5_readFrom_a1_uX5 : ∀ w ∈ u_ws RX5 TX5 8, w ∈ vs_f_X5_readFrom_a1 := fun _ h => List.mem_cons_of_mem _ (List.mem_append_right _ (List.mem_append_left _ h))
theorem vs_f_X5_readFrom_a1_uX8 : ∀ w ∈ u_ws RX8 TX8 4, w ∈ vs_f_X5_readFrom_a1 := fun _ h => List.mem_cons_of_mem _ (List.mem_append_right _ (List.mem_append_right _ (h)))
set_option maxRecDepth 20000 in
theorem g_f_X5_readFrom_a1_f_X5_begin_a1 : GoodIn vs_f_X5_readFrom_a1 (wsV RX5 42 RX5 yX5_begin vs_f_X5_begin_a1) := goodIn_r _ [15, 2, 3, 1, 14, 4, 5, 6, 7, 8, 9, 10, 11, 12, 13, 37, 38, 39, 40, 41, 42, 43, 44] (by decide +kernel) (by decide +kernel)
set_option maxRecDepth 20000 in
theorem g_f_X5_readFrom_a1_f_X8_rewind_a1 : GoodIn vs_f_X5_readFrom_a1 vs_f_X8_rewind_a1 := goodIn_r _ [21, 19, 20, 45, 46, 47, 48] (by decide +kernel) (by decide +kernel)
set_option maxRecDepth 20000 in
theorem g_f_X5_readFrom_a1_f_X5_readClause_a1 : GoodIn vs_f_X5_readFrom_a1 (wsV RX5 50 RX5 yX5_readClause vs_f_X5_readClause_a1) := goodIn_r _ [36, 22, 23, 1, 35, 16, 24, 25, 19, 26, 27, 28, 29, 30, 31, 32, 33, 20, 34, 45, 46, 47, 48] (by decide +kernel) (by decide +kernel)
set_option maxHeartbeats 4000000 in
set_option maxRecDepth 100000 in
theorem f_X5_readFrom_a1 (l : Launch) (dC : Nat → ClassId) (dI : Nat → Nat → Nat) (sz : Nat) (sk sv : Nat → Nat) (s2 tz : Nat) (q : Nat → Nat) (kR : ClassId) : Met l yX5_readFrom vs_f_X5_readFrom_a1 ({ frames := 3, cells := 0, slots := 0, locals := 63 }) (va_Pc [.ref (q 2), .ref (q 0)] (cWx dC dI [((q 2), .inr (5, [.int 0, .int 0, .int 0, .int 0, .ref (q 24), .ref (q 25), .ref (q 26), .ref (q 27)])), ((q 24), .inl (kR, 2, .inl (fun _ => 0))), ((q 0), .inr (8, [.ref (q 16), .int 0, .int 0, .int 0]))] [(kR, .int)] sz sk sv s2 tz)) (va_Qi (fun (r : Int32) (_ : Unit) => r = 0) (fun (_ : Unit) (t : State) => cB dC dI (va_A [((q 2), .inr (5, [.int 0, .int 0, .int 0, .int 0, .ref (q 24), .ref (q 25), .ref (q 26), .ref (q 27)])), ((q 24), .inl (kR, 2, .inl (fun _ => 0))), ((q 0), .inr (8, [.ref (q 16), .int 0, .int 0, .int 0]))] sz) [((q 2), .inr (5, [.int 0, .int 0, .int 0, .int 0, .ref (q 24), .ref (q 25), .ref (q 26), .ref (q 27)])), ((q 0), .inr (8, [.ref (q 16), .int 0, .int 0, .int 0]))] [] t) (va_A [((q 2), .inr (5, [.int 0, .int 0, .int 0, .int 0, .ref (q 24), .ref (q 25), .ref (q 26), .ref (q 27)])), ((q 24), .inl (kR, 2, .inl (fun _ => 0))), ((q 0), .inr (8, [.ref (q 16), .int 0, .int 0, .int 0]))] sz)) 0 0 (va_A [((q 2), .inr (5, [.int 0, .int 0, .int 0, .int 0, .ref (q 24), .ref (q 25), .ref (q 26), .ref (q 27)])), ((q 24), .inl (kR, 2, .inl (fun _ => 0))), ((q 0), .inr (8, [.ref (q 16), .int 0, .int 0, .int 0]))] sz) := by
  refine Met.ofW (cc := cX5_readFrom) (maxL := 3) (ret := (some .int)) (by decide) rfl ?_
  intro p e s m args below meth c s₁ B hml hv
  obtain ⟨rfl, ⟨hsz, hP, hK, hD0, hG⟩, hE⟩ := hv
  have hx := B.exec
  have hb := B.bytes
  have hr := B.returns
  have hts := atoms_spec (ws := vs_f_X5_readFrom_a1) B.pre
  have hown : s.vm.findClass RX5 = some m.cls := findClass_of_methodNamed B.named
  have hlocks := B.notSynchronized
  have hiX5 : ∀ w ∈ u_ws RX5 TX5 8, w ∈ vs_f_X5_readFrom_a1 := vs_f_X5_readFrom_a1_uX5
  have hiX8 : ∀ w ∈ u_ws RX8 TX8 4, w ∈ vs_f_X5_readFrom_a1 := vs_f_X5_readFrom_a1_uX8
  subst hsz
  have hD := hD0.self (sz := s.heap.size)
  generalize hAe : va_A [((q 2), .inr (5, [.int 0, .int 0, .int 0, .int 0, .ref (q 24), .ref (q 25), .ref (q 26), .ref (q 27)])), ((q 24), .inl (kR, 2, .inl (fun _ => 0))), ((q 0), .inr (8, [.ref (q 16), .int 0, .int 0, .int 0]))] s.heap.size = A at hD hE ⊢
  have hA : ∀ q : Nat, s.heap.size ≤ q → A q := fun q h => by rw [← hAe]; exact Or.inr h
  have hS : va_S A s.heap s.heap [] := va_S.rf
  have hP : va_P (dC, dI) vwCl [((q 2), .inr (5, [.int 0, .int 0, .int 0, .int 0, .ref (q 24), .ref (q 25), .ref (q 26), .ref (q 27)])), ((q 24), .inl (kR, 2, .inl (fun _ => 0))), ((q 0), .inr (8, [.ref (q 16), .int 0, .int 0, .int 0]))] s.heap := hP
  have hl := lv_entry ([.ref (q 2), .ref (q 0)]) (n := 3) (Nat.le_of_ble_eq_true rfl)
  rw [lg_entry_eq]
  generalize (lg_sl ([.ref (q 2), .ref (q 0)]) ++ List.replicate (3 - (lg_sl ([.ref (q 2), .ref (q 0)])).length) Slot.unset).toArray = ls at hl ⊢
  have hl : lv_has ls 3 [(0, .ref (q 2)), (1, .ref (q 0))] := hl
  refine lv_aload_n hx hb dX5_readFrom_0 rfl (lv_at hl 0 rfl) ?_
  have hPc := hP.sub (ws' := [((q 2), .inr (5, [.int 0, .int 0, .int 0, .int 0, .ref (q 24), .ref (q 25), .ref (q 26), .ref (q 27)])), ((q 24), .inl (kR, 2, .inl (fun _ => 0)))]) [0, 1] rfl
  have hDc := hD.sub (ws' := [((q 2), .inr (5, [.int 0, .int 0, .int 0, .int 0, .ref (q 24), .ref (q 25), .ref (q 26), .ref (q 27)])), ((q 24), .inl (kR, 2, .inl (fun _ => 0)))]) [0, 1] (by decide) rfl
  have hKc := hK.sub (tys' := [(kR, .int)]) [0] rfl
  have hFc := va_free (wc := [((q 2), .inr (5, [.int 0, .int 0, .int 0, .int 0, .ref (q 24), .ref (q 25), .ref (q 26), .ref (q 27)])), ((q 24), .inl (kR, 2, .inl (fun _ => 0)))]) hD hS hA [0, 1] rfl
  refine va_callv (va_runV (As := []) (rest := []) ⟨hx, hb, hml, hown, hts⟩ (f_X5_begin_a1 l dC dI s.heap.size sk sv s2 tz q kR ) (cwV 0 hts g_f_X5_readFrom_a1_f_X5_begin_a1 rfl rfl rfl (by decide +kernel) ⟨Nat.le_of_ble_eq_true rfl, Nat.le_of_ble_eq_true rfl⟩) ⟨cW_blindx, va_recv hKc hPc (ci := 5) (q0 := 0) rfl rfl, fun U hU hW => ⟨rfl, cW_usex hU hW hPc hKc hDc hG hS hFc hE⟩⟩ rfl rfl hl.1 rfl (lv_room (Nat.le_of_ble_eq_true rfl)) dX5_readFrom_1 ⟨Nat.le_of_ble_eq_true rfl, Nat.le_of_ble_eq_true rfl⟩) hS (fun q _ h => hFc q h) hFc (fun u t H1 locs ht hvm hw hB hz1 hk1 hS => ?_)
  obtain ⟨hP1, hK1, hD1⟩ := hB
  rw [ht] at hP1
  have hK1 := va_K.moved hvm.symm hK1
  obtain ⟨hP, hD⟩ := va_join (wr := [((q 0), .inr (8, [.ref (q 16), .int 0, .int 0, .int 0]))]) (w1 := [((q 2), .inr (5, [.int 0, .int 0, .int 0, .int 0, .ref (q 24), .ref (q 25), .ref (q 26), .ref (q 27)]))]) hP hD [0, 1] [2] rfl rfl (by decide) (by decide) hk1 hFc hP1 hD1
  generalize H1 = H at hP hS ⊢
  have hP : va_P (dC, dI) vwCl [((q 0), .inr (8, [.ref (q 16), .int 0, .int 0, .int 0])), ((q 2), .inr (5, [.int 0, .int 0, .int 0, .int 0, .ref (q 24), .ref (q 25), .ref (q 26), .ref (q 27)]))] H := hP
  have hD : va_D A [((q 0), .inr (8, [.ref (q 16), .int 0, .int 0, .int 0])), ((q 2), .inr (5, [.int 0, .int 0, .int 0, .int 0, .ref (q 24), .ref (q 25), .ref (q 26), .ref (q 27)]))] := hD
  refine W.widen (k := 0) (n := 0) (Nat.le_of_ble_eq_true rfl) (Nat.le_of_ble_eq_true rfl) ?_
  refine lv_aload_n hx hb dX5_readFrom_4 rfl (lv_at hl 1 rfl) ?_
  have hPc := hP.sub (ws' := [((q 0), .inr (8, [.ref (q 16), .int 0, .int 0, .int 0]))]) [0] rfl
  have hDc := hD.sub (ws' := [((q 0), .inr (8, [.ref (q 16), .int 0, .int 0, .int 0]))]) [0] (by decide) rfl
  have hKc := hK.sub (tys' := []) [] rfl
  have hFc := va_free (wc := [((q 0), .inr (8, [.ref (q 16), .int 0, .int 0, .int 0]))]) hD hS hA [0] rfl
  refine va_callv (va_runVN (As := []) (rest := []) ⟨hx, hb, hml, hown, hts⟩ (f_X8_rewind_a1 l dC dI H.size q ) ⟨va_cnB 0 hts g_f_X5_readFrom_a1_f_X8_rewind_a1 rfl rfl rfl (gx_n hG 62 rfl) (hts (.initialized RX8) (by decide +kernel)) (by decide +kernel) ⟨Nat.le_of_ble_eq_true rfl, Nat.le_of_ble_eq_true rfl⟩, (hts (.instanceMethod yX8_rewind) (by decide +kernel)), (hts (.selects RX8 yX8_rewind yX8_rewind) (by decide +kernel))⟩ ⟨cW_blind, va_recv hKc hPc (ci := 8) (q0 := 0) rfl rfl, fun U hU hW => ⟨rfl, cW_use hU hW hPc hKc hDc hG⟩⟩ rfl rfl hl.1 rfl (lv_room (Nat.le_of_ble_eq_true rfl)) dX5_readFrom_5 ⟨Nat.le_of_ble_eq_true rfl, Nat.le_of_ble_eq_true rfl⟩) hS (fun q _ h => hFc q h) hFc (fun u t H1 locs ht hvm hw hB hz1 hk1 hS => ?_)
  obtain ⟨hP1, hK1, hD1⟩ := hB
  rw [ht] at hP1
  have hK1 := va_K.moved hvm.symm hK1
  obtain ⟨hP, hD⟩ := va_join (wr := [((q 2), .inr (5, [.int 0, .int 0, .int 0, .int 0, .ref (q 24), .ref (q 25), .ref (q 26), .ref (q 27)]))]) (w1 := [((q 0), .inr (8, [.ref (q 16), .int 0, .int 0, .int (-1)]))]) hP hD [0] [1] rfl rfl (by decide) (by decide) hk1 hFc hP1 hD1
  generalize H1 = H at hP hS ⊢
  have hP : va_P (dC, dI) vwCl [((q 2), .inr (5, [.int 0, .int 0, .int 0, .int 0, .ref (q 24), .ref (q 25), .ref (q 26), .ref (q 27)])), ((q 0), .inr (8, [.ref (q 16), .int 0, .int 0, .int (-1)]))] H := hP
  have hD : va_D A [((q 2), .inr (5, [.int 0, .int 0, .int 0, .int 0, .ref (q 24), .ref (q 25), .ref (q 26), .ref (q 27)])), ((q 0), .inr (8, [.ref (q 16), .int 0, .int 0, .int (-1)]))] := hD
  refine W.widen (k := 0) (n := 0) (Nat.le_of_ble_eq_true rfl) (Nat.le_of_ble_eq_true rfl) ?_
  refine lv_iconst (v := 0) hx hb dX5_readFrom_8 (by decide) ?_
  refine lv_istore_n (lv' := [(2, .int 0), (0, .ref (q 2)), (1, .ref (q 0))]) hx hb dX5_readFrom_9 rfl hl (by decide) rfl (fun ls hl => ?_)
  refine lv_iload_n hx hb dX5_readFrom_10 rfl (lv_at hl 0 rfl) ?_
  refine lv_sipush (v := 240) hx hb dX5_readFrom_11 (by decide) ?_
  refine lv_icmp_gt (tgt := 61) hx hb dX5_readFrom_14 (by decide) (fun c_3 => absurd c_3 (by decide)) (fun c_3 => ?_)
  refine lv_aload_n hx hb dX5_readFrom_17 rfl (lv_at hl 1 rfl) ?_
  refine lv_aload_n hx hb dX5_readFrom_18 rfl (lv_at hl 2 rfl) ?_
  have hPc := hP.sub (ws' := [((q 2), .inr (5, [.int 0, .int 0, .int 0, .int 0, .ref (q 24), .ref (q 25), .ref (q 26), .ref (q 27)])), ((q 0), .inr (8, [.ref (q 16), .int 0, .int 0, .int (-1)]))]) [0, 1] rfl
  have hDc := hD.sub (ws' := [((q 2), .inr (5, [.int 0, .int 0, .int 0, .int 0, .ref (q 24), .ref (q 25), .ref (q 26), .ref (q 27)])), ((q 0), .inr (8, [.ref (q 16), .int 0, .int 0, .int (-1)]))]) [0, 1] (by decide) rfl
  have hKc := hK.sub (tys' := []) [] rfl
  have hFc := va_free (wc := [((q 2), .inr (5, [.int 0, .int 0, .int 0, .int 0, .ref (q 24), .ref (q 25), .ref (q 26), .ref (q 27)])), ((q 0), .inr (8, [.ref (q 16), .int 0, .int 0, .int (-1)]))]) hD hS hA [0, 1] rfl
  refine va_calli (va_runV (As := [.ref (q 0)]) (rest := []) ⟨hx, hb, hml, hown, hts⟩ (f_X5_readClause_a1 l dC dI H.size q ) (cwV 1 hts g_f_X5_readFrom_a1_f_X5_readClause_a1 rfl rfl rfl (by decide +kernel) ⟨Nat.le_of_ble_eq_true rfl, Nat.le_of_ble_eq_true rfl⟩) ⟨cW_blind, va_recv hKc hPc (ci := 5) (q0 := 0) rfl rfl, fun U hU hW => ⟨rfl, cW_use hU hW hPc hKc hDc hG⟩⟩ rfl rfl hl.1 rfl (lv_room (Nat.le_of_ble_eq_true rfl)) dX5_readFrom_19 ⟨Nat.le_of_ble_eq_true rfl, Nat.le_of_ble_eq_true rfl⟩) hS (fun q _ h => hFc q h) hFc (fun r_4 u t H1 locs ht hvm hw hB hz1 hk1 hS => ?_)
  obtain ⟨hP1, hK1, hD1⟩ := hB
  rw [ht] at hP1
  have hK1 := va_K.moved hvm.symm hK1
  obtain ⟨hP, hD⟩ := va_join (wr := []) (w1 := [((q 2), .inr (5, [.int 0, .int 0, .int 0, .int 0, .ref (q 24), .ref (q 25), .ref (q 26), .ref (q 27)])), ((q 0), .inr (8, [.ref (q 16), .int 0, .int 0, .int 0]))]) hP hD [0, 1] [] rfl rfl (by decide) (by decide) hk1 hFc hP1 hD1
  generalize H1 = H at hP hS ⊢
  have hP : va_P (dC, dI) vwCl [((q 2), .inr (5, [.int 0, .int 0, .int 0, .int 0, .ref (q 24), .ref (q 25), .ref (q 26), .ref (q 27)])), ((q 0), .inr (8, [.ref (q 16), .int 0, .int 0, .int 0]))] H := hP
  have hD : va_D A [((q 2), .inr (5, [.int 0, .int 0, .int 0, .int 0, .ref (q 24), .ref (q 25), .ref (q 26), .ref (q 27)])), ((q 0), .inr (8, [.ref (q 16), .int 0, .int 0, .int 0]))] := hD
  refine W.widen (k := 0) (n := 0) (Nat.le_of_ble_eq_true rfl) (Nat.le_of_ble_eq_true rfl) ?_
  obtain rfl : r_4 = 0 := hw
  refine lv_if_ne (tgt := 30) hx hb dX5_readFrom_22 (by decide) (fun c_5 => absurd c_5 (by decide)) (fun c_5 => ?_)
  refine lv_aload_n hx hb dX5_readFrom_25 rfl (lv_at hl 2 rfl) ?_
  refine va_getN (D := (dC, dI)) (ci := 8) (v := .int 0) (C := RX8) (T := TX8) (N := 4) hx hb hts hiX8 hown hK hP 1 rfl rfl 3 (by decide) (gx_u hG 6 rfl rfl) (fun _ h9 => h9) rfl dX5_readFrom_26 ?_
  have hP9 := hP.sub (ws' := [((q 2), .inr (5, [.int 0, .int 0, .int 0, .int 0, .ref (q 24), .ref (q 25), .ref (q 26), .ref (q 27)])), ((q 0), .inr (8, [.ref (q 16), .int 0, .int 0, .int 0]))]) [0, 1] rfl
  have hD9 := hD.sub (ws' := [((q 2), .inr (5, [.int 0, .int 0, .int 0, .int 0, .ref (q 24), .ref (q 25), .ref (q 26), .ref (q 27)])), ((q 0), .inr (8, [.ref (q 16), .int 0, .int 0, .int 0]))]) [0, 1] (by decide) rfl
  have hK9 := hK.sub (tys' := []) [] rfl
  exact W.iret (v := 0) hx hb hr (fun t ht hW => ⟨⟨0, (), rfl, rfl, ⟨by rw [ht]; exact hP9, va_K.moved hW.alike hK9, hD9⟩⟩, hS.F ht⟩) hS.2.2 dX5_readFrom_29
def vs_f_X8_take_a1 : List Cond := .code yX8_take cX8_take 2 (some .boolean) :: ([.initialized RX8, .instanceMethod yX8_ahead, .selects RX8 yX8_ahead yX8_ahead, .fieldLink RX8 19 "WallChapels$Tape" "head" "I", .fieldLink RX8 15 "WallChapels$Tape" "length" "I", .instanceMethod yX8_byteAtHead, .selects RX8 yX8_byteAtHead yX8_byteAtHead, .code yX8_byteAtHead cX8_byteAtHead 1 (some .int), .methodLink RX8 25 yX8_byteAtHead, .code yX8_ahead cX8_ahead 1 (some .int), .methodLink RX8 29 yX8_ahead, .instanceMethod yX8_refuseHere, .selects RX8 yX8_refuseHere yX8_refuseHere, .fieldLink RX8 22 "WallChapels$Tape" "wrong" "I", .code yX8_refuseHere cX8_refuseHere 1 (some .boolean), .methodLink RX8 32 yX8_refuseHere] ++ (u_ws RX8 TX8 4))
theorem vs_f_X8_take_a1_uX8 : ∀ w ∈ u_ws RX8 TX8 4, w ∈ vs_f_X8_take_a1 := fun _ h => List.mem_cons_of_mem _ (List.mem_append_right _ (h))
set_option maxRecDepth 20000 in
theorem g_f_X8_take_a1_f_X8_ahead_a1 : GoodIn vs_f_X8_take_a1 (wsV RX8 29 RX8 yX8_ahead vs_f_X8_ahead_a1) := goodIn_r _ [11, 2, 3, 1, 10, 4, 5, 1, 6, 7, 8, 9, 17, 18, 19, 20] (by decide +kernel) (by decide +kernel)
set_option maxRecDepth 20000 in
theorem g_f_X8_take_a1_f_X8_refuseHere_a1 : GoodIn vs_f_X8_take_a1 (wsV RX8 32 RX8 yX8_refuseHere vs_f_X8_refuseHere_a1) := goodIn_r _ [16, 12, 13, 1, 15, 4, 14, 17, 18, 19, 20] (by decide +kernel) (by decide +kernel)
set_option maxHeartbeats 4000000 in
set_option maxRecDepth 100000 in
theorem f_X8_take_a1 (l : Launch) (dC : Nat → ClassId) (dI : Nat → Nat → Nat) (sz : Nat) (q : Nat → Nat) : Met l yX8_take vs_f_X8_take_a1 ({ frames := 2, cells := 0, slots := 0, locals := 40 }) (va_Pc [.ref (q 0), .int 121] (cW dC dI [((q 0), .inr (8, [.ref (q 16), .int 0, .int 0, .int (-1)]))] [] sz)) (va_Qi (fun (r : Int32) (_ : Unit) => r = 0) (fun (_ : Unit) (t : State) => cB dC dI (va_A [((q 0), .inr (8, [.ref (q 16), .int 0, .int 0, .int (-1)]))] sz) [((q 0), .inr (8, [.ref (q 16), .int 0, .int 0, .int 0]))] [] t) (va_A [((q 0), .inr (8, [.ref (q 16), .int 0, .int 0, .int (-1)]))] sz)) 0 0 (va_A [((q 0), .inr (8, [.ref (q 16), .int 0, .int 0, .int (-1)]))] sz) := by
  refine Met.ofW (cc := cX8_take) (maxL := 2) (ret := (some .boolean)) (by decide) rfl ?_
  intro p e s m args below meth c s₁ B hml hv
  obtain ⟨rfl, hsz, hP, hK, hD0, hG⟩ := hv
  have hx := B.exec
  have hb := B.bytes
  have hr := B.returns
  have hts := atoms_spec (ws := vs_f_X8_take_a1) B.pre
  have hown : s.vm.findClass RX8 = some m.cls := findClass_of_methodNamed B.named
  have hlocks := B.notSynchronized
  have hiX8 : ∀ w ∈ u_ws RX8 TX8 4, w ∈ vs_f_X8_take_a1 := vs_f_X8_take_a1_uX8
  subst hsz
  have hD := hD0.self (sz := s.heap.size)
  generalize hAe : va_A [((q 0), .inr (8, [.ref (q 16), .int 0, .int 0, .int (-1)]))] s.heap.size = A at hD ⊢
  have hA : ∀ q : Nat, s.heap.size ≤ q → A q := fun q h => by rw [← hAe]; exact Or.inr h
  have hS : va_S A s.heap s.heap [] := va_S.rf
  have hP : va_P (dC, dI) vwCl [((q 0), .inr (8, [.ref (q 16), .int 0, .int 0, .int (-1)]))] s.heap := hP
  have hl := lv_entry ([.ref (q 0), .int 121]) (n := 2) (Nat.le_of_ble_eq_true rfl)
  rw [lg_entry_eq]
  generalize (lg_sl ([.ref (q 0), .int 121]) ++ List.replicate (2 - (lg_sl ([.ref (q 0), .int 121])).length) Slot.unset).toArray = ls at hl ⊢
  have hl : lv_has ls 2 [(0, .ref (q 0)), (1, .int 121)] := hl
  refine lv_aload_n hx hb dX8_take_0 rfl (lv_at hl 0 rfl) ?_
  have hPc := hP.sub (ws' := [((q 0), .inr (8, [.ref (q 16), .int 0, .int 0, .int (-1)]))]) [0] rfl
  have hDc := hD.sub (ws' := [((q 0), .inr (8, [.ref (q 16), .int 0, .int 0, .int (-1)]))]) [0] (by decide) rfl
  have hKc := hK.sub (tys' := []) [] rfl
  have hFc := va_free (wc := [((q 0), .inr (8, [.ref (q 16), .int 0, .int 0, .int (-1)]))]) hD hS hA [0] rfl
  refine va_calli (va_runV (As := []) (rest := []) ⟨hx, hb, hml, hown, hts⟩ (f_X8_ahead_a1 l dC dI s.heap.size q ) (cwV 0 hts g_f_X8_take_a1_f_X8_ahead_a1 rfl rfl rfl (by decide +kernel) ⟨Nat.le_of_ble_eq_true rfl, Nat.le_of_ble_eq_true rfl⟩) ⟨cW_blind, va_recv hKc hPc (ci := 8) (q0 := 0) rfl rfl, fun U hU hW => ⟨rfl, cW_use hU hW hPc hKc hDc hG⟩⟩ rfl rfl hl.1 rfl (lv_room (Nat.le_of_ble_eq_true rfl)) dX8_take_1 ⟨Nat.le_of_ble_eq_true rfl, Nat.le_of_ble_eq_true rfl⟩) hS (fun q _ h => hFc q h) hFc (fun r_1 u t H1 locs ht hvm hw hB hz1 hk1 hS => ?_)
  obtain ⟨hP1, hK1, hD1⟩ := hB
  rw [ht] at hP1
  have hK1 := va_K.moved hvm.symm hK1
  obtain ⟨hP, hD⟩ := va_join (wr := []) (w1 := [((q 0), .inr (8, [.ref (q 16), .int 0, .int 0, .int (-1)]))]) hP hD [0] [] rfl rfl (by decide) (by decide) hk1 hFc hP1 hD1
  generalize H1 = H at hP hS ⊢
  have hP : va_P (dC, dI) vwCl [((q 0), .inr (8, [.ref (q 16), .int 0, .int 0, .int (-1)]))] H := hP
  have hD : va_D A [((q 0), .inr (8, [.ref (q 16), .int 0, .int 0, .int (-1)]))] := hD
  refine W.widen (k := 0) (n := 0) (Nat.le_of_ble_eq_true rfl) (Nat.le_of_ble_eq_true rfl) ?_
  obtain rfl : r_1 = (-1) := hw
  refine lv_iload_n hx hb dX8_take_4 rfl (lv_at hl 1 rfl) ?_
  refine lv_icmp_eq (tgt := 13) hx hb dX8_take_5 (by decide) (fun c_2 => absurd c_2 (by decide)) (fun c_2 => ?_)
  refine lv_aload_n hx hb dX8_take_8 rfl (lv_at hl 0 rfl) ?_
  have hPc := hP.sub (ws' := [((q 0), .inr (8, [.ref (q 16), .int 0, .int 0, .int (-1)]))]) [0] rfl
  have hDc := hD.sub (ws' := [((q 0), .inr (8, [.ref (q 16), .int 0, .int 0, .int (-1)]))]) [0] (by decide) rfl
  have hKc := hK.sub (tys' := []) [] rfl
  have hFc := va_free (wc := [((q 0), .inr (8, [.ref (q 16), .int 0, .int 0, .int (-1)]))]) hD hS hA [0] rfl
  refine va_calli (va_runV (As := []) (rest := []) ⟨hx, hb, hml, hown, hts⟩ (f_X8_refuseHere_a1 l dC dI H.size q ) (cwV 0 hts g_f_X8_take_a1_f_X8_refuseHere_a1 rfl rfl rfl (by decide +kernel) ⟨Nat.le_of_ble_eq_true rfl, Nat.le_of_ble_eq_true rfl⟩) ⟨cW_blind, va_recv hKc hPc (ci := 8) (q0 := 0) rfl rfl, fun U hU hW => ⟨rfl, cW_use hU hW hPc hKc hDc hG⟩⟩ rfl rfl hl.1 rfl (lv_room (Nat.le_of_ble_eq_true rfl)) dX8_take_9 ⟨Nat.le_of_ble_eq_true rfl, Nat.le_of_ble_eq_true rfl⟩) hS (fun q _ h => hFc q h) hFc (fun r_3 u t H1 locs ht hvm hw hB hz1 hk1 hS => ?_)
  obtain ⟨hP1, hK1, hD1⟩ := hB
  rw [ht] at hP1
  have hK1 := va_K.moved hvm.symm hK1
  obtain ⟨hP, hD⟩ := va_join (wr := []) (w1 := [((q 0), .inr (8, [.ref (q 16), .int 0, .int 0, .int 0]))]) hP hD [0] [] rfl rfl (by decide) (by decide) hk1 hFc hP1 hD1
  generalize H1 = H at hP hS ⊢
  have hP : va_P (dC, dI) vwCl [((q 0), .inr (8, [.ref (q 16), .int 0, .int 0, .int 0]))] H := hP
  have hD : va_D A [((q 0), .inr (8, [.ref (q 16), .int 0, .int 0, .int 0]))] := hD
  refine W.widen (k := 0) (n := 0) (Nat.le_of_ble_eq_true rfl) (Nat.le_of_ble_eq_true rfl) ?_
  obtain rfl : r_3 = 0 := hw
  have hP9 := hP.sub (ws' := [((q 0), .inr (8, [.ref (q 16), .int 0, .int 0, .int 0]))]) [0] rfl
  have hD9 := hD.sub (ws' := [((q 0), .inr (8, [.ref (q 16), .int 0, .int 0, .int 0]))]) [0] (by decide) rfl
  have hK9 := hK.sub (tys' := []) [] rfl
  exact W.zret (v := 0) hx hb hr rfl (fun t ht hW => ⟨⟨0, (), rfl, rfl, ⟨by rw [ht]; exact hP9, va_K.moved hW.alike hK9, hD9⟩⟩, hS.F ht⟩) hS.2.2 dX8_take_12
def vs_f_X2_readClause_a1 : List Cond := .code yX2_readClause cX2_readClause 3 (some .boolean) :: ([.fieldLink RX2 15 "WallChapels$LawReader" "tape" "LWallChapels$Tape;", .initialized RX8, .instanceMethod yX8_take, .selects RX8 yX8_take yX8_take, .instanceMethod yX8_ahead, .selects RX8 yX8_ahead yX8_ahead, .fieldLink RX8 19 "WallChapels$Tape" "head" "I", .fieldLink RX8 15 "WallChapels$Tape" "length" "I", .instanceMethod yX8_byteAtHead, .selects RX8 yX8_byteAtHead yX8_byteAtHead, .code yX8_byteAtHead cX8_byteAtHead 1 (some .int), .methodLink RX8 25 yX8_byteAtHead, .code yX8_ahead cX8_ahead 1 (some .int), .methodLink RX8 29 yX8_ahead, .instanceMethod yX8_refuseHere, .selects RX8 yX8_refuseHere yX8_refuseHere, .fieldLink RX8 22 "WallChapels$Tape" "wrong" "I", .code yX8_refuseHere cX8_refuseHere 1 (some .boolean), .methodLink RX8 32 yX8_refuseHere, .code yX8_take cX8_take 2 (some .boolean)] ++ (u_ws RX2 TX2 3 ++ (u_ws RX8 TX8 4)))
theorem vs_f_X2_readClause_a1_uX2 : ∀ w ∈ u_ws RX2 TX2 3, w ∈ vs_f_X2_readClause_a1 := fun _ h => List.mem_cons_of_mem _ (List.mem_append_right _ (List.mem_append_left _ h))
theorem vs_f_X2_readClause_a1_uX8 : ∀ w ∈ u_ws RX8 TX8 4, w ∈ vs_f_X2_readClause_a1 := fun _ h => List.mem_cons_of_mem _ (List.mem_append_right _ (List.mem_append_right _ (h)))
set_option maxRecDepth 20000 in
theorem g_f_X2_readClause_a1_f_X8_take_a1 : GoodIn vs_f_X2_readClause_a1 vs_f_X8_take_a1 := goodIn_r _ [20, 2, 5, 6, 7, 8, 9, 10, 11, 12, 13, 14, 15, 16, 17, 18, 19, 24, 25, 26, 27] (by decide +kernel) (by decide +kernel)
set_option maxHeartbeats 4000000 in
set_option maxRecDepth 100000 in
theorem f_X2_readClause_a1 (l : Launch) (dC : Nat → ClassId) (dI : Nat → Nat → Nat) (sz : Nat) (q : Nat → Nat) : Met l yX2_readClause vs_f_X2_readClause_a1 ({ frames := 3, cells := 0, slots := 0, locals := 61 }) (va_Pc [.ref (q 3)] (cW dC dI [((q 3), .inr (2, [.ref (q 0), .ref (q 28), .int 0])), ((q 0), .inr (8, [.ref (q 16), .int 0, .int 0, .int (-1)]))] [] sz)) (va_Qi (fun (r : Int32) (_ : Unit) => r = 0) (fun (_ : Unit) (t : State) => cB dC dI (va_A [((q 3), .inr (2, [.ref (q 0), .ref (q 28), .int 0])), ((q 0), .inr (8, [.ref (q 16), .int 0, .int 0, .int (-1)]))] sz) [((q 3), .inr (2, [.ref (q 0), .ref (q 28), .int 0])), ((q 0), .inr (8, [.ref (q 16), .int 0, .int 0, .int 0]))] [] t) (va_A [((q 3), .inr (2, [.ref (q 0), .ref (q 28), .int 0])), ((q 0), .inr (8, [.ref (q 16), .int 0, .int 0, .int (-1)]))] sz)) 0 0 (va_A [((q 3), .inr (2, [.ref (q 0), .ref (q 28), .int 0])), ((q 0), .inr (8, [.ref (q 16), .int 0, .int 0, .int (-1)]))] sz) := by
  refine Met.ofW (cc := cX2_readClause) (maxL := 3) (ret := (some .boolean)) (by decide) rfl ?_
  intro p e s m args below meth c s₁ B hml hv
  obtain ⟨rfl, hsz, hP, hK, hD0, hG⟩ := hv
  have hx := B.exec
  have hb := B.bytes
  have hr := B.returns
  have hts := atoms_spec (ws := vs_f_X2_readClause_a1) B.pre
  have hown : s.vm.findClass RX2 = some m.cls := findClass_of_methodNamed B.named
  have hlocks := B.notSynchronized
  have hiX2 : ∀ w ∈ u_ws RX2 TX2 3, w ∈ vs_f_X2_readClause_a1 := vs_f_X2_readClause_a1_uX2
  have hiX8 : ∀ w ∈ u_ws RX8 TX8 4, w ∈ vs_f_X2_readClause_a1 := vs_f_X2_readClause_a1_uX8
  subst hsz
  have hD := hD0.self (sz := s.heap.size)
  generalize hAe : va_A [((q 3), .inr (2, [.ref (q 0), .ref (q 28), .int 0])), ((q 0), .inr (8, [.ref (q 16), .int 0, .int 0, .int (-1)]))] s.heap.size = A at hD ⊢
  have hA : ∀ q : Nat, s.heap.size ≤ q → A q := fun q h => by rw [← hAe]; exact Or.inr h
  have hS : va_S A s.heap s.heap [] := va_S.rf
  have hP : va_P (dC, dI) vwCl [((q 3), .inr (2, [.ref (q 0), .ref (q 28), .int 0])), ((q 0), .inr (8, [.ref (q 16), .int 0, .int 0, .int (-1)]))] s.heap := hP
  have hl := lv_entry ([.ref (q 3)]) (n := 3) (Nat.le_of_ble_eq_true rfl)
  rw [lg_entry_eq]
  generalize (lg_sl ([.ref (q 3)]) ++ List.replicate (3 - (lg_sl ([.ref (q 3)])).length) Slot.unset).toArray = ls at hl ⊢
  have hl : lv_has ls 3 [(0, .ref (q 3))] := hl
  refine lv_aload_n hx hb dX2_readClause_0 rfl (lv_at hl 0 rfl) ?_
  refine va_get (D := (dC, dI)) (ci := 2) (v := .ref (q 0)) (C := RX2) (T := TX2) (N := 3) hx hb hts hiX2 hown hK hP 0 rfl rfl 0 (by decide) (hts (.fieldLink RX2 15 "WallChapels$LawReader" "tape" "LWallChapels$Tape;") (by decide +kernel)) (fun _ h9 => h9) rfl dX2_readClause_1 ?_
  refine lv_bipush (v := 121) hx hb dX2_readClause_4 (by decide) ?_
  have hPc := hP.sub (ws' := [((q 0), .inr (8, [.ref (q 16), .int 0, .int 0, .int (-1)]))]) [1] rfl
  have hDc := hD.sub (ws' := [((q 0), .inr (8, [.ref (q 16), .int 0, .int 0, .int (-1)]))]) [1] (by decide) rfl
  have hKc := hK.sub (tys' := []) [] rfl
  have hFc := va_free (wc := [((q 0), .inr (8, [.ref (q 16), .int 0, .int 0, .int (-1)]))]) hD hS hA [1] rfl
  refine va_calli (va_runVN (As := [.int 121]) (rest := []) ⟨hx, hb, hml, hown, hts⟩ (f_X8_take_a1 l dC dI s.heap.size q ) ⟨va_cnB 1 hts g_f_X2_readClause_a1_f_X8_take_a1 rfl rfl rfl (gx_n hG 70 rfl) (hts (.initialized RX8) (by decide +kernel)) (by decide +kernel) ⟨Nat.le_of_ble_eq_true rfl, Nat.le_of_ble_eq_true rfl⟩, (hts (.instanceMethod yX8_take) (by decide +kernel)), (hts (.selects RX8 yX8_take yX8_take) (by decide +kernel))⟩ ⟨cW_blind, va_recv hKc hPc (ci := 8) (q0 := 0) rfl rfl, fun U hU hW => ⟨rfl, cW_use hU hW hPc hKc hDc hG⟩⟩ rfl rfl hl.1 rfl (lv_room (Nat.le_of_ble_eq_true rfl)) dX2_readClause_6 ⟨Nat.le_of_ble_eq_true rfl, Nat.le_of_ble_eq_true rfl⟩) hS (fun q _ h => hFc q h) hFc (fun r_1 u t H1 locs ht hvm hw hB hz1 hk1 hS => ?_)
  obtain ⟨hP1, hK1, hD1⟩ := hB
  rw [ht] at hP1
  have hK1 := va_K.moved hvm.symm hK1
  obtain ⟨hP, hD⟩ := va_join (wr := [((q 3), .inr (2, [.ref (q 0), .ref (q 28), .int 0]))]) (w1 := [((q 0), .inr (8, [.ref (q 16), .int 0, .int 0, .int 0]))]) hP hD [1] [0] rfl rfl (by decide) (by decide) hk1 hFc hP1 hD1
  generalize H1 = H at hP hS ⊢
  have hP : va_P (dC, dI) vwCl [((q 3), .inr (2, [.ref (q 0), .ref (q 28), .int 0])), ((q 0), .inr (8, [.ref (q 16), .int 0, .int 0, .int 0]))] H := hP
  have hD : va_D A [((q 3), .inr (2, [.ref (q 0), .ref (q 28), .int 0])), ((q 0), .inr (8, [.ref (q 16), .int 0, .int 0, .int 0]))] := hD
  refine W.widen (k := 0) (n := 0) (Nat.le_of_ble_eq_true rfl) (Nat.le_of_ble_eq_true rfl) ?_
  obtain rfl : r_1 = 0 := hw
  refine lv_if_eq (tgt := 24) hx hb dX2_readClause_9 (by decide) (fun c_2 => ?_) (fun c_2 => absurd (by decide) c_2)
  refine lv_iconst (v := 0) hx hb dX2_readClause_24 (by decide) ?_
  have hP9 := hP.sub (ws' := [((q 3), .inr (2, [.ref (q 0), .ref (q 28), .int 0])), ((q 0), .inr (8, [.ref (q 16), .int 0, .int 0, .int 0]))]) [0, 1] rfl
  have hD9 := hD.sub (ws' := [((q 3), .inr (2, [.ref (q 0), .ref (q 28), .int 0])), ((q 0), .inr (8, [.ref (q 16), .int 0, .int 0, .int 0]))]) [0, 1] (by decide) rfl
  have hK9 := hK.sub (tys' := []) [] rfl
  exact W.zret (v := 0) hx hb hr rfl (fun t ht hW => ⟨⟨0, (), rfl, rfl, ⟨by rw [ht]; exact hP9, va_K.moved hW.alike hK9, hD9⟩⟩, hS.F ht⟩) hS.2.2 dX2_readClause_25
def vs_f_X2_readLaw_a1 : List Cond := .code yX2_readLaw cX2_readLaw 2 (some .int) :: ([.fieldLink RX2 19 "WallChapels$LawReader" "size" "I", .fieldLink RX2 15 "WallChapels$LawReader" "tape" "LWallChapels$Tape;", .initialized RX8, .instanceMethod yX8_rewind, .selects RX8 yX8_rewind yX8_rewind, .fieldLink RX8 19 "WallChapels$Tape" "head" "I", .fieldLink RX8 22 "WallChapels$Tape" "wrong" "I", .code yX8_rewind cX8_rewind 1 none, .initialized RX2, .instanceMethod yX2_readClause, .selects RX2 yX2_readClause yX2_readClause, .instanceMethod yX8_take, .selects RX8 yX8_take yX8_take, .instanceMethod yX8_ahead, .selects RX8 yX8_ahead yX8_ahead, .fieldLink RX8 15 "WallChapels$Tape" "length" "I", .instanceMethod yX8_byteAtHead, .selects RX8 yX8_byteAtHead yX8_byteAtHead, .code yX8_byteAtHead cX8_byteAtHead 1 (some .int), .methodLink RX8 25 yX8_byteAtHead, .code yX8_ahead cX8_ahead 1 (some .int), .methodLink RX8 29 yX8_ahead, .instanceMethod yX8_refuseHere, .selects RX8 yX8_refuseHere yX8_refuseHere, .code yX8_refuseHere cX8_refuseHere 1 (some .boolean), .methodLink RX8 32 yX8_refuseHere, .code yX8_take cX8_take 2 (some .boolean), .code yX2_readClause cX2_readClause 3 (some .boolean), .methodLink RX2 28 yX2_readClause] ++ (u_ws RX2 TX2 3 ++ (u_ws RX8 TX8 4)))
theorem vs_f_X2_readLaw_a1_uX2 : ∀ w ∈ u_ws RX2 TX2 3, w ∈ vs_f_X2_readLaw_a1 := fun _ h => List.mem_cons_of_mem _ (List.mem_append_right _ (List.mem_append_left _ h))
theorem vs_f_X2_readLaw_a1_uX8 : ∀ w ∈ u_ws RX8 TX8 4, w ∈ vs_f_X2_readLaw_a1 := fun _ h => List.mem_cons_of_mem _ (List.mem_append_right _ (List.mem_append_right _ (h)))
set_option maxRecDepth 20000 in
theorem g_f_X2_readLaw_a1_f_X8_rewind_a1 : GoodIn vs_f_X2_readLaw_a1 vs_f_X8_rewind_a1 := goodIn_r _ [8, 6, 7, 33, 34, 35, 36] (by decide +kernel) (by decide +kernel)
set_option maxRecDepth 20000 in
theorem g_f_X2_readLaw_a1_f_X2_readClause_a1 : GoodIn vs_f_X2_readLaw_a1 (wsV RX2 28 RX2 yX2_readClause vs_f_X2_readClause_a1) := goodIn_r _ [29, 10, 11, 9, 28, 2, 3, 12, 13, 14, 15, 6, 16, 17, 18, 19, 20, 21, 22, 23, 24, 7, 25, 26, 27, 30, 31, 32, 33, 34, 35, 36] (by decide +kernel) (by decide +kernel)
set_option maxHeartbeats 4000000 in
set_option maxRecDepth 100000 in
theorem f_X2_readLaw_a1 (l : Launch) (dC : Nat → ClassId) (dI : Nat → Nat → Nat) (sz : Nat) (q : Nat → Nat) : Met l yX2_readLaw vs_f_X2_readLaw_a1 ({ frames := 4, cells := 0, slots := 0, locals := 83 }) (va_Pc [.ref (q 3)] (cW dC dI [((q 3), .inr (2, [.ref (q 0), .ref (q 28), .int 0])), ((q 0), .inr (8, [.ref (q 16), .int 0, .int 0, .int 0]))] [] sz)) (va_Qi (fun (r : Int32) (_ : Unit) => r = 0) (fun (_ : Unit) (t : State) => cB dC dI (va_A [((q 3), .inr (2, [.ref (q 0), .ref (q 28), .int 0])), ((q 0), .inr (8, [.ref (q 16), .int 0, .int 0, .int 0]))] sz) [((q 3), .inr (2, [.ref (q 0), .ref (q 28), .int 0])), ((q 0), .inr (8, [.ref (q 16), .int 0, .int 0, .int 0]))] [] t) (va_A [((q 3), .inr (2, [.ref (q 0), .ref (q 28), .int 0])), ((q 0), .inr (8, [.ref (q 16), .int 0, .int 0, .int 0]))] sz)) 0 0 (va_A [((q 3), .inr (2, [.ref (q 0), .ref (q 28), .int 0])), ((q 0), .inr (8, [.ref (q 16), .int 0, .int 0, .int 0]))] sz) := by
  refine Met.ofW (cc := cX2_readLaw) (maxL := 2) (ret := (some .int)) (by decide) rfl ?_
  intro p e s m args below meth c s₁ B hml hv
  obtain ⟨rfl, hsz, hP, hK, hD0, hG⟩ := hv
  have hx := B.exec
  have hb := B.bytes
  have hr := B.returns
  have hts := atoms_spec (ws := vs_f_X2_readLaw_a1) B.pre
  have hown : s.vm.findClass RX2 = some m.cls := findClass_of_methodNamed B.named
  have hlocks := B.notSynchronized
  have hiX2 : ∀ w ∈ u_ws RX2 TX2 3, w ∈ vs_f_X2_readLaw_a1 := vs_f_X2_readLaw_a1_uX2
  have hiX8 : ∀ w ∈ u_ws RX8 TX8 4, w ∈ vs_f_X2_readLaw_a1 := vs_f_X2_readLaw_a1_uX8
  subst hsz
  have hD := hD0.self (sz := s.heap.size)
  generalize hAe : va_A [((q 3), .inr (2, [.ref (q 0), .ref (q 28), .int 0])), ((q 0), .inr (8, [.ref (q 16), .int 0, .int 0, .int 0]))] s.heap.size = A at hD ⊢
  have hA : ∀ q : Nat, s.heap.size ≤ q → A q := fun q h => by rw [← hAe]; exact Or.inr h
  have hS : va_S A s.heap s.heap [] := va_S.rf
  have hP : va_P (dC, dI) vwCl [((q 3), .inr (2, [.ref (q 0), .ref (q 28), .int 0])), ((q 0), .inr (8, [.ref (q 16), .int 0, .int 0, .int 0]))] s.heap := hP
  have hl := lv_entry ([.ref (q 3)]) (n := 2) (Nat.le_of_ble_eq_true rfl)
  rw [lg_entry_eq]
  generalize (lg_sl ([.ref (q 3)]) ++ List.replicate (2 - (lg_sl ([.ref (q 3)])).length) Slot.unset).toArray = ls at hl ⊢
  have hl : lv_has ls 2 [(0, .ref (q 3))] := hl
  refine lv_aload_n hx hb dX2_readLaw_0 rfl (lv_at hl 0 rfl) ?_
  refine lv_iconst (v := 0) hx hb dX2_readLaw_1 (by decide) ?_
  refine va_put (D := (dC, dI)) (ci := 2) (v := .int 0) (ty := .int) (C := RX2) (T := TX2) (N := 3) hx hb hts hiX2 tyX2 tyX2_ok nmX2 hown hK hP hD hS 0 rfl rfl 2 (by decide) (hts (.fieldLink RX2 19 "WallChapels$LawReader" "size" "I") (by decide +kernel)) (fun _ h9 => h9) rfl (by decide +kernel) rfl rfl (Nat.le_of_ble_eq_true rfl) dX2_readLaw_2 (fun H locs hP hD hS => ?_)
  have hP : va_P (dC, dI) vwCl [((q 3), .inr (2, [.ref (q 0), .ref (q 28), .int 0])), ((q 0), .inr (8, [.ref (q 16), .int 0, .int 0, .int 0]))] H := hP
  have hD : va_D A [((q 3), .inr (2, [.ref (q 0), .ref (q 28), .int 0])), ((q 0), .inr (8, [.ref (q 16), .int 0, .int 0, .int 0]))] := hD
  refine lv_aload_n hx hb dX2_readLaw_5 rfl (lv_at hl 0 rfl) ?_
  refine va_get (D := (dC, dI)) (ci := 2) (v := .ref (q 0)) (C := RX2) (T := TX2) (N := 3) hx hb hts hiX2 hown hK hP 0 rfl rfl 0 (by decide) (hts (.fieldLink RX2 15 "WallChapels$LawReader" "tape" "LWallChapels$Tape;") (by decide +kernel)) (fun _ h9 => h9) rfl dX2_readLaw_6 ?_
  have hPc := hP.sub (ws' := [((q 0), .inr (8, [.ref (q 16), .int 0, .int 0, .int 0]))]) [1] rfl
  have hDc := hD.sub (ws' := [((q 0), .inr (8, [.ref (q 16), .int 0, .int 0, .int 0]))]) [1] (by decide) rfl
  have hKc := hK.sub (tys' := []) [] rfl
  have hFc := va_free (wc := [((q 0), .inr (8, [.ref (q 16), .int 0, .int 0, .int 0]))]) hD hS hA [1] rfl
  refine va_callv (va_runVN (As := []) (rest := []) ⟨hx, hb, hml, hown, hts⟩ (f_X8_rewind_a1 l dC dI H.size q ) ⟨va_cnB 0 hts g_f_X2_readLaw_a1_f_X8_rewind_a1 rfl rfl rfl (gx_n hG 69 rfl) (hts (.initialized RX8) (by decide +kernel)) (by decide +kernel) ⟨Nat.le_of_ble_eq_true rfl, Nat.le_of_ble_eq_true rfl⟩, (hts (.instanceMethod yX8_rewind) (by decide +kernel)), (hts (.selects RX8 yX8_rewind yX8_rewind) (by decide +kernel))⟩ ⟨cW_blind, va_recv hKc hPc (ci := 8) (q0 := 0) rfl rfl, fun U hU hW => ⟨rfl, cW_use hU hW hPc hKc hDc hG⟩⟩ rfl rfl hl.1 rfl (lv_room (Nat.le_of_ble_eq_true rfl)) dX2_readLaw_9 ⟨Nat.le_of_ble_eq_true rfl, Nat.le_of_ble_eq_true rfl⟩) hS (fun q _ h => hFc q h) hFc (fun u t H1 locs ht hvm hw hB hz1 hk1 hS => ?_)
  obtain ⟨hP1, hK1, hD1⟩ := hB
  rw [ht] at hP1
  have hK1 := va_K.moved hvm.symm hK1
  obtain ⟨hP, hD⟩ := va_join (wr := [((q 3), .inr (2, [.ref (q 0), .ref (q 28), .int 0]))]) (w1 := [((q 0), .inr (8, [.ref (q 16), .int 0, .int 0, .int (-1)]))]) hP hD [1] [0] rfl rfl (by decide) (by decide) hk1 hFc hP1 hD1
  generalize H1 = H at hP hS ⊢
  have hP : va_P (dC, dI) vwCl [((q 3), .inr (2, [.ref (q 0), .ref (q 28), .int 0])), ((q 0), .inr (8, [.ref (q 16), .int 0, .int 0, .int (-1)]))] H := hP
  have hD : va_D A [((q 3), .inr (2, [.ref (q 0), .ref (q 28), .int 0])), ((q 0), .inr (8, [.ref (q 16), .int 0, .int 0, .int (-1)]))] := hD
  refine W.widen (k := 0) (n := 0) (Nat.le_of_ble_eq_true rfl) (Nat.le_of_ble_eq_true rfl) ?_
  refine lv_iconst (v := 0) hx hb dX2_readLaw_12 (by decide) ?_
  refine lv_istore_n (lv' := [(1, .int 0), (0, .ref (q 3))]) hx hb dX2_readLaw_13 rfl hl (by decide) rfl (fun ls hl => ?_)
  refine lv_iload_n hx hb dX2_readLaw_14 rfl (lv_at hl 0 rfl) ?_
  refine lv_sipush (v := 240) hx hb dX2_readLaw_15 (by decide) ?_
  refine lv_icmp_gt (tgt := 75) hx hb dX2_readLaw_18 (by decide) (fun c_2 => absurd c_2 (by decide)) (fun c_2 => ?_)
  refine lv_aload_n hx hb dX2_readLaw_21 rfl (lv_at hl 1 rfl) ?_
  have hPc := hP.sub (ws' := [((q 3), .inr (2, [.ref (q 0), .ref (q 28), .int 0])), ((q 0), .inr (8, [.ref (q 16), .int 0, .int 0, .int (-1)]))]) [0, 1] rfl
  have hDc := hD.sub (ws' := [((q 3), .inr (2, [.ref (q 0), .ref (q 28), .int 0])), ((q 0), .inr (8, [.ref (q 16), .int 0, .int 0, .int (-1)]))]) [0, 1] (by decide) rfl
  have hKc := hK.sub (tys' := []) [] rfl
  have hFc := va_free (wc := [((q 3), .inr (2, [.ref (q 0), .ref (q 28), .int 0])), ((q 0), .inr (8, [.ref (q 16), .int 0, .int 0, .int (-1)]))]) hD hS hA [0, 1] rfl
  refine va_calli (va_runV (As := []) (rest := []) ⟨hx, hb, hml, hown, hts⟩ (f_X2_readClause_a1 l dC dI H.size q ) (cwV 0 hts g_f_X2_readLaw_a1_f_X2_readClause_a1 rfl rfl rfl (by decide +kernel) ⟨Nat.le_of_ble_eq_true rfl, Nat.le_of_ble_eq_true rfl⟩) ⟨cW_blind, va_recv hKc hPc (ci := 2) (q0 := 0) rfl rfl, fun U hU hW => ⟨rfl, cW_use hU hW hPc hKc hDc hG⟩⟩ rfl rfl hl.1 rfl (lv_room (Nat.le_of_ble_eq_true rfl)) dX2_readLaw_22 ⟨Nat.le_of_ble_eq_true rfl, Nat.le_of_ble_eq_true rfl⟩) hS (fun q _ h => hFc q h) hFc (fun r_3 u t H1 locs ht hvm hw hB hz1 hk1 hS => ?_)
  obtain ⟨hP1, hK1, hD1⟩ := hB
  rw [ht] at hP1
  have hK1 := va_K.moved hvm.symm hK1
  obtain ⟨hP, hD⟩ := va_join (wr := []) (w1 := [((q 3), .inr (2, [.ref (q 0), .ref (q 28), .int 0])), ((q 0), .inr (8, [.ref (q 16), .int 0, .int 0, .int 0]))]) hP hD [0, 1] [] rfl rfl (by decide) (by decide) hk1 hFc hP1 hD1
  generalize H1 = H at hP hS ⊢
  have hP : va_P (dC, dI) vwCl [((q 3), .inr (2, [.ref (q 0), .ref (q 28), .int 0])), ((q 0), .inr (8, [.ref (q 16), .int 0, .int 0, .int 0]))] H := hP
  have hD : va_D A [((q 3), .inr (2, [.ref (q 0), .ref (q 28), .int 0])), ((q 0), .inr (8, [.ref (q 16), .int 0, .int 0, .int 0]))] := hD
  refine W.widen (k := 0) (n := 0) (Nat.le_of_ble_eq_true rfl) (Nat.le_of_ble_eq_true rfl) ?_
  obtain rfl : r_3 = 0 := hw
  refine lv_if_ne (tgt := 36) hx hb dX2_readLaw_25 (by decide) (fun c_4 => absurd c_4 (by decide)) (fun c_4 => ?_)
  refine lv_aload_n hx hb dX2_readLaw_28 rfl (lv_at hl 1 rfl) ?_
  refine va_get (D := (dC, dI)) (ci := 2) (v := .ref (q 0)) (C := RX2) (T := TX2) (N := 3) hx hb hts hiX2 hown hK hP 0 rfl rfl 0 (by decide) (hts (.fieldLink RX2 15 "WallChapels$LawReader" "tape" "LWallChapels$Tape;") (by decide +kernel)) (fun _ h9 => h9) rfl dX2_readLaw_29 ?_
  refine va_getN (D := (dC, dI)) (ci := 8) (v := .int 0) (C := RX8) (T := TX8) (N := 4) hx hb hts hiX8 hown hK hP 1 rfl rfl 3 (by decide) (gx_u hG 5 rfl rfl) (fun _ h9 => h9) rfl dX2_readLaw_32 ?_
  have hP9 := hP.sub (ws' := [((q 3), .inr (2, [.ref (q 0), .ref (q 28), .int 0])), ((q 0), .inr (8, [.ref (q 16), .int 0, .int 0, .int 0]))]) [0, 1] rfl
  have hD9 := hD.sub (ws' := [((q 3), .inr (2, [.ref (q 0), .ref (q 28), .int 0])), ((q 0), .inr (8, [.ref (q 16), .int 0, .int 0, .int 0]))]) [0, 1] (by decide) rfl
  have hK9 := hK.sub (tys' := []) [] rfl
  exact W.iret (v := 0) hx hb hr (fun t ht hW => ⟨⟨0, (), rfl, rfl, ⟨by rw [ht]; exact hP9, va_K.moved hW.alike hK9, hD9⟩⟩, hS.F ht⟩) hS.2.2 dX2_readLaw_35
def vs_f_X9_readFrom_a1 : List Cond := .code yX9_readFrom cX9_readFrom 3 (some .int) :: ([.initialized RX8, .instanceMethod yX8_rewind, .selects RX8 yX8_rewind yX8_rewind, .fieldLink RX8 19 "WallChapels$Tape" "head" "I", .fieldLink RX8 22 "WallChapels$Tape" "wrong" "I", .code yX8_rewind cX8_rewind 1 none, .fieldLink RX9 28 "WallChapels$Walks" "draftLength" "I", .instanceMethod yX8_ahead, .selects RX8 yX8_ahead yX8_ahead, .fieldLink RX8 15 "WallChapels$Tape" "length" "I", .instanceMethod yX8_byteAtHead, .selects RX8 yX8_byteAtHead yX8_byteAtHead, .code yX8_byteAtHead cX8_byteAtHead 1 (some .int), .methodLink RX8 25 yX8_byteAtHead, .code yX8_ahead cX8_ahead 1 (some .int)] ++ (u_ws RX8 TX8 4 ++ (u_ws RX9 TX9 5)))
theorem vs_f_X9_readFrom_a1_uX8 : ∀ w ∈ u_ws RX8 TX8 4, w ∈ vs_f_X9_readFrom_a1 := fun _ h => List.mem_cons_of_mem _ (List.mem_append_right _ (List.mem_append_left _ h))
theorem vs_f_X9_readFrom_a1_uX9 : ∀ w ∈ u_ws RX9 TX9 5, w ∈ vs_f_X9_readFrom_a1 := fun _ h => List.mem_cons_of_mem _ (List.mem_append_right _ (List.mem_append_right _ (h)))
set_option maxRecDepth 20000 in
theorem g_f_X9_readFrom_a1_f_X8_rewind_a1 : GoodIn vs_f_X9_readFrom_a1 vs_f_X8_rewind_a1 := goodIn_r _ [6, 4, 5, 16, 17, 18, 19] (by decide +kernel) (by decide +kernel)
set_option maxRecDepth 20000 in
theorem g_f_X9_readFrom_a1_f_X8_ahead_a1 : GoodIn vs_f_X9_readFrom_a1 vs_f_X8_ahead_a1 := goodIn_r _ [15, 4, 10, 1, 11, 12, 13, 14, 16, 17, 18, 19] (by decide +kernel) (by decide +kernel)
set_option maxHeartbeats 4000000 in
set_option maxRecDepth 100000 in
theorem f_X9_readFrom_a1 (l : Launch) (dC : Nat → ClassId) (dI : Nat → Nat → Nat) (sz : Nat) (q : Nat → Nat) : Met l yX9_readFrom vs_f_X9_readFrom_a1 ({ frames := 2, cells := 0, slots := 0, locals := 40 }) (va_Pc [.ref (q 5), .ref (q 0)] (cW dC dI [((q 5), .inr (9, [.ref (q 33), .ref (q 34), .ref (q 35), .int 0, .int 0])), ((q 0), .inr (8, [.ref (q 16), .int 0, .int 0, .int 0]))] [] sz)) (va_Qi (fun (r : Int32) (_ : Unit) => r = 0) (fun (_ : Unit) (t : State) => cB dC dI (va_A [((q 5), .inr (9, [.ref (q 33), .ref (q 34), .ref (q 35), .int 0, .int 0])), ((q 0), .inr (8, [.ref (q 16), .int 0, .int 0, .int 0]))] sz) [((q 5), .inr (9, [.ref (q 33), .ref (q 34), .ref (q 35), .int 0, .int 0])), ((q 0), .inr (8, [.ref (q 16), .int 0, .int 0, .int (-1)]))] [] t) (va_A [((q 5), .inr (9, [.ref (q 33), .ref (q 34), .ref (q 35), .int 0, .int 0])), ((q 0), .inr (8, [.ref (q 16), .int 0, .int 0, .int 0]))] sz)) 0 0 (va_A [((q 5), .inr (9, [.ref (q 33), .ref (q 34), .ref (q 35), .int 0, .int 0])), ((q 0), .inr (8, [.ref (q 16), .int 0, .int 0, .int 0]))] sz) := by
  refine Met.ofW (cc := cX9_readFrom) (maxL := 3) (ret := (some .int)) (by decide) rfl ?_
  intro p e s m args below meth c s₁ B hml hv
  obtain ⟨rfl, hsz, hP, hK, hD0, hG⟩ := hv
  have hx := B.exec
  have hb := B.bytes
  have hr := B.returns
  have hts := atoms_spec (ws := vs_f_X9_readFrom_a1) B.pre
  have hown : s.vm.findClass RX9 = some m.cls := findClass_of_methodNamed B.named
  have hlocks := B.notSynchronized
  have hiX8 : ∀ w ∈ u_ws RX8 TX8 4, w ∈ vs_f_X9_readFrom_a1 := vs_f_X9_readFrom_a1_uX8
  have hiX9 : ∀ w ∈ u_ws RX9 TX9 5, w ∈ vs_f_X9_readFrom_a1 := vs_f_X9_readFrom_a1_uX9
  subst hsz
  have hD := hD0.self (sz := s.heap.size)
  generalize hAe : va_A [((q 5), .inr (9, [.ref (q 33), .ref (q 34), .ref (q 35), .int 0, .int 0])), ((q 0), .inr (8, [.ref (q 16), .int 0, .int 0, .int 0]))] s.heap.size = A at hD ⊢
  have hA : ∀ q : Nat, s.heap.size ≤ q → A q := fun q h => by rw [← hAe]; exact Or.inr h
  have hS : va_S A s.heap s.heap [] := va_S.rf
  have hP : va_P (dC, dI) vwCl [((q 5), .inr (9, [.ref (q 33), .ref (q 34), .ref (q 35), .int 0, .int 0])), ((q 0), .inr (8, [.ref (q 16), .int 0, .int 0, .int 0]))] s.heap := hP
  have hl := lv_entry ([.ref (q 5), .ref (q 0)]) (n := 3) (Nat.le_of_ble_eq_true rfl)
  rw [lg_entry_eq]
  generalize (lg_sl ([.ref (q 5), .ref (q 0)]) ++ List.replicate (3 - (lg_sl ([.ref (q 5), .ref (q 0)])).length) Slot.unset).toArray = ls at hl ⊢
  have hl : lv_has ls 3 [(0, .ref (q 5)), (1, .ref (q 0))] := hl
  refine lv_aload_n hx hb dX9_readFrom_0 rfl (lv_at hl 1 rfl) ?_
  have hPc := hP.sub (ws' := [((q 0), .inr (8, [.ref (q 16), .int 0, .int 0, .int 0]))]) [1] rfl
  have hDc := hD.sub (ws' := [((q 0), .inr (8, [.ref (q 16), .int 0, .int 0, .int 0]))]) [1] (by decide) rfl
  have hKc := hK.sub (tys' := []) [] rfl
  have hFc := va_free (wc := [((q 0), .inr (8, [.ref (q 16), .int 0, .int 0, .int 0]))]) hD hS hA [1] rfl
  refine va_callv (va_runVN (As := []) (rest := []) ⟨hx, hb, hml, hown, hts⟩ (f_X8_rewind_a1 l dC dI s.heap.size q ) ⟨va_cnB 0 hts g_f_X9_readFrom_a1_f_X8_rewind_a1 rfl rfl rfl (gx_n hG 77 rfl) (hts (.initialized RX8) (by decide +kernel)) (by decide +kernel) ⟨Nat.le_of_ble_eq_true rfl, Nat.le_of_ble_eq_true rfl⟩, (hts (.instanceMethod yX8_rewind) (by decide +kernel)), (hts (.selects RX8 yX8_rewind yX8_rewind) (by decide +kernel))⟩ ⟨cW_blind, va_recv hKc hPc (ci := 8) (q0 := 0) rfl rfl, fun U hU hW => ⟨rfl, cW_use hU hW hPc hKc hDc hG⟩⟩ rfl rfl hl.1 rfl (lv_room (Nat.le_of_ble_eq_true rfl)) dX9_readFrom_1 ⟨Nat.le_of_ble_eq_true rfl, Nat.le_of_ble_eq_true rfl⟩) hS (fun q _ h => hFc q h) hFc (fun u t H1 locs ht hvm hw hB hz1 hk1 hS => ?_)
  obtain ⟨hP1, hK1, hD1⟩ := hB
  rw [ht] at hP1
  have hK1 := va_K.moved hvm.symm hK1
  obtain ⟨hP, hD⟩ := va_join (wr := [((q 5), .inr (9, [.ref (q 33), .ref (q 34), .ref (q 35), .int 0, .int 0]))]) (w1 := [((q 0), .inr (8, [.ref (q 16), .int 0, .int 0, .int (-1)]))]) hP hD [1] [0] rfl rfl (by decide) (by decide) hk1 hFc hP1 hD1
  generalize H1 = H at hP hS ⊢
  have hP : va_P (dC, dI) vwCl [((q 5), .inr (9, [.ref (q 33), .ref (q 34), .ref (q 35), .int 0, .int 0])), ((q 0), .inr (8, [.ref (q 16), .int 0, .int 0, .int (-1)]))] H := hP
  have hD : va_D A [((q 5), .inr (9, [.ref (q 33), .ref (q 34), .ref (q 35), .int 0, .int 0])), ((q 0), .inr (8, [.ref (q 16), .int 0, .int 0, .int (-1)]))] := hD
  refine W.widen (k := 0) (n := 0) (Nat.le_of_ble_eq_true rfl) (Nat.le_of_ble_eq_true rfl) ?_
  refine lv_aload_n hx hb dX9_readFrom_4 rfl (lv_at hl 0 rfl) ?_
  refine lv_iconst (v := 0) hx hb dX9_readFrom_5 (by decide) ?_
  refine va_put (D := (dC, dI)) (ci := 9) (v := .int 0) (ty := .int) (C := RX9) (T := TX9) (N := 5) hx hb hts hiX9 tyX9 tyX9_ok nmX9 hown hK hP hD hS 0 rfl rfl 3 (by decide) (hts (.fieldLink RX9 28 "WallChapels$Walks" "draftLength" "I") (by decide +kernel)) (fun _ h9 => h9) rfl (by decide +kernel) rfl rfl (Nat.le_of_ble_eq_true rfl) dX9_readFrom_6 (fun H locs hP hD hS => ?_)
  have hP : va_P (dC, dI) vwCl [((q 5), .inr (9, [.ref (q 33), .ref (q 34), .ref (q 35), .int 0, .int 0])), ((q 0), .inr (8, [.ref (q 16), .int 0, .int 0, .int (-1)]))] H := hP
  have hD : va_D A [((q 5), .inr (9, [.ref (q 33), .ref (q 34), .ref (q 35), .int 0, .int 0])), ((q 0), .inr (8, [.ref (q 16), .int 0, .int 0, .int (-1)]))] := hD
  refine lv_aload_n hx hb dX9_readFrom_9 rfl (lv_at hl 1 rfl) ?_
  have hPc := hP.sub (ws' := [((q 0), .inr (8, [.ref (q 16), .int 0, .int 0, .int (-1)]))]) [1] rfl
  have hDc := hD.sub (ws' := [((q 0), .inr (8, [.ref (q 16), .int 0, .int 0, .int (-1)]))]) [1] (by decide) rfl
  have hKc := hK.sub (tys' := []) [] rfl
  have hFc := va_free (wc := [((q 0), .inr (8, [.ref (q 16), .int 0, .int 0, .int (-1)]))]) hD hS hA [1] rfl
  refine va_calli (va_runVN (As := []) (rest := []) ⟨hx, hb, hml, hown, hts⟩ (f_X8_ahead_a1 l dC dI H.size q ) ⟨va_cnB 0 hts g_f_X9_readFrom_a1_f_X8_ahead_a1 rfl rfl rfl (gx_n hG 78 rfl) (hts (.initialized RX8) (by decide +kernel)) (by decide +kernel) ⟨Nat.le_of_ble_eq_true rfl, Nat.le_of_ble_eq_true rfl⟩, (hts (.instanceMethod yX8_ahead) (by decide +kernel)), (hts (.selects RX8 yX8_ahead yX8_ahead) (by decide +kernel))⟩ ⟨cW_blind, va_recv hKc hPc (ci := 8) (q0 := 0) rfl rfl, fun U hU hW => ⟨rfl, cW_use hU hW hPc hKc hDc hG⟩⟩ rfl rfl hl.1 rfl (lv_room (Nat.le_of_ble_eq_true rfl)) dX9_readFrom_10 ⟨Nat.le_of_ble_eq_true rfl, Nat.le_of_ble_eq_true rfl⟩) hS (fun q _ h => hFc q h) hFc (fun r_2 u t H1 locs ht hvm hw hB hz1 hk1 hS => ?_)
  obtain ⟨hP1, hK1, hD1⟩ := hB
  rw [ht] at hP1
  have hK1 := va_K.moved hvm.symm hK1
  obtain ⟨hP, hD⟩ := va_join (wr := [((q 5), .inr (9, [.ref (q 33), .ref (q 34), .ref (q 35), .int 0, .int 0]))]) (w1 := [((q 0), .inr (8, [.ref (q 16), .int 0, .int 0, .int (-1)]))]) hP hD [1] [0] rfl rfl (by decide) (by decide) hk1 hFc hP1 hD1
  generalize H1 = H at hP hS ⊢
  have hP : va_P (dC, dI) vwCl [((q 5), .inr (9, [.ref (q 33), .ref (q 34), .ref (q 35), .int 0, .int 0])), ((q 0), .inr (8, [.ref (q 16), .int 0, .int 0, .int (-1)]))] H := hP
  have hD : va_D A [((q 5), .inr (9, [.ref (q 33), .ref (q 34), .ref (q 35), .int 0, .int 0])), ((q 0), .inr (8, [.ref (q 16), .int 0, .int 0, .int (-1)]))] := hD
  refine W.widen (k := 0) (n := 0) (Nat.le_of_ble_eq_true rfl) (Nat.le_of_ble_eq_true rfl) ?_
  obtain rfl : r_2 = (-1) := hw
  refine lv_istore_n (lv' := [(2, .int (-1)), (0, .ref (q 5)), (1, .ref (q 0))]) hx hb dX9_readFrom_13 rfl hl (by decide) rfl (fun ls hl => ?_)
  refine lv_iload_n hx hb dX9_readFrom_14 rfl (lv_at hl 0 rfl) ?_
  refine lv_bipush (v := 48) hx hb dX9_readFrom_15 (by decide) ?_
  refine lv_icmp_lt (tgt := 70) hx hb dX9_readFrom_17 (by decide) (fun c_3 => ?_) (fun c_3 => absurd (by decide) c_3)
  refine lv_aload_n hx hb dX9_readFrom_70 rfl (lv_at hl 1 rfl) ?_
  refine va_get (D := (dC, dI)) (ci := 9) (v := .int 0) (C := RX9) (T := TX9) (N := 5) hx hb hts hiX9 hown hK hP 0 rfl rfl 3 (by decide) (hts (.fieldLink RX9 28 "WallChapels$Walks" "draftLength" "I") (by decide +kernel)) (fun _ h9 => h9) rfl dX9_readFrom_71 ?_
  refine lv_if_le (tgt := 89) hx hb dX9_readFrom_74 (by decide) (fun c_4 => ?_) (fun c_4 => absurd (by decide) c_4)
  refine lv_aload_n hx hb dX9_readFrom_89 rfl (lv_at hl 2 rfl) ?_
  refine va_getN (D := (dC, dI)) (ci := 8) (v := .int 0) (C := RX8) (T := TX8) (N := 4) hx hb hts hiX8 hown hK hP 1 rfl rfl 2 (by decide) (gx_u hG 4 rfl rfl) (fun _ h9 => h9) rfl dX9_readFrom_90 ?_
  have hP9 := hP.sub (ws' := [((q 5), .inr (9, [.ref (q 33), .ref (q 34), .ref (q 35), .int 0, .int 0])), ((q 0), .inr (8, [.ref (q 16), .int 0, .int 0, .int (-1)]))]) [0, 1] rfl
  have hD9 := hD.sub (ws' := [((q 5), .inr (9, [.ref (q 33), .ref (q 34), .ref (q 35), .int 0, .int 0])), ((q 0), .inr (8, [.ref (q 16), .int 0, .int 0, .int (-1)]))]) [0, 1] (by decide) rfl
  have hK9 := hK.sub (tys' := []) [] rfl
  exact W.iret (v := 0) hx hb hr (fun t ht hW => ⟨⟨0, (), rfl, rfl, ⟨by rw [ht]; exact hP9, va_K.moved hW.alike hK9, hD9⟩⟩, hS.F ht⟩) hS.2.2 dX9_readFrom_93
def vs_f_X11_fault : List Cond := .code yX11_fault cX11_fault 2 (some .int) :: ([.fieldLink RX11 23 "WallChapels" "draft" "LWallChapels$Plan;", .fieldLink RX11 10 "WallChapels" "tape" "LWallChapels$Tape;", .initialized RX5, .instanceMethod yX5_readFrom, .selects RX5 yX5_readFrom yX5_readFrom, .instanceMethod yX5_begin, .selects RX5 yX5_begin yX5_begin, .fieldLink RX5 26 "WallChapels$Plan" "corners" "I", .fieldLink RX5 30 "WallChapels$Plan" "streets" "I", .fieldLink RX5 33 "WallChapels$Plan" "walkers" "I", .fieldLink RX5 75 "WallChapels$Plan" "ruled" "Z", .fieldLink RX5 79 "WallChapels$Plan" "RULE_WITHOUT" "[I", .fieldLink RX5 9 "WallChapels$Plan" "rules" "[I", .native arraycopyName, .static arraycopyName, .initialized RJ10, .methodLink RX5 36 arraycopyName, .code yX5_begin cX5_begin 1 none, .methodLink RX5 42 yX5_begin, .initialized RX8, .instanceMethod yX8_rewind, .selects RX8 yX8_rewind yX8_rewind, .fieldLink RX8 19 "WallChapels$Tape" "head" "I", .fieldLink RX8 22 "WallChapels$Tape" "wrong" "I", .code yX8_rewind cX8_rewind 1 none, .instanceMethod yX5_readClause, .selects RX5 yX5_readClause yX5_readClause, .instanceMethod yX8_ahead, .selects RX8 yX8_ahead yX8_ahead, .fieldLink RX8 15 "WallChapels$Tape" "length" "I", .instanceMethod yX8_byteAtHead, .selects RX8 yX8_byteAtHead yX8_byteAtHead, .code yX8_byteAtHead cX8_byteAtHead 1 (some .int), .methodLink RX8 25 yX8_byteAtHead, .code yX8_ahead cX8_ahead 1 (some .int), .instanceMethod yX8_refuseHere, .selects RX8 yX8_refuseHere yX8_refuseHere, .code yX8_refuseHere cX8_refuseHere 1 (some .boolean), .code yX5_readClause cX5_readClause 4 (some .boolean), .methodLink RX5 50 yX5_readClause, .code yX5_readFrom cX5_readFrom 3 (some .int), .fieldLink RX11 31 "WallChapels" "lawReader" "LWallChapels$LawReader;", .initialized RX2, .instanceMethod yX2_readLaw, .selects RX2 yX2_readLaw yX2_readLaw, .fieldLink RX2 19 "WallChapels$LawReader" "size" "I", .fieldLink RX2 15 "WallChapels$LawReader" "tape" "LWallChapels$Tape;", .instanceMethod yX2_readClause, .selects RX2 yX2_readClause yX2_readClause, .instanceMethod yX8_take, .selects RX8 yX8_take yX8_take, .methodLink RX8 29 yX8_ahead, .methodLink RX8 32 yX8_refuseHere, .code yX8_take cX8_take 2 (some .boolean), .code yX2_readClause cX2_readClause 3 (some .boolean), .methodLink RX2 28 yX2_readClause, .code yX2_readLaw cX2_readLaw 2 (some .int), .fieldLink RX11 45 "WallChapels" "walks" "LWallChapels$Walks;", .initialized RX9, .instanceMethod yX9_readFrom, .selects RX9 yX9_readFrom yX9_readFrom, .fieldLink RX9 28 "WallChapels$Walks" "draftLength" "I", .code yX9_readFrom cX9_readFrom 3 (some .int)] ++ (u_ws RX11 TX11 17 ++ (u_ws RX5 TX5 8 ++ (u_ws RX8 TX8 4 ++ (u_ws RX2 TX2 3 ++ (u_ws RX9 TX9 5))))))
theorem vs_f_X11_fault_uX11 : ∀ w ∈ u_ws RX11 TX11 17, w ∈ vs_f_X11_fault := fun _ h => List.mem_cons_of_mem _ (List.mem_append_right _ (List.mem_append_left _ h))
theorem vs_f_X11_fault_uX5 : ∀ w ∈ u_ws RX5 TX5 8, w ∈ vs_f_X11_fault := fun _ h => List.mem_cons_of_mem _ (List.mem_append_right _ (List.mem_append_right _ (List.mem_append_left _ h)))
theorem vs_f_X11_fault_uX8 : ∀ w ∈ u_ws RX8 TX8 4, w ∈ vs_f_X11_fault := fun _ h => List.mem_cons_of_mem _ (List.mem_append_right _ (List.mem_append_right _ (List.mem_append_right _ (List.mem_append_left _ h))))
theorem vs_f_X11_fault_uX2 : ∀ w ∈ u_ws RX2 TX2 3, w ∈ vs_f_X11_fault := fun _ h => List.mem_cons_of_mem _ (List.mem_append_right _ (List.mem_append_right _ (List.mem_append_right _ (List.mem_append_right _ (List.mem_append_left _ h)))))
theorem vs_f_X11_fault_uX9 : ∀ w ∈ u_ws RX9 TX9 5, w ∈ vs_f_X11_fault := fun _ h => List.mem_cons_of_mem _ (List.mem_append_right _ (List.mem_append_right _ (List.mem_append_right _ (List.mem_append_right _ (List.mem_append_right _ (h))))))
set_option maxRecDepth 20000 in
theorem g_f_X11_fault_f_X5_readFrom_a1 : GoodIn vs_f_X11_fault vs_f_X5_readFrom_a1 := goodIn_r _ [41, 3, 6, 7, 8, 9, 10, 11, 12, 13, 14, 15, 16, 17, 18, 19, 20, 21, 22, 23, 24, 25, 26, 27, 28, 29, 30, 31, 32, 33, 34, 35, 36, 37, 38, 39, 40, 81, 82, 83, 84, 85, 86, 87, 88, 89, 90, 91, 92] (by decide +kernel) (by decide +kernel)
set_option maxRecDepth 20000 in
theorem g_f_X11_fault_f_X2_readLaw_a1 : GoodIn vs_f_X11_fault vs_f_X2_readLaw_a1 := goodIn_r _ [57, 46, 47, 20, 21, 22, 23, 24, 25, 43, 48, 49, 50, 51, 28, 29, 30, 31, 32, 33, 34, 35, 52, 36, 37, 38, 53, 54, 55, 56, 93, 94, 95, 89, 90, 91, 92] (by decide +kernel) (by decide +kernel)
set_option maxRecDepth 20000 in
theorem g_f_X11_fault_f_X9_readFrom_a1 : GoodIn vs_f_X11_fault vs_f_X9_readFrom_a1 := goodIn_r _ [63, 20, 21, 22, 23, 24, 25, 62, 28, 29, 30, 31, 32, 33, 34, 35, 89, 90, 91, 92, 96, 97, 98, 99, 100] (by decide +kernel) (by decide +kernel)
set_option maxHeartbeats 4000000 in
set_option maxRecDepth 100000 in
theorem f_X11_fault (l : Launch) (dC : Nat → ClassId) (dI : Nat → Nat → Nat) (sz : Nat) (sk sv : Nat → Nat) (s2 tz : Nat) (q : Nat → Nat) (kR : ClassId) (p0 : Int32) : Met l yX11_fault vs_f_X11_fault ({ frames := 5, cells := 0, slots := 0, locals := 104 }) (va_Pc [.ref (q 15), .int p0] (cWx dC dI [((q 15), .inr (11, xF q 0 1)), ((q 2), .inr (5, [.int 0, .int 0, .int 0, .int 0, .ref (q 24), .ref (q 25), .ref (q 26), .ref (q 27)])), ((q 24), .inl (kR, 2, .inl (fun _ => 0))), ((q 0), .inr (8, [.ref (q 16), .int 0, .int 0, .int 0])), ((q 3), .inr (2, [.ref (q 0), .ref (q 28), .int 0])), ((q 5), .inr (9, [.ref (q 33), .ref (q 34), .ref (q 35), .int 0, .int 0]))] [(kR, .int)] sz sk sv s2 tz)) (va_Qi (fun (r : Int32) (_ : Unit) => r = (if p0 < 0 ∨ 2 < p0 then -2 else 0)) (fun (_ : Unit) (t : State) => True) (va_A [((q 15), .inr (11, xF q 0 1)), ((q 2), .inr (5, [.int 0, .int 0, .int 0, .int 0, .ref (q 24), .ref (q 25), .ref (q 26), .ref (q 27)])), ((q 24), .inl (kR, 2, .inl (fun _ => 0))), ((q 0), .inr (8, [.ref (q 16), .int 0, .int 0, .int 0])), ((q 3), .inr (2, [.ref (q 0), .ref (q 28), .int 0])), ((q 5), .inr (9, [.ref (q 33), .ref (q 34), .ref (q 35), .int 0, .int 0]))] sz)) 0 0 (va_A [((q 15), .inr (11, xF q 0 1)), ((q 2), .inr (5, [.int 0, .int 0, .int 0, .int 0, .ref (q 24), .ref (q 25), .ref (q 26), .ref (q 27)])), ((q 24), .inl (kR, 2, .inl (fun _ => 0))), ((q 0), .inr (8, [.ref (q 16), .int 0, .int 0, .int 0])), ((q 3), .inr (2, [.ref (q 0), .ref (q 28), .int 0])), ((q 5), .inr (9, [.ref (q 33), .ref (q 34), .ref (q 35), .int 0, .int 0]))] sz) := by
  refine Met.ofW (cc := cX11_fault) (maxL := 2) (ret := (some .int)) (by decide) rfl ?_
  intro p e s m args below meth c s₁ B hml hv
  obtain ⟨rfl, ⟨hsz, hP, hK, hD0, hG⟩, hE⟩ := hv
  have hx := B.exec
  have hb := B.bytes
  have hr := B.returns
  have hts := atoms_spec (ws := vs_f_X11_fault) B.pre
  have hown : s.vm.findClass RX11 = some m.cls := findClass_of_methodNamed B.named
  have hlocks := B.notSynchronized
  have hiX11 : ∀ w ∈ u_ws RX11 TX11 17, w ∈ vs_f_X11_fault := vs_f_X11_fault_uX11
  have hiX5 : ∀ w ∈ u_ws RX5 TX5 8, w ∈ vs_f_X11_fault := vs_f_X11_fault_uX5
  have hiX8 : ∀ w ∈ u_ws RX8 TX8 4, w ∈ vs_f_X11_fault := vs_f_X11_fault_uX8
  have hiX2 : ∀ w ∈ u_ws RX2 TX2 3, w ∈ vs_f_X11_fault := vs_f_X11_fault_uX2
  have hiX9 : ∀ w ∈ u_ws RX9 TX9 5, w ∈ vs_f_X11_fault := vs_f_X11_fault_uX9
  subst hsz
  have hD := hD0.self (sz := s.heap.size)
  generalize hAe : va_A [((q 15), .inr (11, xF q 0 1)), ((q 2), .inr (5, [.int 0, .int 0, .int 0, .int 0, .ref (q 24), .ref (q 25), .ref (q 26), .ref (q 27)])), ((q 24), .inl (kR, 2, .inl (fun _ => 0))), ((q 0), .inr (8, [.ref (q 16), .int 0, .int 0, .int 0])), ((q 3), .inr (2, [.ref (q 0), .ref (q 28), .int 0])), ((q 5), .inr (9, [.ref (q 33), .ref (q 34), .ref (q 35), .int 0, .int 0]))] s.heap.size = A at hD hE ⊢
  have hA : ∀ q : Nat, s.heap.size ≤ q → A q := fun q h => by rw [← hAe]; exact Or.inr h
  have hS : va_S A s.heap s.heap [] := va_S.rf
  have hP : va_P (dC, dI) vwCl [((q 15), .inr (11, xF q 0 1)), ((q 2), .inr (5, [.int 0, .int 0, .int 0, .int 0, .ref (q 24), .ref (q 25), .ref (q 26), .ref (q 27)])), ((q 24), .inl (kR, 2, .inl (fun _ => 0))), ((q 0), .inr (8, [.ref (q 16), .int 0, .int 0, .int 0])), ((q 3), .inr (2, [.ref (q 0), .ref (q 28), .int 0])), ((q 5), .inr (9, [.ref (q 33), .ref (q 34), .ref (q 35), .int 0, .int 0]))] s.heap := hP
  have hl := lv_entry ([.ref (q 15), .int p0]) (n := 2) (Nat.le_of_ble_eq_true rfl)
  rw [lg_entry_eq]
  generalize (lg_sl ([.ref (q 15), .int p0]) ++ List.replicate (2 - (lg_sl ([.ref (q 15), .int p0])).length) Slot.unset).toArray = ls at hl ⊢
  have hl : lv_has ls 2 [(0, .ref (q 15)), (1, .int p0)] := hl
  refine lv_iload_n hx hb dX11_fault_0 rfl (lv_at hl 1 rfl) ?_
  by_cases c_1 : p0 = 0
  · refine lv_tableIn (off := 27) (tgt := 28) hx hb dX11_fault_1 (by rw [c_1]; decide) (by rw [c_1]; decide) (by rw [c_1]; rfl) (by decide) ?_
    refine lv_aload_n hx hb dX11_fault_28 rfl (lv_at hl 0 rfl) ?_
    refine va_get (D := (dC, dI)) (ci := 11) (v := .ref (q 2)) (C := RX11) (T := TX11) (N := 17) hx hb hts hiX11 hown hK hP 0 rfl rfl 2 (by decide) (hts (.fieldLink RX11 23 "WallChapels" "draft" "LWallChapels$Plan;") (by decide +kernel)) (fun _ h9 => h9) rfl dX11_fault_29 ?_
    refine lv_aload_n hx hb dX11_fault_32 rfl (lv_at hl 0 rfl) ?_
    refine va_get (D := (dC, dI)) (ci := 11) (v := .ref (q 0)) (C := RX11) (T := TX11) (N := 17) hx hb hts hiX11 hown hK hP 0 rfl rfl 0 (by decide) (hts (.fieldLink RX11 10 "WallChapels" "tape" "LWallChapels$Tape;") (by decide +kernel)) (fun _ h9 => h9) rfl dX11_fault_33 ?_
    have hPc := hP.sub (ws' := [((q 2), .inr (5, [.int 0, .int 0, .int 0, .int 0, .ref (q 24), .ref (q 25), .ref (q 26), .ref (q 27)])), ((q 24), .inl (kR, 2, .inl (fun _ => 0))), ((q 0), .inr (8, [.ref (q 16), .int 0, .int 0, .int 0]))]) [1, 2, 3] rfl
    have hDc := hD.sub (ws' := [((q 2), .inr (5, [.int 0, .int 0, .int 0, .int 0, .ref (q 24), .ref (q 25), .ref (q 26), .ref (q 27)])), ((q 24), .inl (kR, 2, .inl (fun _ => 0))), ((q 0), .inr (8, [.ref (q 16), .int 0, .int 0, .int 0]))]) [1, 2, 3] (by decide) rfl
    have hKc := hK.sub (tys' := [(kR, .int)]) [0] rfl
    have hFc := va_free (wc := [((q 2), .inr (5, [.int 0, .int 0, .int 0, .int 0, .ref (q 24), .ref (q 25), .ref (q 26), .ref (q 27)])), ((q 24), .inl (kR, 2, .inl (fun _ => 0))), ((q 0), .inr (8, [.ref (q 16), .int 0, .int 0, .int 0]))]) hD hS hA [1, 2, 3] rfl
    refine va_calli (va_runVN (As := [.ref (q 0)]) (rest := []) ⟨hx, hb, hml, hown, hts⟩ (f_X5_readFrom_a1 l dC dI s.heap.size sk sv s2 tz q kR ) ⟨va_cnB 1 hts g_f_X11_fault_f_X5_readFrom_a1 rfl rfl rfl (gx_n hG 61 rfl) (hts (.initialized RX5) (by decide +kernel)) (by decide +kernel) ⟨Nat.le_of_ble_eq_true rfl, Nat.le_of_ble_eq_true rfl⟩, (hts (.instanceMethod yX5_readFrom) (by decide +kernel)), (hts (.selects RX5 yX5_readFrom yX5_readFrom) (by decide +kernel))⟩ ⟨cW_blindx, va_recv hKc hPc (ci := 5) (q0 := 0) rfl rfl, fun U hU hW => ⟨rfl, cW_usex hU hW hPc hKc hDc hG hS hFc hE⟩⟩ rfl rfl hl.1 rfl (lv_room (Nat.le_of_ble_eq_true rfl)) dX11_fault_36 ⟨Nat.le_of_ble_eq_true rfl, Nat.le_of_ble_eq_true rfl⟩) hS (fun q _ h => hFc q h) hFc (fun r_2 u t H1 locs ht hvm hw hB hz1 hk1 hS => ?_)
    obtain ⟨hP1, hK1, hD1⟩ := hB
    rw [ht] at hP1
    have hK1 := va_K.moved hvm.symm hK1
    obtain ⟨hP, hD⟩ := va_join (wr := [((q 15), .inr (11, xF q 0 1)), ((q 3), .inr (2, [.ref (q 0), .ref (q 28), .int 0])), ((q 5), .inr (9, [.ref (q 33), .ref (q 34), .ref (q 35), .int 0, .int 0]))]) (w1 := [((q 2), .inr (5, [.int 0, .int 0, .int 0, .int 0, .ref (q 24), .ref (q 25), .ref (q 26), .ref (q 27)])), ((q 0), .inr (8, [.ref (q 16), .int 0, .int 0, .int 0]))]) hP hD [1, 2, 3] [0, 4, 5] rfl rfl (by decide) (by decide) hk1 hFc hP1 hD1
    generalize H1 = H at hP hS ⊢
    have hP : va_P (dC, dI) vwCl [((q 15), .inr (11, xF q 0 1)), ((q 3), .inr (2, [.ref (q 0), .ref (q 28), .int 0])), ((q 5), .inr (9, [.ref (q 33), .ref (q 34), .ref (q 35), .int 0, .int 0])), ((q 2), .inr (5, [.int 0, .int 0, .int 0, .int 0, .ref (q 24), .ref (q 25), .ref (q 26), .ref (q 27)])), ((q 0), .inr (8, [.ref (q 16), .int 0, .int 0, .int 0]))] H := hP
    have hD : va_D A [((q 15), .inr (11, xF q 0 1)), ((q 3), .inr (2, [.ref (q 0), .ref (q 28), .int 0])), ((q 5), .inr (9, [.ref (q 33), .ref (q 34), .ref (q 35), .int 0, .int 0])), ((q 2), .inr (5, [.int 0, .int 0, .int 0, .int 0, .ref (q 24), .ref (q 25), .ref (q 26), .ref (q 27)])), ((q 0), .inr (8, [.ref (q 16), .int 0, .int 0, .int 0]))] := hD
    refine W.widen (k := 0) (n := 0) (Nat.le_of_ble_eq_true rfl) (Nat.le_of_ble_eq_true rfl) ?_
    obtain rfl : r_2 = 0 := hw
    exact W.iret (v := 0) hx hb hr (fun t ht hW => ⟨⟨0, (), rfl, by rw [if_neg (show ¬ (p0 < 0 ∨ 2 < p0) by have z0 := c_1; simp only [i_lt, i_le, i_eq, i_zm1000000, i_zm30, i_zm20, i_zm2, i_zm1, i_z0, i_z1, i_z2, i_z3, i_z4, i_z5, i_z6, i_z7, i_z8, i_z9, i_z10, i_z11, i_z12, i_z13, i_z14, i_z15, i_z16, i_z17, i_z18, i_z19, i_z20, i_z21, i_z22, i_z23, i_z24, i_z30, i_z32, i_z40, i_z41, i_z50, i_z58, i_z59, i_z60, i_z63, i_z99, i_z100, i_z240, i_z255, i_z999] at z0; simp only [i_lt, i_le, i_eq, i_zm1000000, i_zm30, i_zm20, i_zm2, i_zm1, i_z0, i_z1, i_z2, i_z3, i_z4, i_z5, i_z6, i_z7, i_z8, i_z9, i_z10, i_z11, i_z12, i_z13, i_z14, i_z15, i_z16, i_z17, i_z18, i_z19, i_z20, i_z21, i_z22, i_z23, i_z24, i_z30, i_z32, i_z40, i_z41, i_z50, i_z58, i_z59, i_z60, i_z63, i_z99, i_z100, i_z240, i_z255, i_z999]; omega)], trivial⟩, hS.F ht⟩) hS.2.2 dX11_fault_39
  by_cases c_3 : p0 = 1
  · refine lv_tableIn (off := 39) (tgt := 40) hx hb dX11_fault_1 (by rw [c_3]; decide) (by rw [c_3]; decide) (by rw [c_3]; rfl) (by decide) ?_
    refine lv_aload_n hx hb dX11_fault_40 rfl (lv_at hl 0 rfl) ?_
    refine va_get (D := (dC, dI)) (ci := 11) (v := .ref (q 3)) (C := RX11) (T := TX11) (N := 17) hx hb hts hiX11 hown hK hP 0 rfl rfl 3 (by decide) (hts (.fieldLink RX11 31 "WallChapels" "lawReader" "LWallChapels$LawReader;") (by decide +kernel)) (fun _ h9 => h9) rfl dX11_fault_41 ?_
    have hPc := hP.sub (ws' := [((q 3), .inr (2, [.ref (q 0), .ref (q 28), .int 0])), ((q 0), .inr (8, [.ref (q 16), .int 0, .int 0, .int 0]))]) [4, 3] rfl
    have hDc := hD.sub (ws' := [((q 3), .inr (2, [.ref (q 0), .ref (q 28), .int 0])), ((q 0), .inr (8, [.ref (q 16), .int 0, .int 0, .int 0]))]) [4, 3] (by decide) rfl
    have hKc := hK.sub (tys' := []) [] rfl
    have hFc := va_free (wc := [((q 3), .inr (2, [.ref (q 0), .ref (q 28), .int 0])), ((q 0), .inr (8, [.ref (q 16), .int 0, .int 0, .int 0]))]) hD hS hA [4, 3] rfl
    refine va_calli (va_runVN (As := []) (rest := []) ⟨hx, hb, hml, hown, hts⟩ (f_X2_readLaw_a1 l dC dI s.heap.size q ) ⟨va_cnB 0 hts g_f_X11_fault_f_X2_readLaw_a1 rfl rfl rfl (gx_n hG 68 rfl) (hts (.initialized RX2) (by decide +kernel)) (by decide +kernel) ⟨Nat.le_of_ble_eq_true rfl, Nat.le_of_ble_eq_true rfl⟩, (hts (.instanceMethod yX2_readLaw) (by decide +kernel)), (hts (.selects RX2 yX2_readLaw yX2_readLaw) (by decide +kernel))⟩ ⟨cW_blind, va_recv hKc hPc (ci := 2) (q0 := 0) rfl rfl, fun U hU hW => ⟨rfl, cW_use hU hW hPc hKc hDc hG⟩⟩ rfl rfl hl.1 rfl (lv_room (Nat.le_of_ble_eq_true rfl)) dX11_fault_44 ⟨Nat.le_of_ble_eq_true rfl, Nat.le_of_ble_eq_true rfl⟩) hS (fun q _ h => hFc q h) hFc (fun r_4 u t H1 locs ht hvm hw hB hz1 hk1 hS => ?_)
    obtain ⟨hP1, hK1, hD1⟩ := hB
    rw [ht] at hP1
    have hK1 := va_K.moved hvm.symm hK1
    obtain ⟨hP, hD⟩ := va_join (wr := [((q 15), .inr (11, xF q 0 1)), ((q 2), .inr (5, [.int 0, .int 0, .int 0, .int 0, .ref (q 24), .ref (q 25), .ref (q 26), .ref (q 27)])), ((q 24), .inl (kR, 2, .inl (fun _ => 0))), ((q 5), .inr (9, [.ref (q 33), .ref (q 34), .ref (q 35), .int 0, .int 0]))]) (w1 := [((q 3), .inr (2, [.ref (q 0), .ref (q 28), .int 0])), ((q 0), .inr (8, [.ref (q 16), .int 0, .int 0, .int 0]))]) hP hD [4, 3] [0, 1, 2, 5] rfl rfl (by decide) (by decide) hk1 hFc hP1 hD1
    generalize H1 = H at hP hS ⊢
    have hP : va_P (dC, dI) vwCl [((q 15), .inr (11, xF q 0 1)), ((q 2), .inr (5, [.int 0, .int 0, .int 0, .int 0, .ref (q 24), .ref (q 25), .ref (q 26), .ref (q 27)])), ((q 24), .inl (kR, 2, .inl (fun _ => 0))), ((q 5), .inr (9, [.ref (q 33), .ref (q 34), .ref (q 35), .int 0, .int 0])), ((q 3), .inr (2, [.ref (q 0), .ref (q 28), .int 0])), ((q 0), .inr (8, [.ref (q 16), .int 0, .int 0, .int 0]))] H := hP
    have hD : va_D A [((q 15), .inr (11, xF q 0 1)), ((q 2), .inr (5, [.int 0, .int 0, .int 0, .int 0, .ref (q 24), .ref (q 25), .ref (q 26), .ref (q 27)])), ((q 24), .inl (kR, 2, .inl (fun _ => 0))), ((q 5), .inr (9, [.ref (q 33), .ref (q 34), .ref (q 35), .int 0, .int 0])), ((q 3), .inr (2, [.ref (q 0), .ref (q 28), .int 0])), ((q 0), .inr (8, [.ref (q 16), .int 0, .int 0, .int 0]))] := hD
    refine W.widen (k := 0) (n := 0) (Nat.le_of_ble_eq_true rfl) (Nat.le_of_ble_eq_true rfl) ?_
    obtain rfl : r_4 = 0 := hw
    exact W.iret (v := 0) hx hb hr (fun t ht hW => ⟨⟨0, (), rfl, by rw [if_neg (show ¬ (p0 < 0 ∨ 2 < p0) by have z0 := c_1; have z1 := c_3; simp only [i_lt, i_le, i_eq, i_zm1000000, i_zm30, i_zm20, i_zm2, i_zm1, i_z0, i_z1, i_z2, i_z3, i_z4, i_z5, i_z6, i_z7, i_z8, i_z9, i_z10, i_z11, i_z12, i_z13, i_z14, i_z15, i_z16, i_z17, i_z18, i_z19, i_z20, i_z21, i_z22, i_z23, i_z24, i_z30, i_z32, i_z40, i_z41, i_z50, i_z58, i_z59, i_z60, i_z63, i_z99, i_z100, i_z240, i_z255, i_z999] at z0 z1; simp only [i_lt, i_le, i_eq, i_zm1000000, i_zm30, i_zm20, i_zm2, i_zm1, i_z0, i_z1, i_z2, i_z3, i_z4, i_z5, i_z6, i_z7, i_z8, i_z9, i_z10, i_z11, i_z12, i_z13, i_z14, i_z15, i_z16, i_z17, i_z18, i_z19, i_z20, i_z21, i_z22, i_z23, i_z24, i_z30, i_z32, i_z40, i_z41, i_z50, i_z58, i_z59, i_z60, i_z63, i_z99, i_z100, i_z240, i_z255, i_z999]; omega)], trivial⟩, hS.F ht⟩) hS.2.2 dX11_fault_47
  by_cases c_5 : p0 = 2
  · refine lv_tableIn (off := 47) (tgt := 48) hx hb dX11_fault_1 (by rw [c_5]; decide) (by rw [c_5]; decide) (by rw [c_5]; rfl) (by decide) ?_
    refine lv_aload_n hx hb dX11_fault_48 rfl (lv_at hl 0 rfl) ?_
    refine va_get (D := (dC, dI)) (ci := 11) (v := .ref (q 5)) (C := RX11) (T := TX11) (N := 17) hx hb hts hiX11 hown hK hP 0 rfl rfl 5 (by decide) (hts (.fieldLink RX11 45 "WallChapels" "walks" "LWallChapels$Walks;") (by decide +kernel)) (fun _ h9 => h9) rfl dX11_fault_49 ?_
    refine lv_aload_n hx hb dX11_fault_52 rfl (lv_at hl 0 rfl) ?_
    refine va_get (D := (dC, dI)) (ci := 11) (v := .ref (q 0)) (C := RX11) (T := TX11) (N := 17) hx hb hts hiX11 hown hK hP 0 rfl rfl 0 (by decide) (hts (.fieldLink RX11 10 "WallChapels" "tape" "LWallChapels$Tape;") (by decide +kernel)) (fun _ h9 => h9) rfl dX11_fault_53 ?_
    have hPc := hP.sub (ws' := [((q 5), .inr (9, [.ref (q 33), .ref (q 34), .ref (q 35), .int 0, .int 0])), ((q 0), .inr (8, [.ref (q 16), .int 0, .int 0, .int 0]))]) [5, 3] rfl
    have hDc := hD.sub (ws' := [((q 5), .inr (9, [.ref (q 33), .ref (q 34), .ref (q 35), .int 0, .int 0])), ((q 0), .inr (8, [.ref (q 16), .int 0, .int 0, .int 0]))]) [5, 3] (by decide) rfl
    have hKc := hK.sub (tys' := []) [] rfl
    have hFc := va_free (wc := [((q 5), .inr (9, [.ref (q 33), .ref (q 34), .ref (q 35), .int 0, .int 0])), ((q 0), .inr (8, [.ref (q 16), .int 0, .int 0, .int 0]))]) hD hS hA [5, 3] rfl
    refine va_calli (va_runVN (As := [.ref (q 0)]) (rest := []) ⟨hx, hb, hml, hown, hts⟩ (f_X9_readFrom_a1 l dC dI s.heap.size q ) ⟨va_cnB 1 hts g_f_X11_fault_f_X9_readFrom_a1 rfl rfl rfl (gx_n hG 76 rfl) (hts (.initialized RX9) (by decide +kernel)) (by decide +kernel) ⟨Nat.le_of_ble_eq_true rfl, Nat.le_of_ble_eq_true rfl⟩, (hts (.instanceMethod yX9_readFrom) (by decide +kernel)), (hts (.selects RX9 yX9_readFrom yX9_readFrom) (by decide +kernel))⟩ ⟨cW_blind, va_recv hKc hPc (ci := 9) (q0 := 0) rfl rfl, fun U hU hW => ⟨rfl, cW_use hU hW hPc hKc hDc hG⟩⟩ rfl rfl hl.1 rfl (lv_room (Nat.le_of_ble_eq_true rfl)) dX11_fault_56 ⟨Nat.le_of_ble_eq_true rfl, Nat.le_of_ble_eq_true rfl⟩) hS (fun q _ h => hFc q h) hFc (fun r_6 u t H1 locs ht hvm hw hB hz1 hk1 hS => ?_)
    obtain ⟨hP1, hK1, hD1⟩ := hB
    rw [ht] at hP1
    have hK1 := va_K.moved hvm.symm hK1
    obtain ⟨hP, hD⟩ := va_join (wr := [((q 15), .inr (11, xF q 0 1)), ((q 2), .inr (5, [.int 0, .int 0, .int 0, .int 0, .ref (q 24), .ref (q 25), .ref (q 26), .ref (q 27)])), ((q 24), .inl (kR, 2, .inl (fun _ => 0))), ((q 3), .inr (2, [.ref (q 0), .ref (q 28), .int 0]))]) (w1 := [((q 5), .inr (9, [.ref (q 33), .ref (q 34), .ref (q 35), .int 0, .int 0])), ((q 0), .inr (8, [.ref (q 16), .int 0, .int 0, .int (-1)]))]) hP hD [5, 3] [0, 1, 2, 4] rfl rfl (by decide) (by decide) hk1 hFc hP1 hD1
    generalize H1 = H at hP hS ⊢
    have hP : va_P (dC, dI) vwCl [((q 15), .inr (11, xF q 0 1)), ((q 2), .inr (5, [.int 0, .int 0, .int 0, .int 0, .ref (q 24), .ref (q 25), .ref (q 26), .ref (q 27)])), ((q 24), .inl (kR, 2, .inl (fun _ => 0))), ((q 3), .inr (2, [.ref (q 0), .ref (q 28), .int 0])), ((q 5), .inr (9, [.ref (q 33), .ref (q 34), .ref (q 35), .int 0, .int 0])), ((q 0), .inr (8, [.ref (q 16), .int 0, .int 0, .int (-1)]))] H := hP
    have hD : va_D A [((q 15), .inr (11, xF q 0 1)), ((q 2), .inr (5, [.int 0, .int 0, .int 0, .int 0, .ref (q 24), .ref (q 25), .ref (q 26), .ref (q 27)])), ((q 24), .inl (kR, 2, .inl (fun _ => 0))), ((q 3), .inr (2, [.ref (q 0), .ref (q 28), .int 0])), ((q 5), .inr (9, [.ref (q 33), .ref (q 34), .ref (q 35), .int 0, .int 0])), ((q 0), .inr (8, [.ref (q 16), .int 0, .int 0, .int (-1)]))] := hD
    refine W.widen (k := 0) (n := 0) (Nat.le_of_ble_eq_true rfl) (Nat.le_of_ble_eq_true rfl) ?_
    obtain rfl : r_6 = 0 := hw
    exact W.iret (v := 0) hx hb hr (fun t ht hW => ⟨⟨0, (), rfl, by rw [if_neg (show ¬ (p0 < 0 ∨ 2 < p0) by have z0 := c_1; have z1 := c_3; have z2 := c_5; simp only [i_lt, i_le, i_eq, i_zm1000000, i_zm30, i_zm20, i_zm2, i_zm1, i_z0, i_z1, i_z2, i_z3, i_z4, i_z5, i_z6, i_z7, i_z8, i_z9, i_z10, i_z11, i_z12, i_z13, i_z14, i_z15, i_z16, i_z17, i_z18, i_z19, i_z20, i_z21, i_z22, i_z23, i_z24, i_z30, i_z32, i_z40, i_z41, i_z50, i_z58, i_z59, i_z60, i_z63, i_z99, i_z100, i_z240, i_z255, i_z999] at z0 z1 z2; simp only [i_lt, i_le, i_eq, i_zm1000000, i_zm30, i_zm20, i_zm2, i_zm1, i_z0, i_z1, i_z2, i_z3, i_z4, i_z5, i_z6, i_z7, i_z8, i_z9, i_z10, i_z11, i_z12, i_z13, i_z14, i_z15, i_z16, i_z17, i_z18, i_z19, i_z20, i_z21, i_z22, i_z23, i_z24, i_z30, i_z32, i_z40, i_z41, i_z50, i_z58, i_z59, i_z60, i_z63, i_z99, i_z100, i_z240, i_z255, i_z999]; omega)], trivial⟩, hS.F ht⟩) hS.2.2 dX11_fault_59
  refine lv_tableOut (tgt := 60) hx hb dX11_fault_1 (by have z0 := c_1; have z1 := c_3; have z2 := c_5; simp only [i_eq, i_zm1000000, i_zm30, i_zm20, i_zm2, i_zm1, i_z0, i_z1, i_z2, i_z3, i_z4, i_z5, i_z6, i_z7, i_z8, i_z9, i_z10, i_z11, i_z12, i_z13, i_z14, i_z15, i_z16, i_z17, i_z18, i_z19, i_z20, i_z21, i_z22, i_z23, i_z24, i_z30, i_z32, i_z40, i_z41, i_z50, i_z58, i_z59, i_z60, i_z63, i_z99, i_z100, i_z240, i_z255, i_z999] at z0 z1 z2; omega) (by decide) ?_
  refine lv_bipush (v := (-2)) hx hb dX11_fault_60 (by decide) ?_
  exact W.iret (v := (-2)) hx hb hr (fun t ht hW => ⟨⟨(-2), (), rfl, by rw [if_pos (show (p0 < 0 ∨ 2 < p0) by have z0 := c_1; have z1 := c_3; have z2 := c_5; simp only [i_lt, i_le, i_eq, i_zm1000000, i_zm30, i_zm20, i_zm2, i_zm1, i_z0, i_z1, i_z2, i_z3, i_z4, i_z5, i_z6, i_z7, i_z8, i_z9, i_z10, i_z11, i_z12, i_z13, i_z14, i_z15, i_z16, i_z17, i_z18, i_z19, i_z20, i_z21, i_z22, i_z23, i_z24, i_z30, i_z32, i_z40, i_z41, i_z50, i_z58, i_z59, i_z60, i_z63, i_z99, i_z100, i_z240, i_z255, i_z999] at z0 z1 z2; simp only [i_lt, i_le, i_eq, i_zm1000000, i_zm30, i_zm20, i_zm2, i_zm1, i_z0, i_z1, i_z2, i_z3, i_z4, i_z5, i_z6, i_z7, i_z8, i_z9, i_z10, i_z11, i_z12, i_z13, i_z14, i_z15, i_z16, i_z17, i_z18, i_z19, i_z20, i_z21, i_z22, i_z23, i_z24, i_z30, i_z32, i_z40, i_z41, i_z50, i_z58, i_z59, i_z60, i_z63, i_z99, i_z100, i_z240, i_z255, i_z999]; omega)], trivial⟩, hS.F ht⟩) hS.2.2 dX11_fault_62
def vs_f_X11_text : List Cond := .code yX11_text cX11_text 3 (some .int) :: ([.initialized RX11, .instanceMethod yX11_fault, .selects RX11 yX11_fault yX11_fault, .fieldLink RX11 23 "WallChapels" "draft" "LWallChapels$Plan;", .fieldLink RX11 10 "WallChapels" "tape" "LWallChapels$Tape;", .initialized RX5, .instanceMethod yX5_readFrom, .selects RX5 yX5_readFrom yX5_readFrom, .instanceMethod yX5_begin, .selects RX5 yX5_begin yX5_begin, .fieldLink RX5 26 "WallChapels$Plan" "corners" "I", .fieldLink RX5 30 "WallChapels$Plan" "streets" "I", .fieldLink RX5 33 "WallChapels$Plan" "walkers" "I", .fieldLink RX5 75 "WallChapels$Plan" "ruled" "Z", .fieldLink RX5 79 "WallChapels$Plan" "RULE_WITHOUT" "[I", .fieldLink RX5 9 "WallChapels$Plan" "rules" "[I", .native arraycopyName, .static arraycopyName, .initialized RJ10, .methodLink RX5 36 arraycopyName, .code yX5_begin cX5_begin 1 none, .methodLink RX5 42 yX5_begin, .initialized RX8, .instanceMethod yX8_rewind, .selects RX8 yX8_rewind yX8_rewind, .fieldLink RX8 19 "WallChapels$Tape" "head" "I", .fieldLink RX8 22 "WallChapels$Tape" "wrong" "I", .code yX8_rewind cX8_rewind 1 none, .instanceMethod yX5_readClause, .selects RX5 yX5_readClause yX5_readClause, .instanceMethod yX8_ahead, .selects RX8 yX8_ahead yX8_ahead, .fieldLink RX8 15 "WallChapels$Tape" "length" "I", .instanceMethod yX8_byteAtHead, .selects RX8 yX8_byteAtHead yX8_byteAtHead, .code yX8_byteAtHead cX8_byteAtHead 1 (some .int), .methodLink RX8 25 yX8_byteAtHead, .code yX8_ahead cX8_ahead 1 (some .int), .instanceMethod yX8_refuseHere, .selects RX8 yX8_refuseHere yX8_refuseHere, .code yX8_refuseHere cX8_refuseHere 1 (some .boolean), .code yX5_readClause cX5_readClause 4 (some .boolean), .methodLink RX5 50 yX5_readClause, .code yX5_readFrom cX5_readFrom 3 (some .int), .fieldLink RX11 31 "WallChapels" "lawReader" "LWallChapels$LawReader;", .initialized RX2, .instanceMethod yX2_readLaw, .selects RX2 yX2_readLaw yX2_readLaw, .fieldLink RX2 19 "WallChapels$LawReader" "size" "I", .fieldLink RX2 15 "WallChapels$LawReader" "tape" "LWallChapels$Tape;", .instanceMethod yX2_readClause, .selects RX2 yX2_readClause yX2_readClause, .instanceMethod yX8_take, .selects RX8 yX8_take yX8_take, .methodLink RX8 29 yX8_ahead, .methodLink RX8 32 yX8_refuseHere, .code yX8_take cX8_take 2 (some .boolean), .code yX2_readClause cX2_readClause 3 (some .boolean), .methodLink RX2 28 yX2_readClause, .code yX2_readLaw cX2_readLaw 2 (some .int), .fieldLink RX11 45 "WallChapels" "walks" "LWallChapels$Walks;", .initialized RX9, .instanceMethod yX9_readFrom, .selects RX9 yX9_readFrom yX9_readFrom, .fieldLink RX9 28 "WallChapels$Walks" "draftLength" "I", .code yX9_readFrom cX9_readFrom 3 (some .int), .code yX11_fault cX11_fault 2 (some .int), .methodLink RX11 126 yX11_fault] ++ (u_ws RX11 TX11 17 ++ (u_ws RX5 TX5 8 ++ (u_ws RX8 TX8 4 ++ (u_ws RX2 TX2 3 ++ (u_ws RX9 TX9 5))))))
theorem vs_f_X11_text_uX11 : ∀ w ∈ u_ws RX11 TX11 17, w ∈ vs_f_X11_text := fun _ h => List.mem_cons_of_mem _ (List.mem_append_right _ (List.mem_append_left _ h))
theorem vs_f_X11_text_uX5 : ∀ w ∈ u_ws RX5 TX5 8, w ∈ vs_f_X11_text := fun _ h => List.mem_cons_of_mem _ (List.mem_append_right _ (List.mem_append_right _ (List.mem_append_left _ h)))
theorem vs_f_X11_text_uX8 : ∀ w ∈ u_ws RX8 TX8 4, w ∈ vs_f_X11_text := fun _ h => List.mem_cons_of_mem _ (List.mem_append_right _ (List.mem_append_right _ (List.mem_append_right _ (List.mem_append_left _ h))))
theorem vs_f_X11_text_uX2 : ∀ w ∈ u_ws RX2 TX2 3, w ∈ vs_f_X11_text := fun _ h => List.mem_cons_of_mem _ (List.mem_append_right _ (List.mem_append_right _ (List.mem_append_right _ (List.mem_append_right _ (List.mem_append_left _ h)))))
theorem vs_f_X11_text_uX9 : ∀ w ∈ u_ws RX9 TX9 5, w ∈ vs_f_X11_text := fun _ h => List.mem_cons_of_mem _ (List.mem_append_right _ (List.mem_append_right _ (List.mem_append_right _ (List.mem_append_right _ (List.mem_append_right _ (h))))))
set_option maxRecDepth 20000 in
theorem g_f_X11_text_f_X11_fault : GoodIn vs_f_X11_text (wsV RX11 126 RX11 yX11_fault vs_f_X11_fault) := goodIn_r _ [68, 2, 3, 1, 67, 4, 5, 6, 7, 8, 9, 10, 11, 12, 13, 14, 15, 16, 17, 18, 19, 20, 21, 22, 23, 24, 25, 26, 27, 28, 29, 30, 31, 32, 33, 34, 35, 36, 37, 38, 39, 40, 41, 42, 43, 44, 45, 46, 47, 48, 49, 50, 51, 52, 53, 54, 55, 56, 57, 58, 59, 60, 61, 62, 63, 64, 65, 66, 69, 70, 71, 72, 73, 74, 75, 76, 77, 78, 79, 80, 81, 82, 83, 84, 85, 86, 87, 88, 89, 90, 91, 92, 93, 94, 95, 96, 97, 98, 99, 100, 101, 102, 103, 104, 105] (by decide +kernel) (by decide +kernel)
set_option maxHeartbeats 4000000 in
set_option maxRecDepth 100000 in
theorem f_X11_text (l : Launch) (dC : Nat → ClassId) (dI : Nat → Nat → Nat) (sz : Nat) (sk sv : Nat → Nat) (s2 tz : Nat) (q : Nat → Nat) (kR : ClassId) (p0 : Int32) : Met l yX11_text vs_f_X11_text ({ frames := 6, cells := 0, slots := 0, locals := 125 }) (va_Pc [.ref (q 15), .int p0] (cWx dC dI [((q 15), .inr (11, xF q 0 1)), ((q 2), .inr (5, [.int 0, .int 0, .int 0, .int 0, .ref (q 24), .ref (q 25), .ref (q 26), .ref (q 27)])), ((q 24), .inl (kR, 2, .inl (fun _ => 0))), ((q 0), .inr (8, [.ref (q 16), .int 0, .int 0, .int 0])), ((q 3), .inr (2, [.ref (q 0), .ref (q 28), .int 0])), ((q 5), .inr (9, [.ref (q 33), .ref (q 34), .ref (q 35), .int 0, .int 0]))] [(kR, .int)] sz sk sv s2 tz)) (va_Qi (fun (r : Int32) (_ : Unit) => r = (-1)) (fun (_ : Unit) (t : State) => True) (va_A [((q 15), .inr (11, xF q 0 1)), ((q 2), .inr (5, [.int 0, .int 0, .int 0, .int 0, .ref (q 24), .ref (q 25), .ref (q 26), .ref (q 27)])), ((q 24), .inl (kR, 2, .inl (fun _ => 0))), ((q 0), .inr (8, [.ref (q 16), .int 0, .int 0, .int 0])), ((q 3), .inr (2, [.ref (q 0), .ref (q 28), .int 0])), ((q 5), .inr (9, [.ref (q 33), .ref (q 34), .ref (q 35), .int 0, .int 0]))] sz)) 0 0 (va_A [((q 15), .inr (11, xF q 0 1)), ((q 2), .inr (5, [.int 0, .int 0, .int 0, .int 0, .ref (q 24), .ref (q 25), .ref (q 26), .ref (q 27)])), ((q 24), .inl (kR, 2, .inl (fun _ => 0))), ((q 0), .inr (8, [.ref (q 16), .int 0, .int 0, .int 0])), ((q 3), .inr (2, [.ref (q 0), .ref (q 28), .int 0])), ((q 5), .inr (9, [.ref (q 33), .ref (q 34), .ref (q 35), .int 0, .int 0]))] sz) := by
  refine Met.ofW (cc := cX11_text) (maxL := 3) (ret := (some .int)) (by decide) rfl ?_
  intro p e s m args below meth c s₁ B hml hv
  obtain ⟨rfl, ⟨hsz, hP, hK, hD0, hG⟩, hE⟩ := hv
  have hx := B.exec
  have hb := B.bytes
  have hr := B.returns
  have hts := atoms_spec (ws := vs_f_X11_text) B.pre
  have hown : s.vm.findClass RX11 = some m.cls := findClass_of_methodNamed B.named
  have hlocks := B.notSynchronized
  have hiX11 : ∀ w ∈ u_ws RX11 TX11 17, w ∈ vs_f_X11_text := vs_f_X11_text_uX11
  have hiX5 : ∀ w ∈ u_ws RX5 TX5 8, w ∈ vs_f_X11_text := vs_f_X11_text_uX5
  have hiX8 : ∀ w ∈ u_ws RX8 TX8 4, w ∈ vs_f_X11_text := vs_f_X11_text_uX8
  have hiX2 : ∀ w ∈ u_ws RX2 TX2 3, w ∈ vs_f_X11_text := vs_f_X11_text_uX2
  have hiX9 : ∀ w ∈ u_ws RX9 TX9 5, w ∈ vs_f_X11_text := vs_f_X11_text_uX9
  subst hsz
  have hD := hD0.self (sz := s.heap.size)
  generalize hAe : va_A [((q 15), .inr (11, xF q 0 1)), ((q 2), .inr (5, [.int 0, .int 0, .int 0, .int 0, .ref (q 24), .ref (q 25), .ref (q 26), .ref (q 27)])), ((q 24), .inl (kR, 2, .inl (fun _ => 0))), ((q 0), .inr (8, [.ref (q 16), .int 0, .int 0, .int 0])), ((q 3), .inr (2, [.ref (q 0), .ref (q 28), .int 0])), ((q 5), .inr (9, [.ref (q 33), .ref (q 34), .ref (q 35), .int 0, .int 0]))] s.heap.size = A at hD hE ⊢
  have hA : ∀ q : Nat, s.heap.size ≤ q → A q := fun q h => by rw [← hAe]; exact Or.inr h
  have hS : va_S A s.heap s.heap [] := va_S.rf
  have hP : va_P (dC, dI) vwCl [((q 15), .inr (11, xF q 0 1)), ((q 2), .inr (5, [.int 0, .int 0, .int 0, .int 0, .ref (q 24), .ref (q 25), .ref (q 26), .ref (q 27)])), ((q 24), .inl (kR, 2, .inl (fun _ => 0))), ((q 0), .inr (8, [.ref (q 16), .int 0, .int 0, .int 0])), ((q 3), .inr (2, [.ref (q 0), .ref (q 28), .int 0])), ((q 5), .inr (9, [.ref (q 33), .ref (q 34), .ref (q 35), .int 0, .int 0]))] s.heap := hP
  have hl := lv_entry ([.ref (q 15), .int p0]) (n := 3) (Nat.le_of_ble_eq_true rfl)
  rw [lg_entry_eq]
  generalize (lg_sl ([.ref (q 15), .int p0]) ++ List.replicate (3 - (lg_sl ([.ref (q 15), .int p0])).length) Slot.unset).toArray = ls at hl ⊢
  have hl : lv_has ls 3 [(0, .ref (q 15)), (1, .int p0)] := hl
  refine lv_aload_n hx hb dX11_text_0 rfl (lv_at hl 0 rfl) ?_
  refine lv_iload_n hx hb dX11_text_1 rfl (lv_at hl 1 rfl) ?_
  have hPc := hP.sub (ws' := [((q 15), .inr (11, xF q 0 1)), ((q 2), .inr (5, [.int 0, .int 0, .int 0, .int 0, .ref (q 24), .ref (q 25), .ref (q 26), .ref (q 27)])), ((q 24), .inl (kR, 2, .inl (fun _ => 0))), ((q 0), .inr (8, [.ref (q 16), .int 0, .int 0, .int 0])), ((q 3), .inr (2, [.ref (q 0), .ref (q 28), .int 0])), ((q 5), .inr (9, [.ref (q 33), .ref (q 34), .ref (q 35), .int 0, .int 0]))]) [0, 1, 2, 3, 4, 5] rfl
  have hDc := hD.sub (ws' := [((q 15), .inr (11, xF q 0 1)), ((q 2), .inr (5, [.int 0, .int 0, .int 0, .int 0, .ref (q 24), .ref (q 25), .ref (q 26), .ref (q 27)])), ((q 24), .inl (kR, 2, .inl (fun _ => 0))), ((q 0), .inr (8, [.ref (q 16), .int 0, .int 0, .int 0])), ((q 3), .inr (2, [.ref (q 0), .ref (q 28), .int 0])), ((q 5), .inr (9, [.ref (q 33), .ref (q 34), .ref (q 35), .int 0, .int 0]))]) [0, 1, 2, 3, 4, 5] (by decide) rfl
  have hKc := hK.sub (tys' := [(kR, .int)]) [0] rfl
  have hFc := va_free (wc := [((q 15), .inr (11, xF q 0 1)), ((q 2), .inr (5, [.int 0, .int 0, .int 0, .int 0, .ref (q 24), .ref (q 25), .ref (q 26), .ref (q 27)])), ((q 24), .inl (kR, 2, .inl (fun _ => 0))), ((q 0), .inr (8, [.ref (q 16), .int 0, .int 0, .int 0])), ((q 3), .inr (2, [.ref (q 0), .ref (q 28), .int 0])), ((q 5), .inr (9, [.ref (q 33), .ref (q 34), .ref (q 35), .int 0, .int 0]))]) hD hS hA [0, 1, 2, 3, 4, 5] rfl
  refine va_calli (va_runV (As := [.int p0]) (rest := []) ⟨hx, hb, hml, hown, hts⟩ (f_X11_fault l dC dI s.heap.size sk sv s2 tz q kR p0) (cwV 1 hts g_f_X11_text_f_X11_fault rfl rfl rfl (by decide +kernel) ⟨Nat.le_of_ble_eq_true rfl, Nat.le_of_ble_eq_true rfl⟩) ⟨cW_blindx, va_recv hKc hPc (ci := 11) (q0 := 0) rfl rfl, fun U hU hW => ⟨rfl, cW_usex hU hW hPc hKc hDc hG hS hFc hE⟩⟩ rfl rfl hl.1 rfl (lv_room (Nat.le_of_ble_eq_true rfl)) dX11_text_2 ⟨Nat.le_of_ble_eq_true rfl, Nat.le_of_ble_eq_true rfl⟩) hS (fun q _ h => hFc q h) hFc (fun r_1 u t H1 locs ht hvm hw hB hz1 hk1 hS => ?_)
  obtain ⟨hP, hD⟩ := va_join (wr := []) (w1 := []) hP hD [0, 1, 2, 3, 4, 5] [] rfl rfl (by decide) (by decide) hk1 hFc (va_P_nil H1) va_D_nil
  generalize H1 = H at hP hS ⊢
  have hP : va_P (dC, dI) vwCl [] H := hP
  have hD : va_D A [] := hD
  refine W.widen (k := 0) (n := 0) (Nat.le_of_ble_eq_true rfl) (Nat.le_of_ble_eq_true rfl) ?_
  have hne_2 : ¬ r_1 = -1 := by rw [hw]; split <;> decide
  refine lv_iconst (v := (-1)) hx hb dX11_text_5 (by decide) ?_
  refine lv_icmp_eq (tgt := 11) hx hb dX11_text_6 (by decide) (fun c_3 => by have z0 := hne_2; have z1 := c_3; simp only [i_lt, i_le, i_eq, i_zm1000000, i_zm30, i_zm20, i_zm2, i_zm1, i_z0, i_z1, i_z2, i_z3, i_z4, i_z5, i_z6, i_z7, i_z8, i_z9, i_z10, i_z11, i_z12, i_z13, i_z14, i_z15, i_z16, i_z17, i_z18, i_z19, i_z20, i_z21, i_z22, i_z23, i_z24, i_z30, i_z32, i_z40, i_z41, i_z50, i_z58, i_z59, i_z60, i_z63, i_z99, i_z100, i_z240, i_z255, i_z999] at z0 z1; omega) (fun c_3 => ?_)
  refine lv_iconst (v := (-1)) hx hb dX11_text_9 (by decide) ?_
  exact W.iret (v := (-1)) hx hb hr (fun t ht hW => ⟨⟨(-1), (), rfl, rfl, trivial⟩, hS.F ht⟩) hS.2.2 dX11_text_10
