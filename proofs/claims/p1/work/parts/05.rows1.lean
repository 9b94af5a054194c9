theorem dX12_feed_29 : decode cX12_feed 29 = .ok (.iadd, 1) := by decide +kernel
theorem dX12_feed_30 : decode cX12_feed 30 = .ok (.iload 5, 2) := by decide +kernel
theorem dX12_feed_32 : decode cX12_feed 32 = .ok (.invokestatic 105, 3) := by decide +kernel
theorem dX12_feed_35 : decode cX12_feed 35 = .ok (.iadd, 1) := by decide +kernel
theorem dX12_feed_36 : decode cX12_feed 36 = .ok (.sipush 240, 3) := by decide +kernel
theorem dX12_feed_39 : decode cX12_feed 39 = .ok (.if_icmp .le 5, 3) := by decide +kernel
theorem dX12_feed_42 : decode cX12_feed 42 = .ok (.iconst (-1), 1) := by decide +kernel
theorem dX12_feed_43 : decode cX12_feed 43 = .ok (.ireturn, 1) := by decide +kernel
theorem dX12_feed_44 : decode cX12_feed 44 = .ok (.aload_n 0, 1) := by decide +kernel
theorem dX12_feed_45 : decode cX12_feed 45 = .ok (.iload_n 1, 1) := by decide +kernel
theorem dX12_feed_46 : decode cX12_feed 46 = .ok (.invokevirtual 109, 3) := by decide +kernel
theorem dX12_feed_49 : decode cX12_feed 49 = .ok (.aload_n 0, 1) := by decide +kernel
theorem dX12_feed_50 : decode cX12_feed 50 = .ok (.iload_n 2, 1) := by decide +kernel
theorem dX12_feed_51 : decode cX12_feed 51 = .ok (.invokevirtual 109, 3) := by decide +kernel
theorem dX12_feed_54 : decode cX12_feed 54 = .ok (.aload_n 0, 1) := by decide +kernel
theorem dX12_feed_55 : decode cX12_feed 55 = .ok (.iload_n 3, 1) := by decide +kernel
theorem dX12_feed_56 : decode cX12_feed 56 = .ok (.invokevirtual 109, 3) := by decide +kernel
theorem dX12_feed_59 : decode cX12_feed 59 = .ok (.aload_n 0, 1) := by decide +kernel
theorem dX12_feed_60 : decode cX12_feed 60 = .ok (.iload 4, 2) := by decide +kernel
theorem dX12_feed_62 : decode cX12_feed 62 = .ok (.invokevirtual 109, 3) := by decide +kernel
theorem dX12_feed_65 : decode cX12_feed 65 = .ok (.aload_n 0, 1) := by decide +kernel
theorem dX12_feed_66 : decode cX12_feed 66 = .ok (.iload 5, 2) := by decide +kernel
theorem dX12_feed_68 : decode cX12_feed 68 = .ok (.invokevirtual 109, 3) := by decide +kernel
theorem dX12_feed_71 : decode cX12_feed 71 = .ok (.aload_n 0, 1) := by decide +kernel
theorem dX12_feed_72 : decode cX12_feed 72 = .ok (.getfield 103, 3) := by decide +kernel
theorem dX12_feed_75 : decode cX12_feed 75 = .ok (.ireturn, 1) := by decide +kernel
theorem dX12_end_0 : decode cX12_end 0 = .ok (.aload_n 0, 1) := by decide +kernel
theorem dX12_end_1 : decode cX12_end 1 = .ok (.iconst 0, 1) := by decide +kernel
theorem dX12_end_2 : decode cX12_end 2 = .ok (.putfield 90, 3) := by decide +kernel
theorem dX12_end_5 : decode cX12_end 5 = .ok (.iload_n 1, 1) := by decide +kernel
theorem dX12_end_6 : decode cX12_end 6 = .ok (.ifCond .lt 11, 3) := by decide +kernel
theorem dX12_end_9 : decode cX12_end 9 = .ok (.iload_n 1, 1) := by decide +kernel
theorem dX12_end_10 : decode cX12_end 10 = .ok (.aload_n 0, 1) := by decide +kernel
theorem dX12_end_11 : decode cX12_end 11 = .ok (.getfield 103, 3) := by decide +kernel
theorem dX12_end_14 : decode cX12_end 14 = .ok (.if_icmp .le 5, 3) := by decide +kernel
theorem dX12_end_17 : decode cX12_end 17 = .ok (.iconst 0, 1) := by decide +kernel
theorem dX12_end_18 : decode cX12_end 18 = .ok (.ireturn, 1) := by decide +kernel
theorem dX12_end_19 : decode cX12_end 19 = .ok (.aload_n 0, 1) := by decide +kernel
theorem dX12_end_20 : decode cX12_end 20 = .ok (.iload_n 1, 1) := by decide +kernel
theorem dX12_end_21 : decode cX12_end 21 = .ok (.putfield 103, 3) := by decide +kernel
theorem dX12_end_24 : decode cX12_end 24 = .ok (.iconst 1, 1) := by decide +kernel
theorem dX12_end_25 : decode cX12_end 25 = .ok (.ireturn, 1) := by decide +kernel
theorem dX12_look_0 : decode cX12_look 0 = .ok (.aload_n 0, 1) := by decide +kernel
theorem dX12_look_1 : decode cX12_look 1 = .ok (.getfield 113, 3) := by decide +kernel
theorem dX12_look_4 : decode cX12_look 4 = .ok (.aload_n 0, 1) := by decide +kernel
theorem dX12_look_5 : decode cX12_look 5 = .ok (.getfield 116, 3) := by decide +kernel
theorem dX12_look_8 : decode cX12_look 8 = .ok (.if_icmp .ge 35, 3) := by decide +kernel
theorem dX12_look_11 : decode cX12_look 11 = .ok (.aload_n 0, 1) := by decide +kernel
theorem dX12_look_12 : decode cX12_look 12 = .ok (.getfield 23, 3) := by decide +kernel
theorem dX12_look_15 : decode cX12_look 15 = .ok (.aload_n 0, 1) := by decide +kernel
theorem dX12_look_16 : decode cX12_look 16 = .ok (.getfield 119, 3) := by decide +kernel
theorem dX12_look_19 : decode cX12_look 19 = .ok (.aload_n 0, 1) := by decide +kernel
theorem dX12_look_20 : decode cX12_look 20 = .ok (.getfield 113, 3) := by decide +kernel
theorem dX12_look_23 : decode cX12_look 23 = .ok (.iadd, 1) := by decide +kernel
theorem dX12_look_24 : decode cX12_look 24 = .ok (.baload, 1) := by decide +kernel
theorem dX12_look_25 : decode cX12_look 25 = .ok (.bipush 32, 2) := by decide +kernel
theorem dX12_look_27 : decode cX12_look 27 = .ok (.if_icmp .ne 16, 3) := by decide +kernel
theorem dX12_look_30 : decode cX12_look 30 = .ok (.aload_n 0, 1) := by decide +kernel
theorem dX12_look_31 : decode cX12_look 31 = .ok (.dup, 1) := by decide +kernel
theorem dX12_look_32 : decode cX12_look 32 = .ok (.getfield 113, 3) := by decide +kernel
theorem dX12_look_35 : decode cX12_look 35 = .ok (.iconst 1, 1) := by decide +kernel
theorem dX12_look_36 : decode cX12_look 36 = .ok (.iadd, 1) := by decide +kernel
theorem dX12_look_37 : decode cX12_look 37 = .ok (.putfield 113, 3) := by decide +kernel
theorem dX12_look_40 : decode cX12_look 40 = .ok (.goto (-40), 3) := by decide +kernel
theorem dX12_look_43 : decode cX12_look 43 = .ok (.aload_n 0, 1) := by decide +kernel
theorem dX12_look_44 : decode cX12_look 44 = .ok (.getfield 113, 3) := by decide +kernel
theorem dX12_look_47 : decode cX12_look 47 = .ok (.aload_n 0, 1) := by decide +kernel
theorem dX12_look_48 : decode cX12_look 48 = .ok (.getfield 116, 3) := by decide +kernel
theorem dX12_look_51 : decode cX12_look 51 = .ok (.if_icmp .ge 24, 3) := by decide +kernel
theorem dX12_look_54 : decode cX12_look 54 = .ok (.aload_n 0, 1) := by decide +kernel
theorem dX12_look_55 : decode cX12_look 55 = .ok (.getfield 23, 3) := by decide +kernel
theorem dX12_look_58 : decode cX12_look 58 = .ok (.aload_n 0, 1) := by decide +kernel
theorem dX12_look_59 : decode cX12_look 59 = .ok (.getfield 119, 3) := by decide +kernel
theorem dX12_look_62 : decode cX12_look 62 = .ok (.aload_n 0, 1) := by decide +kernel
theorem dX12_look_63 : decode cX12_look 63 = .ok (.getfield 113, 3) := by decide +kernel
theorem dX12_look_66 : decode cX12_look 66 = .ok (.iadd, 1) := by decide +kernel
theorem dX12_look_67 : decode cX12_look 67 = .ok (.baload, 1) := by decide +kernel
theorem dX12_look_68 : decode cX12_look 68 = .ok (.sipush 255, 3) := by decide +kernel
theorem dX12_look_71 : decode cX12_look 71 = .ok (.iand, 1) := by decide +kernel
theorem dX12_look_72 : decode cX12_look 72 = .ok (.goto 4, 3) := by decide +kernel
theorem dX12_look_75 : decode cX12_look 75 = .ok (.iconst (-1), 1) := by decide +kernel
theorem dX12_look_76 : decode cX12_look 76 = .ok (.ireturn, 1) := by decide +kernel
theorem dX12_fails_0 : decode cX12_fails 0 = .ok (.aload_n 0, 1) := by decide +kernel
theorem dX12_fails_1 : decode cX12_fails 1 = .ok (.getfield 122, 3) := by decide +kernel
theorem dX12_fails_4 : decode cX12_fails 4 = .ok (.iconst (-1), 1) := by decide +kernel
theorem dX12_fails_5 : decode cX12_fails 5 = .ok (.if_icmp .ne 11, 3) := by decide +kernel
theorem dX12_fails_8 : decode cX12_fails 8 = .ok (.aload_n 0, 1) := by decide +kernel
theorem dX12_fails_9 : decode cX12_fails 9 = .ok (.aload_n 0, 1) := by decide +kernel
theorem dX12_fails_10 : decode cX12_fails 10 = .ok (.getfield 113, 3) := by decide +kernel
theorem dX12_fails_13 : decode cX12_fails 13 = .ok (.putfield 122, 3) := by decide +kernel
theorem dX12_fails_16 : decode cX12_fails 16 = .ok (.iconst 0, 1) := by decide +kernel
theorem dX12_fails_17 : decode cX12_fails 17 = .ok (.ireturn, 1) := by decide +kernel
theorem dX12_isDigit_0 : decode cX12_isDigit 0 = .ok (.aload_n 0, 1) := by decide +kernel
theorem dX12_isDigit_1 : decode cX12_isDigit 1 = .ok (.getfield 113, 3) := by decide +kernel
theorem dX12_isDigit_4 : decode cX12_isDigit 4 = .ok (.aload_n 0, 1) := by decide +kernel
theorem dX12_isDigit_5 : decode cX12_isDigit 5 = .ok (.getfield 116, 3) := by decide +kernel
theorem dX12_isDigit_8 : decode cX12_isDigit 8 = .ok (.if_icmp .ge 45, 3) := by decide +kernel
theorem dX12_isDigit_11 : decode cX12_isDigit 11 = .ok (.aload_n 0, 1) := by decide +kernel
theorem dX12_isDigit_12 : decode cX12_isDigit 12 = .ok (.getfield 23, 3) := by decide +kernel
theorem dX12_isDigit_15 : decode cX12_isDigit 15 = .ok (.aload_n 0, 1) := by decide +kernel
theorem dX12_isDigit_16 : decode cX12_isDigit 16 = .ok (.getfield 119, 3) := by decide +kernel
theorem dX12_isDigit_19 : decode cX12_isDigit 19 = .ok (.aload_n 0, 1) := by decide +kernel
theorem dX12_isDigit_20 : decode cX12_isDigit 20 = .ok (.getfield 113, 3) := by decide +kernel
theorem dX12_isDigit_23 : decode cX12_isDigit 23 = .ok (.iadd, 1) := by decide +kernel
theorem dX12_isDigit_24 : decode cX12_isDigit 24 = .ok (.baload, 1) := by decide +kernel
theorem dX12_isDigit_25 : decode cX12_isDigit 25 = .ok (.bipush 48, 2) := by decide +kernel
theorem dX12_isDigit_27 : decode cX12_isDigit 27 = .ok (.if_icmp .lt 26, 3) := by decide +kernel
theorem dX12_isDigit_30 : decode cX12_isDigit 30 = .ok (.aload_n 0, 1) := by decide +kernel
theorem dX12_isDigit_31 : decode cX12_isDigit 31 = .ok (.getfield 23, 3) := by decide +kernel
theorem dX12_isDigit_34 : decode cX12_isDigit 34 = .ok (.aload_n 0, 1) := by decide +kernel
theorem dX12_isDigit_35 : decode cX12_isDigit 35 = .ok (.getfield 119, 3) := by decide +kernel
theorem dX12_isDigit_38 : decode cX12_isDigit 38 = .ok (.aload_n 0, 1) := by decide +kernel
theorem dX12_isDigit_39 : decode cX12_isDigit 39 = .ok (.getfield 113, 3) := by decide +kernel
theorem dX12_isDigit_42 : decode cX12_isDigit 42 = .ok (.iadd, 1) := by decide +kernel
theorem dX12_isDigit_43 : decode cX12_isDigit 43 = .ok (.baload, 1) := by decide +kernel
theorem dX12_isDigit_44 : decode cX12_isDigit 44 = .ok (.bipush 57, 2) := by decide +kernel
theorem dX12_isDigit_46 : decode cX12_isDigit 46 = .ok (.if_icmp .gt 7, 3) := by decide +kernel
theorem dX12_isDigit_49 : decode cX12_isDigit 49 = .ok (.iconst 1, 1) := by decide +kernel
theorem dX12_isDigit_50 : decode cX12_isDigit 50 = .ok (.goto 4, 3) := by decide +kernel
theorem dX12_isDigit_53 : decode cX12_isDigit 53 = .ok (.iconst 0, 1) := by decide +kernel
theorem dX12_isDigit_54 : decode cX12_isDigit 54 = .ok (.ireturn, 1) := by decide +kernel
set_option maxRecDepth 20000 in
theorem ggX12_clause_X12_look : GoodIn wsX12_clause wsX12_look := goodIn_r _ [10, 1, 11, 12, 13, 127, 128, 129, 130, 131, 132, 133, 134, 135, 136, 137, 138, 139, 140, 141, 142, 143, 144, 145, 146, 147, 148, 149, 150, 151, 152, 153, 154, 155, 156, 157, 158, 159, 160, 161, 162, 163, 164, 165, 166, 167, 168, 169, 170, 171, 172, 173, 174, 175, 176, 177, 178, 179, 180] (by decide +kernel) (by decide +kernel)
set_option maxRecDepth 20000 in
theorem gX12_clause_X12_look : GoodIn wsX12_clause (wsV RX12 132 RX12 yX12_look wsX12_look) := goodIn_app (goodIn_of _ (by decide +kernel)) ggX12_clause_X12_look
set_option maxRecDepth 20000 in
theorem ggX12_clause_X12_isAmong : GoodIn wsX12_clause wsX12_isAmong := goodIn_r _ [16, 17, 18, 19, 20, 21, 22, 23, 24, 25, 26, 27, 28, 29, 30, 31, 32, 33, 34, 35, 36, 37, 38, 39, 40, 41, 42, 43, 44, 45, 46, 47, 48, 49, 50, 51, 52, 53, 54, 55, 56, 57, 58, 59, 60, 61, 62, 63, 64, 65] (by decide +kernel) (by decide +kernel)
set_option maxRecDepth 20000 in
theorem gX12_clause_X12_isAmong : GoodIn wsX12_clause (va_wsS RX12 148 yX12_isAmong wsX12_isAmong) := goodIn_app (goodIn_of _ (by decide +kernel)) ggX12_clause_X12_isAmong
set_option maxRecDepth 20000 in
theorem ggX12_clause_X12_fails : GoodIn wsX12_clause wsX12_fails := goodIn_r _ [69, 2, 1, 127, 128, 129, 130, 131, 132, 133, 134, 135, 136, 137, 138, 139, 140, 141, 142, 143, 144, 145, 146, 147, 148, 149, 150, 151, 152, 153, 154, 155, 156, 157, 158, 159, 160, 161, 162, 163, 164, 165, 166, 167, 168, 169, 170, 171, 172, 173, 174, 175, 176, 177, 178, 179, 180] (by decide +kernel) (by decide +kernel)
set_option maxRecDepth 20000 in
theorem gX12_clause_X12_fails : GoodIn wsX12_clause (wsV RX12 128 RX12 yX12_fails wsX12_fails) := goodIn_app (goodIn_of _ (by decide +kernel)) ggX12_clause_X12_fails
set_option maxRecDepth 20000 in
theorem ggX12_clause_X12_takes : GoodIn wsX12_clause wsX12_takes := goodIn_r _ [73, 2, 1, 6, 7, 8, 9, 10, 11, 12, 13, 66, 67, 68, 69, 127, 128, 129, 130, 131, 132, 133, 134, 135, 136, 137, 138, 139, 140, 141, 142, 143, 144, 145, 146, 147, 148, 149, 150, 151, 152, 153, 154, 155, 156, 157, 158, 159, 160, 161, 162, 163, 164, 165, 166, 167, 168, 169, 170, 171, 172, 173, 174, 175, 176, 177, 178, 179, 180] (by decide +kernel) (by decide +kernel)
set_option maxRecDepth 20000 in
theorem gX12_clause_X12_takes : GoodIn wsX12_clause (wsV RX12 158 RX12 yX12_takes wsX12_takes) := goodIn_app (goodIn_of _ (by decide +kernel)) ggX12_clause_X12_takes
set_option maxRecDepth 20000 in
theorem ggX12_clause_X12_condition : GoodIn wsX12_clause wsX12_condition := goodIn_r _ [77, 2, 1, 78, 79, 80, 9, 6, 7, 8, 10, 11, 12, 13, 81, 82, 83, 84, 85, 86, 87, 88, 89, 90, 91, 92, 93, 94, 95, 96, 97, 98, 99, 100, 101, 102, 103, 104, 105, 106, 107, 14, 15, 16, 17, 18, 19, 20, 21, 22, 23, 24, 25, 26, 27, 28, 29, 30, 31, 32, 33, 34, 35, 36, 37, 38, 39, 40, 41, 42, 43, 44, 45, 46, 47, 48, 49, 50, 51, 52, 53, 54, 55, 56, 57, 58, 59, 60, 61, 62, 63, 64, 65, 108, 109, 110, 111, 66, 67, 68, 69, 70, 71, 72, 73, 112, 113, 114, 115, 116, 117, 118, 119, 120, 121, 122, 123, 124, 125, 126, 74, 75, 76, 127, 128, 129, 130, 131, 132, 133, 134, 135, 136, 137, 138, 139, 140, 141, 142, 143, 144, 145, 146, 147, 148, 149, 150, 151, 152, 153, 154, 155, 156, 157, 158, 159, 160, 161, 162, 163, 164, 165, 166, 167, 168, 169, 170, 171, 172, 173, 174, 175, 176, 177, 178, 179, 180] (by decide +kernel) (by decide +kernel)
set_option maxRecDepth 20000 in
theorem gX12_clause_X12_condition : GoodIn wsX12_clause (wsV RX12 181 RX12 yX12_condition wsX12_condition) := goodIn_app (goodIn_of _ (by decide +kernel)) ggX12_clause_X12_condition
set_option maxRecDepth 20000 in
theorem ggX12_clause_X12_sum : GoodIn wsX12_clause wsX12_sum := goodIn_r _ [89, 2, 1, 90, 91, 92, 9, 6, 7, 8, 10, 11, 12, 13, 93, 94, 95, 96, 97, 98, 99, 100, 101, 102, 103, 104, 105, 106, 107, 14, 15, 16, 17, 18, 19, 20, 21, 22, 23, 24, 25, 26, 27, 28, 29, 30, 31, 32, 33, 34, 35, 36, 37, 38, 39, 40, 41, 42, 43, 44, 45, 46, 47, 48, 49, 50, 51, 52, 53, 54, 55, 56, 57, 58, 59, 60, 61, 62, 63, 64, 65, 108, 109, 110, 111, 66, 67, 68, 69, 86, 87, 88, 70, 71, 72, 73, 112, 113, 114, 115, 116, 117, 118, 119, 127, 128, 129, 130, 131, 132, 133, 134, 135, 136, 137, 138, 139, 140, 141, 142, 143, 144, 145, 146, 147, 148, 149, 150, 151, 152, 153, 154, 155, 156, 157, 158, 159, 160, 161, 162, 163, 164, 165, 166, 167, 168, 169, 170, 171, 172, 173, 174, 175, 176, 177, 178, 179, 180] (by decide +kernel) (by decide +kernel)
set_option maxRecDepth 20000 in
theorem gX12_clause_X12_sum : GoodIn wsX12_clause (wsV RX12 155 RX12 yX12_sum wsX12_sum) := goodIn_app (goodIn_of _ (by decide +kernel)) ggX12_clause_X12_sum
set_option maxRecDepth 20000 in
theorem ggX12_clause_X12_isSign : GoodIn wsX12_clause wsX12_isSign := goodIn_r _ [122] (by decide +kernel) (by decide +kernel)
set_option maxRecDepth 20000 in
theorem gX12_clause_X12_isSign : GoodIn wsX12_clause (va_wsS RX12 175 yX12_isSign wsX12_isSign) := goodIn_app (goodIn_of _ (by decide +kernel)) ggX12_clause_X12_isSign
theorem dX12_clause_0 : decode cX12_clause 0 = .ok (.aload_n 0, 1) := by decide +kernel
theorem dX12_clause_1 : decode cX12_clause 1 = .ok (.invokevirtual 132, 3) := by decide +kernel
theorem dX12_clause_4 : decode cX12_clause 4 = .ok (.istore_n 1, 1) := by decide +kernel
theorem dX12_clause_5 : decode cX12_clause 5 = .ok (.ldc 26, 2) := by decide +kernel
theorem dX12_clause_7 : decode cX12_clause 7 = .ok (.iload_n 1, 1) := by decide +kernel
theorem dX12_clause_8 : decode cX12_clause 8 = .ok (.invokestatic 148, 3) := by decide +kernel
theorem dX12_clause_11 : decode cX12_clause 11 = .ok (.ifCond .ne 9, 3) := by decide +kernel
theorem dX12_clause_14 : decode cX12_clause 14 = .ok (.aload_n 0, 1) := by decide +kernel
theorem dX12_clause_15 : decode cX12_clause 15 = .ok (.invokevirtual 128, 3) := by decide +kernel
theorem dX12_clause_18 : decode cX12_clause 18 = .ok (.pop, 1) := by decide +kernel
theorem dX12_clause_19 : decode cX12_clause 19 = .ok (.return_, 1) := by decide +kernel
theorem dX12_clause_20 : decode cX12_clause 20 = .ok (.aload_n 0, 1) := by decide +kernel
theorem dX12_clause_21 : decode cX12_clause 21 = .ok (.dup, 1) := by decide +kernel
theorem dX12_clause_22 : decode cX12_clause 22 = .ok (.getfield 113, 3) := by decide +kernel
theorem dX12_clause_25 : decode cX12_clause 25 = .ok (.iconst 1, 1) := by decide +kernel
theorem dX12_clause_26 : decode cX12_clause 26 = .ok (.iadd, 1) := by decide +kernel
theorem dX12_clause_27 : decode cX12_clause 27 = .ok (.putfield 113, 3) := by decide +kernel
theorem dX12_clause_30 : decode cX12_clause 30 = .ok (.aload_n 0, 1) := by decide +kernel
theorem dX12_clause_31 : decode cX12_clause 31 = .ok (.bipush 58, 2) := by decide +kernel
theorem dX12_clause_33 : decode cX12_clause 33 = .ok (.invokevirtual 158, 3) := by decide +kernel
theorem dX12_clause_36 : decode cX12_clause 36 = .ok (.ifCond .ne 4, 3) := by decide +kernel
theorem dX12_clause_39 : decode cX12_clause 39 = .ok (.return_, 1) := by decide +kernel
theorem dX12_clause_40 : decode cX12_clause 40 = .ok (.iconst 1, 1) := by decide +kernel
theorem dX12_clause_41 : decode cX12_clause 41 = .ok (.istore_n 2, 1) := by decide +kernel
theorem dX12_clause_42 : decode cX12_clause 42 = .ok (.iconst 0, 1) := by decide +kernel
theorem dX12_clause_43 : decode cX12_clause 43 = .ok (.istore_n 3, 1) := by decide +kernel
theorem dX12_clause_44 : decode cX12_clause 44 = .ok (.aload_n 0, 1) := by decide +kernel
theorem dX12_clause_45 : decode cX12_clause 45 = .ok (.invokevirtual 132, 3) := by decide +kernel
theorem dX12_clause_48 : decode cX12_clause 48 = .ok (.istore 4, 2) := by decide +kernel
theorem dX12_clause_50 : decode cX12_clause 50 = .ok (.iload 4, 2) := by decide +kernel
theorem dX12_clause_52 : decode cX12_clause 52 = .ok (.bipush 33, 2) := by decide +kernel
theorem dX12_clause_54 : decode cX12_clause 54 = .ok (.if_icmp .eq 10, 3) := by decide +kernel
theorem dX12_clause_57 : decode cX12_clause 57 = .ok (.iload 4, 2) := by decide +kernel
theorem dX12_clause_59 : decode cX12_clause 59 = .ok (.bipush 40, 2) := by decide +kernel
theorem dX12_clause_61 : decode cX12_clause 61 = .ok (.if_icmp .ne 28, 3) := by decide +kernel
theorem dX12_clause_64 : decode cX12_clause 64 = .ok (.aload_n 0, 1) := by decide +kernel
theorem dX12_clause_65 : decode cX12_clause 65 = .ok (.iconst 0, 1) := by decide +kernel
theorem dX12_clause_66 : decode cX12_clause 66 = .ok (.iconst 0, 1) := by decide +kernel
theorem dX12_clause_67 : decode cX12_clause 67 = .ok (.invokevirtual 181, 3) := by decide +kernel
theorem dX12_clause_70 : decode cX12_clause 70 = .ok (.istore_n 2, 1) := by decide +kernel
theorem dX12_clause_71 : decode cX12_clause 71 = .ok (.aload_n 0, 1) := by decide +kernel
theorem dX12_clause_72 : decode cX12_clause 72 = .ok (.bipush 63, 2) := by decide +kernel
theorem dX12_clause_74 : decode cX12_clause 74 = .ok (.invokevirtual 158, 3) := by decide +kernel
theorem dX12_clause_77 : decode cX12_clause 77 = .ok (.ifCond .ne 4, 3) := by decide +kernel
theorem dX12_clause_80 : decode cX12_clause 80 = .ok (.return_, 1) := by decide +kernel
theorem dX12_clause_81 : decode cX12_clause 81 = .ok (.aload_n 0, 1) := by decide +kernel
theorem dX12_clause_82 : decode cX12_clause 82 = .ok (.invokevirtual 155, 3) := by decide +kernel
theorem dX12_clause_85 : decode cX12_clause 85 = .ok (.istore_n 3, 1) := by decide +kernel
theorem dX12_clause_86 : decode cX12_clause 86 = .ok (.goto 48, 3) := by decide +kernel
theorem dX12_clause_89 : decode cX12_clause 89 = .ok (.aload_n 0, 1) := by decide +kernel
theorem dX12_clause_90 : decode cX12_clause 90 = .ok (.invokevirtual 155, 3) := by decide +kernel
theorem dX12_clause_93 : decode cX12_clause 93 = .ok (.istore_n 3, 1) := by decide +kernel
theorem dX12_clause_94 : decode cX12_clause 94 = .ok (.aload_n 0, 1) := by decide +kernel
theorem dX12_clause_95 : decode cX12_clause 95 = .ok (.getfield 122, 3) := by decide +kernel
theorem dX12_clause_98 : decode cX12_clause 98 = .ok (.iconst (-1), 1) := by decide +kernel
theorem dX12_clause_99 : decode cX12_clause 99 = .ok (.if_icmp .ne 35, 3) := by decide +kernel
theorem dX12_clause_102 : decode cX12_clause 102 = .ok (.aload_n 0, 1) := by decide +kernel
theorem dX12_clause_103 : decode cX12_clause 103 = .ok (.invokevirtual 132, 3) := by decide +kernel
theorem dX12_clause_106 : decode cX12_clause 106 = .ok (.invokestatic 175, 3) := by decide +kernel
theorem dX12_clause_109 : decode cX12_clause 109 = .ok (.ifCond .eq 25, 3) := by decide +kernel
theorem dX12_clause_112 : decode cX12_clause 112 = .ok (.aload_n 0, 1) := by decide +kernel
theorem dX12_clause_113 : decode cX12_clause 113 = .ok (.iconst 1, 1) := by decide +kernel
theorem dX12_clause_114 : decode cX12_clause 114 = .ok (.iload_n 3, 1) := by decide +kernel
theorem dX12_clause_115 : decode cX12_clause 115 = .ok (.invokevirtual 181, 3) := by decide +kernel
theorem dX12_clause_118 : decode cX12_clause 118 = .ok (.istore_n 2, 1) := by decide +kernel
theorem dX12_clause_119 : decode cX12_clause 119 = .ok (.aload_n 0, 1) := by decide +kernel
theorem dX12_clause_120 : decode cX12_clause 120 = .ok (.bipush 63, 2) := by decide +kernel
theorem dX12_clause_122 : decode cX12_clause 122 = .ok (.invokevirtual 158, 3) := by decide +kernel
theorem dX12_clause_125 : decode cX12_clause 125 = .ok (.ifCond .ne 4, 3) := by decide +kernel
theorem dX12_clause_128 : decode cX12_clause 128 = .ok (.return_, 1) := by decide +kernel
theorem dX12_clause_129 : decode cX12_clause 129 = .ok (.aload_n 0, 1) := by decide +kernel
theorem dX12_clause_130 : decode cX12_clause 130 = .ok (.invokevirtual 155, 3) := by decide +kernel
theorem dX12_clause_133 : decode cX12_clause 133 = .ok (.istore_n 3, 1) := by decide +kernel
theorem dX12_clause_134 : decode cX12_clause 134 = .ok (.aload_n 0, 1) := by decide +kernel
theorem dX12_clause_135 : decode cX12_clause 135 = .ok (.getfield 122, 3) := by decide +kernel
theorem dX12_clause_138 : decode cX12_clause 138 = .ok (.iconst (-1), 1) := by decide +kernel
theorem dX12_clause_139 : decode cX12_clause 139 = .ok (.if_icmp .ne 22, 3) := by decide +kernel
theorem dX12_clause_142 : decode cX12_clause 142 = .ok (.aload_n 0, 1) := by decide +kernel
theorem dX12_clause_143 : decode cX12_clause 143 = .ok (.getfield 191, 3) := by decide +kernel
theorem dX12_clause_146 : decode cX12_clause 146 = .ok (.ifCond .ne 15, 3) := by decide +kernel
theorem dX12_clause_149 : decode cX12_clause 149 = .ok (.iload_n 1, 1) := by decide +kernel
theorem dX12_clause_150 : decode cX12_clause 150 = .ok (.aload_n 0, 1) := by decide +kernel
theorem dX12_clause_151 : decode cX12_clause 151 = .ok (.getfield 195, 3) := by decide +kernel
theorem dX12_clause_154 : decode cX12_clause 154 = .ok (.if_icmp .ne 7, 3) := by decide +kernel
theorem dX12_clause_157 : decode cX12_clause 157 = .ok (.iload_n 2, 1) := by decide +kernel
theorem dX12_clause_158 : decode cX12_clause 158 = .ok (.ifCond .ne 4, 3) := by decide +kernel
theorem dX12_clause_161 : decode cX12_clause 161 = .ok (.return_, 1) := by decide +kernel
theorem dX12_clause_162 : decode cX12_clause 162 = .ok (.aload_n 0, 1) := by decide +kernel
theorem dX12_clause_163 : decode cX12_clause 163 = .ok (.iconst 1, 1) := by decide +kernel
theorem dX12_clause_164 : decode cX12_clause 164 = .ok (.putfield 191, 3) := by decide +kernel
theorem dX12_clause_167 : decode cX12_clause 167 = .ok (.aload_n 0, 1) := by decide +kernel
theorem dX12_clause_168 : decode cX12_clause 168 = .ok (.iload_n 3, 1) := by decide +kernel
theorem dX12_clause_169 : decode cX12_clause 169 = .ok (.putfield 198, 3) := by decide +kernel
theorem dX12_clause_172 : decode cX12_clause 172 = .ok (.return_, 1) := by decide +kernel
theorem dX12_starts_0 : decode cX12_starts 0 = .ok (.aload_n 0, 1) := by decide +kernel
theorem dX12_starts_1 : decode cX12_starts 1 = .ok (.aload_n 1, 1) := by decide +kernel
theorem dX12_starts_2 : decode cX12_starts 2 = .ok (.putfield 23, 3) := by decide +kernel
theorem dX12_starts_5 : decode cX12_starts 5 = .ok (.aload_n 0, 1) := by decide +kernel
theorem dX12_starts_6 : decode cX12_starts 6 = .ok (.iload_n 2, 1) := by decide +kernel
theorem dX12_starts_7 : decode cX12_starts 7 = .ok (.putfield 119, 3) := by decide +kernel
theorem dX12_starts_10 : decode cX12_starts 10 = .ok (.aload_n 0, 1) := by decide +kernel
theorem dX12_starts_11 : decode cX12_starts 11 = .ok (.iload_n 3, 1) := by decide +kernel
theorem dX12_starts_12 : decode cX12_starts 12 = .ok (.putfield 116, 3) := by decide +kernel
theorem dX12_starts_15 : decode cX12_starts 15 = .ok (.aload_n 0, 1) := by decide +kernel
theorem dX12_starts_16 : decode cX12_starts 16 = .ok (.iconst 0, 1) := by decide +kernel
theorem dX12_starts_17 : decode cX12_starts 17 = .ok (.putfield 113, 3) := by decide +kernel
theorem dX12_starts_20 : decode cX12_starts 20 = .ok (.aload_n 0, 1) := by decide +kernel
theorem dX12_starts_21 : decode cX12_starts 21 = .ok (.iconst (-1), 1) := by decide +kernel
theorem dX12_starts_22 : decode cX12_starts 22 = .ok (.putfield 122, 3) := by decide +kernel
theorem dX12_starts_25 : decode cX12_starts 25 = .ok (.return_, 1) := by decide +kernel
set_option maxRecDepth 20000 in
theorem ggX12_goThrough_X12_starts : GoodIn wsX12_goThrough wsX12_starts := goodIn_r _ [11, 12, 13, 14, 6, 5, 135, 136, 137, 138, 139, 140, 141, 142, 143, 144, 145, 146, 147, 148, 149, 150, 151, 152, 153, 154, 155, 156, 157, 158, 159, 160, 161, 162, 163, 164, 165, 166, 167, 168, 169, 170, 171, 172, 173, 174, 175, 176, 177, 178, 179, 180, 181, 182, 183, 184, 185, 186, 187, 188] (by decide +kernel) (by decide +kernel)
set_option maxRecDepth 20000 in
theorem gX12_goThrough_X12_starts : GoodIn wsX12_goThrough (wsV RX12 201 RX12 yX12_starts wsX12_starts) := goodIn_app (goodIn_of _ (by decide +kernel)) ggX12_goThrough_X12_starts
set_option maxRecDepth 20000 in
theorem ggX12_goThrough_X12_clause : GoodIn wsX12_goThrough wsX12_clause := goodIn_r _ [18, 6, 5, 3, 1, 4, 19, 20, 21, 10, 22, 14, 12, 13, 23, 24, 25, 26, 27, 28, 29, 30, 31, 32, 33, 34, 35, 36, 37, 38, 39, 40, 41, 42, 43, 44, 45, 46, 47, 48, 49, 50, 51, 52, 53, 54, 55, 56, 57, 58, 59, 60, 61, 62, 63, 64, 65, 66, 67, 68, 69, 70, 71, 72, 73, 74, 75, 76, 77, 78, 79, 80, 81, 82, 83, 84, 85, 86, 87, 88, 89, 90, 91, 92, 93, 94, 95, 96, 97, 98, 99, 100, 101, 102, 103, 104, 105, 106, 107, 108, 109, 110, 111, 112, 113, 114, 115, 2, 116, 117, 118, 119, 120, 121, 122, 123, 124, 125, 126, 127, 128, 129, 130, 131, 132, 133, 134, 135, 136, 137, 138, 139, 140, 141, 142, 143, 144, 145, 146, 147, 148, 149, 150, 151, 152, 153, 154, 155, 156, 157, 158, 159, 160, 161, 162, 163, 164, 165, 166, 167, 168, 169, 170, 171, 172, 173, 174, 175, 176, 177, 178, 179, 180, 181, 182, 183, 184, 185, 186, 187, 188] (by decide +kernel) (by decide +kernel)
set_option maxRecDepth 20000 in
theorem gX12_goThrough_X12_clause : GoodIn wsX12_goThrough (wsV RX12 205 RX12 yX12_clause wsX12_clause) := goodIn_app (goodIn_of _ (by decide +kernel)) ggX12_goThrough_X12_clause
set_option maxRecDepth 20000 in
theorem ggX12_goThrough_X12_look : GoodIn wsX12_goThrough wsX12_look := goodIn_r _ [22, 6, 14, 12, 13, 135, 136, 137, 138, 139, 140, 141, 142, 143, 144, 145, 146, 147, 148, 149, 150, 151, 152, 153, 154, 155, 156, 157, 158, 159, 160, 161, 162, 163, 164, 165, 166, 167, 168, 169, 170, 171, 172, 173, 174, 175, 176, 177, 178, 179, 180, 181, 182, 183, 184, 185, 186, 187, 188] (by decide +kernel) (by decide +kernel)
set_option maxRecDepth 20000 in
theorem gX12_goThrough_X12_look : GoodIn wsX12_goThrough (wsV RX12 132 RX12 yX12_look wsX12_look) := goodIn_app (goodIn_of _ (by decide +kernel)) ggX12_goThrough_X12_look
set_option maxRecDepth 20000 in
theorem ggX12_goThrough_X12_fails : GoodIn wsX12_goThrough wsX12_fails := goodIn_r _ [78, 5, 6, 135, 136, 137, 138, 139, 140, 141, 142, 143, 144, 145, 146, 147, 148, 149, 150, 151, 152, 153, 154, 155, 156, 157, 158, 159, 160, 161, 162, 163, 164, 165, 166, 167, 168, 169, 170, 171, 172, 173, 174, 175, 176, 177, 178, 179, 180, 181, 182, 183, 184, 185, 186, 187, 188] (by decide +kernel) (by decide +kernel)
set_option maxRecDepth 20000 in
theorem gX12_goThrough_X12_fails : GoodIn wsX12_goThrough (wsV RX12 128 RX12 yX12_fails wsX12_fails) := goodIn_app (goodIn_of _ (by decide +kernel)) ggX12_goThrough_X12_fails
theorem dX12_goThrough_0 : decode cX12_goThrough 0 = .ok (.aload_n 0, 1) := by decide +kernel
theorem dX12_goThrough_1 : decode cX12_goThrough 1 = .ok (.aload_n 1, 1) := by decide +kernel
theorem dX12_goThrough_2 : decode cX12_goThrough 2 = .ok (.iload_n 2, 1) := by decide +kernel
theorem dX12_goThrough_3 : decode cX12_goThrough 3 = .ok (.iload_n 3, 1) := by decide +kernel
theorem dX12_goThrough_4 : decode cX12_goThrough 4 = .ok (.invokevirtual 201, 3) := by decide +kernel
theorem dX12_goThrough_7 : decode cX12_goThrough 7 = .ok (.aload_n 0, 1) := by decide +kernel
theorem dX12_goThrough_8 : decode cX12_goThrough 8 = .ok (.bipush 121, 2) := by decide +kernel
theorem dX12_goThrough_10 : decode cX12_goThrough 10 = .ok (.putfield 195, 3) := by decide +kernel
theorem dX12_goThrough_13 : decode cX12_goThrough 13 = .ok (.aload_n 0, 1) := by decide +kernel
theorem dX12_goThrough_14 : decode cX12_goThrough 14 = .ok (.iconst 0, 1) := by decide +kernel
theorem dX12_goThrough_15 : decode cX12_goThrough 15 = .ok (.putfield 125, 3) := by decide +kernel
theorem dX12_goThrough_18 : decode cX12_goThrough 18 = .ok (.aload_n 0, 1) := by decide +kernel
theorem dX12_goThrough_19 : decode cX12_goThrough 19 = .ok (.iconst 0, 1) := by decide +kernel
theorem dX12_goThrough_20 : decode cX12_goThrough 20 = .ok (.putfield 191, 3) := by decide +kernel
theorem dX12_goThrough_23 : decode cX12_goThrough 23 = .ok (.aload_n 0, 1) := by decide +kernel
theorem dX12_goThrough_24 : decode cX12_goThrough 24 = .ok (.iconst 0, 1) := by decide +kernel
theorem dX12_goThrough_25 : decode cX12_goThrough 25 = .ok (.putfield 198, 3) := by decide +kernel
theorem dX12_goThrough_28 : decode cX12_goThrough 28 = .ok (.aload_n 0, 1) := by decide +kernel
theorem dX12_goThrough_29 : decode cX12_goThrough 29 = .ok (.invokevirtual 205, 3) := by decide +kernel
theorem dX12_goThrough_32 : decode cX12_goThrough 32 = .ok (.aload_n 0, 1) := by decide +kernel
theorem dX12_goThrough_33 : decode cX12_goThrough 33 = .ok (.getfield 122, 3) := by decide +kernel
theorem dX12_goThrough_36 : decode cX12_goThrough 36 = .ok (.iconst (-1), 1) := by decide +kernel
theorem dX12_goThrough_37 : decode cX12_goThrough 37 = .ok (.if_icmp .ne 29, 3) := by decide +kernel
theorem dX12_goThrough_40 : decode cX12_goThrough 40 = .ok (.aload_n 0, 1) := by decide +kernel
theorem dX12_goThrough_41 : decode cX12_goThrough 41 = .ok (.invokevirtual 132, 3) := by decide +kernel
theorem dX12_goThrough_44 : decode cX12_goThrough 44 = .ok (.bipush 59, 2) := by decide +kernel
theorem dX12_goThrough_46 : decode cX12_goThrough 46 = .ok (.if_icmp .ne 20, 3) := by decide +kernel
theorem dX12_goThrough_49 : decode cX12_goThrough 49 = .ok (.aload_n 0, 1) := by decide +kernel
theorem dX12_goThrough_50 : decode cX12_goThrough 50 = .ok (.dup, 1) := by decide +kernel
theorem dX12_goThrough_51 : decode cX12_goThrough 51 = .ok (.getfield 113, 3) := by decide +kernel
theorem dX12_goThrough_54 : decode cX12_goThrough 54 = .ok (.iconst 1, 1) := by decide +kernel
theorem dX12_goThrough_55 : decode cX12_goThrough 55 = .ok (.iadd, 1) := by decide +kernel
theorem dX12_goThrough_56 : decode cX12_goThrough 56 = .ok (.putfield 113, 3) := by decide +kernel
theorem dX12_goThrough_59 : decode cX12_goThrough 59 = .ok (.aload_n 0, 1) := by decide +kernel
theorem dX12_goThrough_60 : decode cX12_goThrough 60 = .ok (.invokevirtual 205, 3) := by decide +kernel
theorem dX12_goThrough_63 : decode cX12_goThrough 63 = .ok (.goto (-31), 3) := by decide +kernel
theorem dX12_goThrough_66 : decode cX12_goThrough 66 = .ok (.aload_n 0, 1) := by decide +kernel
theorem dX12_goThrough_67 : decode cX12_goThrough 67 = .ok (.getfield 122, 3) := by decide +kernel
theorem dX12_goThrough_70 : decode cX12_goThrough 70 = .ok (.iconst (-1), 1) := by decide +kernel
theorem dX12_goThrough_71 : decode cX12_goThrough 71 = .ok (.if_icmp .ne 16, 3) := by decide +kernel
theorem dX12_goThrough_74 : decode cX12_goThrough 74 = .ok (.aload_n 0, 1) := by decide +kernel
theorem dX12_goThrough_75 : decode cX12_goThrough 75 = .ok (.invokevirtual 132, 3) := by decide +kernel
theorem dX12_goThrough_78 : decode cX12_goThrough 78 = .ok (.iconst (-1), 1) := by decide +kernel
theorem dX12_goThrough_79 : decode cX12_goThrough 79 = .ok (.if_icmp .eq 8, 3) := by decide +kernel
theorem dX12_goThrough_82 : decode cX12_goThrough 82 = .ok (.aload_n 0, 1) := by decide +kernel
theorem dX12_goThrough_83 : decode cX12_goThrough 83 = .ok (.invokevirtual 128, 3) := by decide +kernel
theorem dX12_goThrough_86 : decode cX12_goThrough 86 = .ok (.pop, 1) := by decide +kernel
theorem dX12_goThrough_87 : decode cX12_goThrough 87 = .ok (.return_, 1) := by decide +kernel
set_option maxRecDepth 20000 in
theorem ggX12_readClause_X12_look : GoodIn wsX12_readClause wsX12_look := goodIn_r _ [12, 4, 13, 14, 15, 104, 105, 106, 107, 108, 109, 110, 111, 112, 113, 114, 115, 116, 117, 118, 119, 120, 121, 122, 123, 124, 125, 126, 127, 128, 129, 130, 131, 132, 133, 134, 135, 136, 137, 138, 139, 140, 141, 142, 143, 144, 145, 146, 147, 148, 149, 150, 151, 152, 153, 154, 155, 156, 157] (by decide +kernel) (by decide +kernel)
set_option maxRecDepth 20000 in
theorem gX12_readClause_X12_look : GoodIn wsX12_readClause (wsV RX12 132 RX12 yX12_look wsX12_look) := goodIn_app (goodIn_of _ (by decide +kernel)) ggX12_readClause_X12_look
set_option maxRecDepth 20000 in
theorem ggX12_readClause_X12_fails : GoodIn wsX12_readClause wsX12_fails := goodIn_r _ [19, 20, 4, 104, 105, 106, 107, 108, 109, 110, 111, 112, 113, 114, 115, 116, 117, 118, 119, 120, 121, 122, 123, 124, 125, 126, 127, 128, 129, 130, 131, 132, 133, 134, 135, 136, 137, 138, 139, 140, 141, 142, 143, 144, 145, 146, 147, 148, 149, 150, 151, 152, 153, 154, 155, 156, 157] (by decide +kernel) (by decide +kernel)
set_option maxRecDepth 20000 in
theorem gX12_readClause_X12_fails : GoodIn wsX12_readClause (wsV RX12 128 RX12 yX12_fails wsX12_fails) := goodIn_app (goodIn_of _ (by decide +kernel)) ggX12_readClause_X12_fails
set_option maxRecDepth 20000 in
theorem ggX12_readClause_X12_readItems : GoodIn wsX12_readClause wsX12_readItems := goodIn_r _ [24, 20, 4, 25, 26, 27, 28, 29, 30, 31, 32, 33, 34, 35, 36, 37, 38, 11, 39, 8, 9, 10, 12, 13, 14, 15, 40, 41, 42, 43, 44, 45, 46, 47, 48, 49, 50, 51, 52, 53, 54, 55, 56, 57, 58, 59, 60, 61, 62, 63, 64, 65, 66, 67, 68, 69, 70, 71, 72, 73, 74, 75, 76, 77, 78, 79, 80, 81, 82, 16, 17, 18, 19, 83, 84, 85, 86, 87, 88, 89, 90, 91, 92, 93, 94, 95, 96, 97, 98, 99, 100, 101, 102, 103, 104, 105, 106, 107, 108, 109, 110, 111, 112, 113, 114, 115, 116, 117, 118, 119, 120, 121, 122, 123, 124, 125, 126, 127, 128, 129, 130, 131, 132, 133, 134, 135, 136, 137, 138, 139, 140, 141, 142, 143, 144, 145, 146, 147, 148, 149, 150, 151, 152, 153, 154, 155, 156, 157] (by decide +kernel) (by decide +kernel)
set_option maxRecDepth 20000 in
theorem gX12_readClause_X12_readItems : GoodIn wsX12_readClause (wsV RX12 247 RX12 yX12_readItems wsX12_readItems) := goodIn_app (goodIn_of _ (by decide +kernel)) ggX12_readClause_X12_readItems
theorem dX12_readClause_0 : decode cX12_readClause 0 = .ok (.aload_n 0, 1) := by decide +kernel
theorem dX12_readClause_1 : decode cX12_readClause 1 = .ok (.invokevirtual 132, 3) := by decide +kernel
theorem dX12_readClause_4 : decode cX12_readClause 4 = .ok (.istore_n 1, 1) := by decide +kernel
theorem dX12_readClause_5 : decode cX12_readClause 5 = .ok (.iload_n 1, 1) := by decide +kernel
theorem dX12_readClause_6 : decode cX12_readClause 6 = .ok (.bipush 115, 2) := by decide +kernel
theorem dX12_readClause_8 : decode cX12_readClause 8 = .ok (.if_icmp .ne 10, 3) := by decide +kernel
theorem dX12_readClause_11 : decode cX12_readClause 11 = .ok (.aload_n 0, 1) := by decide +kernel
theorem dX12_readClause_12 : decode cX12_readClause 12 = .ok (.getfield 236, 3) := by decide +kernel
theorem dX12_readClause_15 : decode cX12_readClause 15 = .ok (.ifCond .eq 32, 3) := by decide +kernel
theorem dX12_readClause_18 : decode cX12_readClause 18 = .ok (.iload_n 1, 1) := by decide +kernel
theorem dX12_readClause_19 : decode cX12_readClause 19 = .ok (.bipush 101, 2) := by decide +kernel
theorem dX12_readClause_21 : decode cX12_readClause 21 = .ok (.if_icmp .ne 12, 3) := by decide +kernel
theorem dX12_readClause_24 : decode cX12_readClause 24 = .ok (.aload_n 0, 1) := by decide +kernel
theorem dX12_readClause_25 : decode cX12_readClause 25 = .ok (.getfield 239, 3) := by decide +kernel
theorem dX12_readClause_28 : decode cX12_readClause 28 = .ok (.bipush 12, 2) := by decide +kernel
theorem dX12_readClause_30 : decode cX12_readClause 30 = .ok (.if_icmp .lt 17, 3) := by decide +kernel
theorem dX12_readClause_33 : decode cX12_readClause 33 = .ok (.iload_n 1, 1) := by decide +kernel
theorem dX12_readClause_34 : decode cX12_readClause 34 = .ok (.bipush 112, 2) := by decide +kernel
theorem dX12_readClause_36 : decode cX12_readClause 36 = .ok (.if_icmp .ne 15, 3) := by decide +kernel
theorem dX12_readClause_39 : decode cX12_readClause 39 = .ok (.aload_n 0, 1) := by decide +kernel
theorem dX12_readClause_40 : decode cX12_readClause 40 = .ok (.getfield 242, 3) := by decide +kernel
theorem dX12_readClause_43 : decode cX12_readClause 43 = .ok (.iconst 4, 1) := by decide +kernel
theorem dX12_readClause_44 : decode cX12_readClause 44 = .ok (.if_icmp .ge 7, 3) := by decide +kernel
theorem dX12_readClause_47 : decode cX12_readClause 47 = .ok (.iconst 1, 1) := by decide +kernel
theorem dX12_readClause_48 : decode cX12_readClause 48 = .ok (.goto 4, 3) := by decide +kernel
theorem dX12_readClause_51 : decode cX12_readClause 51 = .ok (.iconst 0, 1) := by decide +kernel
theorem dX12_readClause_52 : decode cX12_readClause 52 = .ok (.istore_n 2, 1) := by decide +kernel
theorem dX12_readClause_53 : decode cX12_readClause 53 = .ok (.iload_n 2, 1) := by decide +kernel
theorem dX12_readClause_54 : decode cX12_readClause 54 = .ok (.ifCond .ne 9, 3) := by decide +kernel
theorem dX12_readClause_57 : decode cX12_readClause 57 = .ok (.aload_n 0, 1) := by decide +kernel
theorem dX12_readClause_58 : decode cX12_readClause 58 = .ok (.invokevirtual 128, 3) := by decide +kernel
theorem dX12_readClause_61 : decode cX12_readClause 61 = .ok (.pop, 1) := by decide +kernel
theorem dX12_readClause_62 : decode cX12_readClause 62 = .ok (.return_, 1) := by decide +kernel
theorem dX12_readClause_63 : decode cX12_readClause 63 = .ok (.aload_n 0, 1) := by decide +kernel
theorem dX12_readClause_64 : decode cX12_readClause 64 = .ok (.dup, 1) := by decide +kernel
theorem dX12_readClause_65 : decode cX12_readClause 65 = .ok (.getfield 113, 3) := by decide +kernel
theorem dX12_readClause_68 : decode cX12_readClause 68 = .ok (.iconst 1, 1) := by decide +kernel
theorem dX12_readClause_69 : decode cX12_readClause 69 = .ok (.iadd, 1) := by decide +kernel
theorem dX12_readClause_70 : decode cX12_readClause 70 = .ok (.putfield 113, 3) := by decide +kernel
theorem dX12_readClause_73 : decode cX12_readClause 73 = .ok (.iload_n 1, 1) := by decide +kernel
theorem dX12_readClause_74 : decode cX12_readClause 74 = .ok (.bipush 115, 2) := by decide +kernel
theorem dX12_readClause_76 : decode cX12_readClause 76 = .ok (.if_icmp .ne 23, 3) := by decide +kernel
theorem dX12_readClause_79 : decode cX12_readClause 79 = .ok (.aload_n 0, 1) := by decide +kernel
theorem dX12_readClause_80 : decode cX12_readClause 80 = .ok (.iconst 1, 1) := by decide +kernel
theorem dX12_readClause_81 : decode cX12_readClause 81 = .ok (.putfield 236, 3) := by decide +kernel
theorem dX12_readClause_84 : decode cX12_readClause 84 = .ok (.aload_n 0, 1) := by decide +kernel
theorem dX12_readClause_85 : decode cX12_readClause 85 = .ok (.iload_n 1, 1) := by decide +kernel
theorem dX12_readClause_86 : decode cX12_readClause 86 = .ok (.aload_n 0, 1) := by decide +kernel
theorem dX12_readClause_87 : decode cX12_readClause 87 = .ok (.getfield 37, 3) := by decide +kernel
theorem dX12_readClause_90 : decode cX12_readClause 90 = .ok (.iconst 0, 1) := by decide +kernel
theorem dX12_readClause_91 : decode cX12_readClause 91 = .ok (.ldc 245, 2) := by decide +kernel
theorem dX12_readClause_93 : decode cX12_readClause 93 = .ok (.invokevirtual 247, 3) := by decide +kernel
theorem dX12_readClause_96 : decode cX12_readClause 96 = .ok (.goto 70, 3) := by decide +kernel
theorem dX12_readClause_99 : decode cX12_readClause 99 = .ok (.iload_n 1, 1) := by decide +kernel
theorem dX12_readClause_100 : decode cX12_readClause 100 = .ok (.bipush 101, 2) := by decide +kernel
theorem dX12_readClause_102 : decode cX12_readClause 102 = .ok (.if_icmp .ne 35, 3) := by decide +kernel
theorem dX12_readClause_105 : decode cX12_readClause 105 = .ok (.aload_n 0, 1) := by decide +kernel
theorem dX12_readClause_106 : decode cX12_readClause 106 = .ok (.dup, 1) := by decide +kernel
theorem dX12_readClause_107 : decode cX12_readClause 107 = .ok (.getfield 239, 3) := by decide +kernel
theorem dX12_readClause_110 : decode cX12_readClause 110 = .ok (.iconst 1, 1) := by decide +kernel
theorem dX12_readClause_111 : decode cX12_readClause 111 = .ok (.iadd, 1) := by decide +kernel
theorem dX12_readClause_112 : decode cX12_readClause 112 = .ok (.putfield 239, 3) := by decide +kernel
theorem dX12_readClause_115 : decode cX12_readClause 115 = .ok (.aload_n 0, 1) := by decide +kernel
theorem dX12_readClause_116 : decode cX12_readClause 116 = .ok (.iload_n 1, 1) := by decide +kernel
theorem dX12_readClause_117 : decode cX12_readClause 117 = .ok (.aload_n 0, 1) := by decide +kernel
theorem dX12_readClause_118 : decode cX12_readClause 118 = .ok (.getfield 43, 3) := by decide +kernel
theorem dX12_readClause_121 : decode cX12_readClause 121 = .ok (.iconst 4, 1) := by decide +kernel
theorem dX12_readClause_122 : decode cX12_readClause 122 = .ok (.aload_n 0, 1) := by decide +kernel
theorem dX12_readClause_123 : decode cX12_readClause 123 = .ok (.getfield 239, 3) := by decide +kernel
theorem dX12_readClause_126 : decode cX12_readClause 126 = .ok (.iconst 1, 1) := by decide +kernel
theorem dX12_readClause_127 : decode cX12_readClause 127 = .ok (.isub, 1) := by decide +kernel
theorem dX12_readClause_128 : decode cX12_readClause 128 = .ok (.imul, 1) := by decide +kernel
theorem dX12_readClause_129 : decode cX12_readClause 129 = .ok (.ldc 251, 2) := by decide +kernel
theorem dX12_readClause_131 : decode cX12_readClause 131 = .ok (.invokevirtual 247, 3) := by decide +kernel
theorem dX12_readClause_134 : decode cX12_readClause 134 = .ok (.goto 32, 3) := by decide +kernel
theorem dX12_readClause_137 : decode cX12_readClause 137 = .ok (.aload_n 0, 1) := by decide +kernel
theorem dX12_readClause_138 : decode cX12_readClause 138 = .ok (.dup, 1) := by decide +kernel
theorem dX12_readClause_139 : decode cX12_readClause 139 = .ok (.getfield 242, 3) := by decide +kernel
theorem dX12_readClause_142 : decode cX12_readClause 142 = .ok (.iconst 1, 1) := by decide +kernel
theorem dX12_readClause_143 : decode cX12_readClause 143 = .ok (.iadd, 1) := by decide +kernel
theorem dX12_readClause_144 : decode cX12_readClause 144 = .ok (.putfield 242, 3) := by decide +kernel
theorem dX12_readClause_147 : decode cX12_readClause 147 = .ok (.aload_n 0, 1) := by decide +kernel
theorem dX12_readClause_148 : decode cX12_readClause 148 = .ok (.iload_n 1, 1) := by decide +kernel
theorem dX12_readClause_149 : decode cX12_readClause 149 = .ok (.aload_n 0, 1) := by decide +kernel
theorem dX12_readClause_150 : decode cX12_readClause 150 = .ok (.getfield 49, 3) := by decide +kernel
theorem dX12_readClause_153 : decode cX12_readClause 153 = .ok (.iconst 2, 1) := by decide +kernel
theorem dX12_readClause_154 : decode cX12_readClause 154 = .ok (.aload_n 0, 1) := by decide +kernel
theorem dX12_readClause_155 : decode cX12_readClause 155 = .ok (.getfield 242, 3) := by decide +kernel
theorem dX12_readClause_158 : decode cX12_readClause 158 = .ok (.iconst 1, 1) := by decide +kernel
theorem dX12_readClause_159 : decode cX12_readClause 159 = .ok (.isub, 1) := by decide +kernel
theorem dX12_readClause_160 : decode cX12_readClause 160 = .ok (.imul, 1) := by decide +kernel
theorem dX12_readClause_161 : decode cX12_readClause 161 = .ok (.ldc 253, 2) := by decide +kernel
theorem dX12_readClause_163 : decode cX12_readClause 163 = .ok (.invokevirtual 247, 3) := by decide +kernel
theorem dX12_readClause_166 : decode cX12_readClause 166 = .ok (.return_, 1) := by decide +kernel
set_option maxRecDepth 20000 in
theorem ggX12_readTown_X12_starts : GoodIn wsX12_readTown wsX12_starts := goodIn_r _ [13, 14, 15, 16, 8, 7, 118, 119, 120, 121, 122, 123, 124, 125, 126, 127, 128, 129, 130, 131, 132, 133, 134, 135, 136, 137, 138, 139, 140, 141, 142, 143, 144, 145, 146, 147, 148, 149, 150, 151, 152, 153, 154, 155, 156, 157, 158, 159, 160, 161, 162, 163, 164, 165, 166, 167, 168, 169, 170, 171] (by decide +kernel) (by decide +kernel)
set_option maxRecDepth 20000 in
theorem gX12_readTown_X12_starts : GoodIn wsX12_readTown (wsV RX12 201 RX12 yX12_starts wsX12_starts) := goodIn_app (goodIn_of _ (by decide +kernel)) ggX12_readTown_X12_starts
set_option maxRecDepth 20000 in
theorem ggX12_readTown_X12_readClause : GoodIn wsX12_readTown wsX12_readClause := goodIn_r _ [20, 5, 3, 4, 8, 6, 21, 22, 23, 24, 25, 12, 26, 16, 14, 15, 27, 28, 29, 30, 7, 31, 32, 33, 34, 35, 36, 37, 38, 39, 40, 41, 42, 43, 44, 45, 46, 47, 48, 49, 50, 51, 52, 53, 54, 55, 56, 57, 58, 59, 60, 61, 62, 63, 64, 65, 66, 67, 68, 69, 70, 71, 72, 73, 74, 75, 76, 77, 78, 79, 80, 81, 82, 83, 84, 85, 86, 87, 88, 89, 90, 91, 92, 93, 94, 95, 96, 97, 98, 99, 100, 101, 102, 103, 104, 105, 106, 107, 108, 109, 110, 111, 112, 113, 118, 119, 120, 121, 122, 123, 124, 125, 126, 127, 128, 129, 130, 131, 132, 133, 134, 135, 136, 137, 138, 139, 140, 141, 142, 143, 144, 145, 146, 147, 148, 149, 150, 151, 152, 153, 154, 155, 156, 157, 158, 159, 160, 161, 162, 163, 164, 165, 166, 167, 168, 169, 170, 171] (by decide +kernel) (by decide +kernel)
set_option maxRecDepth 20000 in
theorem gX12_readTown_X12_readClause : GoodIn wsX12_readTown (wsV RX12 255 RX12 yX12_readClause wsX12_readClause) := goodIn_app (goodIn_of _ (by decide +kernel)) ggX12_readTown_X12_readClause
set_option maxRecDepth 20000 in
theorem ggX12_readTown_X12_look : GoodIn wsX12_readTown wsX12_look := goodIn_r _ [26, 8, 16, 14, 15, 118, 119, 120, 121, 122, 123, 124, 125, 126, 127, 128, 129, 130, 131, 132, 133, 134, 135, 136, 137, 138, 139, 140, 141, 142, 143, 144, 145, 146, 147, 148, 149, 150, 151, 152, 153, 154, 155, 156, 157, 158, 159, 160, 161, 162, 163, 164, 165, 166, 167, 168, 169, 170, 171] (by decide +kernel) (by decide +kernel)
set_option maxRecDepth 20000 in
theorem gX12_readTown_X12_look : GoodIn wsX12_readTown (wsV RX12 132 RX12 yX12_look wsX12_look) := goodIn_app (goodIn_of _ (by decide +kernel)) ggX12_readTown_X12_look
set_option maxRecDepth 20000 in
theorem ggX12_readTown_X12_isWhole : GoodIn wsX12_readTown wsX12_isWhole := goodIn_r _ [117, 6, 3, 21, 4, 22, 118, 119, 120, 121, 122, 123, 124, 125, 126, 127, 128, 129, 130, 131, 132, 133, 134, 135, 136, 137, 138, 139, 140, 141, 142, 143, 144, 145, 146, 147, 148, 149, 150, 151, 152, 153, 154, 155, 156, 157, 158, 159, 160, 161, 162, 163, 164, 165, 166, 167, 168, 169, 170, 171] (by decide +kernel) (by decide +kernel)
set_option maxRecDepth 20000 in
theorem gX12_readTown_X12_isWhole : GoodIn wsX12_readTown (wsV RX12 258 RX12 yX12_isWhole wsX12_isWhole) := goodIn_app (goodIn_of _ (by decide +kernel)) ggX12_readTown_X12_isWhole
set_option maxRecDepth 20000 in
theorem ggX12_readTown_X12_fails : GoodIn wsX12_readTown wsX12_fails := goodIn_r _ [30, 7, 8, 118, 119, 120, 121, 122, 123, 124, 125, 126, 127, 128, 129, 130, 131, 132, 133, 134, 135, 136, 137, 138, 139, 140, 141, 142, 143, 144, 145, 146, 147, 148, 149, 150, 151, 152, 153, 154, 155, 156, 157, 158, 159, 160, 161, 162, 163, 164, 165, 166, 167, 168, 169, 170, 171] (by decide +kernel) (by decide +kernel)
set_option maxRecDepth 20000 in
theorem gX12_readTown_X12_fails : GoodIn wsX12_readTown (wsV RX12 128 RX12 yX12_fails wsX12_fails) := goodIn_app (goodIn_of _ (by decide +kernel)) ggX12_readTown_X12_fails
theorem dX12_readTown_0 : decode cX12_readTown 0 = .ok (.aload_n 0, 1) := by decide +kernel
theorem dX12_readTown_1 : decode cX12_readTown 1 = .ok (.aload_n 0, 1) := by decide +kernel
theorem dX12_readTown_2 : decode cX12_readTown 2 = .ok (.getfield 9, 3) := by decide +kernel
theorem dX12_readTown_5 : decode cX12_readTown 5 = .ok (.iconst 0, 1) := by decide +kernel
theorem dX12_readTown_6 : decode cX12_readTown 6 = .ok (.aload_n 0, 1) := by decide +kernel
theorem dX12_readTown_7 : decode cX12_readTown 7 = .ok (.getfield 103, 3) := by decide +kernel
theorem dX12_readTown_10 : decode cX12_readTown 10 = .ok (.invokevirtual 201, 3) := by decide +kernel
theorem dX12_readTown_13 : decode cX12_readTown 13 = .ok (.aload_n 0, 1) := by decide +kernel
theorem dX12_readTown_14 : decode cX12_readTown 14 = .ok (.iconst 0, 1) := by decide +kernel
theorem dX12_readTown_15 : decode cX12_readTown 15 = .ok (.putfield 239, 3) := by decide +kernel
theorem dX12_readTown_18 : decode cX12_readTown 18 = .ok (.aload_n 0, 1) := by decide +kernel
theorem dX12_readTown_19 : decode cX12_readTown 19 = .ok (.iconst 0, 1) := by decide +kernel
theorem dX12_readTown_20 : decode cX12_readTown 20 = .ok (.putfield 242, 3) := by decide +kernel
theorem dX12_readTown_23 : decode cX12_readTown 23 = .ok (.aload_n 0, 1) := by decide +kernel
theorem dX12_readTown_24 : decode cX12_readTown 24 = .ok (.iconst 0, 1) := by decide +kernel
theorem dX12_readTown_25 : decode cX12_readTown 25 = .ok (.putfield 236, 3) := by decide +kernel
theorem dX12_readTown_28 : decode cX12_readTown 28 = .ok (.aload_n 0, 1) := by decide +kernel
theorem dX12_readTown_29 : decode cX12_readTown 29 = .ok (.getfield 37, 3) := by decide +kernel
theorem dX12_readTown_32 : decode cX12_readTown 32 = .ok (.iconst 0, 1) := by decide +kernel
theorem dX12_readTown_33 : decode cX12_readTown 33 = .ok (.iconst 4, 1) := by decide +kernel
theorem dX12_readTown_34 : decode cX12_readTown 34 = .ok (.iastore, 1) := by decide +kernel
theorem dX12_readTown_35 : decode cX12_readTown 35 = .ok (.aload_n 0, 1) := by decide +kernel
theorem dX12_readTown_36 : decode cX12_readTown 36 = .ok (.getfield 37, 3) := by decide +kernel
theorem dX12_readTown_39 : decode cX12_readTown 39 = .ok (.iconst 1, 1) := by decide +kernel
theorem dX12_readTown_40 : decode cX12_readTown 40 = .ok (.bipush 20, 2) := by decide +kernel
theorem dX12_readTown_42 : decode cX12_readTown 42 = .ok (.iastore, 1) := by decide +kernel
theorem dX12_readTown_43 : decode cX12_readTown 43 = .ok (.iconst 1, 1) := by decide +kernel
theorem dX12_readTown_44 : decode cX12_readTown 44 = .ok (.istore_n 1, 1) := by decide +kernel
theorem dX12_readTown_45 : decode cX12_readTown 45 = .ok (.iload_n 1, 1) := by decide +kernel
theorem dX12_readTown_46 : decode cX12_readTown 46 = .ok (.ifCond .eq 55, 3) := by decide +kernel
theorem dX12_readTown_49 : decode cX12_readTown 49 = .ok (.aload_n 0, 1) := by decide +kernel
theorem dX12_readTown_50 : decode cX12_readTown 50 = .ok (.getfield 122, 3) := by decide +kernel
theorem dX12_readTown_53 : decode cX12_readTown 53 = .ok (.iconst (-1), 1) := by decide +kernel
theorem dX12_readTown_54 : decode cX12_readTown 54 = .ok (.if_icmp .ne 47, 3) := by decide +kernel
theorem dX12_readTown_57 : decode cX12_readTown 57 = .ok (.aload_n 0, 1) := by decide +kernel
theorem dX12_readTown_58 : decode cX12_readTown 58 = .ok (.invokevirtual 255, 3) := by decide +kernel
theorem dX12_readTown_61 : decode cX12_readTown 61 = .ok (.aload_n 0, 1) := by decide +kernel
theorem dX12_readTown_62 : decode cX12_readTown 62 = .ok (.getfield 122, 3) := by decide +kernel
theorem dX12_readTown_65 : decode cX12_readTown 65 = .ok (.iconst (-1), 1) := by decide +kernel
theorem dX12_readTown_66 : decode cX12_readTown 66 = .ok (.if_icmp .ne 16, 3) := by decide +kernel
theorem dX12_readTown_69 : decode cX12_readTown 69 = .ok (.aload_n 0, 1) := by decide +kernel
theorem dX12_readTown_70 : decode cX12_readTown 70 = .ok (.invokevirtual 132, 3) := by decide +kernel
theorem dX12_readTown_73 : decode cX12_readTown 73 = .ok (.bipush 59, 2) := by decide +kernel
theorem dX12_readTown_75 : decode cX12_readTown 75 = .ok (.if_icmp .ne 7, 3) := by decide +kernel
theorem dX12_readTown_78 : decode cX12_readTown 78 = .ok (.iconst 1, 1) := by decide +kernel
theorem dX12_readTown_79 : decode cX12_readTown 79 = .ok (.goto 4, 3) := by decide +kernel
theorem dX12_readTown_82 : decode cX12_readTown 82 = .ok (.iconst 0, 1) := by decide +kernel
theorem dX12_readTown_83 : decode cX12_readTown 83 = .ok (.istore_n 1, 1) := by decide +kernel
theorem dX12_readTown_84 : decode cX12_readTown 84 = .ok (.iload_n 1, 1) := by decide +kernel
theorem dX12_readTown_85 : decode cX12_readTown 85 = .ok (.ifCond .eq (-40), 3) := by decide +kernel
theorem dX12_readTown_88 : decode cX12_readTown 88 = .ok (.aload_n 0, 1) := by decide +kernel
theorem dX12_readTown_89 : decode cX12_readTown 89 = .ok (.dup, 1) := by decide +kernel
theorem dX12_readTown_90 : decode cX12_readTown 90 = .ok (.getfield 113, 3) := by decide +kernel
theorem dX12_readTown_93 : decode cX12_readTown 93 = .ok (.iconst 1, 1) := by decide +kernel
theorem dX12_readTown_94 : decode cX12_readTown 94 = .ok (.iadd, 1) := by decide +kernel
theorem dX12_readTown_95 : decode cX12_readTown 95 = .ok (.putfield 113, 3) := by decide +kernel
theorem dX12_readTown_98 : decode cX12_readTown 98 = .ok (.goto (-53), 3) := by decide +kernel
theorem dX12_readTown_101 : decode cX12_readTown 101 = .ok (.aload_n 0, 1) := by decide +kernel
theorem dX12_readTown_102 : decode cX12_readTown 102 = .ok (.getfield 122, 3) := by decide +kernel
theorem dX12_readTown_105 : decode cX12_readTown 105 = .ok (.iconst (-1), 1) := by decide +kernel
theorem dX12_readTown_106 : decode cX12_readTown 106 = .ok (.if_icmp .ne 23, 3) := by decide +kernel
theorem dX12_readTown_109 : decode cX12_readTown 109 = .ok (.aload_n 0, 1) := by decide +kernel
theorem dX12_readTown_110 : decode cX12_readTown 110 = .ok (.invokevirtual 132, 3) := by decide +kernel
theorem dX12_readTown_113 : decode cX12_readTown 113 = .ok (.iconst (-1), 1) := by decide +kernel
theorem dX12_readTown_114 : decode cX12_readTown 114 = .ok (.if_icmp .ne 10, 3) := by decide +kernel
theorem dX12_readTown_117 : decode cX12_readTown 117 = .ok (.aload_n 0, 1) := by decide +kernel
theorem dX12_readTown_118 : decode cX12_readTown 118 = .ok (.invokevirtual 258, 3) := by decide +kernel
theorem dX12_readTown_121 : decode cX12_readTown 121 = .ok (.ifCond .ne 8, 3) := by decide +kernel
theorem dX12_readTown_124 : decode cX12_readTown 124 = .ok (.aload_n 0, 1) := by decide +kernel
theorem dX12_readTown_125 : decode cX12_readTown 125 = .ok (.invokevirtual 128, 3) := by decide +kernel
theorem dX12_readTown_128 : decode cX12_readTown 128 = .ok (.pop, 1) := by decide +kernel
theorem dX12_readTown_129 : decode cX12_readTown 129 = .ok (.return_, 1) := by decide +kernel
set_option maxRecDepth 20000 in
theorem ggX12_readWalk_X12_starts : GoodIn wsX12_readWalk wsX12_starts := goodIn_r _ [10, 11, 12, 13, 4, 14, 31, 32, 33, 34, 35, 36, 37, 38, 39, 40, 41, 42, 43, 44, 45, 46, 47, 48, 49, 50, 51, 52, 53, 54, 55, 56, 57, 58, 59, 60, 61, 62, 63, 64, 65, 66, 67, 68, 69, 70, 71, 72, 73, 74, 75, 76, 77, 78, 79, 80, 81, 82, 83, 84] (by decide +kernel) (by decide +kernel)
set_option maxRecDepth 20000 in
theorem gX12_readWalk_X12_starts : GoodIn wsX12_readWalk (wsV RX12 201 RX12 yX12_starts wsX12_starts) := goodIn_app (goodIn_of _ (by decide +kernel)) ggX12_readWalk_X12_starts
set_option maxRecDepth 20000 in
theorem ggX12_readWalk_X12_look : GoodIn wsX12_readWalk wsX12_look := goodIn_r _ [18, 4, 13, 11, 12, 31, 32, 33, 34, 35, 36, 37, 38, 39, 40, 41, 42, 43, 44, 45, 46, 47, 48, 49, 50, 51, 52, 53, 54, 55, 56, 57, 58, 59, 60, 61, 62, 63, 64, 65, 66, 67, 68, 69, 70, 71, 72, 73, 74, 75, 76, 77, 78, 79, 80, 81, 82, 83, 84] (by decide +kernel) (by decide +kernel)
set_option maxRecDepth 20000 in
theorem gX12_readWalk_X12_look : GoodIn wsX12_readWalk (wsV RX12 132 RX12 yX12_look wsX12_look) := goodIn_app (goodIn_of _ (by decide +kernel)) ggX12_readWalk_X12_look
set_option maxRecDepth 20000 in
theorem ggX12_readWalk_X12_isDigit : GoodIn wsX12_readWalk wsX12_isDigit := goodIn_r _ [22, 4, 13, 11, 12, 31, 32, 33, 34, 35, 36, 37, 38, 39, 40, 41, 42, 43, 44, 45, 46, 47, 48, 49, 50, 51, 52, 53, 54, 55, 56, 57, 58, 59, 60, 61, 62, 63, 64, 65, 66, 67, 68, 69, 70, 71, 72, 73, 74, 75, 76, 77, 78, 79, 80, 81, 82, 83, 84] (by decide +kernel) (by decide +kernel)
set_option maxRecDepth 20000 in
theorem gX12_readWalk_X12_isDigit : GoodIn wsX12_readWalk (wsV RX12 162 RX12 yX12_isDigit wsX12_isDigit) := goodIn_app (goodIn_of _ (by decide +kernel)) ggX12_readWalk_X12_isDigit
set_option maxRecDepth 20000 in
theorem ggX12_readWalk_X12_here : GoodIn wsX12_readWalk wsX12_here := goodIn_r _ [26, 4, 13, 11, 12, 31, 32, 33, 34, 35, 36, 37, 38, 39, 40, 41, 42, 43, 44, 45, 46, 47, 48, 49, 50, 51, 52, 53, 54, 55, 56, 57, 58, 59, 60, 61, 62, 63, 64, 65, 66, 67, 68, 69, 70, 71, 72, 73, 74, 75, 76, 77, 78, 79, 80, 81, 82, 83, 84] (by decide +kernel) (by decide +kernel)
set_option maxRecDepth 20000 in
theorem gX12_readWalk_X12_here : GoodIn wsX12_readWalk (wsV RX12 208 RX12 yX12_here wsX12_here) := goodIn_app (goodIn_of _ (by decide +kernel)) ggX12_readWalk_X12_here
set_option maxRecDepth 20000 in
theorem ggX12_readWalk_X12_fails : GoodIn wsX12_readWalk wsX12_fails := goodIn_r _ [30, 14, 4, 31, 32, 33, 34, 35, 36, 37, 38, 39, 40, 41, 42, 43, 44, 45, 46, 47, 48, 49, 50, 51, 52, 53, 54, 55, 56, 57, 58, 59, 60, 61, 62, 63, 64, 65, 66, 67, 68, 69, 70, 71, 72, 73, 74, 75, 76, 77, 78, 79, 80, 81, 82, 83, 84] (by decide +kernel) (by decide +kernel)
set_option maxRecDepth 20000 in
theorem gX12_readWalk_X12_fails : GoodIn wsX12_readWalk (wsV RX12 128 RX12 yX12_fails wsX12_fails) := goodIn_app (goodIn_of _ (by decide +kernel)) ggX12_readWalk_X12_fails
theorem dX12_readWalk_0 : decode cX12_readWalk 0 = .ok (.aload_n 0, 1) := by decide +kernel
theorem dX12_readWalk_1 : decode cX12_readWalk 1 = .ok (.aload_n 0, 1) := by decide +kernel
theorem dX12_readWalk_2 : decode cX12_readWalk 2 = .ok (.getfield 9, 3) := by decide +kernel
theorem dX12_readWalk_5 : decode cX12_readWalk 5 = .ok (.iconst 0, 1) := by decide +kernel
theorem dX12_readWalk_6 : decode cX12_readWalk 6 = .ok (.aload_n 0, 1) := by decide +kernel
theorem dX12_readWalk_7 : decode cX12_readWalk 7 = .ok (.getfield 103, 3) := by decide +kernel
theorem dX12_readWalk_10 : decode cX12_readWalk 10 = .ok (.invokevirtual 201, 3) := by decide +kernel
theorem dX12_readWalk_13 : decode cX12_readWalk 13 = .ok (.iconst 0, 1) := by decide +kernel
theorem dX12_readWalk_14 : decode cX12_readWalk 14 = .ok (.istore_n 1, 1) := by decide +kernel
theorem dX12_readWalk_15 : decode cX12_readWalk 15 = .ok (.aload_n 0, 1) := by decide +kernel
theorem dX12_readWalk_16 : decode cX12_readWalk 16 = .ok (.invokevirtual 132, 3) := by decide +kernel
theorem dX12_readWalk_19 : decode cX12_readWalk 19 = .ok (.pop, 1) := by decide +kernel
theorem dX12_readWalk_20 : decode cX12_readWalk 20 = .ok (.aload_n 0, 1) := by decide +kernel
theorem dX12_readWalk_21 : decode cX12_readWalk 21 = .ok (.invokevirtual 162, 3) := by decide +kernel
theorem dX12_readWalk_24 : decode cX12_readWalk 24 = .ok (.ifCond .eq 55, 3) := by decide +kernel
theorem dX12_readWalk_27 : decode cX12_readWalk 27 = .ok (.aload_n 0, 1) := by decide +kernel
theorem dX12_readWalk_28 : decode cX12_readWalk 28 = .ok (.invokevirtual 208, 3) := by decide +kernel
theorem dX12_readWalk_31 : decode cX12_readWalk 31 = .ok (.bipush 56, 2) := by decide +kernel
theorem dX12_readWalk_33 : decode cX12_readWalk 33 = .ok (.if_icmp .ge 46, 3) := by decide +kernel
theorem dX12_readWalk_36 : decode cX12_readWalk 36 = .ok (.iload_n 1, 1) := by decide +kernel
theorem dX12_readWalk_37 : decode cX12_readWalk 37 = .ok (.bipush 16, 2) := by decide +kernel
theorem dX12_readWalk_39 : decode cX12_readWalk 39 = .ok (.if_icmp .ge 40, 3) := by decide +kernel
theorem dX12_readWalk_42 : decode cX12_readWalk 42 = .ok (.aload_n 0, 1) := by decide +kernel
theorem dX12_readWalk_43 : decode cX12_readWalk 43 = .ok (.getfield 52, 3) := by decide +kernel
theorem dX12_readWalk_46 : decode cX12_readWalk 46 = .ok (.bipush 64, 2) := by decide +kernel
theorem dX12_readWalk_48 : decode cX12_readWalk 48 = .ok (.iload_n 1, 1) := by decide +kernel
theorem dX12_readWalk_49 : decode cX12_readWalk 49 = .ok (.iadd, 1) := by decide +kernel
theorem dX12_readWalk_50 : decode cX12_readWalk 50 = .ok (.aload_n 0, 1) := by decide +kernel
theorem dX12_readWalk_51 : decode cX12_readWalk 51 = .ok (.invokevirtual 208, 3) := by decide +kernel
theorem dX12_readWalk_54 : decode cX12_readWalk 54 = .ok (.bipush 48, 2) := by decide +kernel
theorem dX12_readWalk_56 : decode cX12_readWalk 56 = .ok (.isub, 1) := by decide +kernel
theorem dX12_readWalk_57 : decode cX12_readWalk 57 = .ok (.iastore, 1) := by decide +kernel
theorem dX12_readWalk_58 : decode cX12_readWalk 58 = .ok (.iinc 1 1, 3) := by decide +kernel
theorem dX12_readWalk_61 : decode cX12_readWalk 61 = .ok (.aload_n 0, 1) := by decide +kernel
theorem dX12_readWalk_62 : decode cX12_readWalk 62 = .ok (.dup, 1) := by decide +kernel
theorem dX12_readWalk_63 : decode cX12_readWalk 63 = .ok (.getfield 113, 3) := by decide +kernel
theorem dX12_readWalk_66 : decode cX12_readWalk 66 = .ok (.iconst 1, 1) := by decide +kernel
theorem dX12_readWalk_67 : decode cX12_readWalk 67 = .ok (.iadd, 1) := by decide +kernel
theorem dX12_readWalk_68 : decode cX12_readWalk 68 = .ok (.putfield 113, 3) := by decide +kernel
theorem dX12_readWalk_71 : decode cX12_readWalk 71 = .ok (.aload_n 0, 1) := by decide +kernel
theorem dX12_readWalk_72 : decode cX12_readWalk 72 = .ok (.invokevirtual 132, 3) := by decide +kernel
theorem dX12_readWalk_75 : decode cX12_readWalk 75 = .ok (.pop, 1) := by decide +kernel
theorem dX12_readWalk_76 : decode cX12_readWalk 76 = .ok (.goto (-56), 3) := by decide +kernel
theorem dX12_readWalk_79 : decode cX12_readWalk 79 = .ok (.aload_n 0, 1) := by decide +kernel
theorem dX12_readWalk_80 : decode cX12_readWalk 80 = .ok (.getfield 55, 3) := by decide +kernel
theorem dX12_readWalk_83 : decode cX12_readWalk 83 = .ok (.iconst 4, 1) := by decide +kernel
theorem dX12_readWalk_84 : decode cX12_readWalk 84 = .ok (.iload_n 1, 1) := by decide +kernel
theorem dX12_readWalk_85 : decode cX12_readWalk 85 = .ok (.iastore, 1) := by decide +kernel
theorem dX12_readWalk_86 : decode cX12_readWalk 86 = .ok (.iload_n 1, 1) := by decide +kernel
theorem dX12_readWalk_87 : decode cX12_readWalk 87 = .ok (.ifCond .eq 11, 3) := by decide +kernel
theorem dX12_readWalk_90 : decode cX12_readWalk 90 = .ok (.aload_n 0, 1) := by decide +kernel
theorem dX12_readWalk_91 : decode cX12_readWalk 91 = .ok (.invokevirtual 132, 3) := by decide +kernel
theorem dX12_readWalk_94 : decode cX12_readWalk 94 = .ok (.iconst (-1), 1) := by decide +kernel
theorem dX12_readWalk_95 : decode cX12_readWalk 95 = .ok (.if_icmp .eq 8, 3) := by decide +kernel
theorem dX12_readWalk_98 : decode cX12_readWalk 98 = .ok (.aload_n 0, 1) := by decide +kernel
theorem dX12_readWalk_99 : decode cX12_readWalk 99 = .ok (.invokevirtual 128, 3) := by decide +kernel
theorem dX12_readWalk_102 : decode cX12_readWalk 102 = .ok (.pop, 1) := by decide +kernel
theorem dX12_readWalk_103 : decode cX12_readWalk 103 = .ok (.return_, 1) := by decide +kernel
set_option maxRecDepth 20000 in
theorem ggX12_fault_X12_isIn : GoodIn wsX12_fault wsX12_isIn := goodIn_r _ [9] (by decide +kernel) (by decide +kernel)
set_option maxRecDepth 20000 in
theorem gX12_fault_X12_isIn : GoodIn wsX12_fault (va_wsS RX12 211 yX12_isIn wsX12_isIn) := goodIn_app (goodIn_of _ (by decide +kernel)) ggX12_fault_X12_isIn
set_option maxRecDepth 20000 in
theorem ggX12_fault_X12_readTown : GoodIn wsX12_fault wsX12_readTown := goodIn_r _ [13, 3, 4, 14, 15, 16, 17, 5, 18, 19, 20, 21, 8, 22, 23, 24, 25, 26, 27, 28, 29, 30, 31, 32, 33, 34, 35, 36, 37, 38, 39, 40, 41, 42, 43, 44, 45, 46, 47, 48, 49, 50, 51, 52, 53, 54, 55, 56, 57, 58, 59, 60, 61, 62, 63, 64, 65, 66, 67, 68, 69, 70, 71, 72, 73, 74, 75, 76, 77, 78, 79, 80, 81, 82, 83, 84, 85, 86, 87, 88, 89, 90, 91, 92, 93, 94, 95, 96, 97, 98, 99, 100, 101, 102, 103, 104, 105, 106, 107, 108, 109, 110, 111, 112, 113, 114, 115, 116, 117, 118, 119, 6, 7, 9, 120, 121, 122, 123, 197, 198, 199, 200, 201, 202, 203, 204, 205, 206, 207, 208, 209, 210, 211, 212, 213, 214, 215, 216, 217, 218, 219, 220, 221, 222, 223, 224, 225, 226, 227, 228, 229, 230, 231, 232, 233, 234, 235, 236, 237, 238, 239, 240, 241, 242, 243, 244, 245, 246, 247, 248, 249, 250] (by decide +kernel) (by decide +kernel)
set_option maxRecDepth 20000 in
theorem gX12_fault_X12_readTown : GoodIn wsX12_fault (wsV RX12 263 RX12 yX12_readTown wsX12_readTown) := goodIn_app (goodIn_of _ (by decide +kernel)) ggX12_fault_X12_readTown
set_option maxRecDepth 20000 in
theorem ggX12_fault_X12_goThrough : GoodIn wsX12_fault wsX12_goThrough := goodIn_r _ [127, 128, 129, 130, 131, 5, 18, 19, 20, 21, 8, 22, 23, 24, 25, 132, 133, 134, 135, 32, 33, 34, 35, 136, 137, 138, 44, 45, 46, 47, 48, 49, 50, 51, 52, 53, 54, 55, 62, 63, 64, 65, 66, 67, 68, 69, 70, 71, 72, 73, 74, 75, 76, 77, 78, 79, 80, 81, 82, 83, 84, 85, 86, 87, 88, 89, 90, 91, 92, 93, 94, 95, 96, 97, 98, 36, 37, 38, 39, 139, 140, 141, 142, 143, 144, 145, 146, 147, 148, 149, 150, 151, 152, 153, 154, 155, 156, 157, 158, 159, 160, 161, 162, 163, 164, 165, 166, 167, 168, 169, 170, 171, 172, 173, 174, 175, 176, 177, 178, 179, 112, 113, 114, 115, 180, 181, 182, 183, 184, 185, 186, 187, 188, 189, 190, 197, 198, 199, 200, 201, 202, 203, 204, 205, 206, 207, 208, 209, 210, 211, 212, 213, 214, 215, 216, 217, 218, 219, 220, 221, 222, 223, 224, 225, 226, 227, 228, 229, 230, 231, 232, 233, 234, 235, 236, 237, 238, 239, 240, 241, 242, 243, 244, 245, 246, 247, 248, 249, 250] (by decide +kernel) (by decide +kernel)
set_option maxRecDepth 20000 in
theorem gX12_fault_X12_goThrough : GoodIn wsX12_fault (wsV RX12 266 RX12 yX12_goThrough wsX12_goThrough) := goodIn_app (goodIn_of _ (by decide +kernel)) ggX12_fault_X12_goThrough
set_option maxRecDepth 20000 in
theorem ggX12_fault_X12_readWalk : GoodIn wsX12_fault wsX12_readWalk := goodIn_r _ [194, 3, 4, 195, 18, 196, 19, 20, 21, 8, 22, 23, 24, 25, 5, 32, 33, 34, 35, 112, 113, 114, 115, 116, 117, 118, 119, 36, 37, 38, 39, 197, 198, 199, 200, 201, 202, 203, 204, 205, 206, 207, 208, 209, 210, 211, 212, 213, 214, 215, 216, 217, 218, 219, 220, 221, 222, 223, 224, 225, 226, 227, 228, 229, 230, 231, 232, 233, 234, 235, 236, 237, 238, 239, 240, 241, 242, 243, 244, 245, 246, 247, 248, 249, 250] (by decide +kernel) (by decide +kernel)
set_option maxRecDepth 20000 in
theorem gX12_fault_X12_readWalk : GoodIn wsX12_fault (wsV RX12 269 RX12 yX12_readWalk wsX12_readWalk) := goodIn_app (goodIn_of _ (by decide +kernel)) ggX12_fault_X12_readWalk
theorem dX12_fault_0 : decode cX12_fault 0 = .ok (.aload_n 0, 1) := by decide +kernel
theorem dX12_fault_1 : decode cX12_fault 1 = .ok (.iconst 0, 1) := by decide +kernel
theorem dX12_fault_2 : decode cX12_fault 2 = .ok (.putfield 90, 3) := by decide +kernel
theorem dX12_fault_5 : decode cX12_fault 5 = .ok (.iload_n 1, 1) := by decide +kernel
theorem dX12_fault_6 : decode cX12_fault 6 = .ok (.i2l, 1) := by decide +kernel
theorem dX12_fault_7 : decode cX12_fault 7 = .ok (.lconst 0, 1) := by decide +kernel
theorem dX12_fault_8 : decode cX12_fault 8 = .ok (.ldc2_w 261, 3) := by decide +kernel
theorem dX12_fault_11 : decode cX12_fault 11 = .ok (.invokestatic 211, 3) := by decide +kernel
theorem dX12_fault_14 : decode cX12_fault 14 = .ok (.ifCond .ne 6, 3) := by decide +kernel
theorem dX12_fault_17 : decode cX12_fault 17 = .ok (.bipush (-2), 2) := by decide +kernel
theorem dX12_fault_19 : decode cX12_fault 19 = .ok (.ireturn, 1) := by decide +kernel
theorem dX12_fault_20 : decode cX12_fault 20 = .ok (.iload_n 1, 1) := by decide +kernel
theorem dX12_fault_21 : decode cX12_fault 21 = .ok (.ifCond .ne 7, 3) := by decide +kernel
theorem dX12_fault_24 : decode cX12_fault 24 = .ok (.aload_n 0, 1) := by decide +kernel
theorem dX12_fault_25 : decode cX12_fault 25 = .ok (.invokevirtual 263, 3) := by decide +kernel
theorem dX12_fault_28 : decode cX12_fault 28 = .ok (.iload_n 1, 1) := by decide +kernel
theorem dX12_fault_29 : decode cX12_fault 29 = .ok (.iconst 1, 1) := by decide +kernel
theorem dX12_fault_30 : decode cX12_fault 30 = .ok (.if_icmp .ne 16, 3) := by decide +kernel
theorem dX12_fault_33 : decode cX12_fault 33 = .ok (.aload_n 0, 1) := by decide +kernel
theorem dX12_fault_34 : decode cX12_fault 34 = .ok (.aload_n 0, 1) := by decide +kernel
theorem dX12_fault_35 : decode cX12_fault 35 = .ok (.getfield 9, 3) := by decide +kernel
theorem dX12_fault_38 : decode cX12_fault 38 = .ok (.iconst 0, 1) := by decide +kernel
theorem dX12_fault_39 : decode cX12_fault 39 = .ok (.aload_n 0, 1) := by decide +kernel
theorem dX12_fault_40 : decode cX12_fault 40 = .ok (.getfield 103, 3) := by decide +kernel
theorem dX12_fault_43 : decode cX12_fault 43 = .ok (.invokevirtual 266, 3) := by decide +kernel
theorem dX12_fault_46 : decode cX12_fault 46 = .ok (.iload_n 1, 1) := by decide +kernel
theorem dX12_fault_47 : decode cX12_fault 47 = .ok (.iconst 2, 1) := by decide +kernel
theorem dX12_fault_48 : decode cX12_fault 48 = .ok (.if_icmp .ne 7, 3) := by decide +kernel
theorem dX12_fault_51 : decode cX12_fault 51 = .ok (.aload_n 0, 1) := by decide +kernel
theorem dX12_fault_52 : decode cX12_fault 52 = .ok (.invokevirtual 269, 3) := by decide +kernel
theorem dX12_fault_55 : decode cX12_fault 55 = .ok (.aload_n 0, 1) := by decide +kernel
theorem dX12_fault_56 : decode cX12_fault 56 = .ok (.getfield 122, 3) := by decide +kernel
theorem dX12_fault_59 : decode cX12_fault 59 = .ok (.ireturn, 1) := by decide +kernel
set_option maxRecDepth 20000 in
theorem ggX12_text_X12_isIn : GoodIn wsX12_text wsX12_isIn := goodIn_r _ [28] (by decide +kernel) (by decide +kernel)
set_option maxRecDepth 20000 in
theorem gX12_text_X12_isIn : GoodIn wsX12_text (va_wsS RX12 211 yX12_isIn wsX12_isIn) := goodIn_app (goodIn_of _ (by decide +kernel)) ggX12_text_X12_isIn
set_option maxRecDepth 20000 in
theorem ggX12_text_X12_fault : GoodIn wsX12_text wsX12_fault := goodIn_r _ [32, 1, 2, 7, 5, 33, 25, 26, 27, 28, 34, 35, 36, 37, 13, 15, 38, 11, 39, 40, 41, 42, 43, 44, 45, 46, 47, 48, 49, 50, 18, 20, 51, 52, 53, 54, 55, 56, 57, 58, 59, 60, 61, 62, 63, 64, 65, 66, 67, 68, 69, 70, 71, 72, 73, 74, 75, 76, 77, 78, 79, 80, 81, 82, 83, 84, 85, 86, 87, 88, 89, 90, 91, 92, 93, 94, 95, 96, 97, 98, 99, 100, 101, 102, 103, 104, 105, 106, 107, 108, 109, 110, 111, 112, 113, 114, 115, 116, 117, 118, 119, 120, 121, 122, 123, 124, 125, 126, 127, 128, 129, 130, 131, 132, 133, 134, 135, 136, 137, 138, 139, 140, 141, 142, 143, 144, 145, 146, 147, 148, 149, 150, 151, 152, 153, 154, 155, 156, 157, 158, 159, 160, 161, 162, 163, 164, 165, 166, 167, 168, 169, 170, 171, 172, 173, 174, 175, 176, 177, 178, 179, 180, 181, 182, 183, 184, 185, 186, 187, 188, 189, 190, 191, 192, 193, 194, 195, 196, 197, 198, 199, 200, 201, 202, 203, 204, 205, 206, 207, 208, 209, 210, 211, 212, 213, 9, 10, 214, 215, 216, 217, 218, 219, 220, 221, 222, 223, 224, 225, 226, 227, 228, 229, 230, 231, 232, 233, 234, 235, 236, 237, 238, 239, 240, 241, 242, 243, 244, 245, 246, 247, 248, 249, 250, 251, 252, 253, 254, 255, 256, 257, 258, 259, 260, 261, 262, 263, 264, 265, 266, 267] (by decide +kernel) (by decide +kernel)
set_option maxRecDepth 20000 in
theorem gX12_text_X12_fault : GoodIn wsX12_text (wsV RX12 278 RX12 yX12_fault wsX12_fault) := goodIn_app (goodIn_of _ (by decide +kernel)) ggX12_text_X12_fault
theorem dX12_text_0 : decode cX12_text 0 = .ok (.aload_n 0, 1) := by decide +kernel
theorem dX12_text_1 : decode cX12_text 1 = .ok (.iconst 0, 1) := by decide +kernel
theorem dX12_text_2 : decode cX12_text 2 = .ok (.putfield 90, 3) := by decide +kernel
theorem dX12_text_5 : decode cX12_text 5 = .ok (.iload_n 1, 1) := by decide +kernel
theorem dX12_text_6 : decode cX12_text 6 = .ok (.i2l, 1) := by decide +kernel
theorem dX12_text_7 : decode cX12_text 7 = .ok (.lconst 0, 1) := by decide +kernel
theorem dX12_text_8 : decode cX12_text 8 = .ok (.ldc2_w 261, 3) := by decide +kernel
theorem dX12_text_11 : decode cX12_text 11 = .ok (.invokestatic 211, 3) := by decide +kernel
theorem dX12_text_14 : decode cX12_text 14 = .ok (.ifCond .eq 38, 3) := by decide +kernel
theorem dX12_text_17 : decode cX12_text 17 = .ok (.iload_n 1, 1) := by decide +kernel
theorem dX12_text_18 : decode cX12_text 18 = .ok (.iconst 1, 1) := by decide +kernel
theorem dX12_text_19 : decode cX12_text 19 = .ok (.if_icmp .ne 11, 3) := by decide +kernel
theorem dX12_text_22 : decode cX12_text 22 = .ok (.aload_n 0, 1) := by decide +kernel
theorem dX12_text_23 : decode cX12_text 23 = .ok (.getfield 272, 3) := by decide +kernel
theorem dX12_text_26 : decode cX12_text 26 = .ok (.iconst 4, 1) := by decide +kernel
theorem dX12_text_27 : decode cX12_text 27 = .ok (.if_icmp .eq 25, 3) := by decide +kernel
theorem dX12_text_30 : decode cX12_text 30 = .ok (.iload_n 1, 1) := by decide +kernel
theorem dX12_text_31 : decode cX12_text 31 = .ok (.iconst 2, 1) := by decide +kernel
theorem dX12_text_32 : decode cX12_text 32 = .ok (.if_icmp .ne 11, 3) := by decide +kernel
theorem dX12_text_35 : decode cX12_text 35 = .ok (.aload_n 0, 1) := by decide +kernel
theorem dX12_text_36 : decode cX12_text 36 = .ok (.getfield 275, 3) := by decide +kernel
theorem dX12_text_39 : decode cX12_text 39 = .ok (.iconst 4, 1) := by decide +kernel
theorem dX12_text_40 : decode cX12_text 40 = .ok (.if_icmp .eq 12, 3) := by decide +kernel
theorem dX12_text_43 : decode cX12_text 43 = .ok (.aload_n 0, 1) := by decide +kernel
theorem dX12_text_44 : decode cX12_text 44 = .ok (.iload_n 1, 1) := by decide +kernel
theorem dX12_text_45 : decode cX12_text 45 = .ok (.invokevirtual 278, 3) := by decide +kernel
theorem dX12_text_48 : decode cX12_text 48 = .ok (.iconst (-1), 1) := by decide +kernel
theorem dX12_text_49 : decode cX12_text 49 = .ok (.if_icmp .eq 5, 3) := by decide +kernel
theorem dX12_text_52 : decode cX12_text 52 = .ok (.iconst (-1), 1) := by decide +kernel
theorem dX12_text_53 : decode cX12_text 53 = .ok (.ireturn, 1) := by decide +kernel
theorem dX12_text_54 : decode cX12_text 54 = .ok (.aload_n 0, 1) := by decide +kernel
theorem dX12_text_55 : decode cX12_text 55 = .ok (.getfield 103, 3) := by decide +kernel
theorem dX12_text_58 : decode cX12_text 58 = .ok (.istore_n 2, 1) := by decide +kernel
theorem dX12_text_59 : decode cX12_text 59 = .ok (.aload_n 0, 1) := by decide +kernel
theorem dX12_text_60 : decode cX12_text 60 = .ok (.iconst 0, 1) := by decide +kernel
theorem dX12_text_61 : decode cX12_text 61 = .ok (.putfield 103, 3) := by decide +kernel
theorem dX12_text_64 : decode cX12_text 64 = .ok (.iload_n 1, 1) := by decide +kernel
theorem dX12_text_65 : decode cX12_text 65 = .ok (.iconst 1, 1) := by decide +kernel
theorem dX12_text_66 : decode cX12_text 66 = .ok (.if_icmp .ne 64, 3) := by decide +kernel
theorem dX12_text_69 : decode cX12_text 69 = .ok (.iconst 0, 1) := by decide +kernel
theorem dX12_text_70 : decode cX12_text 70 = .ok (.istore_n 3, 1) := by decide +kernel
theorem dX12_text_71 : decode cX12_text 71 = .ok (.iload_n 3, 1) := by decide +kernel
theorem dX12_text_72 : decode cX12_text 72 = .ok (.iload_n 2, 1) := by decide +kernel
theorem dX12_text_73 : decode cX12_text 73 = .ok (.if_icmp .ge 30, 3) := by decide +kernel
theorem dX12_text_76 : decode cX12_text 76 = .ok (.aload_n 0, 1) := by decide +kernel
theorem dX12_text_77 : decode cX12_text 77 = .ok (.getfield 13, 3) := by decide +kernel
theorem dX12_text_80 : decode cX12_text 80 = .ok (.sipush 240, 3) := by decide +kernel
theorem dX12_text_83 : decode cX12_text 83 = .ok (.aload_n 0, 1) := by decide +kernel
theorem dX12_text_84 : decode cX12_text 84 = .ok (.getfield 272, 3) := by decide +kernel
theorem dX12_text_87 : decode cX12_text 87 = .ok (.imul, 1) := by decide +kernel
theorem dX12_text_88 : decode cX12_text 88 = .ok (.iload_n 3, 1) := by decide +kernel
theorem dX12_text_89 : decode cX12_text 89 = .ok (.iadd, 1) := by decide +kernel
theorem dX12_text_90 : decode cX12_text 90 = .ok (.aload_n 0, 1) := by decide +kernel
theorem dX12_text_91 : decode cX12_text 91 = .ok (.getfield 9, 3) := by decide +kernel
theorem dX12_text_94 : decode cX12_text 94 = .ok (.iload_n 3, 1) := by decide +kernel
theorem dX12_text_95 : decode cX12_text 95 = .ok (.baload, 1) := by decide +kernel
theorem dX12_text_96 : decode cX12_text 96 = .ok (.bastore, 1) := by decide +kernel
theorem dX12_text_97 : decode cX12_text 97 = .ok (.iinc 3 1, 3) := by decide +kernel
theorem dX12_text_100 : decode cX12_text 100 = .ok (.goto (-29), 3) := by decide +kernel
theorem dX12_text_103 : decode cX12_text 103 = .ok (.aload_n 0, 1) := by decide +kernel
theorem dX12_text_104 : decode cX12_text 104 = .ok (.getfield 16, 3) := by decide +kernel
theorem dX12_text_107 : decode cX12_text 107 = .ok (.aload_n 0, 1) := by decide +kernel
theorem dX12_text_108 : decode cX12_text 108 = .ok (.getfield 272, 3) := by decide +kernel
theorem dX12_text_111 : decode cX12_text 111 = .ok (.iload_n 2, 1) := by decide +kernel
theorem dX12_text_112 : decode cX12_text 112 = .ok (.iastore, 1) := by decide +kernel
theorem dX12_text_113 : decode cX12_text 113 = .ok (.aload_n 0, 1) := by decide +kernel
theorem dX12_text_114 : decode cX12_text 114 = .ok (.dup, 1) := by decide +kernel
theorem dX12_text_115 : decode cX12_text 115 = .ok (.getfield 272, 3) := by decide +kernel
theorem dX12_text_118 : decode cX12_text 118 = .ok (.iconst 1, 1) := by decide +kernel
theorem dX12_text_119 : decode cX12_text 119 = .ok (.iadd, 1) := by decide +kernel
theorem dX12_text_120 : decode cX12_text 120 = .ok (.putfield 272, 3) := by decide +kernel
theorem dX12_text_123 : decode cX12_text 123 = .ok (.aload_n 0, 1) := by decide +kernel
theorem dX12_text_124 : decode cX12_text 124 = .ok (.getfield 272, 3) := by decide +kernel
theorem dX12_text_127 : decode cX12_text 127 = .ok (.iconst 1, 1) := by decide +kernel
theorem dX12_text_128 : decode cX12_text 128 = .ok (.isub, 1) := by decide +kernel
theorem dX12_text_129 : decode cX12_text 129 = .ok (.ireturn, 1) := by decide +kernel
theorem dX12_text_130 : decode cX12_text 130 = .ok (.iload_n 1, 1) := by decide +kernel
theorem dX12_text_131 : decode cX12_text 131 = .ok (.iconst 2, 1) := by decide +kernel
theorem dX12_text_132 : decode cX12_text 132 = .ok (.if_icmp .ne 72, 3) := by decide +kernel
theorem dX12_text_135 : decode cX12_text 135 = .ok (.iconst 0, 1) := by decide +kernel
theorem dX12_text_136 : decode cX12_text 136 = .ok (.istore_n 3, 1) := by decide +kernel
theorem dX12_text_137 : decode cX12_text 137 = .ok (.iload_n 3, 1) := by decide +kernel
theorem dX12_text_138 : decode cX12_text 138 = .ok (.bipush 16, 2) := by decide +kernel
theorem dX12_text_140 : decode cX12_text 140 = .ok (.if_icmp .ge 32, 3) := by decide +kernel
theorem dX12_text_143 : decode cX12_text 143 = .ok (.aload_n 0, 1) := by decide +kernel
theorem dX12_text_144 : decode cX12_text 144 = .ok (.getfield 52, 3) := by decide +kernel
theorem dX12_text_147 : decode cX12_text 147 = .ok (.bipush 16, 2) := by decide +kernel
theorem dX12_text_149 : decode cX12_text 149 = .ok (.aload_n 0, 1) := by decide +kernel
theorem dX12_text_150 : decode cX12_text 150 = .ok (.getfield 275, 3) := by decide +kernel
theorem dX12_text_153 : decode cX12_text 153 = .ok (.imul, 1) := by decide +kernel
theorem dX12_text_154 : decode cX12_text 154 = .ok (.iload_n 3, 1) := by decide +kernel
theorem dX12_text_155 : decode cX12_text 155 = .ok (.iadd, 1) := by decide +kernel
theorem dX12_text_156 : decode cX12_text 156 = .ok (.aload_n 0, 1) := by decide +kernel
theorem dX12_text_157 : decode cX12_text 157 = .ok (.getfield 52, 3) := by decide +kernel
theorem dX12_text_160 : decode cX12_text 160 = .ok (.bipush 64, 2) := by decide +kernel
theorem dX12_text_162 : decode cX12_text 162 = .ok (.iload_n 3, 1) := by decide +kernel
theorem dX12_text_163 : decode cX12_text 163 = .ok (.iadd, 1) := by decide +kernel
theorem dX12_text_164 : decode cX12_text 164 = .ok (.iaload, 1) := by decide +kernel
theorem dX12_text_165 : decode cX12_text 165 = .ok (.iastore, 1) := by decide +kernel
theorem dX12_text_166 : decode cX12_text 166 = .ok (.iinc 3 1, 3) := by decide +kernel
theorem dX12_text_169 : decode cX12_text 169 = .ok (.goto (-32), 3) := by decide +kernel
theorem dX12_text_172 : decode cX12_text 172 = .ok (.aload_n 0, 1) := by decide +kernel
theorem dX12_text_173 : decode cX12_text 173 = .ok (.getfield 55, 3) := by decide +kernel
theorem dX12_text_176 : decode cX12_text 176 = .ok (.aload_n 0, 1) := by decide +kernel
theorem dX12_text_177 : decode cX12_text 177 = .ok (.getfield 275, 3) := by decide +kernel
theorem dX12_text_180 : decode cX12_text 180 = .ok (.aload_n 0, 1) := by decide +kernel
theorem dX12_text_181 : decode cX12_text 181 = .ok (.getfield 55, 3) := by decide +kernel
theorem dX12_text_184 : decode cX12_text 184 = .ok (.iconst 4, 1) := by decide +kernel
theorem dX12_text_185 : decode cX12_text 185 = .ok (.iaload, 1) := by decide +kernel
theorem dX12_text_186 : decode cX12_text 186 = .ok (.iastore, 1) := by decide +kernel
theorem dX12_text_187 : decode cX12_text 187 = .ok (.aload_n 0, 1) := by decide +kernel
theorem dX12_text_188 : decode cX12_text 188 = .ok (.dup, 1) := by decide +kernel
theorem dX12_text_189 : decode cX12_text 189 = .ok (.getfield 275, 3) := by decide +kernel
theorem dX12_text_192 : decode cX12_text 192 = .ok (.iconst 1, 1) := by decide +kernel
theorem dX12_text_193 : decode cX12_text 193 = .ok (.iadd, 1) := by decide +kernel
theorem dX12_text_194 : decode cX12_text 194 = .ok (.putfield 275, 3) := by decide +kernel
theorem dX12_text_197 : decode cX12_text 197 = .ok (.aload_n 0, 1) := by decide +kernel
theorem dX12_text_198 : decode cX12_text 198 = .ok (.getfield 275, 3) := by decide +kernel
theorem dX12_text_201 : decode cX12_text 201 = .ok (.iconst 1, 1) := by decide +kernel
theorem dX12_text_202 : decode cX12_text 202 = .ok (.isub, 1) := by decide +kernel
theorem dX12_text_203 : decode cX12_text 203 = .ok (.ireturn, 1) := by decide +kernel
theorem dX12_text_204 : decode cX12_text 204 = .ok (.aload_n 0, 1) := by decide +kernel
theorem dX12_text_205 : decode cX12_text 205 = .ok (.aload_n 0, 1) := by decide +kernel
theorem dX12_text_206 : decode cX12_text 206 = .ok (.getfield 37, 3) := by decide +kernel
theorem dX12_text_209 : decode cX12_text 209 = .ok (.iconst 0, 1) := by decide +kernel
theorem dX12_text_210 : decode cX12_text 210 = .ok (.iaload, 1) := by decide +kernel
theorem dX12_text_211 : decode cX12_text 211 = .ok (.putfield 280, 3) := by decide +kernel
theorem dX12_text_214 : decode cX12_text 214 = .ok (.aload_n 0, 1) := by decide +kernel
theorem dX12_text_215 : decode cX12_text 215 = .ok (.aload_n 0, 1) := by decide +kernel
theorem dX12_text_216 : decode cX12_text 216 = .ok (.getfield 239, 3) := by decide +kernel
theorem dX12_text_219 : decode cX12_text 219 = .ok (.putfield 283, 3) := by decide +kernel
theorem dX12_text_222 : decode cX12_text 222 = .ok (.aload_n 0, 1) := by decide +kernel
theorem dX12_text_223 : decode cX12_text 223 = .ok (.aload_n 0, 1) := by decide +kernel
theorem dX12_text_224 : decode cX12_text 224 = .ok (.getfield 242, 3) := by decide +kernel
theorem dX12_text_227 : decode cX12_text 227 = .ok (.putfield 286, 3) := by decide +kernel
theorem dX12_text_230 : decode cX12_text 230 = .ok (.iconst 0, 1) := by decide +kernel
theorem dX12_text_231 : decode cX12_text 231 = .ok (.istore_n 3, 1) := by decide +kernel
theorem dX12_text_232 : decode cX12_text 232 = .ok (.iload_n 3, 1) := by decide +kernel
theorem dX12_text_233 : decode cX12_text 233 = .ok (.bipush 48, 2) := by decide +kernel
theorem dX12_text_235 : decode cX12_text 235 = .ok (.if_icmp .ge 21, 3) := by decide +kernel
theorem dX12_text_238 : decode cX12_text 238 = .ok (.aload_n 0, 1) := by decide +kernel
theorem dX12_text_239 : decode cX12_text 239 = .ok (.getfield 40, 3) := by decide +kernel
theorem dX12_text_242 : decode cX12_text 242 = .ok (.iload_n 3, 1) := by decide +kernel
theorem dX12_text_243 : decode cX12_text 243 = .ok (.aload_n 0, 1) := by decide +kernel
theorem dX12_text_244 : decode cX12_text 244 = .ok (.getfield 43, 3) := by decide +kernel
theorem dX12_text_247 : decode cX12_text 247 = .ok (.iload_n 3, 1) := by decide +kernel
theorem dX12_text_248 : decode cX12_text 248 = .ok (.iaload, 1) := by decide +kernel
theorem dX12_text_249 : decode cX12_text 249 = .ok (.iastore, 1) := by decide +kernel
theorem dX12_text_250 : decode cX12_text 250 = .ok (.iinc 3 1, 3) := by decide +kernel
theorem dX12_text_253 : decode cX12_text 253 = .ok (.goto (-21), 3) := by decide +kernel
theorem dX12_text_256 : decode cX12_text 256 = .ok (.iconst 0, 1) := by decide +kernel
theorem dX12_text_257 : decode cX12_text 257 = .ok (.istore_n 3, 1) := by decide +kernel
theorem dX12_text_258 : decode cX12_text 258 = .ok (.iload_n 3, 1) := by decide +kernel
theorem dX12_text_259 : decode cX12_text 259 = .ok (.bipush 8, 2) := by decide +kernel
theorem dX12_text_261 : decode cX12_text 261 = .ok (.if_icmp .ge 21, 3) := by decide +kernel
theorem dX12_text_264 : decode cX12_text 264 = .ok (.aload_n 0, 1) := by decide +kernel
theorem dX12_text_265 : decode cX12_text 265 = .ok (.getfield 46, 3) := by decide +kernel
theorem dX12_text_268 : decode cX12_text 268 = .ok (.iload_n 3, 1) := by decide +kernel
theorem dX12_text_269 : decode cX12_text 269 = .ok (.aload_n 0, 1) := by decide +kernel
theorem dX12_text_270 : decode cX12_text 270 = .ok (.getfield 49, 3) := by decide +kernel
theorem dX12_text_273 : decode cX12_text 273 = .ok (.iload_n 3, 1) := by decide +kernel
theorem dX12_text_274 : decode cX12_text 274 = .ok (.iaload, 1) := by decide +kernel
theorem dX12_text_275 : decode cX12_text 275 = .ok (.iastore, 1) := by decide +kernel
theorem dX12_text_276 : decode cX12_text 276 = .ok (.iinc 3 1, 3) := by decide +kernel
theorem dX12_text_279 : decode cX12_text 279 = .ok (.goto (-21), 3) := by decide +kernel
theorem dX12_text_282 : decode cX12_text 282 = .ok (.iconst 0, 1) := by decide +kernel
theorem dX12_text_283 : decode cX12_text 283 = .ok (.istore_n 3, 1) := by decide +kernel
theorem dX12_text_284 : decode cX12_text 284 = .ok (.iload_n 3, 1) := by decide +kernel
theorem dX12_text_285 : decode cX12_text 285 = .ok (.sipush 208, 3) := by decide +kernel
theorem dX12_text_288 : decode cX12_text 288 = .ok (.if_icmp .ge 16, 3) := by decide +kernel
theorem dX12_text_291 : decode cX12_text 291 = .ok (.aload_n 0, 1) := by decide +kernel
theorem dX12_text_292 : decode cX12_text 292 = .ok (.getfield 58, 3) := by decide +kernel
theorem dX12_text_295 : decode cX12_text 295 = .ok (.iload_n 3, 1) := by decide +kernel
theorem dX12_text_296 : decode cX12_text 296 = .ok (.iconst 0, 1) := by decide +kernel
theorem dX12_text_297 : decode cX12_text 297 = .ok (.iastore, 1) := by decide +kernel
theorem dX12_text_298 : decode cX12_text 298 = .ok (.iinc 3 1, 3) := by decide +kernel
theorem dX12_text_301 : decode cX12_text 301 = .ok (.goto (-17), 3) := by decide +kernel
theorem dX12_text_304 : decode cX12_text 304 = .ok (.iconst 0, 1) := by decide +kernel
theorem dX12_text_305 : decode cX12_text 305 = .ok (.istore_n 3, 1) := by decide +kernel
theorem dX12_text_306 : decode cX12_text 306 = .ok (.iload_n 3, 1) := by decide +kernel
theorem dX12_text_307 : decode cX12_text 307 = .ok (.iconst 2, 1) := by decide +kernel
theorem dX12_text_308 : decode cX12_text 308 = .ok (.aload_n 0, 1) := by decide +kernel
theorem dX12_text_309 : decode cX12_text 309 = .ok (.getfield 286, 3) := by decide +kernel
theorem dX12_text_312 : decode cX12_text 312 = .ok (.imul, 1) := by decide +kernel
theorem dX12_text_313 : decode cX12_text 313 = .ok (.if_icmp .ge 24, 3) := by decide +kernel
theorem dX12_text_316 : decode cX12_text 316 = .ok (.aload_n 0, 1) := by decide +kernel
theorem dX12_text_317 : decode cX12_text 317 = .ok (.getfield 58, 3) := by decide +kernel
theorem dX12_text_320 : decode cX12_text 320 = .ok (.bipush 16, 2) := by decide +kernel
theorem dX12_text_322 : decode cX12_text 322 = .ok (.iload_n 3, 1) := by decide +kernel
theorem dX12_text_323 : decode cX12_text 323 = .ok (.iadd, 1) := by decide +kernel
theorem dX12_text_324 : decode cX12_text 324 = .ok (.aload_n 0, 1) := by decide +kernel
theorem dX12_text_325 : decode cX12_text 325 = .ok (.getfield 46, 3) := by decide +kernel
theorem dX12_text_328 : decode cX12_text 328 = .ok (.iload_n 3, 1) := by decide +kernel
theorem dX12_text_329 : decode cX12_text 329 = .ok (.iaload, 1) := by decide +kernel
theorem dX12_text_330 : decode cX12_text 330 = .ok (.iastore, 1) := by decide +kernel
theorem dX12_text_331 : decode cX12_text 331 = .ok (.iinc 3 1, 3) := by decide +kernel
theorem dX12_text_334 : decode cX12_text 334 = .ok (.goto (-28), 3) := by decide +kernel
theorem dX12_text_337 : decode cX12_text 337 = .ok (.iconst 0, 1) := by decide +kernel
theorem dX12_text_338 : decode cX12_text 338 = .ok (.istore_n 3, 1) := by decide +kernel
theorem dX12_text_339 : decode cX12_text 339 = .ok (.iload_n 3, 1) := by decide +kernel
theorem dX12_text_340 : decode cX12_text 340 = .ok (.aload_n 0, 1) := by decide +kernel
theorem dX12_text_341 : decode cX12_text 341 = .ok (.getfield 283, 3) := by decide +kernel
theorem dX12_text_344 : decode cX12_text 344 = .ok (.if_icmp .ge 31, 3) := by decide +kernel
theorem dX12_text_347 : decode cX12_text 347 = .ok (.aload_n 0, 1) := by decide +kernel
theorem dX12_text_348 : decode cX12_text 348 = .ok (.getfield 58, 3) := by decide +kernel
theorem dX12_text_351 : decode cX12_text 351 = .ok (.bipush 24, 2) := by decide +kernel
theorem dX12_text_353 : decode cX12_text 353 = .ok (.dup2, 1) := by decide +kernel
theorem dX12_text_354 : decode cX12_text 354 = .ok (.iaload, 1) := by decide +kernel
theorem dX12_text_355 : decode cX12_text 355 = .ok (.aload_n 0, 1) := by decide +kernel
theorem dX12_text_356 : decode cX12_text 356 = .ok (.getfield 40, 3) := by decide +kernel
theorem dX12_text_359 : decode cX12_text 359 = .ok (.iconst 4, 1) := by decide +kernel
theorem dX12_text_360 : decode cX12_text 360 = .ok (.iload_n 3, 1) := by decide +kernel
theorem dX12_text_361 : decode cX12_text 361 = .ok (.imul, 1) := by decide +kernel
theorem dX12_text_362 : decode cX12_text 362 = .ok (.iconst 3, 1) := by decide +kernel
theorem dX12_text_363 : decode cX12_text 363 = .ok (.iadd, 1) := by decide +kernel
theorem dX12_text_364 : decode cX12_text 364 = .ok (.iaload, 1) := by decide +kernel
theorem dX12_text_365 : decode cX12_text 365 = .ok (.iload_n 3, 1) := by decide +kernel
theorem dX12_text_366 : decode cX12_text 366 = .ok (.ishl, 1) := by decide +kernel
theorem dX12_text_367 : decode cX12_text 367 = .ok (.ior, 1) := by decide +kernel
theorem dX12_text_368 : decode cX12_text 368 = .ok (.iastore, 1) := by decide +kernel
theorem dX12_text_369 : decode cX12_text 369 = .ok (.iinc 3 1, 3) := by decide +kernel
theorem dX12_text_372 : decode cX12_text 372 = .ok (.goto (-33), 3) := by decide +kernel
theorem dX12_text_375 : decode cX12_text 375 = .ok (.aload_n 0, 1) := by decide +kernel
theorem dX12_text_376 : decode cX12_text 376 = .ok (.getfield 58, 3) := by decide +kernel
theorem dX12_text_379 : decode cX12_text 379 = .ok (.bipush 25, 2) := by decide +kernel
theorem dX12_text_381 : decode cX12_text 381 = .ok (.aload_n 0, 1) := by decide +kernel
theorem dX12_text_382 : decode cX12_text 382 = .ok (.getfield 37, 3) := by decide +kernel
theorem dX12_text_385 : decode cX12_text 385 = .ok (.iconst 1, 1) := by decide +kernel
theorem dX12_text_386 : decode cX12_text 386 = .ok (.iaload, 1) := by decide +kernel
theorem dX12_text_387 : decode cX12_text 387 = .ok (.iastore, 1) := by decide +kernel
theorem dX12_text_388 : decode cX12_text 388 = .ok (.aload_n 0, 1) := by decide +kernel
theorem dX12_text_389 : decode cX12_text 389 = .ok (.iconst 0, 1) := by decide +kernel
theorem dX12_text_390 : decode cX12_text 390 = .ok (.putfield 289, 3) := by decide +kernel
theorem dX12_text_393 : decode cX12_text 393 = .ok (.aload_n 0, 1) := by decide +kernel
theorem dX12_text_394 : decode cX12_text 394 = .ok (.iconst 0, 1) := by decide +kernel
theorem dX12_text_395 : decode cX12_text 395 = .ok (.putfield 292, 3) := by decide +kernel
theorem dX12_text_398 : decode cX12_text 398 = .ok (.aload_n 0, 1) := by decide +kernel
theorem dX12_text_399 : decode cX12_text 399 = .ok (.iconst 0, 1) := by decide +kernel
theorem dX12_text_400 : decode cX12_text 400 = .ok (.putfield 295, 3) := by decide +kernel
theorem dX12_text_403 : decode cX12_text 403 = .ok (.aload_n 0, 1) := by decide +kernel
theorem dX12_text_404 : decode cX12_text 404 = .ok (.getfield 283, 3) := by decide +kernel
theorem dX12_text_407 : decode cX12_text 407 = .ok (.ireturn, 1) := by decide +kernel
theorem dX12_isCorner_0 : decode cX12_isCorner 0 = .ok (.iload_n 1, 1) := by decide +kernel
theorem dX12_isCorner_1 : decode cX12_isCorner 1 = .ok (.ifCond .lt 15, 3) := by decide +kernel
theorem dX12_isCorner_4 : decode cX12_isCorner 4 = .ok (.iload_n 1, 1) := by decide +kernel
theorem dX12_isCorner_5 : decode cX12_isCorner 5 = .ok (.aload_n 0, 1) := by decide +kernel
theorem dX12_isCorner_6 : decode cX12_isCorner 6 = .ok (.getfield 280, 3) := by decide +kernel
theorem dX12_isCorner_9 : decode cX12_isCorner 9 = .ok (.if_icmp .ge 7, 3) := by decide +kernel
theorem dX12_isCorner_12 : decode cX12_isCorner 12 = .ok (.iconst 1, 1) := by decide +kernel
theorem dX12_isCorner_13 : decode cX12_isCorner 13 = .ok (.goto 4, 3) := by decide +kernel
theorem dX12_isCorner_16 : decode cX12_isCorner 16 = .ok (.iconst 0, 1) := by decide +kernel
theorem dX12_isCorner_17 : decode cX12_isCorner 17 = .ok (.ireturn, 1) := by decide +kernel
theorem dX12_isStreet_0 : decode cX12_isStreet 0 = .ok (.iload_n 1, 1) := by decide +kernel
theorem dX12_isStreet_1 : decode cX12_isStreet 1 = .ok (.ifCond .lt 15, 3) := by decide +kernel
theorem dX12_isStreet_4 : decode cX12_isStreet 4 = .ok (.iload_n 1, 1) := by decide +kernel
theorem dX12_isStreet_5 : decode cX12_isStreet 5 = .ok (.aload_n 0, 1) := by decide +kernel
theorem dX12_isStreet_6 : decode cX12_isStreet 6 = .ok (.getfield 283, 3) := by decide +kernel
theorem dX12_isStreet_9 : decode cX12_isStreet 9 = .ok (.if_icmp .ge 7, 3) := by decide +kernel
theorem dX12_isStreet_12 : decode cX12_isStreet 12 = .ok (.iconst 1, 1) := by decide +kernel
theorem dX12_isStreet_13 : decode cX12_isStreet 13 = .ok (.goto 4, 3) := by decide +kernel
theorem dX12_isStreet_16 : decode cX12_isStreet 16 = .ok (.iconst 0, 1) := by decide +kernel
theorem dX12_isStreet_17 : decode cX12_isStreet 17 = .ok (.ireturn, 1) := by decide +kernel
theorem dX12_isWalker_0 : decode cX12_isWalker 0 = .ok (.iload_n 1, 1) := by decide +kernel
theorem dX12_isWalker_1 : decode cX12_isWalker 1 = .ok (.ifCond .lt 15, 3) := by decide +kernel
theorem dX12_isWalker_4 : decode cX12_isWalker 4 = .ok (.iload_n 1, 1) := by decide +kernel
theorem dX12_isWalker_5 : decode cX12_isWalker 5 = .ok (.aload_n 0, 1) := by decide +kernel
theorem dX12_isWalker_6 : decode cX12_isWalker 6 = .ok (.getfield 286, 3) := by decide +kernel
theorem dX12_isWalker_9 : decode cX12_isWalker 9 = .ok (.if_icmp .ge 7, 3) := by decide +kernel
theorem dX12_isWalker_12 : decode cX12_isWalker 12 = .ok (.iconst 1, 1) := by decide +kernel
theorem dX12_isWalker_13 : decode cX12_isWalker 13 = .ok (.goto 4, 3) := by decide +kernel
theorem dX12_isWalker_16 : decode cX12_isWalker 16 = .ok (.iconst 0, 1) := by decide +kernel
theorem dX12_isWalker_17 : decode cX12_isWalker 17 = .ok (.ireturn, 1) := by decide +kernel
set_option maxRecDepth 20000 in
theorem ggX12_corner_X12_isCorner : GoodIn wsX12_corner wsX12_isCorner := goodIn_r _ [8, 9, 22, 23, 24, 25, 26, 27, 28, 29, 30, 31, 32, 33, 34, 35, 36, 37, 38, 39, 40, 41, 42, 43, 44, 45, 46, 47, 48, 49, 50, 51, 52, 53, 54, 55, 56, 57, 58, 59, 60, 61, 62, 63, 64, 65, 66, 67, 68, 69, 70, 71, 72, 73, 74, 75] (by decide +kernel) (by decide +kernel)
set_option maxRecDepth 20000 in
theorem gX12_corner_X12_isCorner : GoodIn wsX12_corner (wsV RX12 354 RX12 yX12_isCorner wsX12_isCorner) := goodIn_app (goodIn_of _ (by decide +kernel)) ggX12_corner_X12_isCorner
set_option maxRecDepth 20000 in
theorem ggX12_corner_X12_isIn : GoodIn wsX12_corner wsX12_isIn := goodIn_r _ [12] (by decide +kernel) (by decide +kernel)
set_option maxRecDepth 20000 in
theorem gX12_corner_X12_isIn : GoodIn wsX12_corner (va_wsS RX12 211 yX12_isIn wsX12_isIn) := goodIn_app (goodIn_of _ (by decide +kernel)) ggX12_corner_X12_isIn
set_option maxRecDepth 20000 in
theorem ggX12_corner_X12_openAt : GoodIn wsX12_corner wsX12_openAt := goodIn_r _ [16, 17, 18, 19, 20, 7, 21, 22, 23, 24, 25, 26, 27, 28, 29, 30, 31, 32, 33, 34, 35, 36, 37, 38, 39, 40, 41, 42, 43, 44, 45, 46, 47, 48, 49, 50, 51, 52, 53, 54, 55, 56, 57, 58, 59, 60, 61, 62, 63, 64, 65, 66, 67, 68, 69, 70, 71, 72, 73, 74, 75] (by decide +kernel) (by decide +kernel)
set_option maxRecDepth 20000 in
theorem gX12_corner_X12_openAt : GoodIn wsX12_corner (wsV RX12 298 RX12 yX12_openAt wsX12_openAt) := goodIn_app (goodIn_of _ (by decide +kernel)) ggX12_corner_X12_openAt
theorem dX12_corner_0 : decode cX12_corner 0 = .ok (.aload_n 0, 1) := by decide +kernel
theorem dX12_corner_1 : decode cX12_corner 1 = .ok (.iconst 0, 1) := by decide +kernel
theorem dX12_corner_2 : decode cX12_corner 2 = .ok (.putfield 90, 3) := by decide +kernel
theorem dX12_corner_5 : decode cX12_corner 5 = .ok (.aload_n 0, 1) := by decide +kernel
theorem dX12_corner_6 : decode cX12_corner 6 = .ok (.iload_n 1, 1) := by decide +kernel
theorem dX12_corner_7 : decode cX12_corner 7 = .ok (.invokevirtual 354, 3) := by decide +kernel
theorem dX12_corner_10 : decode cX12_corner 10 = .ok (.ifCond .eq 15, 3) := by decide +kernel
theorem dX12_corner_13 : decode cX12_corner 13 = .ok (.iload_n 2, 1) := by decide +kernel
theorem dX12_corner_14 : decode cX12_corner 14 = .ok (.i2l, 1) := by decide +kernel
theorem dX12_corner_15 : decode cX12_corner 15 = .ok (.lconst 0, 1) := by decide +kernel
theorem dX12_corner_16 : decode cX12_corner 16 = .ok (.ldc2_w 261, 3) := by decide +kernel
theorem dX12_corner_19 : decode cX12_corner 19 = .ok (.invokestatic 211, 3) := by decide +kernel
theorem dX12_corner_22 : decode cX12_corner 22 = .ok (.ifCond .ne 5, 3) := by decide +kernel
theorem dX12_corner_25 : decode cX12_corner 25 = .ok (.iconst (-1), 1) := by decide +kernel
theorem dX12_corner_26 : decode cX12_corner 26 = .ok (.ireturn, 1) := by decide +kernel
theorem dX12_corner_27 : decode cX12_corner 27 = .ok (.iload_n 2, 1) := by decide +kernel
theorem dX12_corner_28 : decode cX12_corner 28 = .ok (.iconst 2, 1) := by decide +kernel
theorem dX12_corner_29 : decode cX12_corner 29 = .ok (.if_icmp .ne 18, 3) := by decide +kernel
theorem dX12_corner_32 : decode cX12_corner 32 = .ok (.aload_n 0, 1) := by decide +kernel
theorem dX12_corner_33 : decode cX12_corner 33 = .ok (.aload_n 0, 1) := by decide +kernel
theorem dX12_corner_34 : decode cX12_corner 34 = .ok (.getfield 58, 3) := by decide +kernel
theorem dX12_corner_37 : decode cX12_corner 37 = .ok (.bipush 24, 2) := by decide +kernel
theorem dX12_corner_39 : decode cX12_corner 39 = .ok (.iaload, 1) := by decide +kernel
theorem dX12_corner_40 : decode cX12_corner 40 = .ok (.iload_n 1, 1) := by decide +kernel
theorem dX12_corner_41 : decode cX12_corner 41 = .ok (.invokevirtual 298, 3) := by decide +kernel
theorem dX12_corner_44 : decode cX12_corner 44 = .ok (.goto 13, 3) := by decide +kernel
theorem dX12_corner_47 : decode cX12_corner 47 = .ok (.aload_n 0, 1) := by decide +kernel
theorem dX12_corner_48 : decode cX12_corner 48 = .ok (.getfield 58, 3) := by decide +kernel
theorem dX12_corner_51 : decode cX12_corner 51 = .ok (.iconst 2, 1) := by decide +kernel
theorem dX12_corner_52 : decode cX12_corner 52 = .ok (.iload_n 1, 1) := by decide +kernel
theorem dX12_corner_53 : decode cX12_corner 53 = .ok (.imul, 1) := by decide +kernel
theorem dX12_corner_54 : decode cX12_corner 54 = .ok (.iload_n 2, 1) := by decide +kernel
theorem dX12_corner_55 : decode cX12_corner 55 = .ok (.iadd, 1) := by decide +kernel
theorem dX12_corner_56 : decode cX12_corner 56 = .ok (.iaload, 1) := by decide +kernel
theorem dX12_corner_57 : decode cX12_corner 57 = .ok (.ireturn, 1) := by decide +kernel
set_option maxRecDepth 20000 in
theorem ggX12_street_X12_isStreet : GoodIn wsX12_street wsX12_isStreet := goodIn_r _ [9, 10, 14, 15, 16, 17, 18, 19, 20, 21, 22, 23, 24, 25, 26, 27, 28, 29, 30, 31, 32, 33, 34, 35, 36, 37, 38, 39, 40, 41, 42, 43, 44, 45, 46, 47, 48, 49, 50, 51, 52, 53, 54, 55, 56, 57, 58, 59, 60, 61, 62, 63, 64, 65, 66, 67] (by decide +kernel) (by decide +kernel)
set_option maxRecDepth 20000 in
theorem gX12_street_X12_isStreet : GoodIn wsX12_street (wsV RX12 357 RX12 yX12_isStreet wsX12_isStreet) := goodIn_app (goodIn_of _ (by decide +kernel)) ggX12_street_X12_isStreet
set_option maxRecDepth 20000 in
theorem ggX12_street_X12_isIn : GoodIn wsX12_street wsX12_isIn := goodIn_r _ [13] (by decide +kernel) (by decide +kernel)
set_option maxRecDepth 20000 in
theorem gX12_street_X12_isIn : GoodIn wsX12_street (va_wsS RX12 211 yX12_isIn wsX12_isIn) := goodIn_app (goodIn_of _ (by decide +kernel)) ggX12_street_X12_isIn
theorem dX12_street_0 : decode cX12_street 0 = .ok (.aload_n 0, 1) := by decide +kernel
theorem dX12_street_1 : decode cX12_street 1 = .ok (.iconst 0, 1) := by decide +kernel
theorem dX12_street_2 : decode cX12_street 2 = .ok (.putfield 90, 3) := by decide +kernel
theorem dX12_street_5 : decode cX12_street 5 = .ok (.aload_n 0, 1) := by decide +kernel
theorem dX12_street_6 : decode cX12_street 6 = .ok (.iload_n 1, 1) := by decide +kernel
theorem dX12_street_7 : decode cX12_street 7 = .ok (.invokevirtual 357, 3) := by decide +kernel
theorem dX12_street_10 : decode cX12_street 10 = .ok (.ifCond .eq 15, 3) := by decide +kernel
theorem dX12_street_13 : decode cX12_street 13 = .ok (.iload_n 2, 1) := by decide +kernel
theorem dX12_street_14 : decode cX12_street 14 = .ok (.i2l, 1) := by decide +kernel
theorem dX12_street_15 : decode cX12_street 15 = .ok (.lconst 0, 1) := by decide +kernel
theorem dX12_street_16 : decode cX12_street 16 = .ok (.ldc2_w 360, 3) := by decide +kernel
theorem dX12_street_19 : decode cX12_street 19 = .ok (.invokestatic 211, 3) := by decide +kernel
theorem dX12_street_22 : decode cX12_street 22 = .ok (.ifCond .ne 5, 3) := by decide +kernel
theorem dX12_street_25 : decode cX12_street 25 = .ok (.iconst (-1), 1) := by decide +kernel
theorem dX12_street_26 : decode cX12_street 26 = .ok (.ireturn, 1) := by decide +kernel
theorem dX12_street_27 : decode cX12_street 27 = .ok (.iload_n 2, 1) := by decide +kernel
theorem dX12_street_28 : decode cX12_street 28 = .ok (.iconst 3, 1) := by decide +kernel
theorem dX12_street_29 : decode cX12_street 29 = .ok (.if_icmp .ne 17, 3) := by decide +kernel
theorem dX12_street_32 : decode cX12_street 32 = .ok (.aload_n 0, 1) := by decide +kernel
theorem dX12_street_33 : decode cX12_street 33 = .ok (.getfield 58, 3) := by decide +kernel
theorem dX12_street_36 : decode cX12_street 36 = .ok (.bipush 24, 2) := by decide +kernel
theorem dX12_street_38 : decode cX12_street 38 = .ok (.iaload, 1) := by decide +kernel
theorem dX12_street_39 : decode cX12_street 39 = .ok (.iload_n 1, 1) := by decide +kernel
theorem dX12_street_40 : decode cX12_street 40 = .ok (.ishr, 1) := by decide +kernel
theorem dX12_street_41 : decode cX12_street 41 = .ok (.iconst 1, 1) := by decide +kernel
theorem dX12_street_42 : decode cX12_street 42 = .ok (.iand, 1) := by decide +kernel
theorem dX12_street_43 : decode cX12_street 43 = .ok (.goto 13, 3) := by decide +kernel
theorem dX12_street_46 : decode cX12_street 46 = .ok (.aload_n 0, 1) := by decide +kernel
theorem dX12_street_47 : decode cX12_street 47 = .ok (.getfield 40, 3) := by decide +kernel
theorem dX12_street_50 : decode cX12_street 50 = .ok (.iconst 4, 1) := by decide +kernel
theorem dX12_street_51 : decode cX12_street 51 = .ok (.iload_n 1, 1) := by decide +kernel
theorem dX12_street_52 : decode cX12_street 52 = .ok (.imul, 1) := by decide +kernel
theorem dX12_street_53 : decode cX12_street 53 = .ok (.iload_n 2, 1) := by decide +kernel
theorem dX12_street_54 : decode cX12_street 54 = .ok (.iadd, 1) := by decide +kernel
theorem dX12_street_55 : decode cX12_street 55 = .ok (.iaload, 1) := by decide +kernel
theorem dX12_street_56 : decode cX12_street 56 = .ok (.ireturn, 1) := by decide +kernel
set_option maxRecDepth 20000 in
theorem ggX12_walker_X12_isWalker : GoodIn wsX12_walker wsX12_isWalker := goodIn_r _ [7, 8, 12, 13, 14, 15, 16, 17, 18, 19, 20, 21, 22, 23, 24, 25, 26, 27, 28, 29, 30, 31, 32, 33, 34, 35, 36, 37, 38, 39, 40, 41, 42, 43, 44, 45, 46, 47, 48, 49, 50, 51, 52, 53, 54, 55, 56, 57, 58, 59, 60, 61, 62, 63, 64, 65] (by decide +kernel) (by decide +kernel)
set_option maxRecDepth 20000 in
theorem gX12_walker_X12_isWalker : GoodIn wsX12_walker (wsV RX12 362 RX12 yX12_isWalker wsX12_isWalker) := goodIn_app (goodIn_of _ (by decide +kernel)) ggX12_walker_X12_isWalker
set_option maxRecDepth 20000 in
theorem ggX12_walker_X12_isIn : GoodIn wsX12_walker wsX12_isIn := goodIn_r _ [11] (by decide +kernel) (by decide +kernel)
set_option maxRecDepth 20000 in
theorem gX12_walker_X12_isIn : GoodIn wsX12_walker (va_wsS RX12 211 yX12_isIn wsX12_isIn) := goodIn_app (goodIn_of _ (by decide +kernel)) ggX12_walker_X12_isIn
theorem dX12_walker_0 : decode cX12_walker 0 = .ok (.aload_n 0, 1) := by decide +kernel
theorem dX12_walker_1 : decode cX12_walker 1 = .ok (.aload_n 0, 1) := by decide +kernel
theorem dX12_walker_2 : decode cX12_walker 2 = .ok (.iload_n 1, 1) := by decide +kernel
theorem dX12_walker_3 : decode cX12_walker 3 = .ok (.invokevirtual 362, 3) := by decide +kernel
theorem dX12_walker_6 : decode cX12_walker 6 = .ok (.ifCond .eq 17, 3) := by decide +kernel
theorem dX12_walker_9 : decode cX12_walker 9 = .ok (.iload_n 2, 1) := by decide +kernel
theorem dX12_walker_10 : decode cX12_walker 10 = .ok (.i2l, 1) := by decide +kernel
theorem dX12_walker_11 : decode cX12_walker 11 = .ok (.lconst 0, 1) := by decide +kernel
theorem dX12_walker_12 : decode cX12_walker 12 = .ok (.lconst 1, 1) := by decide +kernel
theorem dX12_walker_13 : decode cX12_walker 13 = .ok (.invokestatic 211, 3) := by decide +kernel
theorem dX12_walker_16 : decode cX12_walker 16 = .ok (.ifCond .eq 7, 3) := by decide +kernel
theorem dX12_walker_19 : decode cX12_walker 19 = .ok (.iconst 0, 1) := by decide +kernel
theorem dX12_walker_20 : decode cX12_walker 20 = .ok (.goto 4, 3) := by decide +kernel
theorem dX12_walker_23 : decode cX12_walker 23 = .ok (.iconst 1, 1) := by decide +kernel
theorem dX12_walker_24 : decode cX12_walker 24 = .ok (.putfield 90, 3) := by decide +kernel
theorem dX12_walker_27 : decode cX12_walker 27 = .ok (.aload_n 0, 1) := by decide +kernel
theorem dX12_walker_28 : decode cX12_walker 28 = .ok (.getfield 90, 3) := by decide +kernel
theorem dX12_walker_31 : decode cX12_walker 31 = .ok (.ifCond .le 7, 3) := by decide +kernel
theorem dX12_walker_34 : decode cX12_walker 34 = .ok (.iconst 0, 1) := by decide +kernel
theorem dX12_walker_35 : decode cX12_walker 35 = .ok (.goto 16, 3) := by decide +kernel
theorem dX12_walker_38 : decode cX12_walker 38 = .ok (.aload_n 0, 1) := by decide +kernel
theorem dX12_walker_39 : decode cX12_walker 39 = .ok (.getfield 58, 3) := by decide +kernel
theorem dX12_walker_42 : decode cX12_walker 42 = .ok (.bipush 16, 2) := by decide +kernel
theorem dX12_walker_44 : decode cX12_walker 44 = .ok (.iconst 2, 1) := by decide +kernel
theorem dX12_walker_45 : decode cX12_walker 45 = .ok (.iload_n 1, 1) := by decide +kernel
theorem dX12_walker_46 : decode cX12_walker 46 = .ok (.imul, 1) := by decide +kernel
theorem dX12_walker_47 : decode cX12_walker 47 = .ok (.iadd, 1) := by decide +kernel
theorem dX12_walker_48 : decode cX12_walker 48 = .ok (.iload_n 2, 1) := by decide +kernel
theorem dX12_walker_49 : decode cX12_walker 49 = .ok (.iadd, 1) := by decide +kernel
theorem dX12_walker_50 : decode cX12_walker 50 = .ok (.iaload, 1) := by decide +kernel
theorem dX12_walker_51 : decode cX12_walker 51 = .ok (.ireturn, 1) := by decide +kernel
set_option maxRecDepth 20000 in
theorem ggX12_law_X12_isIn : GoodIn wsX12_law wsX12_isIn := goodIn_r _ [7] (by decide +kernel) (by decide +kernel)
set_option maxRecDepth 20000 in
theorem gX12_law_X12_isIn : GoodIn wsX12_law (va_wsS RX12 211 yX12_isIn wsX12_isIn) := goodIn_app (goodIn_of _ (by decide +kernel)) ggX12_law_X12_isIn
theorem dX12_law_0 : decode cX12_law 0 = .ok (.aload_n 0, 1) := by decide +kernel
theorem dX12_law_1 : decode cX12_law 1 = .ok (.iconst 0, 1) := by decide +kernel
theorem dX12_law_2 : decode cX12_law 2 = .ok (.putfield 90, 3) := by decide +kernel
theorem dX12_law_5 : decode cX12_law 5 = .ok (.iload_n 1, 1) := by decide +kernel
theorem dX12_law_6 : decode cX12_law 6 = .ok (.iconst (-1), 1) := by decide +kernel
theorem dX12_law_7 : decode cX12_law 7 = .ok (.if_icmp .eq 21, 3) := by decide +kernel
theorem dX12_law_10 : decode cX12_law 10 = .ok (.iload_n 1, 1) := by decide +kernel
theorem dX12_law_11 : decode cX12_law 11 = .ok (.i2l, 1) := by decide +kernel
theorem dX12_law_12 : decode cX12_law 12 = .ok (.lconst 0, 1) := by decide +kernel
theorem dX12_law_13 : decode cX12_law 13 = .ok (.aload_n 0, 1) := by decide +kernel
theorem dX12_law_14 : decode cX12_law 14 = .ok (.getfield 272, 3) := by decide +kernel
theorem dX12_law_17 : decode cX12_law 17 = .ok (.iconst 1, 1) := by decide +kernel
theorem dX12_law_18 : decode cX12_law 18 = .ok (.isub, 1) := by decide +kernel
theorem dX12_law_19 : decode cX12_law 19 = .ok (.i2l, 1) := by decide +kernel
theorem dX12_law_20 : decode cX12_law 20 = .ok (.invokestatic 211, 3) := by decide +kernel
theorem dX12_law_23 : decode cX12_law 23 = .ok (.ifCond .ne 5, 3) := by decide +kernel
theorem dX12_law_26 : decode cX12_law 26 = .ok (.iconst 0, 1) := by decide +kernel
theorem dX12_law_27 : decode cX12_law 27 = .ok (.ireturn, 1) := by decide +kernel
theorem dX12_law_28 : decode cX12_law 28 = .ok (.aload_n 0, 1) := by decide +kernel
theorem dX12_law_29 : decode cX12_law 29 = .ok (.iload_n 1, 1) := by decide +kernel
theorem dX12_law_30 : decode cX12_law 30 = .ok (.putfield 64, 3) := by decide +kernel
theorem dX12_law_33 : decode cX12_law 33 = .ok (.iconst 1, 1) := by decide +kernel
theorem dX12_law_34 : decode cX12_law 34 = .ok (.ireturn, 1) := by decide +kernel
set_option maxRecDepth 20000 in
theorem ggX12_council_X12_isIn : GoodIn wsX12_council wsX12_isIn := goodIn_r _ [7] (by decide +kernel) (by decide +kernel)
set_option maxRecDepth 20000 in
theorem gX12_council_X12_isIn : GoodIn wsX12_council (va_wsS RX12 211 yX12_isIn wsX12_isIn) := goodIn_app (goodIn_of _ (by decide +kernel)) ggX12_council_X12_isIn
theorem dX12_council_0 : decode cX12_council 0 = .ok (.aload_n 0, 1) := by decide +kernel
theorem dX12_council_1 : decode cX12_council 1 = .ok (.iconst 0, 1) := by decide +kernel
theorem dX12_council_2 : decode cX12_council 2 = .ok (.putfield 90, 3) := by decide +kernel
theorem dX12_council_5 : decode cX12_council 5 = .ok (.iload_n 1, 1) := by decide +kernel
theorem dX12_council_6 : decode cX12_council 6 = .ok (.i2l, 1) := by decide +kernel
theorem dX12_council_7 : decode cX12_council 7 = .ok (.lconst 0, 1) := by decide +kernel
theorem dX12_council_8 : decode cX12_council 8 = .ok (.ldc2_w 365, 3) := by decide +kernel
theorem dX12_council_11 : decode cX12_council 11 = .ok (.invokestatic 211, 3) := by decide +kernel
theorem dX12_council_14 : decode cX12_council 14 = .ok (.ifCond .eq 11, 3) := by decide +kernel
theorem dX12_council_17 : decode cX12_council 17 = .ok (.iload_n 1, 1) := by decide +kernel
theorem dX12_council_18 : decode cX12_council 18 = .ok (.aload_n 0, 1) := by decide +kernel
theorem dX12_council_19 : decode cX12_council 19 = .ok (.getfield 68, 3) := by decide +kernel
theorem dX12_council_22 : decode cX12_council 22 = .ok (.if_icmp .ne 5, 3) := by decide +kernel
theorem dX12_council_25 : decode cX12_council 25 = .ok (.iconst 0, 1) := by decide +kernel
theorem dX12_council_26 : decode cX12_council 26 = .ok (.ireturn, 1) := by decide +kernel
theorem dX12_council_27 : decode cX12_council 27 = .ok (.aload_n 0, 1) := by decide +kernel
theorem dX12_council_28 : decode cX12_council 28 = .ok (.iload_n 1, 1) := by decide +kernel
theorem dX12_council_29 : decode cX12_council 29 = .ok (.putfield 68, 3) := by decide +kernel
theorem dX12_council_32 : decode cX12_council 32 = .ok (.iconst 1, 1) := by decide +kernel
theorem dX12_council_33 : decode cX12_council 33 = .ok (.ireturn, 1) := by decide +kernel
set_option maxRecDepth 20000 in
theorem ggX12_day_X12_remember : GoodIn wsX12_day wsX12_remember := goodIn_r _ [8, 9, 10, 3, 219, 220, 221, 222, 223, 224, 225, 226, 227, 228, 229, 230, 231, 232, 233, 234, 235, 236, 237, 238, 239, 240, 241, 242, 243, 244, 245, 246, 247, 248, 249, 250, 251, 252, 253, 254, 255, 256, 257, 258, 259, 260, 261, 262, 263, 264, 265, 266, 267, 268, 269, 270, 271, 272] (by decide +kernel) (by decide +kernel)
set_option maxRecDepth 20000 in
theorem gX12_day_X12_remember : GoodIn wsX12_day (wsV RX12 367 RX12 yX12_remember wsX12_remember) := goodIn_app (goodIn_of _ (by decide +kernel)) ggX12_day_X12_remember
set_option maxRecDepth 20000 in
theorem ggX12_day_X12_goDay : GoodIn wsX12_day wsX12_goDay := goodIn_r _ [14, 15, 16, 17, 18, 19, 20, 21, 22, 23, 24, 25, 26, 27, 7, 28, 29, 30, 31, 2, 32, 33, 34, 35, 36, 37, 38, 39, 40, 41, 42, 43, 44, 45, 46, 47, 48, 49, 50, 51, 52, 53, 54, 55, 56, 57, 58, 59, 60, 61, 62, 63, 64, 65, 66, 67, 68, 69, 70, 71, 72, 73, 74, 75, 76, 77, 78, 79, 80, 81, 82, 83, 84, 85, 86, 87, 88, 89, 90, 91, 92, 93, 94, 95, 96, 97, 98, 99, 100, 101, 102, 103, 104, 105, 106, 107, 108, 109, 110, 111, 112, 113, 114, 115, 116, 117, 118, 119, 120, 121, 122, 123, 124, 125, 126, 127, 128, 129, 130, 131, 132, 133, 134, 135, 136, 137, 138, 139, 140, 141, 142, 143, 144, 145, 146, 147, 148, 149, 150, 151, 152, 153, 154, 155, 156, 157, 158, 159, 160, 161, 162, 163, 164, 165, 166, 167, 168, 169, 170, 171, 172, 173, 174, 175, 176, 177, 178, 179, 180, 181, 182, 183, 184, 185, 186, 187, 188, 189, 190, 191, 192, 193, 194, 195, 196, 197, 198, 199, 200, 201, 202, 203, 204, 205, 206, 207, 208, 209, 210, 211, 212, 213, 214, 215, 216, 217, 218, 219, 220, 221, 222, 223, 224, 225, 226, 227, 228, 229, 230, 231, 232, 233, 234, 235, 236, 237, 238, 239, 240, 241, 242, 243, 244, 245, 246, 247, 248, 249, 250, 251, 252, 253, 254, 255, 256, 257, 258, 259, 260, 261, 262, 263, 264, 265, 266, 267, 268, 269, 270, 271, 272] (by decide +kernel) (by decide +kernel)
set_option maxRecDepth 20000 in
theorem gX12_day_X12_goDay : GoodIn wsX12_day (wsV RX12 370 RX12 yX12_goDay wsX12_goDay) := goodIn_app (goodIn_of _ (by decide +kernel)) ggX12_day_X12_goDay
theorem dX12_day_0 : decode cX12_day 0 = .ok (.aload_n 0, 1) := by decide +kernel
theorem dX12_day_1 : decode cX12_day 1 = .ok (.iconst 0, 1) := by decide +kernel
theorem dX12_day_2 : decode cX12_day 2 = .ok (.putfield 90, 3) := by decide +kernel
theorem dX12_day_5 : decode cX12_day 5 = .ok (.aload_n 0, 1) := by decide +kernel
theorem dX12_day_6 : decode cX12_day 6 = .ok (.getfield 283, 3) := by decide +kernel
theorem dX12_day_9 : decode cX12_day 9 = .ok (.ifCond .eq 16, 3) := by decide +kernel
theorem dX12_day_12 : decode cX12_day 12 = .ok (.aload_n 0, 1) := by decide +kernel
theorem dX12_day_13 : decode cX12_day 13 = .ok (.getfield 58, 3) := by decide +kernel
theorem dX12_day_16 : decode cX12_day 16 = .ok (.bipush 26, 2) := by decide +kernel
theorem dX12_day_18 : decode cX12_day 18 = .ok (.iaload, 1) := by decide +kernel
theorem dX12_day_19 : decode cX12_day 19 = .ok (.sipush 999, 3) := by decide +kernel
theorem dX12_day_22 : decode cX12_day 22 = .ok (.if_icmp .ne 5, 3) := by decide +kernel
theorem dX12_day_25 : decode cX12_day 25 = .ok (.iconst (-1), 1) := by decide +kernel
theorem dX12_day_26 : decode cX12_day 26 = .ok (.ireturn, 1) := by decide +kernel
theorem dX12_day_27 : decode cX12_day 27 = .ok (.aload_n 0, 1) := by decide +kernel
theorem dX12_day_28 : decode cX12_day 28 = .ok (.invokevirtual 367, 3) := by decide +kernel
theorem dX12_day_31 : decode cX12_day 31 = .ok (.aload_n 0, 1) := by decide +kernel
theorem dX12_day_32 : decode cX12_day 32 = .ok (.aload_n 0, 1) := by decide +kernel
theorem dX12_day_33 : decode cX12_day 33 = .ok (.getfield 58, 3) := by decide +kernel
theorem dX12_day_36 : decode cX12_day 36 = .ok (.invokevirtual 370, 3) := by decide +kernel
theorem dX12_day_39 : decode cX12_day 39 = .ok (.ireturn, 1) := by decide +kernel
set_option maxRecDepth 20000 in
theorem ggX12_wall_X12_isStreet : GoodIn wsX12_wall wsX12_isStreet := goodIn_r _ [7, 8, 19, 20, 21, 22, 23, 24, 25, 26, 27, 28, 29, 30, 31, 32, 33, 34, 35, 36, 37, 38, 39, 40, 41, 42, 43, 44, 45, 46, 47, 48, 49, 50, 51, 52, 53, 54, 55, 56, 57, 58, 59, 60, 61, 62, 63, 64, 65, 66, 67, 68, 69, 70, 71, 72] (by decide +kernel) (by decide +kernel)
set_option maxRecDepth 20000 in
theorem gX12_wall_X12_isStreet : GoodIn wsX12_wall (wsV RX12 357 RX12 yX12_isStreet wsX12_isStreet) := goodIn_app (goodIn_of _ (by decide +kernel)) ggX12_wall_X12_isStreet
set_option maxRecDepth 20000 in
theorem ggX12_wall_X12_pays : GoodIn wsX12_wall wsX12_pays := goodIn_r _ [12, 2, 13, 14, 15, 6, 16, 17, 18, 19, 20, 21, 22, 23, 24, 25, 26, 27, 28, 29, 30, 31, 32, 33, 34, 35, 36, 37, 38, 39, 40, 41, 42, 43, 44, 45, 46, 47, 48, 49, 50, 51, 52, 53, 54, 55, 56, 57, 58, 59, 60, 61, 62, 63, 64, 65, 66, 67, 68, 69, 70, 71, 72] (by decide +kernel) (by decide +kernel)
set_option maxRecDepth 20000 in
theorem gX12_wall_X12_pays : GoodIn wsX12_wall (wsV RX12 374 RX12 yX12_pays wsX12_pays) := goodIn_app (goodIn_of _ (by decide +kernel)) ggX12_wall_X12_pays
theorem dX12_wall_0 : decode cX12_wall 0 = .ok (.aload_n 0, 1) := by decide +kernel
theorem dX12_wall_1 : decode cX12_wall 1 = .ok (.iconst 0, 1) := by decide +kernel
theorem dX12_wall_2 : decode cX12_wall 2 = .ok (.putfield 90, 3) := by decide +kernel
theorem dX12_wall_5 : decode cX12_wall 5 = .ok (.aload_n 0, 1) := by decide +kernel
theorem dX12_wall_6 : decode cX12_wall 6 = .ok (.iload_n 1, 1) := by decide +kernel
theorem dX12_wall_7 : decode cX12_wall 7 = .ok (.invokevirtual 357, 3) := by decide +kernel
theorem dX12_wall_10 : decode cX12_wall 10 = .ok (.ifCond .eq 11, 3) := by decide +kernel
theorem dX12_wall_13 : decode cX12_wall 13 = .ok (.aload_n 0, 1) := by decide +kernel
theorem dX12_wall_14 : decode cX12_wall 14 = .ok (.iconst 3, 1) := by decide +kernel
theorem dX12_wall_15 : decode cX12_wall 15 = .ok (.invokevirtual 374, 3) := by decide +kernel
theorem dX12_wall_18 : decode cX12_wall 18 = .ok (.ifCond .ne 5, 3) := by decide +kernel
theorem dX12_wall_21 : decode cX12_wall 21 = .ok (.iconst (-1), 1) := by decide +kernel
theorem dX12_wall_22 : decode cX12_wall 22 = .ok (.ireturn, 1) := by decide +kernel
theorem dX12_wall_23 : decode cX12_wall 23 = .ok (.aload_n 0, 1) := by decide +kernel
theorem dX12_wall_24 : decode cX12_wall 24 = .ok (.getfield 58, 3) := by decide +kernel
theorem dX12_wall_27 : decode cX12_wall 27 = .ok (.bipush 24, 2) := by decide +kernel
theorem dX12_wall_29 : decode cX12_wall 29 = .ok (.dup2, 1) := by decide +kernel
theorem dX12_wall_30 : decode cX12_wall 30 = .ok (.iaload, 1) := by decide +kernel
theorem dX12_wall_31 : decode cX12_wall 31 = .ok (.iconst 1, 1) := by decide +kernel
theorem dX12_wall_32 : decode cX12_wall 32 = .ok (.iload_n 1, 1) := by decide +kernel
theorem dX12_wall_33 : decode cX12_wall 33 = .ok (.ishl, 1) := by decide +kernel
theorem dX12_wall_34 : decode cX12_wall 34 = .ok (.ixor, 1) := by decide +kernel
theorem dX12_wall_35 : decode cX12_wall 35 = .ok (.iastore, 1) := by decide +kernel
theorem dX12_wall_36 : decode cX12_wall 36 = .ok (.aload_n 0, 1) := by decide +kernel
theorem dX12_wall_37 : decode cX12_wall 37 = .ok (.getfield 58, 3) := by decide +kernel
theorem dX12_wall_40 : decode cX12_wall 40 = .ok (.bipush 24, 2) := by decide +kernel
theorem dX12_wall_42 : decode cX12_wall 42 = .ok (.iaload, 1) := by decide +kernel
theorem dX12_wall_43 : decode cX12_wall 43 = .ok (.iload_n 1, 1) := by decide +kernel
theorem dX12_wall_44 : decode cX12_wall 44 = .ok (.ishr, 1) := by decide +kernel
theorem dX12_wall_45 : decode cX12_wall 45 = .ok (.iconst 1, 1) := by decide +kernel
theorem dX12_wall_46 : decode cX12_wall 46 = .ok (.iand, 1) := by decide +kernel
theorem dX12_wall_47 : decode cX12_wall 47 = .ok (.ireturn, 1) := by decide +kernel
set_option maxRecDepth 20000 in
theorem ggX12_lamp_X12_isCorner : GoodIn wsX12_lamp wsX12_isCorner := goodIn_r _ [7, 8, 19, 20, 21, 22, 23, 24, 25, 26, 27, 28, 29, 30, 31, 32, 33, 34, 35, 36, 37, 38, 39, 40, 41, 42, 43, 44, 45, 46, 47, 48, 49, 50, 51, 52, 53, 54, 55, 56, 57, 58, 59, 60, 61, 62, 63, 64, 65, 66, 67, 68, 69, 70, 71, 72] (by decide +kernel) (by decide +kernel)
set_option maxRecDepth 20000 in
theorem gX12_lamp_X12_isCorner : GoodIn wsX12_lamp (wsV RX12 354 RX12 yX12_isCorner wsX12_isCorner) := goodIn_app (goodIn_of _ (by decide +kernel)) ggX12_lamp_X12_isCorner
set_option maxRecDepth 20000 in
theorem ggX12_lamp_X12_pays : GoodIn wsX12_lamp wsX12_pays := goodIn_r _ [12, 2, 13, 14, 15, 6, 16, 17, 18, 19, 20, 21, 22, 23, 24, 25, 26, 27, 28, 29, 30, 31, 32, 33, 34, 35, 36, 37, 38, 39, 40, 41, 42, 43, 44, 45, 46, 47, 48, 49, 50, 51, 52, 53, 54, 55, 56, 57, 58, 59, 60, 61, 62, 63, 64, 65, 66, 67, 68, 69, 70, 71, 72] (by decide +kernel) (by decide +kernel)
set_option maxRecDepth 20000 in
theorem gX12_lamp_X12_pays : GoodIn wsX12_lamp (wsV RX12 374 RX12 yX12_pays wsX12_pays) := goodIn_app (goodIn_of _ (by decide +kernel)) ggX12_lamp_X12_pays
theorem dX12_lamp_0 : decode cX12_lamp 0 = .ok (.aload_n 0, 1) := by decide +kernel
theorem dX12_lamp_1 : decode cX12_lamp 1 = .ok (.iconst 0, 1) := by decide +kernel
theorem dX12_lamp_2 : decode cX12_lamp 2 = .ok (.putfield 90, 3) := by decide +kernel
theorem dX12_lamp_5 : decode cX12_lamp 5 = .ok (.aload_n 0, 1) := by decide +kernel
theorem dX12_lamp_6 : decode cX12_lamp 6 = .ok (.iload_n 1, 1) := by decide +kernel
theorem dX12_lamp_7 : decode cX12_lamp 7 = .ok (.invokevirtual 354, 3) := by decide +kernel
theorem dX12_lamp_10 : decode cX12_lamp 10 = .ok (.ifCond .eq 25, 3) := by decide +kernel
theorem dX12_lamp_13 : decode cX12_lamp 13 = .ok (.aload_n 0, 1) := by decide +kernel
theorem dX12_lamp_14 : decode cX12_lamp 14 = .ok (.getfield 58, 3) := by decide +kernel
theorem dX12_lamp_17 : decode cX12_lamp 17 = .ok (.iconst 2, 1) := by decide +kernel
theorem dX12_lamp_18 : decode cX12_lamp 18 = .ok (.iload_n 1, 1) := by decide +kernel
theorem dX12_lamp_19 : decode cX12_lamp 19 = .ok (.imul, 1) := by decide +kernel
theorem dX12_lamp_20 : decode cX12_lamp 20 = .ok (.iconst 1, 1) := by decide +kernel
theorem dX12_lamp_21 : decode cX12_lamp 21 = .ok (.iadd, 1) := by decide +kernel
theorem dX12_lamp_22 : decode cX12_lamp 22 = .ok (.iaload, 1) := by decide +kernel
theorem dX12_lamp_23 : decode cX12_lamp 23 = .ok (.iconst 3, 1) := by decide +kernel
theorem dX12_lamp_24 : decode cX12_lamp 24 = .ok (.if_icmp .eq 11, 3) := by decide +kernel
theorem dX12_lamp_27 : decode cX12_lamp 27 = .ok (.aload_n 0, 1) := by decide +kernel
theorem dX12_lamp_28 : decode cX12_lamp 28 = .ok (.iconst 2, 1) := by decide +kernel
theorem dX12_lamp_29 : decode cX12_lamp 29 = .ok (.invokevirtual 374, 3) := by decide +kernel
theorem dX12_lamp_32 : decode cX12_lamp 32 = .ok (.ifCond .ne 5, 3) := by decide +kernel
theorem dX12_lamp_35 : decode cX12_lamp 35 = .ok (.iconst (-1), 1) := by decide +kernel
theorem dX12_lamp_36 : decode cX12_lamp 36 = .ok (.ireturn, 1) := by decide +kernel
theorem dX12_lamp_37 : decode cX12_lamp 37 = .ok (.aload_n 0, 1) := by decide +kernel
theorem dX12_lamp_38 : decode cX12_lamp 38 = .ok (.getfield 58, 3) := by decide +kernel
theorem dX12_lamp_41 : decode cX12_lamp 41 = .ok (.iconst 2, 1) := by decide +kernel
theorem dX12_lamp_42 : decode cX12_lamp 42 = .ok (.iload_n 1, 1) := by decide +kernel
theorem dX12_lamp_43 : decode cX12_lamp 43 = .ok (.imul, 1) := by decide +kernel
theorem dX12_lamp_44 : decode cX12_lamp 44 = .ok (.iconst 1, 1) := by decide +kernel
theorem dX12_lamp_45 : decode cX12_lamp 45 = .ok (.iadd, 1) := by decide +kernel
theorem dX12_lamp_46 : decode cX12_lamp 46 = .ok (.dup2, 1) := by decide +kernel
theorem dX12_lamp_47 : decode cX12_lamp 47 = .ok (.iaload, 1) := by decide +kernel
theorem dX12_lamp_48 : decode cX12_lamp 48 = .ok (.iconst 1, 1) := by decide +kernel
theorem dX12_lamp_49 : decode cX12_lamp 49 = .ok (.iadd, 1) := by decide +kernel
theorem dX12_lamp_50 : decode cX12_lamp 50 = .ok (.iastore, 1) := by decide +kernel
theorem dX12_lamp_51 : decode cX12_lamp 51 = .ok (.aload_n 0, 1) := by decide +kernel
theorem dX12_lamp_52 : decode cX12_lamp 52 = .ok (.getfield 58, 3) := by decide +kernel
theorem dX12_lamp_55 : decode cX12_lamp 55 = .ok (.iconst 2, 1) := by decide +kernel
theorem dX12_lamp_56 : decode cX12_lamp 56 = .ok (.iload_n 1, 1) := by decide +kernel
theorem dX12_lamp_57 : decode cX12_lamp 57 = .ok (.imul, 1) := by decide +kernel
theorem dX12_lamp_58 : decode cX12_lamp 58 = .ok (.iconst 1, 1) := by decide +kernel
theorem dX12_lamp_59 : decode cX12_lamp 59 = .ok (.iadd, 1) := by decide +kernel
theorem dX12_lamp_60 : decode cX12_lamp 60 = .ok (.iaload, 1) := by decide +kernel
theorem dX12_lamp_61 : decode cX12_lamp 61 = .ok (.ireturn, 1) := by decide +kernel
set_option maxRecDepth 20000 in
theorem ggX12_moves_X12_isWalker : GoodIn wsX12_moves wsX12_isWalker := goodIn_r _ [7, 8, 24, 25, 26, 27, 28, 29, 30, 31, 32, 33, 34, 35, 36, 37, 38, 39, 40, 41, 42, 43, 44, 45, 46, 47, 48, 49, 50, 51, 52, 53, 54, 55, 56, 57, 58, 59, 60, 61, 62, 63, 64, 65, 66, 67, 68, 69, 70, 71, 72, 73, 74, 75, 76, 77] (by decide +kernel) (by decide +kernel)
set_option maxRecDepth 20000 in
theorem gX12_moves_X12_isWalker : GoodIn wsX12_moves (wsV RX12 362 RX12 yX12_isWalker wsX12_isWalker) := goodIn_app (goodIn_of _ (by decide +kernel)) ggX12_moves_X12_isWalker
set_option maxRecDepth 20000 in
theorem ggX12_moves_X12_isCorner : GoodIn wsX12_moves wsX12_isCorner := goodIn_r _ [12, 13, 24, 25, 26, 27, 28, 29, 30, 31, 32, 33, 34, 35, 36, 37, 38, 39, 40, 41, 42, 43, 44, 45, 46, 47, 48, 49, 50, 51, 52, 53, 54, 55, 56, 57, 58, 59, 60, 61, 62, 63, 64, 65, 66, 67, 68, 69, 70, 71, 72, 73, 74, 75, 76, 77] (by decide +kernel) (by decide +kernel)
set_option maxRecDepth 20000 in
theorem gX12_moves_X12_isCorner : GoodIn wsX12_moves (wsV RX12 354 RX12 yX12_isCorner wsX12_isCorner) := goodIn_app (goodIn_of _ (by decide +kernel)) ggX12_moves_X12_isCorner
set_option maxRecDepth 20000 in
theorem ggX12_moves_X12_pays : GoodIn wsX12_moves wsX12_pays := goodIn_r _ [17, 2, 18, 19, 20, 6, 21, 22, 23, 24, 25, 26, 27, 28, 29, 30, 31, 32, 33, 34, 35, 36, 37, 38, 39, 40, 41, 42, 43, 44, 45, 46, 47, 48, 49, 50, 51, 52, 53, 54, 55, 56, 57, 58, 59, 60, 61, 62, 63, 64, 65, 66, 67, 68, 69, 70, 71, 72, 73, 74, 75, 76, 77] (by decide +kernel) (by decide +kernel)
set_option maxRecDepth 20000 in
theorem gX12_moves_X12_pays : GoodIn wsX12_moves (wsV RX12 374 RX12 yX12_pays wsX12_pays) := goodIn_app (goodIn_of _ (by decide +kernel)) ggX12_moves_X12_pays
theorem dX12_moves_0 : decode cX12_moves 0 = .ok (.aload_n 0, 1) := by decide +kernel
theorem dX12_moves_1 : decode cX12_moves 1 = .ok (.iconst 0, 1) := by decide +kernel
theorem dX12_moves_2 : decode cX12_moves 2 = .ok (.putfield 90, 3) := by decide +kernel
theorem dX12_moves_5 : decode cX12_moves 5 = .ok (.aload_n 0, 1) := by decide +kernel
theorem dX12_moves_6 : decode cX12_moves 6 = .ok (.iload_n 1, 1) := by decide +kernel
theorem dX12_moves_7 : decode cX12_moves 7 = .ok (.invokevirtual 362, 3) := by decide +kernel
theorem dX12_moves_10 : decode cX12_moves 10 = .ok (.ifCond .eq 36, 3) := by decide +kernel
theorem dX12_moves_13 : decode cX12_moves 13 = .ok (.aload_n 0, 1) := by decide +kernel
theorem dX12_moves_14 : decode cX12_moves 14 = .ok (.iload_n 2, 1) := by decide +kernel
theorem dX12_moves_15 : decode cX12_moves 15 = .ok (.invokevirtual 354, 3) := by decide +kernel
theorem dX12_moves_18 : decode cX12_moves 18 = .ok (.ifCond .eq 28, 3) := by decide +kernel
theorem dX12_moves_21 : decode cX12_moves 21 = .ok (.aload_n 0, 1) := by decide +kernel
theorem dX12_moves_22 : decode cX12_moves 22 = .ok (.getfield 58, 3) := by decide +kernel
theorem dX12_moves_25 : decode cX12_moves 25 = .ok (.bipush 16, 2) := by decide +kernel
theorem dX12_moves_27 : decode cX12_moves 27 = .ok (.iconst 2, 1) := by decide +kernel
theorem dX12_moves_28 : decode cX12_moves 28 = .ok (.iload_n 1, 1) := by decide +kernel
theorem dX12_moves_29 : decode cX12_moves 29 = .ok (.imul, 1) := by decide +kernel
theorem dX12_moves_30 : decode cX12_moves 30 = .ok (.iadd, 1) := by decide +kernel
theorem dX12_moves_31 : decode cX12_moves 31 = .ok (.iconst 0, 1) := by decide +kernel
theorem dX12_moves_32 : decode cX12_moves 32 = .ok (.iadd, 1) := by decide +kernel
theorem dX12_moves_33 : decode cX12_moves 33 = .ok (.iaload, 1) := by decide +kernel
theorem dX12_moves_34 : decode cX12_moves 34 = .ok (.iload_n 2, 1) := by decide +kernel
theorem dX12_moves_35 : decode cX12_moves 35 = .ok (.if_icmp .eq 11, 3) := by decide +kernel
theorem dX12_moves_38 : decode cX12_moves 38 = .ok (.aload_n 0, 1) := by decide +kernel
theorem dX12_moves_39 : decode cX12_moves 39 = .ok (.iconst 1, 1) := by decide +kernel
theorem dX12_moves_40 : decode cX12_moves 40 = .ok (.invokevirtual 374, 3) := by decide +kernel
theorem dX12_moves_43 : decode cX12_moves 43 = .ok (.ifCond .ne 5, 3) := by decide +kernel
theorem dX12_moves_46 : decode cX12_moves 46 = .ok (.iconst (-1), 1) := by decide +kernel
theorem dX12_moves_47 : decode cX12_moves 47 = .ok (.ireturn, 1) := by decide +kernel
theorem dX12_moves_48 : decode cX12_moves 48 = .ok (.aload_n 0, 1) := by decide +kernel
theorem dX12_moves_49 : decode cX12_moves 49 = .ok (.getfield 58, 3) := by decide +kernel
theorem dX12_moves_52 : decode cX12_moves 52 = .ok (.bipush 16, 2) := by decide +kernel
theorem dX12_moves_54 : decode cX12_moves 54 = .ok (.iconst 2, 1) := by decide +kernel
theorem dX12_moves_55 : decode cX12_moves 55 = .ok (.iload_n 1, 1) := by decide +kernel
theorem dX12_moves_56 : decode cX12_moves 56 = .ok (.imul, 1) := by decide +kernel
theorem dX12_moves_57 : decode cX12_moves 57 = .ok (.iadd, 1) := by decide +kernel
theorem dX12_moves_58 : decode cX12_moves 58 = .ok (.iconst 0, 1) := by decide +kernel
theorem dX12_moves_59 : decode cX12_moves 59 = .ok (.iadd, 1) := by decide +kernel
theorem dX12_moves_60 : decode cX12_moves 60 = .ok (.iaload, 1) := by decide +kernel
theorem dX12_moves_61 : decode cX12_moves 61 = .ok (.istore_n 3, 1) := by decide +kernel
theorem dX12_moves_62 : decode cX12_moves 62 = .ok (.aload_n 0, 1) := by decide +kernel
theorem dX12_moves_63 : decode cX12_moves 63 = .ok (.getfield 58, 3) := by decide +kernel
theorem dX12_moves_66 : decode cX12_moves 66 = .ok (.bipush 16, 2) := by decide +kernel
theorem dX12_moves_68 : decode cX12_moves 68 = .ok (.iconst 2, 1) := by decide +kernel
theorem dX12_moves_69 : decode cX12_moves 69 = .ok (.iload_n 1, 1) := by decide +kernel
theorem dX12_moves_70 : decode cX12_moves 70 = .ok (.imul, 1) := by decide +kernel
theorem dX12_moves_71 : decode cX12_moves 71 = .ok (.iadd, 1) := by decide +kernel
theorem dX12_moves_72 : decode cX12_moves 72 = .ok (.iconst 0, 1) := by decide +kernel
theorem dX12_moves_73 : decode cX12_moves 73 = .ok (.iadd, 1) := by decide +kernel
theorem dX12_moves_74 : decode cX12_moves 74 = .ok (.iload_n 2, 1) := by decide +kernel
theorem dX12_moves_75 : decode cX12_moves 75 = .ok (.iastore, 1) := by decide +kernel
theorem dX12_moves_76 : decode cX12_moves 76 = .ok (.iload_n 3, 1) := by decide +kernel
theorem dX12_moves_77 : decode cX12_moves 77 = .ok (.ireturn, 1) := by decide +kernel
set_option maxRecDepth 20000 in
theorem ggX12_preach_X12_isWalker : GoodIn wsX12_preach wsX12_isWalker := goodIn_r _ [7, 8, 19, 20, 21, 22, 23, 24, 25, 26, 27, 28, 29, 30, 31, 32, 33, 34, 35, 36, 37, 38, 39, 40, 41, 42, 43, 44, 45, 46, 47, 48, 49, 50, 51, 52, 53, 54, 55, 56, 57, 58, 59, 60, 61, 62, 63, 64, 65, 66, 67, 68, 69, 70, 71, 72] (by decide +kernel) (by decide +kernel)
set_option maxRecDepth 20000 in
theorem gX12_preach_X12_isWalker : GoodIn wsX12_preach (wsV RX12 362 RX12 yX12_isWalker wsX12_isWalker) := goodIn_app (goodIn_of _ (by decide +kernel)) ggX12_preach_X12_isWalker
set_option maxRecDepth 20000 in
theorem ggX12_preach_X12_pays : GoodIn wsX12_preach wsX12_pays := goodIn_r _ [12, 2, 13, 14, 15, 6, 16, 17, 18, 19, 20, 21, 22, 23, 24, 25, 26, 27, 28, 29, 30, 31, 32, 33, 34, 35, 36, 37, 38, 39, 40, 41, 42, 43, 44, 45, 46, 47, 48, 49, 50, 51, 52, 53, 54, 55, 56, 57, 58, 59, 60, 61, 62, 63, 64, 65, 66, 67, 68, 69, 70, 71, 72] (by decide +kernel) (by decide +kernel)
set_option maxRecDepth 20000 in
theorem gX12_preach_X12_pays : GoodIn wsX12_preach (wsV RX12 374 RX12 yX12_pays wsX12_pays) := goodIn_app (goodIn_of _ (by decide +kernel)) ggX12_preach_X12_pays
theorem dX12_preach_0 : decode cX12_preach 0 = .ok (.aload_n 0, 1) := by decide +kernel
theorem dX12_preach_1 : decode cX12_preach 1 = .ok (.iconst 0, 1) := by decide +kernel
theorem dX12_preach_2 : decode cX12_preach 2 = .ok (.putfield 90, 3) := by decide +kernel
theorem dX12_preach_5 : decode cX12_preach 5 = .ok (.aload_n 0, 1) := by decide +kernel
theorem dX12_preach_6 : decode cX12_preach 6 = .ok (.iload_n 1, 1) := by decide +kernel
theorem dX12_preach_7 : decode cX12_preach 7 = .ok (.invokevirtual 362, 3) := by decide +kernel
theorem dX12_preach_10 : decode cX12_preach 10 = .ok (.ifCond .eq 29, 3) := by decide +kernel
theorem dX12_preach_13 : decode cX12_preach 13 = .ok (.aload_n 0, 1) := by decide +kernel
theorem dX12_preach_14 : decode cX12_preach 14 = .ok (.getfield 58, 3) := by decide +kernel
theorem dX12_preach_17 : decode cX12_preach 17 = .ok (.bipush 16, 2) := by decide +kernel
theorem dX12_preach_19 : decode cX12_preach 19 = .ok (.iconst 2, 1) := by decide +kernel
theorem dX12_preach_20 : decode cX12_preach 20 = .ok (.iload_n 1, 1) := by decide +kernel
theorem dX12_preach_21 : decode cX12_preach 21 = .ok (.imul, 1) := by decide +kernel
theorem dX12_preach_22 : decode cX12_preach 22 = .ok (.iadd, 1) := by decide +kernel
theorem dX12_preach_23 : decode cX12_preach 23 = .ok (.iconst 1, 1) := by decide +kernel
theorem dX12_preach_24 : decode cX12_preach 24 = .ok (.iadd, 1) := by decide +kernel
theorem dX12_preach_25 : decode cX12_preach 25 = .ok (.iaload, 1) := by decide +kernel
theorem dX12_preach_26 : decode cX12_preach 26 = .ok (.bipush 9, 2) := by decide +kernel
theorem dX12_preach_28 : decode cX12_preach 28 = .ok (.if_icmp .eq 11, 3) := by decide +kernel
theorem dX12_preach_31 : decode cX12_preach 31 = .ok (.aload_n 0, 1) := by decide +kernel
theorem dX12_preach_32 : decode cX12_preach 32 = .ok (.iconst 4, 1) := by decide +kernel
theorem dX12_preach_33 : decode cX12_preach 33 = .ok (.invokevirtual 374, 3) := by decide +kernel
theorem dX12_preach_36 : decode cX12_preach 36 = .ok (.ifCond .ne 5, 3) := by decide +kernel
theorem dX12_preach_39 : decode cX12_preach 39 = .ok (.iconst (-1), 1) := by decide +kernel
theorem dX12_preach_40 : decode cX12_preach 40 = .ok (.ireturn, 1) := by decide +kernel
theorem dX12_preach_41 : decode cX12_preach 41 = .ok (.aload_n 0, 1) := by decide +kernel
theorem dX12_preach_42 : decode cX12_preach 42 = .ok (.getfield 58, 3) := by decide +kernel
theorem dX12_preach_45 : decode cX12_preach 45 = .ok (.bipush 16, 2) := by decide +kernel
theorem dX12_preach_47 : decode cX12_preach 47 = .ok (.iconst 2, 1) := by decide +kernel
theorem dX12_preach_48 : decode cX12_preach 48 = .ok (.iload_n 1, 1) := by decide +kernel
theorem dX12_preach_49 : decode cX12_preach 49 = .ok (.imul, 1) := by decide +kernel
theorem dX12_preach_50 : decode cX12_preach 50 = .ok (.iadd, 1) := by decide +kernel
theorem dX12_preach_51 : decode cX12_preach 51 = .ok (.iconst 1, 1) := by decide +kernel
theorem dX12_preach_52 : decode cX12_preach 52 = .ok (.iadd, 1) := by decide +kernel
theorem dX12_preach_53 : decode cX12_preach 53 = .ok (.dup2, 1) := by decide +kernel
theorem dX12_preach_54 : decode cX12_preach 54 = .ok (.iaload, 1) := by decide +kernel
theorem dX12_preach_55 : decode cX12_preach 55 = .ok (.iconst 1, 1) := by decide +kernel
theorem dX12_preach_56 : decode cX12_preach 56 = .ok (.iadd, 1) := by decide +kernel
theorem dX12_preach_57 : decode cX12_preach 57 = .ok (.iastore, 1) := by decide +kernel
theorem dX12_preach_58 : decode cX12_preach 58 = .ok (.aload_n 0, 1) := by decide +kernel
theorem dX12_preach_59 : decode cX12_preach 59 = .ok (.getfield 58, 3) := by decide +kernel
theorem dX12_preach_62 : decode cX12_preach 62 = .ok (.bipush 16, 2) := by decide +kernel
theorem dX12_preach_64 : decode cX12_preach 64 = .ok (.iconst 2, 1) := by decide +kernel
theorem dX12_preach_65 : decode cX12_preach 65 = .ok (.iload_n 1, 1) := by decide +kernel
theorem dX12_preach_66 : decode cX12_preach 66 = .ok (.imul, 1) := by decide +kernel
theorem dX12_preach_67 : decode cX12_preach 67 = .ok (.iadd, 1) := by decide +kernel
theorem dX12_preach_68 : decode cX12_preach 68 = .ok (.iconst 1, 1) := by decide +kernel
theorem dX12_preach_69 : decode cX12_preach 69 = .ok (.iadd, 1) := by decide +kernel
theorem dX12_preach_70 : decode cX12_preach 70 = .ok (.iaload, 1) := by decide +kernel
theorem dX12_preach_71 : decode cX12_preach 71 = .ok (.ireturn, 1) := by decide +kernel
set_option maxRecDepth 20000 in
theorem ggX12_give_X12_isIn : GoodIn wsX12_give wsX12_isIn := goodIn_r _ [8] (by decide +kernel) (by decide +kernel)
set_option maxRecDepth 20000 in
theorem gX12_give_X12_isIn : GoodIn wsX12_give (va_wsS RX12 211 yX12_isIn wsX12_isIn) := goodIn_app (goodIn_of _ (by decide +kernel)) ggX12_give_X12_isIn
set_option maxRecDepth 20000 in
theorem ggX12_give_X12_remember : GoodIn wsX12_give wsX12_remember := goodIn_r _ [12, 13, 14, 4, 15, 16, 17, 18, 19, 20, 21, 22, 23, 24, 25, 26, 27, 28, 29, 30, 31, 32, 33, 34, 35, 36, 37, 38, 39, 40, 41, 42, 43, 44, 45, 46, 47, 48, 49, 50, 51, 52, 53, 54, 55, 56, 57, 58, 59, 60, 61, 62, 63, 64, 65, 66, 67, 68] (by decide +kernel) (by decide +kernel)
set_option maxRecDepth 20000 in
theorem gX12_give_X12_remember : GoodIn wsX12_give (wsV RX12 367 RX12 yX12_remember wsX12_remember) := goodIn_app (goodIn_of _ (by decide +kernel)) ggX12_give_X12_remember
theorem dX12_give_0 : decode cX12_give 0 = .ok (.aload_n 0, 1) := by decide +kernel
theorem dX12_give_1 : decode cX12_give 1 = .ok (.iconst 0, 1) := by decide +kernel
theorem dX12_give_2 : decode cX12_give 2 = .ok (.putfield 90, 3) := by decide +kernel
theorem dX12_give_5 : decode cX12_give 5 = .ok (.aload_n 0, 1) := by decide +kernel
theorem dX12_give_6 : decode cX12_give 6 = .ok (.getfield 283, 3) := by decide +kernel
theorem dX12_give_9 : decode cX12_give 9 = .ok (.ifCond .eq 30, 3) := by decide +kernel
theorem dX12_give_12 : decode cX12_give 12 = .ok (.iload_n 1, 1) := by decide +kernel
theorem dX12_give_13 : decode cX12_give 13 = .ok (.i2l, 1) := by decide +kernel
theorem dX12_give_14 : decode cX12_give 14 = .ok (.lconst 1, 1) := by decide +kernel
theorem dX12_give_15 : decode cX12_give 15 = .ok (.ldc2_w 377, 3) := by decide +kernel
theorem dX12_give_18 : decode cX12_give 18 = .ok (.invokestatic 211, 3) := by decide +kernel
theorem dX12_give_21 : decode cX12_give 21 = .ok (.ifCond .eq 18, 3) := by decide +kernel
theorem dX12_give_24 : decode cX12_give 24 = .ok (.aload_n 0, 1) := by decide +kernel
theorem dX12_give_25 : decode cX12_give 25 = .ok (.getfield 58, 3) := by decide +kernel
theorem dX12_give_28 : decode cX12_give 28 = .ok (.bipush 25, 2) := by decide +kernel
theorem dX12_give_30 : decode cX12_give 30 = .ok (.iaload, 1) := by decide +kernel
theorem dX12_give_31 : decode cX12_give 31 = .ok (.iload_n 1, 1) := by decide +kernel
theorem dX12_give_32 : decode cX12_give 32 = .ok (.iadd, 1) := by decide +kernel
theorem dX12_give_33 : decode cX12_give 33 = .ok (.sipush 999, 3) := by decide +kernel
theorem dX12_give_36 : decode cX12_give 36 = .ok (.if_icmp .le 5, 3) := by decide +kernel
theorem dX12_give_39 : decode cX12_give 39 = .ok (.iconst (-1), 1) := by decide +kernel
theorem dX12_give_40 : decode cX12_give 40 = .ok (.ireturn, 1) := by decide +kernel
theorem dX12_give_41 : decode cX12_give 41 = .ok (.aload_n 0, 1) := by decide +kernel
theorem dX12_give_42 : decode cX12_give 42 = .ok (.invokevirtual 367, 3) := by decide +kernel
theorem dX12_give_45 : decode cX12_give 45 = .ok (.aload_n 0, 1) := by decide +kernel
theorem dX12_give_46 : decode cX12_give 46 = .ok (.getfield 58, 3) := by decide +kernel
theorem dX12_give_49 : decode cX12_give 49 = .ok (.bipush 25, 2) := by decide +kernel
theorem dX12_give_51 : decode cX12_give 51 = .ok (.dup2, 1) := by decide +kernel
theorem dX12_give_52 : decode cX12_give 52 = .ok (.iaload, 1) := by decide +kernel
theorem dX12_give_53 : decode cX12_give 53 = .ok (.iload_n 1, 1) := by decide +kernel
theorem dX12_give_54 : decode cX12_give 54 = .ok (.iadd, 1) := by decide +kernel
theorem dX12_give_55 : decode cX12_give 55 = .ok (.iastore, 1) := by decide +kernel
theorem dX12_give_56 : decode cX12_give 56 = .ok (.aload_n 0, 1) := by decide +kernel
theorem dX12_give_57 : decode cX12_give 57 = .ok (.getfield 58, 3) := by decide +kernel
theorem dX12_give_60 : decode cX12_give 60 = .ok (.bipush 25, 2) := by decide +kernel
theorem dX12_give_62 : decode cX12_give 62 = .ok (.iaload, 1) := by decide +kernel
theorem dX12_give_63 : decode cX12_give 63 = .ok (.ireturn, 1) := by decide +kernel
set_option maxRecDepth 20000 in
theorem ggX12_years_X12_isIn : GoodIn wsX12_years wsX12_isIn := goodIn_r _ [12] (by decide +kernel) (by decide +kernel)
set_option maxRecDepth 20000 in
theorem gX12_years_X12_isIn : GoodIn wsX12_years (va_wsS RX12 211 yX12_isIn wsX12_isIn) := goodIn_app (goodIn_of _ (by decide +kernel)) ggX12_years_X12_isIn
set_option maxRecDepth 20000 in
theorem ggX12_years_X12_remember : GoodIn wsX12_years wsX12_remember := goodIn_r _ [16, 17, 18, 4, 231, 232, 233, 234, 235, 236, 237, 238, 239, 240, 241, 242, 243, 244, 245, 246, 247, 248, 249, 250, 251, 252, 253, 254, 255, 256, 257, 258, 259, 260, 261, 262, 263, 264, 265, 266, 267, 268, 269, 270, 271, 272, 273, 274, 275, 276, 277, 278, 279, 280, 281, 282, 283, 284] (by decide +kernel) (by decide +kernel)
set_option maxRecDepth 20000 in
theorem gX12_years_X12_remember : GoodIn wsX12_years (wsV RX12 367 RX12 yX12_remember wsX12_remember) := goodIn_app (goodIn_of _ (by decide +kernel)) ggX12_years_X12_remember
set_option maxRecDepth 20000 in
theorem ggX12_years_X12_draw : GoodIn wsX12_years wsX12_draw := goodIn_r _ [22, 5, 23, 24, 231, 232, 233, 234, 235, 236, 237, 238, 239, 240, 241, 242, 243, 244, 245, 246, 247, 248, 249, 250, 251, 252, 253, 254, 255, 256, 257, 258, 259, 260, 261, 262, 263, 264, 265, 266, 267, 268, 269, 270, 271, 272, 273, 274, 275, 276, 277, 278, 279, 280, 281, 282, 283, 284] (by decide +kernel) (by decide +kernel)
set_option maxRecDepth 20000 in
theorem gX12_years_X12_draw : GoodIn wsX12_years (wsV RX12 389 RX12 yX12_draw wsX12_draw) := goodIn_app (goodIn_of _ (by decide +kernel)) ggX12_years_X12_draw
set_option maxRecDepth 20000 in
theorem ggX12_years_X12_goDay : GoodIn wsX12_years wsX12_goDay := goodIn_r _ [28, 29, 30, 7, 31, 32, 33, 34, 35, 36, 37, 38, 39, 40, 11, 41, 8, 42, 43, 2, 44, 45, 46, 47, 48, 49, 50, 51, 52, 53, 54, 55, 56, 57, 58, 59, 60, 61, 62, 63, 64, 65, 66, 67, 68, 69, 70, 71, 72, 73, 74, 75, 76, 77, 78, 79, 80, 81, 82, 83, 84, 85, 86, 87, 88, 89, 90, 91, 92, 93, 94, 95, 96, 97, 98, 99, 100, 101, 102, 103, 104, 105, 106, 107, 108, 109, 110, 111, 112, 113, 114, 115, 116, 117, 118, 119, 120, 121, 122, 123, 124, 125, 126, 127, 128, 129, 130, 131, 132, 133, 134, 135, 136, 137, 138, 139, 140, 141, 142, 143, 144, 145, 146, 147, 148, 149, 150, 151, 152, 153, 154, 155, 156, 157, 158, 159, 160, 161, 162, 163, 164, 165, 166, 167, 168, 169, 170, 171, 172, 173, 174, 175, 176, 177, 178, 179, 180, 181, 182, 183, 184, 185, 186, 187, 188, 189, 190, 191, 192, 193, 194, 195, 196, 197, 198, 199, 200, 201, 202, 203, 204, 205, 206, 207, 208, 209, 210, 211, 212, 213, 214, 215, 216, 217, 218, 219, 220, 221, 222, 223, 224, 225, 226, 227, 228, 229, 230, 231, 232, 233, 234, 235, 236, 237, 238, 239, 240, 241, 242, 243, 244, 245, 246, 247, 248, 249, 250, 251, 252, 253, 254, 255, 256, 257, 258, 259, 260, 261, 262, 263, 264, 265, 266, 267, 268, 269, 270, 271, 272, 273, 274, 275, 276, 277, 278, 279, 280, 281, 282, 283, 284] (by decide +kernel) (by decide +kernel)
set_option maxRecDepth 20000 in
theorem gX12_years_X12_goDay : GoodIn wsX12_years (wsV RX12 370 RX12 yX12_goDay wsX12_goDay) := goodIn_app (goodIn_of _ (by decide +kernel)) ggX12_years_X12_goDay
theorem dX12_years_0 : decode cX12_years 0 = .ok (.aload_n 0, 1) := by decide +kernel
theorem dX12_years_1 : decode cX12_years 1 = .ok (.iconst 0, 1) := by decide +kernel
theorem dX12_years_2 : decode cX12_years 2 = .ok (.putfield 90, 3) := by decide +kernel
theorem dX12_years_5 : decode cX12_years 5 = .ok (.aload_n 0, 1) := by decide +kernel
theorem dX12_years_6 : decode cX12_years 6 = .ok (.getfield 283, 3) := by decide +kernel
theorem dX12_years_9 : decode cX12_years 9 = .ok (.ifCond .eq 30, 3) := by decide +kernel
theorem dX12_years_12 : decode cX12_years 12 = .ok (.iload_n 1, 1) := by decide +kernel
theorem dX12_years_13 : decode cX12_years 13 = .ok (.i2l, 1) := by decide +kernel
theorem dX12_years_14 : decode cX12_years 14 = .ok (.lconst 1, 1) := by decide +kernel
theorem dX12_years_15 : decode cX12_years 15 = .ok (.ldc2_w 387, 3) := by decide +kernel
theorem dX12_years_18 : decode cX12_years 18 = .ok (.invokestatic 211, 3) := by decide +kernel
theorem dX12_years_21 : decode cX12_years 21 = .ok (.ifCond .eq 18, 3) := by decide +kernel
theorem dX12_years_24 : decode cX12_years 24 = .ok (.aload_n 0, 1) := by decide +kernel
theorem dX12_years_25 : decode cX12_years 25 = .ok (.getfield 58, 3) := by decide +kernel
theorem dX12_years_28 : decode cX12_years 28 = .ok (.bipush 26, 2) := by decide +kernel
theorem dX12_years_30 : decode cX12_years 30 = .ok (.iaload, 1) := by decide +kernel
theorem dX12_years_31 : decode cX12_years 31 = .ok (.iload_n 1, 1) := by decide +kernel
theorem dX12_years_32 : decode cX12_years 32 = .ok (.iadd, 1) := by decide +kernel
theorem dX12_years_33 : decode cX12_years 33 = .ok (.sipush 999, 3) := by decide +kernel
theorem dX12_years_36 : decode cX12_years 36 = .ok (.if_icmp .le 5, 3) := by decide +kernel
theorem dX12_years_39 : decode cX12_years 39 = .ok (.iconst (-1), 1) := by decide +kernel
theorem dX12_years_40 : decode cX12_years 40 = .ok (.ireturn, 1) := by decide +kernel
theorem dX12_years_41 : decode cX12_years 41 = .ok (.aload_n 0, 1) := by decide +kernel
theorem dX12_years_42 : decode cX12_years 42 = .ok (.lload_n 2, 1) := by decide +kernel
theorem dX12_years_43 : decode cX12_years 43 = .ok (.putfield 379, 3) := by decide +kernel
theorem dX12_years_46 : decode cX12_years 46 = .ok (.iconst 0, 1) := by decide +kernel
theorem dX12_years_47 : decode cX12_years 47 = .ok (.istore 4, 2) := by decide +kernel
theorem dX12_years_49 : decode cX12_years 49 = .ok (.iload 4, 2) := by decide +kernel
theorem dX12_years_51 : decode cX12_years 51 = .ok (.iload_n 1, 1) := by decide +kernel
theorem dX12_years_52 : decode cX12_years 52 = .ok (.if_icmp .ge 91, 3) := by decide +kernel
theorem dX12_years_55 : decode cX12_years 55 = .ok (.aload_n 0, 1) := by decide +kernel
theorem dX12_years_56 : decode cX12_years 56 = .ok (.invokevirtual 367, 3) := by decide +kernel
theorem dX12_years_59 : decode cX12_years 59 = .ok (.aload_n 0, 1) := by decide +kernel
theorem dX12_years_60 : decode cX12_years 60 = .ok (.bipush 10, 2) := by decide +kernel
theorem dX12_years_62 : decode cX12_years 62 = .ok (.invokevirtual 389, 3) := by decide +kernel
theorem dX12_years_65 : decode cX12_years 65 = .ok (.aload_n 0, 1) := by decide +kernel
theorem dX12_years_66 : decode cX12_years 66 = .ok (.getfield 68, 3) := by decide +kernel
theorem dX12_years_69 : decode cX12_years 69 = .ok (.if_icmp .ge 26, 3) := by decide +kernel
theorem dX12_years_72 : decode cX12_years 72 = .ok (.aload_n 0, 1) := by decide +kernel
theorem dX12_years_73 : decode cX12_years 73 = .ok (.getfield 58, 3) := by decide +kernel
theorem dX12_years_76 : decode cX12_years 76 = .ok (.bipush 24, 2) := by decide +kernel
theorem dX12_years_78 : decode cX12_years 78 = .ok (.dup2, 1) := by decide +kernel
theorem dX12_years_79 : decode cX12_years 79 = .ok (.iaload, 1) := by decide +kernel
theorem dX12_years_80 : decode cX12_years 80 = .ok (.iconst 1, 1) := by decide +kernel
theorem dX12_years_81 : decode cX12_years 81 = .ok (.aload_n 0, 1) := by decide +kernel
theorem dX12_years_82 : decode cX12_years 82 = .ok (.aload_n 0, 1) := by decide +kernel
theorem dX12_years_83 : decode cX12_years 83 = .ok (.getfield 283, 3) := by decide +kernel
theorem dX12_years_86 : decode cX12_years 86 = .ok (.invokevirtual 389, 3) := by decide +kernel
theorem dX12_years_89 : decode cX12_years 89 = .ok (.ishl, 1) := by decide +kernel
theorem dX12_years_90 : decode cX12_years 90 = .ok (.ixor, 1) := by decide +kernel
theorem dX12_years_91 : decode cX12_years 91 = .ok (.iastore, 1) := by decide +kernel
theorem dX12_years_92 : decode cX12_years 92 = .ok (.goto 35, 3) := by decide +kernel
theorem dX12_years_95 : decode cX12_years 95 = .ok (.aload_n 0, 1) := by decide +kernel
theorem dX12_years_96 : decode cX12_years 96 = .ok (.aload_n 0, 1) := by decide +kernel
theorem dX12_years_97 : decode cX12_years 97 = .ok (.getfield 286, 3) := by decide +kernel
theorem dX12_years_100 : decode cX12_years 100 = .ok (.invokevirtual 389, 3) := by decide +kernel
theorem dX12_years_103 : decode cX12_years 103 = .ok (.istore 5, 2) := by decide +kernel
theorem dX12_years_105 : decode cX12_years 105 = .ok (.aload_n 0, 1) := by decide +kernel
theorem dX12_years_106 : decode cX12_years 106 = .ok (.getfield 58, 3) := by decide +kernel
theorem dX12_years_109 : decode cX12_years 109 = .ok (.bipush 16, 2) := by decide +kernel
theorem dX12_years_111 : decode cX12_years 111 = .ok (.iconst 2, 1) := by decide +kernel
theorem dX12_years_112 : decode cX12_years 112 = .ok (.iload 5, 2) := by decide +kernel
theorem dX12_years_114 : decode cX12_years 114 = .ok (.imul, 1) := by decide +kernel
theorem dX12_years_115 : decode cX12_years 115 = .ok (.iadd, 1) := by decide +kernel
theorem dX12_years_116 : decode cX12_years 116 = .ok (.iconst 0, 1) := by decide +kernel
theorem dX12_years_117 : decode cX12_years 117 = .ok (.iadd, 1) := by decide +kernel
theorem dX12_years_118 : decode cX12_years 118 = .ok (.aload_n 0, 1) := by decide +kernel
theorem dX12_years_119 : decode cX12_years 119 = .ok (.aload_n 0, 1) := by decide +kernel
theorem dX12_years_120 : decode cX12_years 120 = .ok (.getfield 280, 3) := by decide +kernel
theorem dX12_years_123 : decode cX12_years 123 = .ok (.invokevirtual 389, 3) := by decide +kernel
theorem dX12_years_126 : decode cX12_years 126 = .ok (.iastore, 1) := by decide +kernel
theorem dX12_years_127 : decode cX12_years 127 = .ok (.aload_n 0, 1) := by decide +kernel
theorem dX12_years_128 : decode cX12_years 128 = .ok (.aload_n 0, 1) := by decide +kernel
theorem dX12_years_129 : decode cX12_years 129 = .ok (.getfield 58, 3) := by decide +kernel
theorem dX12_years_132 : decode cX12_years 132 = .ok (.invokevirtual 370, 3) := by decide +kernel
theorem dX12_years_135 : decode cX12_years 135 = .ok (.istore 5, 2) := by decide +kernel
theorem dX12_years_137 : decode cX12_years 137 = .ok (.iinc 4 1, 3) := by decide +kernel
theorem dX12_years_140 : decode cX12_years 140 = .ok (.goto (-91), 3) := by decide +kernel
theorem dX12_years_143 : decode cX12_years 143 = .ok (.aload_n 0, 1) := by decide +kernel
theorem dX12_years_144 : decode cX12_years 144 = .ok (.getfield 58, 3) := by decide +kernel
theorem dX12_years_147 : decode cX12_years 147 = .ok (.bipush 26, 2) := by decide +kernel
theorem dX12_years_149 : decode cX12_years 149 = .ok (.iaload, 1) := by decide +kernel
theorem dX12_years_150 : decode cX12_years 150 = .ok (.ireturn, 1) := by decide +kernel
theorem dX12_undo_0 : decode cX12_undo 0 = .ok (.aload_n 0, 1) := by decide +kernel
theorem dX12_undo_1 : decode cX12_undo 1 = .ok (.iconst 0, 1) := by decide +kernel
theorem dX12_undo_2 : decode cX12_undo 2 = .ok (.putfield 90, 3) := by decide +kernel
theorem dX12_undo_5 : decode cX12_undo 5 = .ok (.aload_n 0, 1) := by decide +kernel
theorem dX12_undo_6 : decode cX12_undo 6 = .ok (.getfield 292, 3) := by decide +kernel
theorem dX12_undo_9 : decode cX12_undo 9 = .ok (.ifCond .ne 5, 3) := by decide +kernel
theorem dX12_undo_12 : decode cX12_undo 12 = .ok (.iconst (-1), 1) := by decide +kernel
theorem dX12_undo_13 : decode cX12_undo 13 = .ok (.ireturn, 1) := by decide +kernel
theorem dX12_undo_14 : decode cX12_undo 14 = .ok (.aload_n 0, 1) := by decide +kernel
theorem dX12_undo_15 : decode cX12_undo 15 = .ok (.dup, 1) := by decide +kernel
theorem dX12_undo_16 : decode cX12_undo 16 = .ok (.getfield 292, 3) := by decide +kernel
theorem dX12_undo_19 : decode cX12_undo 19 = .ok (.iconst 1, 1) := by decide +kernel
theorem dX12_undo_20 : decode cX12_undo 20 = .ok (.isub, 1) := by decide +kernel
theorem dX12_undo_21 : decode cX12_undo 21 = .ok (.putfield 292, 3) := by decide +kernel
theorem dX12_undo_24 : decode cX12_undo 24 = .ok (.iconst 0, 1) := by decide +kernel
theorem dX12_undo_25 : decode cX12_undo 25 = .ok (.istore_n 1, 1) := by decide +kernel
theorem dX12_undo_26 : decode cX12_undo 26 = .ok (.iload_n 1, 1) := by decide +kernel
theorem dX12_undo_27 : decode cX12_undo 27 = .ok (.sipush 208, 3) := by decide +kernel
theorem dX12_undo_30 : decode cX12_undo 30 = .ok (.if_icmp .ge 30, 3) := by decide +kernel
theorem dX12_undo_33 : decode cX12_undo 33 = .ok (.aload_n 0, 1) := by decide +kernel
theorem dX12_undo_34 : decode cX12_undo 34 = .ok (.getfield 58, 3) := by decide +kernel
theorem dX12_undo_37 : decode cX12_undo 37 = .ok (.iload_n 1, 1) := by decide +kernel
theorem dX12_undo_38 : decode cX12_undo 38 = .ok (.aload_n 0, 1) := by decide +kernel
theorem dX12_undo_39 : decode cX12_undo 39 = .ok (.getfield 81, 3) := by decide +kernel
theorem dX12_undo_42 : decode cX12_undo 42 = .ok (.sipush 208, 3) := by decide +kernel
theorem dX12_undo_45 : decode cX12_undo 45 = .ok (.aload_n 0, 1) := by decide +kernel
theorem dX12_undo_46 : decode cX12_undo 46 = .ok (.getfield 292, 3) := by decide +kernel
theorem dX12_undo_49 : decode cX12_undo 49 = .ok (.imul, 1) := by decide +kernel
theorem dX12_undo_50 : decode cX12_undo 50 = .ok (.iload_n 1, 1) := by decide +kernel
theorem dX12_undo_51 : decode cX12_undo 51 = .ok (.iadd, 1) := by decide +kernel
theorem dX12_undo_52 : decode cX12_undo 52 = .ok (.iaload, 1) := by decide +kernel
theorem dX12_undo_53 : decode cX12_undo 53 = .ok (.iastore, 1) := by decide +kernel
theorem dX12_undo_54 : decode cX12_undo 54 = .ok (.iinc 1 1, 3) := by decide +kernel
theorem dX12_undo_57 : decode cX12_undo 57 = .ok (.goto (-31), 3) := by decide +kernel
theorem dX12_undo_60 : decode cX12_undo 60 = .ok (.aload_n 0, 1) := by decide +kernel
theorem dX12_undo_61 : decode cX12_undo 61 = .ok (.getfield 292, 3) := by decide +kernel
theorem dX12_undo_64 : decode cX12_undo 64 = .ok (.ireturn, 1) := by decide +kernel
set_option maxRecDepth 20000 in
theorem ggX12_log_X12_isIn : GoodIn wsX12_log wsX12_isIn := goodIn_r _ [7] (by decide +kernel) (by decide +kernel)
set_option maxRecDepth 20000 in
theorem gX12_log_X12_isIn : GoodIn wsX12_log (va_wsS RX12 211 yX12_isIn wsX12_isIn) := goodIn_app (goodIn_of _ (by decide +kernel)) ggX12_log_X12_isIn
theorem dX12_log_0 : decode cX12_log 0 = .ok (.aload_n 0, 1) := by decide +kernel
theorem dX12_log_1 : decode cX12_log 1 = .ok (.iconst 0, 1) := by decide +kernel
theorem dX12_log_2 : decode cX12_log 2 = .ok (.putfield 90, 3) := by decide +kernel
theorem dX12_log_5 : decode cX12_log 5 = .ok (.iload_n 1, 1) := by decide +kernel
theorem dX12_log_6 : decode cX12_log 6 = .ok (.i2l, 1) := by decide +kernel
theorem dX12_log_7 : decode cX12_log 7 = .ok (.lconst 0, 1) := by decide +kernel
theorem dX12_log_8 : decode cX12_log 8 = .ok (.aload_n 0, 1) := by decide +kernel
theorem dX12_log_9 : decode cX12_log 9 = .ok (.getfield 58, 3) := by decide +kernel
theorem dX12_log_12 : decode cX12_log 12 = .ok (.bipush 27, 2) := by decide +kernel
theorem dX12_log_14 : decode cX12_log 14 = .ok (.iaload, 1) := by decide +kernel
theorem dX12_log_15 : decode cX12_log 15 = .ok (.iconst 1, 1) := by decide +kernel
theorem dX12_log_16 : decode cX12_log 16 = .ok (.isub, 1) := by decide +kernel
theorem dX12_log_17 : decode cX12_log 17 = .ok (.i2l, 1) := by decide +kernel
theorem dX12_log_18 : decode cX12_log 18 = .ok (.invokestatic 211, 3) := by decide +kernel
theorem dX12_log_21 : decode cX12_log 21 = .ok (.ifCond .eq 41, 3) := by decide +kernel
theorem dX12_log_24 : decode cX12_log 24 = .ok (.iload_n 2, 1) := by decide +kernel
theorem dX12_log_25 : decode cX12_log 25 = .ok (.i2l, 1) := by decide +kernel
theorem dX12_log_26 : decode cX12_log 26 = .ok (.lconst 0, 1) := by decide +kernel
theorem dX12_log_27 : decode cX12_log 27 = .ok (.ldc2_w 261, 3) := by decide +kernel
theorem dX12_log_30 : decode cX12_log 30 = .ok (.invokestatic 211, 3) := by decide +kernel
theorem dX12_log_33 : decode cX12_log 33 = .ok (.ifCond .eq 29, 3) := by decide +kernel
theorem dX12_log_36 : decode cX12_log 36 = .ok (.aload_n 0, 1) := by decide +kernel
theorem dX12_log_37 : decode cX12_log 37 = .ok (.getfield 58, 3) := by decide +kernel
theorem dX12_log_40 : decode cX12_log 40 = .ok (.bipush 28, 2) := by decide +kernel
theorem dX12_log_42 : decode cX12_log 42 = .ok (.iconst 3, 1) := by decide +kernel
theorem dX12_log_43 : decode cX12_log 43 = .ok (.aload_n 0, 1) := by decide +kernel
theorem dX12_log_44 : decode cX12_log 44 = .ok (.getfield 58, 3) := by decide +kernel
theorem dX12_log_47 : decode cX12_log 47 = .ok (.bipush 27, 2) := by decide +kernel
theorem dX12_log_49 : decode cX12_log 49 = .ok (.iaload, 1) := by decide +kernel
theorem dX12_log_50 : decode cX12_log 50 = .ok (.iconst 1, 1) := by decide +kernel
theorem dX12_log_51 : decode cX12_log 51 = .ok (.isub, 1) := by decide +kernel
theorem dX12_log_52 : decode cX12_log 52 = .ok (.iload_n 1, 1) := by decide +kernel
theorem dX12_log_53 : decode cX12_log 53 = .ok (.isub, 1) := by decide +kernel
theorem dX12_log_54 : decode cX12_log 54 = .ok (.imul, 1) := by decide +kernel
theorem dX12_log_55 : decode cX12_log 55 = .ok (.iadd, 1) := by decide +kernel
theorem dX12_log_56 : decode cX12_log 56 = .ok (.iload_n 2, 1) := by decide +kernel
theorem dX12_log_57 : decode cX12_log 57 = .ok (.iadd, 1) := by decide +kernel
theorem dX12_log_58 : decode cX12_log 58 = .ok (.iaload, 1) := by decide +kernel
theorem dX12_log_59 : decode cX12_log 59 = .ok (.goto 4, 3) := by decide +kernel
theorem dX12_log_62 : decode cX12_log 62 = .ok (.iconst (-1), 1) := by decide +kernel
theorem dX12_log_63 : decode cX12_log 63 = .ok (.ireturn, 1) := by decide +kernel
theorem dX12_isWalk_0 : decode cX12_isWalk 0 = .ok (.iload_n 1, 1) := by decide +kernel
theorem dX12_isWalk_1 : decode cX12_isWalk 1 = .ok (.ifCond .lt 15, 3) := by decide +kernel
theorem dX12_isWalk_4 : decode cX12_isWalk 4 = .ok (.iload_n 1, 1) := by decide +kernel
theorem dX12_isWalk_5 : decode cX12_isWalk 5 = .ok (.aload_n 0, 1) := by decide +kernel
theorem dX12_isWalk_6 : decode cX12_isWalk 6 = .ok (.getfield 275, 3) := by decide +kernel
theorem dX12_isWalk_9 : decode cX12_isWalk 9 = .ok (.if_icmp .ge 7, 3) := by decide +kernel
theorem dX12_isWalk_12 : decode cX12_isWalk 12 = .ok (.iconst 1, 1) := by decide +kernel
theorem dX12_isWalk_13 : decode cX12_isWalk 13 = .ok (.goto 4, 3) := by decide +kernel
theorem dX12_isWalk_16 : decode cX12_isWalk 16 = .ok (.iconst 0, 1) := by decide +kernel
theorem dX12_isWalk_17 : decode cX12_isWalk 17 = .ok (.ireturn, 1) := by decide +kernel
set_option maxRecDepth 20000 in
theorem ggX12_walk_X12_isWalk : GoodIn wsX12_walk wsX12_isWalk := goodIn_r _ [9, 10, 14, 15, 16, 17, 18, 19, 20, 21, 22, 23, 24, 25, 26, 27, 28, 29, 30, 31, 32, 33, 34, 35, 36, 37, 38, 39, 40, 41, 42, 43, 44, 45, 46, 47, 48, 49, 50, 51, 52, 53, 54, 55, 56, 57, 58, 59, 60, 61, 62, 63, 64, 65, 66, 67] (by decide +kernel) (by decide +kernel)
set_option maxRecDepth 20000 in
theorem gX12_walk_X12_isWalk : GoodIn wsX12_walk (wsV RX12 392 RX12 yX12_isWalk wsX12_isWalk) := goodIn_app (goodIn_of _ (by decide +kernel)) ggX12_walk_X12_isWalk
set_option maxRecDepth 20000 in
theorem ggX12_walk_X12_isIn : GoodIn wsX12_walk wsX12_isIn := goodIn_r _ [13] (by decide +kernel) (by decide +kernel)
set_option maxRecDepth 20000 in
theorem gX12_walk_X12_isIn : GoodIn wsX12_walk (va_wsS RX12 211 yX12_isIn wsX12_isIn) := goodIn_app (goodIn_of _ (by decide +kernel)) ggX12_walk_X12_isIn
theorem dX12_walk_0 : decode cX12_walk 0 = .ok (.aload_n 0, 1) := by decide +kernel
theorem dX12_walk_1 : decode cX12_walk 1 = .ok (.iconst 0, 1) := by decide +kernel
theorem dX12_walk_2 : decode cX12_walk 2 = .ok (.putfield 90, 3) := by decide +kernel
theorem dX12_walk_5 : decode cX12_walk 5 = .ok (.aload_n 0, 1) := by decide +kernel
theorem dX12_walk_6 : decode cX12_walk 6 = .ok (.iload_n 1, 1) := by decide +kernel
theorem dX12_walk_7 : decode cX12_walk 7 = .ok (.invokevirtual 392, 3) := by decide +kernel
theorem dX12_walk_10 : decode cX12_walk 10 = .ok (.ifCond .eq 23, 3) := by decide +kernel
theorem dX12_walk_13 : decode cX12_walk 13 = .ok (.iload_n 2, 1) := by decide +kernel
theorem dX12_walk_14 : decode cX12_walk 14 = .ok (.i2l, 1) := by decide +kernel
theorem dX12_walk_15 : decode cX12_walk 15 = .ok (.ldc2_w 395, 3) := by decide +kernel
theorem dX12_walk_18 : decode cX12_walk 18 = .ok (.aload_n 0, 1) := by decide +kernel
theorem dX12_walk_19 : decode cX12_walk 19 = .ok (.getfield 55, 3) := by decide +kernel
theorem dX12_walk_22 : decode cX12_walk 22 = .ok (.iload_n 1, 1) := by decide +kernel
theorem dX12_walk_23 : decode cX12_walk 23 = .ok (.iaload, 1) := by decide +kernel
theorem dX12_walk_24 : decode cX12_walk 24 = .ok (.iconst 1, 1) := by decide +kernel
theorem dX12_walk_25 : decode cX12_walk 25 = .ok (.isub, 1) := by decide +kernel
theorem dX12_walk_26 : decode cX12_walk 26 = .ok (.i2l, 1) := by decide +kernel
theorem dX12_walk_27 : decode cX12_walk 27 = .ok (.invokestatic 211, 3) := by decide +kernel
theorem dX12_walk_30 : decode cX12_walk 30 = .ok (.ifCond .ne 5, 3) := by decide +kernel
theorem dX12_walk_33 : decode cX12_walk 33 = .ok (.iconst (-1), 1) := by decide +kernel
theorem dX12_walk_34 : decode cX12_walk 34 = .ok (.ireturn, 1) := by decide +kernel
theorem dX12_walk_35 : decode cX12_walk 35 = .ok (.iload_n 2, 1) := by decide +kernel
theorem dX12_walk_36 : decode cX12_walk 36 = .ok (.iconst (-1), 1) := by decide +kernel
theorem dX12_walk_37 : decode cX12_walk 37 = .ok (.if_icmp .ne 12, 3) := by decide +kernel
theorem dX12_walk_40 : decode cX12_walk 40 = .ok (.aload_n 0, 1) := by decide +kernel
theorem dX12_walk_41 : decode cX12_walk 41 = .ok (.getfield 55, 3) := by decide +kernel
theorem dX12_walk_44 : decode cX12_walk 44 = .ok (.iload_n 1, 1) := by decide +kernel
theorem dX12_walk_45 : decode cX12_walk 45 = .ok (.iaload, 1) := by decide +kernel
theorem dX12_walk_46 : decode cX12_walk 46 = .ok (.goto 14, 3) := by decide +kernel
theorem dX12_walk_49 : decode cX12_walk 49 = .ok (.aload_n 0, 1) := by decide +kernel
theorem dX12_walk_50 : decode cX12_walk 50 = .ok (.getfield 52, 3) := by decide +kernel
theorem dX12_walk_53 : decode cX12_walk 53 = .ok (.bipush 16, 2) := by decide +kernel
theorem dX12_walk_55 : decode cX12_walk 55 = .ok (.iload_n 1, 1) := by decide +kernel
theorem dX12_walk_56 : decode cX12_walk 56 = .ok (.imul, 1) := by decide +kernel
theorem dX12_walk_57 : decode cX12_walk 57 = .ok (.iload_n 2, 1) := by decide +kernel
theorem dX12_walk_58 : decode cX12_walk 58 = .ok (.iadd, 1) := by decide +kernel
theorem dX12_walk_59 : decode cX12_walk 59 = .ok (.iaload, 1) := by decide +kernel
theorem dX12_walk_60 : decode cX12_walk 60 = .ok (.ireturn, 1) := by decide +kernel
set_option maxRecDepth 20000 in
theorem ggX12_check_X12_isWalk : GoodIn wsX12_check wsX12_isWalk := goodIn_r _ [12, 13, 38, 39, 40, 41, 42, 43, 44, 45, 46, 47, 48, 49, 50, 51, 52, 53, 54, 55, 56, 57, 58, 59, 60, 61, 62, 63, 64, 65, 66, 67, 68, 69, 70, 71, 72, 73, 74, 75, 76, 77, 78, 79, 80, 81, 82, 83, 84, 85, 86, 87, 88, 89, 90, 91] (by decide +kernel) (by decide +kernel)
set_option maxRecDepth 20000 in
theorem gX12_check_X12_isWalk : GoodIn wsX12_check (wsV RX12 392 RX12 yX12_isWalk wsX12_isWalk) := goodIn_app (goodIn_of _ (by decide +kernel)) ggX12_check_X12_isWalk
set_option maxRecDepth 20000 in
theorem ggX12_check_X12_isIn : GoodIn wsX12_check wsX12_isIn := goodIn_r _ [16] (by decide +kernel) (by decide +kernel)
set_option maxRecDepth 20000 in
theorem gX12_check_X12_isIn : GoodIn wsX12_check (va_wsS RX12 211 yX12_isIn wsX12_isIn) := goodIn_app (goodIn_of _ (by decide +kernel)) ggX12_check_X12_isIn
set_option maxRecDepth 20000 in
theorem ggX12_check_X12_isCorner : GoodIn wsX12_check wsX12_isCorner := goodIn_r _ [20, 21, 38, 39, 40, 41, 42, 43, 44, 45, 46, 47, 48, 49, 50, 51, 52, 53, 54, 55, 56, 57, 58, 59, 60, 61, 62, 63, 64, 65, 66, 67, 68, 69, 70, 71, 72, 73, 74, 75, 76, 77, 78, 79, 80, 81, 82, 83, 84, 85, 86, 87, 88, 89, 90, 91] (by decide +kernel) (by decide +kernel)
set_option maxRecDepth 20000 in
theorem gX12_check_X12_isCorner : GoodIn wsX12_check (wsV RX12 354 RX12 yX12_isCorner wsX12_isCorner) := goodIn_app (goodIn_of _ (by decide +kernel)) ggX12_check_X12_isCorner
set_option maxRecDepth 20000 in
theorem ggX12_check_X12_between : GoodIn wsX12_check wsX12_between := goodIn_r _ [25, 2, 26, 7, 27, 28, 11, 29, 38, 39, 40, 41, 42, 43, 44, 45, 46, 47, 48, 49, 50, 51, 52, 53, 54, 55, 56, 57, 58, 59, 60, 61, 62, 63, 64, 65, 66, 67, 68, 69, 70, 71, 72, 73, 74, 75, 76, 77, 78, 79, 80, 81, 82, 83, 84, 85, 86, 87, 88, 89, 90, 91] (by decide +kernel) (by decide +kernel)
set_option maxRecDepth 20000 in
theorem gX12_check_X12_between : GoodIn wsX12_check (wsV RX12 397 RX12 yX12_between wsX12_between) := goodIn_app (goodIn_of _ (by decide +kernel)) ggX12_check_X12_between
set_option maxRecDepth 20000 in
theorem ggX12_check_X12_chapels : GoodIn wsX12_check wsX12_chapels := goodIn_r _ [33, 21, 34, 35, 36, 11, 37, 2, 26, 27, 28, 29, 38, 39, 40, 41, 42, 43, 44, 45, 46, 47, 48, 49, 50, 51, 52, 53, 54, 55, 56, 57, 58, 59, 60, 61, 62, 63, 64, 65, 66, 67, 68, 69, 70, 71, 72, 73, 74, 75, 76, 77, 78, 79, 80, 81, 82, 83, 84, 85, 86, 87, 88, 89, 90, 91] (by decide +kernel) (by decide +kernel)
set_option maxRecDepth 20000 in
theorem gX12_check_X12_chapels : GoodIn wsX12_check (wsV RX12 319 RX12 yX12_chapels wsX12_chapels) := goodIn_app (goodIn_of _ (by decide +kernel)) ggX12_check_X12_chapels
theorem dX12_check_0 : decode cX12_check 0 = .ok (.aload_n 0, 1) := by decide +kernel
theorem dX12_check_1 : decode cX12_check 1 = .ok (.iconst 0, 1) := by decide +kernel
theorem dX12_check_2 : decode cX12_check 2 = .ok (.putfield 90, 3) := by decide +kernel
theorem dX12_check_5 : decode cX12_check 5 = .ok (.aload_n 0, 1) := by decide +kernel
theorem dX12_check_6 : decode cX12_check 6 = .ok (.iload_n 1, 1) := by decide +kernel
theorem dX12_check_7 : decode cX12_check 7 = .ok (.invokevirtual 392, 3) := by decide +kernel
theorem dX12_check_10 : decode cX12_check 10 = .ok (.ifCond .eq 22, 3) := by decide +kernel
theorem dX12_check_13 : decode cX12_check 13 = .ok (.aload_n 0, 1) := by decide +kernel
theorem dX12_check_14 : decode cX12_check 14 = .ok (.getfield 283, 3) := by decide +kernel
theorem dX12_check_17 : decode cX12_check 17 = .ok (.ifCond .eq 15, 3) := by decide +kernel
theorem dX12_check_20 : decode cX12_check 20 = .ok (.iload_n 2, 1) := by decide +kernel
theorem dX12_check_21 : decode cX12_check 21 = .ok (.i2l, 1) := by decide +kernel
theorem dX12_check_22 : decode cX12_check 22 = .ok (.lconst 0, 1) := by decide +kernel
theorem dX12_check_23 : decode cX12_check 23 = .ok (.ldc2_w 261, 3) := by decide +kernel
theorem dX12_check_26 : decode cX12_check 26 = .ok (.invokestatic 211, 3) := by decide +kernel
theorem dX12_check_29 : decode cX12_check 29 = .ok (.ifCond .ne 7, 3) := by decide +kernel
theorem dX12_check_32 : decode cX12_check 32 = .ok (.ldc_w 325, 3) := by decide +kernel
theorem dX12_check_35 : decode cX12_check 35 = .ok (.ireturn, 1) := by decide +kernel
theorem dX12_check_36 : decode cX12_check 36 = .ok (.bipush 16, 2) := by decide +kernel
theorem dX12_check_38 : decode cX12_check 38 = .ok (.iload_n 1, 1) := by decide +kernel
theorem dX12_check_39 : decode cX12_check 39 = .ok (.imul, 1) := by decide +kernel
theorem dX12_check_40 : decode cX12_check 40 = .ok (.istore_n 3, 1) := by decide +kernel
theorem dX12_check_41 : decode cX12_check 41 = .ok (.aload_n 0, 1) := by decide +kernel
theorem dX12_check_42 : decode cX12_check 42 = .ok (.aload_n 0, 1) := by decide +kernel
theorem dX12_check_43 : decode cX12_check 43 = .ok (.getfield 52, 3) := by decide +kernel
theorem dX12_check_46 : decode cX12_check 46 = .ok (.iload_n 3, 1) := by decide +kernel
theorem dX12_check_47 : decode cX12_check 47 = .ok (.iaload, 1) := by decide +kernel
theorem dX12_check_48 : decode cX12_check 48 = .ok (.invokevirtual 354, 3) := by decide +kernel
theorem dX12_check_51 : decode cX12_check 51 = .ok (.ifCond .ne 5, 3) := by decide +kernel
theorem dX12_check_54 : decode cX12_check 54 = .ok (.iconst 0, 1) := by decide +kernel
theorem dX12_check_55 : decode cX12_check 55 = .ok (.ireturn, 1) := by decide +kernel
theorem dX12_check_56 : decode cX12_check 56 = .ok (.iconst 1, 1) := by decide +kernel
theorem dX12_check_57 : decode cX12_check 57 = .ok (.istore 4, 2) := by decide +kernel
theorem dX12_check_59 : decode cX12_check 59 = .ok (.iconst 0, 1) := by decide +kernel
theorem dX12_check_60 : decode cX12_check 60 = .ok (.istore 5, 2) := by decide +kernel
theorem dX12_check_62 : decode cX12_check 62 = .ok (.iconst 1, 1) := by decide +kernel
theorem dX12_check_63 : decode cX12_check 63 = .ok (.aload_n 0, 1) := by decide +kernel
theorem dX12_check_64 : decode cX12_check 64 = .ok (.getfield 52, 3) := by decide +kernel
theorem dX12_check_67 : decode cX12_check 67 = .ok (.iload_n 3, 1) := by decide +kernel
theorem dX12_check_68 : decode cX12_check 68 = .ok (.iaload, 1) := by decide +kernel
theorem dX12_check_69 : decode cX12_check 69 = .ok (.ishl, 1) := by decide +kernel
theorem dX12_check_70 : decode cX12_check 70 = .ok (.istore 6, 2) := by decide +kernel
theorem dX12_check_72 : decode cX12_check 72 = .ok (.iconst 1, 1) := by decide +kernel
theorem dX12_check_73 : decode cX12_check 73 = .ok (.istore 7, 2) := by decide +kernel
theorem dX12_check_75 : decode cX12_check 75 = .ok (.iload 4, 2) := by decide +kernel
theorem dX12_check_77 : decode cX12_check 77 = .ok (.aload_n 0, 1) := by decide +kernel
theorem dX12_check_78 : decode cX12_check 78 = .ok (.getfield 55, 3) := by decide +kernel
theorem dX12_check_81 : decode cX12_check 81 = .ok (.iload_n 1, 1) := by decide +kernel
theorem dX12_check_82 : decode cX12_check 82 = .ok (.iaload, 1) := by decide +kernel
theorem dX12_check_83 : decode cX12_check 83 = .ok (.if_icmp .ge 94, 3) := by decide +kernel
theorem dX12_check_86 : decode cX12_check 86 = .ok (.iload 7, 2) := by decide +kernel
theorem dX12_check_88 : decode cX12_check 88 = .ok (.ifCond .eq 89, 3) := by decide +kernel
theorem dX12_check_91 : decode cX12_check 91 = .ok (.aload_n 0, 1) := by decide +kernel
theorem dX12_check_92 : decode cX12_check 92 = .ok (.getfield 52, 3) := by decide +kernel
theorem dX12_check_95 : decode cX12_check 95 = .ok (.iload_n 3, 1) := by decide +kernel
theorem dX12_check_96 : decode cX12_check 96 = .ok (.iload 4, 2) := by decide +kernel
theorem dX12_check_98 : decode cX12_check 98 = .ok (.iadd, 1) := by decide +kernel
theorem dX12_check_99 : decode cX12_check 99 = .ok (.iaload, 1) := by decide +kernel
theorem dX12_check_100 : decode cX12_check 100 = .ok (.istore 8, 2) := by decide +kernel
theorem dX12_check_102 : decode cX12_check 102 = .ok (.aload_n 0, 1) := by decide +kernel
theorem dX12_check_103 : decode cX12_check 103 = .ok (.iload 8, 2) := by decide +kernel
theorem dX12_check_105 : decode cX12_check 105 = .ok (.invokevirtual 354, 3) := by decide +kernel
theorem dX12_check_108 : decode cX12_check 108 = .ok (.ifCond .eq 23, 3) := by decide +kernel
theorem dX12_check_111 : decode cX12_check 111 = .ok (.aload_n 0, 1) := by decide +kernel
theorem dX12_check_112 : decode cX12_check 112 = .ok (.aload_n 0, 1) := by decide +kernel
theorem dX12_check_113 : decode cX12_check 113 = .ok (.getfield 52, 3) := by decide +kernel
theorem dX12_check_116 : decode cX12_check 116 = .ok (.iload_n 3, 1) := by decide +kernel
theorem dX12_check_117 : decode cX12_check 117 = .ok (.iload 4, 2) := by decide +kernel
theorem dX12_check_119 : decode cX12_check 119 = .ok (.iadd, 1) := by decide +kernel
theorem dX12_check_120 : decode cX12_check 120 = .ok (.iconst 1, 1) := by decide +kernel
theorem dX12_check_121 : decode cX12_check 121 = .ok (.isub, 1) := by decide +kernel
theorem dX12_check_122 : decode cX12_check 122 = .ok (.iaload, 1) := by decide +kernel
theorem dX12_check_123 : decode cX12_check 123 = .ok (.iload 8, 2) := by decide +kernel
theorem dX12_check_125 : decode cX12_check 125 = .ok (.invokevirtual 397, 3) := by decide +kernel
theorem dX12_check_128 : decode cX12_check 128 = .ok (.goto 4, 3) := by decide +kernel
theorem dX12_check_131 : decode cX12_check 131 = .ok (.iconst (-1), 1) := by decide +kernel
theorem dX12_check_132 : decode cX12_check 132 = .ok (.istore 9, 2) := by decide +kernel
theorem dX12_check_134 : decode cX12_check 134 = .ok (.iload 9, 2) := by decide +kernel
theorem dX12_check_136 : decode cX12_check 136 = .ok (.iconst (-1), 1) := by decide +kernel
theorem dX12_check_137 : decode cX12_check 137 = .ok (.if_icmp .eq 7, 3) := by decide +kernel
theorem dX12_check_140 : decode cX12_check 140 = .ok (.iconst 1, 1) := by decide +kernel
theorem dX12_check_141 : decode cX12_check 141 = .ok (.goto 4, 3) := by decide +kernel
theorem dX12_check_144 : decode cX12_check 144 = .ok (.iconst 0, 1) := by decide +kernel
theorem dX12_check_145 : decode cX12_check 145 = .ok (.istore 7, 2) := by decide +kernel
theorem dX12_check_147 : decode cX12_check 147 = .ok (.iload 7, 2) := by decide +kernel
theorem dX12_check_149 : decode cX12_check 149 = .ok (.ifCond .ne 6, 3) := by decide +kernel
theorem dX12_check_152 : decode cX12_check 152 = .ok (.goto (-77), 3) := by decide +kernel
theorem dX12_check_155 : decode cX12_check 155 = .ok (.iload 5, 2) := by decide +kernel
theorem dX12_check_157 : decode cX12_check 157 = .ok (.iload 9, 2) := by decide +kernel
theorem dX12_check_159 : decode cX12_check 159 = .ok (.iadd, 1) := by decide +kernel
theorem dX12_check_160 : decode cX12_check 160 = .ok (.istore 5, 2) := by decide +kernel
theorem dX12_check_162 : decode cX12_check 162 = .ok (.iload 6, 2) := by decide +kernel
theorem dX12_check_164 : decode cX12_check 164 = .ok (.iconst 1, 1) := by decide +kernel
theorem dX12_check_165 : decode cX12_check 165 = .ok (.iload 8, 2) := by decide +kernel
theorem dX12_check_167 : decode cX12_check 167 = .ok (.ishl, 1) := by decide +kernel
theorem dX12_check_168 : decode cX12_check 168 = .ok (.ior, 1) := by decide +kernel
theorem dX12_check_169 : decode cX12_check 169 = .ok (.istore 6, 2) := by decide +kernel
theorem dX12_check_171 : decode cX12_check 171 = .ok (.iinc 4 1, 3) := by decide +kernel
theorem dX12_check_174 : decode cX12_check 174 = .ok (.goto (-99), 3) := by decide +kernel
theorem dX12_check_177 : decode cX12_check 177 = .ok (.iload_n 2, 1) := by decide +kernel
theorem dX12_check_178 : decode cX12_check 178 = .ok (.ifCond .ne 15, 3) := by decide +kernel
theorem dX12_check_181 : decode cX12_check 181 = .ok (.iload 7, 2) := by decide +kernel
theorem dX12_check_183 : decode cX12_check 183 = .ok (.ifCond .eq 7, 3) := by decide +kernel
theorem dX12_check_186 : decode cX12_check 186 = .ok (.iconst (-1), 1) := by decide +kernel
theorem dX12_check_187 : decode cX12_check 187 = .ok (.goto 5, 3) := by decide +kernel
theorem dX12_check_190 : decode cX12_check 190 = .ok (.iload 4, 2) := by decide +kernel
theorem dX12_check_192 : decode cX12_check 192 = .ok (.ireturn, 1) := by decide +kernel
theorem dX12_check_193 : decode cX12_check 193 = .ok (.iload_n 2, 1) := by decide +kernel
theorem dX12_check_194 : decode cX12_check 194 = .ok (.iconst 1, 1) := by decide +kernel
theorem dX12_check_195 : decode cX12_check 195 = .ok (.if_icmp .ne 8, 3) := by decide +kernel
theorem dX12_check_198 : decode cX12_check 198 = .ok (.iload 5, 2) := by decide +kernel
theorem dX12_check_200 : decode cX12_check 200 = .ok (.goto 17, 3) := by decide +kernel
theorem dX12_check_203 : decode cX12_check 203 = .ok (.iload 6, 2) := by decide +kernel
theorem dX12_check_205 : decode cX12_check 205 = .ok (.aload_n 0, 1) := by decide +kernel
theorem dX12_check_206 : decode cX12_check 206 = .ok (.aload_n 0, 1) := by decide +kernel
theorem dX12_check_207 : decode cX12_check 207 = .ok (.getfield 58, 3) := by decide +kernel
theorem dX12_check_210 : decode cX12_check 210 = .ok (.bipush 24, 2) := by decide +kernel
theorem dX12_check_212 : decode cX12_check 212 = .ok (.iaload, 1) := by decide +kernel
theorem dX12_check_213 : decode cX12_check 213 = .ok (.invokevirtual 319, 3) := by decide +kernel
theorem dX12_check_216 : decode cX12_check 216 = .ok (.iand, 1) := by decide +kernel
theorem dX12_check_217 : decode cX12_check 217 = .ok (.ireturn, 1) := by decide +kernel
set_option maxRecDepth 20000 in
theorem ggX12_far_X12_isCorner : GoodIn wsX12_far wsX12_isCorner := goodIn_r _ [7, 8, 32, 33, 34, 35, 36, 37, 38, 39, 40, 41, 42, 43, 44, 45, 46, 47, 48, 49, 50, 51, 52, 53, 54, 55, 56, 57, 58, 59, 60, 61, 62, 63, 64, 65, 66, 67, 68, 69, 70, 71, 72, 73, 74, 75, 76, 77, 78, 79, 80, 81, 82, 83, 84, 85] (by decide +kernel) (by decide +kernel)
set_option maxRecDepth 20000 in
theorem gX12_far_X12_isCorner : GoodIn wsX12_far (wsV RX12 354 RX12 yX12_isCorner wsX12_isCorner) := goodIn_app (goodIn_of _ (by decide +kernel)) ggX12_far_X12_isCorner
set_option maxRecDepth 20000 in
theorem ggX12_far_X12_laysYards : GoodIn wsX12_far wsX12_laysYards := goodIn_r _ [12, 8, 13, 14, 15, 16, 17, 18, 19, 20, 21, 22, 6, 23, 32, 33, 34, 35, 36, 37, 38, 39, 40, 41, 42, 43, 44, 45, 46, 47, 48, 49, 50, 51, 52, 53, 54, 55, 56, 57, 58, 59, 60, 61, 62, 63, 64, 65, 66, 67, 68, 69, 70, 71, 72, 73, 74, 75, 76, 77, 78, 79, 80, 81, 82, 83, 84, 85] (by decide +kernel) (by decide +kernel)
set_option maxRecDepth 20000 in
theorem gX12_far_X12_laysYards : GoodIn wsX12_far (wsV RX12 341 RX12 yX12_laysYards wsX12_laysYards) := goodIn_app (goodIn_of _ (by decide +kernel)) ggX12_far_X12_laysYards
set_option maxRecDepth 20000 in
theorem ggX12_far_X12_canCome : GoodIn wsX12_far wsX12_canCome := goodIn_r _ [27, 14, 28, 29, 30, 6, 31, 13, 32, 33, 34, 35, 36, 37, 38, 39, 40, 41, 42, 43, 44, 45, 46, 47, 48, 49, 50, 51, 52, 53, 54, 55, 56, 57, 58, 59, 60, 61, 62, 63, 64, 65, 66, 67, 68, 69, 70, 71, 72, 73, 74, 75, 76, 77, 78, 79, 80, 81, 82, 83, 84, 85] (by decide +kernel) (by decide +kernel)
set_option maxRecDepth 20000 in
theorem gX12_far_X12_canCome : GoodIn wsX12_far (wsV RX12 322 RX12 yX12_canCome wsX12_canCome) := goodIn_app (goodIn_of _ (by decide +kernel)) ggX12_far_X12_canCome
set_option maxRecDepth 20000 in
theorem ggX12_far_X12_far0 : GoodIn wsX12_far wsX12_far0 := goodIn_r _ [31, 13, 32, 33, 34, 35, 36, 37, 38, 39, 40, 41, 42, 43, 44, 45, 46, 47, 48, 49, 50, 51, 52, 53, 54, 55, 56, 57, 58, 59, 60, 61, 62, 63, 64, 65, 66, 67, 68, 69, 70, 71, 72, 73, 74, 75, 76, 77, 78, 79, 80, 81, 82, 83, 84, 85] (by decide +kernel) (by decide +kernel)
set_option maxRecDepth 20000 in
theorem gX12_far_X12_far0 : GoodIn wsX12_far (wsV RX12 304 RX12 yX12_far0 wsX12_far0) := goodIn_app (goodIn_of _ (by decide +kernel)) ggX12_far_X12_far0
theorem dX12_far_0 : decode cX12_far 0 = .ok (.aload_n 0, 1) := by decide +kernel
theorem dX12_far_1 : decode cX12_far 1 = .ok (.iconst 0, 1) := by decide +kernel
theorem dX12_far_2 : decode cX12_far 2 = .ok (.putfield 90, 3) := by decide +kernel
theorem dX12_far_5 : decode cX12_far 5 = .ok (.aload_n 0, 1) := by decide +kernel
theorem dX12_far_6 : decode cX12_far 6 = .ok (.iload_n 1, 1) := by decide +kernel
theorem dX12_far_7 : decode cX12_far 7 = .ok (.invokevirtual 354, 3) := by decide +kernel
theorem dX12_far_10 : decode cX12_far 10 = .ok (.ifCond .eq 11, 3) := by decide +kernel
theorem dX12_far_13 : decode cX12_far 13 = .ok (.aload_n 0, 1) := by decide +kernel
theorem dX12_far_14 : decode cX12_far 14 = .ok (.iload_n 2, 1) := by decide +kernel
theorem dX12_far_15 : decode cX12_far 15 = .ok (.invokevirtual 354, 3) := by decide +kernel
theorem dX12_far_18 : decode cX12_far 18 = .ok (.ifCond .ne 5, 3) := by decide +kernel
theorem dX12_far_21 : decode cX12_far 21 = .ok (.iconst (-1), 1) := by decide +kernel
theorem dX12_far_22 : decode cX12_far 22 = .ok (.ireturn, 1) := by decide +kernel
theorem dX12_far_23 : decode cX12_far 23 = .ok (.aload_n 0, 1) := by decide +kernel
theorem dX12_far_24 : decode cX12_far 24 = .ok (.aload_n 0, 1) := by decide +kernel
theorem dX12_far_25 : decode cX12_far 25 = .ok (.getfield 58, 3) := by decide +kernel
theorem dX12_far_28 : decode cX12_far 28 = .ok (.bipush 24, 2) := by decide +kernel
theorem dX12_far_30 : decode cX12_far 30 = .ok (.iaload, 1) := by decide +kernel
theorem dX12_far_31 : decode cX12_far 31 = .ok (.invokevirtual 341, 3) := by decide +kernel
theorem dX12_far_34 : decode cX12_far 34 = .ok (.aload_n 0, 1) := by decide +kernel
theorem dX12_far_35 : decode cX12_far 35 = .ok (.iload_n 1, 1) := by decide +kernel
theorem dX12_far_36 : decode cX12_far 36 = .ok (.iload_n 2, 1) := by decide +kernel
theorem dX12_far_37 : decode cX12_far 37 = .ok (.invokevirtual 322, 3) := by decide +kernel
theorem dX12_far_40 : decode cX12_far 40 = .ok (.ifCond .eq 12, 3) := by decide +kernel
theorem dX12_far_43 : decode cX12_far 43 = .ok (.aload_n 0, 1) := by decide +kernel
theorem dX12_far_44 : decode cX12_far 44 = .ok (.iload_n 1, 1) := by decide +kernel
theorem dX12_far_45 : decode cX12_far 45 = .ok (.iload_n 2, 1) := by decide +kernel
theorem dX12_far_46 : decode cX12_far 46 = .ok (.invokevirtual 304, 3) := by decide +kernel
theorem dX12_far_49 : decode cX12_far 49 = .ok (.goto 4, 3) := by decide +kernel
theorem dX12_far_52 : decode cX12_far 52 = .ok (.iconst (-1), 1) := by decide +kernel
theorem dX12_far_53 : decode cX12_far 53 = .ok (.ireturn, 1) := by decide +kernel
set_option maxRecDepth 20000 in
theorem ggX12_way_X12_isCorner : GoodIn wsX12_way wsX12_isCorner := goodIn_r _ [11, 12, 40, 41, 42, 43, 44, 45, 46, 47, 48, 49, 50, 51, 52, 53, 54, 55, 56, 57, 58, 59, 60, 61, 62, 63, 64, 65, 66, 67, 68, 69, 70, 71, 72, 73, 74, 75, 76, 77, 78, 79, 80, 81, 82, 83, 84, 85, 86, 87, 88, 89, 90, 91, 92, 93] (by decide +kernel) (by decide +kernel)
set_option maxRecDepth 20000 in
theorem gX12_way_X12_isCorner : GoodIn wsX12_way (wsV RX12 354 RX12 yX12_isCorner wsX12_isCorner) := goodIn_app (goodIn_of _ (by decide +kernel)) ggX12_way_X12_isCorner
set_option maxRecDepth 20000 in
theorem ggX12_way_X12_laysYards : GoodIn wsX12_way wsX12_laysYards := goodIn_r _ [16, 12, 17, 18, 19, 20, 21, 22, 23, 24, 25, 26, 10, 27, 40, 41, 42, 43, 44, 45, 46, 47, 48, 49, 50, 51, 52, 53, 54, 55, 56, 57, 58, 59, 60, 61, 62, 63, 64, 65, 66, 67, 68, 69, 70, 71, 72, 73, 74, 75, 76, 77, 78, 79, 80, 81, 82, 83, 84, 85, 86, 87, 88, 89, 90, 91, 92, 93] (by decide +kernel) (by decide +kernel)
set_option maxRecDepth 20000 in
theorem gX12_way_X12_laysYards : GoodIn wsX12_way (wsV RX12 341 RX12 yX12_laysYards wsX12_laysYards) := goodIn_app (goodIn_of _ (by decide +kernel)) ggX12_way_X12_laysYards
set_option maxRecDepth 20000 in
theorem ggX12_way_X12_goWay : GoodIn wsX12_way wsX12_goWay := goodIn_r _ [31, 4, 5, 6, 12, 3, 25, 26, 10, 27, 32, 33, 34, 35, 19, 20, 2, 36, 37, 38, 39, 17, 28, 29, 30, 40, 41, 42, 43, 44, 45, 46, 47, 48, 49, 50, 51, 52, 53, 54, 55, 56, 57, 58, 59, 60, 61, 62, 63, 64, 65, 66, 67, 68, 69, 70, 71, 72, 73, 74, 75, 76, 77, 78, 79, 80, 81, 82, 83, 84, 85, 86, 87, 88, 89, 90, 91, 92, 93] (by decide +kernel) (by decide +kernel)
set_option maxRecDepth 20000 in
theorem gX12_way_X12_goWay : GoodIn wsX12_way (wsV RX12 412 RX12 yX12_goWay wsX12_goWay) := goodIn_app (goodIn_of _ (by decide +kernel)) ggX12_way_X12_goWay
theorem dX12_way_0 : decode cX12_way 0 = .ok (.aload_n 0, 1) := by decide +kernel
theorem dX12_way_1 : decode cX12_way 1 = .ok (.iconst 0, 1) := by decide +kernel
theorem dX12_way_2 : decode cX12_way 2 = .ok (.putfield 90, 3) := by decide +kernel
theorem dX12_way_5 : decode cX12_way 5 = .ok (.aload_n 0, 1) := by decide +kernel
theorem dX12_way_6 : decode cX12_way 6 = .ok (.iload_n 1, 1) := by decide +kernel
theorem dX12_way_7 : decode cX12_way 7 = .ok (.invokevirtual 354, 3) := by decide +kernel
theorem dX12_way_10 : decode cX12_way 10 = .ok (.ifCond .eq 11, 3) := by decide +kernel
theorem dX12_way_13 : decode cX12_way 13 = .ok (.aload_n 0, 1) := by decide +kernel
theorem dX12_way_14 : decode cX12_way 14 = .ok (.iload_n 2, 1) := by decide +kernel
theorem dX12_way_15 : decode cX12_way 15 = .ok (.invokevirtual 354, 3) := by decide +kernel
theorem dX12_way_18 : decode cX12_way 18 = .ok (.ifCond .ne 5, 3) := by decide +kernel
theorem dX12_way_21 : decode cX12_way 21 = .ok (.iconst (-1), 1) := by decide +kernel
theorem dX12_way_22 : decode cX12_way 22 = .ok (.ireturn, 1) := by decide +kernel
theorem dX12_way_23 : decode cX12_way 23 = .ok (.aload_n 0, 1) := by decide +kernel
theorem dX12_way_24 : decode cX12_way 24 = .ok (.aload_n 0, 1) := by decide +kernel
theorem dX12_way_25 : decode cX12_way 25 = .ok (.getfield 58, 3) := by decide +kernel
theorem dX12_way_28 : decode cX12_way 28 = .ok (.bipush 24, 2) := by decide +kernel
theorem dX12_way_30 : decode cX12_way 30 = .ok (.iaload, 1) := by decide +kernel
theorem dX12_way_31 : decode cX12_way 31 = .ok (.invokevirtual 341, 3) := by decide +kernel
theorem dX12_way_34 : decode cX12_way 34 = .ok (.aload_n 0, 1) := by decide +kernel
theorem dX12_way_35 : decode cX12_way 35 = .ok (.iload_n 1, 1) := by decide +kernel
theorem dX12_way_36 : decode cX12_way 36 = .ok (.putfield 409, 3) := by decide +kernel
theorem dX12_way_39 : decode cX12_way 39 = .ok (.aload_n 0, 1) := by decide +kernel
theorem dX12_way_40 : decode cX12_way 40 = .ok (.iconst (-1), 1) := by decide +kernel
theorem dX12_way_41 : decode cX12_way 41 = .ok (.putfield 400, 3) := by decide +kernel
theorem dX12_way_44 : decode cX12_way 44 = .ok (.aload_n 0, 1) := by decide +kernel
theorem dX12_way_45 : decode cX12_way 45 = .ok (.iconst 0, 1) := by decide +kernel
theorem dX12_way_46 : decode cX12_way 46 = .ok (.putfield 403, 3) := by decide +kernel
theorem dX12_way_49 : decode cX12_way 49 = .ok (.aload_n 0, 1) := by decide +kernel
theorem dX12_way_50 : decode cX12_way 50 = .ok (.iconst 0, 1) := by decide +kernel
theorem dX12_way_51 : decode cX12_way 51 = .ok (.putfield 406, 3) := by decide +kernel
theorem dX12_way_54 : decode cX12_way 54 = .ok (.aload_n 0, 1) := by decide +kernel
theorem dX12_way_55 : decode cX12_way 55 = .ok (.iload_n 1, 1) := by decide +kernel
theorem dX12_way_56 : decode cX12_way 56 = .ok (.iload_n 2, 1) := by decide +kernel
theorem dX12_way_57 : decode cX12_way 57 = .ok (.iconst 1, 1) := by decide +kernel
theorem dX12_way_58 : decode cX12_way 58 = .ok (.iload_n 1, 1) := by decide +kernel
theorem dX12_way_59 : decode cX12_way 59 = .ok (.ishl, 1) := by decide +kernel
theorem dX12_way_60 : decode cX12_way 60 = .ok (.iconst 0, 1) := by decide +kernel
theorem dX12_way_61 : decode cX12_way 61 = .ok (.iconst 1, 1) := by decide +kernel
theorem dX12_way_62 : decode cX12_way 62 = .ok (.iload_n 1, 1) := by decide +kernel
theorem dX12_way_63 : decode cX12_way 63 = .ok (.invokevirtual 412, 3) := by decide +kernel
theorem dX12_way_66 : decode cX12_way 66 = .ok (.aload_n 0, 1) := by decide +kernel
theorem dX12_way_67 : decode cX12_way 67 = .ok (.getfield 400, 3) := by decide +kernel
theorem dX12_way_70 : decode cX12_way 70 = .ok (.ireturn, 1) := by decide +kernel
set_option maxRecDepth 20000 in
theorem ggX12_feast_X12_isCorner : GoodIn wsX12_feast wsX12_isCorner := goodIn_r _ [9, 10, 49, 50, 51, 52, 53, 54, 55, 56, 57, 58, 59, 60, 61, 62, 63, 64, 65, 66, 67, 68, 69, 70, 71, 72, 73, 74, 75, 76, 77, 78, 79, 80, 81, 82, 83, 84, 85, 86, 87, 88, 89, 90, 91, 92, 93, 94, 95, 96, 97, 98, 99, 100, 101, 102] (by decide +kernel) (by decide +kernel)
set_option maxRecDepth 20000 in
theorem gX12_feast_X12_isCorner : GoodIn wsX12_feast (wsV RX12 354 RX12 yX12_isCorner wsX12_isCorner) := goodIn_app (goodIn_of _ (by decide +kernel)) ggX12_feast_X12_isCorner
set_option maxRecDepth 20000 in
theorem ggX12_feast_X12_isIn : GoodIn wsX12_feast wsX12_isIn := goodIn_r _ [13] (by decide +kernel) (by decide +kernel)
set_option maxRecDepth 20000 in
theorem gX12_feast_X12_isIn : GoodIn wsX12_feast (va_wsS RX12 211 yX12_isIn wsX12_isIn) := goodIn_app (goodIn_of _ (by decide +kernel)) ggX12_feast_X12_isIn
set_option maxRecDepth 20000 in
theorem ggX12_feast_X12_laysYards : GoodIn wsX12_feast wsX12_laysYards := goodIn_r _ [17, 10, 18, 19, 20, 21, 22, 23, 24, 25, 26, 27, 8, 28, 49, 50, 51, 52, 53, 54, 55, 56, 57, 58, 59, 60, 61, 62, 63, 64, 65, 66, 67, 68, 69, 70, 71, 72, 73, 74, 75, 76, 77, 78, 79, 80, 81, 82, 83, 84, 85, 86, 87, 88, 89, 90, 91, 92, 93, 94, 95, 96, 97, 98, 99, 100, 101, 102] (by decide +kernel) (by decide +kernel)
set_option maxRecDepth 20000 in
theorem gX12_feast_X12_laysYards : GoodIn wsX12_feast (wsV RX12 341 RX12 yX12_laysYards wsX12_laysYards) := goodIn_app (goodIn_of _ (by decide +kernel)) ggX12_feast_X12_laysYards
set_option maxRecDepth 20000 in
theorem ggX12_feast_X12_chapels : GoodIn wsX12_feast wsX12_chapels := goodIn_r _ [32, 10, 33, 34, 35, 8, 36, 20, 21, 26, 27, 28, 49, 50, 51, 52, 53, 54, 55, 56, 57, 58, 59, 60, 61, 62, 63, 64, 65, 66, 67, 68, 69, 70, 71, 72, 73, 74, 75, 76, 77, 78, 79, 80, 81, 82, 83, 84, 85, 86, 87, 88, 89, 90, 91, 92, 93, 94, 95, 96, 97, 98, 99, 100, 101, 102] (by decide +kernel) (by decide +kernel)
set_option maxRecDepth 20000 in
theorem gX12_feast_X12_chapels : GoodIn wsX12_feast (wsV RX12 319 RX12 yX12_chapels wsX12_chapels) := goodIn_app (goodIn_of _ (by decide +kernel)) ggX12_feast_X12_chapels
set_option maxRecDepth 20000 in
theorem ggX12_feast_X12_has : GoodIn wsX12_feast wsX12_has := goodIn_r _ [28] (by decide +kernel) (by decide +kernel)
set_option maxRecDepth 20000 in
theorem gX12_feast_X12_has : GoodIn wsX12_feast (va_wsS RX12 223 yX12_has wsX12_has) := goodIn_app (goodIn_of _ (by decide +kernel)) ggX12_feast_X12_has
set_option maxRecDepth 20000 in
theorem ggX12_feast_X12_goFeast : GoodIn wsX12_feast wsX12_goFeast := goodIn_r _ [40, 3, 4, 10, 26, 27, 8, 28, 41, 42, 43, 44, 19, 45, 46, 47, 48, 18, 37, 38, 39, 49, 50, 51, 52, 53, 54, 55, 56, 57, 58, 59, 60, 61, 62, 63, 64, 65, 66, 67, 68, 69, 70, 71, 72, 73, 74, 75, 76, 77, 78, 79, 80, 81, 82, 83, 84, 85, 86, 87, 88, 89, 90, 91, 92, 93, 94, 95, 96, 97, 98, 99, 100, 101, 102] (by decide +kernel) (by decide +kernel)
set_option maxRecDepth 20000 in
theorem gX12_feast_X12_goFeast : GoodIn wsX12_feast (wsV RX12 422 RX12 yX12_goFeast wsX12_goFeast) := goodIn_app (goodIn_of _ (by decide +kernel)) ggX12_feast_X12_goFeast
theorem dX12_feast_0 : decode cX12_feast 0 = .ok (.aload_n 0, 1) := by decide +kernel
theorem dX12_feast_1 : decode cX12_feast 1 = .ok (.iconst 0, 1) := by decide +kernel
theorem dX12_feast_2 : decode cX12_feast 2 = .ok (.putfield 90, 3) := by decide +kernel
theorem dX12_feast_5 : decode cX12_feast 5 = .ok (.aload_n 0, 1) := by decide +kernel
theorem dX12_feast_6 : decode cX12_feast 6 = .ok (.iload_n 1, 1) := by decide +kernel
theorem dX12_feast_7 : decode cX12_feast 7 = .ok (.invokevirtual 354, 3) := by decide +kernel
theorem dX12_feast_10 : decode cX12_feast 10 = .ok (.ifCond .eq 13, 3) := by decide +kernel
theorem dX12_feast_13 : decode cX12_feast 13 = .ok (.iload_n 2, 1) := by decide +kernel
theorem dX12_feast_14 : decode cX12_feast 14 = .ok (.i2l, 1) := by decide +kernel
theorem dX12_feast_15 : decode cX12_feast 15 = .ok (.lconst 0, 1) := by decide +kernel
theorem dX12_feast_16 : decode cX12_feast 16 = .ok (.lconst 1, 1) := by decide +kernel
theorem dX12_feast_17 : decode cX12_feast 17 = .ok (.invokestatic 211, 3) := by decide +kernel
theorem dX12_feast_20 : decode cX12_feast 20 = .ok (.ifCond .ne 5, 3) := by decide +kernel
theorem dX12_feast_23 : decode cX12_feast 23 = .ok (.iconst (-1), 1) := by decide +kernel
theorem dX12_feast_24 : decode cX12_feast 24 = .ok (.ireturn, 1) := by decide +kernel
theorem dX12_feast_25 : decode cX12_feast 25 = .ok (.aload_n 0, 1) := by decide +kernel
theorem dX12_feast_26 : decode cX12_feast 26 = .ok (.aload_n 0, 1) := by decide +kernel
theorem dX12_feast_27 : decode cX12_feast 27 = .ok (.getfield 58, 3) := by decide +kernel
theorem dX12_feast_30 : decode cX12_feast 30 = .ok (.bipush 24, 2) := by decide +kernel
theorem dX12_feast_32 : decode cX12_feast 32 = .ok (.iaload, 1) := by decide +kernel
theorem dX12_feast_33 : decode cX12_feast 33 = .ok (.invokevirtual 341, 3) := by decide +kernel
theorem dX12_feast_36 : decode cX12_feast 36 = .ok (.aload_n 0, 1) := by decide +kernel
theorem dX12_feast_37 : decode cX12_feast 37 = .ok (.aload_n 0, 1) := by decide +kernel
theorem dX12_feast_38 : decode cX12_feast 38 = .ok (.getfield 58, 3) := by decide +kernel
theorem dX12_feast_41 : decode cX12_feast 41 = .ok (.bipush 24, 2) := by decide +kernel
theorem dX12_feast_43 : decode cX12_feast 43 = .ok (.iaload, 1) := by decide +kernel
theorem dX12_feast_44 : decode cX12_feast 44 = .ok (.invokevirtual 319, 3) := by decide +kernel
theorem dX12_feast_47 : decode cX12_feast 47 = .ok (.istore_n 3, 1) := by decide +kernel
theorem dX12_feast_48 : decode cX12_feast 48 = .ok (.aload_n 0, 1) := by decide +kernel
theorem dX12_feast_49 : decode cX12_feast 49 = .ok (.iconst (-1), 1) := by decide +kernel
theorem dX12_feast_50 : decode cX12_feast 50 = .ok (.putfield 416, 3) := by decide +kernel
theorem dX12_feast_53 : decode cX12_feast 53 = .ok (.aload_n 0, 1) := by decide +kernel
theorem dX12_feast_54 : decode cX12_feast 54 = .ok (.iconst (-1), 1) := by decide +kernel
theorem dX12_feast_55 : decode cX12_feast 55 = .ok (.putfield 419, 3) := by decide +kernel
theorem dX12_feast_58 : decode cX12_feast 58 = .ok (.aload_n 0, 1) := by decide +kernel
theorem dX12_feast_59 : decode cX12_feast 59 = .ok (.iload_n 1, 1) := by decide +kernel
theorem dX12_feast_60 : decode cX12_feast 60 = .ok (.iload_n 3, 1) := by decide +kernel
theorem dX12_feast_61 : decode cX12_feast 61 = .ok (.iconst 1, 1) := by decide +kernel
theorem dX12_feast_62 : decode cX12_feast 62 = .ok (.iload_n 1, 1) := by decide +kernel
theorem dX12_feast_63 : decode cX12_feast 63 = .ok (.ishl, 1) := by decide +kernel
theorem dX12_feast_64 : decode cX12_feast 64 = .ok (.iconst (-1), 1) := by decide +kernel
theorem dX12_feast_65 : decode cX12_feast 65 = .ok (.ixor, 1) := by decide +kernel
theorem dX12_feast_66 : decode cX12_feast 66 = .ok (.iand, 1) := by decide +kernel
theorem dX12_feast_67 : decode cX12_feast 67 = .ok (.iconst 0, 1) := by decide +kernel
theorem dX12_feast_68 : decode cX12_feast 68 = .ok (.iload_n 3, 1) := by decide +kernel
theorem dX12_feast_69 : decode cX12_feast 69 = .ok (.iload_n 1, 1) := by decide +kernel
theorem dX12_feast_70 : decode cX12_feast 70 = .ok (.invokestatic 223, 3) := by decide +kernel
theorem dX12_feast_73 : decode cX12_feast 73 = .ok (.ifCond .eq 7, 3) := by decide +kernel
theorem dX12_feast_76 : decode cX12_feast 76 = .ok (.iload_n 1, 1) := by decide +kernel
theorem dX12_feast_77 : decode cX12_feast 77 = .ok (.goto 4, 3) := by decide +kernel
theorem dX12_feast_80 : decode cX12_feast 80 = .ok (.iconst (-1), 1) := by decide +kernel
theorem dX12_feast_81 : decode cX12_feast 81 = .ok (.invokevirtual 422, 3) := by decide +kernel
theorem dX12_feast_84 : decode cX12_feast 84 = .ok (.iload_n 2, 1) := by decide +kernel
theorem dX12_feast_85 : decode cX12_feast 85 = .ok (.ifCond .ne 10, 3) := by decide +kernel
theorem dX12_feast_88 : decode cX12_feast 88 = .ok (.aload_n 0, 1) := by decide +kernel
theorem dX12_feast_89 : decode cX12_feast 89 = .ok (.getfield 416, 3) := by decide +kernel
theorem dX12_feast_92 : decode cX12_feast 92 = .ok (.goto 7, 3) := by decide +kernel
theorem dX12_feast_95 : decode cX12_feast 95 = .ok (.aload_n 0, 1) := by decide +kernel
theorem dX12_feast_96 : decode cX12_feast 96 = .ok (.getfield 419, 3) := by decide +kernel
theorem dX12_feast_99 : decode cX12_feast 99 = .ok (.ireturn, 1) := by decide +kernel
set_option maxRecDepth 20000 in
theorem ggX12_soon_X12_isWalker : GoodIn wsX12_soon wsX12_isWalker := goodIn_r _ [9, 10, 221, 222, 223, 224, 225, 226, 227, 228, 229, 230, 231, 232, 233, 234, 235, 236, 237, 238, 239, 240, 241, 242, 243, 244, 245, 246, 247, 248, 249, 250, 251, 252, 253, 254, 255, 256, 257, 258, 259, 260, 261, 262, 263, 264, 265, 266, 267, 268, 269, 270, 271, 272, 273, 274] (by decide +kernel) (by decide +kernel)
set_option maxRecDepth 20000 in
theorem gX12_soon_X12_isWalker : GoodIn wsX12_soon (wsV RX12 362 RX12 yX12_isWalker wsX12_isWalker) := goodIn_app (goodIn_of _ (by decide +kernel)) ggX12_soon_X12_isWalker
set_option maxRecDepth 20000 in
theorem ggX12_soon_X12_copy : GoodIn wsX12_soon wsX12_copy := goodIn_r _ [13] (by decide +kernel) (by decide +kernel)
set_option maxRecDepth 20000 in
theorem gX12_soon_X12_copy : GoodIn wsX12_soon (va_wsS RX12 426 yX12_copy wsX12_copy) := goodIn_app (goodIn_of _ (by decide +kernel)) ggX12_soon_X12_copy
set_option maxRecDepth 20000 in
theorem ggX12_soon_X12_goDay : GoodIn wsX12_soon wsX12_goDay := goodIn_r _ [17, 4, 18, 10, 19, 20, 21, 22, 23, 24, 25, 26, 27, 28, 8, 29, 30, 31, 32, 33, 34, 35, 36, 37, 38, 39, 40, 41, 42, 43, 44, 45, 46, 47, 48, 49, 50, 51, 52, 53, 54, 55, 56, 57, 58, 59, 60, 61, 62, 63, 64, 65, 66, 67, 68, 69, 70, 71, 72, 73, 74, 75, 76, 77, 78, 79, 80, 81, 82, 83, 84, 85, 86, 87, 88, 89, 90, 91, 92, 93, 94, 95, 96, 97, 98, 99, 100, 101, 102, 103, 104, 105, 106, 107, 108, 109, 110, 111, 112, 113, 114, 115, 116, 117, 118, 119, 120, 121, 122, 123, 124, 125, 126, 127, 128, 129, 130, 131, 132, 133, 134, 135, 136, 137, 138, 139, 140, 141, 142, 143, 144, 145, 146, 147, 148, 149, 150, 151, 152, 153, 154, 155, 156, 157, 158, 159, 160, 161, 162, 163, 164, 165, 166, 167, 168, 169, 170, 171, 172, 173, 174, 175, 176, 177, 178, 179, 180, 181, 182, 183, 184, 185, 186, 187, 188, 189, 190, 191, 192, 193, 194, 195, 196, 197, 198, 199, 200, 201, 202, 203, 204, 205, 206, 207, 208, 209, 210, 211, 212, 213, 214, 215, 216, 217, 218, 219, 220, 221, 222, 223, 224, 225, 226, 227, 228, 229, 230, 231, 232, 233, 234, 235, 236, 237, 238, 239, 240, 241, 242, 243, 244, 245, 246, 247, 248, 249, 250, 251, 252, 253, 254, 255, 256, 257, 258, 259, 260, 261, 262, 263, 264, 265, 266, 267, 268, 269, 270, 271, 272, 273, 274] (by decide +kernel) (by decide +kernel)
set_option maxRecDepth 20000 in
theorem gX12_soon_X12_goDay : GoodIn wsX12_soon (wsV RX12 370 RX12 yX12_goDay wsX12_goDay) := goodIn_app (goodIn_of _ (by decide +kernel)) ggX12_soon_X12_goDay
set_option maxRecDepth 20000 in
theorem ggX12_soon_X12_has : GoodIn wsX12_soon wsX12_has := goodIn_r _ [37] (by decide +kernel) (by decide +kernel)
set_option maxRecDepth 20000 in
theorem gX12_soon_X12_has : GoodIn wsX12_soon (va_wsS RX12 223 yX12_has wsX12_has) := goodIn_app (goodIn_of _ (by decide +kernel)) ggX12_soon_X12_has
theorem dX12_soon_0 : decode cX12_soon 0 = .ok (.aload_n 0, 1) := by decide +kernel
theorem dX12_soon_1 : decode cX12_soon 1 = .ok (.iconst 0, 1) := by decide +kernel
theorem dX12_soon_2 : decode cX12_soon 2 = .ok (.putfield 90, 3) := by decide +kernel
theorem dX12_soon_5 : decode cX12_soon 5 = .ok (.aload_n 0, 1) := by decide +kernel
theorem dX12_soon_6 : decode cX12_soon 6 = .ok (.iload_n 1, 1) := by decide +kernel
theorem dX12_soon_7 : decode cX12_soon 7 = .ok (.invokevirtual 362, 3) := by decide +kernel
theorem dX12_soon_10 : decode cX12_soon 10 = .ok (.ifCond .ne 5, 3) := by decide +kernel
theorem dX12_soon_13 : decode cX12_soon 13 = .ok (.iconst (-1), 1) := by decide +kernel
theorem dX12_soon_14 : decode cX12_soon 14 = .ok (.ireturn, 1) := by decide +kernel
theorem dX12_soon_15 : decode cX12_soon 15 = .ok (.aload_n 0, 1) := by decide +kernel
theorem dX12_soon_16 : decode cX12_soon 16 = .ok (.getfield 58, 3) := by decide +kernel
theorem dX12_soon_19 : decode cX12_soon 19 = .ok (.aload_n 0, 1) := by decide +kernel
theorem dX12_soon_20 : decode cX12_soon 20 = .ok (.getfield 61, 3) := by decide +kernel
theorem dX12_soon_23 : decode cX12_soon 23 = .ok (.invokestatic 426, 3) := by decide +kernel
theorem dX12_soon_26 : decode cX12_soon 26 = .ok (.iconst 1, 1) := by decide +kernel
theorem dX12_soon_27 : decode cX12_soon 27 = .ok (.istore_n 2, 1) := by decide +kernel
theorem dX12_soon_28 : decode cX12_soon 28 = .ok (.iload_n 2, 1) := by decide +kernel
theorem dX12_soon_29 : decode cX12_soon 29 = .ok (.bipush 60, 2) := by decide +kernel
theorem dX12_soon_31 : decode cX12_soon 31 = .ok (.if_icmp .gt 31, 3) := by decide +kernel
theorem dX12_soon_34 : decode cX12_soon 34 = .ok (.aload_n 0, 1) := by decide +kernel
theorem dX12_soon_35 : decode cX12_soon 35 = .ok (.aload_n 0, 1) := by decide +kernel
theorem dX12_soon_36 : decode cX12_soon 36 = .ok (.getfield 61, 3) := by decide +kernel
theorem dX12_soon_39 : decode cX12_soon 39 = .ok (.invokevirtual 370, 3) := by decide +kernel
theorem dX12_soon_42 : decode cX12_soon 42 = .ok (.istore_n 3, 1) := by decide +kernel
theorem dX12_soon_43 : decode cX12_soon 43 = .ok (.aload_n 0, 1) := by decide +kernel
theorem dX12_soon_44 : decode cX12_soon 44 = .ok (.getfield 344, 3) := by decide +kernel
theorem dX12_soon_47 : decode cX12_soon 47 = .ok (.iload_n 1, 1) := by decide +kernel
theorem dX12_soon_48 : decode cX12_soon 48 = .ok (.invokestatic 223, 3) := by decide +kernel
theorem dX12_soon_51 : decode cX12_soon 51 = .ok (.ifCond .eq 5, 3) := by decide +kernel
theorem dX12_soon_54 : decode cX12_soon 54 = .ok (.iload_n 2, 1) := by decide +kernel
theorem dX12_soon_55 : decode cX12_soon 55 = .ok (.ireturn, 1) := by decide +kernel
theorem dX12_soon_56 : decode cX12_soon 56 = .ok (.iinc 2 1, 3) := by decide +kernel
theorem dX12_soon_59 : decode cX12_soon 59 = .ok (.goto (-31), 3) := by decide +kernel
theorem dX12_soon_62 : decode cX12_soon 62 = .ok (.iconst (-1), 1) := by decide +kernel
theorem dX12_soon_63 : decode cX12_soon 63 = .ok (.ireturn, 1) := by decide +kernel
set_option maxRecDepth 20000 in
theorem ggX12_worn_X12_isCorner : GoodIn wsX12_worn wsX12_isCorner := goodIn_r _ [9, 10, 225, 226, 227, 228, 229, 230, 231, 232, 233, 234, 235, 236, 237, 238, 239, 240, 241, 242, 243, 244, 245, 246, 247, 248, 249, 250, 251, 252, 253, 254, 255, 256, 257, 258, 259, 260, 261, 262, 263, 264, 265, 266, 267, 268, 269, 270, 271, 272, 273, 274, 275, 276, 277, 278] (by decide +kernel) (by decide +kernel)
set_option maxRecDepth 20000 in
theorem gX12_worn_X12_isCorner : GoodIn wsX12_worn (wsV RX12 354 RX12 yX12_isCorner wsX12_isCorner) := goodIn_app (goodIn_of _ (by decide +kernel)) ggX12_worn_X12_isCorner
set_option maxRecDepth 20000 in
theorem ggX12_worn_X12_isIn : GoodIn wsX12_worn wsX12_isIn := goodIn_r _ [13] (by decide +kernel) (by decide +kernel)
set_option maxRecDepth 20000 in
theorem gX12_worn_X12_isIn : GoodIn wsX12_worn (va_wsS RX12 211 yX12_isIn wsX12_isIn) := goodIn_app (goodIn_of _ (by decide +kernel)) ggX12_worn_X12_isIn
set_option maxRecDepth 20000 in
theorem ggX12_worn_X12_copy : GoodIn wsX12_worn wsX12_copy := goodIn_r _ [16] (by decide +kernel) (by decide +kernel)
set_option maxRecDepth 20000 in
theorem gX12_worn_X12_copy : GoodIn wsX12_worn (va_wsS RX12 426 yX12_copy wsX12_copy) := goodIn_app (goodIn_of _ (by decide +kernel)) ggX12_worn_X12_copy
set_option maxRecDepth 20000 in
theorem ggX12_worn_X12_goDay : GoodIn wsX12_worn wsX12_goDay := goodIn_r _ [20, 21, 22, 23, 24, 25, 26, 27, 28, 29, 30, 31, 32, 33, 8, 34, 10, 35, 36, 37, 38, 39, 40, 41, 42, 43, 44, 45, 46, 47, 48, 49, 50, 51, 52, 53, 54, 55, 56, 57, 58, 59, 60, 61, 62, 63, 64, 65, 66, 67, 68, 69, 70, 71, 72, 73, 74, 75, 76, 77, 78, 79, 80, 81, 82, 83, 84, 85, 86, 87, 88, 89, 90, 91, 92, 93, 94, 95, 96, 97, 98, 99, 100, 101, 102, 103, 104, 105, 106, 107, 108, 109, 110, 111, 112, 113, 114, 115, 116, 117, 118, 119, 120, 121, 122, 123, 124, 125, 126, 127, 128, 129, 130, 131, 132, 133, 134, 135, 136, 137, 138, 139, 140, 141, 142, 143, 144, 145, 146, 147, 148, 149, 150, 151, 152, 153, 154, 155, 156, 157, 158, 159, 160, 161, 162, 163, 164, 165, 166, 167, 168, 169, 170, 171, 172, 173, 174, 175, 176, 177, 178, 179, 180, 181, 182, 183, 184, 185, 186, 187, 188, 189, 190, 191, 192, 193, 194, 195, 196, 197, 198, 199, 200, 201, 202, 203, 204, 205, 206, 207, 208, 209, 210, 211, 212, 213, 214, 215, 216, 217, 218, 219, 220, 221, 222, 223, 224, 225, 226, 227, 228, 229, 230, 231, 232, 233, 234, 235, 236, 237, 238, 239, 240, 241, 242, 243, 244, 245, 246, 247, 248, 249, 250, 251, 252, 253, 254, 255, 256, 257, 258, 259, 260, 261, 262, 263, 264, 265, 266, 267, 268, 269, 270, 271, 272, 273, 274, 275, 276, 277, 278] (by decide +kernel) (by decide +kernel)
set_option maxRecDepth 20000 in
theorem gX12_worn_X12_goDay : GoodIn wsX12_worn (wsV RX12 370 RX12 yX12_goDay wsX12_goDay) := goodIn_app (goodIn_of _ (by decide +kernel)) ggX12_worn_X12_goDay
theorem dX12_worn_0 : decode cX12_worn 0 = .ok (.aload_n 0, 1) := by decide +kernel
theorem dX12_worn_1 : decode cX12_worn 1 = .ok (.iconst 0, 1) := by decide +kernel
theorem dX12_worn_2 : decode cX12_worn 2 = .ok (.putfield 90, 3) := by decide +kernel
theorem dX12_worn_5 : decode cX12_worn 5 = .ok (.aload_n 0, 1) := by decide +kernel
theorem dX12_worn_6 : decode cX12_worn 6 = .ok (.iload_n 1, 1) := by decide +kernel
theorem dX12_worn_7 : decode cX12_worn 7 = .ok (.invokevirtual 354, 3) := by decide +kernel
theorem dX12_worn_10 : decode cX12_worn 10 = .ok (.ifCond .eq 15, 3) := by decide +kernel
theorem dX12_worn_13 : decode cX12_worn 13 = .ok (.iload_n 2, 1) := by decide +kernel
theorem dX12_worn_14 : decode cX12_worn 14 = .ok (.i2l, 1) := by decide +kernel
theorem dX12_worn_15 : decode cX12_worn 15 = .ok (.lconst 1, 1) := by decide +kernel
theorem dX12_worn_16 : decode cX12_worn 16 = .ok (.ldc2_w 430, 3) := by decide +kernel
theorem dX12_worn_19 : decode cX12_worn 19 = .ok (.invokestatic 211, 3) := by decide +kernel
theorem dX12_worn_22 : decode cX12_worn 22 = .ok (.ifCond .ne 5, 3) := by decide +kernel
theorem dX12_worn_25 : decode cX12_worn 25 = .ok (.iconst (-1), 1) := by decide +kernel
theorem dX12_worn_26 : decode cX12_worn 26 = .ok (.ireturn, 1) := by decide +kernel
theorem dX12_worn_27 : decode cX12_worn 27 = .ok (.aload_n 0, 1) := by decide +kernel
theorem dX12_worn_28 : decode cX12_worn 28 = .ok (.getfield 58, 3) := by decide +kernel
theorem dX12_worn_31 : decode cX12_worn 31 = .ok (.aload_n 0, 1) := by decide +kernel
theorem dX12_worn_32 : decode cX12_worn 32 = .ok (.getfield 61, 3) := by decide +kernel
theorem dX12_worn_35 : decode cX12_worn 35 = .ok (.invokestatic 426, 3) := by decide +kernel
theorem dX12_worn_38 : decode cX12_worn 38 = .ok (.iconst 0, 1) := by decide +kernel
theorem dX12_worn_39 : decode cX12_worn 39 = .ok (.istore_n 3, 1) := by decide +kernel
theorem dX12_worn_40 : decode cX12_worn 40 = .ok (.iload_n 3, 1) := by decide +kernel
theorem dX12_worn_41 : decode cX12_worn 41 = .ok (.bipush 60, 2) := by decide +kernel
theorem dX12_worn_43 : decode cX12_worn 43 = .ok (.if_icmp .gt 35, 3) := by decide +kernel
theorem dX12_worn_46 : decode cX12_worn 46 = .ok (.aload_n 0, 1) := by decide +kernel
theorem dX12_worn_47 : decode cX12_worn 47 = .ok (.getfield 61, 3) := by decide +kernel
theorem dX12_worn_50 : decode cX12_worn 50 = .ok (.iconst 2, 1) := by decide +kernel
theorem dX12_worn_51 : decode cX12_worn 51 = .ok (.iload_n 1, 1) := by decide +kernel
theorem dX12_worn_52 : decode cX12_worn 52 = .ok (.imul, 1) := by decide +kernel
theorem dX12_worn_53 : decode cX12_worn 53 = .ok (.iconst 0, 1) := by decide +kernel
theorem dX12_worn_54 : decode cX12_worn 54 = .ok (.iadd, 1) := by decide +kernel
theorem dX12_worn_55 : decode cX12_worn 55 = .ok (.iaload, 1) := by decide +kernel
theorem dX12_worn_56 : decode cX12_worn 56 = .ok (.iload_n 2, 1) := by decide +kernel
theorem dX12_worn_57 : decode cX12_worn 57 = .ok (.if_icmp .lt 5, 3) := by decide +kernel
theorem dX12_worn_60 : decode cX12_worn 60 = .ok (.iload_n 3, 1) := by decide +kernel
theorem dX12_worn_61 : decode cX12_worn 61 = .ok (.ireturn, 1) := by decide +kernel
theorem dX12_worn_62 : decode cX12_worn 62 = .ok (.aload_n 0, 1) := by decide +kernel
theorem dX12_worn_63 : decode cX12_worn 63 = .ok (.aload_n 0, 1) := by decide +kernel
theorem dX12_worn_64 : decode cX12_worn 64 = .ok (.getfield 61, 3) := by decide +kernel
theorem dX12_worn_67 : decode cX12_worn 67 = .ok (.invokevirtual 370, 3) := by decide +kernel
theorem dX12_worn_70 : decode cX12_worn 70 = .ok (.istore 4, 2) := by decide +kernel
theorem dX12_worn_72 : decode cX12_worn 72 = .ok (.iinc 3 1, 3) := by decide +kernel
theorem dX12_worn_75 : decode cX12_worn 75 = .ok (.goto (-35), 3) := by decide +kernel
theorem dX12_worn_78 : decode cX12_worn 78 = .ok (.iconst (-1), 1) := by decide +kernel
theorem dX12_worn_79 : decode cX12_worn 79 = .ok (.ireturn, 1) := by decide +kernel
set_option maxRecDepth 20000 in
theorem ggX12_seen_X12_isCorner : GoodIn wsX12_seen wsX12_isCorner := goodIn_r _ [8, 9, 10, 11, 12, 13, 14, 15, 16, 17, 18, 19, 20, 21, 22, 23, 24, 25, 26, 27, 28, 29, 30, 31, 32, 33, 34, 35, 36, 37, 38, 39, 40, 41, 42, 43, 44, 45, 46, 47, 48, 49, 50, 51, 52, 53, 54, 55, 56, 57, 58, 59, 60, 61, 62, 63] (by decide +kernel) (by decide +kernel)
set_option maxRecDepth 20000 in
theorem gX12_seen_X12_isCorner : GoodIn wsX12_seen (wsV RX12 354 RX12 yX12_isCorner wsX12_isCorner) := goodIn_app (goodIn_of _ (by decide +kernel)) ggX12_seen_X12_isCorner
theorem dX12_seen_0 : decode cX12_seen 0 = .ok (.aload_n 0, 1) := by decide +kernel
theorem dX12_seen_1 : decode cX12_seen 1 = .ok (.iconst 0, 1) := by decide +kernel
theorem dX12_seen_2 : decode cX12_seen 2 = .ok (.putfield 90, 3) := by decide +kernel
theorem dX12_seen_5 : decode cX12_seen 5 = .ok (.aload_n 0, 1) := by decide +kernel
theorem dX12_seen_6 : decode cX12_seen 6 = .ok (.iload_n 1, 1) := by decide +kernel
theorem dX12_seen_7 : decode cX12_seen 7 = .ok (.invokevirtual 354, 3) := by decide +kernel
theorem dX12_seen_10 : decode cX12_seen 10 = .ok (.ifCond .eq 12, 3) := by decide +kernel
theorem dX12_seen_13 : decode cX12_seen 13 = .ok (.aload_n 0, 1) := by decide +kernel
theorem dX12_seen_14 : decode cX12_seen 14 = .ok (.getfield 289, 3) := by decide +kernel
theorem dX12_seen_17 : decode cX12_seen 17 = .ok (.bipush 10, 2) := by decide +kernel
theorem dX12_seen_19 : decode cX12_seen 19 = .ok (.if_icmp .ne 5, 3) := by decide +kernel
theorem dX12_seen_22 : decode cX12_seen 22 = .ok (.iconst (-1), 1) := by decide +kernel
theorem dX12_seen_23 : decode cX12_seen 23 = .ok (.ireturn, 1) := by decide +kernel
theorem dX12_seen_24 : decode cX12_seen 24 = .ok (.aload_n 0, 1) := by decide +kernel
theorem dX12_seen_25 : decode cX12_seen 25 = .ok (.getfield 84, 3) := by decide +kernel
theorem dX12_seen_28 : decode cX12_seen 28 = .ok (.iconst 2, 1) := by decide +kernel
theorem dX12_seen_29 : decode cX12_seen 29 = .ok (.aload_n 0, 1) := by decide +kernel
theorem dX12_seen_30 : decode cX12_seen 30 = .ok (.getfield 289, 3) := by decide +kernel
theorem dX12_seen_33 : decode cX12_seen 33 = .ok (.imul, 1) := by decide +kernel
theorem dX12_seen_34 : decode cX12_seen 34 = .ok (.iload_n 1, 1) := by decide +kernel
theorem dX12_seen_35 : decode cX12_seen 35 = .ok (.iastore, 1) := by decide +kernel
theorem dX12_seen_36 : decode cX12_seen 36 = .ok (.aload_n 0, 1) := by decide +kernel
theorem dX12_seen_37 : decode cX12_seen 37 = .ok (.getfield 84, 3) := by decide +kernel
theorem dX12_seen_40 : decode cX12_seen 40 = .ok (.iconst 2, 1) := by decide +kernel
theorem dX12_seen_41 : decode cX12_seen 41 = .ok (.aload_n 0, 1) := by decide +kernel
theorem dX12_seen_42 : decode cX12_seen 42 = .ok (.getfield 289, 3) := by decide +kernel
theorem dX12_seen_45 : decode cX12_seen 45 = .ok (.imul, 1) := by decide +kernel
theorem dX12_seen_46 : decode cX12_seen 46 = .ok (.iconst 1, 1) := by decide +kernel
theorem dX12_seen_47 : decode cX12_seen 47 = .ok (.iadd, 1) := by decide +kernel
theorem dX12_seen_48 : decode cX12_seen 48 = .ok (.iload_n 2, 1) := by decide +kernel
theorem dX12_seen_49 : decode cX12_seen 49 = .ok (.ifCond .eq 7, 3) := by decide +kernel
theorem dX12_seen_52 : decode cX12_seen 52 = .ok (.iconst 1, 1) := by decide +kernel
theorem dX12_seen_53 : decode cX12_seen 53 = .ok (.goto 4, 3) := by decide +kernel
theorem dX12_seen_56 : decode cX12_seen 56 = .ok (.iconst 0, 1) := by decide +kernel
theorem dX12_seen_57 : decode cX12_seen 57 = .ok (.iastore, 1) := by decide +kernel
theorem dX12_seen_58 : decode cX12_seen 58 = .ok (.aload_n 0, 1) := by decide +kernel
theorem dX12_seen_59 : decode cX12_seen 59 = .ok (.dup, 1) := by decide +kernel
theorem dX12_seen_60 : decode cX12_seen 60 = .ok (.getfield 289, 3) := by decide +kernel
theorem dX12_seen_63 : decode cX12_seen 63 = .ok (.iconst 1, 1) := by decide +kernel
theorem dX12_seen_64 : decode cX12_seen 64 = .ok (.iadd, 1) := by decide +kernel
theorem dX12_seen_65 : decode cX12_seen 65 = .ok (.putfield 289, 3) := by decide +kernel
theorem dX12_seen_68 : decode cX12_seen 68 = .ok (.aload_n 0, 1) := by decide +kernel
theorem dX12_seen_69 : decode cX12_seen 69 = .ok (.getfield 289, 3) := by decide +kernel
theorem dX12_seen_72 : decode cX12_seen 72 = .ok (.ireturn, 1) := by decide +kernel
set_option maxRecDepth 20000 in
theorem ggX12_knocked_X12_couldBe : GoodIn wsX12_knocked wsX12_couldBe := goodIn_r _ [7, 8, 2, 9, 10, 11, 6, 12, 13, 14, 15, 16, 17, 18, 19, 20, 21, 22, 23, 24, 25, 26, 27, 28, 29, 30, 31, 32, 33, 34, 35, 36, 37, 38, 39, 40, 41, 42, 43, 44, 45, 46, 47, 48, 49, 50, 51, 52, 53, 54, 55, 56, 57, 58, 59, 60, 61, 62, 63, 64, 65, 66, 67, 68, 69, 70, 71, 72, 73, 74, 75, 76, 77, 78, 79, 80, 81, 82, 83, 84, 85] (by decide +kernel) (by decide +kernel)
set_option maxRecDepth 20000 in
theorem gX12_knocked_X12_couldBe : GoodIn wsX12_knocked (wsV RX12 438 RX12 yX12_couldBe wsX12_couldBe) := goodIn_app (goodIn_of _ (by decide +kernel)) ggX12_knocked_X12_couldBe
theorem dX12_knocked_0 : decode cX12_knocked 0 = .ok (.aload_n 0, 1) := by decide +kernel
theorem dX12_knocked_1 : decode cX12_knocked 1 = .ok (.iconst 0, 1) := by decide +kernel
theorem dX12_knocked_2 : decode cX12_knocked 2 = .ok (.putfield 90, 3) := by decide +kernel
theorem dX12_knocked_5 : decode cX12_knocked 5 = .ok (.aload_n 0, 1) := by decide +kernel
theorem dX12_knocked_6 : decode cX12_knocked 6 = .ok (.getfield 283, 3) := by decide +kernel
theorem dX12_knocked_9 : decode cX12_knocked 9 = .ok (.ifCond .eq 8, 3) := by decide +kernel
theorem dX12_knocked_12 : decode cX12_knocked 12 = .ok (.iload_n 1, 1) := by decide +kernel
theorem dX12_knocked_13 : decode cX12_knocked 13 = .ok (.iconst (-1), 1) := by decide +kernel
theorem dX12_knocked_14 : decode cX12_knocked 14 = .ok (.if_icmp .ge 5, 3) := by decide +kernel
theorem dX12_knocked_17 : decode cX12_knocked 17 = .ok (.iconst (-1), 1) := by decide +kernel
theorem dX12_knocked_18 : decode cX12_knocked 18 = .ok (.ireturn, 1) := by decide +kernel
theorem dX12_knocked_19 : decode cX12_knocked 19 = .ok (.iconst 0, 1) := by decide +kernel
theorem dX12_knocked_20 : decode cX12_knocked 20 = .ok (.istore_n 2, 1) := by decide +kernel
theorem dX12_knocked_21 : decode cX12_knocked 21 = .ok (.iconst 0, 1) := by decide +kernel
theorem dX12_knocked_22 : decode cX12_knocked 22 = .ok (.istore_n 3, 1) := by decide +kernel
theorem dX12_knocked_23 : decode cX12_knocked 23 = .ok (.iload_n 3, 1) := by decide +kernel
theorem dX12_knocked_24 : decode cX12_knocked 24 = .ok (.bipush 99, 2) := by decide +kernel
theorem dX12_knocked_26 : decode cX12_knocked 26 = .ok (.if_icmp .gt 30, 3) := by decide +kernel
theorem dX12_knocked_29 : decode cX12_knocked 29 = .ok (.aload_n 0, 1) := by decide +kernel
theorem dX12_knocked_30 : decode cX12_knocked 30 = .ok (.iload_n 3, 1) := by decide +kernel
theorem dX12_knocked_31 : decode cX12_knocked 31 = .ok (.invokevirtual 438, 3) := by decide +kernel
theorem dX12_knocked_34 : decode cX12_knocked 34 = .ok (.ifCond .ne 6, 3) := by decide +kernel
theorem dX12_knocked_37 : decode cX12_knocked 37 = .ok (.goto 13, 3) := by decide +kernel
theorem dX12_knocked_40 : decode cX12_knocked 40 = .ok (.iload_n 2, 1) := by decide +kernel
theorem dX12_knocked_41 : decode cX12_knocked 41 = .ok (.iload_n 1, 1) := by decide +kernel
theorem dX12_knocked_42 : decode cX12_knocked 42 = .ok (.if_icmp .ne 5, 3) := by decide +kernel
theorem dX12_knocked_45 : decode cX12_knocked 45 = .ok (.iload_n 3, 1) := by decide +kernel
theorem dX12_knocked_46 : decode cX12_knocked 46 = .ok (.ireturn, 1) := by decide +kernel
theorem dX12_knocked_47 : decode cX12_knocked 47 = .ok (.iinc 2 1, 3) := by decide +kernel
theorem dX12_knocked_50 : decode cX12_knocked 50 = .ok (.iinc 3 1, 3) := by decide +kernel
theorem dX12_knocked_53 : decode cX12_knocked 53 = .ok (.goto (-30), 3) := by decide +kernel
theorem dX12_knocked_56 : decode cX12_knocked 56 = .ok (.iload_n 1, 1) := by decide +kernel
theorem dX12_knocked_57 : decode cX12_knocked 57 = .ok (.iconst (-1), 1) := by decide +kernel
theorem dX12_knocked_58 : decode cX12_knocked 58 = .ok (.if_icmp .ne 7, 3) := by decide +kernel
theorem dX12_knocked_61 : decode cX12_knocked 61 = .ok (.iload_n 2, 1) := by decide +kernel
theorem dX12_knocked_62 : decode cX12_knocked 62 = .ok (.goto 4, 3) := by decide +kernel
theorem dX12_knocked_65 : decode cX12_knocked 65 = .ok (.iconst (-1), 1) := by decide +kernel
theorem dX12_knocked_66 : decode cX12_knocked 66 = .ok (.ireturn, 1) := by decide +kernel
set_option maxRecDepth 20000 in
theorem ggX12_ask_X12_couldBe : GoodIn wsX12_ask wsX12_couldBe := goodIn_r _ [12, 13, 2, 14, 15, 16, 11, 17, 18, 19, 20, 21, 22, 23, 3, 24, 25, 26, 27, 28, 29, 30, 31, 32, 33, 34, 35, 36, 37, 38, 39, 40, 41, 42, 43, 44, 45, 46, 47, 48, 49, 50, 51, 52, 53, 54, 55, 56, 57, 58, 59, 60, 61, 62, 63, 64, 65, 66, 67, 68, 69, 70, 71, 72, 73, 74, 75, 76, 77, 78, 79, 80, 81, 82, 83, 84, 85, 86, 87, 88, 89] (by decide +kernel) (by decide +kernel)
set_option maxRecDepth 20000 in
theorem gX12_ask_X12_couldBe : GoodIn wsX12_ask (wsV RX12 438 RX12 yX12_couldBe wsX12_couldBe) := goodIn_app (goodIn_of _ (by decide +kernel)) ggX12_ask_X12_couldBe
set_option maxRecDepth 20000 in
theorem ggX12_ask_X12_wallsBy : GoodIn wsX12_ask wsX12_wallsBy := goodIn_r _ [35, 13, 36, 37, 38, 39, 40, 41, 42, 43, 44, 45, 46, 47, 48, 49, 50, 51, 52, 53, 54, 55, 56, 57, 58, 59, 60, 61, 62, 63, 64, 65, 66, 67, 68, 69, 70, 71, 72, 73, 74, 75, 76, 77, 78, 79, 80, 81, 82, 83, 84, 85, 86, 87, 88, 89] (by decide +kernel) (by decide +kernel)
set_option maxRecDepth 20000 in
theorem gX12_ask_X12_wallsBy : GoodIn wsX12_ask (wsV RX12 435 RX12 yX12_wallsBy wsX12_wallsBy) := goodIn_app (goodIn_of _ (by decide +kernel)) ggX12_ask_X12_wallsBy
set_option maxRecDepth 20000 in
theorem ggX12_ask_X12_chapels : GoodIn wsX12_ask wsX12_chapels := goodIn_r _ [23, 3, 24, 25, 26, 11, 27, 2, 28, 29, 30, 31, 36, 37, 38, 39, 40, 41, 42, 43, 44, 45, 46, 47, 48, 49, 50, 51, 52, 53, 54, 55, 56, 57, 58, 59, 60, 61, 62, 63, 64, 65, 66, 67, 68, 69, 70, 71, 72, 73, 74, 75, 76, 77, 78, 79, 80, 81, 82, 83, 84, 85, 86, 87, 88, 89] (by decide +kernel) (by decide +kernel)
set_option maxRecDepth 20000 in
theorem gX12_ask_X12_chapels : GoodIn wsX12_ask (wsV RX12 319 RX12 yX12_chapels wsX12_chapels) := goodIn_app (goodIn_of _ (by decide +kernel)) ggX12_ask_X12_chapels
set_option maxRecDepth 20000 in
theorem ggX12_ask_X12_has : GoodIn wsX12_ask wsX12_has := goodIn_r _ [31] (by decide +kernel) (by decide +kernel)
set_option maxRecDepth 20000 in
theorem gX12_ask_X12_has : GoodIn wsX12_ask (va_wsS RX12 223 yX12_has wsX12_has) := goodIn_app (goodIn_of _ (by decide +kernel)) ggX12_ask_X12_has
theorem dX12_ask_0 : decode cX12_ask 0 = .ok (.aload_n 0, 1) := by decide +kernel
theorem dX12_ask_1 : decode cX12_ask 1 = .ok (.iconst 0, 1) := by decide +kernel
theorem dX12_ask_2 : decode cX12_ask 2 = .ok (.putfield 90, 3) := by decide +kernel
theorem dX12_ask_5 : decode cX12_ask 5 = .ok (.aload_n 0, 1) := by decide +kernel
theorem dX12_ask_6 : decode cX12_ask 6 = .ok (.getfield 283, 3) := by decide +kernel
theorem dX12_ask_9 : decode cX12_ask 9 = .ok (.ifCond .ne 5, 3) := by decide +kernel
theorem dX12_ask_12 : decode cX12_ask 12 = .ok (.iconst (-1), 1) := by decide +kernel
theorem dX12_ask_13 : decode cX12_ask 13 = .ok (.ireturn, 1) := by decide +kernel
theorem dX12_ask_14 : decode cX12_ask 14 = .ok (.iconst (-1), 1) := by decide +kernel
theorem dX12_ask_15 : decode cX12_ask 15 = .ok (.istore_n 1, 1) := by decide +kernel
theorem dX12_ask_16 : decode cX12_ask 16 = .ok (.iconst 0, 1) := by decide +kernel
theorem dX12_ask_17 : decode cX12_ask 17 = .ok (.istore_n 2, 1) := by decide +kernel
theorem dX12_ask_18 : decode cX12_ask 18 = .ok (.iconst 0, 1) := by decide +kernel
theorem dX12_ask_19 : decode cX12_ask 19 = .ok (.istore_n 3, 1) := by decide +kernel
theorem dX12_ask_20 : decode cX12_ask 20 = .ok (.iload_n 3, 1) := by decide +kernel
theorem dX12_ask_21 : decode cX12_ask 21 = .ok (.aload_n 0, 1) := by decide +kernel
theorem dX12_ask_22 : decode cX12_ask 22 = .ok (.getfield 280, 3) := by decide +kernel
theorem dX12_ask_25 : decode cX12_ask 25 = .ok (.if_icmp .ge 106, 3) := by decide +kernel
theorem dX12_ask_28 : decode cX12_ask 28 = .ok (.iconst 0, 1) := by decide +kernel
theorem dX12_ask_29 : decode cX12_ask 29 = .ok (.istore 4, 2) := by decide +kernel
theorem dX12_ask_31 : decode cX12_ask 31 = .ok (.iconst 0, 1) := by decide +kernel
theorem dX12_ask_32 : decode cX12_ask 32 = .ok (.istore 5, 2) := by decide +kernel
theorem dX12_ask_34 : decode cX12_ask 34 = .ok (.iconst 0, 1) := by decide +kernel
theorem dX12_ask_35 : decode cX12_ask 35 = .ok (.istore 6, 2) := by decide +kernel
theorem dX12_ask_37 : decode cX12_ask 37 = .ok (.iload 6, 2) := by decide +kernel
theorem dX12_ask_39 : decode cX12_ask 39 = .ok (.bipush 99, 2) := by decide +kernel
theorem dX12_ask_41 : decode cX12_ask 41 = .ok (.if_icmp .gt 51, 3) := by decide +kernel
theorem dX12_ask_44 : decode cX12_ask 44 = .ok (.aload_n 0, 1) := by decide +kernel
theorem dX12_ask_45 : decode cX12_ask 45 = .ok (.iload 6, 2) := by decide +kernel
theorem dX12_ask_47 : decode cX12_ask 47 = .ok (.invokevirtual 438, 3) := by decide +kernel
theorem dX12_ask_50 : decode cX12_ask 50 = .ok (.ifCond .ne 6, 3) := by decide +kernel
theorem dX12_ask_53 : decode cX12_ask 53 = .ok (.goto 33, 3) := by decide +kernel
theorem dX12_ask_56 : decode cX12_ask 56 = .ok (.iconst 1, 1) := by decide +kernel
theorem dX12_ask_57 : decode cX12_ask 57 = .ok (.istore 5, 2) := by decide +kernel
theorem dX12_ask_59 : decode cX12_ask 59 = .ok (.iload 4, 2) := by decide +kernel
theorem dX12_ask_61 : decode cX12_ask 61 = .ok (.aload_n 0, 1) := by decide +kernel
theorem dX12_ask_62 : decode cX12_ask 62 = .ok (.aload_n 0, 1) := by decide +kernel
theorem dX12_ask_63 : decode cX12_ask 63 = .ok (.iload 6, 2) := by decide +kernel
theorem dX12_ask_65 : decode cX12_ask 65 = .ok (.invokevirtual 435, 3) := by decide +kernel
theorem dX12_ask_68 : decode cX12_ask 68 = .ok (.invokevirtual 319, 3) := by decide +kernel
theorem dX12_ask_71 : decode cX12_ask 71 = .ok (.iload_n 3, 1) := by decide +kernel
theorem dX12_ask_72 : decode cX12_ask 72 = .ok (.invokestatic 223, 3) := by decide +kernel
theorem dX12_ask_75 : decode cX12_ask 75 = .ok (.ifCond .eq 7, 3) := by decide +kernel
theorem dX12_ask_78 : decode cX12_ask 78 = .ok (.iconst 1, 1) := by decide +kernel
theorem dX12_ask_79 : decode cX12_ask 79 = .ok (.goto 4, 3) := by decide +kernel
theorem dX12_ask_82 : decode cX12_ask 82 = .ok (.iconst (-1), 1) := by decide +kernel
theorem dX12_ask_83 : decode cX12_ask 83 = .ok (.iadd, 1) := by decide +kernel
theorem dX12_ask_84 : decode cX12_ask 84 = .ok (.istore 4, 2) := by decide +kernel
theorem dX12_ask_86 : decode cX12_ask 86 = .ok (.iinc 6 1, 3) := by decide +kernel
theorem dX12_ask_89 : decode cX12_ask 89 = .ok (.goto (-52), 3) := by decide +kernel
theorem dX12_ask_92 : decode cX12_ask 92 = .ok (.iload 5, 2) := by decide +kernel
theorem dX12_ask_94 : decode cX12_ask 94 = .ok (.ifCond .ne 5, 3) := by decide +kernel
theorem dX12_ask_97 : decode cX12_ask 97 = .ok (.iconst (-1), 1) := by decide +kernel
theorem dX12_ask_98 : decode cX12_ask 98 = .ok (.ireturn, 1) := by decide +kernel
theorem dX12_ask_99 : decode cX12_ask 99 = .ok (.iload 4, 2) := by decide +kernel
theorem dX12_ask_101 : decode cX12_ask 101 = .ok (.invokestatic 441, 3) := by decide +kernel
theorem dX12_ask_104 : decode cX12_ask 104 = .ok (.istore 4, 2) := by decide +kernel
theorem dX12_ask_106 : decode cX12_ask 106 = .ok (.iload_n 1, 1) := by decide +kernel
theorem dX12_ask_107 : decode cX12_ask 107 = .ok (.iconst (-1), 1) := by decide +kernel
theorem dX12_ask_108 : decode cX12_ask 108 = .ok (.if_icmp .eq 12, 3) := by decide +kernel
theorem dX12_ask_111 : decode cX12_ask 111 = .ok (.iload 4, 2) := by decide +kernel
theorem dX12_ask_113 : decode cX12_ask 113 = .ok (.iload_n 2, 1) := by decide +kernel
theorem dX12_ask_114 : decode cX12_ask 114 = .ok (.if_icmp .lt 6, 3) := by decide +kernel
theorem dX12_ask_117 : decode cX12_ask 117 = .ok (.goto 8, 3) := by decide +kernel
theorem dX12_ask_120 : decode cX12_ask 120 = .ok (.iload_n 3, 1) := by decide +kernel
theorem dX12_ask_121 : decode cX12_ask 121 = .ok (.istore_n 1, 1) := by decide +kernel
theorem dX12_ask_122 : decode cX12_ask 122 = .ok (.iload 4, 2) := by decide +kernel
theorem dX12_ask_124 : decode cX12_ask 124 = .ok (.istore_n 2, 1) := by decide +kernel
theorem dX12_ask_125 : decode cX12_ask 125 = .ok (.iinc 3 1, 3) := by decide +kernel
theorem dX12_ask_128 : decode cX12_ask 128 = .ok (.goto (-108), 3) := by decide +kernel
theorem dX12_ask_131 : decode cX12_ask 131 = .ok (.iload_n 1, 1) := by decide +kernel
theorem dX12_ask_132 : decode cX12_ask 132 = .ok (.ireturn, 1) := by decide +kernel
set_option maxRecDepth 20000 in
theorem ggX12_walls_X12_isIn : GoodIn wsX12_walls wsX12_isIn := goodIn_r _ [8] (by decide +kernel) (by decide +kernel)
set_option maxRecDepth 20000 in
theorem gX12_walls_X12_isIn : GoodIn wsX12_walls (va_wsS RX12 211 yX12_isIn wsX12_isIn) := goodIn_app (goodIn_of _ (by decide +kernel)) ggX12_walls_X12_isIn
set_option maxRecDepth 20000 in
theorem ggX12_walls_J6_bitCount_0f7a4 : GoodIn wsX12_walls wsJ6_bitCount_0f7a4 := goodIn_r _ [12, 13, 14, 15] (by decide +kernel) (by decide +kernel)
set_option maxRecDepth 20000 in
theorem gX12_walls_J6_bitCount_0f7a4 : GoodIn wsX12_walls (va_wsS RX12 326 yJ6_bitCount_0f7a4 wsJ6_bitCount_0f7a4) := goodIn_app (goodIn_of _ (by decide +kernel)) ggX12_walls_J6_bitCount_0f7a4
set_option maxRecDepth 20000 in
theorem ggX12_walls_X12_chapels : GoodIn wsX12_walls wsX12_chapels := goodIn_r _ [19, 3, 20, 21, 22, 7, 23, 2, 24, 25, 26, 27, 28, 29, 30, 31, 32, 33, 34, 35, 36, 37, 38, 39, 40, 41, 42, 43, 44, 45, 46, 47, 48, 49, 50, 51, 52, 53, 54, 55, 56, 57, 58, 59, 60, 61, 62, 63, 64, 65, 66, 67, 68, 69, 70, 71, 72, 73, 74, 75, 76, 77, 78, 79, 80, 81] (by decide +kernel) (by decide +kernel)
set_option maxRecDepth 20000 in
theorem gX12_walls_X12_chapels : GoodIn wsX12_walls (wsV RX12 319 RX12 yX12_chapels wsX12_chapels) := goodIn_app (goodIn_of _ (by decide +kernel)) ggX12_walls_X12_chapels
theorem dX12_walls_0 : decode cX12_walls 0 = .ok (.aload_n 0, 1) := by decide +kernel
theorem dX12_walls_1 : decode cX12_walls 1 = .ok (.iconst 0, 1) := by decide +kernel
theorem dX12_walls_2 : decode cX12_walls 2 = .ok (.putfield 90, 3) := by decide +kernel
theorem dX12_walls_5 : decode cX12_walls 5 = .ok (.aload_n 0, 1) := by decide +kernel
theorem dX12_walls_6 : decode cX12_walls 6 = .ok (.getfield 283, 3) := by decide +kernel
theorem dX12_walls_9 : decode cX12_walls 9 = .ok (.ifCond .eq 21, 3) := by decide +kernel
theorem dX12_walls_12 : decode cX12_walls 12 = .ok (.iload_n 1, 1) := by decide +kernel
theorem dX12_walls_13 : decode cX12_walls 13 = .ok (.i2l, 1) := by decide +kernel
theorem dX12_walls_14 : decode cX12_walls 14 = .ok (.lconst 1, 1) := by decide +kernel
theorem dX12_walls_15 : decode cX12_walls 15 = .ok (.iconst 1, 1) := by decide +kernel
theorem dX12_walls_16 : decode cX12_walls 16 = .ok (.aload_n 0, 1) := by decide +kernel
theorem dX12_walls_17 : decode cX12_walls 17 = .ok (.getfield 280, 3) := by decide +kernel
theorem dX12_walls_20 : decode cX12_walls 20 = .ok (.ishl, 1) := by decide +kernel
theorem dX12_walls_21 : decode cX12_walls 21 = .ok (.iconst 1, 1) := by decide +kernel
theorem dX12_walls_22 : decode cX12_walls 22 = .ok (.isub, 1) := by decide +kernel
theorem dX12_walls_23 : decode cX12_walls 23 = .ok (.i2l, 1) := by decide +kernel
theorem dX12_walls_24 : decode cX12_walls 24 = .ok (.invokestatic 211, 3) := by decide +kernel
theorem dX12_walls_27 : decode cX12_walls 27 = .ok (.ifCond .ne 5, 3) := by decide +kernel
theorem dX12_walls_30 : decode cX12_walls 30 = .ok (.iconst (-1), 1) := by decide +kernel
theorem dX12_walls_31 : decode cX12_walls 31 = .ok (.ireturn, 1) := by decide +kernel
theorem dX12_walls_32 : decode cX12_walls 32 = .ok (.iconst (-1), 1) := by decide +kernel
theorem dX12_walls_33 : decode cX12_walls 33 = .ok (.istore_n 2, 1) := by decide +kernel
theorem dX12_walls_34 : decode cX12_walls 34 = .ok (.iconst 0, 1) := by decide +kernel
theorem dX12_walls_35 : decode cX12_walls 35 = .ok (.istore_n 3, 1) := by decide +kernel
theorem dX12_walls_36 : decode cX12_walls 36 = .ok (.iload_n 3, 1) := by decide +kernel
theorem dX12_walls_37 : decode cX12_walls 37 = .ok (.iconst 1, 1) := by decide +kernel
theorem dX12_walls_38 : decode cX12_walls 38 = .ok (.aload_n 0, 1) := by decide +kernel
theorem dX12_walls_39 : decode cX12_walls 39 = .ok (.getfield 283, 3) := by decide +kernel
theorem dX12_walls_42 : decode cX12_walls 42 = .ok (.ishl, 1) := by decide +kernel
theorem dX12_walls_43 : decode cX12_walls 43 = .ok (.if_icmp .ge 62, 3) := by decide +kernel
theorem dX12_walls_46 : decode cX12_walls 46 = .ok (.iload_n 3, 1) := by decide +kernel
theorem dX12_walls_47 : decode cX12_walls 47 = .ok (.aload_n 0, 1) := by decide +kernel
theorem dX12_walls_48 : decode cX12_walls 48 = .ok (.getfield 58, 3) := by decide +kernel
theorem dX12_walls_51 : decode cX12_walls 51 = .ok (.bipush 24, 2) := by decide +kernel
theorem dX12_walls_53 : decode cX12_walls 53 = .ok (.iaload, 1) := by decide +kernel
theorem dX12_walls_54 : decode cX12_walls 54 = .ok (.iand, 1) := by decide +kernel
theorem dX12_walls_55 : decode cX12_walls 55 = .ok (.ifCond .ne 44, 3) := by decide +kernel
theorem dX12_walls_58 : decode cX12_walls 58 = .ok (.iload_n 2, 1) := by decide +kernel
theorem dX12_walls_59 : decode cX12_walls 59 = .ok (.iconst (-1), 1) := by decide +kernel
theorem dX12_walls_60 : decode cX12_walls 60 = .ok (.if_icmp .eq 17, 3) := by decide +kernel
theorem dX12_walls_63 : decode cX12_walls 63 = .ok (.iload_n 3, 1) := by decide +kernel
theorem dX12_walls_64 : decode cX12_walls 64 = .ok (.invokestatic 326, 3) := by decide +kernel
theorem dX12_walls_67 : decode cX12_walls 67 = .ok (.iload_n 2, 1) := by decide +kernel
theorem dX12_walls_68 : decode cX12_walls 68 = .ok (.invokestatic 326, 3) := by decide +kernel
theorem dX12_walls_71 : decode cX12_walls 71 = .ok (.if_icmp .lt 6, 3) := by decide +kernel
theorem dX12_walls_74 : decode cX12_walls 74 = .ok (.goto 25, 3) := by decide +kernel
theorem dX12_walls_77 : decode cX12_walls 77 = .ok (.iload_n 1, 1) := by decide +kernel
theorem dX12_walls_78 : decode cX12_walls 78 = .ok (.aload_n 0, 1) := by decide +kernel
theorem dX12_walls_79 : decode cX12_walls 79 = .ok (.aload_n 0, 1) := by decide +kernel
theorem dX12_walls_80 : decode cX12_walls 80 = .ok (.getfield 58, 3) := by decide +kernel
theorem dX12_walls_83 : decode cX12_walls 83 = .ok (.bipush 24, 2) := by decide +kernel
theorem dX12_walls_85 : decode cX12_walls 85 = .ok (.iaload, 1) := by decide +kernel
theorem dX12_walls_86 : decode cX12_walls 86 = .ok (.iload_n 3, 1) := by decide +kernel
theorem dX12_walls_87 : decode cX12_walls 87 = .ok (.ior, 1) := by decide +kernel
theorem dX12_walls_88 : decode cX12_walls 88 = .ok (.invokevirtual 319, 3) := by decide +kernel
theorem dX12_walls_91 : decode cX12_walls 91 = .ok (.iconst (-1), 1) := by decide +kernel
theorem dX12_walls_92 : decode cX12_walls 92 = .ok (.ixor, 1) := by decide +kernel
theorem dX12_walls_93 : decode cX12_walls 93 = .ok (.iand, 1) := by decide +kernel
theorem dX12_walls_94 : decode cX12_walls 94 = .ok (.ifCond .ne 5, 3) := by decide +kernel
theorem dX12_walls_97 : decode cX12_walls 97 = .ok (.iload_n 3, 1) := by decide +kernel
theorem dX12_walls_98 : decode cX12_walls 98 = .ok (.istore_n 2, 1) := by decide +kernel
theorem dX12_walls_99 : decode cX12_walls 99 = .ok (.iinc 3 1, 3) := by decide +kernel
theorem dX12_walls_102 : decode cX12_walls 102 = .ok (.goto (-66), 3) := by decide +kernel
theorem dX12_walls_105 : decode cX12_walls 105 = .ok (.iload_n 2, 1) := by decide +kernel
theorem dX12_walls_106 : decode cX12_walls 106 = .ok (.ireturn, 1) := by decide +kernel
set_option maxRecDepth 20000 in
theorem ggX12_parted_X12_isCorner : GoodIn wsX12_parted wsX12_isCorner := goodIn_r _ [8, 9, 25, 26, 27, 28, 29, 30, 31, 32, 33, 34, 35, 36, 37, 38, 39, 40, 41, 42, 43, 44, 45, 46, 47, 48, 49, 50, 51, 52, 53, 54, 55, 56, 57, 58, 59, 60, 61, 62, 63, 64, 65, 66, 67, 68, 69, 70, 71, 72, 73, 74, 75, 76, 77, 78] (by decide +kernel) (by decide +kernel)
set_option maxRecDepth 20000 in
theorem gX12_parted_X12_isCorner : GoodIn wsX12_parted (wsV RX12 354 RX12 yX12_isCorner wsX12_isCorner) := goodIn_app (goodIn_of _ (by decide +kernel)) ggX12_parted_X12_isCorner
set_option maxRecDepth 20000 in
theorem ggX12_parted_J6_bitCount_0f7a4 : GoodIn wsX12_parted wsJ6_bitCount_0f7a4 := goodIn_r _ [13, 14, 15, 16] (by decide +kernel) (by decide +kernel)
set_option maxRecDepth 20000 in
theorem gX12_parted_J6_bitCount_0f7a4 : GoodIn wsX12_parted (va_wsS RX12 326 yJ6_bitCount_0f7a4 wsJ6_bitCount_0f7a4) := goodIn_app (goodIn_of _ (by decide +kernel)) ggX12_parted_J6_bitCount_0f7a4
set_option maxRecDepth 20000 in
theorem ggX12_parted_X12_reached : GoodIn wsX12_parted wsX12_reached := goodIn_r _ [20, 2, 21, 22, 23, 7, 24, 25, 26, 27, 28, 29, 30, 31, 32, 33, 34, 35, 36, 37, 38, 39, 40, 41, 42, 43, 44, 45, 46, 47, 48, 49, 50, 51, 52, 53, 54, 55, 56, 57, 58, 59, 60, 61, 62, 63, 64, 65, 66, 67, 68, 69, 70, 71, 72, 73, 74, 75, 76, 77, 78] (by decide +kernel) (by decide +kernel)
set_option maxRecDepth 20000 in
theorem gX12_parted_X12_reached : GoodIn wsX12_parted (wsV RX12 444 RX12 yX12_reached wsX12_reached) := goodIn_app (goodIn_of _ (by decide +kernel)) ggX12_parted_X12_reached
set_option maxRecDepth 20000 in
theorem ggX12_parted_X12_has : GoodIn wsX12_parted wsX12_has := goodIn_r _ [24] (by decide +kernel) (by decide +kernel)
set_option maxRecDepth 20000 in
theorem gX12_parted_X12_has : GoodIn wsX12_parted (va_wsS RX12 223 yX12_has wsX12_has) := goodIn_app (goodIn_of _ (by decide +kernel)) ggX12_parted_X12_has
theorem dX12_parted_0 : decode cX12_parted 0 = .ok (.aload_n 0, 1) := by decide +kernel
theorem dX12_parted_1 : decode cX12_parted 1 = .ok (.iconst 0, 1) := by decide +kernel
theorem dX12_parted_2 : decode cX12_parted 2 = .ok (.putfield 90, 3) := by decide +kernel
theorem dX12_parted_5 : decode cX12_parted 5 = .ok (.aload_n 0, 1) := by decide +kernel
theorem dX12_parted_6 : decode cX12_parted 6 = .ok (.iload_n 1, 1) := by decide +kernel
theorem dX12_parted_7 : decode cX12_parted 7 = .ok (.invokevirtual 354, 3) := by decide +kernel
theorem dX12_parted_10 : decode cX12_parted 10 = .ok (.ifCond .eq 16, 3) := by decide +kernel
theorem dX12_parted_13 : decode cX12_parted 13 = .ok (.aload_n 0, 1) := by decide +kernel
theorem dX12_parted_14 : decode cX12_parted 14 = .ok (.iload_n 2, 1) := by decide +kernel
theorem dX12_parted_15 : decode cX12_parted 15 = .ok (.invokevirtual 354, 3) := by decide +kernel
theorem dX12_parted_18 : decode cX12_parted 18 = .ok (.ifCond .eq 8, 3) := by decide +kernel
theorem dX12_parted_21 : decode cX12_parted 21 = .ok (.iload_n 1, 1) := by decide +kernel
theorem dX12_parted_22 : decode cX12_parted 22 = .ok (.iload_n 2, 1) := by decide +kernel
theorem dX12_parted_23 : decode cX12_parted 23 = .ok (.if_icmp .ne 5, 3) := by decide +kernel
theorem dX12_parted_26 : decode cX12_parted 26 = .ok (.iconst (-1), 1) := by decide +kernel
theorem dX12_parted_27 : decode cX12_parted 27 = .ok (.ireturn, 1) := by decide +kernel
theorem dX12_parted_28 : decode cX12_parted 28 = .ok (.iconst (-1), 1) := by decide +kernel
theorem dX12_parted_29 : decode cX12_parted 29 = .ok (.istore_n 3, 1) := by decide +kernel
theorem dX12_parted_30 : decode cX12_parted 30 = .ok (.iconst 0, 1) := by decide +kernel
theorem dX12_parted_31 : decode cX12_parted 31 = .ok (.istore 4, 2) := by decide +kernel
theorem dX12_parted_33 : decode cX12_parted 33 = .ok (.iload 4, 2) := by decide +kernel
theorem dX12_parted_35 : decode cX12_parted 35 = .ok (.iconst 1, 1) := by decide +kernel
theorem dX12_parted_36 : decode cX12_parted 36 = .ok (.aload_n 0, 1) := by decide +kernel
theorem dX12_parted_37 : decode cX12_parted 37 = .ok (.getfield 283, 3) := by decide +kernel
theorem dX12_parted_40 : decode cX12_parted 40 = .ok (.ishl, 1) := by decide +kernel
theorem dX12_parted_41 : decode cX12_parted 41 = .ok (.if_icmp .ge 67, 3) := by decide +kernel
theorem dX12_parted_44 : decode cX12_parted 44 = .ok (.iload 4, 2) := by decide +kernel
theorem dX12_parted_46 : decode cX12_parted 46 = .ok (.aload_n 0, 1) := by decide +kernel
theorem dX12_parted_47 : decode cX12_parted 47 = .ok (.getfield 58, 3) := by decide +kernel
theorem dX12_parted_50 : decode cX12_parted 50 = .ok (.bipush 24, 2) := by decide +kernel
theorem dX12_parted_52 : decode cX12_parted 52 = .ok (.iaload, 1) := by decide +kernel
theorem dX12_parted_53 : decode cX12_parted 53 = .ok (.iand, 1) := by decide +kernel
theorem dX12_parted_54 : decode cX12_parted 54 = .ok (.ifCond .ne 48, 3) := by decide +kernel
theorem dX12_parted_57 : decode cX12_parted 57 = .ok (.iload_n 3, 1) := by decide +kernel
theorem dX12_parted_58 : decode cX12_parted 58 = .ok (.iconst (-1), 1) := by decide +kernel
theorem dX12_parted_59 : decode cX12_parted 59 = .ok (.if_icmp .eq 18, 3) := by decide +kernel
theorem dX12_parted_62 : decode cX12_parted 62 = .ok (.iload 4, 2) := by decide +kernel
theorem dX12_parted_64 : decode cX12_parted 64 = .ok (.invokestatic 326, 3) := by decide +kernel
theorem dX12_parted_67 : decode cX12_parted 67 = .ok (.iload_n 3, 1) := by decide +kernel
theorem dX12_parted_68 : decode cX12_parted 68 = .ok (.invokestatic 326, 3) := by decide +kernel
theorem dX12_parted_71 : decode cX12_parted 71 = .ok (.if_icmp .lt 6, 3) := by decide +kernel
theorem dX12_parted_74 : decode cX12_parted 74 = .ok (.goto 28, 3) := by decide +kernel
theorem dX12_parted_77 : decode cX12_parted 77 = .ok (.aload_n 0, 1) := by decide +kernel
theorem dX12_parted_78 : decode cX12_parted 78 = .ok (.aload_n 0, 1) := by decide +kernel
theorem dX12_parted_79 : decode cX12_parted 79 = .ok (.getfield 58, 3) := by decide +kernel
theorem dX12_parted_82 : decode cX12_parted 82 = .ok (.bipush 24, 2) := by decide +kernel
theorem dX12_parted_84 : decode cX12_parted 84 = .ok (.iaload, 1) := by decide +kernel
theorem dX12_parted_85 : decode cX12_parted 85 = .ok (.iload 4, 2) := by decide +kernel
theorem dX12_parted_87 : decode cX12_parted 87 = .ok (.ior, 1) := by decide +kernel
theorem dX12_parted_88 : decode cX12_parted 88 = .ok (.iload_n 1, 1) := by decide +kernel
theorem dX12_parted_89 : decode cX12_parted 89 = .ok (.invokevirtual 444, 3) := by decide +kernel
theorem dX12_parted_92 : decode cX12_parted 92 = .ok (.iload_n 2, 1) := by decide +kernel
theorem dX12_parted_93 : decode cX12_parted 93 = .ok (.invokestatic 223, 3) := by decide +kernel
theorem dX12_parted_96 : decode cX12_parted 96 = .ok (.ifCond .ne 6, 3) := by decide +kernel
theorem dX12_parted_99 : decode cX12_parted 99 = .ok (.iload 4, 2) := by decide +kernel
theorem dX12_parted_101 : decode cX12_parted 101 = .ok (.istore_n 3, 1) := by decide +kernel
theorem dX12_parted_102 : decode cX12_parted 102 = .ok (.iinc 4 1, 3) := by decide +kernel
theorem dX12_parted_105 : decode cX12_parted 105 = .ok (.goto (-72), 3) := by decide +kernel
theorem dX12_parted_108 : decode cX12_parted 108 = .ok (.iload_n 3, 1) := by decide +kernel
theorem dX12_parted_109 : decode cX12_parted 109 = .ok (.ireturn, 1) := by decide +kernel
set_option maxRecDepth 20000 in
theorem ggX12_draws_X12_isWalker : GoodIn wsX12_draws wsX12_isWalker := goodIn_r _ [8, 9, 211, 212, 213, 214, 215, 216, 217, 218, 219, 220, 221, 222, 223, 224, 225, 226, 227, 228, 229, 230, 231, 232, 233, 234, 235, 236, 237, 238, 239, 240, 241, 242, 243, 244, 245, 246, 247, 248, 249, 250, 251, 252, 253, 254, 255, 256, 257, 258, 259, 260, 261, 262, 263, 264] (by decide +kernel) (by decide +kernel)
set_option maxRecDepth 20000 in
theorem gX12_draws_X12_isWalker : GoodIn wsX12_draws (wsV RX12 362 RX12 yX12_isWalker wsX12_isWalker) := goodIn_app (goodIn_of _ (by decide +kernel)) ggX12_draws_X12_isWalker
set_option maxRecDepth 20000 in
theorem ggX12_draws_X12_isCorner : GoodIn wsX12_draws wsX12_isCorner := goodIn_r _ [13, 14, 211, 212, 213, 214, 215, 216, 217, 218, 219, 220, 221, 222, 223, 224, 225, 226, 227, 228, 229, 230, 231, 232, 233, 234, 235, 236, 237, 238, 239, 240, 241, 242, 243, 244, 245, 246, 247, 248, 249, 250, 251, 252, 253, 254, 255, 256, 257, 258, 259, 260, 261, 262, 263, 264] (by decide +kernel) (by decide +kernel)
set_option maxRecDepth 20000 in
theorem gX12_draws_X12_isCorner : GoodIn wsX12_draws (wsV RX12 354 RX12 yX12_isCorner wsX12_isCorner) := goodIn_app (goodIn_of _ (by decide +kernel)) ggX12_draws_X12_isCorner
set_option maxRecDepth 20000 in
theorem ggX12_draws_X12_laysYards : GoodIn wsX12_draws wsX12_laysYards := goodIn_r _ [18, 14, 19, 20, 21, 22, 23, 24, 25, 26, 27, 28, 7, 29, 211, 212, 213, 214, 215, 216, 217, 218, 219, 220, 221, 222, 223, 224, 225, 226, 227, 228, 229, 230, 231, 232, 233, 234, 235, 236, 237, 238, 239, 240, 241, 242, 243, 244, 245, 246, 247, 248, 249, 250, 251, 252, 253, 254, 255, 256, 257, 258, 259, 260, 261, 262, 263, 264] (by decide +kernel) (by decide +kernel)
set_option maxRecDepth 20000 in
theorem gX12_draws_X12_laysYards : GoodIn wsX12_draws (wsV RX12 341 RX12 yX12_laysYards wsX12_laysYards) := goodIn_app (goodIn_of _ (by decide +kernel)) ggX12_draws_X12_laysYards
set_option maxRecDepth 20000 in
theorem ggX12_draws_X12_drawsOf : GoodIn wsX12_draws wsX12_drawsOf := goodIn_r _ [33, 2, 34, 23, 24, 25, 26, 35, 36, 37, 38, 39, 40, 7, 41, 14, 42, 43, 44, 45, 21, 22, 27, 28, 29, 46, 47, 48, 49, 20, 50, 51, 52, 53, 19, 54, 55, 56, 57, 58, 59, 60, 61, 62, 63, 64, 65, 66, 67, 68, 69, 70, 71, 72, 73, 74, 75, 76, 77, 78, 79, 80, 81, 82, 83, 84, 85, 86, 87, 88, 89, 90, 91, 92, 93, 94, 95, 96, 97, 98, 99, 100, 101, 102, 103, 104, 105, 106, 107, 108, 109, 110, 111, 112, 113, 114, 115, 116, 117, 118, 119, 120, 121, 122, 123, 124, 125, 126, 127, 128, 129, 130, 131, 132, 133, 134, 135, 136, 137, 138, 139, 140, 141, 142, 143, 144, 145, 146, 147, 148, 149, 150, 151, 152, 153, 154, 155, 156, 157, 158, 159, 160, 161, 162, 163, 164, 165, 166, 167, 168, 169, 170, 171, 172, 173, 174, 175, 176, 177, 178, 179, 180, 181, 182, 183, 184, 185, 186, 187, 188, 189, 190, 191, 192, 193, 194, 195, 196, 197, 198, 199, 200, 201, 202, 203, 204, 205, 206, 207, 208, 209, 210, 211, 212, 213, 214, 215, 216, 217, 218, 219, 220, 221, 222, 223, 224, 225, 226, 227, 228, 229, 230, 231, 232, 233, 234, 235, 236, 237, 238, 239, 240, 241, 242, 243, 244, 245, 246, 247, 248, 249, 250, 251, 252, 253, 254, 255, 256, 257, 258, 259, 260, 261, 262, 263, 264] (by decide +kernel) (by decide +kernel)
set_option maxRecDepth 20000 in
theorem gX12_draws_X12_drawsOf : GoodIn wsX12_draws (wsV RX12 337 RX12 yX12_drawsOf wsX12_drawsOf) := goodIn_app (goodIn_of _ (by decide +kernel)) ggX12_draws_X12_drawsOf
theorem dX12_draws_0 : decode cX12_draws 0 = .ok (.aload_n 0, 1) := by decide +kernel
theorem dX12_draws_1 : decode cX12_draws 1 = .ok (.iconst 0, 1) := by decide +kernel
theorem dX12_draws_2 : decode cX12_draws 2 = .ok (.putfield 90, 3) := by decide +kernel
theorem dX12_draws_5 : decode cX12_draws 5 = .ok (.aload_n 0, 1) := by decide +kernel
theorem dX12_draws_6 : decode cX12_draws 6 = .ok (.iload_n 1, 1) := by decide +kernel
theorem dX12_draws_7 : decode cX12_draws 7 = .ok (.invokevirtual 362, 3) := by decide +kernel
theorem dX12_draws_10 : decode cX12_draws 10 = .ok (.ifCond .eq 11, 3) := by decide +kernel
theorem dX12_draws_13 : decode cX12_draws 13 = .ok (.aload_n 0, 1) := by decide +kernel
theorem dX12_draws_14 : decode cX12_draws 14 = .ok (.iload_n 2, 1) := by decide +kernel
theorem dX12_draws_15 : decode cX12_draws 15 = .ok (.invokevirtual 354, 3) := by decide +kernel
theorem dX12_draws_18 : decode cX12_draws 18 = .ok (.ifCond .ne 7, 3) := by decide +kernel
theorem dX12_draws_21 : decode cX12_draws 21 = .ok (.ldc_w 325, 3) := by decide +kernel
theorem dX12_draws_24 : decode cX12_draws 24 = .ok (.ireturn, 1) := by decide +kernel
theorem dX12_draws_25 : decode cX12_draws 25 = .ok (.aload_n 0, 1) := by decide +kernel
theorem dX12_draws_26 : decode cX12_draws 26 = .ok (.aload_n 0, 1) := by decide +kernel
theorem dX12_draws_27 : decode cX12_draws 27 = .ok (.getfield 58, 3) := by decide +kernel
theorem dX12_draws_30 : decode cX12_draws 30 = .ok (.bipush 24, 2) := by decide +kernel
theorem dX12_draws_32 : decode cX12_draws 32 = .ok (.iaload, 1) := by decide +kernel
theorem dX12_draws_33 : decode cX12_draws 33 = .ok (.invokevirtual 341, 3) := by decide +kernel
theorem dX12_draws_36 : decode cX12_draws 36 = .ok (.aload_n 0, 1) := by decide +kernel
theorem dX12_draws_37 : decode cX12_draws 37 = .ok (.aload_n 0, 1) := by decide +kernel
theorem dX12_draws_38 : decode cX12_draws 38 = .ok (.getfield 58, 3) := by decide +kernel
theorem dX12_draws_41 : decode cX12_draws 41 = .ok (.iload_n 1, 1) := by decide +kernel
theorem dX12_draws_42 : decode cX12_draws 42 = .ok (.iload_n 2, 1) := by decide +kernel
theorem dX12_draws_43 : decode cX12_draws 43 = .ok (.invokevirtual 337, 3) := by decide +kernel
theorem dX12_draws_46 : decode cX12_draws 46 = .ok (.ireturn, 1) := by decide +kernel
set_option maxRecDepth 20000 in
theorem ggX12_goes_X12_isWalker : GoodIn wsX12_goes wsX12_isWalker := goodIn_r _ [7, 8, 211, 212, 213, 214, 215, 216, 217, 218, 219, 220, 221, 222, 223, 224, 225, 226, 227, 228, 229, 230, 231, 232, 233, 234, 235, 236, 237, 238, 239, 240, 241, 242, 243, 244, 245, 246, 247, 248, 249, 250, 251, 252, 253, 254, 255, 256, 257, 258, 259, 260, 261, 262, 263, 264] (by decide +kernel) (by decide +kernel)
set_option maxRecDepth 20000 in
theorem gX12_goes_X12_isWalker : GoodIn wsX12_goes (wsV RX12 362 RX12 yX12_isWalker wsX12_isWalker) := goodIn_app (goodIn_of _ (by decide +kernel)) ggX12_goes_X12_isWalker
set_option maxRecDepth 20000 in
theorem ggX12_goes_X12_laysYards : GoodIn wsX12_goes wsX12_laysYards := goodIn_r _ [12, 13, 14, 15, 16, 17, 18, 19, 20, 21, 22, 23, 6, 24, 211, 212, 213, 214, 215, 216, 217, 218, 219, 220, 221, 222, 223, 224, 225, 226, 227, 228, 229, 230, 231, 232, 233, 234, 235, 236, 237, 238, 239, 240, 241, 242, 243, 244, 245, 246, 247, 248, 249, 250, 251, 252, 253, 254, 255, 256, 257, 258, 259, 260, 261, 262, 263, 264] (by decide +kernel) (by decide +kernel)
set_option maxRecDepth 20000 in
theorem gX12_goes_X12_laysYards : GoodIn wsX12_goes (wsV RX12 341 RX12 yX12_laysYards wsX12_laysYards) := goodIn_app (goodIn_of _ (by decide +kernel)) ggX12_goes_X12_laysYards
set_option maxRecDepth 20000 in
theorem ggX12_goes_X12_goesOf : GoodIn wsX12_goes wsX12_goesOf := goodIn_r _ [28, 13, 29, 30, 31, 32, 6, 33, 34, 18, 19, 20, 21, 35, 36, 37, 38, 39, 40, 41, 42, 43, 44, 45, 16, 17, 22, 23, 24, 46, 47, 48, 49, 15, 50, 51, 52, 53, 14, 54, 55, 56, 57, 58, 59, 60, 61, 62, 63, 64, 65, 66, 67, 68, 69, 70, 71, 72, 73, 74, 75, 76, 77, 78, 79, 80, 81, 82, 83, 84, 85, 86, 87, 88, 89, 90, 91, 92, 93, 94, 95, 96, 97, 98, 99, 100, 101, 102, 103, 104, 105, 106, 107, 108, 109, 110, 111, 112, 113, 114, 115, 116, 117, 118, 119, 120, 121, 122, 123, 124, 125, 126, 127, 128, 129, 130, 131, 132, 133, 134, 135, 136, 137, 138, 139, 140, 141, 142, 143, 144, 145, 146, 147, 148, 149, 150, 151, 152, 153, 154, 155, 156, 157, 158, 159, 160, 161, 162, 163, 164, 165, 166, 167, 168, 169, 170, 171, 172, 173, 174, 175, 176, 177, 178, 179, 180, 181, 182, 183, 184, 185, 186, 187, 188, 189, 190, 191, 192, 193, 194, 195, 196, 197, 198, 199, 200, 201, 202, 203, 204, 205, 206, 207, 208, 209, 210, 211, 212, 213, 214, 215, 216, 217, 218, 219, 220, 221, 222, 223, 224, 225, 226, 227, 228, 229, 230, 231, 232, 233, 234, 235, 236, 237, 238, 239, 240, 241, 242, 243, 244, 245, 246, 247, 248, 249, 250, 251, 252, 253, 254, 255, 256, 257, 258, 259, 260, 261, 262, 263, 264] (by decide +kernel) (by decide +kernel)
set_option maxRecDepth 20000 in
theorem gX12_goes_X12_goesOf : GoodIn wsX12_goes (wsV RX12 350 RX12 yX12_goesOf wsX12_goesOf) := goodIn_app (goodIn_of _ (by decide +kernel)) ggX12_goes_X12_goesOf
theorem dX12_goes_0 : decode cX12_goes 0 = .ok (.aload_n 0, 1) := by decide +kernel
theorem dX12_goes_1 : decode cX12_goes 1 = .ok (.iconst 0, 1) := by decide +kernel
theorem dX12_goes_2 : decode cX12_goes 2 = .ok (.putfield 90, 3) := by decide +kernel
theorem dX12_goes_5 : decode cX12_goes 5 = .ok (.aload_n 0, 1) := by decide +kernel
theorem dX12_goes_6 : decode cX12_goes 6 = .ok (.iload_n 1, 1) := by decide +kernel
theorem dX12_goes_7 : decode cX12_goes 7 = .ok (.invokevirtual 362, 3) := by decide +kernel
theorem dX12_goes_10 : decode cX12_goes 10 = .ok (.ifCond .ne 5, 3) := by decide +kernel
theorem dX12_goes_13 : decode cX12_goes 13 = .ok (.iconst (-1), 1) := by decide +kernel
theorem dX12_goes_14 : decode cX12_goes 14 = .ok (.ireturn, 1) := by decide +kernel
theorem dX12_goes_15 : decode cX12_goes 15 = .ok (.aload_n 0, 1) := by decide +kernel
theorem dX12_goes_16 : decode cX12_goes 16 = .ok (.aload_n 0, 1) := by decide +kernel
theorem dX12_goes_17 : decode cX12_goes 17 = .ok (.getfield 58, 3) := by decide +kernel
theorem dX12_goes_20 : decode cX12_goes 20 = .ok (.bipush 24, 2) := by decide +kernel
theorem dX12_goes_22 : decode cX12_goes 22 = .ok (.iaload, 1) := by decide +kernel
theorem dX12_goes_23 : decode cX12_goes 23 = .ok (.invokevirtual 341, 3) := by decide +kernel
theorem dX12_goes_26 : decode cX12_goes 26 = .ok (.aload_n 0, 1) := by decide +kernel
theorem dX12_goes_27 : decode cX12_goes 27 = .ok (.aload_n 0, 1) := by decide +kernel
theorem dX12_goes_28 : decode cX12_goes 28 = .ok (.getfield 58, 3) := by decide +kernel
theorem dX12_goes_31 : decode cX12_goes 31 = .ok (.iload_n 1, 1) := by decide +kernel
theorem dX12_goes_32 : decode cX12_goes 32 = .ok (.invokevirtual 350, 3) := by decide +kernel
theorem dX12_goes_35 : decode cX12_goes 35 = .ok (.ireturn, 1) := by decide +kernel
set_option maxRecDepth 20000 in
theorem ggX12_goers_X12_isCorner : GoodIn wsX12_goers wsX12_isCorner := goodIn_r _ [8, 9, 211, 212, 213, 214, 215, 216, 217, 218, 219, 220, 221, 222, 223, 224, 225, 226, 227, 228, 229, 230, 231, 232, 233, 234, 235, 236, 237, 238, 239, 240, 241, 242, 243, 244, 245, 246, 247, 248, 249, 250, 251, 252, 253, 254, 255, 256, 257, 258, 259, 260, 261, 262, 263, 264] (by decide +kernel) (by decide +kernel)
set_option maxRecDepth 20000 in
theorem gX12_goers_X12_isCorner : GoodIn wsX12_goers (wsV RX12 354 RX12 yX12_isCorner wsX12_isCorner) := goodIn_app (goodIn_of _ (by decide +kernel)) ggX12_goers_X12_isCorner
set_option maxRecDepth 20000 in
theorem ggX12_goers_X12_laysYards : GoodIn wsX12_goers wsX12_laysYards := goodIn_r _ [13, 9, 14, 15, 16, 17, 18, 19, 20, 21, 22, 23, 7, 24, 211, 212, 213, 214, 215, 216, 217, 218, 219, 220, 221, 222, 223, 224, 225, 226, 227, 228, 229, 230, 231, 232, 233, 234, 235, 236, 237, 238, 239, 240, 241, 242, 243, 244, 245, 246, 247, 248, 249, 250, 251, 252, 253, 254, 255, 256, 257, 258, 259, 260, 261, 262, 263, 264] (by decide +kernel) (by decide +kernel)
set_option maxRecDepth 20000 in
theorem gX12_goers_X12_laysYards : GoodIn wsX12_goers (wsV RX12 341 RX12 yX12_laysYards wsX12_laysYards) := goodIn_app (goodIn_of _ (by decide +kernel)) ggX12_goers_X12_laysYards
set_option maxRecDepth 20000 in
theorem ggX12_goers_X12_goesOf : GoodIn wsX12_goers wsX12_goesOf := goodIn_r _ [28, 9, 29, 30, 31, 32, 7, 33, 34, 18, 19, 20, 21, 35, 36, 37, 38, 39, 40, 41, 42, 43, 44, 45, 16, 17, 22, 23, 24, 46, 47, 48, 49, 15, 50, 51, 52, 53, 14, 54, 55, 56, 57, 58, 59, 60, 61, 62, 63, 64, 65, 66, 67, 68, 69, 70, 71, 72, 73, 74, 75, 76, 77, 78, 79, 80, 81, 82, 83, 84, 85, 86, 87, 88, 89, 90, 91, 92, 93, 94, 95, 96, 97, 98, 99, 100, 101, 102, 103, 104, 105, 106, 107, 108, 109, 110, 111, 112, 113, 114, 115, 116, 117, 118, 119, 120, 121, 122, 123, 124, 125, 126, 127, 128, 129, 130, 131, 132, 133, 134, 135, 136, 137, 138, 139, 140, 141, 142, 143, 144, 145, 146, 147, 148, 149, 150, 151, 152, 153, 154, 155, 156, 157, 158, 159, 160, 161, 162, 163, 164, 165, 166, 167, 168, 169, 170, 171, 172, 173, 174, 175, 176, 177, 178, 179, 180, 181, 182, 183, 184, 185, 186, 187, 188, 189, 190, 191, 192, 193, 194, 195, 196, 197, 198, 199, 200, 201, 202, 203, 204, 205, 206, 207, 208, 209, 210, 211, 212, 213, 214, 215, 216, 217, 218, 219, 220, 221, 222, 223, 224, 225, 226, 227, 228, 229, 230, 231, 232, 233, 234, 235, 236, 237, 238, 239, 240, 241, 242, 243, 244, 245, 246, 247, 248, 249, 250, 251, 252, 253, 254, 255, 256, 257, 258, 259, 260, 261, 262, 263, 264] (by decide +kernel) (by decide +kernel)
set_option maxRecDepth 20000 in
theorem gX12_goers_X12_goesOf : GoodIn wsX12_goers (wsV RX12 350 RX12 yX12_goesOf wsX12_goesOf) := goodIn_app (goodIn_of _ (by decide +kernel)) ggX12_goers_X12_goesOf
theorem dX12_goers_0 : decode cX12_goers 0 = .ok (.aload_n 0, 1) := by decide +kernel
theorem dX12_goers_1 : decode cX12_goers 1 = .ok (.iconst 0, 1) := by decide +kernel
theorem dX12_goers_2 : decode cX12_goers 2 = .ok (.putfield 90, 3) := by decide +kernel
theorem dX12_goers_5 : decode cX12_goers 5 = .ok (.aload_n 0, 1) := by decide +kernel
theorem dX12_goers_6 : decode cX12_goers 6 = .ok (.iload_n 1, 1) := by decide +kernel
theorem dX12_goers_7 : decode cX12_goers 7 = .ok (.invokevirtual 354, 3) := by decide +kernel
theorem dX12_goers_10 : decode cX12_goers 10 = .ok (.ifCond .ne 5, 3) := by decide +kernel
theorem dX12_goers_13 : decode cX12_goers 13 = .ok (.iconst (-1), 1) := by decide +kernel
theorem dX12_goers_14 : decode cX12_goers 14 = .ok (.ireturn, 1) := by decide +kernel
theorem dX12_goers_15 : decode cX12_goers 15 = .ok (.aload_n 0, 1) := by decide +kernel
theorem dX12_goers_16 : decode cX12_goers 16 = .ok (.aload_n 0, 1) := by decide +kernel
theorem dX12_goers_17 : decode cX12_goers 17 = .ok (.getfield 58, 3) := by decide +kernel
theorem dX12_goers_20 : decode cX12_goers 20 = .ok (.bipush 24, 2) := by decide +kernel
theorem dX12_goers_22 : decode cX12_goers 22 = .ok (.iaload, 1) := by decide +kernel
theorem dX12_goers_23 : decode cX12_goers 23 = .ok (.invokevirtual 341, 3) := by decide +kernel
theorem dX12_goers_26 : decode cX12_goers 26 = .ok (.iconst 0, 1) := by decide +kernel
theorem dX12_goers_27 : decode cX12_goers 27 = .ok (.istore_n 2, 1) := by decide +kernel
theorem dX12_goers_28 : decode cX12_goers 28 = .ok (.iconst 0, 1) := by decide +kernel
theorem dX12_goers_29 : decode cX12_goers 29 = .ok (.istore_n 3, 1) := by decide +kernel
theorem dX12_goers_30 : decode cX12_goers 30 = .ok (.iload_n 3, 1) := by decide +kernel
theorem dX12_goers_31 : decode cX12_goers 31 = .ok (.aload_n 0, 1) := by decide +kernel
theorem dX12_goers_32 : decode cX12_goers 32 = .ok (.getfield 286, 3) := by decide +kernel
theorem dX12_goers_35 : decode cX12_goers 35 = .ok (.if_icmp .ge 32, 3) := by decide +kernel
theorem dX12_goers_38 : decode cX12_goers 38 = .ok (.iload_n 2, 1) := by decide +kernel
theorem dX12_goers_39 : decode cX12_goers 39 = .ok (.aload_n 0, 1) := by decide +kernel
theorem dX12_goers_40 : decode cX12_goers 40 = .ok (.aload_n 0, 1) := by decide +kernel
theorem dX12_goers_41 : decode cX12_goers 41 = .ok (.getfield 58, 3) := by decide +kernel
theorem dX12_goers_44 : decode cX12_goers 44 = .ok (.iload_n 3, 1) := by decide +kernel
theorem dX12_goers_45 : decode cX12_goers 45 = .ok (.invokevirtual 350, 3) := by decide +kernel
theorem dX12_goers_48 : decode cX12_goers 48 = .ok (.iload_n 1, 1) := by decide +kernel
theorem dX12_goers_49 : decode cX12_goers 49 = .ok (.if_icmp .ne 9, 3) := by decide +kernel
theorem dX12_goers_52 : decode cX12_goers 52 = .ok (.iconst 1, 1) := by decide +kernel
theorem dX12_goers_53 : decode cX12_goers 53 = .ok (.iload_n 3, 1) := by decide +kernel
theorem dX12_goers_54 : decode cX12_goers 54 = .ok (.ishl, 1) := by decide +kernel
theorem dX12_goers_55 : decode cX12_goers 55 = .ok (.goto 4, 3) := by decide +kernel
theorem dX12_goers_58 : decode cX12_goers 58 = .ok (.iconst 0, 1) := by decide +kernel
theorem dX12_goers_59 : decode cX12_goers 59 = .ok (.ior, 1) := by decide +kernel
theorem dX12_goers_60 : decode cX12_goers 60 = .ok (.istore_n 2, 1) := by decide +kernel
theorem dX12_goers_61 : decode cX12_goers 61 = .ok (.iinc 3 1, 3) := by decide +kernel
theorem dX12_goers_64 : decode cX12_goers 64 = .ok (.goto (-34), 3) := by decide +kernel
theorem dX12_goers_67 : decode cX12_goers 67 = .ok (.iload_n 2, 1) := by decide +kernel
theorem dX12_goers_68 : decode cX12_goers 68 = .ok (.ireturn, 1) := by decide +kernel
set_option maxRecDepth 20000 in
theorem ggX12_isGame_X12_isWalker : GoodIn wsX12_isGame wsX12_isWalker := goodIn_r _ [5, 6, 7, 8, 9, 10, 11, 12, 13, 14, 15, 16, 17, 18, 19, 20, 21, 22, 23, 24, 25, 26, 27, 28, 29, 30, 31, 32, 33, 34, 35, 36, 37, 38, 39, 40, 41, 42, 43, 44, 45, 46, 47, 48, 49, 50, 51, 52, 53, 54, 55, 56, 57, 58, 59, 60] (by decide +kernel) (by decide +kernel)
set_option maxRecDepth 20000 in
theorem gX12_isGame_X12_isWalker : GoodIn wsX12_isGame (wsV RX12 362 RX12 yX12_isWalker wsX12_isWalker) := goodIn_app (goodIn_of _ (by decide +kernel)) ggX12_isGame_X12_isWalker
theorem dX12_isGame_0 : decode cX12_isGame 0 = .ok (.aload_n 0, 1) := by decide +kernel
theorem dX12_isGame_1 : decode cX12_isGame 1 = .ok (.iload_n 1, 1) := by decide +kernel
theorem dX12_isGame_2 : decode cX12_isGame 2 = .ok (.invokevirtual 362, 3) := by decide +kernel
theorem dX12_isGame_5 : decode cX12_isGame 5 = .ok (.ifCond .eq 20, 3) := by decide +kernel
theorem dX12_isGame_8 : decode cX12_isGame 8 = .ok (.aload_n 0, 1) := by decide +kernel
theorem dX12_isGame_9 : decode cX12_isGame 9 = .ok (.iload_n 2, 1) := by decide +kernel
theorem dX12_isGame_10 : decode cX12_isGame 10 = .ok (.invokevirtual 362, 3) := by decide +kernel
theorem dX12_isGame_13 : decode cX12_isGame 13 = .ok (.ifCond .eq 12, 3) := by decide +kernel
theorem dX12_isGame_16 : decode cX12_isGame 16 = .ok (.iload_n 1, 1) := by decide +kernel
theorem dX12_isGame_17 : decode cX12_isGame 17 = .ok (.iload_n 2, 1) := by decide +kernel
theorem dX12_isGame_18 : decode cX12_isGame 18 = .ok (.if_icmp .eq 7, 3) := by decide +kernel
theorem dX12_isGame_21 : decode cX12_isGame 21 = .ok (.iconst 1, 1) := by decide +kernel
theorem dX12_isGame_22 : decode cX12_isGame 22 = .ok (.goto 4, 3) := by decide +kernel
theorem dX12_isGame_25 : decode cX12_isGame 25 = .ok (.iconst 0, 1) := by decide +kernel
theorem dX12_isGame_26 : decode cX12_isGame 26 = .ok (.ireturn, 1) := by decide +kernel
set_option maxRecDepth 20000 in
theorem ggX12_game_X12_isGame : GoodIn wsX12_game wsX12_isGame := goodIn_r _ [9, 10, 11, 12, 8, 13, 14, 223, 224, 225, 226, 227, 228, 229, 230, 231, 232, 233, 234, 235, 236, 237, 238, 239, 240, 241, 242, 243, 244, 245, 246, 247, 248, 249, 250, 251, 252, 253, 254, 255, 256, 257, 258, 259, 260, 261, 262, 263, 264, 265, 266, 267, 268, 269, 270, 271, 272, 273, 274, 275, 276] (by decide +kernel) (by decide +kernel)
set_option maxRecDepth 20000 in
theorem gX12_game_X12_isGame : GoodIn wsX12_game (wsV RX12 447 RX12 yX12_isGame wsX12_isGame) := goodIn_app (goodIn_of _ (by decide +kernel)) ggX12_game_X12_isGame
set_option maxRecDepth 20000 in
theorem ggX12_game_X12_isIn : GoodIn wsX12_game wsX12_isIn := goodIn_r _ [17] (by decide +kernel) (by decide +kernel)
set_option maxRecDepth 20000 in
theorem gX12_game_X12_isIn : GoodIn wsX12_game (va_wsS RX12 211 yX12_isIn wsX12_isIn) := goodIn_app (goodIn_of _ (by decide +kernel)) ggX12_game_X12_isIn
set_option maxRecDepth 20000 in
theorem ggX12_game_X12_laysYards : GoodIn wsX12_game wsX12_laysYards := goodIn_r _ [21, 22, 23, 24, 25, 26, 27, 28, 29, 30, 31, 32, 8, 33, 223, 224, 225, 226, 227, 228, 229, 230, 231, 232, 233, 234, 235, 236, 237, 238, 239, 240, 241, 242, 243, 244, 245, 246, 247, 248, 249, 250, 251, 252, 253, 254, 255, 256, 257, 258, 259, 260, 261, 262, 263, 264, 265, 266, 267, 268, 269, 270, 271, 272, 273, 274, 275, 276] (by decide +kernel) (by decide +kernel)
set_option maxRecDepth 20000 in
theorem gX12_game_X12_laysYards : GoodIn wsX12_game (wsV RX12 341 RX12 yX12_laysYards wsX12_laysYards) := goodIn_app (goodIn_of _ (by decide +kernel)) ggX12_game_X12_laysYards
set_option maxRecDepth 20000 in
theorem ggX12_game_X12_gameOf : GoodIn wsX12_game wsX12_gameOf := goodIn_r _ [37, 4, 3, 38, 39, 40, 8, 41, 22, 42, 43, 44, 45, 46, 27, 28, 29, 30, 47, 48, 49, 50, 51, 52, 53, 54, 55, 56, 57, 25, 26, 31, 32, 33, 58, 59, 60, 61, 24, 62, 63, 64, 65, 23, 66, 67, 68, 69, 70, 71, 72, 73, 74, 75, 76, 77, 78, 79, 80, 81, 82, 83, 84, 85, 86, 87, 88, 89, 90, 91, 92, 93, 94, 95, 96, 97, 98, 99, 100, 101, 102, 103, 104, 105, 106, 107, 108, 109, 110, 111, 112, 113, 114, 115, 116, 117, 118, 119, 120, 121, 122, 123, 124, 125, 126, 127, 128, 129, 130, 131, 132, 133, 134, 135, 136, 137, 138, 139, 140, 141, 142, 143, 144, 145, 146, 147, 148, 149, 150, 151, 152, 153, 154, 155, 156, 157, 158, 159, 160, 161, 162, 163, 164, 165, 166, 167, 168, 169, 170, 171, 172, 173, 174, 175, 176, 177, 178, 179, 180, 181, 182, 183, 184, 185, 186, 187, 188, 189, 190, 191, 192, 193, 194, 195, 196, 197, 198, 199, 200, 201, 202, 203, 204, 205, 206, 207, 208, 209, 210, 211, 212, 213, 214, 215, 216, 217, 218, 219, 220, 221, 222, 223, 224, 225, 226, 227, 228, 229, 230, 231, 232, 233, 234, 235, 236, 237, 238, 239, 240, 241, 242, 243, 244, 245, 246, 247, 248, 249, 250, 251, 252, 253, 254, 255, 256, 257, 258, 259, 260, 261, 262, 263, 264, 265, 266, 267, 268, 269, 270, 271, 272, 273, 274, 275, 276] (by decide +kernel) (by decide +kernel)
set_option maxRecDepth 20000 in
theorem gX12_game_X12_gameOf : GoodIn wsX12_game (wsV RX12 452 RX12 yX12_gameOf wsX12_gameOf) := goodIn_app (goodIn_of _ (by decide +kernel)) ggX12_game_X12_gameOf
theorem dX12_game_0 : decode cX12_game 0 = .ok (.aload_n 0, 1) := by decide +kernel
theorem dX12_game_1 : decode cX12_game 1 = .ok (.iconst 0, 1) := by decide +kernel
theorem dX12_game_2 : decode cX12_game 2 = .ok (.putfield 90, 3) := by decide +kernel
theorem dX12_game_5 : decode cX12_game 5 = .ok (.aload_n 0, 1) := by decide +kernel
theorem dX12_game_6 : decode cX12_game 6 = .ok (.iload_n 1, 1) := by decide +kernel
theorem dX12_game_7 : decode cX12_game 7 = .ok (.iload_n 2, 1) := by decide +kernel
theorem dX12_game_8 : decode cX12_game 8 = .ok (.invokevirtual 447, 3) := by decide +kernel
theorem dX12_game_11 : decode cX12_game 11 = .ok (.ifCond .eq 39, 3) := by decide +kernel
theorem dX12_game_14 : decode cX12_game 14 = .ok (.iload_n 3, 1) := by decide +kernel
theorem dX12_game_15 : decode cX12_game 15 = .ok (.i2l, 1) := by decide +kernel
theorem dX12_game_16 : decode cX12_game 16 = .ok (.lconst 0, 1) := by decide +kernel
theorem dX12_game_17 : decode cX12_game 17 = .ok (.ldc2_w 450, 3) := by decide +kernel
theorem dX12_game_20 : decode cX12_game 20 = .ok (.invokestatic 211, 3) := by decide +kernel
theorem dX12_game_23 : decode cX12_game 23 = .ok (.ifCond .eq 27, 3) := by decide +kernel
theorem dX12_game_26 : decode cX12_game 26 = .ok (.iload 4, 2) := by decide +kernel
theorem dX12_game_28 : decode cX12_game 28 = .ok (.i2l, 1) := by decide +kernel
theorem dX12_game_29 : decode cX12_game 29 = .ok (.lconst 0, 1) := by decide +kernel
theorem dX12_game_30 : decode cX12_game 30 = .ok (.ldc2_w 450, 3) := by decide +kernel
theorem dX12_game_33 : decode cX12_game 33 = .ok (.invokestatic 211, 3) := by decide +kernel
theorem dX12_game_36 : decode cX12_game 36 = .ok (.ifCond .eq 14, 3) := by decide +kernel
theorem dX12_game_39 : decode cX12_game 39 = .ok (.iload 5, 2) := by decide +kernel
theorem dX12_game_41 : decode cX12_game 41 = .ok (.i2l, 1) := by decide +kernel
theorem dX12_game_42 : decode cX12_game 42 = .ok (.lconst 0, 1) := by decide +kernel
theorem dX12_game_43 : decode cX12_game 43 = .ok (.lconst 1, 1) := by decide +kernel
theorem dX12_game_44 : decode cX12_game 44 = .ok (.invokestatic 211, 3) := by decide +kernel
theorem dX12_game_47 : decode cX12_game 47 = .ok (.ifCond .ne 7, 3) := by decide +kernel
theorem dX12_game_50 : decode cX12_game 50 = .ok (.ldc_w 325, 3) := by decide +kernel
theorem dX12_game_53 : decode cX12_game 53 = .ok (.ireturn, 1) := by decide +kernel
theorem dX12_game_54 : decode cX12_game 54 = .ok (.aload_n 0, 1) := by decide +kernel
theorem dX12_game_55 : decode cX12_game 55 = .ok (.aload_n 0, 1) := by decide +kernel
theorem dX12_game_56 : decode cX12_game 56 = .ok (.getfield 58, 3) := by decide +kernel
theorem dX12_game_59 : decode cX12_game 59 = .ok (.bipush 24, 2) := by decide +kernel
theorem dX12_game_61 : decode cX12_game 61 = .ok (.iaload, 1) := by decide +kernel
theorem dX12_game_62 : decode cX12_game 62 = .ok (.invokevirtual 341, 3) := by decide +kernel
theorem dX12_game_65 : decode cX12_game 65 = .ok (.aload_n 0, 1) := by decide +kernel
theorem dX12_game_66 : decode cX12_game 66 = .ok (.iload_n 1, 1) := by decide +kernel
theorem dX12_game_67 : decode cX12_game 67 = .ok (.iload_n 2, 1) := by decide +kernel
theorem dX12_game_68 : decode cX12_game 68 = .ok (.iload_n 3, 1) := by decide +kernel
theorem dX12_game_69 : decode cX12_game 69 = .ok (.iload 4, 2) := by decide +kernel
theorem dX12_game_71 : decode cX12_game 71 = .ok (.iload 5, 2) := by decide +kernel
theorem dX12_game_73 : decode cX12_game 73 = .ok (.invokevirtual 452, 3) := by decide +kernel
theorem dX12_game_76 : decode cX12_game 76 = .ok (.ireturn, 1) := by decide +kernel
set_option maxRecDepth 20000 in
theorem ggX12_rests_X12_isGame : GoodIn wsX12_rests wsX12_isGame := goodIn_r _ [8, 9, 10, 11, 7, 12, 13, 219, 220, 221, 222, 223, 224, 225, 226, 227, 228, 229, 230, 231, 232, 233, 234, 235, 236, 237, 238, 239, 240, 241, 242, 243, 244, 245, 246, 247, 248, 249, 250, 251, 252, 253, 254, 255, 256, 257, 258, 259, 260, 261, 262, 263, 264, 265, 266, 267, 268, 269, 270, 271, 272] (by decide +kernel) (by decide +kernel)
set_option maxRecDepth 20000 in
theorem gX12_rests_X12_isGame : GoodIn wsX12_rests (wsV RX12 447 RX12 yX12_isGame wsX12_isGame) := goodIn_app (goodIn_of _ (by decide +kernel)) ggX12_rests_X12_isGame
set_option maxRecDepth 20000 in
theorem ggX12_rests_X12_laysYards : GoodIn wsX12_rests wsX12_laysYards := goodIn_r _ [17, 3, 18, 19, 20, 21, 22, 23, 24, 25, 26, 27, 7, 28, 219, 220, 221, 222, 223, 224, 225, 226, 227, 228, 229, 230, 231, 232, 233, 234, 235, 236, 237, 238, 239, 240, 241, 242, 243, 244, 245, 246, 247, 248, 249, 250, 251, 252, 253, 254, 255, 256, 257, 258, 259, 260, 261, 262, 263, 264, 265, 266, 267, 268, 269, 270, 271, 272] (by decide +kernel) (by decide +kernel)
set_option maxRecDepth 20000 in
theorem gX12_rests_X12_laysYards : GoodIn wsX12_rests (wsV RX12 341 RX12 yX12_laysYards wsX12_laysYards) := goodIn_app (goodIn_of _ (by decide +kernel)) ggX12_rests_X12_laysYards
set_option maxRecDepth 20000 in
theorem ggX12_rests_X12_gameOf : GoodIn wsX12_rests wsX12_gameOf := goodIn_r _ [32, 2, 33, 34, 35, 36, 7, 37, 3, 38, 39, 40, 41, 42, 22, 23, 24, 25, 43, 44, 45, 46, 47, 48, 49, 50, 51, 52, 53, 20, 21, 26, 27, 28, 54, 55, 56, 57, 19, 58, 59, 60, 61, 18, 62, 63, 64, 65, 66, 67, 68, 69, 70, 71, 72, 73, 74, 75, 76, 77, 78, 79, 80, 81, 82, 83, 84, 85, 86, 87, 88, 89, 90, 91, 92, 93, 94, 95, 96, 97, 98, 99, 100, 101, 102, 103, 104, 105, 106, 107, 108, 109, 110, 111, 112, 113, 114, 115, 116, 117, 118, 119, 120, 121, 122, 123, 124, 125, 126, 127, 128, 129, 130, 131, 132, 133, 134, 135, 136, 137, 138, 139, 140, 141, 142, 143, 144, 145, 146, 147, 148, 149, 150, 151, 152, 153, 154, 155, 156, 157, 158, 159, 160, 161, 162, 163, 164, 165, 166, 167, 168, 169, 170, 171, 172, 173, 174, 175, 176, 177, 178, 179, 180, 181, 182, 183, 184, 185, 186, 187, 188, 189, 190, 191, 192, 193, 194, 195, 196, 197, 198, 199, 200, 201, 202, 203, 204, 205, 206, 207, 208, 209, 210, 211, 212, 213, 214, 215, 216, 217, 218, 219, 220, 221, 222, 223, 224, 225, 226, 227, 228, 229, 230, 231, 232, 233, 234, 235, 236, 237, 238, 239, 240, 241, 242, 243, 244, 245, 246, 247, 248, 249, 250, 251, 252, 253, 254, 255, 256, 257, 258, 259, 260, 261, 262, 263, 264, 265, 266, 267, 268, 269, 270, 271, 272] (by decide +kernel) (by decide +kernel)
set_option maxRecDepth 20000 in
theorem gX12_rests_X12_gameOf : GoodIn wsX12_rests (wsV RX12 452 RX12 yX12_gameOf wsX12_gameOf) := goodIn_app (goodIn_of _ (by decide +kernel)) ggX12_rests_X12_gameOf
theorem dX12_rests_0 : decode cX12_rests 0 = .ok (.aload_n 0, 1) := by decide +kernel
theorem dX12_rests_1 : decode cX12_rests 1 = .ok (.iconst 0, 1) := by decide +kernel
theorem dX12_rests_2 : decode cX12_rests 2 = .ok (.putfield 90, 3) := by decide +kernel
theorem dX12_rests_5 : decode cX12_rests 5 = .ok (.aload_n 0, 1) := by decide +kernel
theorem dX12_rests_6 : decode cX12_rests 6 = .ok (.iload_n 1, 1) := by decide +kernel
theorem dX12_rests_7 : decode cX12_rests 7 = .ok (.iload_n 2, 1) := by decide +kernel
theorem dX12_rests_8 : decode cX12_rests 8 = .ok (.invokevirtual 447, 3) := by decide +kernel
theorem dX12_rests_11 : decode cX12_rests 11 = .ok (.ifCond .eq 8, 3) := by decide +kernel
theorem dX12_rests_14 : decode cX12_rests 14 = .ok (.iload_n 3, 1) := by decide +kernel
theorem dX12_rests_15 : decode cX12_rests 15 = .ok (.iconst (-1), 1) := by decide +kernel
theorem dX12_rests_16 : decode cX12_rests 16 = .ok (.if_icmp .ge 5, 3) := by decide +kernel
theorem dX12_rests_19 : decode cX12_rests 19 = .ok (.iconst (-1), 1) := by decide +kernel
theorem dX12_rests_20 : decode cX12_rests 20 = .ok (.ireturn, 1) := by decide +kernel
theorem dX12_rests_21 : decode cX12_rests 21 = .ok (.aload_n 0, 1) := by decide +kernel
theorem dX12_rests_22 : decode cX12_rests 22 = .ok (.aload_n 0, 1) := by decide +kernel
theorem dX12_rests_23 : decode cX12_rests 23 = .ok (.getfield 58, 3) := by decide +kernel
theorem dX12_rests_26 : decode cX12_rests 26 = .ok (.bipush 24, 2) := by decide +kernel
theorem dX12_rests_28 : decode cX12_rests 28 = .ok (.iaload, 1) := by decide +kernel
theorem dX12_rests_29 : decode cX12_rests 29 = .ok (.invokevirtual 341, 3) := by decide +kernel
theorem dX12_rests_32 : decode cX12_rests 32 = .ok (.iconst 0, 1) := by decide +kernel
theorem dX12_rests_33 : decode cX12_rests 33 = .ok (.istore 4, 2) := by decide +kernel
theorem dX12_rests_35 : decode cX12_rests 35 = .ok (.iconst 0, 1) := by decide +kernel
theorem dX12_rests_36 : decode cX12_rests 36 = .ok (.istore 5, 2) := by decide +kernel
theorem dX12_rests_38 : decode cX12_rests 38 = .ok (.iload 5, 2) := by decide +kernel
theorem dX12_rests_40 : decode cX12_rests 40 = .ok (.aload_n 0, 1) := by decide +kernel
theorem dX12_rests_41 : decode cX12_rests 41 = .ok (.getfield 280, 3) := by decide +kernel
theorem dX12_rests_44 : decode cX12_rests 44 = .ok (.if_icmp .ge 136, 3) := by decide +kernel
theorem dX12_rests_47 : decode cX12_rests 47 = .ok (.iconst 0, 1) := by decide +kernel
theorem dX12_rests_48 : decode cX12_rests 48 = .ok (.istore 6, 2) := by decide +kernel
theorem dX12_rests_50 : decode cX12_rests 50 = .ok (.iload 6, 2) := by decide +kernel
theorem dX12_rests_52 : decode cX12_rests 52 = .ok (.aload_n 0, 1) := by decide +kernel
theorem dX12_rests_53 : decode cX12_rests 53 = .ok (.getfield 280, 3) := by decide +kernel
theorem dX12_rests_56 : decode cX12_rests 56 = .ok (.if_icmp .ge 118, 3) := by decide +kernel
theorem dX12_rests_59 : decode cX12_rests 59 = .ok (.iconst 1, 1) := by decide +kernel
theorem dX12_rests_60 : decode cX12_rests 60 = .ok (.istore 7, 2) := by decide +kernel
theorem dX12_rests_62 : decode cX12_rests 62 = .ok (.iconst 0, 1) := by decide +kernel
theorem dX12_rests_63 : decode cX12_rests 63 = .ok (.istore 8, 2) := by decide +kernel
theorem dX12_rests_65 : decode cX12_rests 65 = .ok (.iload 8, 2) := by decide +kernel
theorem dX12_rests_67 : decode cX12_rests 67 = .ok (.aload_n 0, 1) := by decide +kernel
theorem dX12_rests_68 : decode cX12_rests 68 = .ok (.getfield 280, 3) := by decide +kernel
theorem dX12_rests_71 : decode cX12_rests 71 = .ok (.if_icmp .ge 71, 3) := by decide +kernel
theorem dX12_rests_74 : decode cX12_rests 74 = .ok (.iload 7, 2) := by decide +kernel
theorem dX12_rests_76 : decode cX12_rests 76 = .ok (.ifCond .eq 66, 3) := by decide +kernel
theorem dX12_rests_79 : decode cX12_rests 79 = .ok (.aload_n 0, 1) := by decide +kernel
theorem dX12_rests_80 : decode cX12_rests 80 = .ok (.iload_n 1, 1) := by decide +kernel
theorem dX12_rests_81 : decode cX12_rests 81 = .ok (.iload_n 2, 1) := by decide +kernel
theorem dX12_rests_82 : decode cX12_rests 82 = .ok (.iload 8, 2) := by decide +kernel
theorem dX12_rests_84 : decode cX12_rests 84 = .ok (.iload 6, 2) := by decide +kernel
theorem dX12_rests_86 : decode cX12_rests 86 = .ok (.iconst 0, 1) := by decide +kernel
theorem dX12_rests_87 : decode cX12_rests 87 = .ok (.invokevirtual 452, 3) := by decide +kernel
theorem dX12_rests_90 : decode cX12_rests 90 = .ok (.aload_n 0, 1) := by decide +kernel
theorem dX12_rests_91 : decode cX12_rests 91 = .ok (.iload_n 1, 1) := by decide +kernel
theorem dX12_rests_92 : decode cX12_rests 92 = .ok (.iload_n 2, 1) := by decide +kernel
theorem dX12_rests_93 : decode cX12_rests 93 = .ok (.iload 5, 2) := by decide +kernel
theorem dX12_rests_95 : decode cX12_rests 95 = .ok (.iload 6, 2) := by decide +kernel
theorem dX12_rests_97 : decode cX12_rests 97 = .ok (.iconst 0, 1) := by decide +kernel
theorem dX12_rests_98 : decode cX12_rests 98 = .ok (.invokevirtual 452, 3) := by decide +kernel
theorem dX12_rests_101 : decode cX12_rests 101 = .ok (.if_icmp .gt 32, 3) := by decide +kernel
theorem dX12_rests_104 : decode cX12_rests 104 = .ok (.aload_n 0, 1) := by decide +kernel
theorem dX12_rests_105 : decode cX12_rests 105 = .ok (.iload_n 1, 1) := by decide +kernel
theorem dX12_rests_106 : decode cX12_rests 106 = .ok (.iload_n 2, 1) := by decide +kernel
theorem dX12_rests_107 : decode cX12_rests 107 = .ok (.iload 5, 2) := by decide +kernel
theorem dX12_rests_109 : decode cX12_rests 109 = .ok (.iload 8, 2) := by decide +kernel
theorem dX12_rests_111 : decode cX12_rests 111 = .ok (.iconst 1, 1) := by decide +kernel
theorem dX12_rests_112 : decode cX12_rests 112 = .ok (.invokevirtual 452, 3) := by decide +kernel
theorem dX12_rests_115 : decode cX12_rests 115 = .ok (.aload_n 0, 1) := by decide +kernel
theorem dX12_rests_116 : decode cX12_rests 116 = .ok (.iload_n 1, 1) := by decide +kernel
theorem dX12_rests_117 : decode cX12_rests 117 = .ok (.iload_n 2, 1) := by decide +kernel
theorem dX12_rests_118 : decode cX12_rests 118 = .ok (.iload 5, 2) := by decide +kernel
theorem dX12_rests_120 : decode cX12_rests 120 = .ok (.iload 6, 2) := by decide +kernel
theorem dX12_rests_122 : decode cX12_rests 122 = .ok (.iconst 1, 1) := by decide +kernel
theorem dX12_rests_123 : decode cX12_rests 123 = .ok (.invokevirtual 452, 3) := by decide +kernel
theorem dX12_rests_126 : decode cX12_rests 126 = .ok (.if_icmp .gt 7, 3) := by decide +kernel
theorem dX12_rests_129 : decode cX12_rests 129 = .ok (.iconst 1, 1) := by decide +kernel
theorem dX12_rests_130 : decode cX12_rests 130 = .ok (.goto 4, 3) := by decide +kernel
theorem dX12_rests_133 : decode cX12_rests 133 = .ok (.iconst 0, 1) := by decide +kernel
theorem dX12_rests_134 : decode cX12_rests 134 = .ok (.istore 7, 2) := by decide +kernel
theorem dX12_rests_136 : decode cX12_rests 136 = .ok (.iinc 8 1, 3) := by decide +kernel
theorem dX12_rests_139 : decode cX12_rests 139 = .ok (.goto (-74), 3) := by decide +kernel
theorem dX12_rests_142 : decode cX12_rests 142 = .ok (.iload 7, 2) := by decide +kernel
theorem dX12_rests_144 : decode cX12_rests 144 = .ok (.ifCond .ne 6, 3) := by decide +kernel
theorem dX12_rests_147 : decode cX12_rests 147 = .ok (.goto 21, 3) := by decide +kernel
theorem dX12_rests_150 : decode cX12_rests 150 = .ok (.iload 4, 2) := by decide +kernel
theorem dX12_rests_152 : decode cX12_rests 152 = .ok (.iload_n 3, 1) := by decide +kernel
theorem dX12_rests_153 : decode cX12_rests 153 = .ok (.if_icmp .ne 12, 3) := by decide +kernel
theorem dX12_rests_156 : decode cX12_rests 156 = .ok (.bipush 10, 2) := by decide +kernel
theorem dX12_rests_158 : decode cX12_rests 158 = .ok (.iload 5, 2) := by decide +kernel
theorem dX12_rests_160 : decode cX12_rests 160 = .ok (.imul, 1) := by decide +kernel
theorem dX12_rests_161 : decode cX12_rests 161 = .ok (.iload 6, 2) := by decide +kernel
theorem dX12_rests_163 : decode cX12_rests 163 = .ok (.iadd, 1) := by decide +kernel
theorem dX12_rests_164 : decode cX12_rests 164 = .ok (.ireturn, 1) := by decide +kernel
theorem dX12_rests_165 : decode cX12_rests 165 = .ok (.iinc 4 1, 3) := by decide +kernel
theorem dX12_rests_168 : decode cX12_rests 168 = .ok (.iinc 6 1, 3) := by decide +kernel
theorem dX12_rests_171 : decode cX12_rests 171 = .ok (.goto (-121), 3) := by decide +kernel
theorem dX12_rests_174 : decode cX12_rests 174 = .ok (.iinc 5 1, 3) := by decide +kernel
theorem dX12_rests_177 : decode cX12_rests 177 = .ok (.goto (-139), 3) := by decide +kernel
theorem dX12_rests_180 : decode cX12_rests 180 = .ok (.iload_n 3, 1) := by decide +kernel
theorem dX12_rests_181 : decode cX12_rests 181 = .ok (.iconst (-1), 1) := by decide +kernel
theorem dX12_rests_182 : decode cX12_rests 182 = .ok (.if_icmp .ne 8, 3) := by decide +kernel
theorem dX12_rests_185 : decode cX12_rests 185 = .ok (.iload 4, 2) := by decide +kernel
theorem dX12_rests_187 : decode cX12_rests 187 = .ok (.goto 4, 3) := by decide +kernel
theorem dX12_rests_190 : decode cX12_rests 190 = .ok (.iconst (-1), 1) := by decide +kernel
theorem dX12_rests_191 : decode cX12_rests 191 = .ok (.ireturn, 1) := by decide +kernel
set_option maxRecDepth 20000 in
theorem ggX12_odds_X12_isWalker : GoodIn wsX12_odds wsX12_isWalker := goodIn_r _ [11, 12, 212, 213, 214, 215, 216, 217, 218, 219, 220, 221, 222, 223, 224, 225, 226, 227, 228, 229, 230, 231, 232, 233, 234, 235, 236, 237, 238, 239, 240, 241, 242, 243, 244, 245, 246, 247, 248, 249, 250, 251, 252, 253, 254, 255, 256, 257, 258, 259, 260, 261, 262, 263, 264, 265] (by decide +kernel) (by decide +kernel)
set_option maxRecDepth 20000 in
theorem gX12_odds_X12_isWalker : GoodIn wsX12_odds (wsV RX12 362 RX12 yX12_isWalker wsX12_isWalker) := goodIn_app (goodIn_of _ (by decide +kernel)) ggX12_odds_X12_isWalker
set_option maxRecDepth 20000 in
theorem ggX12_odds_X12_isIn : GoodIn wsX12_odds wsX12_isIn := goodIn_r _ [15] (by decide +kernel) (by decide +kernel)
set_option maxRecDepth 20000 in
theorem gX12_odds_X12_isIn : GoodIn wsX12_odds (va_wsS RX12 211 yX12_isIn wsX12_isIn) := goodIn_app (goodIn_of _ (by decide +kernel)) ggX12_odds_X12_isIn
set_option maxRecDepth 20000 in
theorem ggX12_odds_X12_laysYards : GoodIn wsX12_odds wsX12_laysYards := goodIn_r _ [19, 5, 20, 21, 22, 23, 24, 25, 26, 27, 28, 29, 10, 30, 212, 213, 214, 215, 216, 217, 218, 219, 220, 221, 222, 223, 224, 225, 226, 227, 228, 229, 230, 231, 232, 233, 234, 235, 236, 237, 238, 239, 240, 241, 242, 243, 244, 245, 246, 247, 248, 249, 250, 251, 252, 253, 254, 255, 256, 257, 258, 259, 260, 261, 262, 263, 264, 265] (by decide +kernel) (by decide +kernel)
set_option maxRecDepth 20000 in
theorem gX12_odds_X12_laysYards : GoodIn wsX12_odds (wsV RX12 341 RX12 yX12_laysYards wsX12_laysYards) := goodIn_app (goodIn_of _ (by decide +kernel)) ggX12_odds_X12_laysYards
set_option maxRecDepth 20000 in
theorem ggX12_odds_X12_drawsOf : GoodIn wsX12_odds wsX12_drawsOf := goodIn_r _ [34, 6, 35, 24, 25, 26, 27, 36, 37, 38, 39, 40, 41, 10, 42, 5, 43, 44, 45, 46, 22, 23, 28, 29, 30, 47, 48, 49, 50, 21, 51, 52, 53, 54, 20, 55, 56, 57, 58, 59, 60, 61, 62, 63, 64, 65, 66, 67, 68, 69, 70, 71, 72, 73, 74, 75, 76, 77, 78, 79, 80, 81, 82, 83, 84, 85, 86, 87, 88, 89, 90, 91, 92, 93, 94, 95, 96, 97, 98, 99, 100, 101, 102, 103, 104, 105, 106, 107, 108, 109, 110, 111, 112, 113, 114, 115, 116, 117, 118, 119, 120, 121, 122, 123, 124, 125, 126, 127, 128, 129, 130, 131, 132, 133, 134, 135, 136, 137, 138, 139, 140, 141, 142, 143, 144, 145, 146, 147, 148, 149, 150, 151, 152, 153, 154, 155, 156, 157, 158, 159, 160, 161, 162, 163, 164, 165, 166, 167, 168, 169, 170, 171, 172, 173, 174, 175, 176, 177, 178, 179, 180, 181, 182, 183, 184, 185, 186, 187, 188, 189, 190, 191, 192, 193, 194, 195, 196, 197, 198, 199, 200, 201, 202, 203, 204, 205, 206, 207, 208, 209, 210, 211, 212, 213, 214, 215, 216, 217, 218, 219, 220, 221, 222, 223, 224, 225, 226, 227, 228, 229, 230, 231, 232, 233, 234, 235, 236, 237, 238, 239, 240, 241, 242, 243, 244, 245, 246, 247, 248, 249, 250, 251, 252, 253, 254, 255, 256, 257, 258, 259, 260, 261, 262, 263, 264, 265] (by decide +kernel) (by decide +kernel)
set_option maxRecDepth 20000 in
theorem gX12_odds_X12_drawsOf : GoodIn wsX12_odds (wsV RX12 337 RX12 yX12_drawsOf wsX12_drawsOf) := goodIn_app (goodIn_of _ (by decide +kernel)) ggX12_odds_X12_drawsOf
theorem dX12_odds_0 : decode cX12_odds 0 = .ok (.aload_n 0, 1) := by decide +kernel
theorem dX12_odds_1 : decode cX12_odds 1 = .ok (.iconst 0, 1) := by decide +kernel
theorem dX12_odds_2 : decode cX12_odds 2 = .ok (.putfield 90, 3) := by decide +kernel
theorem dX12_odds_5 : decode cX12_odds 5 = .ok (.aload_n 0, 1) := by decide +kernel
theorem dX12_odds_6 : decode cX12_odds 6 = .ok (.iload_n 1, 1) := by decide +kernel
theorem dX12_odds_7 : decode cX12_odds 7 = .ok (.invokevirtual 362, 3) := by decide +kernel
theorem dX12_odds_10 : decode cX12_odds 10 = .ok (.ifCond .eq 15, 3) := by decide +kernel
theorem dX12_odds_13 : decode cX12_odds 13 = .ok (.iload_n 2, 1) := by decide +kernel
theorem dX12_odds_14 : decode cX12_odds 14 = .ok (.i2l, 1) := by decide +kernel
theorem dX12_odds_15 : decode cX12_odds 15 = .ok (.lconst 0, 1) := by decide +kernel
theorem dX12_odds_16 : decode cX12_odds 16 = .ok (.ldc2_w 456, 3) := by decide +kernel
theorem dX12_odds_19 : decode cX12_odds 19 = .ok (.invokestatic 211, 3) := by decide +kernel
theorem dX12_odds_22 : decode cX12_odds 22 = .ok (.ifCond .ne 5, 3) := by decide +kernel
theorem dX12_odds_25 : decode cX12_odds 25 = .ok (.iconst (-1), 1) := by decide +kernel
theorem dX12_odds_26 : decode cX12_odds 26 = .ok (.ireturn, 1) := by decide +kernel
theorem dX12_odds_27 : decode cX12_odds 27 = .ok (.aload_n 0, 1) := by decide +kernel
theorem dX12_odds_28 : decode cX12_odds 28 = .ok (.aload_n 0, 1) := by decide +kernel
theorem dX12_odds_29 : decode cX12_odds 29 = .ok (.getfield 58, 3) := by decide +kernel
theorem dX12_odds_32 : decode cX12_odds 32 = .ok (.bipush 24, 2) := by decide +kernel
theorem dX12_odds_34 : decode cX12_odds 34 = .ok (.iaload, 1) := by decide +kernel
theorem dX12_odds_35 : decode cX12_odds 35 = .ok (.invokevirtual 341, 3) := by decide +kernel
theorem dX12_odds_38 : decode cX12_odds 38 = .ok (.ldc_w 458, 3) := by decide +kernel
theorem dX12_odds_41 : decode cX12_odds 41 = .ok (.istore_n 3, 1) := by decide +kernel
theorem dX12_odds_42 : decode cX12_odds 42 = .ok (.iconst 0, 1) := by decide +kernel
theorem dX12_odds_43 : decode cX12_odds 43 = .ok (.istore 4, 2) := by decide +kernel
theorem dX12_odds_45 : decode cX12_odds 45 = .ok (.iload 4, 2) := by decide +kernel
theorem dX12_odds_47 : decode cX12_odds 47 = .ok (.aload_n 0, 1) := by decide +kernel
theorem dX12_odds_48 : decode cX12_odds 48 = .ok (.getfield 280, 3) := by decide +kernel
theorem dX12_odds_51 : decode cX12_odds 51 = .ok (.if_icmp .ge 37, 3) := by decide +kernel
theorem dX12_odds_54 : decode cX12_odds 54 = .ok (.aload_n 0, 1) := by decide +kernel
theorem dX12_odds_55 : decode cX12_odds 55 = .ok (.aload_n 0, 1) := by decide +kernel
theorem dX12_odds_56 : decode cX12_odds 56 = .ok (.getfield 58, 3) := by decide +kernel
theorem dX12_odds_59 : decode cX12_odds 59 = .ok (.iload_n 1, 1) := by decide +kernel
theorem dX12_odds_60 : decode cX12_odds 60 = .ok (.iload 4, 2) := by decide +kernel
theorem dX12_odds_62 : decode cX12_odds 62 = .ok (.invokevirtual 337, 3) := by decide +kernel
theorem dX12_odds_65 : decode cX12_odds 65 = .ok (.ldc_w 325, 3) := by decide +kernel
theorem dX12_odds_68 : decode cX12_odds 68 = .ok (.if_icmp .eq 14, 3) := by decide +kernel
theorem dX12_odds_71 : decode cX12_odds 71 = .ok (.iload_n 3, 1) := by decide +kernel
theorem dX12_odds_72 : decode cX12_odds 72 = .ok (.i2l, 1) := by decide +kernel
theorem dX12_odds_73 : decode cX12_odds 73 = .ok (.iload_n 2, 1) := by decide +kernel
theorem dX12_odds_74 : decode cX12_odds 74 = .ok (.i2l, 1) := by decide +kernel
theorem dX12_odds_75 : decode cX12_odds 75 = .ok (.lmul, 1) := by decide +kernel
theorem dX12_odds_76 : decode cX12_odds 76 = .ok (.ldc2_w 456, 3) := by decide +kernel
theorem dX12_odds_79 : decode cX12_odds 79 = .ok (.ldiv, 1) := by decide +kernel
theorem dX12_odds_80 : decode cX12_odds 80 = .ok (.l2i, 1) := by decide +kernel
theorem dX12_odds_81 : decode cX12_odds 81 = .ok (.istore_n 3, 1) := by decide +kernel
theorem dX12_odds_82 : decode cX12_odds 82 = .ok (.iinc 4 1, 3) := by decide +kernel
theorem dX12_odds_85 : decode cX12_odds 85 = .ok (.goto (-40), 3) := by decide +kernel
theorem dX12_odds_88 : decode cX12_odds 88 = .ok (.ldc_w 458, 3) := by decide +kernel
theorem dX12_odds_91 : decode cX12_odds 91 = .ok (.iload_n 3, 1) := by decide +kernel
theorem dX12_odds_92 : decode cX12_odds 92 = .ok (.isub, 1) := by decide +kernel
theorem dX12_odds_93 : decode cX12_odds 93 = .ok (.ireturn, 1) := by decide +kernel
set_option maxRecDepth 20000 in
theorem ggX12_shares_X12_isCorner : GoodIn wsX12_shares wsX12_isCorner := goodIn_r _ [9, 3, 13, 14, 15, 16, 17, 18, 19, 20, 21, 22, 23, 24, 25, 26, 27, 28, 29, 30, 31, 32, 33, 34, 35, 36, 37, 38, 39, 40, 41, 42, 43, 44, 45, 46, 47, 48, 49, 50, 51, 52, 53, 54, 55, 56, 57, 58, 59, 60, 61, 62, 63, 64, 65, 66] (by decide +kernel) (by decide +kernel)
set_option maxRecDepth 20000 in
theorem gX12_shares_X12_isCorner : GoodIn wsX12_shares (wsV RX12 354 RX12 yX12_isCorner wsX12_isCorner) := goodIn_app (goodIn_of _ (by decide +kernel)) ggX12_shares_X12_isCorner
set_option maxRecDepth 20000 in
theorem ggX12_shares_X12_isIn : GoodIn wsX12_shares wsX12_isIn := goodIn_r _ [12] (by decide +kernel) (by decide +kernel)
set_option maxRecDepth 20000 in
theorem gX12_shares_X12_isIn : GoodIn wsX12_shares (va_wsS RX12 211 yX12_isIn wsX12_isIn) := goodIn_app (goodIn_of _ (by decide +kernel)) ggX12_shares_X12_isIn
theorem dX12_shares_0 : decode cX12_shares 0 = .ok (.aload_n 0, 1) := by decide +kernel
theorem dX12_shares_1 : decode cX12_shares 1 = .ok (.iconst 0, 1) := by decide +kernel
theorem dX12_shares_2 : decode cX12_shares 2 = .ok (.putfield 90, 3) := by decide +kernel
theorem dX12_shares_5 : decode cX12_shares 5 = .ok (.aload_n 0, 1) := by decide +kernel
theorem dX12_shares_6 : decode cX12_shares 6 = .ok (.iload_n 1, 1) := by decide +kernel
theorem dX12_shares_7 : decode cX12_shares 7 = .ok (.invokevirtual 354, 3) := by decide +kernel
theorem dX12_shares_10 : decode cX12_shares 10 = .ok (.ifCond .eq 15, 3) := by decide +kernel
theorem dX12_shares_13 : decode cX12_shares 13 = .ok (.iload_n 2, 1) := by decide +kernel
theorem dX12_shares_14 : decode cX12_shares 14 = .ok (.i2l, 1) := by decide +kernel
theorem dX12_shares_15 : decode cX12_shares 15 = .ok (.lconst 0, 1) := by decide +kernel
theorem dX12_shares_16 : decode cX12_shares 16 = .ok (.ldc2_w 430, 3) := by decide +kernel
theorem dX12_shares_19 : decode cX12_shares 19 = .ok (.invokestatic 211, 3) := by decide +kernel
theorem dX12_shares_22 : decode cX12_shares 22 = .ok (.ifCond .ne 5, 3) := by decide +kernel
theorem dX12_shares_25 : decode cX12_shares 25 = .ok (.iconst (-1), 1) := by decide +kernel
theorem dX12_shares_26 : decode cX12_shares 26 = .ok (.ireturn, 1) := by decide +kernel
theorem dX12_shares_27 : decode cX12_shares 27 = .ok (.iconst 0, 1) := by decide +kernel
theorem dX12_shares_28 : decode cX12_shares 28 = .ok (.istore_n 3, 1) := by decide +kernel
theorem dX12_shares_29 : decode cX12_shares 29 = .ok (.iconst 0, 1) := by decide +kernel
theorem dX12_shares_30 : decode cX12_shares 30 = .ok (.istore 4, 2) := by decide +kernel
theorem dX12_shares_32 : decode cX12_shares 32 = .ok (.iload 4, 2) := by decide +kernel
theorem dX12_shares_34 : decode cX12_shares 34 = .ok (.aload_n 0, 1) := by decide +kernel
theorem dX12_shares_35 : decode cX12_shares 35 = .ok (.getfield 280, 3) := by decide +kernel
theorem dX12_shares_38 : decode cX12_shares 38 = .ok (.if_icmp .ge 23, 3) := by decide +kernel
theorem dX12_shares_41 : decode cX12_shares 41 = .ok (.iload_n 3, 1) := by decide +kernel
theorem dX12_shares_42 : decode cX12_shares 42 = .ok (.aload_n 0, 1) := by decide +kernel
theorem dX12_shares_43 : decode cX12_shares 43 = .ok (.getfield 58, 3) := by decide +kernel
theorem dX12_shares_46 : decode cX12_shares 46 = .ok (.iconst 2, 1) := by decide +kernel
theorem dX12_shares_47 : decode cX12_shares 47 = .ok (.iload 4, 2) := by decide +kernel
theorem dX12_shares_49 : decode cX12_shares 49 = .ok (.imul, 1) := by decide +kernel
theorem dX12_shares_50 : decode cX12_shares 50 = .ok (.iconst 0, 1) := by decide +kernel
theorem dX12_shares_51 : decode cX12_shares 51 = .ok (.iadd, 1) := by decide +kernel
theorem dX12_shares_52 : decode cX12_shares 52 = .ok (.iaload, 1) := by decide +kernel
theorem dX12_shares_53 : decode cX12_shares 53 = .ok (.iadd, 1) := by decide +kernel
theorem dX12_shares_54 : decode cX12_shares 54 = .ok (.istore_n 3, 1) := by decide +kernel
theorem dX12_shares_55 : decode cX12_shares 55 = .ok (.iinc 4 1, 3) := by decide +kernel
theorem dX12_shares_58 : decode cX12_shares 58 = .ok (.goto (-26), 3) := by decide +kernel
theorem dX12_shares_61 : decode cX12_shares 61 = .ok (.iload_n 3, 1) := by decide +kernel
theorem dX12_shares_62 : decode cX12_shares 62 = .ok (.ifCond .ne 7, 3) := by decide +kernel
theorem dX12_shares_65 : decode cX12_shares 65 = .ok (.iconst 0, 1) := by decide +kernel
theorem dX12_shares_66 : decode cX12_shares 66 = .ok (.goto 17, 3) := by decide +kernel
theorem dX12_shares_69 : decode cX12_shares 69 = .ok (.iload_n 2, 1) := by decide +kernel
theorem dX12_shares_70 : decode cX12_shares 70 = .ok (.aload_n 0, 1) := by decide +kernel
theorem dX12_shares_71 : decode cX12_shares 71 = .ok (.getfield 58, 3) := by decide +kernel
theorem dX12_shares_74 : decode cX12_shares 74 = .ok (.iconst 2, 1) := by decide +kernel
theorem dX12_shares_75 : decode cX12_shares 75 = .ok (.iload_n 1, 1) := by decide +kernel
theorem dX12_shares_76 : decode cX12_shares 76 = .ok (.imul, 1) := by decide +kernel
theorem dX12_shares_77 : decode cX12_shares 77 = .ok (.iconst 0, 1) := by decide +kernel
theorem dX12_shares_78 : decode cX12_shares 78 = .ok (.iadd, 1) := by decide +kernel
theorem dX12_shares_79 : decode cX12_shares 79 = .ok (.iaload, 1) := by decide +kernel
theorem dX12_shares_80 : decode cX12_shares 80 = .ok (.imul, 1) := by decide +kernel
theorem dX12_shares_81 : decode cX12_shares 81 = .ok (.iload_n 3, 1) := by decide +kernel
theorem dX12_shares_82 : decode cX12_shares 82 = .ok (.idiv, 1) := by decide +kernel
theorem dX12_shares_83 : decode cX12_shares 83 = .ok (.ireturn, 1) := by decide +kernel
set_option maxRecDepth 20000 in
theorem ggX12_all_X12_chapels : GoodIn wsX12_all wsX12_chapels := goodIn_r _ [9, 4, 10, 11, 12, 8, 13, 2, 14, 15, 16, 17, 76, 77, 78, 79, 80, 81, 82, 83, 84, 85, 86, 87, 88, 89, 90, 91, 92, 93, 94, 95, 96, 97, 98, 99, 100, 101, 102, 103, 104, 105, 106, 107, 108, 109, 110, 111, 112, 113, 114, 115, 116, 117, 118, 119, 120, 121, 122, 123, 124, 125, 126, 127, 128, 129] (by decide +kernel) (by decide +kernel)
set_option maxRecDepth 20000 in
theorem gX12_all_X12_chapels : GoodIn wsX12_all (wsV RX12 319 RX12 yX12_chapels wsX12_chapels) := goodIn_app (goodIn_of _ (by decide +kernel)) ggX12_all_X12_chapels
set_option maxRecDepth 20000 in
theorem ggX12_all_X12_bridges : GoodIn wsX12_all wsX12_bridges := goodIn_r _ [21, 2, 3, 14, 15, 16, 8, 17, 22, 23, 24, 25, 76, 77, 78, 79, 80, 81, 82, 83, 84, 85, 86, 87, 88, 89, 90, 91, 92, 93, 94, 95, 96, 97, 98, 99, 100, 101, 102, 103, 104, 105, 106, 107, 108, 109, 110, 111, 112, 113, 114, 115, 116, 117, 118, 119, 120, 121, 122, 123, 124, 125, 126, 127, 128, 129] (by decide +kernel) (by decide +kernel)
set_option maxRecDepth 20000 in
theorem gX12_all_X12_bridges : GoodIn wsX12_all (wsV RX12 465 RX12 yX12_bridges wsX12_bridges) := goodIn_app (goodIn_of _ (by decide +kernel)) ggX12_all_X12_bridges
set_option maxRecDepth 20000 in
theorem ggX12_all_X12_parts : GoodIn wsX12_all wsX12_parts := goodIn_r _ [29, 4, 3, 15, 16, 8, 17, 22, 23, 24, 25, 2, 14, 76, 77, 78, 79, 80, 81, 82, 83, 84, 85, 86, 87, 88, 89, 90, 91, 92, 93, 94, 95, 96, 97, 98, 99, 100, 101, 102, 103, 104, 105, 106, 107, 108, 109, 110, 111, 112, 113, 114, 115, 116, 117, 118, 119, 120, 121, 122, 123, 124, 125, 126, 127, 128, 129] (by decide +kernel) (by decide +kernel)
set_option maxRecDepth 20000 in
theorem gX12_all_X12_parts : GoodIn wsX12_all (wsV RX12 468 RX12 yX12_parts wsX12_parts) := goodIn_app (goodIn_of _ (by decide +kernel)) ggX12_all_X12_parts
set_option maxRecDepth 20000 in
theorem ggX12_all_X12_openStreets : GoodIn wsX12_all wsX12_openStreets := goodIn_r _ [33, 2, 3, 15, 16, 8, 17, 76, 77, 78, 79, 80, 81, 82, 83, 84, 85, 86, 87, 88, 89, 90, 91, 92, 93, 94, 95, 96, 97, 98, 99, 100, 101, 102, 103, 104, 105, 106, 107, 108, 109, 110, 111, 112, 113, 114, 115, 116, 117, 118, 119, 120, 121, 122, 123, 124, 125, 126, 127, 128, 129] (by decide +kernel) (by decide +kernel)
set_option maxRecDepth 20000 in
theorem gX12_all_X12_openStreets : GoodIn wsX12_all (wsV RX12 471 RX12 yX12_openStreets wsX12_openStreets) := goodIn_app (goodIn_of _ (by decide +kernel)) ggX12_all_X12_openStreets
set_option maxRecDepth 20000 in
theorem ggX12_all_X12_greatest : GoodIn wsX12_all wsX12_greatest := goodIn_r _ [37, 3, 38, 4, 39, 40, 41, 8, 42, 43, 44, 2, 14, 45, 46, 47, 48, 15, 16, 17, 49, 50, 51, 52, 10, 11, 12, 13, 53, 54, 55, 56, 57, 58, 59, 60, 61, 62, 63, 64, 65, 66, 67, 76, 77, 78, 79, 80, 81, 82, 83, 84, 85, 86, 87, 88, 89, 90, 91, 92, 93, 94, 95, 96, 97, 98, 99, 100, 101, 102, 103, 104, 105, 106, 107, 108, 109, 110, 111, 112, 113, 114, 115, 116, 117, 118, 119, 120, 121, 122, 123, 124, 125, 126, 127, 128, 129] (by decide +kernel) (by decide +kernel)
set_option maxRecDepth 20000 in
theorem gX12_all_X12_greatest : GoodIn wsX12_all (wsV RX12 474 RX12 yX12_greatest wsX12_greatest) := goodIn_app (goodIn_of _ (by decide +kernel)) ggX12_all_X12_greatest
set_option maxRecDepth 20000 in
theorem ggX12_all_X12_openYards : GoodIn wsX12_all wsX12_openYards := goodIn_r _ [71, 2, 3, 14, 15, 16, 8, 17, 76, 77, 78, 79, 80, 81, 82, 83, 84, 85, 86, 87, 88, 89, 90, 91, 92, 93, 94, 95, 96, 97, 98, 99, 100, 101, 102, 103, 104, 105, 106, 107, 108, 109, 110, 111, 112, 113, 114, 115, 116, 117, 118, 119, 120, 121, 122, 123, 124, 125, 126, 127, 128, 129] (by decide +kernel) (by decide +kernel)
set_option maxRecDepth 20000 in
theorem gX12_all_X12_openYards : GoodIn wsX12_all (wsV RX12 477 RX12 yX12_openYards wsX12_openYards) := goodIn_app (goodIn_of _ (by decide +kernel)) ggX12_all_X12_openYards
set_option maxRecDepth 20000 in
theorem ggX12_all_X12_dark : GoodIn wsX12_all wsX12_dark := goodIn_r _ [75, 3, 4, 5, 6, 7, 8, 9, 10, 11, 12, 13, 2, 14, 15, 16, 17, 76, 77, 78, 79, 80, 81, 82, 83, 84, 85, 86, 87, 88, 89, 90, 91, 92, 93, 94, 95, 96, 97, 98, 99, 100, 101, 102, 103, 104, 105, 106, 107, 108, 109, 110, 111, 112, 113, 114, 115, 116, 117, 118, 119, 120, 121, 122, 123, 124, 125, 126, 127, 128, 129] (by decide +kernel) (by decide +kernel)
set_option maxRecDepth 20000 in
theorem gX12_all_X12_dark : GoodIn wsX12_all (wsV RX12 480 RX12 yX12_dark wsX12_dark) := goodIn_app (goodIn_of _ (by decide +kernel)) ggX12_all_X12_dark
theorem dX12_all_0 : decode cX12_all 0 = .ok (.aload_n 0, 1) := by decide +kernel
theorem dX12_all_1 : decode cX12_all 1 = .ok (.iconst 0, 1) := by decide +kernel
theorem dX12_all_2 : decode cX12_all 2 = .ok (.putfield 90, 3) := by decide +kernel
theorem dX12_all_5 : decode cX12_all 5 = .ok (.aload_n 0, 1) := by decide +kernel
theorem dX12_all_6 : decode cX12_all 6 = .ok (.getfield 283, 3) := by decide +kernel
theorem dX12_all_9 : decode cX12_all 9 = .ok (.ifCond .ne 5, 3) := by decide +kernel
theorem dX12_all_12 : decode cX12_all 12 = .ok (.iconst (-1), 1) := by decide +kernel
theorem dX12_all_13 : decode cX12_all 13 = .ok (.ireturn, 1) := by decide +kernel
theorem dX12_all_14 : decode cX12_all 14 = .ok (.iload_n 1, 1) := by decide +kernel
theorem dX12_all_15 : decode cX12_all 15 = .ok (.tableswitch 114 0 11 #[61, 73, 78, 83, 98, 98, 98, 98, 98, 98, 104, 109], 61) := by decide +kernel
theorem dX12_all_76 : decode cX12_all 76 = .ok (.aload_n 0, 1) := by decide +kernel
theorem dX12_all_77 : decode cX12_all 77 = .ok (.aload_n 0, 1) := by decide +kernel
theorem dX12_all_78 : decode cX12_all 78 = .ok (.getfield 58, 3) := by decide +kernel
theorem dX12_all_81 : decode cX12_all 81 = .ok (.bipush 24, 2) := by decide +kernel
theorem dX12_all_83 : decode cX12_all 83 = .ok (.iaload, 1) := by decide +kernel
theorem dX12_all_84 : decode cX12_all 84 = .ok (.invokevirtual 319, 3) := by decide +kernel
theorem dX12_all_87 : decode cX12_all 87 = .ok (.ireturn, 1) := by decide +kernel
theorem dX12_all_88 : decode cX12_all 88 = .ok (.aload_n 0, 1) := by decide +kernel
theorem dX12_all_89 : decode cX12_all 89 = .ok (.invokevirtual 465, 3) := by decide +kernel
theorem dX12_all_92 : decode cX12_all 92 = .ok (.ireturn, 1) := by decide +kernel
theorem dX12_all_93 : decode cX12_all 93 = .ok (.aload_n 0, 1) := by decide +kernel
theorem dX12_all_94 : decode cX12_all 94 = .ok (.invokevirtual 468, 3) := by decide +kernel
theorem dX12_all_97 : decode cX12_all 97 = .ok (.ireturn, 1) := by decide +kernel
theorem dX12_all_98 : decode cX12_all 98 = .ok (.aload_n 0, 1) := by decide +kernel
theorem dX12_all_99 : decode cX12_all 99 = .ok (.invokevirtual 471, 3) := by decide +kernel
theorem dX12_all_102 : decode cX12_all 102 = .ok (.aload_n 0, 1) := by decide +kernel
theorem dX12_all_103 : decode cX12_all 103 = .ok (.getfield 280, 3) := by decide +kernel
theorem dX12_all_106 : decode cX12_all 106 = .ok (.isub, 1) := by decide +kernel
theorem dX12_all_107 : decode cX12_all 107 = .ok (.aload_n 0, 1) := by decide +kernel
theorem dX12_all_108 : decode cX12_all 108 = .ok (.invokevirtual 468, 3) := by decide +kernel
theorem dX12_all_111 : decode cX12_all 111 = .ok (.iadd, 1) := by decide +kernel
theorem dX12_all_112 : decode cX12_all 112 = .ok (.ireturn, 1) := by decide +kernel
theorem dX12_all_113 : decode cX12_all 113 = .ok (.aload_n 0, 1) := by decide +kernel
theorem dX12_all_114 : decode cX12_all 114 = .ok (.iload_n 1, 1) := by decide +kernel
theorem dX12_all_115 : decode cX12_all 115 = .ok (.invokevirtual 474, 3) := by decide +kernel
theorem dX12_all_118 : decode cX12_all 118 = .ok (.ireturn, 1) := by decide +kernel
theorem dX12_all_119 : decode cX12_all 119 = .ok (.aload_n 0, 1) := by decide +kernel
theorem dX12_all_120 : decode cX12_all 120 = .ok (.invokevirtual 477, 3) := by decide +kernel
theorem dX12_all_123 : decode cX12_all 123 = .ok (.ireturn, 1) := by decide +kernel
theorem dX12_all_124 : decode cX12_all 124 = .ok (.aload_n 0, 1) := by decide +kernel
theorem dX12_all_125 : decode cX12_all 125 = .ok (.invokevirtual 480, 3) := by decide +kernel
theorem dX12_all_128 : decode cX12_all 128 = .ok (.ireturn, 1) := by decide +kernel
theorem dX12_all_129 : decode cX12_all 129 = .ok (.iconst (-1), 1) := by decide +kernel
theorem dX12_all_130 : decode cX12_all 130 = .ok (.ireturn, 1) := by decide +kernel
set_option maxRecDepth 20000 in
theorem ggX12_around_X12_isCorner : GoodIn wsX12_around wsX12_isCorner := goodIn_r _ [9, 4, 32, 33, 34, 35, 36, 37, 38, 39, 40, 41, 42, 43, 44, 45, 46, 47, 48, 49, 50, 51, 52, 53, 54, 55, 56, 57, 58, 59, 60, 61, 62, 63, 64, 65, 66, 67, 68, 69, 70, 71, 72, 73, 74, 75, 76, 77, 78, 79, 80, 81, 82, 83, 84, 85] (by decide +kernel) (by decide +kernel)
set_option maxRecDepth 20000 in
theorem gX12_around_X12_isCorner : GoodIn wsX12_around (wsV RX12 354 RX12 yX12_isCorner wsX12_isCorner) := goodIn_app (goodIn_of _ (by decide +kernel)) ggX12_around_X12_isCorner
set_option maxRecDepth 20000 in
theorem ggX12_around_X12_isIn : GoodIn wsX12_around wsX12_isIn := goodIn_r _ [12] (by decide +kernel) (by decide +kernel)
set_option maxRecDepth 20000 in
theorem gX12_around_X12_isIn : GoodIn wsX12_around (va_wsS RX12 211 yX12_isIn wsX12_isIn) := goodIn_app (goodIn_of _ (by decide +kernel)) ggX12_around_X12_isIn
set_option maxRecDepth 20000 in
theorem ggX12_around_X12_laysYards : GoodIn wsX12_around wsX12_laysYards := goodIn_r _ [16, 4, 17, 18, 19, 20, 21, 22, 23, 24, 25, 26, 8, 27, 32, 33, 34, 35, 36, 37, 38, 39, 40, 41, 42, 43, 44, 45, 46, 47, 48, 49, 50, 51, 52, 53, 54, 55, 56, 57, 58, 59, 60, 61, 62, 63, 64, 65, 66, 67, 68, 69, 70, 71, 72, 73, 74, 75, 76, 77, 78, 79, 80, 81, 82, 83, 84, 85] (by decide +kernel) (by decide +kernel)
set_option maxRecDepth 20000 in
theorem gX12_around_X12_laysYards : GoodIn wsX12_around (wsV RX12 341 RX12 yX12_laysYards wsX12_laysYards) := goodIn_app (goodIn_of _ (by decide +kernel)) ggX12_around_X12_laysYards
set_option maxRecDepth 20000 in
theorem ggX12_around_X12_far0 : GoodIn wsX12_around wsX12_far0 := goodIn_r _ [31, 17, 32, 33, 34, 35, 36, 37, 38, 39, 40, 41, 42, 43, 44, 45, 46, 47, 48, 49, 50, 51, 52, 53, 54, 55, 56, 57, 58, 59, 60, 61, 62, 63, 64, 65, 66, 67, 68, 69, 70, 71, 72, 73, 74, 75, 76, 77, 78, 79, 80, 81, 82, 83, 84, 85] (by decide +kernel) (by decide +kernel)
set_option maxRecDepth 20000 in
theorem gX12_around_X12_far0 : GoodIn wsX12_around (wsV RX12 304 RX12 yX12_far0 wsX12_far0) := goodIn_app (goodIn_of _ (by decide +kernel)) ggX12_around_X12_far0
theorem dX12_around_0 : decode cX12_around 0 = .ok (.aload_n 0, 1) := by decide +kernel
theorem dX12_around_1 : decode cX12_around 1 = .ok (.iconst 0, 1) := by decide +kernel
theorem dX12_around_2 : decode cX12_around 2 = .ok (.putfield 90, 3) := by decide +kernel
theorem dX12_around_5 : decode cX12_around 5 = .ok (.aload_n 0, 1) := by decide +kernel
theorem dX12_around_6 : decode cX12_around 6 = .ok (.iload_n 1, 1) := by decide +kernel
theorem dX12_around_7 : decode cX12_around 7 = .ok (.invokevirtual 354, 3) := by decide +kernel
theorem dX12_around_10 : decode cX12_around 10 = .ok (.ifCond .eq 15, 3) := by decide +kernel
theorem dX12_around_13 : decode cX12_around 13 = .ok (.iload_n 2, 1) := by decide +kernel
theorem dX12_around_14 : decode cX12_around 14 = .ok (.i2l, 1) := by decide +kernel
theorem dX12_around_15 : decode cX12_around 15 = .ok (.lconst 0, 1) := by decide +kernel
theorem dX12_around_16 : decode cX12_around 16 = .ok (.ldc2_w 483, 3) := by decide +kernel
theorem dX12_around_19 : decode cX12_around 19 = .ok (.invokestatic 211, 3) := by decide +kernel
theorem dX12_around_22 : decode cX12_around 22 = .ok (.ifCond .ne 5, 3) := by decide +kernel
theorem dX12_around_25 : decode cX12_around 25 = .ok (.iconst (-1), 1) := by decide +kernel
theorem dX12_around_26 : decode cX12_around 26 = .ok (.ireturn, 1) := by decide +kernel
theorem dX12_around_27 : decode cX12_around 27 = .ok (.aload_n 0, 1) := by decide +kernel
theorem dX12_around_28 : decode cX12_around 28 = .ok (.aload_n 0, 1) := by decide +kernel
theorem dX12_around_29 : decode cX12_around 29 = .ok (.getfield 58, 3) := by decide +kernel
theorem dX12_around_32 : decode cX12_around 32 = .ok (.bipush 24, 2) := by decide +kernel
theorem dX12_around_34 : decode cX12_around 34 = .ok (.iaload, 1) := by decide +kernel
theorem dX12_around_35 : decode cX12_around 35 = .ok (.invokevirtual 341, 3) := by decide +kernel
theorem dX12_around_38 : decode cX12_around 38 = .ok (.iconst 0, 1) := by decide +kernel
theorem dX12_around_39 : decode cX12_around 39 = .ok (.istore_n 3, 1) := by decide +kernel
theorem dX12_around_40 : decode cX12_around 40 = .ok (.iconst 0, 1) := by decide +kernel
theorem dX12_around_41 : decode cX12_around 41 = .ok (.istore 4, 2) := by decide +kernel
theorem dX12_around_43 : decode cX12_around 43 = .ok (.iload 4, 2) := by decide +kernel
theorem dX12_around_45 : decode cX12_around 45 = .ok (.aload_n 0, 1) := by decide +kernel
theorem dX12_around_46 : decode cX12_around 46 = .ok (.getfield 280, 3) := by decide +kernel
theorem dX12_around_49 : decode cX12_around 49 = .ok (.if_icmp .ge 31, 3) := by decide +kernel
theorem dX12_around_52 : decode cX12_around 52 = .ok (.iload_n 3, 1) := by decide +kernel
theorem dX12_around_53 : decode cX12_around 53 = .ok (.aload_n 0, 1) := by decide +kernel
theorem dX12_around_54 : decode cX12_around 54 = .ok (.iload_n 1, 1) := by decide +kernel
theorem dX12_around_55 : decode cX12_around 55 = .ok (.iload 4, 2) := by decide +kernel
theorem dX12_around_57 : decode cX12_around 57 = .ok (.invokevirtual 304, 3) := by decide +kernel
theorem dX12_around_60 : decode cX12_around 60 = .ok (.iload_n 2, 1) := by decide +kernel
theorem dX12_around_61 : decode cX12_around 61 = .ok (.if_icmp .gt 10, 3) := by decide +kernel
theorem dX12_around_64 : decode cX12_around 64 = .ok (.iconst 1, 1) := by decide +kernel
theorem dX12_around_65 : decode cX12_around 65 = .ok (.iload 4, 2) := by decide +kernel
theorem dX12_around_67 : decode cX12_around 67 = .ok (.ishl, 1) := by decide +kernel
theorem dX12_around_68 : decode cX12_around 68 = .ok (.goto 4, 3) := by decide +kernel
theorem dX12_around_71 : decode cX12_around 71 = .ok (.iconst 0, 1) := by decide +kernel
theorem dX12_around_72 : decode cX12_around 72 = .ok (.ior, 1) := by decide +kernel
theorem dX12_around_73 : decode cX12_around 73 = .ok (.istore_n 3, 1) := by decide +kernel
theorem dX12_around_74 : decode cX12_around 74 = .ok (.iinc 4 1, 3) := by decide +kernel
theorem dX12_around_77 : decode cX12_around 77 = .ok (.goto (-34), 3) := by decide +kernel
theorem dX12_around_80 : decode cX12_around 80 = .ok (.iload_n 3, 1) := by decide +kernel
theorem dX12_around_81 : decode cX12_around 81 = .ok (.ireturn, 1) := by decide +kernel
theorem dX12_image_0 : decode cX12_image 0 = .ok (.aload_n 0, 1) := by decide +kernel
theorem dX12_image_1 : decode cX12_image 1 = .ok (.iconst 0, 1) := by decide +kernel
theorem dX12_image_2 : decode cX12_image 2 = .ok (.putfield 90, 3) := by decide +kernel
theorem dX12_image_5 : decode cX12_image 5 = .ok (.aload_n 0, 1) := by decide +kernel
theorem dX12_image_6 : decode cX12_image 6 = .ok (.getfield 283, 3) := by decide +kernel
theorem dX12_image_9 : decode cX12_image 9 = .ok (.ifCond .ne 5, 3) := by decide +kernel
theorem dX12_image_12 : decode cX12_image 12 = .ok (.iconst (-1), 1) := by decide +kernel
theorem dX12_image_13 : decode cX12_image 13 = .ok (.ireturn, 1) := by decide +kernel
theorem dX12_image_14 : decode cX12_image 14 = .ok (.iconst 0, 1) := by decide +kernel
theorem dX12_image_15 : decode cX12_image 15 = .ok (.istore_n 1, 1) := by decide +kernel
theorem dX12_image_16 : decode cX12_image 16 = .ok (.iload_n 1, 1) := by decide +kernel
theorem dX12_image_17 : decode cX12_image 17 = .ok (.sipush 208, 3) := by decide +kernel
theorem dX12_image_20 : decode cX12_image 20 = .ok (.if_icmp .ge 21, 3) := by decide +kernel
theorem dX12_image_23 : decode cX12_image 23 = .ok (.aload_n 0, 1) := by decide +kernel
theorem dX12_image_24 : decode cX12_image 24 = .ok (.getfield 87, 3) := by decide +kernel
theorem dX12_image_27 : decode cX12_image 27 = .ok (.iload_n 1, 1) := by decide +kernel
theorem dX12_image_28 : decode cX12_image 28 = .ok (.aload_n 0, 1) := by decide +kernel
theorem dX12_image_29 : decode cX12_image 29 = .ok (.getfield 58, 3) := by decide +kernel
theorem dX12_image_32 : decode cX12_image 32 = .ok (.iload_n 1, 1) := by decide +kernel
theorem dX12_image_33 : decode cX12_image 33 = .ok (.iaload, 1) := by decide +kernel
theorem dX12_image_34 : decode cX12_image 34 = .ok (.iastore, 1) := by decide +kernel
theorem dX12_image_35 : decode cX12_image 35 = .ok (.iinc 1 1, 3) := by decide +kernel
theorem dX12_image_38 : decode cX12_image 38 = .ok (.goto (-22), 3) := by decide +kernel
theorem dX12_image_41 : decode cX12_image 41 = .ok (.aload_n 0, 1) := by decide +kernel
theorem dX12_image_42 : decode cX12_image 42 = .ok (.iconst 1, 1) := by decide +kernel
theorem dX12_image_43 : decode cX12_image 43 = .ok (.putfield 295, 3) := by decide +kernel
theorem dX12_image_46 : decode cX12_image 46 = .ok (.aload_n 0, 1) := by decide +kernel
theorem dX12_image_47 : decode cX12_image 47 = .ok (.getfield 58, 3) := by decide +kernel
theorem dX12_image_50 : decode cX12_image 50 = .ok (.bipush 26, 2) := by decide +kernel
theorem dX12_image_52 : decode cX12_image 52 = .ok (.iaload, 1) := by decide +kernel
theorem dX12_image_53 : decode cX12_image 53 = .ok (.ireturn, 1) := by decide +kernel
theorem dX12_back_0 : decode cX12_back 0 = .ok (.aload_n 0, 1) := by decide +kernel
theorem dX12_back_1 : decode cX12_back 1 = .ok (.iconst 0, 1) := by decide +kernel
theorem dX12_back_2 : decode cX12_back 2 = .ok (.putfield 90, 3) := by decide +kernel
theorem dX12_back_5 : decode cX12_back 5 = .ok (.aload_n 0, 1) := by decide +kernel
theorem dX12_back_6 : decode cX12_back 6 = .ok (.getfield 295, 3) := by decide +kernel
theorem dX12_back_9 : decode cX12_back 9 = .ok (.ifCond .ne 5, 3) := by decide +kernel
theorem dX12_back_12 : decode cX12_back 12 = .ok (.iconst (-1), 1) := by decide +kernel
theorem dX12_back_13 : decode cX12_back 13 = .ok (.ireturn, 1) := by decide +kernel
theorem dX12_back_14 : decode cX12_back 14 = .ok (.iconst 0, 1) := by decide +kernel
theorem dX12_back_15 : decode cX12_back 15 = .ok (.istore_n 1, 1) := by decide +kernel
theorem dX12_back_16 : decode cX12_back 16 = .ok (.iload_n 1, 1) := by decide +kernel
theorem dX12_back_17 : decode cX12_back 17 = .ok (.sipush 208, 3) := by decide +kernel
theorem dX12_back_20 : decode cX12_back 20 = .ok (.if_icmp .ge 21, 3) := by decide +kernel
theorem dX12_back_23 : decode cX12_back 23 = .ok (.aload_n 0, 1) := by decide +kernel
theorem dX12_back_24 : decode cX12_back 24 = .ok (.getfield 58, 3) := by decide +kernel
theorem dX12_back_27 : decode cX12_back 27 = .ok (.iload_n 1, 1) := by decide +kernel
theorem dX12_back_28 : decode cX12_back 28 = .ok (.aload_n 0, 1) := by decide +kernel
theorem dX12_back_29 : decode cX12_back 29 = .ok (.getfield 87, 3) := by decide +kernel
theorem dX12_back_32 : decode cX12_back 32 = .ok (.iload_n 1, 1) := by decide +kernel
theorem dX12_back_33 : decode cX12_back 33 = .ok (.iaload, 1) := by decide +kernel
theorem dX12_back_34 : decode cX12_back 34 = .ok (.iastore, 1) := by decide +kernel
theorem dX12_back_35 : decode cX12_back 35 = .ok (.iinc 1 1, 3) := by decide +kernel
theorem dX12_back_38 : decode cX12_back 38 = .ok (.goto (-22), 3) := by decide +kernel
theorem dX12_back_41 : decode cX12_back 41 = .ok (.aload_n 0, 1) := by decide +kernel
theorem dX12_back_42 : decode cX12_back 42 = .ok (.iconst 0, 1) := by decide +kernel
theorem dX12_back_43 : decode cX12_back 43 = .ok (.putfield 292, 3) := by decide +kernel
theorem dX12_back_46 : decode cX12_back 46 = .ok (.aload_n 0, 1) := by decide +kernel
theorem dX12_back_47 : decode cX12_back 47 = .ok (.getfield 58, 3) := by decide +kernel
theorem dX12_back_50 : decode cX12_back 50 = .ok (.bipush 26, 2) := by decide +kernel
theorem dX12_back_52 : decode cX12_back 52 = .ok (.iaload, 1) := by decide +kernel
theorem dX12_back_53 : decode cX12_back 53 = .ok (.ireturn, 1) := by decide +kernel
theorem dX12_count_0 : decode cX12_count 0 = .ok (.aload_n 0, 1) := by decide +kernel
theorem dX12_count_1 : decode cX12_count 1 = .ok (.iconst 0, 1) := by decide +kernel
theorem dX12_count_2 : decode cX12_count 2 = .ok (.putfield 90, 3) := by decide +kernel
theorem dX12_count_5 : decode cX12_count 5 = .ok (.iload_n 1, 1) := by decide +kernel
theorem dX12_count_6 : decode cX12_count 6 = .ok (.tableswitch 140 0 12 #[66, 71, 76, 81, 86, 91, 96, 101, 109, 117, 122, 127, 135], 66) := by decide +kernel
theorem dX12_count_72 : decode cX12_count 72 = .ok (.aload_n 0, 1) := by decide +kernel
theorem dX12_count_73 : decode cX12_count 73 = .ok (.getfield 280, 3) := by decide +kernel
theorem dX12_count_76 : decode cX12_count 76 = .ok (.ireturn, 1) := by decide +kernel
theorem dX12_count_77 : decode cX12_count 77 = .ok (.aload_n 0, 1) := by decide +kernel
theorem dX12_count_78 : decode cX12_count 78 = .ok (.getfield 283, 3) := by decide +kernel
theorem dX12_count_81 : decode cX12_count 81 = .ok (.ireturn, 1) := by decide +kernel
theorem dX12_count_82 : decode cX12_count 82 = .ok (.aload_n 0, 1) := by decide +kernel
theorem dX12_count_83 : decode cX12_count 83 = .ok (.getfield 286, 3) := by decide +kernel
theorem dX12_count_86 : decode cX12_count 86 = .ok (.ireturn, 1) := by decide +kernel
theorem dX12_count_87 : decode cX12_count 87 = .ok (.aload_n 0, 1) := by decide +kernel
theorem dX12_count_88 : decode cX12_count 88 = .ok (.getfield 272, 3) := by decide +kernel
theorem dX12_count_91 : decode cX12_count 91 = .ok (.ireturn, 1) := by decide +kernel
theorem dX12_count_92 : decode cX12_count 92 = .ok (.aload_n 0, 1) := by decide +kernel
theorem dX12_count_93 : decode cX12_count 93 = .ok (.getfield 275, 3) := by decide +kernel
theorem dX12_count_96 : decode cX12_count 96 = .ok (.ireturn, 1) := by decide +kernel
theorem dX12_count_97 : decode cX12_count 97 = .ok (.aload_n 0, 1) := by decide +kernel
theorem dX12_count_98 : decode cX12_count 98 = .ok (.getfield 103, 3) := by decide +kernel
theorem dX12_count_101 : decode cX12_count 101 = .ok (.ireturn, 1) := by decide +kernel
theorem dX12_count_102 : decode cX12_count 102 = .ok (.aload_n 0, 1) := by decide +kernel
theorem dX12_count_103 : decode cX12_count 103 = .ok (.getfield 64, 3) := by decide +kernel
theorem dX12_count_106 : decode cX12_count 106 = .ok (.ireturn, 1) := by decide +kernel
theorem dX12_count_107 : decode cX12_count 107 = .ok (.aload_n 0, 1) := by decide +kernel
theorem dX12_count_108 : decode cX12_count 108 = .ok (.getfield 58, 3) := by decide +kernel
theorem dX12_count_111 : decode cX12_count 111 = .ok (.bipush 26, 2) := by decide +kernel
theorem dX12_count_113 : decode cX12_count 113 = .ok (.iaload, 1) := by decide +kernel
theorem dX12_count_114 : decode cX12_count 114 = .ok (.ireturn, 1) := by decide +kernel
theorem dX12_count_115 : decode cX12_count 115 = .ok (.aload_n 0, 1) := by decide +kernel
theorem dX12_count_116 : decode cX12_count 116 = .ok (.getfield 58, 3) := by decide +kernel
theorem dX12_count_119 : decode cX12_count 119 = .ok (.bipush 25, 2) := by decide +kernel
theorem dX12_count_121 : decode cX12_count 121 = .ok (.iaload, 1) := by decide +kernel
theorem dX12_count_122 : decode cX12_count 122 = .ok (.ireturn, 1) := by decide +kernel
theorem dX12_count_123 : decode cX12_count 123 = .ok (.aload_n 0, 1) := by decide +kernel
theorem dX12_count_124 : decode cX12_count 124 = .ok (.getfield 68, 3) := by decide +kernel
theorem dX12_count_127 : decode cX12_count 127 = .ok (.ireturn, 1) := by decide +kernel
theorem dX12_count_128 : decode cX12_count 128 = .ok (.aload_n 0, 1) := by decide +kernel
theorem dX12_count_129 : decode cX12_count 129 = .ok (.getfield 289, 3) := by decide +kernel
theorem dX12_count_132 : decode cX12_count 132 = .ok (.ireturn, 1) := by decide +kernel
theorem dX12_count_133 : decode cX12_count 133 = .ok (.aload_n 0, 1) := by decide +kernel
theorem dX12_count_134 : decode cX12_count 134 = .ok (.getfield 58, 3) := by decide +kernel
theorem dX12_count_137 : decode cX12_count 137 = .ok (.bipush 27, 2) := by decide +kernel
theorem dX12_count_139 : decode cX12_count 139 = .ok (.iaload, 1) := by decide +kernel
theorem dX12_count_140 : decode cX12_count 140 = .ok (.ireturn, 1) := by decide +kernel
theorem dX12_count_141 : decode cX12_count 141 = .ok (.aload_n 0, 1) := by decide +kernel
theorem dX12_count_142 : decode cX12_count 142 = .ok (.getfield 292, 3) := by decide +kernel
theorem dX12_count_145 : decode cX12_count 145 = .ok (.ireturn, 1) := by decide +kernel
theorem dX12_count_146 : decode cX12_count 146 = .ok (.ldc_w 325, 3) := by decide +kernel
theorem dX12_count_149 : decode cX12_count 149 = .ok (.ireturn, 1) := by decide +kernel
theorem dJ6_bitCount_0f7a4_0 : decode cJ6_bitCount_0f7a4 0 = .ok (.iload_n 0, 1) := by decide +kernel
theorem dJ6_bitCount_0f7a4_1 : decode cJ6_bitCount_0f7a4 1 = .ok (.iload_n 0, 1) := by decide +kernel
theorem dJ6_bitCount_0f7a4_2 : decode cJ6_bitCount_0f7a4 2 = .ok (.iconst 1, 1) := by decide +kernel
theorem dJ6_bitCount_0f7a4_3 : decode cJ6_bitCount_0f7a4 3 = .ok (.iushr, 1) := by decide +kernel
theorem dJ6_bitCount_0f7a4_4 : decode cJ6_bitCount_0f7a4 4 = .ok (.ldc_w 265, 3) := by decide +kernel
theorem dJ6_bitCount_0f7a4_7 : decode cJ6_bitCount_0f7a4 7 = .ok (.iand, 1) := by decide +kernel
theorem dJ6_bitCount_0f7a4_8 : decode cJ6_bitCount_0f7a4 8 = .ok (.isub, 1) := by decide +kernel
theorem dJ6_bitCount_0f7a4_9 : decode cJ6_bitCount_0f7a4 9 = .ok (.istore_n 0, 1) := by decide +kernel
theorem dJ6_bitCount_0f7a4_10 : decode cJ6_bitCount_0f7a4 10 = .ok (.iload_n 0, 1) := by decide +kernel
theorem dJ6_bitCount_0f7a4_11 : decode cJ6_bitCount_0f7a4 11 = .ok (.ldc_w 266, 3) := by decide +kernel
theorem dJ6_bitCount_0f7a4_14 : decode cJ6_bitCount_0f7a4 14 = .ok (.iand, 1) := by decide +kernel
theorem dJ6_bitCount_0f7a4_15 : decode cJ6_bitCount_0f7a4 15 = .ok (.iload_n 0, 1) := by decide +kernel
theorem dJ6_bitCount_0f7a4_16 : decode cJ6_bitCount_0f7a4 16 = .ok (.iconst 2, 1) := by decide +kernel
theorem dJ6_bitCount_0f7a4_17 : decode cJ6_bitCount_0f7a4 17 = .ok (.iushr, 1) := by decide +kernel
theorem dJ6_bitCount_0f7a4_18 : decode cJ6_bitCount_0f7a4 18 = .ok (.ldc_w 266, 3) := by decide +kernel
theorem dJ6_bitCount_0f7a4_21 : decode cJ6_bitCount_0f7a4 21 = .ok (.iand, 1) := by decide +kernel
theorem dJ6_bitCount_0f7a4_22 : decode cJ6_bitCount_0f7a4 22 = .ok (.iadd, 1) := by decide +kernel
theorem dJ6_bitCount_0f7a4_23 : decode cJ6_bitCount_0f7a4 23 = .ok (.istore_n 0, 1) := by decide +kernel
theorem dJ6_bitCount_0f7a4_24 : decode cJ6_bitCount_0f7a4 24 = .ok (.iload_n 0, 1) := by decide +kernel
theorem dJ6_bitCount_0f7a4_25 : decode cJ6_bitCount_0f7a4 25 = .ok (.iload_n 0, 1) := by decide +kernel
theorem dJ6_bitCount_0f7a4_26 : decode cJ6_bitCount_0f7a4 26 = .ok (.iconst 4, 1) := by decide +kernel
theorem dJ6_bitCount_0f7a4_27 : decode cJ6_bitCount_0f7a4 27 = .ok (.iushr, 1) := by decide +kernel
theorem dJ6_bitCount_0f7a4_28 : decode cJ6_bitCount_0f7a4 28 = .ok (.iadd, 1) := by decide +kernel
theorem dJ6_bitCount_0f7a4_29 : decode cJ6_bitCount_0f7a4 29 = .ok (.ldc_w 267, 3) := by decide +kernel
theorem dJ6_bitCount_0f7a4_32 : decode cJ6_bitCount_0f7a4 32 = .ok (.iand, 1) := by decide +kernel
theorem dJ6_bitCount_0f7a4_33 : decode cJ6_bitCount_0f7a4 33 = .ok (.istore_n 0, 1) := by decide +kernel
theorem dJ6_bitCount_0f7a4_34 : decode cJ6_bitCount_0f7a4 34 = .ok (.iload_n 0, 1) := by decide +kernel
theorem dJ6_bitCount_0f7a4_35 : decode cJ6_bitCount_0f7a4 35 = .ok (.iload_n 0, 1) := by decide +kernel
theorem dJ6_bitCount_0f7a4_36 : decode cJ6_bitCount_0f7a4 36 = .ok (.bipush 8, 2) := by decide +kernel
theorem dJ6_bitCount_0f7a4_38 : decode cJ6_bitCount_0f7a4 38 = .ok (.iushr, 1) := by decide +kernel
theorem dJ6_bitCount_0f7a4_39 : decode cJ6_bitCount_0f7a4 39 = .ok (.iadd, 1) := by decide +kernel
theorem dJ6_bitCount_0f7a4_40 : decode cJ6_bitCount_0f7a4 40 = .ok (.istore_n 0, 1) := by decide +kernel
theorem dJ6_bitCount_0f7a4_41 : decode cJ6_bitCount_0f7a4 41 = .ok (.iload_n 0, 1) := by decide +kernel
theorem dJ6_bitCount_0f7a4_42 : decode cJ6_bitCount_0f7a4 42 = .ok (.iload_n 0, 1) := by decide +kernel
theorem dJ6_bitCount_0f7a4_43 : decode cJ6_bitCount_0f7a4 43 = .ok (.bipush 16, 2) := by decide +kernel
theorem dJ6_bitCount_0f7a4_45 : decode cJ6_bitCount_0f7a4 45 = .ok (.iushr, 1) := by decide +kernel
theorem dJ6_bitCount_0f7a4_46 : decode cJ6_bitCount_0f7a4 46 = .ok (.iadd, 1) := by decide +kernel
theorem dJ6_bitCount_0f7a4_47 : decode cJ6_bitCount_0f7a4 47 = .ok (.istore_n 0, 1) := by decide +kernel
theorem dJ6_bitCount_0f7a4_48 : decode cJ6_bitCount_0f7a4 48 = .ok (.iload_n 0, 1) := by decide +kernel
theorem dJ6_bitCount_0f7a4_49 : decode cJ6_bitCount_0f7a4 49 = .ok (.bipush 63, 2) := by decide +kernel
theorem dJ6_bitCount_0f7a4_51 : decode cJ6_bitCount_0f7a4 51 = .ok (.iand, 1) := by decide +kernel
theorem dJ6_bitCount_0f7a4_52 : decode cJ6_bitCount_0f7a4 52 = .ok (.ireturn, 1) := by decide +kernel
theorem dJ9_floorMod_7cf53_0 : decode cJ9_floorMod_7cf53 0 = .ok (.iload_n 0, 1) := by decide +kernel
theorem dJ9_floorMod_7cf53_1 : decode cJ9_floorMod_7cf53 1 = .ok (.iload_n 1, 1) := by decide +kernel
theorem dJ9_floorMod_7cf53_2 : decode cJ9_floorMod_7cf53 2 = .ok (.irem, 1) := by decide +kernel
theorem dJ9_floorMod_7cf53_3 : decode cJ9_floorMod_7cf53 3 = .ok (.istore_n 2, 1) := by decide +kernel
theorem dJ9_floorMod_7cf53_4 : decode cJ9_floorMod_7cf53 4 = .ok (.iload_n 0, 1) := by decide +kernel
theorem dJ9_floorMod_7cf53_5 : decode cJ9_floorMod_7cf53 5 = .ok (.iload_n 1, 1) := by decide +kernel
theorem dJ9_floorMod_7cf53_6 : decode cJ9_floorMod_7cf53 6 = .ok (.ixor, 1) := by decide +kernel
theorem dJ9_floorMod_7cf53_7 : decode cJ9_floorMod_7cf53 7 = .ok (.ifCond .ge 11, 3) := by decide +kernel
theorem dJ9_floorMod_7cf53_10 : decode cJ9_floorMod_7cf53 10 = .ok (.iload_n 2, 1) := by decide +kernel
theorem dJ9_floorMod_7cf53_11 : decode cJ9_floorMod_7cf53 11 = .ok (.ifCond .eq 7, 3) := by decide +kernel
theorem dJ9_floorMod_7cf53_14 : decode cJ9_floorMod_7cf53 14 = .ok (.iload_n 2, 1) := by decide +kernel
theorem dJ9_floorMod_7cf53_15 : decode cJ9_floorMod_7cf53 15 = .ok (.iload_n 1, 1) := by decide +kernel
theorem dJ9_floorMod_7cf53_16 : decode cJ9_floorMod_7cf53 16 = .ok (.iadd, 1) := by decide +kernel
theorem dJ9_floorMod_7cf53_17 : decode cJ9_floorMod_7cf53 17 = .ok (.ireturn, 1) := by decide +kernel
theorem dJ9_floorMod_7cf53_18 : decode cJ9_floorMod_7cf53 18 = .ok (.iload_n 2, 1) := by decide +kernel
theorem dJ9_floorMod_7cf53_19 : decode cJ9_floorMod_7cf53 19 = .ok (.ireturn, 1) := by decide +kernel
theorem dJ9_abs_0f7a4_0 : decode cJ9_abs_0f7a4 0 = .ok (.iload_n 0, 1) := by decide +kernel
theorem dJ9_abs_0f7a4_1 : decode cJ9_abs_0f7a4 1 = .ok (.ifCond .ge 8, 3) := by decide +kernel
theorem dJ9_abs_0f7a4_4 : decode cJ9_abs_0f7a4 4 = .ok (.iload_n 0, 1) := by decide +kernel
theorem dJ9_abs_0f7a4_5 : decode cJ9_abs_0f7a4 5 = .ok (.ineg, 1) := by decide +kernel
theorem dJ9_abs_0f7a4_6 : decode cJ9_abs_0f7a4 6 = .ok (.goto 4, 3) := by decide +kernel
theorem dJ9_abs_0f7a4_9 : decode cJ9_abs_0f7a4 9 = .ok (.iload_n 0, 1) := by decide +kernel
theorem dJ9_abs_0f7a4_10 : decode cJ9_abs_0f7a4 10 = .ok (.ireturn, 1) := by decide +kernel
theorem dJ9_max_7cf53_0 : decode cJ9_max_7cf53 0 = .ok (.iload_n 0, 1) := by decide +kernel
theorem dJ9_max_7cf53_1 : decode cJ9_max_7cf53 1 = .ok (.iload_n 1, 1) := by decide +kernel
theorem dJ9_max_7cf53_2 : decode cJ9_max_7cf53 2 = .ok (.if_icmp .lt 7, 3) := by decide +kernel
theorem dJ9_max_7cf53_5 : decode cJ9_max_7cf53 5 = .ok (.iload_n 0, 1) := by decide +kernel
theorem dJ9_max_7cf53_6 : decode cJ9_max_7cf53 6 = .ok (.goto 4, 3) := by decide +kernel
theorem dJ9_max_7cf53_9 : decode cJ9_max_7cf53 9 = .ok (.iload_n 1, 1) := by decide +kernel
theorem dJ9_max_7cf53_10 : decode cJ9_max_7cf53 10 = .ok (.ireturn, 1) := by decide +kernel
theorem dJ9_max_f86c9_0 : decode cJ9_max_f86c9 0 = .ok (.lload_n 0, 1) := by decide +kernel
theorem dJ9_max_f86c9_1 : decode cJ9_max_f86c9 1 = .ok (.lload_n 2, 1) := by decide +kernel
theorem dJ9_max_f86c9_2 : decode cJ9_max_f86c9 2 = .ok (.lcmp, 1) := by decide +kernel
theorem dJ9_max_f86c9_3 : decode cJ9_max_f86c9 3 = .ok (.ifCond .lt 7, 3) := by decide +kernel
theorem dJ9_max_f86c9_6 : decode cJ9_max_f86c9 6 = .ok (.lload_n 0, 1) := by decide +kernel
theorem dJ9_max_f86c9_7 : decode cJ9_max_f86c9 7 = .ok (.goto 4, 3) := by decide +kernel
theorem dJ9_max_f86c9_10 : decode cJ9_max_f86c9 10 = .ok (.lload_n 2, 1) := by decide +kernel
theorem dJ9_max_f86c9_11 : decode cJ9_max_f86c9 11 = .ok (.lreturn, 1) := by decide +kernel
theorem dJ9_min_7cf53_0 : decode cJ9_min_7cf53 0 = .ok (.iload_n 0, 1) := by decide +kernel
theorem dJ9_min_7cf53_1 : decode cJ9_min_7cf53 1 = .ok (.iload_n 1, 1) := by decide +kernel
theorem dJ9_min_7cf53_2 : decode cJ9_min_7cf53 2 = .ok (.if_icmp .gt 7, 3) := by decide +kernel
theorem dJ9_min_7cf53_5 : decode cJ9_min_7cf53 5 = .ok (.iload_n 0, 1) := by decide +kernel
theorem dJ9_min_7cf53_6 : decode cJ9_min_7cf53 6 = .ok (.goto 4, 3) := by decide +kernel
theorem dJ9_min_7cf53_9 : decode cJ9_min_7cf53 9 = .ok (.iload_n 1, 1) := by decide +kernel
theorem dJ9_min_7cf53_10 : decode cJ9_min_7cf53 10 = .ok (.ireturn, 1) := by decide +kernel
theorem dJ9_min_f86c9_0 : decode cJ9_min_f86c9 0 = .ok (.lload_n 0, 1) := by decide +kernel
theorem dJ9_min_f86c9_1 : decode cJ9_min_f86c9 1 = .ok (.lload_n 2, 1) := by decide +kernel
theorem dJ9_min_f86c9_2 : decode cJ9_min_f86c9 2 = .ok (.lcmp, 1) := by decide +kernel
theorem dJ9_min_f86c9_3 : decode cJ9_min_f86c9 3 = .ok (.ifCond .gt 7, 3) := by decide +kernel
theorem dJ9_min_f86c9_6 : decode cJ9_min_f86c9 6 = .ok (.lload_n 0, 1) := by decide +kernel
theorem dJ9_min_f86c9_7 : decode cJ9_min_f86c9 7 = .ok (.goto 4, 3) := by decide +kernel
theorem dJ9_min_f86c9_10 : decode cJ9_min_f86c9 10 = .ok (.lload_n 2, 1) := by decide +kernel
theorem dJ9_min_f86c9_11 : decode cJ9_min_f86c9 11 = .ok (.lreturn, 1) := by decide +kernel
set_option maxRecDepth 20000 in
theorem ggJ0_length_8abf5_J0_coder_7d493 : GoodIn wsJ0_length_8abf5 wsJ0_coder_7d493 := goodIn_r _ [6, 7, 8] (by decide +kernel) (by decide +kernel)
set_option maxRecDepth 20000 in
theorem gJ0_length_8abf5_J0_coder_7d493 : GoodIn wsJ0_length_8abf5 (wsV RJ0 335 RJ0 yJ0_coder_7d493 wsJ0_coder_7d493) := goodIn_app (goodIn_of _ (by decide +kernel)) ggJ0_length_8abf5_J0_coder_7d493
theorem dJ0_length_8abf5_0 : decode cJ0_length_8abf5 0 = .ok (.aload_n 0, 1) := by decide +kernel
theorem dJ0_length_8abf5_1 : decode cJ0_length_8abf5 1 = .ok (.getfield 9, 3) := by decide +kernel
theorem dJ0_length_8abf5_4 : decode cJ0_length_8abf5 4 = .ok (.arraylength, 1) := by decide +kernel
theorem dJ0_length_8abf5_5 : decode cJ0_length_8abf5 5 = .ok (.aload_n 0, 1) := by decide +kernel
theorem dJ0_length_8abf5_6 : decode cJ0_length_8abf5 6 = .ok (.invokevirtual 335, 3) := by decide +kernel
theorem dJ0_length_8abf5_9 : decode cJ0_length_8abf5 9 = .ok (.ishr, 1) := by decide +kernel
theorem dJ0_length_8abf5_10 : decode cJ0_length_8abf5 10 = .ok (.ireturn, 1) := by decide +kernel
set_option maxRecDepth 20000 in
theorem ggJ0_charAt_5068e_J0_isLatin1_aae02 : GoodIn wsJ0_charAt_5068e wsJ0_isLatin1_aae02 := goodIn_r _ [6, 7, 8] (by decide +kernel) (by decide +kernel)
set_option maxRecDepth 20000 in
theorem gJ0_charAt_5068e_J0_isLatin1_aae02 : GoodIn wsJ0_charAt_5068e (wsV RJ0 492 RJ0 yJ0_isLatin1_aae02 wsJ0_isLatin1_aae02) := goodIn_app (goodIn_of _ (by decide +kernel)) ggJ0_charAt_5068e_J0_isLatin1_aae02
set_option maxRecDepth 20000 in
theorem ggJ0_charAt_5068e_J1_charAt_3b067 : GoodIn wsJ0_charAt_5068e wsJ1_charAt_3b067 := goodIn_r _ [12, 13, 14, 5, 15, 16, 17, 18, 19, 20] (by decide +kernel) (by decide +kernel)
set_option maxRecDepth 20000 in
theorem gJ0_charAt_5068e_J1_charAt_3b067 : GoodIn wsJ0_charAt_5068e (va_wsS RJ0 495 yJ1_charAt_3b067 wsJ1_charAt_3b067) := goodIn_app (goodIn_of _ (by decide +kernel)) ggJ0_charAt_5068e_J1_charAt_3b067
set_option maxRecDepth 20000 in
theorem ggJ0_charAt_5068e_J2_charAt_3b067 : GoodIn wsJ0_charAt_5068e wsJ2_charAt_3b067 := goodIn_r _ [24, 25, 26, 23, 27, 28, 29, 30, 31, 14, 5, 15, 16, 17, 18, 19, 20, 32, 33, 34, 35, 36, 37] (by decide +kernel) (by decide +kernel)
set_option maxRecDepth 20000 in
theorem gJ0_charAt_5068e_J2_charAt_3b067 : GoodIn wsJ0_charAt_5068e (va_wsS RJ0 498 yJ2_charAt_3b067 wsJ2_charAt_3b067) := goodIn_app (goodIn_of _ (by decide +kernel)) ggJ0_charAt_5068e_J2_charAt_3b067
theorem dJ0_charAt_5068e_0 : decode cJ0_charAt_5068e 0 = .ok (.aload_n 0, 1) := by decide +kernel
theorem dJ0_charAt_5068e_1 : decode cJ0_charAt_5068e 1 = .ok (.invokevirtual 492, 3) := by decide +kernel
theorem dJ0_charAt_5068e_4 : decode cJ0_charAt_5068e 4 = .ok (.ifCond .eq 12, 3) := by decide +kernel
theorem dJ0_charAt_5068e_7 : decode cJ0_charAt_5068e 7 = .ok (.aload_n 0, 1) := by decide +kernel
theorem dJ0_charAt_5068e_8 : decode cJ0_charAt_5068e 8 = .ok (.getfield 9, 3) := by decide +kernel
theorem dJ0_charAt_5068e_11 : decode cJ0_charAt_5068e 11 = .ok (.iload_n 1, 1) := by decide +kernel
theorem dJ0_charAt_5068e_12 : decode cJ0_charAt_5068e 12 = .ok (.invokestatic 495, 3) := by decide +kernel
theorem dJ0_charAt_5068e_15 : decode cJ0_charAt_5068e 15 = .ok (.ireturn, 1) := by decide +kernel
theorem dJ0_charAt_5068e_16 : decode cJ0_charAt_5068e 16 = .ok (.aload_n 0, 1) := by decide +kernel
theorem dJ0_charAt_5068e_17 : decode cJ0_charAt_5068e 17 = .ok (.getfield 9, 3) := by decide +kernel
theorem dJ0_charAt_5068e_20 : decode cJ0_charAt_5068e 20 = .ok (.iload_n 1, 1) := by decide +kernel
theorem dJ0_charAt_5068e_21 : decode cJ0_charAt_5068e 21 = .ok (.invokestatic 498, 3) := by decide +kernel
theorem dJ0_charAt_5068e_24 : decode cJ0_charAt_5068e 24 = .ok (.ireturn, 1) := by decide +kernel
theorem dJ0_coder_7d493_0 : decode cJ0_coder_7d493 0 = .ok (.getstatic 38, 3) := by decide +kernel
theorem dJ0_coder_7d493_3 : decode cJ0_coder_7d493 3 = .ok (.ifCond .eq 10, 3) := by decide +kernel
theorem dJ0_coder_7d493_6 : decode cJ0_coder_7d493 6 = .ok (.aload_n 0, 1) := by decide +kernel
theorem dJ0_coder_7d493_7 : decode cJ0_coder_7d493 7 = .ok (.getfield 15, 3) := by decide +kernel
theorem dJ0_coder_7d493_10 : decode cJ0_coder_7d493 10 = .ok (.goto 4, 3) := by decide +kernel
theorem dJ0_coder_7d493_13 : decode cJ0_coder_7d493 13 = .ok (.iconst 1, 1) := by decide +kernel
theorem dJ0_coder_7d493_14 : decode cJ0_coder_7d493 14 = .ok (.ireturn, 1) := by decide +kernel
theorem dJ0_isLatin1_aae02_0 : decode cJ0_isLatin1_aae02 0 = .ok (.getstatic 38, 3) := by decide +kernel
theorem dJ0_isLatin1_aae02_3 : decode cJ0_isLatin1_aae02 3 = .ok (.ifCond .eq 14, 3) := by decide +kernel
theorem dJ0_isLatin1_aae02_6 : decode cJ0_isLatin1_aae02 6 = .ok (.aload_n 0, 1) := by decide +kernel
theorem dJ0_isLatin1_aae02_7 : decode cJ0_isLatin1_aae02 7 = .ok (.getfield 15, 3) := by decide +kernel
theorem dJ0_isLatin1_aae02_10 : decode cJ0_isLatin1_aae02 10 = .ok (.ifCond .ne 7, 3) := by decide +kernel
theorem dJ0_isLatin1_aae02_13 : decode cJ0_isLatin1_aae02 13 = .ok (.iconst 1, 1) := by decide +kernel
theorem dJ0_isLatin1_aae02_14 : decode cJ0_isLatin1_aae02 14 = .ok (.goto 4, 3) := by decide +kernel
theorem dJ0_isLatin1_aae02_17 : decode cJ0_isLatin1_aae02 17 = .ok (.iconst 0, 1) := by decide +kernel
theorem dJ0_isLatin1_aae02_18 : decode cJ0_isLatin1_aae02 18 = .ok (.ireturn, 1) := by decide +kernel
set_option maxRecDepth 20000 in
theorem ggJ0_checkIndex_df160_J3_checkIndex_8e157 : GoodIn wsJ0_checkIndex_df160 wsJ3_checkIndex_8e157 := goodIn_r _ [5] (by decide +kernel) (by decide +kernel)
set_option maxRecDepth 20000 in
theorem gJ0_checkIndex_df160_J3_checkIndex_8e157 : GoodIn wsJ0_checkIndex_df160 (va_wsS RJ0 1059 yJ3_checkIndex_8e157 wsJ3_checkIndex_8e157) := goodIn_app (goodIn_of _ (by decide +kernel)) ggJ0_checkIndex_df160_J3_checkIndex_8e157
theorem dJ0_checkIndex_df160_0 : decode cJ0_checkIndex_df160 0 = .ok (.iload_n 0, 1) := by decide +kernel
theorem dJ0_checkIndex_df160_1 : decode cJ0_checkIndex_df160 1 = .ok (.iload_n 1, 1) := by decide +kernel
theorem dJ0_checkIndex_df160_2 : decode cJ0_checkIndex_df160 2 = .ok (.getstatic 1053, 3) := by decide +kernel
theorem dJ0_checkIndex_df160_5 : decode cJ0_checkIndex_df160 5 = .ok (.invokestatic 1059, 3) := by decide +kernel
theorem dJ0_checkIndex_df160_8 : decode cJ0_checkIndex_df160 8 = .ok (.pop, 1) := by decide +kernel
theorem dJ0_checkIndex_df160_9 : decode cJ0_checkIndex_df160 9 = .ok (.return_, 1) := by decide +kernel
set_option maxRecDepth 20000 in
theorem ggJ1_charAt_3b067_J0_checkIndex_df160 : GoodIn wsJ1_charAt_3b067 wsJ0_checkIndex_df160 := goodIn_r _ [4, 5, 6, 7, 8, 9] (by decide +kernel) (by decide +kernel)
set_option maxRecDepth 20000 in
theorem gJ1_charAt_3b067_J0_checkIndex_df160 : GoodIn wsJ1_charAt_3b067 (va_wsS RJ1 9 yJ0_checkIndex_df160 wsJ0_checkIndex_df160) := goodIn_app (goodIn_of _ (by decide +kernel)) ggJ1_charAt_3b067_J0_checkIndex_df160
theorem dJ1_charAt_3b067_0 : decode cJ1_charAt_3b067 0 = .ok (.iload_n 1, 1) := by decide +kernel
theorem dJ1_charAt_3b067_1 : decode cJ1_charAt_3b067 1 = .ok (.aload_n 0, 1) := by decide +kernel
theorem dJ1_charAt_3b067_2 : decode cJ1_charAt_3b067 2 = .ok (.arraylength, 1) := by decide +kernel
theorem dJ1_charAt_3b067_3 : decode cJ1_charAt_3b067 3 = .ok (.invokestatic 9, 3) := by decide +kernel
theorem dJ1_charAt_3b067_6 : decode cJ1_charAt_3b067 6 = .ok (.aload_n 0, 1) := by decide +kernel
theorem dJ1_charAt_3b067_7 : decode cJ1_charAt_3b067 7 = .ok (.iload_n 1, 1) := by decide +kernel
theorem dJ1_charAt_3b067_8 : decode cJ1_charAt_3b067 8 = .ok (.baload, 1) := by decide +kernel
theorem dJ1_charAt_3b067_9 : decode cJ1_charAt_3b067 9 = .ok (.sipush 255, 3) := by decide +kernel
theorem dJ1_charAt_3b067_12 : decode cJ1_charAt_3b067 12 = .ok (.iand, 1) := by decide +kernel
theorem dJ1_charAt_3b067_13 : decode cJ1_charAt_3b067 13 = .ok (.i2c, 1) := by decide +kernel
theorem dJ1_charAt_3b067_14 : decode cJ1_charAt_3b067 14 = .ok (.ireturn, 1) := by decide +kernel
