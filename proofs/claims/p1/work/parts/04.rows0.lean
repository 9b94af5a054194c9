set_option maxRecDepth 20000 in
theorem ggX0_init_X6_init : GoodIn wsX0_init wsX6_init := goodIn_r _ [9, 10, 2, 3, 11, 12, 13, 14, 15, 19, 20, 21, 22, 23, 24, 25] (by decide +kernel) (by decide +kernel)
set_option maxRecDepth 20000 in
theorem gX0_init_X6_init_n17 : GoodIn wsX0_init (wsX6_init) := ggX0_init_X6_init
theorem dX0_init_0 : decode cX0_init 0 = .ok (.aload_n 0, 1) := by decide +kernel
theorem dX0_init_1 : decode cX0_init 1 = .ok (.invokespecial 3, 3) := by decide +kernel
theorem dX0_init_4 : decode cX0_init 4 = .ok (.aload_n 0, 1) := by decide +kernel
theorem dX0_init_5 : decode cX0_init 5 = .ok (.bipush 40, 2) := by decide +kernel
theorem dX0_init_7 : decode cX0_init 7 = .ok (.anewarray 9, 3) := by decide +kernel
theorem dX0_init_10 : decode cX0_init 10 = .ok (.putfield 11, 3) := by decide +kernel
theorem dX0_init_13 : decode cX0_init 13 = .ok (.iconst 0, 1) := by decide +kernel
theorem dX0_init_14 : decode cX0_init 14 = .ok (.istore_n 1, 1) := by decide +kernel
theorem dX0_init_15 : decode cX0_init 15 = .ok (.iload_n 1, 1) := by decide +kernel
theorem dX0_init_16 : decode cX0_init 16 = .ok (.bipush 40, 2) := by decide +kernel
theorem dX0_init_18 : decode cX0_init 18 = .ok (.if_icmp .ge 22, 3) := by decide +kernel
theorem dX0_init_21 : decode cX0_init 21 = .ok (.aload_n 0, 1) := by decide +kernel
theorem dX0_init_22 : decode cX0_init 22 = .ok (.getfield 11, 3) := by decide +kernel
theorem dX0_init_25 : decode cX0_init 25 = .ok (.iload_n 1, 1) := by decide +kernel
theorem dX0_init_26 : decode cX0_init 26 = .ok (.new 9, 3) := by decide +kernel
theorem dX0_init_29 : decode cX0_init 29 = .ok (.dup, 1) := by decide +kernel
theorem dX0_init_30 : decode cX0_init 30 = .ok (.invokespecial 17, 3) := by decide +kernel
theorem dX0_init_33 : decode cX0_init 33 = .ok (.aastore, 1) := by decide +kernel
theorem dX0_init_34 : decode cX0_init 34 = .ok (.iinc 1 1, 3) := by decide +kernel
theorem dX0_init_37 : decode cX0_init 37 = .ok (.goto (-22), 3) := by decide +kernel
theorem dX0_init_40 : decode cX0_init 40 = .ok (.return_, 1) := by decide +kernel
set_option maxRecDepth 20000 in
theorem ggX0_takeBack_X6_become : GoodIn wsX0_takeBack wsX6_become := goodIn_r _ [7, 8, 9, 10, 11, 12, 13, 14, 15, 16, 17, 18, 22, 23, 24, 25, 26, 27, 28] (by decide +kernel) (by decide +kernel)
set_option maxRecDepth 20000 in
theorem gX0_takeBack_X6_become_n22 : GoodIn wsX0_takeBack (wsX6_become) := ggX0_takeBack_X6_become
theorem dX0_takeBack_0 : decode cX0_takeBack 0 = .ok (.aload_n 0, 1) := by decide +kernel
theorem dX0_takeBack_1 : decode cX0_takeBack 1 = .ok (.getfield 26, 3) := by decide +kernel
theorem dX0_takeBack_4 : decode cX0_takeBack 4 = .ok (.ifCond .ne 5, 3) := by decide +kernel
theorem dX0_takeBack_7 : decode cX0_takeBack 7 = .ok (.iconst 0, 1) := by decide +kernel
theorem dX0_takeBack_8 : decode cX0_takeBack 8 = .ok (.ireturn, 1) := by decide +kernel
theorem dX0_takeBack_9 : decode cX0_takeBack 9 = .ok (.aload_n 0, 1) := by decide +kernel
theorem dX0_takeBack_10 : decode cX0_takeBack 10 = .ok (.getfield 18, 3) := by decide +kernel
theorem dX0_takeBack_13 : decode cX0_takeBack 13 = .ok (.ifCond .le 12, 3) := by decide +kernel
theorem dX0_takeBack_16 : decode cX0_takeBack 16 = .ok (.aload_n 0, 1) := by decide +kernel
theorem dX0_takeBack_17 : decode cX0_takeBack 17 = .ok (.getfield 18, 3) := by decide +kernel
theorem dX0_takeBack_20 : decode cX0_takeBack 20 = .ok (.iconst 1, 1) := by decide +kernel
theorem dX0_takeBack_21 : decode cX0_takeBack 21 = .ok (.isub, 1) := by decide +kernel
theorem dX0_takeBack_22 : decode cX0_takeBack 22 = .ok (.goto 5, 3) := by decide +kernel
theorem dX0_takeBack_25 : decode cX0_takeBack 25 = .ok (.bipush 39, 2) := by decide +kernel
theorem dX0_takeBack_27 : decode cX0_takeBack 27 = .ok (.istore_n 2, 1) := by decide +kernel
theorem dX0_takeBack_28 : decode cX0_takeBack 28 = .ok (.aload_n 0, 1) := by decide +kernel
theorem dX0_takeBack_29 : decode cX0_takeBack 29 = .ok (.getfield 11, 3) := by decide +kernel
theorem dX0_takeBack_32 : decode cX0_takeBack 32 = .ok (.iload_n 2, 1) := by decide +kernel
theorem dX0_takeBack_33 : decode cX0_takeBack 33 = .ok (.aaload, 1) := by decide +kernel
theorem dX0_takeBack_34 : decode cX0_takeBack 34 = .ok (.astore_n 3, 1) := by decide +kernel
theorem dX0_takeBack_35 : decode cX0_takeBack 35 = .ok (.aload_n 3, 1) := by decide +kernel
theorem dX0_takeBack_36 : decode cX0_takeBack 36 = .ok (.ifnonnull 5, 3) := by decide +kernel
theorem dX0_takeBack_39 : decode cX0_takeBack 39 = .ok (.iconst 0, 1) := by decide +kernel
theorem dX0_takeBack_40 : decode cX0_takeBack 40 = .ok (.ireturn, 1) := by decide +kernel
theorem dX0_takeBack_41 : decode cX0_takeBack 41 = .ok (.aload_n 1, 1) := by decide +kernel
theorem dX0_takeBack_42 : decode cX0_takeBack 42 = .ok (.aload_n 3, 1) := by decide +kernel
theorem dX0_takeBack_43 : decode cX0_takeBack 43 = .ok (.invokevirtual 22, 3) := by decide +kernel
theorem dX0_takeBack_46 : decode cX0_takeBack 46 = .ok (.aload_n 0, 1) := by decide +kernel
theorem dX0_takeBack_47 : decode cX0_takeBack 47 = .ok (.iload_n 2, 1) := by decide +kernel
theorem dX0_takeBack_48 : decode cX0_takeBack 48 = .ok (.putfield 18, 3) := by decide +kernel
theorem dX0_takeBack_51 : decode cX0_takeBack 51 = .ok (.aload_n 0, 1) := by decide +kernel
theorem dX0_takeBack_52 : decode cX0_takeBack 52 = .ok (.dup, 1) := by decide +kernel
theorem dX0_takeBack_53 : decode cX0_takeBack 53 = .ok (.getfield 26, 3) := by decide +kernel
theorem dX0_takeBack_56 : decode cX0_takeBack 56 = .ok (.iconst 1, 1) := by decide +kernel
theorem dX0_takeBack_57 : decode cX0_takeBack 57 = .ok (.isub, 1) := by decide +kernel
theorem dX0_takeBack_58 : decode cX0_takeBack 58 = .ok (.putfield 26, 3) := by decide +kernel
theorem dX0_takeBack_61 : decode cX0_takeBack 61 = .ok (.iconst 1, 1) := by decide +kernel
theorem dX0_takeBack_62 : decode cX0_takeBack 62 = .ok (.ireturn, 1) := by decide +kernel
theorem dX0_forgetAll_0 : decode cX0_forgetAll 0 = .ok (.aload_n 0, 1) := by decide +kernel
theorem dX0_forgetAll_1 : decode cX0_forgetAll 1 = .ok (.iconst 0, 1) := by decide +kernel
theorem dX0_forgetAll_2 : decode cX0_forgetAll 2 = .ok (.putfield 26, 3) := by decide +kernel
theorem dX0_forgetAll_5 : decode cX0_forgetAll 5 = .ok (.return_, 1) := by decide +kernel
theorem dX1_init_0 : decode cX1_init 0 = .ok (.aload_n 0, 1) := by decide +kernel
theorem dX1_init_1 : decode cX1_init 1 = .ok (.invokespecial 3, 3) := by decide +kernel
theorem dX1_init_4 : decode cX1_init 4 = .ok (.aload_n 0, 1) := by decide +kernel
theorem dX1_init_5 : decode cX1_init 5 = .ok (.aload_n 1, 1) := by decide +kernel
theorem dX1_init_6 : decode cX1_init 6 = .ok (.putfield 9, 3) := by decide +kernel
theorem dX1_init_9 : decode cX1_init 9 = .ok (.aload_n 0, 1) := by decide +kernel
theorem dX1_init_10 : decode cX1_init 10 = .ok (.aload_n 2, 1) := by decide +kernel
theorem dX1_init_11 : decode cX1_init 11 = .ok (.putfield 15, 3) := by decide +kernel
theorem dX1_init_14 : decode cX1_init 14 = .ok (.aload_n 0, 1) := by decide +kernel
theorem dX1_init_15 : decode cX1_init 15 = .ok (.aload_n 3, 1) := by decide +kernel
theorem dX1_init_16 : decode cX1_init 16 = .ok (.putfield 19, 3) := by decide +kernel
theorem dX1_init_19 : decode cX1_init 19 = .ok (.return_, 1) := by decide +kernel
theorem dX2_init_0 : decode cX2_init 0 = .ok (.aload_n 0, 1) := by decide +kernel
theorem dX2_init_1 : decode cX2_init 1 = .ok (.invokespecial 3, 3) := by decide +kernel
theorem dX2_init_4 : decode cX2_init 4 = .ok (.aload_n 0, 1) := by decide +kernel
theorem dX2_init_5 : decode cX2_init 5 = .ok (.sipush 240, 3) := by decide +kernel
theorem dX2_init_8 : decode cX2_init 8 = .ok (.newarray .int, 2) := by decide +kernel
theorem dX2_init_10 : decode cX2_init 10 = .ok (.putfield 9, 3) := by decide +kernel
theorem dX2_init_13 : decode cX2_init 13 = .ok (.aload_n 0, 1) := by decide +kernel
theorem dX2_init_14 : decode cX2_init 14 = .ok (.aload_n 1, 1) := by decide +kernel
theorem dX2_init_15 : decode cX2_init 15 = .ok (.putfield 15, 3) := by decide +kernel
theorem dX2_init_18 : decode cX2_init 18 = .ok (.return_, 1) := by decide +kernel
set_option maxRecDepth 20000 in
theorem ggX2_readLaw_X8_rewind : GoodIn wsX2_readLaw wsX8_rewind := goodIn_r _ [6, 7, 8, 83, 84, 85, 86] (by decide +kernel) (by decide +kernel)
set_option maxRecDepth 20000 in
theorem gX2_readLaw_X8_rewind_n23 : GoodIn wsX2_readLaw (wsX8_rewind) := ggX2_readLaw_X8_rewind
set_option maxRecDepth 20000 in
theorem ggX2_readLaw_X2_readClause : GoodIn wsX2_readLaw wsX2_readClause := goodIn_r _ [13, 2, 14, 4, 15, 16, 17, 18, 19, 20, 7, 21, 22, 23, 24, 25, 26, 27, 28, 29, 30, 8, 31, 32, 33, 34, 35, 36, 37, 12, 38, 39, 40, 41, 42, 43, 44, 45, 1, 46, 47, 48, 49, 50, 51, 52, 53, 54, 55, 56, 57, 58, 59, 60, 61, 62, 63, 64, 65, 66, 67, 68, 69, 70, 71, 72, 73, 74, 75, 76, 77, 78, 79, 80, 81, 82, 83, 84, 85, 86] (by decide +kernel) (by decide +kernel)
set_option maxRecDepth 20000 in
theorem gX2_readLaw_X2_readClause : GoodIn wsX2_readLaw (wsV RX2 28 RX2 yX2_readClause wsX2_readClause) := goodIn_app (goodIn_of _ (by decide +kernel)) ggX2_readLaw_X2_readClause
set_option maxRecDepth 20000 in
theorem ggX2_readLaw_X8_ahead : GoodIn wsX2_readLaw wsX8_ahead := goodIn_r _ [20, 7, 21, 22, 23, 24, 4, 25, 26, 83, 84, 85, 86] (by decide +kernel) (by decide +kernel)
set_option maxRecDepth 20000 in
theorem gX2_readLaw_X8_ahead_n35 : GoodIn wsX2_readLaw (wsX8_ahead) := ggX2_readLaw_X8_ahead
set_option maxRecDepth 20000 in
theorem ggX2_readLaw_X8_take : GoodIn wsX2_readLaw wsX8_take := goodIn_r _ [16, 17, 18, 19, 4, 20, 7, 21, 22, 23, 24, 25, 26, 27, 28, 29, 30, 8, 31, 32, 33, 34, 83, 84, 85, 86] (by decide +kernel) (by decide +kernel)
set_option maxRecDepth 20000 in
theorem gX2_readLaw_X8_take_n39 : GoodIn wsX2_readLaw (wsX8_take) := ggX2_readLaw_X8_take
theorem dX2_readLaw_0 : decode cX2_readLaw 0 = .ok (.aload_n 0, 1) := by decide +kernel
theorem dX2_readLaw_1 : decode cX2_readLaw 1 = .ok (.iconst 0, 1) := by decide +kernel
theorem dX2_readLaw_2 : decode cX2_readLaw 2 = .ok (.putfield 19, 3) := by decide +kernel
theorem dX2_readLaw_5 : decode cX2_readLaw 5 = .ok (.aload_n 0, 1) := by decide +kernel
theorem dX2_readLaw_6 : decode cX2_readLaw 6 = .ok (.getfield 15, 3) := by decide +kernel
theorem dX2_readLaw_9 : decode cX2_readLaw 9 = .ok (.invokevirtual 23, 3) := by decide +kernel
theorem dX2_readLaw_12 : decode cX2_readLaw 12 = .ok (.iconst 0, 1) := by decide +kernel
theorem dX2_readLaw_13 : decode cX2_readLaw 13 = .ok (.istore_n 1, 1) := by decide +kernel
theorem dX2_readLaw_14 : decode cX2_readLaw 14 = .ok (.iload_n 1, 1) := by decide +kernel
theorem dX2_readLaw_15 : decode cX2_readLaw 15 = .ok (.sipush 240, 3) := by decide +kernel
theorem dX2_readLaw_18 : decode cX2_readLaw 18 = .ok (.if_icmp .gt 57, 3) := by decide +kernel
theorem dX2_readLaw_21 : decode cX2_readLaw 21 = .ok (.aload_n 0, 1) := by decide +kernel
theorem dX2_readLaw_22 : decode cX2_readLaw 22 = .ok (.invokevirtual 28, 3) := by decide +kernel
theorem dX2_readLaw_25 : decode cX2_readLaw 25 = .ok (.ifCond .ne 11, 3) := by decide +kernel
theorem dX2_readLaw_28 : decode cX2_readLaw 28 = .ok (.aload_n 0, 1) := by decide +kernel
theorem dX2_readLaw_29 : decode cX2_readLaw 29 = .ok (.getfield 15, 3) := by decide +kernel
theorem dX2_readLaw_32 : decode cX2_readLaw 32 = .ok (.getfield 32, 3) := by decide +kernel
theorem dX2_readLaw_35 : decode cX2_readLaw 35 = .ok (.ireturn, 1) := by decide +kernel
theorem dX2_readLaw_36 : decode cX2_readLaw 36 = .ok (.aload_n 0, 1) := by decide +kernel
theorem dX2_readLaw_37 : decode cX2_readLaw 37 = .ok (.getfield 15, 3) := by decide +kernel
theorem dX2_readLaw_40 : decode cX2_readLaw 40 = .ok (.invokevirtual 35, 3) := by decide +kernel
theorem dX2_readLaw_43 : decode cX2_readLaw 43 = .ok (.iconst (-1), 1) := by decide +kernel
theorem dX2_readLaw_44 : decode cX2_readLaw 44 = .ok (.if_icmp .ne 5, 3) := by decide +kernel
theorem dX2_readLaw_47 : decode cX2_readLaw 47 = .ok (.iconst (-1), 1) := by decide +kernel
theorem dX2_readLaw_48 : decode cX2_readLaw 48 = .ok (.ireturn, 1) := by decide +kernel
theorem dX2_readLaw_49 : decode cX2_readLaw 49 = .ok (.aload_n 0, 1) := by decide +kernel
theorem dX2_readLaw_50 : decode cX2_readLaw 50 = .ok (.getfield 15, 3) := by decide +kernel
theorem dX2_readLaw_53 : decode cX2_readLaw 53 = .ok (.bipush 59, 2) := by decide +kernel
theorem dX2_readLaw_55 : decode cX2_readLaw 55 = .ok (.invokevirtual 39, 3) := by decide +kernel
theorem dX2_readLaw_58 : decode cX2_readLaw 58 = .ok (.ifCond .ne 11, 3) := by decide +kernel
theorem dX2_readLaw_61 : decode cX2_readLaw 61 = .ok (.aload_n 0, 1) := by decide +kernel
theorem dX2_readLaw_62 : decode cX2_readLaw 62 = .ok (.getfield 15, 3) := by decide +kernel
theorem dX2_readLaw_65 : decode cX2_readLaw 65 = .ok (.getfield 32, 3) := by decide +kernel
theorem dX2_readLaw_68 : decode cX2_readLaw 68 = .ok (.ireturn, 1) := by decide +kernel
theorem dX2_readLaw_69 : decode cX2_readLaw 69 = .ok (.iinc 1 1, 3) := by decide +kernel
theorem dX2_readLaw_72 : decode cX2_readLaw 72 = .ok (.goto (-58), 3) := by decide +kernel
theorem dX2_readLaw_75 : decode cX2_readLaw 75 = .ok (.aload_n 0, 1) := by decide +kernel
theorem dX2_readLaw_76 : decode cX2_readLaw 76 = .ok (.getfield 15, 3) := by decide +kernel
theorem dX2_readLaw_79 : decode cX2_readLaw 79 = .ok (.getfield 43, 3) := by decide +kernel
theorem dX2_readLaw_82 : decode cX2_readLaw 82 = .ok (.ireturn, 1) := by decide +kernel
set_option maxRecDepth 20000 in
theorem ggX2_readClause_X8_take : GoodIn wsX2_readClause wsX8_take := goodIn_r _ [5, 6, 7, 8, 3, 9, 10, 11, 12, 13, 14, 15, 16, 17, 18, 19, 20, 21, 22, 23, 24, 25, 76, 77, 78, 79] (by decide +kernel) (by decide +kernel)
set_option maxRecDepth 20000 in
theorem gX2_readClause_X8_take_n39 : GoodIn wsX2_readClause (wsX8_take) := ggX2_readClause_X8_take
set_option maxRecDepth 20000 in
theorem ggX2_readClause_X8_ahead : GoodIn wsX2_readClause wsX8_ahead := goodIn_r _ [9, 10, 11, 12, 13, 14, 3, 15, 16, 76, 77, 78, 79] (by decide +kernel) (by decide +kernel)
set_option maxRecDepth 20000 in
theorem gX2_readClause_X8_ahead_n35 : GoodIn wsX2_readClause (wsX8_ahead) := ggX2_readClause_X8_ahead
set_option maxRecDepth 20000 in
theorem ggX2_readClause_X2_readSum : GoodIn wsX2_readClause wsX2_readSum := goodIn_r _ [30, 1, 31, 32, 33, 29, 7, 3, 8, 9, 10, 11, 12, 13, 14, 15, 16, 23, 24, 25, 34, 35, 36, 37, 38, 39, 40, 41, 42, 43, 44, 45, 21, 6, 46, 47, 48, 49, 18, 19, 20, 26, 27, 28, 2, 4, 5, 17, 22, 50, 51, 52, 53, 73, 74, 75, 76, 77, 78, 79] (by decide +kernel) (by decide +kernel)
set_option maxRecDepth 20000 in
theorem gX2_readClause_X2_readSum : GoodIn wsX2_readClause (wsV RX2 46 RX2 yX2_readSum wsX2_readSum) := goodIn_app (goodIn_of _ (by decide +kernel)) ggX2_readClause_X2_readSum
set_option maxRecDepth 20000 in
theorem ggX2_readClause_X2_isRelation : GoodIn wsX2_readClause wsX2_isRelation := goodIn_r _ [56] (by decide +kernel) (by decide +kernel)
set_option maxRecDepth 20000 in
theorem gX2_readClause_X2_isRelation : GoodIn wsX2_readClause (va_wsS RX2 49 yX2_isRelation wsX2_isRelation) := goodIn_app (goodIn_of _ (by decide +kernel)) ggX2_readClause_X2_isRelation
set_option maxRecDepth 20000 in
theorem ggX2_readClause_X2_readCondition : GoodIn wsX2_readClause wsX2_readCondition := goodIn_r _ [60, 1, 61, 62, 63, 29, 7, 3, 8, 9, 10, 11, 12, 13, 14, 15, 16, 23, 24, 25, 34, 35, 36, 37, 38, 39, 64, 18, 19, 20, 21, 57, 58, 59, 2, 4, 5, 6, 17, 22, 65, 66, 67, 68, 69, 70, 71, 72, 26, 27, 28, 30, 31, 32, 33, 40, 41, 42, 43, 44, 45, 46, 47, 48, 49, 50, 51, 52, 53, 54, 55, 56, 73, 74, 75, 76, 77, 78, 79] (by decide +kernel) (by decide +kernel)
set_option maxRecDepth 20000 in
theorem gX2_readClause_X2_readCondition : GoodIn wsX2_readClause (wsV RX2 52 RX2 yX2_readCondition wsX2_readCondition) := goodIn_app (goodIn_of _ (by decide +kernel)) ggX2_readClause_X2_readCondition
set_option maxRecDepth 20000 in
theorem ggX2_readClause_X2_emit : GoodIn wsX2_readClause wsX2_emit := goodIn_r _ [37, 38, 39, 73, 74, 75] (by decide +kernel) (by decide +kernel)
set_option maxRecDepth 20000 in
theorem gX2_readClause_X2_emit : GoodIn wsX2_readClause (wsV RX2 56 RX2 yX2_emit wsX2_emit) := goodIn_app (goodIn_of _ (by decide +kernel)) ggX2_readClause_X2_emit
theorem dX2_readClause_0 : decode cX2_readClause 0 = .ok (.aload_n 0, 1) := by decide +kernel
theorem dX2_readClause_1 : decode cX2_readClause 1 = .ok (.getfield 15, 3) := by decide +kernel
theorem dX2_readClause_4 : decode cX2_readClause 4 = .ok (.bipush 121, 2) := by decide +kernel
theorem dX2_readClause_6 : decode cX2_readClause 6 = .ok (.invokevirtual 39, 3) := by decide +kernel
theorem dX2_readClause_9 : decode cX2_readClause 9 = .ok (.ifCond .eq 15, 3) := by decide +kernel
theorem dX2_readClause_12 : decode cX2_readClause 12 = .ok (.aload_n 0, 1) := by decide +kernel
theorem dX2_readClause_13 : decode cX2_readClause 13 = .ok (.getfield 15, 3) := by decide +kernel
theorem dX2_readClause_16 : decode cX2_readClause 16 = .ok (.bipush 58, 2) := by decide +kernel
theorem dX2_readClause_18 : decode cX2_readClause 18 = .ok (.invokevirtual 39, 3) := by decide +kernel
theorem dX2_readClause_21 : decode cX2_readClause 21 = .ok (.ifCond .ne 5, 3) := by decide +kernel
theorem dX2_readClause_24 : decode cX2_readClause 24 = .ok (.iconst 0, 1) := by decide +kernel
theorem dX2_readClause_25 : decode cX2_readClause 25 = .ok (.ireturn, 1) := by decide +kernel
theorem dX2_readClause_26 : decode cX2_readClause 26 = .ok (.aload_n 0, 1) := by decide +kernel
theorem dX2_readClause_27 : decode cX2_readClause 27 = .ok (.getfield 15, 3) := by decide +kernel
theorem dX2_readClause_30 : decode cX2_readClause 30 = .ok (.invokevirtual 35, 3) := by decide +kernel
theorem dX2_readClause_33 : decode cX2_readClause 33 = .ok (.istore_n 1, 1) := by decide +kernel
theorem dX2_readClause_34 : decode cX2_readClause 34 = .ok (.iload_n 1, 1) := by decide +kernel
theorem dX2_readClause_35 : decode cX2_readClause 35 = .ok (.bipush 33, 2) := by decide +kernel
theorem dX2_readClause_37 : decode cX2_readClause 37 = .ok (.if_icmp .eq 13, 3) := by decide +kernel
theorem dX2_readClause_40 : decode cX2_readClause 40 = .ok (.iload_n 1, 1) := by decide +kernel
theorem dX2_readClause_41 : decode cX2_readClause 41 = .ok (.bipush 40, 2) := by decide +kernel
theorem dX2_readClause_43 : decode cX2_readClause 43 = .ok (.if_icmp .eq 7, 3) := by decide +kernel
theorem dX2_readClause_46 : decode cX2_readClause 46 = .ok (.iconst 1, 1) := by decide +kernel
theorem dX2_readClause_47 : decode cX2_readClause 47 = .ok (.goto 4, 3) := by decide +kernel
theorem dX2_readClause_50 : decode cX2_readClause 50 = .ok (.iconst 0, 1) := by decide +kernel
theorem dX2_readClause_51 : decode cX2_readClause 51 = .ok (.istore_n 2, 1) := by decide +kernel
theorem dX2_readClause_52 : decode cX2_readClause 52 = .ok (.iload_n 2, 1) := by decide +kernel
theorem dX2_readClause_53 : decode cX2_readClause 53 = .ok (.ifCond .eq 13, 3) := by decide +kernel
theorem dX2_readClause_56 : decode cX2_readClause 56 = .ok (.aload_n 0, 1) := by decide +kernel
theorem dX2_readClause_57 : decode cX2_readClause 57 = .ok (.iconst 0, 1) := by decide +kernel
theorem dX2_readClause_58 : decode cX2_readClause 58 = .ok (.invokevirtual 46, 3) := by decide +kernel
theorem dX2_readClause_61 : decode cX2_readClause 61 = .ok (.ifCond .ne 5, 3) := by decide +kernel
theorem dX2_readClause_64 : decode cX2_readClause 64 = .ok (.iconst 0, 1) := by decide +kernel
theorem dX2_readClause_65 : decode cX2_readClause 65 = .ok (.ireturn, 1) := by decide +kernel
theorem dX2_readClause_66 : decode cX2_readClause 66 = .ok (.iload_n 2, 1) := by decide +kernel
theorem dX2_readClause_67 : decode cX2_readClause 67 = .ok (.ifCond .eq 16, 3) := by decide +kernel
theorem dX2_readClause_70 : decode cX2_readClause 70 = .ok (.aload_n 0, 1) := by decide +kernel
theorem dX2_readClause_71 : decode cX2_readClause 71 = .ok (.getfield 15, 3) := by decide +kernel
theorem dX2_readClause_74 : decode cX2_readClause 74 = .ok (.invokevirtual 35, 3) := by decide +kernel
theorem dX2_readClause_77 : decode cX2_readClause 77 = .ok (.invokestatic 49, 3) := by decide +kernel
theorem dX2_readClause_80 : decode cX2_readClause 80 = .ok (.ifCond .eq 42, 3) := by decide +kernel
theorem dX2_readClause_83 : decode cX2_readClause 83 = .ok (.aload_n 0, 1) := by decide +kernel
theorem dX2_readClause_84 : decode cX2_readClause 84 = .ok (.iconst 0, 1) := by decide +kernel
theorem dX2_readClause_85 : decode cX2_readClause 85 = .ok (.iload_n 2, 1) := by decide +kernel
theorem dX2_readClause_86 : decode cX2_readClause 86 = .ok (.invokevirtual 52, 3) := by decide +kernel
theorem dX2_readClause_89 : decode cX2_readClause 89 = .ok (.ifCond .eq 15, 3) := by decide +kernel
theorem dX2_readClause_92 : decode cX2_readClause 92 = .ok (.aload_n 0, 1) := by decide +kernel
theorem dX2_readClause_93 : decode cX2_readClause 93 = .ok (.getfield 15, 3) := by decide +kernel
theorem dX2_readClause_96 : decode cX2_readClause 96 = .ok (.bipush 63, 2) := by decide +kernel
theorem dX2_readClause_98 : decode cX2_readClause 98 = .ok (.invokevirtual 39, 3) := by decide +kernel
theorem dX2_readClause_101 : decode cX2_readClause 101 = .ok (.ifCond .ne 5, 3) := by decide +kernel
theorem dX2_readClause_104 : decode cX2_readClause 104 = .ok (.iconst 0, 1) := by decide +kernel
theorem dX2_readClause_105 : decode cX2_readClause 105 = .ok (.ireturn, 1) := by decide +kernel
theorem dX2_readClause_106 : decode cX2_readClause 106 = .ok (.aload_n 0, 1) := by decide +kernel
theorem dX2_readClause_107 : decode cX2_readClause 107 = .ok (.bipush (-63), 2) := by decide +kernel
theorem dX2_readClause_109 : decode cX2_readClause 109 = .ok (.invokevirtual 56, 3) := by decide +kernel
theorem dX2_readClause_112 : decode cX2_readClause 112 = .ok (.aload_n 0, 1) := by decide +kernel
theorem dX2_readClause_113 : decode cX2_readClause 113 = .ok (.iconst 0, 1) := by decide +kernel
theorem dX2_readClause_114 : decode cX2_readClause 114 = .ok (.invokevirtual 46, 3) := by decide +kernel
theorem dX2_readClause_117 : decode cX2_readClause 117 = .ok (.ifCond .ne 5, 3) := by decide +kernel
theorem dX2_readClause_120 : decode cX2_readClause 120 = .ok (.iconst 0, 1) := by decide +kernel
theorem dX2_readClause_121 : decode cX2_readClause 121 = .ok (.ireturn, 1) := by decide +kernel
theorem dX2_readClause_122 : decode cX2_readClause 122 = .ok (.aload_n 0, 1) := by decide +kernel
theorem dX2_readClause_123 : decode cX2_readClause 123 = .ok (.bipush (-59), 2) := by decide +kernel
theorem dX2_readClause_125 : decode cX2_readClause 125 = .ok (.invokevirtual 56, 3) := by decide +kernel
theorem dX2_readClause_128 : decode cX2_readClause 128 = .ok (.iconst 1, 1) := by decide +kernel
theorem dX2_readClause_129 : decode cX2_readClause 129 = .ok (.ireturn, 1) := by decide +kernel
theorem dX3_init_0 : decode cX3_init 0 = .ok (.aload_n 0, 1) := by decide +kernel
theorem dX3_init_1 : decode cX3_init 1 = .ok (.invokespecial 3, 3) := by decide +kernel
theorem dX3_init_4 : decode cX3_init 4 = .ok (.aload_n 0, 1) := by decide +kernel
theorem dX3_init_5 : decode cX3_init 5 = .ok (.iconst 4, 1) := by decide +kernel
theorem dX3_init_6 : decode cX3_init 6 = .ok (.sipush 240, 3) := by decide +kernel
theorem dX3_init_9 : decode cX3_init 9 = .ok (.multianewarray 9 2, 4) := by decide +kernel
theorem dX3_init_13 : decode cX3_init 13 = .ok (.putfield 11, 3) := by decide +kernel
theorem dX3_init_16 : decode cX3_init 16 = .ok (.aload_n 0, 1) := by decide +kernel
theorem dX3_init_17 : decode cX3_init 17 = .ok (.iconst 4, 1) := by decide +kernel
theorem dX3_init_18 : decode cX3_init 18 = .ok (.newarray .int, 2) := by decide +kernel
theorem dX3_init_20 : decode cX3_init 20 = .ok (.putfield 16, 3) := by decide +kernel
theorem dX3_init_23 : decode cX3_init 23 = .ok (.aload_n 0, 1) := by decide +kernel
theorem dX3_init_24 : decode cX3_init 24 = .ok (.bipush 64, 2) := by decide +kernel
theorem dX3_init_26 : decode cX3_init 26 = .ok (.newarray .int, 2) := by decide +kernel
theorem dX3_init_28 : decode cX3_init 28 = .ok (.putfield 20, 3) := by decide +kernel
theorem dX3_init_31 : decode cX3_init 31 = .ok (.aload_n 0, 1) := by decide +kernel
theorem dX3_init_32 : decode cX3_init 32 = .ok (.iconst (-1), 1) := by decide +kernel
theorem dX3_init_33 : decode cX3_init 33 = .ok (.putfield 23, 3) := by decide +kernel
theorem dX3_init_36 : decode cX3_init 36 = .ok (.return_, 1) := by decide +kernel
theorem dX4_init_0 : decode cX4_init 0 = .ok (.aload_n 0, 1) := by decide +kernel
theorem dX4_init_1 : decode cX4_init 1 = .ok (.invokespecial 3, 3) := by decide +kernel
theorem dX4_init_4 : decode cX4_init 4 = .ok (.aload_n 0, 1) := by decide +kernel
theorem dX4_init_5 : decode cX4_init 5 = .ok (.bipush 100, 2) := by decide +kernel
theorem dX4_init_7 : decode cX4_init 7 = .ok (.newarray .int, 2) := by decide +kernel
theorem dX4_init_9 : decode cX4_init 9 = .ok (.putfield 11, 3) := by decide +kernel
theorem dX4_init_12 : decode cX4_init 12 = .ok (.aload_n 0, 1) := by decide +kernel
theorem dX4_init_13 : decode cX4_init 13 = .ok (.bipush 100, 2) := by decide +kernel
theorem dX4_init_15 : decode cX4_init 15 = .ok (.newarray .int, 2) := by decide +kernel
theorem dX4_init_17 : decode cX4_init 17 = .ok (.putfield 15, 3) := by decide +kernel
theorem dX4_init_20 : decode cX4_init 20 = .ok (.aload_n 0, 1) := by decide +kernel
theorem dX4_init_21 : decode cX4_init 21 = .ok (.bipush 100, 2) := by decide +kernel
theorem dX4_init_23 : decode cX4_init 23 = .ok (.newarray .int, 2) := by decide +kernel
theorem dX4_init_25 : decode cX4_init 25 = .ok (.putfield 18, 3) := by decide +kernel
theorem dX4_init_28 : decode cX4_init 28 = .ok (.return_, 1) := by decide +kernel
theorem dX5_init_0 : decode cX5_init 0 = .ok (.aload_n 0, 1) := by decide +kernel
theorem dX5_init_1 : decode cX5_init 1 = .ok (.invokespecial 3, 3) := by decide +kernel
theorem dX5_init_4 : decode cX5_init 4 = .ok (.aload_n 0, 1) := by decide +kernel
theorem dX5_init_5 : decode cX5_init 5 = .ok (.iconst 2, 1) := by decide +kernel
theorem dX5_init_6 : decode cX5_init 6 = .ok (.newarray .int, 2) := by decide +kernel
theorem dX5_init_8 : decode cX5_init 8 = .ok (.putfield 9, 3) := by decide +kernel
theorem dX5_init_11 : decode cX5_init 11 = .ok (.aload_n 0, 1) := by decide +kernel
theorem dX5_init_12 : decode cX5_init 12 = .ok (.bipush 12, 2) := by decide +kernel
theorem dX5_init_14 : decode cX5_init 14 = .ok (.iconst 4, 1) := by decide +kernel
theorem dX5_init_15 : decode cX5_init 15 = .ok (.multianewarray 15 2, 4) := by decide +kernel
theorem dX5_init_19 : decode cX5_init 19 = .ok (.putfield 17, 3) := by decide +kernel
theorem dX5_init_22 : decode cX5_init 22 = .ok (.aload_n 0, 1) := by decide +kernel
theorem dX5_init_23 : decode cX5_init 23 = .ok (.iconst 4, 1) := by decide +kernel
theorem dX5_init_24 : decode cX5_init 24 = .ok (.iconst 2, 1) := by decide +kernel
theorem dX5_init_25 : decode cX5_init 25 = .ok (.multianewarray 15 2, 4) := by decide +kernel
theorem dX5_init_29 : decode cX5_init 29 = .ok (.putfield 20, 3) := by decide +kernel
theorem dX5_init_32 : decode cX5_init 32 = .ok (.aload_n 0, 1) := by decide +kernel
theorem dX5_init_33 : decode cX5_init 33 = .ok (.bipush 8, 2) := by decide +kernel
theorem dX5_init_35 : decode cX5_init 35 = .ok (.newarray .int, 2) := by decide +kernel
theorem dX5_init_37 : decode cX5_init 37 = .ok (.putfield 23, 3) := by decide +kernel
theorem dX5_init_40 : decode cX5_init 40 = .ok (.return_, 1) := by decide +kernel
set_option maxRecDepth 20000 in
theorem ggX5_readFrom_X5_begin : GoodIn wsX5_readFrom wsX5_begin := goodIn_r _ [7, 2, 8, 9, 10, 11, 1, 12, 13, 14, 15, 93, 94, 95, 96, 97, 98, 99, 100] (by decide +kernel) (by decide +kernel)
set_option maxRecDepth 20000 in
theorem gX5_readFrom_X5_begin : GoodIn wsX5_readFrom (wsV RX5 42 RX5 yX5_begin wsX5_begin) := goodIn_app (goodIn_of _ (by decide +kernel)) ggX5_readFrom_X5_begin
set_option maxRecDepth 20000 in
theorem ggX5_readFrom_X8_rewind : GoodIn wsX5_readFrom wsX8_rewind := goodIn_r _ [19, 20, 21, 89, 90, 91, 92] (by decide +kernel) (by decide +kernel)
set_option maxRecDepth 20000 in
theorem gX5_readFrom_X8_rewind_n45 : GoodIn wsX5_readFrom (wsX8_rewind) := ggX5_readFrom_X8_rewind
set_option maxRecDepth 20000 in
theorem ggX5_readFrom_X5_readClause : GoodIn wsX5_readFrom wsX5_readClause := goodIn_r _ [25, 10, 26, 27, 28, 1, 8, 29, 30, 12, 13, 14, 15, 31, 32, 33, 9, 34, 35, 36, 37, 38, 39, 17, 40, 41, 20, 42, 43, 44, 45, 46, 47, 48, 49, 50, 51, 52, 6, 53, 54, 55, 56, 57, 58, 59, 21, 60, 61, 62, 63, 64, 65, 66, 93, 94, 95, 96, 97, 98, 99, 100, 89, 90, 91, 92] (by decide +kernel) (by decide +kernel)
set_option maxRecDepth 20000 in
theorem gX5_readFrom_X5_readClause : GoodIn wsX5_readFrom (wsV RX5 50 RX5 yX5_readClause wsX5_readClause) := goodIn_app (goodIn_of _ (by decide +kernel)) ggX5_readFrom_X5_readClause
set_option maxRecDepth 20000 in
theorem ggX5_readFrom_X8_ahead : GoodIn wsX5_readFrom wsX8_ahead := goodIn_r _ [41, 20, 42, 43, 44, 45, 17, 46, 47, 89, 90, 91, 92] (by decide +kernel) (by decide +kernel)
set_option maxRecDepth 20000 in
theorem gX5_readFrom_X8_ahead_n57 : GoodIn wsX5_readFrom (wsX8_ahead) := ggX5_readFrom_X8_ahead
set_option maxRecDepth 20000 in
theorem ggX5_readFrom_X8_take : GoodIn wsX5_readFrom wsX8_take := goodIn_r _ [69, 63, 39, 40, 17, 41, 20, 42, 43, 44, 45, 46, 47, 70, 57, 58, 59, 21, 71, 48, 49, 50, 89, 90, 91, 92] (by decide +kernel) (by decide +kernel)
set_option maxRecDepth 20000 in
theorem gX5_readFrom_X8_take_n61 : GoodIn wsX5_readFrom (wsX8_take) := ggX5_readFrom_X8_take
set_option maxRecDepth 20000 in
theorem ggX5_readFrom_X5_isSound : GoodIn wsX5_readFrom wsX5_isSound := goodIn_r _ [75, 8, 9, 2, 34, 76, 77, 78, 6, 79, 29, 80, 81, 82, 83, 93, 94, 95, 96, 97, 98, 99, 100] (by decide +kernel) (by decide +kernel)
set_option maxRecDepth 20000 in
theorem gX5_readFrom_X5_isSound : GoodIn wsX5_readFrom (wsV RX5 65 RX5 yX5_isSound wsX5_isSound) := goodIn_app (goodIn_of _ (by decide +kernel)) ggX5_readFrom_X5_isSound
set_option maxRecDepth 20000 in
theorem ggX5_readFrom_X5_noteTouching : GoodIn wsX5_readFrom wsX5_noteTouching := goodIn_r _ [87, 88, 8, 76, 77, 78, 6, 79, 29, 80, 81, 82, 83, 93, 94, 95, 96, 97, 98, 99, 100] (by decide +kernel) (by decide +kernel)
set_option maxRecDepth 20000 in
theorem gX5_readFrom_X5_noteTouching : GoodIn wsX5_readFrom (wsV RX5 72 RX5 yX5_noteTouching wsX5_noteTouching) := goodIn_app (goodIn_of _ (by decide +kernel)) ggX5_readFrom_X5_noteTouching
theorem dX5_readFrom_0 : decode cX5_readFrom 0 = .ok (.aload_n 0, 1) := by decide +kernel
theorem dX5_readFrom_1 : decode cX5_readFrom 1 = .ok (.invokevirtual 42, 3) := by decide +kernel
theorem dX5_readFrom_4 : decode cX5_readFrom 4 = .ok (.aload_n 1, 1) := by decide +kernel
theorem dX5_readFrom_5 : decode cX5_readFrom 5 = .ok (.invokevirtual 45, 3) := by decide +kernel
theorem dX5_readFrom_8 : decode cX5_readFrom 8 = .ok (.iconst 0, 1) := by decide +kernel
theorem dX5_readFrom_9 : decode cX5_readFrom 9 = .ok (.istore_n 2, 1) := by decide +kernel
theorem dX5_readFrom_10 : decode cX5_readFrom 10 = .ok (.iload_n 2, 1) := by decide +kernel
theorem dX5_readFrom_11 : decode cX5_readFrom 11 = .ok (.sipush 240, 3) := by decide +kernel
theorem dX5_readFrom_14 : decode cX5_readFrom 14 = .ok (.if_icmp .gt 47, 3) := by decide +kernel
theorem dX5_readFrom_17 : decode cX5_readFrom 17 = .ok (.aload_n 0, 1) := by decide +kernel
theorem dX5_readFrom_18 : decode cX5_readFrom 18 = .ok (.aload_n 1, 1) := by decide +kernel
theorem dX5_readFrom_19 : decode cX5_readFrom 19 = .ok (.invokevirtual 50, 3) := by decide +kernel
theorem dX5_readFrom_22 : decode cX5_readFrom 22 = .ok (.ifCond .ne 8, 3) := by decide +kernel
theorem dX5_readFrom_25 : decode cX5_readFrom 25 = .ok (.aload_n 1, 1) := by decide +kernel
theorem dX5_readFrom_26 : decode cX5_readFrom 26 = .ok (.getfield 54, 3) := by decide +kernel
theorem dX5_readFrom_29 : decode cX5_readFrom 29 = .ok (.ireturn, 1) := by decide +kernel
theorem dX5_readFrom_30 : decode cX5_readFrom 30 = .ok (.aload_n 1, 1) := by decide +kernel
theorem dX5_readFrom_31 : decode cX5_readFrom 31 = .ok (.invokevirtual 57, 3) := by decide +kernel
theorem dX5_readFrom_34 : decode cX5_readFrom 34 = .ok (.iconst (-1), 1) := by decide +kernel
theorem dX5_readFrom_35 : decode cX5_readFrom 35 = .ok (.if_icmp .ne 6, 3) := by decide +kernel
theorem dX5_readFrom_38 : decode cX5_readFrom 38 = .ok (.goto 23, 3) := by decide +kernel
theorem dX5_readFrom_41 : decode cX5_readFrom 41 = .ok (.aload_n 1, 1) := by decide +kernel
theorem dX5_readFrom_42 : decode cX5_readFrom 42 = .ok (.bipush 59, 2) := by decide +kernel
theorem dX5_readFrom_44 : decode cX5_readFrom 44 = .ok (.invokevirtual 61, 3) := by decide +kernel
theorem dX5_readFrom_47 : decode cX5_readFrom 47 = .ok (.ifCond .ne 8, 3) := by decide +kernel
theorem dX5_readFrom_50 : decode cX5_readFrom 50 = .ok (.aload_n 1, 1) := by decide +kernel
theorem dX5_readFrom_51 : decode cX5_readFrom 51 = .ok (.getfield 54, 3) := by decide +kernel
theorem dX5_readFrom_54 : decode cX5_readFrom 54 = .ok (.ireturn, 1) := by decide +kernel
theorem dX5_readFrom_55 : decode cX5_readFrom 55 = .ok (.iinc 2 1, 3) := by decide +kernel
theorem dX5_readFrom_58 : decode cX5_readFrom 58 = .ok (.goto (-48), 3) := by decide +kernel
theorem dX5_readFrom_61 : decode cX5_readFrom 61 = .ok (.aload_n 0, 1) := by decide +kernel
theorem dX5_readFrom_62 : decode cX5_readFrom 62 = .ok (.aload_n 0, 1) := by decide +kernel
theorem dX5_readFrom_63 : decode cX5_readFrom 63 = .ok (.getfield 9, 3) := by decide +kernel
theorem dX5_readFrom_66 : decode cX5_readFrom 66 = .ok (.iconst 0, 1) := by decide +kernel
theorem dX5_readFrom_67 : decode cX5_readFrom 67 = .ok (.iaload, 1) := by decide +kernel
theorem dX5_readFrom_68 : decode cX5_readFrom 68 = .ok (.putfield 26, 3) := by decide +kernel
theorem dX5_readFrom_71 : decode cX5_readFrom 71 = .ok (.aload_n 0, 1) := by decide +kernel
theorem dX5_readFrom_72 : decode cX5_readFrom 72 = .ok (.invokevirtual 65, 3) := by decide +kernel
theorem dX5_readFrom_75 : decode cX5_readFrom 75 = .ok (.ifCond .ne 8, 3) := by decide +kernel
theorem dX5_readFrom_78 : decode cX5_readFrom 78 = .ok (.aload_n 1, 1) := by decide +kernel
theorem dX5_readFrom_79 : decode cX5_readFrom 79 = .ok (.getfield 69, 3) := by decide +kernel
theorem dX5_readFrom_82 : decode cX5_readFrom 82 = .ok (.ireturn, 1) := by decide +kernel
theorem dX5_readFrom_83 : decode cX5_readFrom 83 = .ok (.aload_n 0, 1) := by decide +kernel
theorem dX5_readFrom_84 : decode cX5_readFrom 84 = .ok (.invokevirtual 72, 3) := by decide +kernel
theorem dX5_readFrom_87 : decode cX5_readFrom 87 = .ok (.iconst (-1), 1) := by decide +kernel
theorem dX5_readFrom_88 : decode cX5_readFrom 88 = .ok (.ireturn, 1) := by decide +kernel
theorem dX5_begin_0 : decode cX5_begin 0 = .ok (.aload_n 0, 1) := by decide +kernel
theorem dX5_begin_1 : decode cX5_begin 1 = .ok (.iconst 0, 1) := by decide +kernel
theorem dX5_begin_2 : decode cX5_begin 2 = .ok (.putfield 26, 3) := by decide +kernel
theorem dX5_begin_5 : decode cX5_begin 5 = .ok (.aload_n 0, 1) := by decide +kernel
theorem dX5_begin_6 : decode cX5_begin 6 = .ok (.iconst 0, 1) := by decide +kernel
theorem dX5_begin_7 : decode cX5_begin 7 = .ok (.putfield 30, 3) := by decide +kernel
theorem dX5_begin_10 : decode cX5_begin 10 = .ok (.aload_n 0, 1) := by decide +kernel
theorem dX5_begin_11 : decode cX5_begin 11 = .ok (.iconst 0, 1) := by decide +kernel
theorem dX5_begin_12 : decode cX5_begin 12 = .ok (.putfield 33, 3) := by decide +kernel
theorem dX5_begin_15 : decode cX5_begin 15 = .ok (.aload_n 0, 1) := by decide +kernel
theorem dX5_begin_16 : decode cX5_begin 16 = .ok (.iconst 0, 1) := by decide +kernel
theorem dX5_begin_17 : decode cX5_begin 17 = .ok (.putfield 75, 3) := by decide +kernel
theorem dX5_begin_20 : decode cX5_begin 20 = .ok (.getstatic 79, 3) := by decide +kernel
theorem dX5_begin_23 : decode cX5_begin 23 = .ok (.iconst 0, 1) := by decide +kernel
theorem dX5_begin_24 : decode cX5_begin 24 = .ok (.aload_n 0, 1) := by decide +kernel
theorem dX5_begin_25 : decode cX5_begin 25 = .ok (.getfield 9, 3) := by decide +kernel
theorem dX5_begin_28 : decode cX5_begin 28 = .ok (.iconst 0, 1) := by decide +kernel
theorem dX5_begin_29 : decode cX5_begin 29 = .ok (.iconst 2, 1) := by decide +kernel
theorem dX5_begin_30 : decode cX5_begin 30 = .ok (.invokestatic 36, 3) := by decide +kernel
theorem dX5_begin_33 : decode cX5_begin 33 = .ok (.return_, 1) := by decide +kernel
set_option maxRecDepth 20000 in
theorem ggX5_readClause_X8_ahead : GoodIn wsX5_readClause wsX8_ahead := goodIn_r _ [25, 26, 27, 28, 29, 30, 23, 31, 32, 62, 63, 64, 65] (by decide +kernel) (by decide +kernel)
set_option maxRecDepth 20000 in
theorem gX5_readClause_X8_ahead_n57 : GoodIn wsX5_readClause (wsX8_ahead) := ggX5_readClause_X8_ahead
set_option maxRecDepth 20000 in
theorem ggX5_readClause_X8_step : GoodIn wsX5_readClause wsX8_step := goodIn_r _ [35, 26, 62, 63, 64, 65] (by decide +kernel) (by decide +kernel)
set_option maxRecDepth 20000 in
theorem gX5_readClause_X8_step_n82 : GoodIn wsX5_readClause (wsX8_step) := ggX5_readClause_X8_step
set_option maxRecDepth 20000 in
theorem ggX5_readClause_X5_readItems : GoodIn wsX5_readClause wsX5_readItems := goodIn_r _ [39, 22, 23, 24, 25, 26, 27, 28, 29, 30, 31, 32, 40, 41, 38, 42, 43, 44, 45, 46, 33, 34, 35, 47, 48, 49, 50, 51, 52, 53, 62, 63, 64, 65] (by decide +kernel) (by decide +kernel)
set_option maxRecDepth 20000 in
theorem gX5_readClause_X5_readItems : GoodIn wsX5_readClause (va_wsS RX5 95 yX5_readItems wsX5_readItems) := goodIn_app (goodIn_of _ (by decide +kernel)) ggX5_readClause_X5_readItems
set_option maxRecDepth 20000 in
theorem ggX5_readClause_X8_refuseHere : GoodIn wsX5_readClause wsX8_refuseHere := goodIn_r _ [45, 26, 46, 62, 63, 64, 65] (by decide +kernel) (by decide +kernel)
set_option maxRecDepth 20000 in
theorem gX5_readClause_X8_refuseHere_n123 : GoodIn wsX5_readClause (wsX8_refuseHere) := ggX5_readClause_X8_refuseHere
theorem dX5_readClause_0 : decode cX5_readClause 0 = .ok (.aload_n 1, 1) := by decide +kernel
theorem dX5_readClause_1 : decode cX5_readClause 1 = .ok (.invokevirtual 57, 3) := by decide +kernel
theorem dX5_readClause_4 : decode cX5_readClause 4 = .ok (.istore_n 2, 1) := by decide +kernel
theorem dX5_readClause_5 : decode cX5_readClause 5 = .ok (.iload_n 2, 1) := by decide +kernel
theorem dX5_readClause_6 : decode cX5_readClause 6 = .ok (.bipush 115, 2) := by decide +kernel
theorem dX5_readClause_8 : decode cX5_readClause 8 = .ok (.if_icmp .ne 37, 3) := by decide +kernel
theorem dX5_readClause_11 : decode cX5_readClause 11 = .ok (.aload_n 0, 1) := by decide +kernel
theorem dX5_readClause_12 : decode cX5_readClause 12 = .ok (.getfield 75, 3) := by decide +kernel
theorem dX5_readClause_15 : decode cX5_readClause 15 = .ok (.ifCond .ne 30, 3) := by decide +kernel
theorem dX5_readClause_18 : decode cX5_readClause 18 = .ok (.aload_n 0, 1) := by decide +kernel
theorem dX5_readClause_19 : decode cX5_readClause 19 = .ok (.iconst 1, 1) := by decide +kernel
theorem dX5_readClause_20 : decode cX5_readClause 20 = .ok (.putfield 75, 3) := by decide +kernel
theorem dX5_readClause_23 : decode cX5_readClause 23 = .ok (.aload_n 1, 1) := by decide +kernel
theorem dX5_readClause_24 : decode cX5_readClause 24 = .ok (.invokevirtual 82, 3) := by decide +kernel
theorem dX5_readClause_27 : decode cX5_readClause 27 = .ok (.aload_n 1, 1) := by decide +kernel
theorem dX5_readClause_28 : decode cX5_readClause 28 = .ok (.getstatic 85, 3) := by decide +kernel
theorem dX5_readClause_31 : decode cX5_readClause 31 = .ok (.getstatic 89, 3) := by decide +kernel
theorem dX5_readClause_34 : decode cX5_readClause 34 = .ok (.getstatic 92, 3) := by decide +kernel
theorem dX5_readClause_37 : decode cX5_readClause 37 = .ok (.aload_n 0, 1) := by decide +kernel
theorem dX5_readClause_38 : decode cX5_readClause 38 = .ok (.getfield 9, 3) := by decide +kernel
theorem dX5_readClause_41 : decode cX5_readClause 41 = .ok (.invokestatic 95, 3) := by decide +kernel
theorem dX5_readClause_44 : decode cX5_readClause 44 = .ok (.ireturn, 1) := by decide +kernel
theorem dX5_readClause_45 : decode cX5_readClause 45 = .ok (.iload_n 2, 1) := by decide +kernel
theorem dX5_readClause_46 : decode cX5_readClause 46 = .ok (.bipush 101, 2) := by decide +kernel
theorem dX5_readClause_48 : decode cX5_readClause 48 = .ok (.if_icmp .ne 61, 3) := by decide +kernel
theorem dX5_readClause_51 : decode cX5_readClause 51 = .ok (.aload_n 0, 1) := by decide +kernel
theorem dX5_readClause_52 : decode cX5_readClause 52 = .ok (.getfield 30, 3) := by decide +kernel
theorem dX5_readClause_55 : decode cX5_readClause 55 = .ok (.bipush 12, 2) := by decide +kernel
theorem dX5_readClause_57 : decode cX5_readClause 57 = .ok (.if_icmp .ge 52, 3) := by decide +kernel
theorem dX5_readClause_60 : decode cX5_readClause 60 = .ok (.aload_n 0, 1) := by decide +kernel
theorem dX5_readClause_61 : decode cX5_readClause 61 = .ok (.getfield 17, 3) := by decide +kernel
theorem dX5_readClause_64 : decode cX5_readClause 64 = .ok (.aload_n 0, 1) := by decide +kernel
theorem dX5_readClause_65 : decode cX5_readClause 65 = .ok (.getfield 30, 3) := by decide +kernel
theorem dX5_readClause_68 : decode cX5_readClause 68 = .ok (.aaload, 1) := by decide +kernel
theorem dX5_readClause_69 : decode cX5_readClause 69 = .ok (.astore_n 3, 1) := by decide +kernel
theorem dX5_readClause_70 : decode cX5_readClause 70 = .ok (.aload_n 0, 1) := by decide +kernel
theorem dX5_readClause_71 : decode cX5_readClause 71 = .ok (.dup, 1) := by decide +kernel
theorem dX5_readClause_72 : decode cX5_readClause 72 = .ok (.getfield 30, 3) := by decide +kernel
theorem dX5_readClause_75 : decode cX5_readClause 75 = .ok (.iconst 1, 1) := by decide +kernel
theorem dX5_readClause_76 : decode cX5_readClause 76 = .ok (.iadd, 1) := by decide +kernel
theorem dX5_readClause_77 : decode cX5_readClause 77 = .ok (.putfield 30, 3) := by decide +kernel
theorem dX5_readClause_80 : decode cX5_readClause 80 = .ok (.getstatic 99, 3) := by decide +kernel
theorem dX5_readClause_83 : decode cX5_readClause 83 = .ok (.iconst 0, 1) := by decide +kernel
theorem dX5_readClause_84 : decode cX5_readClause 84 = .ok (.aload_n 3, 1) := by decide +kernel
theorem dX5_readClause_85 : decode cX5_readClause 85 = .ok (.iconst 0, 1) := by decide +kernel
theorem dX5_readClause_86 : decode cX5_readClause 86 = .ok (.iconst 4, 1) := by decide +kernel
theorem dX5_readClause_87 : decode cX5_readClause 87 = .ok (.invokestatic 36, 3) := by decide +kernel
theorem dX5_readClause_90 : decode cX5_readClause 90 = .ok (.aload_n 1, 1) := by decide +kernel
theorem dX5_readClause_91 : decode cX5_readClause 91 = .ok (.invokevirtual 82, 3) := by decide +kernel
theorem dX5_readClause_94 : decode cX5_readClause 94 = .ok (.aload_n 1, 1) := by decide +kernel
theorem dX5_readClause_95 : decode cX5_readClause 95 = .ok (.getstatic 102, 3) := by decide +kernel
theorem dX5_readClause_98 : decode cX5_readClause 98 = .ok (.getstatic 105, 3) := by decide +kernel
theorem dX5_readClause_101 : decode cX5_readClause 101 = .ok (.getstatic 108, 3) := by decide +kernel
theorem dX5_readClause_104 : decode cX5_readClause 104 = .ok (.aload_n 3, 1) := by decide +kernel
theorem dX5_readClause_105 : decode cX5_readClause 105 = .ok (.invokestatic 95, 3) := by decide +kernel
theorem dX5_readClause_108 : decode cX5_readClause 108 = .ok (.ireturn, 1) := by decide +kernel
theorem dX5_readClause_109 : decode cX5_readClause 109 = .ok (.iload_n 2, 1) := by decide +kernel
theorem dX5_readClause_110 : decode cX5_readClause 110 = .ok (.bipush 112, 2) := by decide +kernel
theorem dX5_readClause_112 : decode cX5_readClause 112 = .ok (.if_icmp .ne 60, 3) := by decide +kernel
theorem dX5_readClause_115 : decode cX5_readClause 115 = .ok (.aload_n 0, 1) := by decide +kernel
theorem dX5_readClause_116 : decode cX5_readClause 116 = .ok (.getfield 33, 3) := by decide +kernel
theorem dX5_readClause_119 : decode cX5_readClause 119 = .ok (.iconst 4, 1) := by decide +kernel
theorem dX5_readClause_120 : decode cX5_readClause 120 = .ok (.if_icmp .ge 52, 3) := by decide +kernel
theorem dX5_readClause_123 : decode cX5_readClause 123 = .ok (.aload_n 0, 1) := by decide +kernel
theorem dX5_readClause_124 : decode cX5_readClause 124 = .ok (.getfield 20, 3) := by decide +kernel
theorem dX5_readClause_127 : decode cX5_readClause 127 = .ok (.aload_n 0, 1) := by decide +kernel
theorem dX5_readClause_128 : decode cX5_readClause 128 = .ok (.getfield 33, 3) := by decide +kernel
theorem dX5_readClause_131 : decode cX5_readClause 131 = .ok (.aaload, 1) := by decide +kernel
theorem dX5_readClause_132 : decode cX5_readClause 132 = .ok (.astore_n 3, 1) := by decide +kernel
theorem dX5_readClause_133 : decode cX5_readClause 133 = .ok (.aload_n 0, 1) := by decide +kernel
theorem dX5_readClause_134 : decode cX5_readClause 134 = .ok (.dup, 1) := by decide +kernel
theorem dX5_readClause_135 : decode cX5_readClause 135 = .ok (.getfield 33, 3) := by decide +kernel
theorem dX5_readClause_138 : decode cX5_readClause 138 = .ok (.iconst 1, 1) := by decide +kernel
theorem dX5_readClause_139 : decode cX5_readClause 139 = .ok (.iadd, 1) := by decide +kernel
theorem dX5_readClause_140 : decode cX5_readClause 140 = .ok (.putfield 33, 3) := by decide +kernel
theorem dX5_readClause_143 : decode cX5_readClause 143 = .ok (.getstatic 111, 3) := by decide +kernel
theorem dX5_readClause_146 : decode cX5_readClause 146 = .ok (.iconst 0, 1) := by decide +kernel
theorem dX5_readClause_147 : decode cX5_readClause 147 = .ok (.aload_n 3, 1) := by decide +kernel
theorem dX5_readClause_148 : decode cX5_readClause 148 = .ok (.iconst 0, 1) := by decide +kernel
theorem dX5_readClause_149 : decode cX5_readClause 149 = .ok (.iconst 2, 1) := by decide +kernel
theorem dX5_readClause_150 : decode cX5_readClause 150 = .ok (.invokestatic 36, 3) := by decide +kernel
theorem dX5_readClause_153 : decode cX5_readClause 153 = .ok (.aload_n 1, 1) := by decide +kernel
theorem dX5_readClause_154 : decode cX5_readClause 154 = .ok (.invokevirtual 82, 3) := by decide +kernel
theorem dX5_readClause_157 : decode cX5_readClause 157 = .ok (.aload_n 1, 1) := by decide +kernel
theorem dX5_readClause_158 : decode cX5_readClause 158 = .ok (.getstatic 114, 3) := by decide +kernel
theorem dX5_readClause_161 : decode cX5_readClause 161 = .ok (.getstatic 117, 3) := by decide +kernel
theorem dX5_readClause_164 : decode cX5_readClause 164 = .ok (.getstatic 120, 3) := by decide +kernel
theorem dX5_readClause_167 : decode cX5_readClause 167 = .ok (.aload_n 3, 1) := by decide +kernel
theorem dX5_readClause_168 : decode cX5_readClause 168 = .ok (.invokestatic 95, 3) := by decide +kernel
theorem dX5_readClause_171 : decode cX5_readClause 171 = .ok (.ireturn, 1) := by decide +kernel
theorem dX5_readClause_172 : decode cX5_readClause 172 = .ok (.aload_n 1, 1) := by decide +kernel
theorem dX5_readClause_173 : decode cX5_readClause 173 = .ok (.invokevirtual 123, 3) := by decide +kernel
theorem dX5_readClause_176 : decode cX5_readClause 176 = .ok (.ireturn, 1) := by decide +kernel
theorem dX6_init_0 : decode cX6_init 0 = .ok (.aload_n 0, 1) := by decide +kernel
theorem dX6_init_1 : decode cX6_init 1 = .ok (.invokespecial 3, 3) := by decide +kernel
theorem dX6_init_4 : decode cX6_init 4 = .ok (.aload_n 0, 1) := by decide +kernel
theorem dX6_init_5 : decode cX6_init 5 = .ok (.bipush 8, 2) := by decide +kernel
theorem dX6_init_7 : decode cX6_init 7 = .ok (.newarray .int, 2) := by decide +kernel
theorem dX6_init_9 : decode cX6_init 9 = .ok (.putfield 9, 3) := by decide +kernel
theorem dX6_init_12 : decode cX6_init 12 = .ok (.aload_n 0, 1) := by decide +kernel
theorem dX6_init_13 : decode cX6_init 13 = .ok (.bipush 8, 2) := by decide +kernel
theorem dX6_init_15 : decode cX6_init 15 = .ok (.newarray .int, 2) := by decide +kernel
theorem dX6_init_17 : decode cX6_init 17 = .ok (.putfield 15, 3) := by decide +kernel
theorem dX6_init_20 : decode cX6_init 20 = .ok (.aload_n 0, 1) := by decide +kernel
theorem dX6_init_21 : decode cX6_init 21 = .ok (.iconst 4, 1) := by decide +kernel
theorem dX6_init_22 : decode cX6_init 22 = .ok (.newarray .int, 2) := by decide +kernel
theorem dX6_init_24 : decode cX6_init 24 = .ok (.putfield 18, 3) := by decide +kernel
theorem dX6_init_27 : decode cX6_init 27 = .ok (.aload_n 0, 1) := by decide +kernel
theorem dX6_init_28 : decode cX6_init 28 = .ok (.iconst 4, 1) := by decide +kernel
theorem dX6_init_29 : decode cX6_init 29 = .ok (.newarray .int, 2) := by decide +kernel
theorem dX6_init_31 : decode cX6_init 31 = .ok (.putfield 21, 3) := by decide +kernel
theorem dX6_init_34 : decode cX6_init 34 = .ok (.return_, 1) := by decide +kernel
theorem dX7_init_0 : decode cX7_init 0 = .ok (.aload_n 0, 1) := by decide +kernel
theorem dX7_init_1 : decode cX7_init 1 = .ok (.invokespecial 3, 3) := by decide +kernel
theorem dX7_init_4 : decode cX7_init 4 = .ok (.aload_n 0, 1) := by decide +kernel
theorem dX7_init_5 : decode cX7_init 5 = .ok (.bipush 10, 2) := by decide +kernel
theorem dX7_init_7 : decode cX7_init 7 = .ok (.newarray .int, 2) := by decide +kernel
theorem dX7_init_9 : decode cX7_init 9 = .ok (.putfield 9, 3) := by decide +kernel
theorem dX7_init_12 : decode cX7_init 12 = .ok (.aload_n 0, 1) := by decide +kernel
theorem dX7_init_13 : decode cX7_init 13 = .ok (.bipush 10, 2) := by decide +kernel
theorem dX7_init_15 : decode cX7_init 15 = .ok (.newarray .boolean, 2) := by decide +kernel
theorem dX7_init_17 : decode cX7_init 17 = .ok (.putfield 15, 3) := by decide +kernel
theorem dX7_init_20 : decode cX7_init 20 = .ok (.aload_n 0, 1) := by decide +kernel
theorem dX7_init_21 : decode cX7_init 21 = .ok (.bipush 13, 2) := by decide +kernel
theorem dX7_init_23 : decode cX7_init 23 = .ok (.newarray .int, 2) := by decide +kernel
theorem dX7_init_25 : decode cX7_init 25 = .ok (.putfield 19, 3) := by decide +kernel
theorem dX7_init_28 : decode cX7_init 28 = .ok (.aload_n 0, 1) := by decide +kernel
theorem dX7_init_29 : decode cX7_init 29 = .ok (.bipush 13, 2) := by decide +kernel
theorem dX7_init_31 : decode cX7_init 31 = .ok (.newarray .int, 2) := by decide +kernel
theorem dX7_init_33 : decode cX7_init 33 = .ok (.putfield 22, 3) := by decide +kernel
theorem dX7_init_36 : decode cX7_init 36 = .ok (.return_, 1) := by decide +kernel
theorem dX8_init_0 : decode cX8_init 0 = .ok (.aload_n 0, 1) := by decide +kernel
theorem dX8_init_1 : decode cX8_init 1 = .ok (.invokespecial 3, 3) := by decide +kernel
theorem dX8_init_4 : decode cX8_init 4 = .ok (.aload_n 0, 1) := by decide +kernel
theorem dX8_init_5 : decode cX8_init 5 = .ok (.sipush 240, 3) := by decide +kernel
theorem dX8_init_8 : decode cX8_init 8 = .ok (.newarray .int, 2) := by decide +kernel
theorem dX8_init_10 : decode cX8_init 10 = .ok (.putfield 9, 3) := by decide +kernel
theorem dX8_init_13 : decode cX8_init 13 = .ok (.return_, 1) := by decide +kernel
theorem dX8_bytesOf_0 : decode cX8_bytesOf 0 = .ok (.iconst 0, 1) := by decide +kernel
theorem dX8_bytesOf_1 : decode cX8_bytesOf 1 = .ok (.istore_n 1, 1) := by decide +kernel
theorem dX8_bytesOf_2 : decode cX8_bytesOf 2 = .ok (.bipush 24, 2) := by decide +kernel
theorem dX8_bytesOf_4 : decode cX8_bytesOf 4 = .ok (.istore_n 2, 1) := by decide +kernel
theorem dX8_bytesOf_5 : decode cX8_bytesOf 5 = .ok (.iload_n 2, 1) := by decide +kernel
theorem dX8_bytesOf_6 : decode cX8_bytesOf 6 = .ok (.ifCond .lt 22, 3) := by decide +kernel
theorem dX8_bytesOf_9 : decode cX8_bytesOf 9 = .ok (.iload_n 0, 1) := by decide +kernel
theorem dX8_bytesOf_10 : decode cX8_bytesOf 10 = .ok (.iload_n 2, 1) := by decide +kernel
theorem dX8_bytesOf_11 : decode cX8_bytesOf 11 = .ok (.iushr, 1) := by decide +kernel
theorem dX8_bytesOf_12 : decode cX8_bytesOf 12 = .ok (.sipush 255, 3) := by decide +kernel
theorem dX8_bytesOf_15 : decode cX8_bytesOf 15 = .ok (.iand, 1) := by decide +kernel
theorem dX8_bytesOf_16 : decode cX8_bytesOf 16 = .ok (.ifCond .eq 6, 3) := by decide +kernel
theorem dX8_bytesOf_19 : decode cX8_bytesOf 19 = .ok (.iinc 1 1, 3) := by decide +kernel
theorem dX8_bytesOf_22 : decode cX8_bytesOf 22 = .ok (.iinc 2 (-8), 3) := by decide +kernel
theorem dX8_bytesOf_25 : decode cX8_bytesOf 25 = .ok (.goto (-20), 3) := by decide +kernel
theorem dX8_bytesOf_28 : decode cX8_bytesOf 28 = .ok (.iload_n 1, 1) := by decide +kernel
theorem dX8_bytesOf_29 : decode cX8_bytesOf 29 = .ok (.ireturn, 1) := by decide +kernel
theorem dX8_append_0 : decode cX8_append 0 = .ok (.bipush 24, 2) := by decide +kernel
theorem dX8_append_2 : decode cX8_append 2 = .ok (.istore_n 2, 1) := by decide +kernel
theorem dX8_append_3 : decode cX8_append 3 = .ok (.iload_n 2, 1) := by decide +kernel
theorem dX8_append_4 : decode cX8_append 4 = .ok (.ifCond .lt 51, 3) := by decide +kernel
theorem dX8_append_7 : decode cX8_append 7 = .ok (.iload_n 1, 1) := by decide +kernel
theorem dX8_append_8 : decode cX8_append 8 = .ok (.iload_n 2, 1) := by decide +kernel
theorem dX8_append_9 : decode cX8_append 9 = .ok (.iushr, 1) := by decide +kernel
theorem dX8_append_10 : decode cX8_append 10 = .ok (.sipush 255, 3) := by decide +kernel
theorem dX8_append_13 : decode cX8_append 13 = .ok (.iand, 1) := by decide +kernel
theorem dX8_append_14 : decode cX8_append 14 = .ok (.istore_n 3, 1) := by decide +kernel
theorem dX8_append_15 : decode cX8_append 15 = .ok (.iload_n 3, 1) := by decide +kernel
theorem dX8_append_16 : decode cX8_append 16 = .ok (.ifCond .eq 33, 3) := by decide +kernel
theorem dX8_append_19 : decode cX8_append 19 = .ok (.aload_n 0, 1) := by decide +kernel
theorem dX8_append_20 : decode cX8_append 20 = .ok (.getfield 15, 3) := by decide +kernel
theorem dX8_append_23 : decode cX8_append 23 = .ok (.sipush 240, 3) := by decide +kernel
theorem dX8_append_26 : decode cX8_append 26 = .ok (.if_icmp .ge 23, 3) := by decide +kernel
theorem dX8_append_29 : decode cX8_append 29 = .ok (.aload_n 0, 1) := by decide +kernel
theorem dX8_append_30 : decode cX8_append 30 = .ok (.getfield 9, 3) := by decide +kernel
theorem dX8_append_33 : decode cX8_append 33 = .ok (.aload_n 0, 1) := by decide +kernel
theorem dX8_append_34 : decode cX8_append 34 = .ok (.getfield 15, 3) := by decide +kernel
theorem dX8_append_37 : decode cX8_append 37 = .ok (.iload_n 3, 1) := by decide +kernel
theorem dX8_append_38 : decode cX8_append 38 = .ok (.iastore, 1) := by decide +kernel
theorem dX8_append_39 : decode cX8_append 39 = .ok (.aload_n 0, 1) := by decide +kernel
theorem dX8_append_40 : decode cX8_append 40 = .ok (.dup, 1) := by decide +kernel
theorem dX8_append_41 : decode cX8_append 41 = .ok (.getfield 15, 3) := by decide +kernel
theorem dX8_append_44 : decode cX8_append 44 = .ok (.iconst 1, 1) := by decide +kernel
theorem dX8_append_45 : decode cX8_append 45 = .ok (.iadd, 1) := by decide +kernel
theorem dX8_append_46 : decode cX8_append 46 = .ok (.putfield 15, 3) := by decide +kernel
theorem dX8_append_49 : decode cX8_append 49 = .ok (.iinc 2 (-8), 3) := by decide +kernel
theorem dX8_append_52 : decode cX8_append 52 = .ok (.goto (-49), 3) := by decide +kernel
theorem dX8_append_55 : decode cX8_append 55 = .ok (.return_, 1) := by decide +kernel
theorem dX8_rewind_0 : decode cX8_rewind 0 = .ok (.aload_n 0, 1) := by decide +kernel
theorem dX8_rewind_1 : decode cX8_rewind 1 = .ok (.iconst 0, 1) := by decide +kernel
theorem dX8_rewind_2 : decode cX8_rewind 2 = .ok (.putfield 19, 3) := by decide +kernel
theorem dX8_rewind_5 : decode cX8_rewind 5 = .ok (.aload_n 0, 1) := by decide +kernel
theorem dX8_rewind_6 : decode cX8_rewind 6 = .ok (.iconst (-1), 1) := by decide +kernel
theorem dX8_rewind_7 : decode cX8_rewind 7 = .ok (.putfield 22, 3) := by decide +kernel
theorem dX8_rewind_10 : decode cX8_rewind 10 = .ok (.return_, 1) := by decide +kernel
theorem dX8_byteAtHead_0 : decode cX8_byteAtHead 0 = .ok (.aload_n 0, 1) := by decide +kernel
theorem dX8_byteAtHead_1 : decode cX8_byteAtHead 1 = .ok (.getfield 19, 3) := by decide +kernel
theorem dX8_byteAtHead_4 : decode cX8_byteAtHead 4 = .ok (.aload_n 0, 1) := by decide +kernel
theorem dX8_byteAtHead_5 : decode cX8_byteAtHead 5 = .ok (.getfield 15, 3) := by decide +kernel
theorem dX8_byteAtHead_8 : decode cX8_byteAtHead 8 = .ok (.if_icmp .ge 25, 3) := by decide +kernel
theorem dX8_byteAtHead_11 : decode cX8_byteAtHead 11 = .ok (.aload_n 0, 1) := by decide +kernel
theorem dX8_byteAtHead_12 : decode cX8_byteAtHead 12 = .ok (.getfield 19, 3) := by decide +kernel
theorem dX8_byteAtHead_15 : decode cX8_byteAtHead 15 = .ok (.sipush 240, 3) := by decide +kernel
theorem dX8_byteAtHead_18 : decode cX8_byteAtHead 18 = .ok (.if_icmp .ge 15, 3) := by decide +kernel
theorem dX8_byteAtHead_21 : decode cX8_byteAtHead 21 = .ok (.aload_n 0, 1) := by decide +kernel
theorem dX8_byteAtHead_22 : decode cX8_byteAtHead 22 = .ok (.getfield 9, 3) := by decide +kernel
theorem dX8_byteAtHead_25 : decode cX8_byteAtHead 25 = .ok (.aload_n 0, 1) := by decide +kernel
theorem dX8_byteAtHead_26 : decode cX8_byteAtHead 26 = .ok (.getfield 19, 3) := by decide +kernel
theorem dX8_byteAtHead_29 : decode cX8_byteAtHead 29 = .ok (.iaload, 1) := by decide +kernel
theorem dX8_byteAtHead_30 : decode cX8_byteAtHead 30 = .ok (.goto 4, 3) := by decide +kernel
theorem dX8_byteAtHead_33 : decode cX8_byteAtHead 33 = .ok (.iconst (-1), 1) := by decide +kernel
theorem dX8_byteAtHead_34 : decode cX8_byteAtHead 34 = .ok (.ireturn, 1) := by decide +kernel
set_option maxRecDepth 20000 in
theorem ggX8_ahead_X8_byteAtHead : GoodIn wsX8_ahead wsX8_byteAtHead := goodIn_r _ [7, 1, 2, 8, 9, 10, 11, 12] (by decide +kernel) (by decide +kernel)
set_option maxRecDepth 20000 in
theorem gX8_ahead_X8_byteAtHead : GoodIn wsX8_ahead (wsV RX8 25 RX8 yX8_byteAtHead wsX8_byteAtHead) := goodIn_app (goodIn_of _ (by decide +kernel)) ggX8_ahead_X8_byteAtHead
theorem dX8_ahead_0 : decode cX8_ahead 0 = .ok (.aload_n 0, 1) := by decide +kernel
theorem dX8_ahead_1 : decode cX8_ahead 1 = .ok (.getfield 19, 3) := by decide +kernel
theorem dX8_ahead_4 : decode cX8_ahead 4 = .ok (.aload_n 0, 1) := by decide +kernel
theorem dX8_ahead_5 : decode cX8_ahead 5 = .ok (.getfield 15, 3) := by decide +kernel
theorem dX8_ahead_8 : decode cX8_ahead 8 = .ok (.if_icmp .ge 25, 3) := by decide +kernel
theorem dX8_ahead_11 : decode cX8_ahead 11 = .ok (.aload_n 0, 1) := by decide +kernel
theorem dX8_ahead_12 : decode cX8_ahead 12 = .ok (.invokevirtual 25, 3) := by decide +kernel
theorem dX8_ahead_15 : decode cX8_ahead 15 = .ok (.bipush 32, 2) := by decide +kernel
theorem dX8_ahead_17 : decode cX8_ahead 17 = .ok (.if_icmp .ne 16, 3) := by decide +kernel
theorem dX8_ahead_20 : decode cX8_ahead 20 = .ok (.aload_n 0, 1) := by decide +kernel
theorem dX8_ahead_21 : decode cX8_ahead 21 = .ok (.dup, 1) := by decide +kernel
theorem dX8_ahead_22 : decode cX8_ahead 22 = .ok (.getfield 19, 3) := by decide +kernel
theorem dX8_ahead_25 : decode cX8_ahead 25 = .ok (.iconst 1, 1) := by decide +kernel
theorem dX8_ahead_26 : decode cX8_ahead 26 = .ok (.iadd, 1) := by decide +kernel
theorem dX8_ahead_27 : decode cX8_ahead 27 = .ok (.putfield 19, 3) := by decide +kernel
theorem dX8_ahead_30 : decode cX8_ahead 30 = .ok (.goto (-30), 3) := by decide +kernel
theorem dX8_ahead_33 : decode cX8_ahead 33 = .ok (.aload_n 0, 1) := by decide +kernel
theorem dX8_ahead_34 : decode cX8_ahead 34 = .ok (.invokevirtual 25, 3) := by decide +kernel
theorem dX8_ahead_37 : decode cX8_ahead 37 = .ok (.ireturn, 1) := by decide +kernel
theorem dX8_step_0 : decode cX8_step 0 = .ok (.aload_n 0, 1) := by decide +kernel
theorem dX8_step_1 : decode cX8_step 1 = .ok (.dup, 1) := by decide +kernel
theorem dX8_step_2 : decode cX8_step 2 = .ok (.getfield 19, 3) := by decide +kernel
theorem dX8_step_5 : decode cX8_step 5 = .ok (.iconst 1, 1) := by decide +kernel
theorem dX8_step_6 : decode cX8_step 6 = .ok (.iadd, 1) := by decide +kernel
theorem dX8_step_7 : decode cX8_step 7 = .ok (.putfield 19, 3) := by decide +kernel
theorem dX8_step_10 : decode cX8_step 10 = .ok (.return_, 1) := by decide +kernel
theorem dX8_refuseHere_0 : decode cX8_refuseHere 0 = .ok (.aload_n 0, 1) := by decide +kernel
theorem dX8_refuseHere_1 : decode cX8_refuseHere 1 = .ok (.aload_n 0, 1) := by decide +kernel
theorem dX8_refuseHere_2 : decode cX8_refuseHere 2 = .ok (.getfield 19, 3) := by decide +kernel
theorem dX8_refuseHere_5 : decode cX8_refuseHere 5 = .ok (.putfield 22, 3) := by decide +kernel
theorem dX8_refuseHere_8 : decode cX8_refuseHere 8 = .ok (.iconst 0, 1) := by decide +kernel
theorem dX8_refuseHere_9 : decode cX8_refuseHere 9 = .ok (.ireturn, 1) := by decide +kernel
set_option maxRecDepth 20000 in
theorem ggX8_take_X8_ahead : GoodIn wsX8_take wsX8_ahead := goodIn_r _ [5, 6, 7, 8, 9, 10, 4, 11, 12, 22, 23, 24, 25] (by decide +kernel) (by decide +kernel)
set_option maxRecDepth 20000 in
theorem gX8_take_X8_ahead : GoodIn wsX8_take (wsV RX8 29 RX8 yX8_ahead wsX8_ahead) := goodIn_app (goodIn_of _ (by decide +kernel)) ggX8_take_X8_ahead
set_option maxRecDepth 20000 in
theorem ggX8_take_X8_refuseHere : GoodIn wsX8_take wsX8_refuseHere := goodIn_r _ [16, 6, 17, 22, 23, 24, 25] (by decide +kernel) (by decide +kernel)
set_option maxRecDepth 20000 in
theorem gX8_take_X8_refuseHere : GoodIn wsX8_take (wsV RX8 32 RX8 yX8_refuseHere wsX8_refuseHere) := goodIn_app (goodIn_of _ (by decide +kernel)) ggX8_take_X8_refuseHere
set_option maxRecDepth 20000 in
theorem ggX8_take_X8_step : GoodIn wsX8_take wsX8_step := goodIn_r _ [21, 6, 22, 23, 24, 25] (by decide +kernel) (by decide +kernel)
set_option maxRecDepth 20000 in
theorem gX8_take_X8_step : GoodIn wsX8_take (wsV RX8 36 RX8 yX8_step wsX8_step) := goodIn_app (goodIn_of _ (by decide +kernel)) ggX8_take_X8_step
theorem dX8_take_0 : decode cX8_take 0 = .ok (.aload_n 0, 1) := by decide +kernel
theorem dX8_take_1 : decode cX8_take 1 = .ok (.invokevirtual 29, 3) := by decide +kernel
theorem dX8_take_4 : decode cX8_take 4 = .ok (.iload_n 1, 1) := by decide +kernel
theorem dX8_take_5 : decode cX8_take 5 = .ok (.if_icmp .eq 8, 3) := by decide +kernel
theorem dX8_take_8 : decode cX8_take 8 = .ok (.aload_n 0, 1) := by decide +kernel
theorem dX8_take_9 : decode cX8_take 9 = .ok (.invokevirtual 32, 3) := by decide +kernel
theorem dX8_take_12 : decode cX8_take 12 = .ok (.ireturn, 1) := by decide +kernel
theorem dX8_take_13 : decode cX8_take 13 = .ok (.aload_n 0, 1) := by decide +kernel
theorem dX8_take_14 : decode cX8_take 14 = .ok (.invokevirtual 36, 3) := by decide +kernel
theorem dX8_take_17 : decode cX8_take 17 = .ok (.iconst 1, 1) := by decide +kernel
theorem dX8_take_18 : decode cX8_take 18 = .ok (.ireturn, 1) := by decide +kernel
theorem dX9_init_0 : decode cX9_init 0 = .ok (.aload_n 0, 1) := by decide +kernel
theorem dX9_init_1 : decode cX9_init 1 = .ok (.invokespecial 3, 3) := by decide +kernel
theorem dX9_init_4 : decode cX9_init 4 = .ok (.aload_n 0, 1) := by decide +kernel
theorem dX9_init_5 : decode cX9_init 5 = .ok (.iconst 4, 1) := by decide +kernel
theorem dX9_init_6 : decode cX9_init 6 = .ok (.bipush 16, 2) := by decide +kernel
theorem dX9_init_8 : decode cX9_init 8 = .ok (.multianewarray 9 2, 4) := by decide +kernel
theorem dX9_init_12 : decode cX9_init 12 = .ok (.putfield 11, 3) := by decide +kernel
theorem dX9_init_15 : decode cX9_init 15 = .ok (.aload_n 0, 1) := by decide +kernel
theorem dX9_init_16 : decode cX9_init 16 = .ok (.iconst 4, 1) := by decide +kernel
theorem dX9_init_17 : decode cX9_init 17 = .ok (.newarray .int, 2) := by decide +kernel
theorem dX9_init_19 : decode cX9_init 19 = .ok (.putfield 16, 3) := by decide +kernel
theorem dX9_init_22 : decode cX9_init 22 = .ok (.aload_n 0, 1) := by decide +kernel
theorem dX9_init_23 : decode cX9_init 23 = .ok (.bipush 16, 2) := by decide +kernel
theorem dX9_init_25 : decode cX9_init 25 = .ok (.newarray .int, 2) := by decide +kernel
theorem dX9_init_27 : decode cX9_init 27 = .ok (.putfield 20, 3) := by decide +kernel
theorem dX9_init_30 : decode cX9_init 30 = .ok (.return_, 1) := by decide +kernel
set_option maxRecDepth 20000 in
theorem ggX9_readFrom_X8_rewind : GoodIn wsX9_readFrom wsX8_rewind := goodIn_r _ [6, 7, 8, 26, 27, 28, 29] (by decide +kernel) (by decide +kernel)
set_option maxRecDepth 20000 in
theorem gX9_readFrom_X8_rewind_n23 : GoodIn wsX9_readFrom (wsX8_rewind) := ggX9_readFrom_X8_rewind
set_option maxRecDepth 20000 in
theorem ggX9_readFrom_X8_ahead : GoodIn wsX9_readFrom wsX8_ahead := goodIn_r _ [11, 7, 12, 13, 14, 15, 4, 16, 17, 26, 27, 28, 29] (by decide +kernel) (by decide +kernel)
set_option maxRecDepth 20000 in
theorem gX9_readFrom_X8_ahead_n32 : GoodIn wsX9_readFrom (wsX8_ahead) := ggX9_readFrom_X8_ahead
set_option maxRecDepth 20000 in
theorem ggX9_readFrom_X8_step : GoodIn wsX9_readFrom wsX8_step := goodIn_r _ [20, 7, 26, 27, 28, 29] (by decide +kernel) (by decide +kernel)
set_option maxRecDepth 20000 in
theorem gX9_readFrom_X8_step_n36 : GoodIn wsX9_readFrom (wsX8_step) := ggX9_readFrom_X8_step
theorem dX9_readFrom_0 : decode cX9_readFrom 0 = .ok (.aload_n 1, 1) := by decide +kernel
theorem dX9_readFrom_1 : decode cX9_readFrom 1 = .ok (.invokevirtual 23, 3) := by decide +kernel
theorem dX9_readFrom_4 : decode cX9_readFrom 4 = .ok (.aload_n 0, 1) := by decide +kernel
theorem dX9_readFrom_5 : decode cX9_readFrom 5 = .ok (.iconst 0, 1) := by decide +kernel
theorem dX9_readFrom_6 : decode cX9_readFrom 6 = .ok (.putfield 28, 3) := by decide +kernel
theorem dX9_readFrom_9 : decode cX9_readFrom 9 = .ok (.aload_n 1, 1) := by decide +kernel
theorem dX9_readFrom_10 : decode cX9_readFrom 10 = .ok (.invokevirtual 32, 3) := by decide +kernel
theorem dX9_readFrom_13 : decode cX9_readFrom 13 = .ok (.istore_n 2, 1) := by decide +kernel
theorem dX9_readFrom_14 : decode cX9_readFrom 14 = .ok (.iload_n 2, 1) := by decide +kernel
theorem dX9_readFrom_15 : decode cX9_readFrom 15 = .ok (.bipush 48, 2) := by decide +kernel
theorem dX9_readFrom_17 : decode cX9_readFrom 17 = .ok (.if_icmp .lt 53, 3) := by decide +kernel
theorem dX9_readFrom_20 : decode cX9_readFrom 20 = .ok (.iload_n 2, 1) := by decide +kernel
theorem dX9_readFrom_21 : decode cX9_readFrom 21 = .ok (.bipush 55, 2) := by decide +kernel
theorem dX9_readFrom_23 : decode cX9_readFrom 23 = .ok (.if_icmp .gt 47, 3) := by decide +kernel
theorem dX9_readFrom_26 : decode cX9_readFrom 26 = .ok (.aload_n 0, 1) := by decide +kernel
theorem dX9_readFrom_27 : decode cX9_readFrom 27 = .ok (.getfield 28, 3) := by decide +kernel
theorem dX9_readFrom_30 : decode cX9_readFrom 30 = .ok (.bipush 16, 2) := by decide +kernel
theorem dX9_readFrom_32 : decode cX9_readFrom 32 = .ok (.if_icmp .ge 38, 3) := by decide +kernel
theorem dX9_readFrom_35 : decode cX9_readFrom 35 = .ok (.aload_n 0, 1) := by decide +kernel
theorem dX9_readFrom_36 : decode cX9_readFrom 36 = .ok (.getfield 20, 3) := by decide +kernel
theorem dX9_readFrom_39 : decode cX9_readFrom 39 = .ok (.aload_n 0, 1) := by decide +kernel
theorem dX9_readFrom_40 : decode cX9_readFrom 40 = .ok (.getfield 28, 3) := by decide +kernel
theorem dX9_readFrom_43 : decode cX9_readFrom 43 = .ok (.iload_n 2, 1) := by decide +kernel
theorem dX9_readFrom_44 : decode cX9_readFrom 44 = .ok (.bipush 48, 2) := by decide +kernel
theorem dX9_readFrom_46 : decode cX9_readFrom 46 = .ok (.isub, 1) := by decide +kernel
theorem dX9_readFrom_47 : decode cX9_readFrom 47 = .ok (.iastore, 1) := by decide +kernel
theorem dX9_readFrom_48 : decode cX9_readFrom 48 = .ok (.aload_n 0, 1) := by decide +kernel
theorem dX9_readFrom_49 : decode cX9_readFrom 49 = .ok (.dup, 1) := by decide +kernel
theorem dX9_readFrom_50 : decode cX9_readFrom 50 = .ok (.getfield 28, 3) := by decide +kernel
theorem dX9_readFrom_53 : decode cX9_readFrom 53 = .ok (.iconst 1, 1) := by decide +kernel
theorem dX9_readFrom_54 : decode cX9_readFrom 54 = .ok (.iadd, 1) := by decide +kernel
theorem dX9_readFrom_55 : decode cX9_readFrom 55 = .ok (.putfield 28, 3) := by decide +kernel
theorem dX9_readFrom_58 : decode cX9_readFrom 58 = .ok (.aload_n 1, 1) := by decide +kernel
theorem dX9_readFrom_59 : decode cX9_readFrom 59 = .ok (.invokevirtual 36, 3) := by decide +kernel
theorem dX9_readFrom_62 : decode cX9_readFrom 62 = .ok (.aload_n 1, 1) := by decide +kernel
theorem dX9_readFrom_63 : decode cX9_readFrom 63 = .ok (.invokevirtual 32, 3) := by decide +kernel
theorem dX9_readFrom_66 : decode cX9_readFrom 66 = .ok (.istore_n 2, 1) := by decide +kernel
theorem dX9_readFrom_67 : decode cX9_readFrom 67 = .ok (.goto (-53), 3) := by decide +kernel
theorem dX9_readFrom_70 : decode cX9_readFrom 70 = .ok (.aload_n 0, 1) := by decide +kernel
theorem dX9_readFrom_71 : decode cX9_readFrom 71 = .ok (.getfield 28, 3) := by decide +kernel
theorem dX9_readFrom_74 : decode cX9_readFrom 74 = .ok (.ifCond .le 15, 3) := by decide +kernel
theorem dX9_readFrom_77 : decode cX9_readFrom 77 = .ok (.aload_n 1, 1) := by decide +kernel
theorem dX9_readFrom_78 : decode cX9_readFrom 78 = .ok (.invokevirtual 32, 3) := by decide +kernel
theorem dX9_readFrom_81 : decode cX9_readFrom 81 = .ok (.iconst (-1), 1) := by decide +kernel
theorem dX9_readFrom_82 : decode cX9_readFrom 82 = .ok (.if_icmp .ne 7, 3) := by decide +kernel
theorem dX9_readFrom_85 : decode cX9_readFrom 85 = .ok (.iconst (-1), 1) := by decide +kernel
theorem dX9_readFrom_86 : decode cX9_readFrom 86 = .ok (.goto 7, 3) := by decide +kernel
theorem dX9_readFrom_89 : decode cX9_readFrom 89 = .ok (.aload_n 1, 1) := by decide +kernel
theorem dX9_readFrom_90 : decode cX9_readFrom 90 = .ok (.getfield 39, 3) := by decide +kernel
theorem dX9_readFrom_93 : decode cX9_readFrom 93 = .ok (.ireturn, 1) := by decide +kernel
theorem dX10_init_0 : decode cX10_init 0 = .ok (.aload_n 0, 1) := by decide +kernel
theorem dX10_init_1 : decode cX10_init 1 = .ok (.invokespecial 3, 3) := by decide +kernel
theorem dX10_init_4 : decode cX10_init 4 = .ok (.aload_n 0, 1) := by decide +kernel
theorem dX10_init_5 : decode cX10_init 5 = .ok (.bipush 8, 2) := by decide +kernel
theorem dX10_init_7 : decode cX10_init 7 = .ok (.bipush 8, 2) := by decide +kernel
theorem dX10_init_9 : decode cX10_init 9 = .ok (.multianewarray 9 2, 4) := by decide +kernel
theorem dX10_init_13 : decode cX10_init 13 = .ok (.putfield 11, 3) := by decide +kernel
theorem dX10_init_16 : decode cX10_init 16 = .ok (.aload_n 0, 1) := by decide +kernel
theorem dX10_init_17 : decode cX10_init 17 = .ok (.bipush 8, 2) := by decide +kernel
theorem dX10_init_19 : decode cX10_init 19 = .ok (.bipush 8, 2) := by decide +kernel
theorem dX10_init_21 : decode cX10_init 21 = .ok (.multianewarray 9 2, 4) := by decide +kernel
theorem dX10_init_25 : decode cX10_init 25 = .ok (.putfield 16, 3) := by decide +kernel
theorem dX10_init_28 : decode cX10_init 28 = .ok (.aload_n 0, 1) := by decide +kernel
theorem dX10_init_29 : decode cX10_init 29 = .ok (.sipush 2048, 3) := by decide +kernel
theorem dX10_init_32 : decode cX10_init 32 = .ok (.newarray .int, 2) := by decide +kernel
theorem dX10_init_34 : decode cX10_init 34 = .ok (.putfield 19, 3) := by decide +kernel
theorem dX10_init_37 : decode cX10_init 37 = .ok (.return_, 1) := by decide +kernel
set_option maxRecDepth 20000 in
theorem ggX11_init_X8_init : GoodIn wsX11_init wsX8_init := goodIn_r _ [54, 55, 2, 3, 56, 57, 125, 126, 127, 128] (by decide +kernel) (by decide +kernel)
set_option maxRecDepth 20000 in
theorem gX11_init_X8_init_n9 : GoodIn wsX11_init (wsX8_init) := ggX11_init_X8_init
set_option maxRecDepth 20000 in
theorem ggX11_init_X5_init : GoodIn wsX11_init wsX5_init := goodIn_r _ [59, 60, 2, 3, 56, 61, 62, 63, 64, 65, 146, 147, 148, 149, 150, 151, 152, 153] (by decide +kernel) (by decide +kernel)
set_option maxRecDepth 20000 in
theorem gX11_init_X5_init_n18 : GoodIn wsX11_init (wsX5_init) := ggX11_init_X5_init
set_option maxRecDepth 20000 in
theorem ggX11_init_X2_init : GoodIn wsX11_init wsX2_init := goodIn_r _ [67, 68, 2, 3, 56, 69, 70, 154, 155, 156] (by decide +kernel) (by decide +kernel)
set_option maxRecDepth 20000 in
theorem gX11_init_X2_init_n28 : GoodIn wsX11_init (wsX2_init) := ggX11_init_X2_init
set_option maxRecDepth 20000 in
theorem ggX11_init_X3_init : GoodIn wsX11_init wsX3_init := goodIn_r _ [72, 73, 2, 3, 74, 56, 75, 76, 77, 78, 157, 158, 159, 160, 161, 162, 163, 164, 165, 166, 167, 168] (by decide +kernel) (by decide +kernel)
set_option maxRecDepth 20000 in
theorem gX11_init_X3_init_n37 : GoodIn wsX11_init (wsX3_init) := ggX11_init_X3_init
set_option maxRecDepth 20000 in
theorem ggX11_init_X9_init : GoodIn wsX11_init wsX9_init := goodIn_r _ [80, 81, 2, 3, 82, 56, 83, 84, 85, 169, 170, 171, 172, 173] (by decide +kernel) (by decide +kernel)
set_option maxRecDepth 20000 in
theorem gX11_init_X9_init_n44 : GoodIn wsX11_init (wsX9_init) := ggX11_init_X9_init
set_option maxRecDepth 20000 in
theorem ggX11_init_X10_init : GoodIn wsX11_init wsX10_init := goodIn_r _ [87, 88, 2, 3, 89, 56, 90, 91, 92, 174, 175, 176, 177] (by decide +kernel) (by decide +kernel)
set_option maxRecDepth 20000 in
theorem gX11_init_X10_init_n51 : GoodIn wsX11_init (wsX10_init) := ggX11_init_X10_init
set_option maxRecDepth 20000 in
theorem ggX11_init_X1_init : GoodIn wsX11_init wsX1_init := goodIn_r _ [94, 95, 2, 3, 96, 97, 98, 178, 179, 180, 181, 182, 183, 184] (by decide +kernel) (by decide +kernel)
set_option maxRecDepth 20000 in
theorem gX11_init_X1_init_n58 : GoodIn wsX11_init (wsX1_init) := ggX11_init_X1_init
set_option maxRecDepth 20000 in
theorem ggX11_init_X7_init : GoodIn wsX11_init wsX7_init := goodIn_r _ [100, 101, 2, 3, 56, 102, 103, 104, 105, 106, 185, 186, 187, 188, 189, 190] (by decide +kernel) (by decide +kernel)
set_option maxRecDepth 20000 in
theorem gX11_init_X7_init_n67 : GoodIn wsX11_init (wsX7_init) := ggX11_init_X7_init
set_option maxRecDepth 20000 in
theorem ggX11_init_X6_init : GoodIn wsX11_init wsX6_init := goodIn_r _ [108, 109, 2, 3, 56, 110, 111, 112, 113, 191, 192, 193, 194, 195, 196, 197] (by decide +kernel) (by decide +kernel)
set_option maxRecDepth 20000 in
theorem gX11_init_X6_init_n74 : GoodIn wsX11_init (wsX6_init) := ggX11_init_X6_init
set_option maxRecDepth 20000 in
theorem ggX11_init_X0_init : GoodIn wsX11_init wsX0_init := goodIn_r _ [115, 116, 2, 3, 117, 118, 38, 39, 107, 108, 109, 56, 110, 111, 112, 113, 198, 199, 200, 191, 192, 193, 194, 195, 196, 197] (by decide +kernel) (by decide +kernel)
set_option maxRecDepth 20000 in
theorem gX11_init_X0_init_n84 : GoodIn wsX11_init (wsX0_init) := ggX11_init_X0_init
set_option maxRecDepth 20000 in
theorem ggX11_init_X4_init : GoodIn wsX11_init wsX4_init := goodIn_r _ [120, 121, 2, 3, 56, 122, 123, 124, 201, 202, 203] (by decide +kernel) (by decide +kernel)
set_option maxRecDepth 20000 in
theorem gX11_init_X4_init_n91 : GoodIn wsX11_init (wsX4_init) := ggX11_init_X4_init
theorem dX11_init_0 : decode cX11_init 0 = .ok (.aload_n 0, 1) := by decide +kernel
theorem dX11_init_1 : decode cX11_init 1 = .ok (.invokespecial 1, 3) := by decide +kernel
theorem dX11_init_4 : decode cX11_init 4 = .ok (.aload_n 0, 1) := by decide +kernel
theorem dX11_init_5 : decode cX11_init 5 = .ok (.new 7, 3) := by decide +kernel
theorem dX11_init_8 : decode cX11_init 8 = .ok (.dup, 1) := by decide +kernel
theorem dX11_init_9 : decode cX11_init 9 = .ok (.invokespecial 9, 3) := by decide +kernel
theorem dX11_init_12 : decode cX11_init 12 = .ok (.putfield 10, 3) := by decide +kernel
theorem dX11_init_15 : decode cX11_init 15 = .ok (.aload_n 0, 1) := by decide +kernel
theorem dX11_init_16 : decode cX11_init 16 = .ok (.new 16, 3) := by decide +kernel
theorem dX11_init_19 : decode cX11_init 19 = .ok (.dup, 1) := by decide +kernel
theorem dX11_init_20 : decode cX11_init 20 = .ok (.invokespecial 18, 3) := by decide +kernel
theorem dX11_init_23 : decode cX11_init 23 = .ok (.putfield 19, 3) := by decide +kernel
theorem dX11_init_26 : decode cX11_init 26 = .ok (.aload_n 0, 1) := by decide +kernel
theorem dX11_init_27 : decode cX11_init 27 = .ok (.new 16, 3) := by decide +kernel
theorem dX11_init_30 : decode cX11_init 30 = .ok (.dup, 1) := by decide +kernel
theorem dX11_init_31 : decode cX11_init 31 = .ok (.invokespecial 18, 3) := by decide +kernel
theorem dX11_init_34 : decode cX11_init 34 = .ok (.putfield 23, 3) := by decide +kernel
theorem dX11_init_37 : decode cX11_init 37 = .ok (.aload_n 0, 1) := by decide +kernel
theorem dX11_init_38 : decode cX11_init 38 = .ok (.new 26, 3) := by decide +kernel
theorem dX11_init_41 : decode cX11_init 41 = .ok (.dup, 1) := by decide +kernel
theorem dX11_init_42 : decode cX11_init 42 = .ok (.aload_n 0, 1) := by decide +kernel
theorem dX11_init_43 : decode cX11_init 43 = .ok (.getfield 10, 3) := by decide +kernel
theorem dX11_init_46 : decode cX11_init 46 = .ok (.invokespecial 28, 3) := by decide +kernel
theorem dX11_init_49 : decode cX11_init 49 = .ok (.putfield 31, 3) := by decide +kernel
theorem dX11_init_52 : decode cX11_init 52 = .ok (.aload_n 0, 1) := by decide +kernel
theorem dX11_init_53 : decode cX11_init 53 = .ok (.new 35, 3) := by decide +kernel
theorem dX11_init_56 : decode cX11_init 56 = .ok (.dup, 1) := by decide +kernel
theorem dX11_init_57 : decode cX11_init 57 = .ok (.invokespecial 37, 3) := by decide +kernel
theorem dX11_init_60 : decode cX11_init 60 = .ok (.putfield 38, 3) := by decide +kernel
theorem dX11_init_63 : decode cX11_init 63 = .ok (.aload_n 0, 1) := by decide +kernel
theorem dX11_init_64 : decode cX11_init 64 = .ok (.new 42, 3) := by decide +kernel
theorem dX11_init_67 : decode cX11_init 67 = .ok (.dup, 1) := by decide +kernel
theorem dX11_init_68 : decode cX11_init 68 = .ok (.invokespecial 44, 3) := by decide +kernel
theorem dX11_init_71 : decode cX11_init 71 = .ok (.putfield 45, 3) := by decide +kernel
theorem dX11_init_74 : decode cX11_init 74 = .ok (.aload_n 0, 1) := by decide +kernel
theorem dX11_init_75 : decode cX11_init 75 = .ok (.new 49, 3) := by decide +kernel
theorem dX11_init_78 : decode cX11_init 78 = .ok (.dup, 1) := by decide +kernel
theorem dX11_init_79 : decode cX11_init 79 = .ok (.invokespecial 51, 3) := by decide +kernel
theorem dX11_init_82 : decode cX11_init 82 = .ok (.putfield 52, 3) := by decide +kernel
theorem dX11_init_85 : decode cX11_init 85 = .ok (.aload_n 0, 1) := by decide +kernel
theorem dX11_init_86 : decode cX11_init 86 = .ok (.new 56, 3) := by decide +kernel
theorem dX11_init_89 : decode cX11_init 89 = .ok (.dup, 1) := by decide +kernel
theorem dX11_init_90 : decode cX11_init 90 = .ok (.aload_n 0, 1) := by decide +kernel
theorem dX11_init_91 : decode cX11_init 91 = .ok (.getfield 19, 3) := by decide +kernel
theorem dX11_init_94 : decode cX11_init 94 = .ok (.aload_n 0, 1) := by decide +kernel
theorem dX11_init_95 : decode cX11_init 95 = .ok (.getfield 52, 3) := by decide +kernel
theorem dX11_init_98 : decode cX11_init 98 = .ok (.aload_n 0, 1) := by decide +kernel
theorem dX11_init_99 : decode cX11_init 99 = .ok (.getfield 38, 3) := by decide +kernel
theorem dX11_init_102 : decode cX11_init 102 = .ok (.invokespecial 58, 3) := by decide +kernel
theorem dX11_init_105 : decode cX11_init 105 = .ok (.putfield 61, 3) := by decide +kernel
theorem dX11_init_108 : decode cX11_init 108 = .ok (.aload_n 0, 1) := by decide +kernel
theorem dX11_init_109 : decode cX11_init 109 = .ok (.new 65, 3) := by decide +kernel
theorem dX11_init_112 : decode cX11_init 112 = .ok (.dup, 1) := by decide +kernel
theorem dX11_init_113 : decode cX11_init 113 = .ok (.invokespecial 67, 3) := by decide +kernel
theorem dX11_init_116 : decode cX11_init 116 = .ok (.putfield 68, 3) := by decide +kernel
theorem dX11_init_119 : decode cX11_init 119 = .ok (.aload_n 0, 1) := by decide +kernel
theorem dX11_init_120 : decode cX11_init 120 = .ok (.new 72, 3) := by decide +kernel
theorem dX11_init_123 : decode cX11_init 123 = .ok (.dup, 1) := by decide +kernel
theorem dX11_init_124 : decode cX11_init 124 = .ok (.invokespecial 74, 3) := by decide +kernel
theorem dX11_init_127 : decode cX11_init 127 = .ok (.putfield 75, 3) := by decide +kernel
theorem dX11_init_130 : decode cX11_init 130 = .ok (.aload_n 0, 1) := by decide +kernel
theorem dX11_init_131 : decode cX11_init 131 = .ok (.new 72, 3) := by decide +kernel
theorem dX11_init_134 : decode cX11_init 134 = .ok (.dup, 1) := by decide +kernel
theorem dX11_init_135 : decode cX11_init 135 = .ok (.invokespecial 74, 3) := by decide +kernel
theorem dX11_init_138 : decode cX11_init 138 = .ok (.putfield 79, 3) := by decide +kernel
theorem dX11_init_141 : decode cX11_init 141 = .ok (.aload_n 0, 1) := by decide +kernel
theorem dX11_init_142 : decode cX11_init 142 = .ok (.new 82, 3) := by decide +kernel
theorem dX11_init_145 : decode cX11_init 145 = .ok (.dup, 1) := by decide +kernel
theorem dX11_init_146 : decode cX11_init 146 = .ok (.invokespecial 84, 3) := by decide +kernel
theorem dX11_init_149 : decode cX11_init 149 = .ok (.putfield 85, 3) := by decide +kernel
theorem dX11_init_152 : decode cX11_init 152 = .ok (.aload_n 0, 1) := by decide +kernel
theorem dX11_init_153 : decode cX11_init 153 = .ok (.new 89, 3) := by decide +kernel
theorem dX11_init_156 : decode cX11_init 156 = .ok (.dup, 1) := by decide +kernel
theorem dX11_init_157 : decode cX11_init 157 = .ok (.invokespecial 91, 3) := by decide +kernel
theorem dX11_init_160 : decode cX11_init 160 = .ok (.putfield 92, 3) := by decide +kernel
theorem dX11_init_163 : decode cX11_init 163 = .ok (.aload_n 0, 1) := by decide +kernel
theorem dX11_init_164 : decode cX11_init 164 = .ok (.new 72, 3) := by decide +kernel
theorem dX11_init_167 : decode cX11_init 167 = .ok (.dup, 1) := by decide +kernel
theorem dX11_init_168 : decode cX11_init 168 = .ok (.invokespecial 74, 3) := by decide +kernel
theorem dX11_init_171 : decode cX11_init 171 = .ok (.putfield 96, 3) := by decide +kernel
theorem dX11_init_174 : decode cX11_init 174 = .ok (.aload_n 0, 1) := by decide +kernel
theorem dX11_init_175 : decode cX11_init 175 = .ok (.new 89, 3) := by decide +kernel
theorem dX11_init_178 : decode cX11_init 178 = .ok (.dup, 1) := by decide +kernel
theorem dX11_init_179 : decode cX11_init 179 = .ok (.invokespecial 91, 3) := by decide +kernel
theorem dX11_init_182 : decode cX11_init 182 = .ok (.putfield 99, 3) := by decide +kernel
theorem dX11_init_185 : decode cX11_init 185 = .ok (.aload_n 0, 1) := by decide +kernel
theorem dX11_init_186 : decode cX11_init 186 = .ok (.iconst 1, 1) := by decide +kernel
theorem dX11_init_187 : decode cX11_init 187 = .ok (.putfield 102, 3) := by decide +kernel
theorem dX11_init_190 : decode cX11_init 190 = .ok (.return_, 1) := by decide +kernel
set_option maxRecDepth 20000 in
theorem ggX11_feed_X8_bytesOf : GoodIn wsX11_feed wsX8_bytesOf := goodIn_r _ [4] (by decide +kernel) (by decide +kernel)
set_option maxRecDepth 20000 in
theorem gX11_feed_X8_bytesOf_n106 : GoodIn wsX11_feed (wsX8_bytesOf) := ggX11_feed_X8_bytesOf
set_option maxRecDepth 20000 in
theorem ggX11_feed_X8_append : GoodIn wsX11_feed wsX8_append := goodIn_r _ [7, 8, 9, 27, 28, 29, 30] (by decide +kernel) (by decide +kernel)
set_option maxRecDepth 20000 in
theorem gX11_feed_X8_append_n113 : GoodIn wsX11_feed (wsX8_append) := ggX11_feed_X8_append
theorem dX11_feed_0 : decode cX11_feed 0 = .ok (.iload_n 1, 1) := by decide +kernel
theorem dX11_feed_1 : decode cX11_feed 1 = .ok (.invokestatic 106, 3) := by decide +kernel
theorem dX11_feed_4 : decode cX11_feed 4 = .ok (.iload_n 2, 1) := by decide +kernel
theorem dX11_feed_5 : decode cX11_feed 5 = .ok (.invokestatic 106, 3) := by decide +kernel
theorem dX11_feed_8 : decode cX11_feed 8 = .ok (.iadd, 1) := by decide +kernel
theorem dX11_feed_9 : decode cX11_feed 9 = .ok (.iload_n 3, 1) := by decide +kernel
theorem dX11_feed_10 : decode cX11_feed 10 = .ok (.invokestatic 106, 3) := by decide +kernel
theorem dX11_feed_13 : decode cX11_feed 13 = .ok (.iadd, 1) := by decide +kernel
theorem dX11_feed_14 : decode cX11_feed 14 = .ok (.iload 4, 2) := by decide +kernel
theorem dX11_feed_16 : decode cX11_feed 16 = .ok (.invokestatic 106, 3) := by decide +kernel
theorem dX11_feed_19 : decode cX11_feed 19 = .ok (.iadd, 1) := by decide +kernel
theorem dX11_feed_20 : decode cX11_feed 20 = .ok (.iload 5, 2) := by decide +kernel
theorem dX11_feed_22 : decode cX11_feed 22 = .ok (.invokestatic 106, 3) := by decide +kernel
theorem dX11_feed_25 : decode cX11_feed 25 = .ok (.iadd, 1) := by decide +kernel
theorem dX11_feed_26 : decode cX11_feed 26 = .ok (.istore 6, 2) := by decide +kernel
theorem dX11_feed_28 : decode cX11_feed 28 = .ok (.aload_n 0, 1) := by decide +kernel
theorem dX11_feed_29 : decode cX11_feed 29 = .ok (.getfield 10, 3) := by decide +kernel
theorem dX11_feed_32 : decode cX11_feed 32 = .ok (.getfield 110, 3) := by decide +kernel
theorem dX11_feed_35 : decode cX11_feed 35 = .ok (.iload 6, 2) := by decide +kernel
theorem dX11_feed_37 : decode cX11_feed 37 = .ok (.iadd, 1) := by decide +kernel
theorem dX11_feed_38 : decode cX11_feed 38 = .ok (.sipush 240, 3) := by decide +kernel
theorem dX11_feed_41 : decode cX11_feed 41 = .ok (.if_icmp .le 5, 3) := by decide +kernel
theorem dX11_feed_44 : decode cX11_feed 44 = .ok (.iconst (-1), 1) := by decide +kernel
theorem dX11_feed_45 : decode cX11_feed 45 = .ok (.ireturn, 1) := by decide +kernel
theorem dX11_feed_46 : decode cX11_feed 46 = .ok (.aload_n 0, 1) := by decide +kernel
theorem dX11_feed_47 : decode cX11_feed 47 = .ok (.getfield 10, 3) := by decide +kernel
theorem dX11_feed_50 : decode cX11_feed 50 = .ok (.iload_n 1, 1) := by decide +kernel
theorem dX11_feed_51 : decode cX11_feed 51 = .ok (.invokevirtual 113, 3) := by decide +kernel
theorem dX11_feed_54 : decode cX11_feed 54 = .ok (.aload_n 0, 1) := by decide +kernel
theorem dX11_feed_55 : decode cX11_feed 55 = .ok (.getfield 10, 3) := by decide +kernel
theorem dX11_feed_58 : decode cX11_feed 58 = .ok (.iload_n 2, 1) := by decide +kernel
theorem dX11_feed_59 : decode cX11_feed 59 = .ok (.invokevirtual 113, 3) := by decide +kernel
theorem dX11_feed_62 : decode cX11_feed 62 = .ok (.aload_n 0, 1) := by decide +kernel
theorem dX11_feed_63 : decode cX11_feed 63 = .ok (.getfield 10, 3) := by decide +kernel
theorem dX11_feed_66 : decode cX11_feed 66 = .ok (.iload_n 3, 1) := by decide +kernel
theorem dX11_feed_67 : decode cX11_feed 67 = .ok (.invokevirtual 113, 3) := by decide +kernel
theorem dX11_feed_70 : decode cX11_feed 70 = .ok (.aload_n 0, 1) := by decide +kernel
theorem dX11_feed_71 : decode cX11_feed 71 = .ok (.getfield 10, 3) := by decide +kernel
theorem dX11_feed_74 : decode cX11_feed 74 = .ok (.iload 4, 2) := by decide +kernel
theorem dX11_feed_76 : decode cX11_feed 76 = .ok (.invokevirtual 113, 3) := by decide +kernel
theorem dX11_feed_79 : decode cX11_feed 79 = .ok (.aload_n 0, 1) := by decide +kernel
theorem dX11_feed_80 : decode cX11_feed 80 = .ok (.getfield 10, 3) := by decide +kernel
theorem dX11_feed_83 : decode cX11_feed 83 = .ok (.iload 5, 2) := by decide +kernel
theorem dX11_feed_85 : decode cX11_feed 85 = .ok (.invokevirtual 113, 3) := by decide +kernel
theorem dX11_feed_88 : decode cX11_feed 88 = .ok (.aload_n 0, 1) := by decide +kernel
theorem dX11_feed_89 : decode cX11_feed 89 = .ok (.getfield 10, 3) := by decide +kernel
theorem dX11_feed_92 : decode cX11_feed 92 = .ok (.getfield 110, 3) := by decide +kernel
theorem dX11_feed_95 : decode cX11_feed 95 = .ok (.ireturn, 1) := by decide +kernel
theorem dX11_end_0 : decode cX11_end 0 = .ok (.iload_n 1, 1) := by decide +kernel
theorem dX11_end_1 : decode cX11_end 1 = .ok (.ifCond .lt 14, 3) := by decide +kernel
theorem dX11_end_4 : decode cX11_end 4 = .ok (.iload_n 1, 1) := by decide +kernel
theorem dX11_end_5 : decode cX11_end 5 = .ok (.aload_n 0, 1) := by decide +kernel
theorem dX11_end_6 : decode cX11_end 6 = .ok (.getfield 10, 3) := by decide +kernel
theorem dX11_end_9 : decode cX11_end 9 = .ok (.getfield 110, 3) := by decide +kernel
theorem dX11_end_12 : decode cX11_end 12 = .ok (.if_icmp .le 5, 3) := by decide +kernel
theorem dX11_end_15 : decode cX11_end 15 = .ok (.iconst 0, 1) := by decide +kernel
theorem dX11_end_16 : decode cX11_end 16 = .ok (.ireturn, 1) := by decide +kernel
theorem dX11_end_17 : decode cX11_end 17 = .ok (.aload_n 0, 1) := by decide +kernel
theorem dX11_end_18 : decode cX11_end 18 = .ok (.getfield 10, 3) := by decide +kernel
theorem dX11_end_21 : decode cX11_end 21 = .ok (.iload_n 1, 1) := by decide +kernel
theorem dX11_end_22 : decode cX11_end 22 = .ok (.putfield 110, 3) := by decide +kernel
theorem dX11_end_25 : decode cX11_end 25 = .ok (.iconst 1, 1) := by decide +kernel
theorem dX11_end_26 : decode cX11_end 26 = .ok (.ireturn, 1) := by decide +kernel
set_option maxRecDepth 20000 in
theorem ggX11_fault_X5_readFrom : GoodIn wsX11_fault wsX5_readFrom := goodIn_r _ [8, 9, 10, 11, 12, 13, 6, 14, 15, 16, 17, 18, 19, 20, 21, 22, 23, 24, 25, 26, 27, 28, 29, 30, 31, 32, 33, 34, 35, 36, 37, 38, 39, 40, 41, 42, 43, 44, 45, 46, 47, 48, 49, 50, 51, 52, 53, 54, 55, 56, 57, 58, 59, 60, 61, 62, 63, 64, 65, 66, 67, 68, 69, 70, 71, 72, 73, 74, 75, 76, 77, 78, 79, 80, 81, 82, 83, 84, 85, 86, 87, 88, 89, 90, 91, 92, 93, 94, 95, 168, 169, 170, 171, 172, 173, 174, 175, 176, 177, 178, 179] (by decide +kernel) (by decide +kernel)
set_option maxRecDepth 20000 in
theorem gX11_fault_X5_readFrom_n117 : GoodIn wsX11_fault (wsX5_readFrom) := ggX11_fault_X5_readFrom
set_option maxRecDepth 20000 in
theorem ggX11_fault_X2_readLaw : GoodIn wsX11_fault wsX2_readLaw := goodIn_r _ [99, 100, 101, 23, 24, 25, 26, 27, 28, 102, 103, 104, 97, 105, 74, 75, 76, 70, 46, 47, 48, 49, 50, 51, 52, 53, 54, 77, 64, 65, 66, 78, 55, 56, 57, 106, 107, 108, 109, 110, 111, 112, 113, 114, 115, 116, 117, 118, 72, 73, 67, 68, 69, 71, 119, 120, 121, 122, 123, 124, 125, 126, 127, 128, 129, 130, 131, 132, 133, 134, 135, 136, 137, 138, 139, 140, 141, 142, 143, 144, 180, 181, 182, 168, 169, 170, 171] (by decide +kernel) (by decide +kernel)
set_option maxRecDepth 20000 in
theorem gX11_fault_X2_readLaw_n121 : GoodIn wsX11_fault (wsX2_readLaw) := ggX11_fault_X2_readLaw
set_option maxRecDepth 20000 in
theorem ggX11_fault_X9_readFrom : GoodIn wsX11_fault wsX9_readFrom := goodIn_r _ [148, 149, 150, 23, 24, 25, 26, 27, 28, 46, 47, 48, 49, 50, 51, 52, 53, 54, 55, 56, 57, 183, 184, 185, 186, 187, 168, 169, 170, 171] (by decide +kernel) (by decide +kernel)
set_option maxRecDepth 20000 in
theorem gX11_fault_X9_readFrom_n125 : GoodIn wsX11_fault (wsX9_readFrom) := ggX11_fault_X9_readFrom
theorem dX11_fault_0 : decode cX11_fault 0 = .ok (.iload_n 1, 1) := by decide +kernel
theorem dX11_fault_1 : decode cX11_fault 1 = .ok (.tableswitch 59 0 2 #[27, 39, 47], 27) := by decide +kernel
theorem dX11_fault_28 : decode cX11_fault 28 = .ok (.aload_n 0, 1) := by decide +kernel
theorem dX11_fault_29 : decode cX11_fault 29 = .ok (.getfield 23, 3) := by decide +kernel
theorem dX11_fault_32 : decode cX11_fault 32 = .ok (.aload_n 0, 1) := by decide +kernel
theorem dX11_fault_33 : decode cX11_fault 33 = .ok (.getfield 10, 3) := by decide +kernel
theorem dX11_fault_36 : decode cX11_fault 36 = .ok (.invokevirtual 117, 3) := by decide +kernel
theorem dX11_fault_39 : decode cX11_fault 39 = .ok (.ireturn, 1) := by decide +kernel
theorem dX11_fault_40 : decode cX11_fault 40 = .ok (.aload_n 0, 1) := by decide +kernel
theorem dX11_fault_41 : decode cX11_fault 41 = .ok (.getfield 31, 3) := by decide +kernel
theorem dX11_fault_44 : decode cX11_fault 44 = .ok (.invokevirtual 121, 3) := by decide +kernel
theorem dX11_fault_47 : decode cX11_fault 47 = .ok (.ireturn, 1) := by decide +kernel
theorem dX11_fault_48 : decode cX11_fault 48 = .ok (.aload_n 0, 1) := by decide +kernel
theorem dX11_fault_49 : decode cX11_fault 49 = .ok (.getfield 45, 3) := by decide +kernel
theorem dX11_fault_52 : decode cX11_fault 52 = .ok (.aload_n 0, 1) := by decide +kernel
theorem dX11_fault_53 : decode cX11_fault 53 = .ok (.getfield 10, 3) := by decide +kernel
theorem dX11_fault_56 : decode cX11_fault 56 = .ok (.invokevirtual 125, 3) := by decide +kernel
theorem dX11_fault_59 : decode cX11_fault 59 = .ok (.ireturn, 1) := by decide +kernel
theorem dX11_fault_60 : decode cX11_fault 60 = .ok (.bipush (-2), 2) := by decide +kernel
theorem dX11_fault_62 : decode cX11_fault 62 = .ok (.ireturn, 1) := by decide +kernel
set_option maxRecDepth 20000 in
theorem ggX11_text_X11_fault : GoodIn wsX11_text wsX11_fault := goodIn_r _ [9, 10, 4, 2, 3, 11, 12, 13, 14, 15, 16, 17, 18, 19, 20, 21, 22, 23, 24, 25, 26, 27, 28, 29, 30, 31, 32, 33, 34, 35, 36, 37, 38, 39, 40, 41, 42, 43, 44, 45, 46, 47, 48, 49, 50, 51, 52, 53, 54, 55, 56, 57, 58, 59, 60, 61, 62, 63, 64, 65, 66, 67, 68, 69, 70, 71, 72, 73, 74, 75, 76, 77, 78, 79, 80, 81, 82, 83, 84, 85, 86, 87, 88, 89, 90, 91, 92, 93, 94, 95, 96, 97, 98, 99, 100, 101, 102, 103, 104, 105, 106, 107, 108, 109, 110, 111, 112, 113, 114, 115, 116, 117, 118, 119, 120, 121, 122, 123, 124, 125, 126, 127, 128, 129, 130, 131, 132, 133, 134, 135, 136, 137, 138, 139, 140, 141, 142, 143, 144, 145, 146, 147, 148, 149, 150, 151, 152, 153, 154, 155, 156, 203, 204, 205, 206, 207, 208, 209, 210, 211, 212, 213, 214, 215, 216, 217, 218, 219, 220, 221, 222, 223, 224, 225, 226, 227, 228, 229, 230, 231, 232, 233, 234, 235, 236, 237, 238, 239] (by decide +kernel) (by decide +kernel)
set_option maxRecDepth 20000 in
theorem gX11_text_X11_fault : GoodIn wsX11_text (wsV RX11 126 RX11 yX11_fault wsX11_fault) := goodIn_app (goodIn_of _ (by decide +kernel)) ggX11_text_X11_fault
set_option maxRecDepth 20000 in
theorem ggX11_text_X11_settleTown : GoodIn wsX11_text wsX11_settleTown := goodIn_r _ [160, 161, 10, 162, 163, 164, 165, 166, 12, 167, 168, 16, 21, 22, 15, 25, 26, 27, 28, 42, 47, 101, 169, 170, 171, 172, 173, 174, 175, 176, 177, 178, 179, 180, 181, 182, 183, 184, 185, 186, 187, 203, 204, 205, 206, 207, 208, 209, 210, 211, 212, 213, 214, 215, 216, 217, 218, 219, 240, 241, 242, 243, 244, 245, 224, 225, 226, 227, 228, 229, 230, 231, 246, 247, 248, 249, 250, 251, 252, 253, 254, 255] (by decide +kernel) (by decide +kernel)
set_option maxRecDepth 20000 in
theorem gX11_text_X11_settleTown : GoodIn wsX11_text (wsV RX11 129 RX11 yX11_settleTown wsX11_settleTown) := goodIn_app (goodIn_of _ (by decide +kernel)) ggX11_text_X11_settleTown
set_option maxRecDepth 20000 in
theorem ggX11_text_X3_addFrom : GoodIn wsX11_text wsX3_addFrom := goodIn_r _ [191, 192, 193, 194, 26, 27, 28, 195, 256, 257, 258, 259, 260, 261, 262, 263, 264, 265, 266, 267, 232, 233, 234] (by decide +kernel) (by decide +kernel)
set_option maxRecDepth 20000 in
theorem gX11_text_X3_addFrom_n132 : GoodIn wsX11_text (wsX3_addFrom) := ggX11_text_X3_addFrom
set_option maxRecDepth 20000 in
theorem ggX11_text_X9_addDraft : GoodIn wsX11_text wsX9_addDraft := goodIn_r _ [198, 199, 156, 200, 201, 26, 27, 28, 202, 155, 235, 236, 237, 238, 239] (by decide +kernel) (by decide +kernel)
set_option maxRecDepth 20000 in
theorem gX11_text_X9_addDraft_n136 : GoodIn wsX11_text (wsX9_addDraft) := ggX11_text_X9_addDraft
theorem dX11_text_0 : decode cX11_text 0 = .ok (.aload_n 0, 1) := by decide +kernel
theorem dX11_text_1 : decode cX11_text 1 = .ok (.iload_n 1, 1) := by decide +kernel
theorem dX11_text_2 : decode cX11_text 2 = .ok (.invokevirtual 126, 3) := by decide +kernel
theorem dX11_text_5 : decode cX11_text 5 = .ok (.iconst (-1), 1) := by decide +kernel
theorem dX11_text_6 : decode cX11_text 6 = .ok (.if_icmp .eq 5, 3) := by decide +kernel
theorem dX11_text_9 : decode cX11_text 9 = .ok (.iconst (-1), 1) := by decide +kernel
theorem dX11_text_10 : decode cX11_text 10 = .ok (.ireturn, 1) := by decide +kernel
theorem dX11_text_11 : decode cX11_text 11 = .ok (.iconst (-1), 1) := by decide +kernel
theorem dX11_text_12 : decode cX11_text 12 = .ok (.istore_n 2, 1) := by decide +kernel
theorem dX11_text_13 : decode cX11_text 13 = .ok (.iload_n 1, 1) := by decide +kernel
theorem dX11_text_14 : decode cX11_text 14 = .ok (.ifCond .ne 11, 3) := by decide +kernel
theorem dX11_text_17 : decode cX11_text 17 = .ok (.aload_n 0, 1) := by decide +kernel
theorem dX11_text_18 : decode cX11_text 18 = .ok (.invokevirtual 129, 3) := by decide +kernel
theorem dX11_text_21 : decode cX11_text 21 = .ok (.istore_n 2, 1) := by decide +kernel
theorem dX11_text_22 : decode cX11_text 22 = .ok (.goto 36, 3) := by decide +kernel
theorem dX11_text_25 : decode cX11_text 25 = .ok (.iload_n 1, 1) := by decide +kernel
theorem dX11_text_26 : decode cX11_text 26 = .ok (.iconst 1, 1) := by decide +kernel
theorem dX11_text_27 : decode cX11_text 27 = .ok (.if_icmp .ne 18, 3) := by decide +kernel
theorem dX11_text_30 : decode cX11_text 30 = .ok (.aload_n 0, 1) := by decide +kernel
theorem dX11_text_31 : decode cX11_text 31 = .ok (.getfield 38, 3) := by decide +kernel
theorem dX11_text_34 : decode cX11_text 34 = .ok (.aload_n 0, 1) := by decide +kernel
theorem dX11_text_35 : decode cX11_text 35 = .ok (.getfield 31, 3) := by decide +kernel
theorem dX11_text_38 : decode cX11_text 38 = .ok (.invokevirtual 132, 3) := by decide +kernel
theorem dX11_text_41 : decode cX11_text 41 = .ok (.istore_n 2, 1) := by decide +kernel
theorem dX11_text_42 : decode cX11_text 42 = .ok (.goto 16, 3) := by decide +kernel
theorem dX11_text_45 : decode cX11_text 45 = .ok (.iload_n 1, 1) := by decide +kernel
theorem dX11_text_46 : decode cX11_text 46 = .ok (.iconst 2, 1) := by decide +kernel
theorem dX11_text_47 : decode cX11_text 47 = .ok (.if_icmp .ne 11, 3) := by decide +kernel
theorem dX11_text_50 : decode cX11_text 50 = .ok (.aload_n 0, 1) := by decide +kernel
theorem dX11_text_51 : decode cX11_text 51 = .ok (.getfield 45, 3) := by decide +kernel
theorem dX11_text_54 : decode cX11_text 54 = .ok (.invokevirtual 136, 3) := by decide +kernel
theorem dX11_text_57 : decode cX11_text 57 = .ok (.istore_n 2, 1) := by decide +kernel
theorem dX11_text_58 : decode cX11_text 58 = .ok (.iload_n 2, 1) := by decide +kernel
theorem dX11_text_59 : decode cX11_text 59 = .ok (.iconst (-1), 1) := by decide +kernel
theorem dX11_text_60 : decode cX11_text 60 = .ok (.if_icmp .eq 11, 3) := by decide +kernel
theorem dX11_text_63 : decode cX11_text 63 = .ok (.aload_n 0, 1) := by decide +kernel
theorem dX11_text_64 : decode cX11_text 64 = .ok (.getfield 10, 3) := by decide +kernel
theorem dX11_text_67 : decode cX11_text 67 = .ok (.iconst 0, 1) := by decide +kernel
theorem dX11_text_68 : decode cX11_text 68 = .ok (.putfield 110, 3) := by decide +kernel
theorem dX11_text_71 : decode cX11_text 71 = .ok (.iload_n 2, 1) := by decide +kernel
theorem dX11_text_72 : decode cX11_text 72 = .ok (.ireturn, 1) := by decide +kernel
set_option maxRecDepth 20000 in
theorem ggX11_corner_X11_isCorner : GoodIn wsX11_corner wsX11_isCorner := goodIn_r _ [7, 2, 24, 25, 26, 27, 28, 29, 30, 31, 32, 33, 34, 35, 36, 37, 38, 39, 40, 48, 49, 50, 51, 52, 53, 54, 55] (by decide +kernel) (by decide +kernel)
set_option maxRecDepth 20000 in
theorem gX11_corner_X11_isCorner : GoodIn wsX11_corner (wsV RX11 159 RX11 yX11_isCorner wsX11_isCorner) := goodIn_app (goodIn_of _ (by decide +kernel)) ggX11_corner_X11_isCorner
set_option maxRecDepth 20000 in
theorem ggX11_corner_X11_openNow : GoodIn wsX11_corner wsX11_openNow := goodIn_r _ [11, 2, 1, 12, 13, 14, 15, 16, 24, 25, 26, 27, 28, 29, 30, 31, 32, 33, 34, 35, 36, 37, 38, 39, 40, 41, 42, 43, 44, 45, 46, 47, 48, 49, 50, 51, 52, 53, 54, 55] (by decide +kernel) (by decide +kernel)
set_option maxRecDepth 20000 in
theorem gX11_corner_X11_openNow : GoodIn wsX11_corner (wsV RX11 170 RX11 yX11_openNow wsX11_openNow) := goodIn_app (goodIn_of _ (by decide +kernel)) ggX11_corner_X11_openNow
set_option maxRecDepth 20000 in
theorem ggX11_corner_J6_bitCount_0f7a4 : GoodIn wsX11_corner wsJ6_bitCount_0f7a4 := goodIn_r _ [20, 21, 22, 23] (by decide +kernel) (by decide +kernel)
set_option maxRecDepth 20000 in
theorem gX11_corner_J6_bitCount_0f7a4 : GoodIn wsX11_corner (va_wsS RX11 176 yJ6_bitCount_0f7a4 wsJ6_bitCount_0f7a4) := goodIn_app (goodIn_of _ (by decide +kernel)) ggX11_corner_J6_bitCount_0f7a4
theorem dX11_corner_0 : decode cX11_corner 0 = .ok (.aload_n 0, 1) := by decide +kernel
theorem dX11_corner_1 : decode cX11_corner 1 = .ok (.iload_n 1, 1) := by decide +kernel
theorem dX11_corner_2 : decode cX11_corner 2 = .ok (.invokevirtual 159, 3) := by decide +kernel
theorem dX11_corner_5 : decode cX11_corner 5 = .ok (.ifCond .ne 5, 3) := by decide +kernel
theorem dX11_corner_8 : decode cX11_corner 8 = .ok (.iconst (-1), 1) := by decide +kernel
theorem dX11_corner_9 : decode cX11_corner 9 = .ok (.ireturn, 1) := by decide +kernel
theorem dX11_corner_10 : decode cX11_corner 10 = .ok (.iload_n 2, 1) := by decide +kernel
theorem dX11_corner_11 : decode cX11_corner 11 = .ok (.tableswitch 63 0 2 #[25, 35, 45], 25) := by decide +kernel
theorem dX11_corner_36 : decode cX11_corner 36 = .ok (.aload_n 0, 1) := by decide +kernel
theorem dX11_corner_37 : decode cX11_corner 37 = .ok (.getfield 75, 3) := by decide +kernel
theorem dX11_corner_40 : decode cX11_corner 40 = .ok (.getfield 163, 3) := by decide +kernel
theorem dX11_corner_43 : decode cX11_corner 43 = .ok (.iload_n 1, 1) := by decide +kernel
theorem dX11_corner_44 : decode cX11_corner 44 = .ok (.iaload, 1) := by decide +kernel
theorem dX11_corner_45 : decode cX11_corner 45 = .ok (.ireturn, 1) := by decide +kernel
theorem dX11_corner_46 : decode cX11_corner 46 = .ok (.aload_n 0, 1) := by decide +kernel
theorem dX11_corner_47 : decode cX11_corner 47 = .ok (.getfield 75, 3) := by decide +kernel
theorem dX11_corner_50 : decode cX11_corner 50 = .ok (.getfield 167, 3) := by decide +kernel
theorem dX11_corner_53 : decode cX11_corner 53 = .ok (.iload_n 1, 1) := by decide +kernel
theorem dX11_corner_54 : decode cX11_corner 54 = .ok (.iaload, 1) := by decide +kernel
theorem dX11_corner_55 : decode cX11_corner 55 = .ok (.ireturn, 1) := by decide +kernel
theorem dX11_corner_56 : decode cX11_corner 56 = .ok (.aload_n 0, 1) := by decide +kernel
theorem dX11_corner_57 : decode cX11_corner 57 = .ok (.invokevirtual 170, 3) := by decide +kernel
theorem dX11_corner_60 : decode cX11_corner 60 = .ok (.aload_n 0, 1) := by decide +kernel
theorem dX11_corner_61 : decode cX11_corner 61 = .ok (.getfield 19, 3) := by decide +kernel
theorem dX11_corner_64 : decode cX11_corner 64 = .ok (.getfield 173, 3) := by decide +kernel
theorem dX11_corner_67 : decode cX11_corner 67 = .ok (.iload_n 1, 1) := by decide +kernel
theorem dX11_corner_68 : decode cX11_corner 68 = .ok (.iaload, 1) := by decide +kernel
theorem dX11_corner_69 : decode cX11_corner 69 = .ok (.iand, 1) := by decide +kernel
theorem dX11_corner_70 : decode cX11_corner 70 = .ok (.invokestatic 176, 3) := by decide +kernel
theorem dX11_corner_73 : decode cX11_corner 73 = .ok (.ireturn, 1) := by decide +kernel
theorem dX11_corner_74 : decode cX11_corner 74 = .ok (.iconst (-1), 1) := by decide +kernel
theorem dX11_corner_75 : decode cX11_corner 75 = .ok (.ireturn, 1) := by decide +kernel
set_option maxRecDepth 20000 in
theorem ggX11_street_X11_isStreet : GoodIn wsX11_street wsX11_isStreet := goodIn_r _ [7, 1, 19, 20, 21, 22, 23, 24, 25, 26, 27, 28, 29, 30, 31, 32, 33, 34, 35, 43, 44, 45, 46, 47, 48, 49, 50] (by decide +kernel) (by decide +kernel)
set_option maxRecDepth 20000 in
theorem gX11_street_X11_isStreet : GoodIn wsX11_street (wsV RX11 181 RX11 yX11_isStreet wsX11_isStreet) := goodIn_app (goodIn_of _ (by decide +kernel)) ggX11_street_X11_isStreet
set_option maxRecDepth 20000 in
theorem ggX11_street_X5_endA : GoodIn wsX11_street wsX5_endA := goodIn_r _ [11, 12, 43, 44, 45, 46, 47, 48, 49, 50] (by decide +kernel) (by decide +kernel)
set_option maxRecDepth 20000 in
theorem gX11_street_X5_endA_n184 : GoodIn wsX11_street (wsX5_endA) := ggX11_street_X5_endA
set_option maxRecDepth 20000 in
theorem ggX11_street_X5_endB : GoodIn wsX11_street wsX5_endB := goodIn_r _ [15, 12, 43, 44, 45, 46, 47, 48, 49, 50] (by decide +kernel) (by decide +kernel)
set_option maxRecDepth 20000 in
theorem gX11_street_X5_endB_n187 : GoodIn wsX11_street (wsX5_endB) := ggX11_street_X5_endB
set_option maxRecDepth 20000 in
theorem ggX11_street_X5_yardsOf : GoodIn wsX11_street wsX5_yardsOf := goodIn_r _ [18, 12, 43, 44, 45, 46, 47, 48, 49, 50] (by decide +kernel) (by decide +kernel)
set_option maxRecDepth 20000 in
theorem gX11_street_X5_yardsOf_n190 : GoodIn wsX11_street (wsX5_yardsOf) := ggX11_street_X5_yardsOf
theorem dX11_street_0 : decode cX11_street 0 = .ok (.aload_n 0, 1) := by decide +kernel
theorem dX11_street_1 : decode cX11_street 1 = .ok (.iload_n 1, 1) := by decide +kernel
theorem dX11_street_2 : decode cX11_street 2 = .ok (.invokevirtual 181, 3) := by decide +kernel
theorem dX11_street_5 : decode cX11_street 5 = .ok (.ifCond .ne 5, 3) := by decide +kernel
theorem dX11_street_8 : decode cX11_street 8 = .ok (.iconst (-1), 1) := by decide +kernel
theorem dX11_street_9 : decode cX11_street 9 = .ok (.ireturn, 1) := by decide +kernel
theorem dX11_street_10 : decode cX11_street 10 = .ok (.iload_n 2, 1) := by decide +kernel
theorem dX11_street_11 : decode cX11_street 11 = .ok (.tableswitch 68 0 3 #[29, 38, 47, 56], 29) := by decide +kernel
theorem dX11_street_40 : decode cX11_street 40 = .ok (.aload_n 0, 1) := by decide +kernel
theorem dX11_street_41 : decode cX11_street 41 = .ok (.getfield 19, 3) := by decide +kernel
theorem dX11_street_44 : decode cX11_street 44 = .ok (.iload_n 1, 1) := by decide +kernel
theorem dX11_street_45 : decode cX11_street 45 = .ok (.invokevirtual 184, 3) := by decide +kernel
theorem dX11_street_48 : decode cX11_street 48 = .ok (.ireturn, 1) := by decide +kernel
theorem dX11_street_49 : decode cX11_street 49 = .ok (.aload_n 0, 1) := by decide +kernel
theorem dX11_street_50 : decode cX11_street 50 = .ok (.getfield 19, 3) := by decide +kernel
theorem dX11_street_53 : decode cX11_street 53 = .ok (.iload_n 1, 1) := by decide +kernel
theorem dX11_street_54 : decode cX11_street 54 = .ok (.invokevirtual 187, 3) := by decide +kernel
theorem dX11_street_57 : decode cX11_street 57 = .ok (.ireturn, 1) := by decide +kernel
theorem dX11_street_58 : decode cX11_street 58 = .ok (.aload_n 0, 1) := by decide +kernel
theorem dX11_street_59 : decode cX11_street 59 = .ok (.getfield 19, 3) := by decide +kernel
theorem dX11_street_62 : decode cX11_street 62 = .ok (.iload_n 1, 1) := by decide +kernel
theorem dX11_street_63 : decode cX11_street 63 = .ok (.invokevirtual 190, 3) := by decide +kernel
theorem dX11_street_66 : decode cX11_street 66 = .ok (.ireturn, 1) := by decide +kernel
theorem dX11_street_67 : decode cX11_street 67 = .ok (.aload_n 0, 1) := by decide +kernel
theorem dX11_street_68 : decode cX11_street 68 = .ok (.getfield 75, 3) := by decide +kernel
theorem dX11_street_71 : decode cX11_street 71 = .ok (.getfield 193, 3) := by decide +kernel
theorem dX11_street_74 : decode cX11_street 74 = .ok (.iload_n 1, 1) := by decide +kernel
theorem dX11_street_75 : decode cX11_street 75 = .ok (.ishr, 1) := by decide +kernel
theorem dX11_street_76 : decode cX11_street 76 = .ok (.iconst 1, 1) := by decide +kernel
theorem dX11_street_77 : decode cX11_street 77 = .ok (.iand, 1) := by decide +kernel
theorem dX11_street_78 : decode cX11_street 78 = .ok (.ireturn, 1) := by decide +kernel
theorem dX11_street_79 : decode cX11_street 79 = .ok (.iconst (-1), 1) := by decide +kernel
theorem dX11_street_80 : decode cX11_street 80 = .ok (.ireturn, 1) := by decide +kernel
set_option maxRecDepth 20000 in
theorem ggX11_walker_X11_isWalker : GoodIn wsX11_walker wsX11_isWalker := goodIn_r _ [8, 9, 10, 11, 12, 13, 14, 15, 16, 17, 18, 19, 20, 21, 22, 23, 24, 25, 26, 34, 35, 36, 37, 38, 39, 40, 41] (by decide +kernel) (by decide +kernel)
set_option maxRecDepth 20000 in
theorem gX11_walker_X11_isWalker : GoodIn wsX11_walker (wsV RX11 196 RX11 yX11_isWalker wsX11_isWalker) := goodIn_app (goodIn_of _ (by decide +kernel)) ggX11_walker_X11_isWalker
theorem dX11_walker_0 : decode cX11_walker 0 = .ok (.aload_n 0, 1) := by decide +kernel
theorem dX11_walker_1 : decode cX11_walker 1 = .ok (.iload_n 1, 1) := by decide +kernel
theorem dX11_walker_2 : decode cX11_walker 2 = .ok (.invokevirtual 196, 3) := by decide +kernel
theorem dX11_walker_5 : decode cX11_walker 5 = .ok (.ifCond .eq 12, 3) := by decide +kernel
theorem dX11_walker_8 : decode cX11_walker 8 = .ok (.iload_n 2, 1) := by decide +kernel
theorem dX11_walker_9 : decode cX11_walker 9 = .ok (.ifCond .lt 8, 3) := by decide +kernel
theorem dX11_walker_12 : decode cX11_walker 12 = .ok (.iload_n 2, 1) := by decide +kernel
theorem dX11_walker_13 : decode cX11_walker 13 = .ok (.iconst 1, 1) := by decide +kernel
theorem dX11_walker_14 : decode cX11_walker 14 = .ok (.if_icmp .le 13, 3) := by decide +kernel
theorem dX11_walker_17 : decode cX11_walker 17 = .ok (.new 199, 3) := by decide +kernel
theorem dX11_walker_20 : decode cX11_walker 20 = .ok (.dup, 1) := by decide +kernel
theorem dX11_walker_21 : decode cX11_walker 21 = .ok (.ldc 201, 2) := by decide +kernel
theorem dX11_walker_23 : decode cX11_walker 23 = .ok (.invokespecial 203, 3) := by decide +kernel
theorem dX11_walker_26 : decode cX11_walker 26 = .ok (.athrow, 1) := by decide +kernel
theorem dX11_walker_27 : decode cX11_walker 27 = .ok (.iload_n 2, 1) := by decide +kernel
theorem dX11_walker_28 : decode cX11_walker 28 = .ok (.ifCond .ne 15, 3) := by decide +kernel
theorem dX11_walker_31 : decode cX11_walker 31 = .ok (.aload_n 0, 1) := by decide +kernel
theorem dX11_walker_32 : decode cX11_walker 32 = .ok (.getfield 75, 3) := by decide +kernel
theorem dX11_walker_35 : decode cX11_walker 35 = .ok (.getfield 206, 3) := by decide +kernel
theorem dX11_walker_38 : decode cX11_walker 38 = .ok (.iload_n 1, 1) := by decide +kernel
theorem dX11_walker_39 : decode cX11_walker 39 = .ok (.iaload, 1) := by decide +kernel
theorem dX11_walker_40 : decode cX11_walker 40 = .ok (.goto 12, 3) := by decide +kernel
theorem dX11_walker_43 : decode cX11_walker 43 = .ok (.aload_n 0, 1) := by decide +kernel
theorem dX11_walker_44 : decode cX11_walker 44 = .ok (.getfield 75, 3) := by decide +kernel
theorem dX11_walker_47 : decode cX11_walker 47 = .ok (.getfield 209, 3) := by decide +kernel
theorem dX11_walker_50 : decode cX11_walker 50 = .ok (.iload_n 1, 1) := by decide +kernel
theorem dX11_walker_51 : decode cX11_walker 51 = .ok (.iaload, 1) := by decide +kernel
theorem dX11_walker_52 : decode cX11_walker 52 = .ok (.ireturn, 1) := by decide +kernel
theorem dX11_law_0 : decode cX11_law 0 = .ok (.iload_n 1, 1) := by decide +kernel
theorem dX11_law_1 : decode cX11_law 1 = .ok (.iconst (-1), 1) := by decide +kernel
theorem dX11_law_2 : decode cX11_law 2 = .ok (.if_icmp .eq 20, 3) := by decide +kernel
theorem dX11_law_5 : decode cX11_law 5 = .ok (.iload_n 1, 1) := by decide +kernel
theorem dX11_law_6 : decode cX11_law 6 = .ok (.ifCond .lt 14, 3) := by decide +kernel
theorem dX11_law_9 : decode cX11_law 9 = .ok (.iload_n 1, 1) := by decide +kernel
theorem dX11_law_10 : decode cX11_law 10 = .ok (.aload_n 0, 1) := by decide +kernel
theorem dX11_law_11 : decode cX11_law 11 = .ok (.getfield 38, 3) := by decide +kernel
theorem dX11_law_14 : decode cX11_law 14 = .ok (.getfield 212, 3) := by decide +kernel
theorem dX11_law_17 : decode cX11_law 17 = .ok (.if_icmp .lt 5, 3) := by decide +kernel
theorem dX11_law_20 : decode cX11_law 20 = .ok (.iconst 0, 1) := by decide +kernel
theorem dX11_law_21 : decode cX11_law 21 = .ok (.ireturn, 1) := by decide +kernel
theorem dX11_law_22 : decode cX11_law 22 = .ok (.aload_n 0, 1) := by decide +kernel
theorem dX11_law_23 : decode cX11_law 23 = .ok (.getfield 38, 3) := by decide +kernel
theorem dX11_law_26 : decode cX11_law 26 = .ok (.iload_n 1, 1) := by decide +kernel
theorem dX11_law_27 : decode cX11_law 27 = .ok (.putfield 213, 3) := by decide +kernel
theorem dX11_law_30 : decode cX11_law 30 = .ok (.iconst 1, 1) := by decide +kernel
theorem dX11_law_31 : decode cX11_law 31 = .ok (.ireturn, 1) := by decide +kernel
theorem dX11_council_0 : decode cX11_council 0 = .ok (.iload_n 1, 1) := by decide +kernel
theorem dX11_council_1 : decode cX11_council 1 = .ok (.ifCond .lt 17, 3) := by decide +kernel
theorem dX11_council_4 : decode cX11_council 4 = .ok (.iload_n 1, 1) := by decide +kernel
theorem dX11_council_5 : decode cX11_council 5 = .ok (.bipush 9, 2) := by decide +kernel
theorem dX11_council_7 : decode cX11_council 7 = .ok (.if_icmp .gt 11, 3) := by decide +kernel
theorem dX11_council_10 : decode cX11_council 10 = .ok (.iload_n 1, 1) := by decide +kernel
theorem dX11_council_11 : decode cX11_council 11 = .ok (.aload_n 0, 1) := by decide +kernel
theorem dX11_council_12 : decode cX11_council 12 = .ok (.getfield 102, 3) := by decide +kernel
theorem dX11_council_15 : decode cX11_council 15 = .ok (.if_icmp .ne 5, 3) := by decide +kernel
theorem dX11_council_18 : decode cX11_council 18 = .ok (.iconst 0, 1) := by decide +kernel
theorem dX11_council_19 : decode cX11_council 19 = .ok (.ireturn, 1) := by decide +kernel
theorem dX11_council_20 : decode cX11_council 20 = .ok (.aload_n 0, 1) := by decide +kernel
theorem dX11_council_21 : decode cX11_council 21 = .ok (.iload_n 1, 1) := by decide +kernel
theorem dX11_council_22 : decode cX11_council 22 = .ok (.putfield 102, 3) := by decide +kernel
theorem dX11_council_25 : decode cX11_council 25 = .ok (.iconst 1, 1) := by decide +kernel
theorem dX11_council_26 : decode cX11_council 26 = .ok (.ireturn, 1) := by decide +kernel
set_option maxRecDepth 20000 in
theorem ggX11_count_X11_logLength : GoodIn wsX11_count wsX11_logLength := goodIn_r _ [14, 5, 15, 16, 17, 18, 19, 20, 21, 22, 23, 24, 25, 26, 27, 28, 29, 30, 31, 32, 33, 34, 35, 65, 66, 67, 68, 69, 70, 71] (by decide +kernel) (by decide +kernel)
set_option maxRecDepth 20000 in
theorem gX11_count_X11_logLength : GoodIn wsX11_count (wsV RX11 229 RX11 yX11_logLength wsX11_logLength) := goodIn_app (goodIn_of _ (by decide +kernel)) ggX11_count_X11_logLength
theorem dX11_count_0 : decode cX11_count 0 = .ok (.iload_n 1, 1) := by decide +kernel
theorem dX11_count_1 : decode cX11_count 1 = .ok (.tableswitch 165 0 12 #[67, 75, 83, 91, 99, 107, 115, 123, 131, 139, 144, 152, 157], 67) := by decide +kernel
theorem dX11_count_68 : decode cX11_count 68 = .ok (.aload_n 0, 1) := by decide +kernel
theorem dX11_count_69 : decode cX11_count 69 = .ok (.getfield 19, 3) := by decide +kernel
theorem dX11_count_72 : decode cX11_count 72 = .ok (.getfield 216, 3) := by decide +kernel
theorem dX11_count_75 : decode cX11_count 75 = .ok (.ireturn, 1) := by decide +kernel
theorem dX11_count_76 : decode cX11_count 76 = .ok (.aload_n 0, 1) := by decide +kernel
theorem dX11_count_77 : decode cX11_count 77 = .ok (.getfield 19, 3) := by decide +kernel
theorem dX11_count_80 : decode cX11_count 80 = .ok (.getfield 156, 3) := by decide +kernel
theorem dX11_count_83 : decode cX11_count 83 = .ok (.ireturn, 1) := by decide +kernel
theorem dX11_count_84 : decode cX11_count 84 = .ok (.aload_n 0, 1) := by decide +kernel
theorem dX11_count_85 : decode cX11_count 85 = .ok (.getfield 19, 3) := by decide +kernel
theorem dX11_count_88 : decode cX11_count 88 = .ok (.getfield 219, 3) := by decide +kernel
theorem dX11_count_91 : decode cX11_count 91 = .ok (.ireturn, 1) := by decide +kernel
theorem dX11_count_92 : decode cX11_count 92 = .ok (.aload_n 0, 1) := by decide +kernel
theorem dX11_count_93 : decode cX11_count 93 = .ok (.getfield 38, 3) := by decide +kernel
theorem dX11_count_96 : decode cX11_count 96 = .ok (.getfield 212, 3) := by decide +kernel
theorem dX11_count_99 : decode cX11_count 99 = .ok (.ireturn, 1) := by decide +kernel
theorem dX11_count_100 : decode cX11_count 100 = .ok (.aload_n 0, 1) := by decide +kernel
theorem dX11_count_101 : decode cX11_count 101 = .ok (.getfield 45, 3) := by decide +kernel
theorem dX11_count_104 : decode cX11_count 104 = .ok (.getfield 222, 3) := by decide +kernel
theorem dX11_count_107 : decode cX11_count 107 = .ok (.ireturn, 1) := by decide +kernel
theorem dX11_count_108 : decode cX11_count 108 = .ok (.aload_n 0, 1) := by decide +kernel
theorem dX11_count_109 : decode cX11_count 109 = .ok (.getfield 10, 3) := by decide +kernel
theorem dX11_count_112 : decode cX11_count 112 = .ok (.getfield 110, 3) := by decide +kernel
theorem dX11_count_115 : decode cX11_count 115 = .ok (.ireturn, 1) := by decide +kernel
theorem dX11_count_116 : decode cX11_count 116 = .ok (.aload_n 0, 1) := by decide +kernel
theorem dX11_count_117 : decode cX11_count 117 = .ok (.getfield 38, 3) := by decide +kernel
theorem dX11_count_120 : decode cX11_count 120 = .ok (.getfield 213, 3) := by decide +kernel
theorem dX11_count_123 : decode cX11_count 123 = .ok (.ireturn, 1) := by decide +kernel
theorem dX11_count_124 : decode cX11_count 124 = .ok (.aload_n 0, 1) := by decide +kernel
theorem dX11_count_125 : decode cX11_count 125 = .ok (.getfield 75, 3) := by decide +kernel
theorem dX11_count_128 : decode cX11_count 128 = .ok (.getfield 223, 3) := by decide +kernel
theorem dX11_count_131 : decode cX11_count 131 = .ok (.ireturn, 1) := by decide +kernel
theorem dX11_count_132 : decode cX11_count 132 = .ok (.aload_n 0, 1) := by decide +kernel
theorem dX11_count_133 : decode cX11_count 133 = .ok (.getfield 75, 3) := by decide +kernel
theorem dX11_count_136 : decode cX11_count 136 = .ok (.getfield 226, 3) := by decide +kernel
theorem dX11_count_139 : decode cX11_count 139 = .ok (.ireturn, 1) := by decide +kernel
theorem dX11_count_140 : decode cX11_count 140 = .ok (.aload_n 0, 1) := by decide +kernel
theorem dX11_count_141 : decode cX11_count 141 = .ok (.getfield 102, 3) := by decide +kernel
theorem dX11_count_144 : decode cX11_count 144 = .ok (.ireturn, 1) := by decide +kernel
theorem dX11_count_145 : decode cX11_count 145 = .ok (.aload_n 0, 1) := by decide +kernel
theorem dX11_count_146 : decode cX11_count 146 = .ok (.getfield 68, 3) := by decide +kernel
theorem dX11_count_149 : decode cX11_count 149 = .ok (.getfield 146, 3) := by decide +kernel
theorem dX11_count_152 : decode cX11_count 152 = .ok (.ireturn, 1) := by decide +kernel
theorem dX11_count_153 : decode cX11_count 153 = .ok (.aload_n 0, 1) := by decide +kernel
theorem dX11_count_154 : decode cX11_count 154 = .ok (.invokevirtual 229, 3) := by decide +kernel
theorem dX11_count_157 : decode cX11_count 157 = .ok (.ireturn, 1) := by decide +kernel
theorem dX11_count_158 : decode cX11_count 158 = .ok (.aload_n 0, 1) := by decide +kernel
theorem dX11_count_159 : decode cX11_count 159 = .ok (.getfield 85, 3) := by decide +kernel
theorem dX11_count_162 : decode cX11_count 162 = .ok (.getfield 232, 3) := by decide +kernel
theorem dX11_count_165 : decode cX11_count 165 = .ok (.ireturn, 1) := by decide +kernel
theorem dX11_count_166 : decode cX11_count 166 = .ok (.ldc 235, 2) := by decide +kernel
theorem dX11_count_168 : decode cX11_count 168 = .ok (.ireturn, 1) := by decide +kernel
theorem dX11_hasTown_0 : decode cX11_hasTown 0 = .ok (.aload_n 0, 1) := by decide +kernel
theorem dX11_hasTown_1 : decode cX11_hasTown 1 = .ok (.getfield 19, 3) := by decide +kernel
theorem dX11_hasTown_4 : decode cX11_hasTown 4 = .ok (.getfield 216, 3) := by decide +kernel
theorem dX11_hasTown_7 : decode cX11_hasTown 7 = .ok (.ifCond .le 7, 3) := by decide +kernel
theorem dX11_hasTown_10 : decode cX11_hasTown 10 = .ok (.iconst 1, 1) := by decide +kernel
theorem dX11_hasTown_11 : decode cX11_hasTown 11 = .ok (.goto 4, 3) := by decide +kernel
theorem dX11_hasTown_14 : decode cX11_hasTown 14 = .ok (.iconst 0, 1) := by decide +kernel
theorem dX11_hasTown_15 : decode cX11_hasTown 15 = .ok (.ireturn, 1) := by decide +kernel
theorem dX11_isCorner_0 : decode cX11_isCorner 0 = .ok (.iload_n 1, 1) := by decide +kernel
theorem dX11_isCorner_1 : decode cX11_isCorner 1 = .ok (.ifCond .lt 18, 3) := by decide +kernel
theorem dX11_isCorner_4 : decode cX11_isCorner 4 = .ok (.iload_n 1, 1) := by decide +kernel
theorem dX11_isCorner_5 : decode cX11_isCorner 5 = .ok (.aload_n 0, 1) := by decide +kernel
theorem dX11_isCorner_6 : decode cX11_isCorner 6 = .ok (.getfield 19, 3) := by decide +kernel
theorem dX11_isCorner_9 : decode cX11_isCorner 9 = .ok (.getfield 216, 3) := by decide +kernel
theorem dX11_isCorner_12 : decode cX11_isCorner 12 = .ok (.if_icmp .ge 7, 3) := by decide +kernel
theorem dX11_isCorner_15 : decode cX11_isCorner 15 = .ok (.iconst 1, 1) := by decide +kernel
theorem dX11_isCorner_16 : decode cX11_isCorner 16 = .ok (.goto 4, 3) := by decide +kernel
theorem dX11_isCorner_19 : decode cX11_isCorner 19 = .ok (.iconst 0, 1) := by decide +kernel
theorem dX11_isCorner_20 : decode cX11_isCorner 20 = .ok (.ireturn, 1) := by decide +kernel
theorem dX11_isStreet_0 : decode cX11_isStreet 0 = .ok (.iload_n 1, 1) := by decide +kernel
theorem dX11_isStreet_1 : decode cX11_isStreet 1 = .ok (.ifCond .lt 18, 3) := by decide +kernel
theorem dX11_isStreet_4 : decode cX11_isStreet 4 = .ok (.iload_n 1, 1) := by decide +kernel
theorem dX11_isStreet_5 : decode cX11_isStreet 5 = .ok (.aload_n 0, 1) := by decide +kernel
theorem dX11_isStreet_6 : decode cX11_isStreet 6 = .ok (.getfield 19, 3) := by decide +kernel
theorem dX11_isStreet_9 : decode cX11_isStreet 9 = .ok (.getfield 156, 3) := by decide +kernel
theorem dX11_isStreet_12 : decode cX11_isStreet 12 = .ok (.if_icmp .ge 7, 3) := by decide +kernel
theorem dX11_isStreet_15 : decode cX11_isStreet 15 = .ok (.iconst 1, 1) := by decide +kernel
theorem dX11_isStreet_16 : decode cX11_isStreet 16 = .ok (.goto 4, 3) := by decide +kernel
theorem dX11_isStreet_19 : decode cX11_isStreet 19 = .ok (.iconst 0, 1) := by decide +kernel
theorem dX11_isStreet_20 : decode cX11_isStreet 20 = .ok (.ireturn, 1) := by decide +kernel
theorem dX11_isWalker_0 : decode cX11_isWalker 0 = .ok (.iload_n 1, 1) := by decide +kernel
theorem dX11_isWalker_1 : decode cX11_isWalker 1 = .ok (.ifCond .lt 18, 3) := by decide +kernel
theorem dX11_isWalker_4 : decode cX11_isWalker 4 = .ok (.iload_n 1, 1) := by decide +kernel
theorem dX11_isWalker_5 : decode cX11_isWalker 5 = .ok (.aload_n 0, 1) := by decide +kernel
theorem dX11_isWalker_6 : decode cX11_isWalker 6 = .ok (.getfield 19, 3) := by decide +kernel
theorem dX11_isWalker_9 : decode cX11_isWalker 9 = .ok (.getfield 219, 3) := by decide +kernel
theorem dX11_isWalker_12 : decode cX11_isWalker 12 = .ok (.if_icmp .ge 7, 3) := by decide +kernel
theorem dX11_isWalker_15 : decode cX11_isWalker 15 = .ok (.iconst 1, 1) := by decide +kernel
theorem dX11_isWalker_16 : decode cX11_isWalker 16 = .ok (.goto 4, 3) := by decide +kernel
theorem dX11_isWalker_19 : decode cX11_isWalker 19 = .ok (.iconst 0, 1) := by decide +kernel
theorem dX11_isWalker_20 : decode cX11_isWalker 20 = .ok (.ireturn, 1) := by decide +kernel
set_option maxRecDepth 20000 in
theorem ggX11_areTwoWalkers_X11_isWalker : GoodIn wsX11_areTwoWalkers wsX11_isWalker := goodIn_r _ [5, 6, 7, 8, 9, 10, 11, 12, 13, 14, 15, 16, 17, 18, 19, 20, 21, 22, 23, 24, 25, 26, 27, 28, 29, 30, 31] (by decide +kernel) (by decide +kernel)
set_option maxRecDepth 20000 in
theorem gX11_areTwoWalkers_X11_isWalker : GoodIn wsX11_areTwoWalkers (wsV RX11 196 RX11 yX11_isWalker wsX11_isWalker) := goodIn_app (goodIn_of _ (by decide +kernel)) ggX11_areTwoWalkers_X11_isWalker
theorem dX11_areTwoWalkers_0 : decode cX11_areTwoWalkers 0 = .ok (.aload_n 0, 1) := by decide +kernel
theorem dX11_areTwoWalkers_1 : decode cX11_areTwoWalkers 1 = .ok (.iload_n 1, 1) := by decide +kernel
theorem dX11_areTwoWalkers_2 : decode cX11_areTwoWalkers 2 = .ok (.invokevirtual 196, 3) := by decide +kernel
theorem dX11_areTwoWalkers_5 : decode cX11_areTwoWalkers 5 = .ok (.ifCond .eq 20, 3) := by decide +kernel
theorem dX11_areTwoWalkers_8 : decode cX11_areTwoWalkers 8 = .ok (.aload_n 0, 1) := by decide +kernel
theorem dX11_areTwoWalkers_9 : decode cX11_areTwoWalkers 9 = .ok (.iload_n 2, 1) := by decide +kernel
theorem dX11_areTwoWalkers_10 : decode cX11_areTwoWalkers 10 = .ok (.invokevirtual 196, 3) := by decide +kernel
theorem dX11_areTwoWalkers_13 : decode cX11_areTwoWalkers 13 = .ok (.ifCond .eq 12, 3) := by decide +kernel
theorem dX11_areTwoWalkers_16 : decode cX11_areTwoWalkers 16 = .ok (.iload_n 1, 1) := by decide +kernel
theorem dX11_areTwoWalkers_17 : decode cX11_areTwoWalkers 17 = .ok (.iload_n 2, 1) := by decide +kernel
theorem dX11_areTwoWalkers_18 : decode cX11_areTwoWalkers 18 = .ok (.if_icmp .eq 7, 3) := by decide +kernel
theorem dX11_areTwoWalkers_21 : decode cX11_areTwoWalkers 21 = .ok (.iconst 1, 1) := by decide +kernel
theorem dX11_areTwoWalkers_22 : decode cX11_areTwoWalkers 22 = .ok (.goto 4, 3) := by decide +kernel
theorem dX11_areTwoWalkers_25 : decode cX11_areTwoWalkers 25 = .ok (.iconst 0, 1) := by decide +kernel
theorem dX11_areTwoWalkers_26 : decode cX11_areTwoWalkers 26 = .ok (.ireturn, 1) := by decide +kernel
set_option maxRecDepth 20000 in
theorem ggX11_day_X11_hasTown : GoodIn wsX11_day wsX11_hasTown := goodIn_r _ [8, 9, 174, 175, 176, 177, 178, 179, 180, 181, 182, 183, 184, 185, 186, 187, 188, 189, 190, 205, 206, 207, 208, 209, 210, 211, 212] (by decide +kernel) (by decide +kernel)
set_option maxRecDepth 20000 in
theorem gX11_day_X11_hasTown : GoodIn wsX11_day (wsV RX11 239 RX11 yX11_hasTown wsX11_hasTown) := goodIn_app (goodIn_of _ (by decide +kernel)) ggX11_day_X11_hasTown
set_option maxRecDepth 20000 in
theorem ggX11_day_X0_keep : GoodIn wsX11_day wsX0_keep := goodIn_r _ [13, 14, 15, 16, 17, 18, 19, 20, 21, 22, 23, 24, 25, 26, 27, 28, 29, 30, 31, 32, 33, 34, 35, 213, 214, 215, 191, 192, 193, 194, 195, 196, 197] (by decide +kernel) (by decide +kernel)
set_option maxRecDepth 20000 in
theorem gX11_day_X0_keep_n243 : GoodIn wsX11_day (wsX0_keep) := ggX11_day_X0_keep
set_option maxRecDepth 20000 in
theorem ggX11_day_X11_liveDay : GoodIn wsX11_day wsX11_liveDay := goodIn_r _ [39, 3, 1, 40, 41, 42, 43, 44, 45, 46, 47, 48, 49, 50, 51, 52, 53, 54, 55, 56, 57, 58, 59, 60, 61, 62, 63, 64, 65, 66, 67, 68, 69, 70, 71, 72, 73, 18, 19, 20, 74, 75, 76, 77, 78, 79, 80, 81, 82, 83, 84, 85, 86, 87, 88, 89, 90, 91, 92, 93, 94, 95, 96, 97, 98, 99, 100, 101, 102, 103, 104, 105, 106, 107, 108, 109, 110, 111, 112, 113, 114, 115, 116, 117, 118, 119, 120, 121, 122, 123, 124, 125, 126, 127, 128, 129, 130, 131, 132, 133, 134, 135, 136, 137, 138, 139, 140, 141, 142, 143, 144, 145, 146, 147, 148, 149, 150, 151, 152, 153, 154, 155, 156, 157, 158, 159, 160, 161, 162, 163, 164, 165, 166, 167, 168, 169, 170, 171, 172, 173, 174, 175, 176, 177, 178, 179, 180, 181, 182, 183, 184, 185, 186, 187, 188, 189, 190, 191, 192, 193, 194, 195, 196, 197, 198, 199, 200, 201, 202, 203, 204, 205, 206, 207, 208, 209, 210, 211, 212, 216, 217, 218, 219, 220, 221, 222, 223, 224, 225, 226, 227, 228, 229, 230, 231, 232, 233, 234] (by decide +kernel) (by decide +kernel)
set_option maxRecDepth 20000 in
theorem gX11_day_X11_liveDay : GoodIn wsX11_day (wsV RX11 247 RX11 yX11_liveDay wsX11_liveDay) := goodIn_app (goodIn_of _ (by decide +kernel)) ggX11_day_X11_liveDay
theorem dX11_day_0 : decode cX11_day 0 = .ok (.aload_n 0, 1) := by decide +kernel
theorem dX11_day_1 : decode cX11_day 1 = .ok (.invokevirtual 239, 3) := by decide +kernel
theorem dX11_day_4 : decode cX11_day 4 = .ok (.ifCond .eq 16, 3) := by decide +kernel
theorem dX11_day_7 : decode cX11_day 7 = .ok (.aload_n 0, 1) := by decide +kernel
theorem dX11_day_8 : decode cX11_day 8 = .ok (.getfield 75, 3) := by decide +kernel
theorem dX11_day_11 : decode cX11_day 11 = .ok (.getfield 223, 3) := by decide +kernel
theorem dX11_day_14 : decode cX11_day 14 = .ok (.sipush 999, 3) := by decide +kernel
theorem dX11_day_17 : decode cX11_day 17 = .ok (.if_icmp .lt 5, 3) := by decide +kernel
theorem dX11_day_20 : decode cX11_day 20 = .ok (.iconst (-1), 1) := by decide +kernel
theorem dX11_day_21 : decode cX11_day 21 = .ok (.ireturn, 1) := by decide +kernel
theorem dX11_day_22 : decode cX11_day 22 = .ok (.aload_n 0, 1) := by decide +kernel
theorem dX11_day_23 : decode cX11_day 23 = .ok (.getfield 85, 3) := by decide +kernel
theorem dX11_day_26 : decode cX11_day 26 = .ok (.aload_n 0, 1) := by decide +kernel
theorem dX11_day_27 : decode cX11_day 27 = .ok (.getfield 75, 3) := by decide +kernel
theorem dX11_day_30 : decode cX11_day 30 = .ok (.invokevirtual 243, 3) := by decide +kernel
theorem dX11_day_33 : decode cX11_day 33 = .ok (.aload_n 0, 1) := by decide +kernel
theorem dX11_day_34 : decode cX11_day 34 = .ok (.invokevirtual 247, 3) := by decide +kernel
theorem dX11_day_37 : decode cX11_day 37 = .ok (.aload_n 0, 1) := by decide +kernel
theorem dX11_day_38 : decode cX11_day 38 = .ok (.getfield 61, 3) := by decide +kernel
theorem dX11_day_41 : decode cX11_day 41 = .ok (.getfield 250, 3) := by decide +kernel
theorem dX11_day_44 : decode cX11_day 44 = .ok (.ireturn, 1) := by decide +kernel
set_option maxRecDepth 20000 in
theorem ggX11_wall_X11_isStreet : GoodIn wsX11_wall wsX11_isStreet := goodIn_r _ [7, 8, 35, 36, 37, 38, 39, 40, 41, 42, 43, 44, 45, 46, 47, 48, 49, 50, 51, 59, 60, 61, 62, 63, 64, 65, 66] (by decide +kernel) (by decide +kernel)
set_option maxRecDepth 20000 in
theorem gX11_wall_X11_isStreet : GoodIn wsX11_wall (wsV RX11 181 RX11 yX11_isStreet wsX11_isStreet) := goodIn_app (goodIn_of _ (by decide +kernel)) ggX11_wall_X11_isStreet
set_option maxRecDepth 20000 in
theorem ggX11_wall_X0_keep : GoodIn wsX11_wall wsX0_keep := goodIn_r _ [12, 13, 14, 15, 16, 17, 18, 19, 20, 21, 22, 23, 24, 25, 26, 27, 28, 29, 30, 31, 32, 33, 34, 67, 68, 69, 52, 53, 54, 55, 56, 57, 58] (by decide +kernel) (by decide +kernel)
set_option maxRecDepth 20000 in
theorem gX11_wall_X0_keep_n243 : GoodIn wsX11_wall (wsX0_keep) := ggX11_wall_X0_keep
theorem dX11_wall_0 : decode cX11_wall 0 = .ok (.aload_n 0, 1) := by decide +kernel
theorem dX11_wall_1 : decode cX11_wall 1 = .ok (.iload_n 1, 1) := by decide +kernel
theorem dX11_wall_2 : decode cX11_wall 2 = .ok (.invokevirtual 181, 3) := by decide +kernel
theorem dX11_wall_5 : decode cX11_wall 5 = .ok (.ifCond .eq 14, 3) := by decide +kernel
theorem dX11_wall_8 : decode cX11_wall 8 = .ok (.aload_n 0, 1) := by decide +kernel
theorem dX11_wall_9 : decode cX11_wall 9 = .ok (.getfield 75, 3) := by decide +kernel
theorem dX11_wall_12 : decode cX11_wall 12 = .ok (.getfield 226, 3) := by decide +kernel
theorem dX11_wall_15 : decode cX11_wall 15 = .ok (.iconst 3, 1) := by decide +kernel
theorem dX11_wall_16 : decode cX11_wall 16 = .ok (.if_icmp .ge 5, 3) := by decide +kernel
theorem dX11_wall_19 : decode cX11_wall 19 = .ok (.iconst (-1), 1) := by decide +kernel
theorem dX11_wall_20 : decode cX11_wall 20 = .ok (.ireturn, 1) := by decide +kernel
theorem dX11_wall_21 : decode cX11_wall 21 = .ok (.aload_n 0, 1) := by decide +kernel
theorem dX11_wall_22 : decode cX11_wall 22 = .ok (.getfield 85, 3) := by decide +kernel
theorem dX11_wall_25 : decode cX11_wall 25 = .ok (.aload_n 0, 1) := by decide +kernel
theorem dX11_wall_26 : decode cX11_wall 26 = .ok (.getfield 75, 3) := by decide +kernel
theorem dX11_wall_29 : decode cX11_wall 29 = .ok (.invokevirtual 243, 3) := by decide +kernel
theorem dX11_wall_32 : decode cX11_wall 32 = .ok (.aload_n 0, 1) := by decide +kernel
theorem dX11_wall_33 : decode cX11_wall 33 = .ok (.getfield 75, 3) := by decide +kernel
theorem dX11_wall_36 : decode cX11_wall 36 = .ok (.dup, 1) := by decide +kernel
theorem dX11_wall_37 : decode cX11_wall 37 = .ok (.getfield 226, 3) := by decide +kernel
theorem dX11_wall_40 : decode cX11_wall 40 = .ok (.iconst 3, 1) := by decide +kernel
theorem dX11_wall_41 : decode cX11_wall 41 = .ok (.isub, 1) := by decide +kernel
theorem dX11_wall_42 : decode cX11_wall 42 = .ok (.putfield 226, 3) := by decide +kernel
theorem dX11_wall_45 : decode cX11_wall 45 = .ok (.aload_n 0, 1) := by decide +kernel
theorem dX11_wall_46 : decode cX11_wall 46 = .ok (.getfield 75, 3) := by decide +kernel
theorem dX11_wall_49 : decode cX11_wall 49 = .ok (.dup, 1) := by decide +kernel
theorem dX11_wall_50 : decode cX11_wall 50 = .ok (.getfield 193, 3) := by decide +kernel
theorem dX11_wall_53 : decode cX11_wall 53 = .ok (.iconst 1, 1) := by decide +kernel
theorem dX11_wall_54 : decode cX11_wall 54 = .ok (.iload_n 1, 1) := by decide +kernel
theorem dX11_wall_55 : decode cX11_wall 55 = .ok (.ishl, 1) := by decide +kernel
theorem dX11_wall_56 : decode cX11_wall 56 = .ok (.ixor, 1) := by decide +kernel
theorem dX11_wall_57 : decode cX11_wall 57 = .ok (.putfield 193, 3) := by decide +kernel
theorem dX11_wall_60 : decode cX11_wall 60 = .ok (.aload_n 0, 1) := by decide +kernel
theorem dX11_wall_61 : decode cX11_wall 61 = .ok (.getfield 75, 3) := by decide +kernel
theorem dX11_wall_64 : decode cX11_wall 64 = .ok (.getfield 193, 3) := by decide +kernel
theorem dX11_wall_67 : decode cX11_wall 67 = .ok (.iload_n 1, 1) := by decide +kernel
theorem dX11_wall_68 : decode cX11_wall 68 = .ok (.ishr, 1) := by decide +kernel
theorem dX11_wall_69 : decode cX11_wall 69 = .ok (.iconst 1, 1) := by decide +kernel
theorem dX11_wall_70 : decode cX11_wall 70 = .ok (.iand, 1) := by decide +kernel
theorem dX11_wall_71 : decode cX11_wall 71 = .ok (.ireturn, 1) := by decide +kernel
set_option maxRecDepth 20000 in
theorem ggX11_lamp_X11_isCorner : GoodIn wsX11_lamp wsX11_isCorner := goodIn_r _ [7, 8, 35, 36, 37, 38, 39, 40, 41, 42, 43, 44, 45, 46, 47, 48, 49, 50, 51, 59, 60, 61, 62, 63, 64, 65, 66] (by decide +kernel) (by decide +kernel)
set_option maxRecDepth 20000 in
theorem gX11_lamp_X11_isCorner : GoodIn wsX11_lamp (wsV RX11 159 RX11 yX11_isCorner wsX11_isCorner) := goodIn_app (goodIn_of _ (by decide +kernel)) ggX11_lamp_X11_isCorner
set_option maxRecDepth 20000 in
theorem ggX11_lamp_X0_keep : GoodIn wsX11_lamp wsX0_keep := goodIn_r _ [12, 13, 14, 15, 16, 17, 18, 19, 20, 21, 22, 23, 24, 25, 26, 27, 28, 29, 30, 31, 32, 33, 34, 67, 68, 69, 52, 53, 54, 55, 56, 57, 58] (by decide +kernel) (by decide +kernel)
set_option maxRecDepth 20000 in
theorem gX11_lamp_X0_keep_n243 : GoodIn wsX11_lamp (wsX0_keep) := ggX11_lamp_X0_keep
theorem dX11_lamp_0 : decode cX11_lamp 0 = .ok (.aload_n 0, 1) := by decide +kernel
theorem dX11_lamp_1 : decode cX11_lamp 1 = .ok (.iload_n 1, 1) := by decide +kernel
theorem dX11_lamp_2 : decode cX11_lamp 2 = .ok (.invokevirtual 159, 3) := by decide +kernel
theorem dX11_lamp_5 : decode cX11_lamp 5 = .ok (.ifCond .eq 27, 3) := by decide +kernel
theorem dX11_lamp_8 : decode cX11_lamp 8 = .ok (.aload_n 0, 1) := by decide +kernel
theorem dX11_lamp_9 : decode cX11_lamp 9 = .ok (.getfield 75, 3) := by decide +kernel
theorem dX11_lamp_12 : decode cX11_lamp 12 = .ok (.getfield 226, 3) := by decide +kernel
theorem dX11_lamp_15 : decode cX11_lamp 15 = .ok (.iconst 2, 1) := by decide +kernel
theorem dX11_lamp_16 : decode cX11_lamp 16 = .ok (.if_icmp .lt 16, 3) := by decide +kernel
theorem dX11_lamp_19 : decode cX11_lamp 19 = .ok (.aload_n 0, 1) := by decide +kernel
theorem dX11_lamp_20 : decode cX11_lamp 20 = .ok (.getfield 75, 3) := by decide +kernel
theorem dX11_lamp_23 : decode cX11_lamp 23 = .ok (.getfield 167, 3) := by decide +kernel
theorem dX11_lamp_26 : decode cX11_lamp 26 = .ok (.iload_n 1, 1) := by decide +kernel
theorem dX11_lamp_27 : decode cX11_lamp 27 = .ok (.iaload, 1) := by decide +kernel
theorem dX11_lamp_28 : decode cX11_lamp 28 = .ok (.iconst 3, 1) := by decide +kernel
theorem dX11_lamp_29 : decode cX11_lamp 29 = .ok (.if_icmp .lt 5, 3) := by decide +kernel
theorem dX11_lamp_32 : decode cX11_lamp 32 = .ok (.iconst (-1), 1) := by decide +kernel
theorem dX11_lamp_33 : decode cX11_lamp 33 = .ok (.ireturn, 1) := by decide +kernel
theorem dX11_lamp_34 : decode cX11_lamp 34 = .ok (.aload_n 0, 1) := by decide +kernel
theorem dX11_lamp_35 : decode cX11_lamp 35 = .ok (.getfield 85, 3) := by decide +kernel
theorem dX11_lamp_38 : decode cX11_lamp 38 = .ok (.aload_n 0, 1) := by decide +kernel
theorem dX11_lamp_39 : decode cX11_lamp 39 = .ok (.getfield 75, 3) := by decide +kernel
theorem dX11_lamp_42 : decode cX11_lamp 42 = .ok (.invokevirtual 243, 3) := by decide +kernel
theorem dX11_lamp_45 : decode cX11_lamp 45 = .ok (.aload_n 0, 1) := by decide +kernel
theorem dX11_lamp_46 : decode cX11_lamp 46 = .ok (.getfield 75, 3) := by decide +kernel
theorem dX11_lamp_49 : decode cX11_lamp 49 = .ok (.dup, 1) := by decide +kernel
theorem dX11_lamp_50 : decode cX11_lamp 50 = .ok (.getfield 226, 3) := by decide +kernel
theorem dX11_lamp_53 : decode cX11_lamp 53 = .ok (.iconst 2, 1) := by decide +kernel
theorem dX11_lamp_54 : decode cX11_lamp 54 = .ok (.isub, 1) := by decide +kernel
theorem dX11_lamp_55 : decode cX11_lamp 55 = .ok (.putfield 226, 3) := by decide +kernel
theorem dX11_lamp_58 : decode cX11_lamp 58 = .ok (.aload_n 0, 1) := by decide +kernel
theorem dX11_lamp_59 : decode cX11_lamp 59 = .ok (.getfield 75, 3) := by decide +kernel
theorem dX11_lamp_62 : decode cX11_lamp 62 = .ok (.getfield 167, 3) := by decide +kernel
theorem dX11_lamp_65 : decode cX11_lamp 65 = .ok (.iload_n 1, 1) := by decide +kernel
theorem dX11_lamp_66 : decode cX11_lamp 66 = .ok (.dup2, 1) := by decide +kernel
theorem dX11_lamp_67 : decode cX11_lamp 67 = .ok (.iaload, 1) := by decide +kernel
theorem dX11_lamp_68 : decode cX11_lamp 68 = .ok (.iconst 1, 1) := by decide +kernel
theorem dX11_lamp_69 : decode cX11_lamp 69 = .ok (.iadd, 1) := by decide +kernel
theorem dX11_lamp_70 : decode cX11_lamp 70 = .ok (.iastore, 1) := by decide +kernel
theorem dX11_lamp_71 : decode cX11_lamp 71 = .ok (.aload_n 0, 1) := by decide +kernel
theorem dX11_lamp_72 : decode cX11_lamp 72 = .ok (.getfield 75, 3) := by decide +kernel
theorem dX11_lamp_75 : decode cX11_lamp 75 = .ok (.getfield 167, 3) := by decide +kernel
theorem dX11_lamp_78 : decode cX11_lamp 78 = .ok (.iload_n 1, 1) := by decide +kernel
theorem dX11_lamp_79 : decode cX11_lamp 79 = .ok (.iaload, 1) := by decide +kernel
theorem dX11_lamp_80 : decode cX11_lamp 80 = .ok (.ireturn, 1) := by decide +kernel
set_option maxRecDepth 20000 in
theorem ggX11_moves_X11_isWalker : GoodIn wsX11_moves wsX11_isWalker := goodIn_r _ [7, 8, 39, 40, 41, 42, 43, 44, 45, 46, 47, 48, 49, 50, 51, 52, 53, 54, 55, 63, 64, 65, 66, 67, 68, 69, 70] (by decide +kernel) (by decide +kernel)
set_option maxRecDepth 20000 in
theorem gX11_moves_X11_isWalker : GoodIn wsX11_moves (wsV RX11 196 RX11 yX11_isWalker wsX11_isWalker) := goodIn_app (goodIn_of _ (by decide +kernel)) ggX11_moves_X11_isWalker
set_option maxRecDepth 20000 in
theorem ggX11_moves_X11_isCorner : GoodIn wsX11_moves wsX11_isCorner := goodIn_r _ [12, 8, 39, 40, 41, 42, 43, 44, 45, 46, 47, 48, 49, 50, 51, 52, 53, 54, 55, 63, 64, 65, 66, 67, 68, 69, 70] (by decide +kernel) (by decide +kernel)
set_option maxRecDepth 20000 in
theorem gX11_moves_X11_isCorner : GoodIn wsX11_moves (wsV RX11 159 RX11 yX11_isCorner wsX11_isCorner) := goodIn_app (goodIn_of _ (by decide +kernel)) ggX11_moves_X11_isCorner
set_option maxRecDepth 20000 in
theorem ggX11_moves_X0_keep : GoodIn wsX11_moves wsX0_keep := goodIn_r _ [16, 17, 18, 19, 20, 21, 22, 23, 24, 25, 26, 27, 28, 29, 30, 31, 32, 33, 34, 35, 36, 37, 38, 71, 72, 73, 56, 57, 58, 59, 60, 61, 62] (by decide +kernel) (by decide +kernel)
set_option maxRecDepth 20000 in
theorem gX11_moves_X0_keep_n243 : GoodIn wsX11_moves (wsX0_keep) := ggX11_moves_X0_keep
theorem dX11_moves_0 : decode cX11_moves 0 = .ok (.aload_n 0, 1) := by decide +kernel
theorem dX11_moves_1 : decode cX11_moves 1 = .ok (.iload_n 1, 1) := by decide +kernel
theorem dX11_moves_2 : decode cX11_moves 2 = .ok (.invokevirtual 196, 3) := by decide +kernel
theorem dX11_moves_5 : decode cX11_moves 5 = .ok (.ifCond .eq 35, 3) := by decide +kernel
theorem dX11_moves_8 : decode cX11_moves 8 = .ok (.aload_n 0, 1) := by decide +kernel
theorem dX11_moves_9 : decode cX11_moves 9 = .ok (.iload_n 2, 1) := by decide +kernel
theorem dX11_moves_10 : decode cX11_moves 10 = .ok (.invokevirtual 159, 3) := by decide +kernel
theorem dX11_moves_13 : decode cX11_moves 13 = .ok (.ifCond .eq 27, 3) := by decide +kernel
theorem dX11_moves_16 : decode cX11_moves 16 = .ok (.aload_n 0, 1) := by decide +kernel
theorem dX11_moves_17 : decode cX11_moves 17 = .ok (.getfield 75, 3) := by decide +kernel
theorem dX11_moves_20 : decode cX11_moves 20 = .ok (.getfield 226, 3) := by decide +kernel
theorem dX11_moves_23 : decode cX11_moves 23 = .ok (.iconst 1, 1) := by decide +kernel
theorem dX11_moves_24 : decode cX11_moves 24 = .ok (.if_icmp .lt 16, 3) := by decide +kernel
theorem dX11_moves_27 : decode cX11_moves 27 = .ok (.aload_n 0, 1) := by decide +kernel
theorem dX11_moves_28 : decode cX11_moves 28 = .ok (.getfield 75, 3) := by decide +kernel
theorem dX11_moves_31 : decode cX11_moves 31 = .ok (.getfield 206, 3) := by decide +kernel
theorem dX11_moves_34 : decode cX11_moves 34 = .ok (.iload_n 1, 1) := by decide +kernel
theorem dX11_moves_35 : decode cX11_moves 35 = .ok (.iaload, 1) := by decide +kernel
theorem dX11_moves_36 : decode cX11_moves 36 = .ok (.iload_n 2, 1) := by decide +kernel
theorem dX11_moves_37 : decode cX11_moves 37 = .ok (.if_icmp .ne 5, 3) := by decide +kernel
theorem dX11_moves_40 : decode cX11_moves 40 = .ok (.iconst (-1), 1) := by decide +kernel
theorem dX11_moves_41 : decode cX11_moves 41 = .ok (.ireturn, 1) := by decide +kernel
theorem dX11_moves_42 : decode cX11_moves 42 = .ok (.aload_n 0, 1) := by decide +kernel
theorem dX11_moves_43 : decode cX11_moves 43 = .ok (.getfield 85, 3) := by decide +kernel
theorem dX11_moves_46 : decode cX11_moves 46 = .ok (.aload_n 0, 1) := by decide +kernel
theorem dX11_moves_47 : decode cX11_moves 47 = .ok (.getfield 75, 3) := by decide +kernel
theorem dX11_moves_50 : decode cX11_moves 50 = .ok (.invokevirtual 243, 3) := by decide +kernel
theorem dX11_moves_53 : decode cX11_moves 53 = .ok (.aload_n 0, 1) := by decide +kernel
theorem dX11_moves_54 : decode cX11_moves 54 = .ok (.getfield 75, 3) := by decide +kernel
theorem dX11_moves_57 : decode cX11_moves 57 = .ok (.dup, 1) := by decide +kernel
theorem dX11_moves_58 : decode cX11_moves 58 = .ok (.getfield 226, 3) := by decide +kernel
theorem dX11_moves_61 : decode cX11_moves 61 = .ok (.iconst 1, 1) := by decide +kernel
theorem dX11_moves_62 : decode cX11_moves 62 = .ok (.isub, 1) := by decide +kernel
theorem dX11_moves_63 : decode cX11_moves 63 = .ok (.putfield 226, 3) := by decide +kernel
theorem dX11_moves_66 : decode cX11_moves 66 = .ok (.aload_n 0, 1) := by decide +kernel
theorem dX11_moves_67 : decode cX11_moves 67 = .ok (.getfield 75, 3) := by decide +kernel
theorem dX11_moves_70 : decode cX11_moves 70 = .ok (.getfield 206, 3) := by decide +kernel
theorem dX11_moves_73 : decode cX11_moves 73 = .ok (.iload_n 1, 1) := by decide +kernel
theorem dX11_moves_74 : decode cX11_moves 74 = .ok (.iaload, 1) := by decide +kernel
theorem dX11_moves_75 : decode cX11_moves 75 = .ok (.istore_n 3, 1) := by decide +kernel
theorem dX11_moves_76 : decode cX11_moves 76 = .ok (.aload_n 0, 1) := by decide +kernel
theorem dX11_moves_77 : decode cX11_moves 77 = .ok (.getfield 75, 3) := by decide +kernel
theorem dX11_moves_80 : decode cX11_moves 80 = .ok (.getfield 206, 3) := by decide +kernel
theorem dX11_moves_83 : decode cX11_moves 83 = .ok (.iload_n 1, 1) := by decide +kernel
theorem dX11_moves_84 : decode cX11_moves 84 = .ok (.iload_n 2, 1) := by decide +kernel
theorem dX11_moves_85 : decode cX11_moves 85 = .ok (.iastore, 1) := by decide +kernel
theorem dX11_moves_86 : decode cX11_moves 86 = .ok (.iload_n 3, 1) := by decide +kernel
theorem dX11_moves_87 : decode cX11_moves 87 = .ok (.ireturn, 1) := by decide +kernel
set_option maxRecDepth 20000 in
theorem ggX11_preach_X11_isWalker : GoodIn wsX11_preach wsX11_isWalker := goodIn_r _ [7, 8, 35, 36, 37, 38, 39, 40, 41, 42, 43, 44, 45, 46, 47, 48, 49, 50, 51, 59, 60, 61, 62, 63, 64, 65, 66] (by decide +kernel) (by decide +kernel)
set_option maxRecDepth 20000 in
theorem gX11_preach_X11_isWalker : GoodIn wsX11_preach (wsV RX11 196 RX11 yX11_isWalker wsX11_isWalker) := goodIn_app (goodIn_of _ (by decide +kernel)) ggX11_preach_X11_isWalker
set_option maxRecDepth 20000 in
theorem ggX11_preach_X0_keep : GoodIn wsX11_preach wsX0_keep := goodIn_r _ [12, 13, 14, 15, 16, 17, 18, 19, 20, 21, 22, 23, 24, 25, 26, 27, 28, 29, 30, 31, 32, 33, 34, 67, 68, 69, 52, 53, 54, 55, 56, 57, 58] (by decide +kernel) (by decide +kernel)
set_option maxRecDepth 20000 in
theorem gX11_preach_X0_keep_n243 : GoodIn wsX11_preach (wsX0_keep) := ggX11_preach_X0_keep
theorem dX11_preach_0 : decode cX11_preach 0 = .ok (.aload_n 0, 1) := by decide +kernel
theorem dX11_preach_1 : decode cX11_preach 1 = .ok (.iload_n 1, 1) := by decide +kernel
theorem dX11_preach_2 : decode cX11_preach 2 = .ok (.invokevirtual 196, 3) := by decide +kernel
theorem dX11_preach_5 : decode cX11_preach 5 = .ok (.ifCond .eq 28, 3) := by decide +kernel
theorem dX11_preach_8 : decode cX11_preach 8 = .ok (.aload_n 0, 1) := by decide +kernel
theorem dX11_preach_9 : decode cX11_preach 9 = .ok (.getfield 75, 3) := by decide +kernel
theorem dX11_preach_12 : decode cX11_preach 12 = .ok (.getfield 226, 3) := by decide +kernel
theorem dX11_preach_15 : decode cX11_preach 15 = .ok (.iconst 4, 1) := by decide +kernel
theorem dX11_preach_16 : decode cX11_preach 16 = .ok (.if_icmp .lt 17, 3) := by decide +kernel
theorem dX11_preach_19 : decode cX11_preach 19 = .ok (.aload_n 0, 1) := by decide +kernel
theorem dX11_preach_20 : decode cX11_preach 20 = .ok (.getfield 75, 3) := by decide +kernel
theorem dX11_preach_23 : decode cX11_preach 23 = .ok (.getfield 209, 3) := by decide +kernel
theorem dX11_preach_26 : decode cX11_preach 26 = .ok (.iload_n 1, 1) := by decide +kernel
theorem dX11_preach_27 : decode cX11_preach 27 = .ok (.iaload, 1) := by decide +kernel
theorem dX11_preach_28 : decode cX11_preach 28 = .ok (.bipush 9, 2) := by decide +kernel
theorem dX11_preach_30 : decode cX11_preach 30 = .ok (.if_icmp .lt 5, 3) := by decide +kernel
theorem dX11_preach_33 : decode cX11_preach 33 = .ok (.iconst (-1), 1) := by decide +kernel
theorem dX11_preach_34 : decode cX11_preach 34 = .ok (.ireturn, 1) := by decide +kernel
theorem dX11_preach_35 : decode cX11_preach 35 = .ok (.aload_n 0, 1) := by decide +kernel
theorem dX11_preach_36 : decode cX11_preach 36 = .ok (.getfield 85, 3) := by decide +kernel
theorem dX11_preach_39 : decode cX11_preach 39 = .ok (.aload_n 0, 1) := by decide +kernel
theorem dX11_preach_40 : decode cX11_preach 40 = .ok (.getfield 75, 3) := by decide +kernel
theorem dX11_preach_43 : decode cX11_preach 43 = .ok (.invokevirtual 243, 3) := by decide +kernel
theorem dX11_preach_46 : decode cX11_preach 46 = .ok (.aload_n 0, 1) := by decide +kernel
theorem dX11_preach_47 : decode cX11_preach 47 = .ok (.getfield 75, 3) := by decide +kernel
theorem dX11_preach_50 : decode cX11_preach 50 = .ok (.dup, 1) := by decide +kernel
theorem dX11_preach_51 : decode cX11_preach 51 = .ok (.getfield 226, 3) := by decide +kernel
theorem dX11_preach_54 : decode cX11_preach 54 = .ok (.iconst 4, 1) := by decide +kernel
theorem dX11_preach_55 : decode cX11_preach 55 = .ok (.isub, 1) := by decide +kernel
theorem dX11_preach_56 : decode cX11_preach 56 = .ok (.putfield 226, 3) := by decide +kernel
theorem dX11_preach_59 : decode cX11_preach 59 = .ok (.aload_n 0, 1) := by decide +kernel
theorem dX11_preach_60 : decode cX11_preach 60 = .ok (.getfield 75, 3) := by decide +kernel
theorem dX11_preach_63 : decode cX11_preach 63 = .ok (.getfield 209, 3) := by decide +kernel
theorem dX11_preach_66 : decode cX11_preach 66 = .ok (.iload_n 1, 1) := by decide +kernel
theorem dX11_preach_67 : decode cX11_preach 67 = .ok (.dup2, 1) := by decide +kernel
theorem dX11_preach_68 : decode cX11_preach 68 = .ok (.iaload, 1) := by decide +kernel
theorem dX11_preach_69 : decode cX11_preach 69 = .ok (.iconst 1, 1) := by decide +kernel
theorem dX11_preach_70 : decode cX11_preach 70 = .ok (.iadd, 1) := by decide +kernel
theorem dX11_preach_71 : decode cX11_preach 71 = .ok (.iastore, 1) := by decide +kernel
theorem dX11_preach_72 : decode cX11_preach 72 = .ok (.aload_n 0, 1) := by decide +kernel
theorem dX11_preach_73 : decode cX11_preach 73 = .ok (.getfield 75, 3) := by decide +kernel
theorem dX11_preach_76 : decode cX11_preach 76 = .ok (.getfield 209, 3) := by decide +kernel
theorem dX11_preach_79 : decode cX11_preach 79 = .ok (.iload_n 1, 1) := by decide +kernel
theorem dX11_preach_80 : decode cX11_preach 80 = .ok (.iaload, 1) := by decide +kernel
theorem dX11_preach_81 : decode cX11_preach 81 = .ok (.ireturn, 1) := by decide +kernel
set_option maxRecDepth 20000 in
theorem ggX11_give_X11_hasTown : GoodIn wsX11_give wsX11_hasTown := goodIn_r _ [7, 8, 35, 36, 37, 38, 39, 40, 41, 42, 43, 44, 45, 46, 47, 48, 49, 50, 51, 59, 60, 61, 62, 63, 64, 65, 66] (by decide +kernel) (by decide +kernel)
set_option maxRecDepth 20000 in
theorem gX11_give_X11_hasTown : GoodIn wsX11_give (wsV RX11 239 RX11 yX11_hasTown wsX11_hasTown) := goodIn_app (goodIn_of _ (by decide +kernel)) ggX11_give_X11_hasTown
set_option maxRecDepth 20000 in
theorem ggX11_give_X0_keep : GoodIn wsX11_give wsX0_keep := goodIn_r _ [12, 13, 14, 15, 16, 17, 18, 19, 20, 21, 22, 23, 24, 25, 26, 27, 28, 29, 30, 31, 32, 33, 34, 67, 68, 69, 52, 53, 54, 55, 56, 57, 58] (by decide +kernel) (by decide +kernel)
set_option maxRecDepth 20000 in
theorem gX11_give_X0_keep_n243 : GoodIn wsX11_give (wsX0_keep) := ggX11_give_X0_keep
theorem dX11_give_0 : decode cX11_give 0 = .ok (.aload_n 0, 1) := by decide +kernel
theorem dX11_give_1 : decode cX11_give 1 = .ok (.invokevirtual 239, 3) := by decide +kernel
theorem dX11_give_4 : decode cX11_give 4 = .ok (.ifCond .eq 29, 3) := by decide +kernel
theorem dX11_give_7 : decode cX11_give 7 = .ok (.iload_n 1, 1) := by decide +kernel
theorem dX11_give_8 : decode cX11_give 8 = .ok (.iconst 1, 1) := by decide +kernel
theorem dX11_give_9 : decode cX11_give 9 = .ok (.if_icmp .lt 24, 3) := by decide +kernel
theorem dX11_give_12 : decode cX11_give 12 = .ok (.iload_n 1, 1) := by decide +kernel
theorem dX11_give_13 : decode cX11_give 13 = .ok (.bipush 50, 2) := by decide +kernel
theorem dX11_give_15 : decode cX11_give 15 = .ok (.if_icmp .gt 18, 3) := by decide +kernel
theorem dX11_give_18 : decode cX11_give 18 = .ok (.aload_n 0, 1) := by decide +kernel
theorem dX11_give_19 : decode cX11_give 19 = .ok (.getfield 75, 3) := by decide +kernel
theorem dX11_give_22 : decode cX11_give 22 = .ok (.getfield 226, 3) := by decide +kernel
theorem dX11_give_25 : decode cX11_give 25 = .ok (.iload_n 1, 1) := by decide +kernel
theorem dX11_give_26 : decode cX11_give 26 = .ok (.iadd, 1) := by decide +kernel
theorem dX11_give_27 : decode cX11_give 27 = .ok (.sipush 999, 3) := by decide +kernel
theorem dX11_give_30 : decode cX11_give 30 = .ok (.if_icmp .le 5, 3) := by decide +kernel
theorem dX11_give_33 : decode cX11_give 33 = .ok (.iconst (-1), 1) := by decide +kernel
theorem dX11_give_34 : decode cX11_give 34 = .ok (.ireturn, 1) := by decide +kernel
theorem dX11_give_35 : decode cX11_give 35 = .ok (.aload_n 0, 1) := by decide +kernel
theorem dX11_give_36 : decode cX11_give 36 = .ok (.getfield 85, 3) := by decide +kernel
theorem dX11_give_39 : decode cX11_give 39 = .ok (.aload_n 0, 1) := by decide +kernel
theorem dX11_give_40 : decode cX11_give 40 = .ok (.getfield 75, 3) := by decide +kernel
theorem dX11_give_43 : decode cX11_give 43 = .ok (.invokevirtual 243, 3) := by decide +kernel
theorem dX11_give_46 : decode cX11_give 46 = .ok (.aload_n 0, 1) := by decide +kernel
theorem dX11_give_47 : decode cX11_give 47 = .ok (.getfield 75, 3) := by decide +kernel
theorem dX11_give_50 : decode cX11_give 50 = .ok (.dup, 1) := by decide +kernel
theorem dX11_give_51 : decode cX11_give 51 = .ok (.getfield 226, 3) := by decide +kernel
theorem dX11_give_54 : decode cX11_give 54 = .ok (.iload_n 1, 1) := by decide +kernel
theorem dX11_give_55 : decode cX11_give 55 = .ok (.iadd, 1) := by decide +kernel
theorem dX11_give_56 : decode cX11_give 56 = .ok (.putfield 226, 3) := by decide +kernel
theorem dX11_give_59 : decode cX11_give 59 = .ok (.aload_n 0, 1) := by decide +kernel
theorem dX11_give_60 : decode cX11_give 60 = .ok (.getfield 75, 3) := by decide +kernel
theorem dX11_give_63 : decode cX11_give 63 = .ok (.getfield 226, 3) := by decide +kernel
theorem dX11_give_66 : decode cX11_give 66 = .ok (.ireturn, 1) := by decide +kernel
set_option maxRecDepth 20000 in
theorem ggX11_years_X11_hasTown : GoodIn wsX11_years wsX11_hasTown := goodIn_r _ [9, 4, 183, 184, 185, 186, 187, 188, 189, 190, 191, 192, 193, 194, 195, 196, 197, 198, 199, 207, 208, 209, 210, 211, 212, 213, 214] (by decide +kernel) (by decide +kernel)
set_option maxRecDepth 20000 in
theorem gX11_years_X11_hasTown : GoodIn wsX11_years (wsV RX11 239 RX11 yX11_hasTown wsX11_hasTown) := goodIn_app (goodIn_of _ (by decide +kernel)) ggX11_years_X11_hasTown
set_option maxRecDepth 20000 in
theorem ggX11_years_X0_keep : GoodIn wsX11_years wsX0_keep := goodIn_r _ [13, 14, 15, 16, 17, 18, 19, 20, 21, 22, 23, 24, 25, 26, 27, 28, 29, 30, 31, 32, 33, 34, 35, 215, 216, 217, 200, 201, 202, 203, 204, 205, 206] (by decide +kernel) (by decide +kernel)
set_option maxRecDepth 20000 in
theorem gX11_years_X0_keep_n243 : GoodIn wsX11_years (wsX0_keep) := ggX11_years_X0_keep
set_option maxRecDepth 20000 in
theorem ggX11_years_X11_shuffled : GoodIn wsX11_years wsX11_shuffled := goodIn_r _ [38, 39, 40] (by decide +kernel) (by decide +kernel)
set_option maxRecDepth 20000 in
theorem gX11_years_X11_shuffled : GoodIn wsX11_years (va_wsS RX11 269 yX11_shuffled wsX11_shuffled) := goodIn_app (goodIn_of _ (by decide +kernel)) ggX11_years_X11_shuffled
set_option maxRecDepth 20000 in
theorem ggX11_years_X11_drawn : GoodIn wsX11_years wsX11_drawn := goodIn_r _ [43] (by decide +kernel) (by decide +kernel)
set_option maxRecDepth 20000 in
theorem gX11_years_X11_drawn : GoodIn wsX11_years (va_wsS RX11 273 yX11_drawn wsX11_drawn) := goodIn_app (goodIn_of _ (by decide +kernel)) ggX11_years_X11_drawn
set_option maxRecDepth 20000 in
theorem ggX11_years_X11_liveDay : GoodIn wsX11_years wsX11_liveDay := goodIn_r _ [47, 48, 1, 49, 50, 51, 52, 53, 54, 55, 56, 57, 58, 59, 60, 61, 62, 63, 64, 65, 66, 67, 68, 69, 70, 71, 72, 73, 74, 75, 76, 77, 78, 79, 80, 81, 82, 18, 19, 20, 83, 84, 85, 86, 87, 88, 89, 90, 91, 92, 93, 94, 95, 96, 97, 98, 99, 100, 101, 102, 103, 104, 105, 106, 107, 108, 109, 110, 111, 112, 113, 114, 115, 116, 117, 118, 119, 120, 121, 122, 123, 124, 125, 126, 127, 128, 129, 130, 131, 132, 133, 134, 135, 136, 137, 138, 139, 140, 141, 142, 143, 144, 145, 146, 147, 148, 149, 150, 151, 152, 153, 154, 155, 156, 157, 158, 159, 160, 161, 162, 163, 164, 165, 166, 167, 168, 169, 170, 171, 172, 173, 174, 175, 176, 177, 178, 179, 180, 181, 182, 183, 184, 185, 186, 187, 188, 189, 190, 191, 192, 193, 194, 195, 196, 197, 198, 199, 200, 201, 202, 203, 204, 205, 206, 218, 219, 220, 221, 222, 223, 224, 207, 208, 209, 210, 211, 212, 213, 214, 225, 226, 227, 228, 229, 230, 231, 232, 233, 234, 235, 236, 237, 238, 239, 240, 241, 242, 243] (by decide +kernel) (by decide +kernel)
set_option maxRecDepth 20000 in
theorem gX11_years_X11_liveDay : GoodIn wsX11_years (wsV RX11 247 RX11 yX11_liveDay wsX11_liveDay) := goodIn_app (goodIn_of _ (by decide +kernel)) ggX11_years_X11_liveDay
theorem dX11_years_0 : decode cX11_years 0 = .ok (.aload_n 0, 1) := by decide +kernel
theorem dX11_years_1 : decode cX11_years 1 = .ok (.invokevirtual 239, 3) := by decide +kernel
theorem dX11_years_4 : decode cX11_years 4 = .ok (.ifCond .eq 29, 3) := by decide +kernel
theorem dX11_years_7 : decode cX11_years 7 = .ok (.iload_n 1, 1) := by decide +kernel
theorem dX11_years_8 : decode cX11_years 8 = .ok (.iconst 1, 1) := by decide +kernel
theorem dX11_years_9 : decode cX11_years 9 = .ok (.if_icmp .lt 24, 3) := by decide +kernel
theorem dX11_years_12 : decode cX11_years 12 = .ok (.iload_n 1, 1) := by decide +kernel
theorem dX11_years_13 : decode cX11_years 13 = .ok (.bipush 30, 2) := by decide +kernel
theorem dX11_years_15 : decode cX11_years 15 = .ok (.if_icmp .gt 18, 3) := by decide +kernel
theorem dX11_years_18 : decode cX11_years 18 = .ok (.aload_n 0, 1) := by decide +kernel
theorem dX11_years_19 : decode cX11_years 19 = .ok (.getfield 75, 3) := by decide +kernel
theorem dX11_years_22 : decode cX11_years 22 = .ok (.getfield 223, 3) := by decide +kernel
theorem dX11_years_25 : decode cX11_years 25 = .ok (.iload_n 1, 1) := by decide +kernel
theorem dX11_years_26 : decode cX11_years 26 = .ok (.iadd, 1) := by decide +kernel
theorem dX11_years_27 : decode cX11_years 27 = .ok (.sipush 999, 3) := by decide +kernel
theorem dX11_years_30 : decode cX11_years 30 = .ok (.if_icmp .le 5, 3) := by decide +kernel
theorem dX11_years_33 : decode cX11_years 33 = .ok (.iconst (-1), 1) := by decide +kernel
theorem dX11_years_34 : decode cX11_years 34 = .ok (.ireturn, 1) := by decide +kernel
theorem dX11_years_35 : decode cX11_years 35 = .ok (.lload_n 2, 1) := by decide +kernel
theorem dX11_years_36 : decode cX11_years 36 = .ok (.lstore 4, 2) := by decide +kernel
theorem dX11_years_38 : decode cX11_years 38 = .ok (.iconst 0, 1) := by decide +kernel
theorem dX11_years_39 : decode cX11_years 39 = .ok (.istore 6, 2) := by decide +kernel
theorem dX11_years_41 : decode cX11_years 41 = .ok (.iload 6, 2) := by decide +kernel
theorem dX11_years_43 : decode cX11_years 43 = .ok (.iload_n 1, 1) := by decide +kernel
theorem dX11_years_44 : decode cX11_years 44 = .ok (.if_icmp .ge 136, 3) := by decide +kernel
theorem dX11_years_47 : decode cX11_years 47 = .ok (.aload_n 0, 1) := by decide +kernel
theorem dX11_years_48 : decode cX11_years 48 = .ok (.getfield 85, 3) := by decide +kernel
theorem dX11_years_51 : decode cX11_years 51 = .ok (.aload_n 0, 1) := by decide +kernel
theorem dX11_years_52 : decode cX11_years 52 = .ok (.getfield 75, 3) := by decide +kernel
theorem dX11_years_55 : decode cX11_years 55 = .ok (.invokevirtual 243, 3) := by decide +kernel
theorem dX11_years_58 : decode cX11_years 58 = .ok (.lload 4, 2) := by decide +kernel
theorem dX11_years_60 : decode cX11_years 60 = .ok (.invokestatic 269, 3) := by decide +kernel
theorem dX11_years_63 : decode cX11_years 63 = .ok (.lstore 4, 2) := by decide +kernel
theorem dX11_years_65 : decode cX11_years 65 = .ok (.lload 4, 2) := by decide +kernel
theorem dX11_years_67 : decode cX11_years 67 = .ok (.bipush 10, 2) := by decide +kernel
theorem dX11_years_69 : decode cX11_years 69 = .ok (.invokestatic 273, 3) := by decide +kernel
theorem dX11_years_72 : decode cX11_years 72 = .ok (.aload_n 0, 1) := by decide +kernel
theorem dX11_years_73 : decode cX11_years 73 = .ok (.getfield 102, 3) := by decide +kernel
theorem dX11_years_76 : decode cX11_years 76 = .ok (.if_icmp .ge 7, 3) := by decide +kernel
theorem dX11_years_79 : decode cX11_years 79 = .ok (.iconst 1, 1) := by decide +kernel
theorem dX11_years_80 : decode cX11_years 80 = .ok (.goto 4, 3) := by decide +kernel
theorem dX11_years_83 : decode cX11_years 83 = .ok (.iconst 0, 1) := by decide +kernel
theorem dX11_years_84 : decode cX11_years 84 = .ok (.istore 7, 2) := by decide +kernel
theorem dX11_years_86 : decode cX11_years 86 = .ok (.lload 4, 2) := by decide +kernel
theorem dX11_years_88 : decode cX11_years 88 = .ok (.invokestatic 269, 3) := by decide +kernel
theorem dX11_years_91 : decode cX11_years 91 = .ok (.lstore 4, 2) := by decide +kernel
theorem dX11_years_93 : decode cX11_years 93 = .ok (.iload 7, 2) := by decide +kernel
theorem dX11_years_95 : decode cX11_years 95 = .ok (.ifCond .eq 32, 3) := by decide +kernel
theorem dX11_years_98 : decode cX11_years 98 = .ok (.aload_n 0, 1) := by decide +kernel
theorem dX11_years_99 : decode cX11_years 99 = .ok (.getfield 75, 3) := by decide +kernel
theorem dX11_years_102 : decode cX11_years 102 = .ok (.dup, 1) := by decide +kernel
theorem dX11_years_103 : decode cX11_years 103 = .ok (.getfield 193, 3) := by decide +kernel
theorem dX11_years_106 : decode cX11_years 106 = .ok (.iconst 1, 1) := by decide +kernel
theorem dX11_years_107 : decode cX11_years 107 = .ok (.lload 4, 2) := by decide +kernel
theorem dX11_years_109 : decode cX11_years 109 = .ok (.aload_n 0, 1) := by decide +kernel
theorem dX11_years_110 : decode cX11_years 110 = .ok (.getfield 19, 3) := by decide +kernel
theorem dX11_years_113 : decode cX11_years 113 = .ok (.getfield 156, 3) := by decide +kernel
theorem dX11_years_116 : decode cX11_years 116 = .ok (.invokestatic 273, 3) := by decide +kernel
theorem dX11_years_119 : decode cX11_years 119 = .ok (.ishl, 1) := by decide +kernel
theorem dX11_years_120 : decode cX11_years 120 = .ok (.ixor, 1) := by decide +kernel
theorem dX11_years_121 : decode cX11_years 121 = .ok (.putfield 193, 3) := by decide +kernel
theorem dX11_years_124 : decode cX11_years 124 = .ok (.goto 46, 3) := by decide +kernel
theorem dX11_years_127 : decode cX11_years 127 = .ok (.lload 4, 2) := by decide +kernel
theorem dX11_years_129 : decode cX11_years 129 = .ok (.aload_n 0, 1) := by decide +kernel
theorem dX11_years_130 : decode cX11_years 130 = .ok (.getfield 19, 3) := by decide +kernel
theorem dX11_years_133 : decode cX11_years 133 = .ok (.getfield 219, 3) := by decide +kernel
theorem dX11_years_136 : decode cX11_years 136 = .ok (.invokestatic 273, 3) := by decide +kernel
theorem dX11_years_139 : decode cX11_years 139 = .ok (.istore 8, 2) := by decide +kernel
theorem dX11_years_141 : decode cX11_years 141 = .ok (.lload 4, 2) := by decide +kernel
theorem dX11_years_143 : decode cX11_years 143 = .ok (.invokestatic 269, 3) := by decide +kernel
theorem dX11_years_146 : decode cX11_years 146 = .ok (.lstore 4, 2) := by decide +kernel
theorem dX11_years_148 : decode cX11_years 148 = .ok (.aload_n 0, 1) := by decide +kernel
theorem dX11_years_149 : decode cX11_years 149 = .ok (.getfield 75, 3) := by decide +kernel
theorem dX11_years_152 : decode cX11_years 152 = .ok (.getfield 206, 3) := by decide +kernel
theorem dX11_years_155 : decode cX11_years 155 = .ok (.iload 8, 2) := by decide +kernel
theorem dX11_years_157 : decode cX11_years 157 = .ok (.lload 4, 2) := by decide +kernel
theorem dX11_years_159 : decode cX11_years 159 = .ok (.aload_n 0, 1) := by decide +kernel
theorem dX11_years_160 : decode cX11_years 160 = .ok (.getfield 19, 3) := by decide +kernel
theorem dX11_years_163 : decode cX11_years 163 = .ok (.getfield 216, 3) := by decide +kernel
theorem dX11_years_166 : decode cX11_years 166 = .ok (.invokestatic 273, 3) := by decide +kernel
theorem dX11_years_169 : decode cX11_years 169 = .ok (.iastore, 1) := by decide +kernel
theorem dX11_years_170 : decode cX11_years 170 = .ok (.aload_n 0, 1) := by decide +kernel
theorem dX11_years_171 : decode cX11_years 171 = .ok (.invokevirtual 247, 3) := by decide +kernel
theorem dX11_years_174 : decode cX11_years 174 = .ok (.iinc 6 1, 3) := by decide +kernel
theorem dX11_years_177 : decode cX11_years 177 = .ok (.goto (-136), 3) := by decide +kernel
theorem dX11_years_180 : decode cX11_years 180 = .ok (.aload_n 0, 1) := by decide +kernel
theorem dX11_years_181 : decode cX11_years 181 = .ok (.getfield 75, 3) := by decide +kernel
theorem dX11_years_184 : decode cX11_years 184 = .ok (.getfield 223, 3) := by decide +kernel
theorem dX11_years_187 : decode cX11_years 187 = .ok (.ireturn, 1) := by decide +kernel
set_option maxRecDepth 20000 in
theorem ggX11_undo_X0_takeBack : GoodIn wsX11_undo wsX0_takeBack := goodIn_r _ [6, 7, 8, 9, 10, 11, 12, 13, 14, 15, 16, 17, 18, 19, 20, 21, 22, 23, 24, 42, 43, 44, 45, 46, 47, 48, 49, 50, 51] (by decide +kernel) (by decide +kernel)
set_option maxRecDepth 20000 in
theorem gX11_undo_X0_takeBack_n281 : GoodIn wsX11_undo (wsX0_takeBack) := ggX11_undo_X0_takeBack
theorem dX11_undo_0 : decode cX11_undo 0 = .ok (.aload_n 0, 1) := by decide +kernel
theorem dX11_undo_1 : decode cX11_undo 1 = .ok (.getfield 85, 3) := by decide +kernel
theorem dX11_undo_4 : decode cX11_undo 4 = .ok (.aload_n 0, 1) := by decide +kernel
theorem dX11_undo_5 : decode cX11_undo 5 = .ok (.getfield 75, 3) := by decide +kernel
theorem dX11_undo_8 : decode cX11_undo 8 = .ok (.invokevirtual 281, 3) := by decide +kernel
theorem dX11_undo_11 : decode cX11_undo 11 = .ok (.ifCond .ne 5, 3) := by decide +kernel
theorem dX11_undo_14 : decode cX11_undo 14 = .ok (.iconst (-1), 1) := by decide +kernel
theorem dX11_undo_15 : decode cX11_undo 15 = .ok (.ireturn, 1) := by decide +kernel
theorem dX11_undo_16 : decode cX11_undo 16 = .ok (.aload_n 0, 1) := by decide +kernel
theorem dX11_undo_17 : decode cX11_undo 17 = .ok (.getfield 85, 3) := by decide +kernel
theorem dX11_undo_20 : decode cX11_undo 20 = .ok (.getfield 232, 3) := by decide +kernel
theorem dX11_undo_23 : decode cX11_undo 23 = .ok (.ireturn, 1) := by decide +kernel
set_option maxRecDepth 20000 in
theorem ggX11_log_X11_logLength : GoodIn wsX11_log wsX11_logLength := goodIn_r _ [7, 2, 8, 9, 10, 11, 23, 24, 25, 26, 27, 28, 29, 30, 31, 32, 33, 34, 35, 36, 37, 38, 39, 40, 41, 42, 43, 44, 45, 46] (by decide +kernel) (by decide +kernel)
set_option maxRecDepth 20000 in
theorem gX11_log_X11_logLength : GoodIn wsX11_log (wsV RX11 229 RX11 yX11_logLength wsX11_logLength) := goodIn_app (goodIn_of _ (by decide +kernel)) ggX11_log_X11_logLength
set_option maxRecDepth 20000 in
theorem ggX11_log_X4_entry : GoodIn wsX11_log wsX4_entry := goodIn_r _ [15, 16, 17, 18, 19, 20, 21, 22, 47, 48, 49] (by decide +kernel) (by decide +kernel)
set_option maxRecDepth 20000 in
theorem gX11_log_X4_entry_n285 : GoodIn wsX11_log (wsX4_entry) := ggX11_log_X4_entry
theorem dX11_log_0 : decode cX11_log 0 = .ok (.iload_n 1, 1) := by decide +kernel
theorem dX11_log_1 : decode cX11_log 1 = .ok (.ifCond .lt 20, 3) := by decide +kernel
theorem dX11_log_4 : decode cX11_log 4 = .ok (.iload_n 1, 1) := by decide +kernel
theorem dX11_log_5 : decode cX11_log 5 = .ok (.aload_n 0, 1) := by decide +kernel
theorem dX11_log_6 : decode cX11_log 6 = .ok (.invokevirtual 229, 3) := by decide +kernel
theorem dX11_log_9 : decode cX11_log 9 = .ok (.if_icmp .ge 12, 3) := by decide +kernel
theorem dX11_log_12 : decode cX11_log 12 = .ok (.iload_n 2, 1) := by decide +kernel
theorem dX11_log_13 : decode cX11_log 13 = .ok (.ifCond .lt 8, 3) := by decide +kernel
theorem dX11_log_16 : decode cX11_log 16 = .ok (.iload_n 2, 1) := by decide +kernel
theorem dX11_log_17 : decode cX11_log 17 = .ok (.iconst 2, 1) := by decide +kernel
theorem dX11_log_18 : decode cX11_log 18 = .ok (.if_icmp .le 5, 3) := by decide +kernel
theorem dX11_log_21 : decode cX11_log 21 = .ok (.iconst (-1), 1) := by decide +kernel
theorem dX11_log_22 : decode cX11_log 22 = .ok (.ireturn, 1) := by decide +kernel
theorem dX11_log_23 : decode cX11_log 23 = .ok (.aload_n 0, 1) := by decide +kernel
theorem dX11_log_24 : decode cX11_log 24 = .ok (.getfield 92, 3) := by decide +kernel
theorem dX11_log_27 : decode cX11_log 27 = .ok (.aload_n 0, 1) := by decide +kernel
theorem dX11_log_28 : decode cX11_log 28 = .ok (.getfield 75, 3) := by decide +kernel
theorem dX11_log_31 : decode cX11_log 31 = .ok (.getfield 223, 3) := by decide +kernel
theorem dX11_log_34 : decode cX11_log 34 = .ok (.iconst 1, 1) := by decide +kernel
theorem dX11_log_35 : decode cX11_log 35 = .ok (.isub, 1) := by decide +kernel
theorem dX11_log_36 : decode cX11_log 36 = .ok (.iload_n 1, 1) := by decide +kernel
theorem dX11_log_37 : decode cX11_log 37 = .ok (.isub, 1) := by decide +kernel
theorem dX11_log_38 : decode cX11_log 38 = .ok (.iload_n 2, 1) := by decide +kernel
theorem dX11_log_39 : decode cX11_log 39 = .ok (.invokevirtual 285, 3) := by decide +kernel
theorem dX11_log_42 : decode cX11_log 42 = .ok (.ireturn, 1) := by decide +kernel
theorem dX11_logLength_0 : decode cX11_logLength 0 = .ok (.bipush 60, 2) := by decide +kernel
theorem dX11_logLength_2 : decode cX11_logLength 2 = .ok (.aload_n 0, 1) := by decide +kernel
theorem dX11_logLength_3 : decode cX11_logLength 3 = .ok (.getfield 75, 3) := by decide +kernel
theorem dX11_logLength_6 : decode cX11_logLength 6 = .ok (.getfield 223, 3) := by decide +kernel
theorem dX11_logLength_9 : decode cX11_logLength 9 = .ok (.invokestatic 289, 3) := by decide +kernel
theorem dX11_logLength_12 : decode cX11_logLength 12 = .ok (.ireturn, 1) := by decide +kernel
set_option maxRecDepth 20000 in
theorem ggX11_image_X11_hasTown : GoodIn wsX11_image wsX11_hasTown := goodIn_r _ [10, 11, 35, 36, 37, 38, 39, 40, 41, 42, 43, 44, 45, 46, 47, 48, 49, 50, 51, 59, 60, 61, 62, 63, 64, 65, 66] (by decide +kernel) (by decide +kernel)
set_option maxRecDepth 20000 in
theorem gX11_image_X11_hasTown : GoodIn wsX11_image (wsV RX11 239 RX11 yX11_hasTown wsX11_hasTown) := goodIn_app (goodIn_of _ (by decide +kernel)) ggX11_image_X11_hasTown
set_option maxRecDepth 20000 in
theorem ggX11_image_X6_become : GoodIn wsX11_image wsX6_become := goodIn_r _ [15, 16, 17, 18, 19, 20, 21, 22, 23, 24, 25, 26, 52, 53, 54, 55, 56, 57, 58] (by decide +kernel) (by decide +kernel)
set_option maxRecDepth 20000 in
theorem gX11_image_X6_become_n294 : GoodIn wsX11_image (wsX6_become) := ggX11_image_X6_become
set_option maxRecDepth 20000 in
theorem ggX11_image_X4_become : GoodIn wsX11_image wsX4_become := goodIn_r _ [30, 31, 32, 21, 22, 23, 33, 34, 67, 68, 69] (by decide +kernel) (by decide +kernel)
set_option maxRecDepth 20000 in
theorem gX11_image_X4_become_n296 : GoodIn wsX11_image (wsX4_become) := ggX11_image_X4_become
theorem dX11_image_0 : decode cX11_image 0 = .ok (.aload_n 0, 1) := by decide +kernel
theorem dX11_image_1 : decode cX11_image 1 = .ok (.invokevirtual 239, 3) := by decide +kernel
theorem dX11_image_4 : decode cX11_image 4 = .ok (.ifCond .ne 5, 3) := by decide +kernel
theorem dX11_image_7 : decode cX11_image 7 = .ok (.iconst (-1), 1) := by decide +kernel
theorem dX11_image_8 : decode cX11_image 8 = .ok (.ireturn, 1) := by decide +kernel
theorem dX11_image_9 : decode cX11_image 9 = .ok (.aload_n 0, 1) := by decide +kernel
theorem dX11_image_10 : decode cX11_image 10 = .ok (.getfield 96, 3) := by decide +kernel
theorem dX11_image_13 : decode cX11_image 13 = .ok (.aload_n 0, 1) := by decide +kernel
theorem dX11_image_14 : decode cX11_image 14 = .ok (.getfield 75, 3) := by decide +kernel
theorem dX11_image_17 : decode cX11_image 17 = .ok (.invokevirtual 294, 3) := by decide +kernel
theorem dX11_image_20 : decode cX11_image 20 = .ok (.aload_n 0, 1) := by decide +kernel
theorem dX11_image_21 : decode cX11_image 21 = .ok (.getfield 99, 3) := by decide +kernel
theorem dX11_image_24 : decode cX11_image 24 = .ok (.aload_n 0, 1) := by decide +kernel
theorem dX11_image_25 : decode cX11_image 25 = .ok (.getfield 92, 3) := by decide +kernel
theorem dX11_image_28 : decode cX11_image 28 = .ok (.invokevirtual 296, 3) := by decide +kernel
theorem dX11_image_31 : decode cX11_image 31 = .ok (.aload_n 0, 1) := by decide +kernel
theorem dX11_image_32 : decode cX11_image 32 = .ok (.iconst 1, 1) := by decide +kernel
theorem dX11_image_33 : decode cX11_image 33 = .ok (.putfield 152, 3) := by decide +kernel
theorem dX11_image_36 : decode cX11_image 36 = .ok (.aload_n 0, 1) := by decide +kernel
theorem dX11_image_37 : decode cX11_image 37 = .ok (.getfield 75, 3) := by decide +kernel
theorem dX11_image_40 : decode cX11_image 40 = .ok (.getfield 223, 3) := by decide +kernel
theorem dX11_image_43 : decode cX11_image 43 = .ok (.ireturn, 1) := by decide +kernel
set_option maxRecDepth 20000 in
theorem ggX11_back_X6_become : GoodIn wsX11_back wsX6_become := goodIn_r _ [10, 11, 12, 13, 14, 15, 16, 17, 18, 19, 20, 21, 52, 53, 54, 55, 56, 57, 58] (by decide +kernel) (by decide +kernel)
set_option maxRecDepth 20000 in
theorem gX11_back_X6_become_n294 : GoodIn wsX11_back (wsX6_become) := ggX11_back_X6_become
set_option maxRecDepth 20000 in
theorem ggX11_back_X4_become : GoodIn wsX11_back wsX4_become := goodIn_r _ [25, 26, 27, 16, 17, 18, 28, 29, 59, 60, 61] (by decide +kernel) (by decide +kernel)
set_option maxRecDepth 20000 in
theorem gX11_back_X4_become_n296 : GoodIn wsX11_back (wsX4_become) := ggX11_back_X4_become
set_option maxRecDepth 20000 in
theorem ggX11_back_X0_forgetAll : GoodIn wsX11_back wsX0_forgetAll := goodIn_r _ [33, 34, 62, 63, 64] (by decide +kernel) (by decide +kernel)
set_option maxRecDepth 20000 in
theorem gX11_back_X0_forgetAll_n149 : GoodIn wsX11_back (wsX0_forgetAll) := ggX11_back_X0_forgetAll
theorem dX11_back_0 : decode cX11_back 0 = .ok (.aload_n 0, 1) := by decide +kernel
theorem dX11_back_1 : decode cX11_back 1 = .ok (.getfield 152, 3) := by decide +kernel
theorem dX11_back_4 : decode cX11_back 4 = .ok (.ifCond .ne 5, 3) := by decide +kernel
theorem dX11_back_7 : decode cX11_back 7 = .ok (.iconst (-1), 1) := by decide +kernel
theorem dX11_back_8 : decode cX11_back 8 = .ok (.ireturn, 1) := by decide +kernel
theorem dX11_back_9 : decode cX11_back 9 = .ok (.aload_n 0, 1) := by decide +kernel
theorem dX11_back_10 : decode cX11_back 10 = .ok (.getfield 75, 3) := by decide +kernel
theorem dX11_back_13 : decode cX11_back 13 = .ok (.aload_n 0, 1) := by decide +kernel
theorem dX11_back_14 : decode cX11_back 14 = .ok (.getfield 96, 3) := by decide +kernel
theorem dX11_back_17 : decode cX11_back 17 = .ok (.invokevirtual 294, 3) := by decide +kernel
theorem dX11_back_20 : decode cX11_back 20 = .ok (.aload_n 0, 1) := by decide +kernel
theorem dX11_back_21 : decode cX11_back 21 = .ok (.getfield 92, 3) := by decide +kernel
theorem dX11_back_24 : decode cX11_back 24 = .ok (.aload_n 0, 1) := by decide +kernel
theorem dX11_back_25 : decode cX11_back 25 = .ok (.getfield 99, 3) := by decide +kernel
theorem dX11_back_28 : decode cX11_back 28 = .ok (.invokevirtual 296, 3) := by decide +kernel
theorem dX11_back_31 : decode cX11_back 31 = .ok (.aload_n 0, 1) := by decide +kernel
theorem dX11_back_32 : decode cX11_back 32 = .ok (.getfield 85, 3) := by decide +kernel
theorem dX11_back_35 : decode cX11_back 35 = .ok (.invokevirtual 149, 3) := by decide +kernel
theorem dX11_back_38 : decode cX11_back 38 = .ok (.aload_n 0, 1) := by decide +kernel
theorem dX11_back_39 : decode cX11_back 39 = .ok (.getfield 75, 3) := by decide +kernel
theorem dX11_back_42 : decode cX11_back 42 = .ok (.getfield 223, 3) := by decide +kernel
theorem dX11_back_45 : decode cX11_back 45 = .ok (.ireturn, 1) := by decide +kernel
theorem dX11_walk_0 : decode cX11_walk 0 = .ok (.iload_n 1, 1) := by decide +kernel
theorem dX11_walk_1 : decode cX11_walk 1 = .ok (.ifCond .lt 14, 3) := by decide +kernel
theorem dX11_walk_4 : decode cX11_walk 4 = .ok (.iload_n 1, 1) := by decide +kernel
theorem dX11_walk_5 : decode cX11_walk 5 = .ok (.aload_n 0, 1) := by decide +kernel
theorem dX11_walk_6 : decode cX11_walk 6 = .ok (.getfield 45, 3) := by decide +kernel
theorem dX11_walk_9 : decode cX11_walk 9 = .ok (.getfield 222, 3) := by decide +kernel
theorem dX11_walk_12 : decode cX11_walk 12 = .ok (.if_icmp .lt 5, 3) := by decide +kernel
theorem dX11_walk_15 : decode cX11_walk 15 = .ok (.iconst (-1), 1) := by decide +kernel
theorem dX11_walk_16 : decode cX11_walk 16 = .ok (.ireturn, 1) := by decide +kernel
theorem dX11_walk_17 : decode cX11_walk 17 = .ok (.iload_n 2, 1) := by decide +kernel
theorem dX11_walk_18 : decode cX11_walk 18 = .ok (.iconst (-1), 1) := by decide +kernel
theorem dX11_walk_19 : decode cX11_walk 19 = .ok (.if_icmp .ne 13, 3) := by decide +kernel
theorem dX11_walk_22 : decode cX11_walk 22 = .ok (.aload_n 0, 1) := by decide +kernel
theorem dX11_walk_23 : decode cX11_walk 23 = .ok (.getfield 45, 3) := by decide +kernel
theorem dX11_walk_26 : decode cX11_walk 26 = .ok (.getfield 299, 3) := by decide +kernel
theorem dX11_walk_29 : decode cX11_walk 29 = .ok (.iload_n 1, 1) := by decide +kernel
theorem dX11_walk_30 : decode cX11_walk 30 = .ok (.iaload, 1) := by decide +kernel
theorem dX11_walk_31 : decode cX11_walk 31 = .ok (.ireturn, 1) := by decide +kernel
theorem dX11_walk_32 : decode cX11_walk 32 = .ok (.iload_n 2, 1) := by decide +kernel
theorem dX11_walk_33 : decode cX11_walk 33 = .ok (.ifCond .lt 16, 3) := by decide +kernel
theorem dX11_walk_36 : decode cX11_walk 36 = .ok (.iload_n 2, 1) := by decide +kernel
theorem dX11_walk_37 : decode cX11_walk 37 = .ok (.aload_n 0, 1) := by decide +kernel
theorem dX11_walk_38 : decode cX11_walk 38 = .ok (.getfield 45, 3) := by decide +kernel
theorem dX11_walk_41 : decode cX11_walk 41 = .ok (.getfield 299, 3) := by decide +kernel
theorem dX11_walk_44 : decode cX11_walk 44 = .ok (.iload_n 1, 1) := by decide +kernel
theorem dX11_walk_45 : decode cX11_walk 45 = .ok (.iaload, 1) := by decide +kernel
theorem dX11_walk_46 : decode cX11_walk 46 = .ok (.if_icmp .lt 7, 3) := by decide +kernel
theorem dX11_walk_49 : decode cX11_walk 49 = .ok (.iconst (-1), 1) := by decide +kernel
theorem dX11_walk_50 : decode cX11_walk 50 = .ok (.goto 14, 3) := by decide +kernel
theorem dX11_walk_53 : decode cX11_walk 53 = .ok (.aload_n 0, 1) := by decide +kernel
theorem dX11_walk_54 : decode cX11_walk 54 = .ok (.getfield 45, 3) := by decide +kernel
theorem dX11_walk_57 : decode cX11_walk 57 = .ok (.getfield 302, 3) := by decide +kernel
theorem dX11_walk_60 : decode cX11_walk 60 = .ok (.iload_n 1, 1) := by decide +kernel
theorem dX11_walk_61 : decode cX11_walk 61 = .ok (.aaload, 1) := by decide +kernel
theorem dX11_walk_62 : decode cX11_walk 62 = .ok (.iload_n 2, 1) := by decide +kernel
theorem dX11_walk_63 : decode cX11_walk 63 = .ok (.iaload, 1) := by decide +kernel
theorem dX11_walk_64 : decode cX11_walk 64 = .ok (.ireturn, 1) := by decide +kernel
set_option maxRecDepth 20000 in
theorem ggX11_check_X11_hasTown : GoodIn wsX11_check wsX11_hasTown := goodIn_r _ [10, 11, 73, 74, 75, 76, 77, 78, 79, 80, 81, 82, 83, 84, 85, 86, 87, 88, 89, 102, 103, 104, 105, 106, 107, 108, 109] (by decide +kernel) (by decide +kernel)
set_option maxRecDepth 20000 in
theorem gX11_check_X11_hasTown : GoodIn wsX11_check (wsV RX11 239 RX11 yX11_hasTown wsX11_hasTown) := goodIn_app (goodIn_of _ (by decide +kernel)) ggX11_check_X11_hasTown
set_option maxRecDepth 20000 in
theorem ggX11_check_X1_lookAt : GoodIn wsX11_check wsX1_lookAt := goodIn_r _ [15, 16, 17, 18, 19, 20, 21, 22, 23, 24, 25, 26, 27, 28, 29, 30, 31, 32, 33, 34, 35, 36, 37, 38, 39, 40, 41, 42, 43, 44, 45, 46, 47, 48, 49, 50, 51, 52, 53, 54, 55, 56, 57, 58, 59, 60, 61, 95, 96, 97, 98, 99, 100, 101, 110, 111, 112, 113, 114, 115, 116, 102, 103, 104, 105, 106, 107, 108, 109, 117, 118, 119, 120] (by decide +kernel) (by decide +kernel)
set_option maxRecDepth 20000 in
theorem gX11_check_X1_lookAt_n253 : GoodIn wsX11_check (wsX1_lookAt) := ggX11_check_X1_lookAt
set_option maxRecDepth 20000 in
theorem ggX11_check_X10_stepYards : GoodIn wsX11_check wsX10_stepYards := goodIn_r _ [64, 41, 65, 66, 67, 37, 68, 40, 117, 118, 119, 120] (by decide +kernel) (by decide +kernel)
set_option maxRecDepth 20000 in
theorem gX11_check_X10_stepYards_n306 : GoodIn wsX11_check (wsX10_stepYards) := ggX11_check_X10_stepYards
set_option maxRecDepth 20000 in
theorem ggX11_check_X11_isCorner : GoodIn wsX11_check wsX11_isCorner := goodIn_r _ [72, 11, 73, 74, 75, 76, 77, 78, 79, 80, 81, 82, 83, 84, 85, 86, 87, 88, 89, 102, 103, 104, 105, 106, 107, 108, 109] (by decide +kernel) (by decide +kernel)
set_option maxRecDepth 20000 in
theorem gX11_check_X11_isCorner : GoodIn wsX11_check (wsV RX11 159 RX11 yX11_isCorner wsX11_isCorner) := goodIn_app (goodIn_of _ (by decide +kernel)) ggX11_check_X11_isCorner
theorem dX11_check_0 : decode cX11_check 0 = .ok (.aload_n 0, 1) := by decide +kernel
theorem dX11_check_1 : decode cX11_check 1 = .ok (.invokevirtual 239, 3) := by decide +kernel
theorem dX11_check_4 : decode cX11_check 4 = .ok (.ifCond .eq 27, 3) := by decide +kernel
theorem dX11_check_7 : decode cX11_check 7 = .ok (.iload_n 1, 1) := by decide +kernel
theorem dX11_check_8 : decode cX11_check 8 = .ok (.ifCond .lt 23, 3) := by decide +kernel
theorem dX11_check_11 : decode cX11_check 11 = .ok (.iload_n 1, 1) := by decide +kernel
theorem dX11_check_12 : decode cX11_check 12 = .ok (.aload_n 0, 1) := by decide +kernel
theorem dX11_check_13 : decode cX11_check 13 = .ok (.getfield 45, 3) := by decide +kernel
theorem dX11_check_16 : decode cX11_check 16 = .ok (.getfield 222, 3) := by decide +kernel
theorem dX11_check_19 : decode cX11_check 19 = .ok (.if_icmp .ge 12, 3) := by decide +kernel
theorem dX11_check_22 : decode cX11_check 22 = .ok (.iload_n 2, 1) := by decide +kernel
theorem dX11_check_23 : decode cX11_check 23 = .ok (.ifCond .lt 8, 3) := by decide +kernel
theorem dX11_check_26 : decode cX11_check 26 = .ok (.iload_n 2, 1) := by decide +kernel
theorem dX11_check_27 : decode cX11_check 27 = .ok (.iconst 2, 1) := by decide +kernel
theorem dX11_check_28 : decode cX11_check 28 = .ok (.if_icmp .le 6, 3) := by decide +kernel
theorem dX11_check_31 : decode cX11_check 31 = .ok (.ldc 235, 2) := by decide +kernel
theorem dX11_check_33 : decode cX11_check 33 = .ok (.ireturn, 1) := by decide +kernel
theorem dX11_check_34 : decode cX11_check 34 = .ok (.aload_n 0, 1) := by decide +kernel
theorem dX11_check_35 : decode cX11_check 35 = .ok (.getfield 61, 3) := by decide +kernel
theorem dX11_check_38 : decode cX11_check 38 = .ok (.aload_n 0, 1) := by decide +kernel
theorem dX11_check_39 : decode cX11_check 39 = .ok (.getfield 75, 3) := by decide +kernel
theorem dX11_check_42 : decode cX11_check 42 = .ok (.invokevirtual 253, 3) := by decide +kernel
theorem dX11_check_45 : decode cX11_check 45 = .ok (.aload_n 0, 1) := by decide +kernel
theorem dX11_check_46 : decode cX11_check 46 = .ok (.getfield 45, 3) := by decide +kernel
theorem dX11_check_49 : decode cX11_check 49 = .ok (.getfield 299, 3) := by decide +kernel
theorem dX11_check_52 : decode cX11_check 52 = .ok (.iload_n 1, 1) := by decide +kernel
theorem dX11_check_53 : decode cX11_check 53 = .ok (.iaload, 1) := by decide +kernel
theorem dX11_check_54 : decode cX11_check 54 = .ok (.istore_n 3, 1) := by decide +kernel
theorem dX11_check_55 : decode cX11_check 55 = .ok (.iconst 0, 1) := by decide +kernel
theorem dX11_check_56 : decode cX11_check 56 = .ok (.istore 4, 2) := by decide +kernel
theorem dX11_check_58 : decode cX11_check 58 = .ok (.iconst 0, 1) := by decide +kernel
theorem dX11_check_59 : decode cX11_check 59 = .ok (.istore 5, 2) := by decide +kernel
theorem dX11_check_61 : decode cX11_check 61 = .ok (.iconst 0, 1) := by decide +kernel
theorem dX11_check_62 : decode cX11_check 62 = .ok (.istore 6, 2) := by decide +kernel
theorem dX11_check_64 : decode cX11_check 64 = .ok (.iconst 0, 1) := by decide +kernel
theorem dX11_check_65 : decode cX11_check 65 = .ok (.istore 7, 2) := by decide +kernel
theorem dX11_check_67 : decode cX11_check 67 = .ok (.iload 7, 2) := by decide +kernel
theorem dX11_check_69 : decode cX11_check 69 = .ok (.iload_n 3, 1) := by decide +kernel
theorem dX11_check_70 : decode cX11_check 70 = .ok (.if_icmp .ge 94, 3) := by decide +kernel
theorem dX11_check_73 : decode cX11_check 73 = .ok (.aload_n 0, 1) := by decide +kernel
theorem dX11_check_74 : decode cX11_check 74 = .ok (.getfield 45, 3) := by decide +kernel
theorem dX11_check_77 : decode cX11_check 77 = .ok (.getfield 302, 3) := by decide +kernel
theorem dX11_check_80 : decode cX11_check 80 = .ok (.iload_n 1, 1) := by decide +kernel
theorem dX11_check_81 : decode cX11_check 81 = .ok (.aaload, 1) := by decide +kernel
theorem dX11_check_82 : decode cX11_check 82 = .ok (.iload 7, 2) := by decide +kernel
theorem dX11_check_84 : decode cX11_check 84 = .ok (.iaload, 1) := by decide +kernel
theorem dX11_check_85 : decode cX11_check 85 = .ok (.istore 8, 2) := by decide +kernel
theorem dX11_check_87 : decode cX11_check 87 = .ok (.iload 7, 2) := by decide +kernel
theorem dX11_check_89 : decode cX11_check 89 = .ok (.ifCond .ne 7, 3) := by decide +kernel
theorem dX11_check_92 : decode cX11_check 92 = .ok (.iconst 0, 1) := by decide +kernel
theorem dX11_check_93 : decode cX11_check 93 = .ok (.goto 26, 3) := by decide +kernel
theorem dX11_check_96 : decode cX11_check 96 = .ok (.aload_n 0, 1) := by decide +kernel
theorem dX11_check_97 : decode cX11_check 97 = .ok (.getfield 52, 3) := by decide +kernel
theorem dX11_check_100 : decode cX11_check 100 = .ok (.aload_n 0, 1) := by decide +kernel
theorem dX11_check_101 : decode cX11_check 101 = .ok (.getfield 45, 3) := by decide +kernel
theorem dX11_check_104 : decode cX11_check 104 = .ok (.getfield 302, 3) := by decide +kernel
theorem dX11_check_107 : decode cX11_check 107 = .ok (.iload_n 1, 1) := by decide +kernel
theorem dX11_check_108 : decode cX11_check 108 = .ok (.aaload, 1) := by decide +kernel
theorem dX11_check_109 : decode cX11_check 109 = .ok (.iload 7, 2) := by decide +kernel
theorem dX11_check_111 : decode cX11_check 111 = .ok (.iconst 1, 1) := by decide +kernel
theorem dX11_check_112 : decode cX11_check 112 = .ok (.isub, 1) := by decide +kernel
theorem dX11_check_113 : decode cX11_check 113 = .ok (.iaload, 1) := by decide +kernel
theorem dX11_check_114 : decode cX11_check 114 = .ok (.iload 8, 2) := by decide +kernel
theorem dX11_check_116 : decode cX11_check 116 = .ok (.invokevirtual 306, 3) := by decide +kernel
theorem dX11_check_119 : decode cX11_check 119 = .ok (.istore 9, 2) := by decide +kernel
theorem dX11_check_121 : decode cX11_check 121 = .ok (.aload_n 0, 1) := by decide +kernel
theorem dX11_check_122 : decode cX11_check 122 = .ok (.iload 8, 2) := by decide +kernel
theorem dX11_check_124 : decode cX11_check 124 = .ok (.invokevirtual 159, 3) := by decide +kernel
theorem dX11_check_127 : decode cX11_check 127 = .ok (.ifCond .eq 37, 3) := by decide +kernel
theorem dX11_check_130 : decode cX11_check 130 = .ok (.iload 9, 2) := by decide +kernel
theorem dX11_check_132 : decode cX11_check 132 = .ok (.iconst (-1), 1) := by decide +kernel
theorem dX11_check_133 : decode cX11_check 133 = .ok (.if_icmp .ne 6, 3) := by decide +kernel
theorem dX11_check_136 : decode cX11_check 136 = .ok (.goto 28, 3) := by decide +kernel
theorem dX11_check_139 : decode cX11_check 139 = .ok (.iload 5, 2) := by decide +kernel
theorem dX11_check_141 : decode cX11_check 141 = .ok (.iload 9, 2) := by decide +kernel
theorem dX11_check_143 : decode cX11_check 143 = .ok (.iadd, 1) := by decide +kernel
theorem dX11_check_144 : decode cX11_check 144 = .ok (.istore 5, 2) := by decide +kernel
theorem dX11_check_146 : decode cX11_check 146 = .ok (.iload 6, 2) := by decide +kernel
theorem dX11_check_148 : decode cX11_check 148 = .ok (.iconst 1, 1) := by decide +kernel
theorem dX11_check_149 : decode cX11_check 149 = .ok (.iload 8, 2) := by decide +kernel
theorem dX11_check_151 : decode cX11_check 151 = .ok (.ishl, 1) := by decide +kernel
theorem dX11_check_152 : decode cX11_check 152 = .ok (.ior, 1) := by decide +kernel
theorem dX11_check_153 : decode cX11_check 153 = .ok (.istore 6, 2) := by decide +kernel
theorem dX11_check_155 : decode cX11_check 155 = .ok (.iinc 4 1, 3) := by decide +kernel
theorem dX11_check_158 : decode cX11_check 158 = .ok (.iinc 7 1, 3) := by decide +kernel
theorem dX11_check_161 : decode cX11_check 161 = .ok (.goto (-94), 3) := by decide +kernel
theorem dX11_check_164 : decode cX11_check 164 = .ok (.iload_n 2, 1) := by decide +kernel
theorem dX11_check_165 : decode cX11_check 165 = .ok (.ifCond .ne 16, 3) := by decide +kernel
theorem dX11_check_168 : decode cX11_check 168 = .ok (.iload 4, 2) := by decide +kernel
theorem dX11_check_170 : decode cX11_check 170 = .ok (.iload_n 3, 1) := by decide +kernel
theorem dX11_check_171 : decode cX11_check 171 = .ok (.if_icmp .ne 7, 3) := by decide +kernel
theorem dX11_check_174 : decode cX11_check 174 = .ok (.iconst (-1), 1) := by decide +kernel
theorem dX11_check_175 : decode cX11_check 175 = .ok (.goto 5, 3) := by decide +kernel
theorem dX11_check_178 : decode cX11_check 178 = .ok (.iload 4, 2) := by decide +kernel
theorem dX11_check_180 : decode cX11_check 180 = .ok (.ireturn, 1) := by decide +kernel
theorem dX11_check_181 : decode cX11_check 181 = .ok (.iload_n 2, 1) := by decide +kernel
theorem dX11_check_182 : decode cX11_check 182 = .ok (.iconst 1, 1) := by decide +kernel
theorem dX11_check_183 : decode cX11_check 183 = .ok (.if_icmp .ne 8, 3) := by decide +kernel
theorem dX11_check_186 : decode cX11_check 186 = .ok (.iload 5, 2) := by decide +kernel
theorem dX11_check_188 : decode cX11_check 188 = .ok (.goto 13, 3) := by decide +kernel
theorem dX11_check_191 : decode cX11_check 191 = .ok (.iload 6, 2) := by decide +kernel
theorem dX11_check_193 : decode cX11_check 193 = .ok (.aload_n 0, 1) := by decide +kernel
theorem dX11_check_194 : decode cX11_check 194 = .ok (.getfield 61, 3) := by decide +kernel
theorem dX11_check_197 : decode cX11_check 197 = .ok (.getfield 309, 3) := by decide +kernel
theorem dX11_check_200 : decode cX11_check 200 = .ok (.iand, 1) := by decide +kernel
theorem dX11_check_201 : decode cX11_check 201 = .ok (.ireturn, 1) := by decide +kernel
set_option maxRecDepth 20000 in
theorem ggX11_far_X11_isCorner : GoodIn wsX11_far wsX11_isCorner := goodIn_r _ [7, 2, 47, 48, 49, 50, 51, 52, 53, 54, 55, 56, 57, 58, 59, 60, 61, 62, 63, 64, 65, 66, 67, 68, 69, 70, 71] (by decide +kernel) (by decide +kernel)
set_option maxRecDepth 20000 in
theorem gX11_far_X11_isCorner : GoodIn wsX11_far (wsV RX11 159 RX11 yX11_isCorner wsX11_isCorner) := goodIn_app (goodIn_of _ (by decide +kernel)) ggX11_far_X11_isCorner
set_option maxRecDepth 20000 in
theorem ggX11_far_X11_openNow : GoodIn wsX11_far wsX11_openNow := goodIn_r _ [11, 2, 12, 13, 14, 15, 16, 17, 47, 48, 49, 50, 51, 52, 53, 54, 55, 56, 57, 58, 59, 60, 61, 62, 63, 72, 73, 74, 75, 76, 77, 78, 64, 65, 66, 67, 68, 69, 70, 71] (by decide +kernel) (by decide +kernel)
set_option maxRecDepth 20000 in
theorem gX11_far_X11_openNow : GoodIn wsX11_far (wsV RX11 170 RX11 yX11_openNow wsX11_openNow) := goodIn_app (goodIn_of _ (by decide +kernel)) ggX11_far_X11_openNow
set_option maxRecDepth 20000 in
theorem ggX11_far_X10_measure : GoodIn wsX11_far wsX10_measure := goodIn_r _ [21, 22, 23, 24, 25, 26, 27, 28, 29, 30, 14, 31, 32, 33, 34, 35, 36, 37, 38, 39, 40, 41, 42, 19, 43, 64, 65, 66, 67, 68, 69, 70, 71, 79, 80, 81, 82] (by decide +kernel) (by decide +kernel)
set_option maxRecDepth 20000 in
theorem gX11_far_X10_measure_n312 : GoodIn wsX11_far (wsX10_measure) := ggX11_far_X10_measure
set_option maxRecDepth 20000 in
theorem ggX11_far_X10_yardsBetween : GoodIn wsX11_far wsX10_yardsBetween := goodIn_r _ [46, 24, 25, 79, 80, 81, 82] (by decide +kernel) (by decide +kernel)
set_option maxRecDepth 20000 in
theorem gX11_far_X10_yardsBetween_n316 : GoodIn wsX11_far (wsX10_yardsBetween) := ggX11_far_X10_yardsBetween
theorem dX11_far_0 : decode cX11_far 0 = .ok (.aload_n 0, 1) := by decide +kernel
theorem dX11_far_1 : decode cX11_far 1 = .ok (.iload_n 1, 1) := by decide +kernel
theorem dX11_far_2 : decode cX11_far 2 = .ok (.invokevirtual 159, 3) := by decide +kernel
theorem dX11_far_5 : decode cX11_far 5 = .ok (.ifCond .eq 11, 3) := by decide +kernel
theorem dX11_far_8 : decode cX11_far 8 = .ok (.aload_n 0, 1) := by decide +kernel
theorem dX11_far_9 : decode cX11_far 9 = .ok (.iload_n 2, 1) := by decide +kernel
theorem dX11_far_10 : decode cX11_far 10 = .ok (.invokevirtual 159, 3) := by decide +kernel
theorem dX11_far_13 : decode cX11_far 13 = .ok (.ifCond .ne 5, 3) := by decide +kernel
theorem dX11_far_16 : decode cX11_far 16 = .ok (.iconst (-1), 1) := by decide +kernel
theorem dX11_far_17 : decode cX11_far 17 = .ok (.ireturn, 1) := by decide +kernel
theorem dX11_far_18 : decode cX11_far 18 = .ok (.aload_n 0, 1) := by decide +kernel
theorem dX11_far_19 : decode cX11_far 19 = .ok (.getfield 52, 3) := by decide +kernel
theorem dX11_far_22 : decode cX11_far 22 = .ok (.aload_n 0, 1) := by decide +kernel
theorem dX11_far_23 : decode cX11_far 23 = .ok (.getfield 19, 3) := by decide +kernel
theorem dX11_far_26 : decode cX11_far 26 = .ok (.aload_n 0, 1) := by decide +kernel
theorem dX11_far_27 : decode cX11_far 27 = .ok (.invokevirtual 170, 3) := by decide +kernel
theorem dX11_far_30 : decode cX11_far 30 = .ok (.invokevirtual 312, 3) := by decide +kernel
theorem dX11_far_33 : decode cX11_far 33 = .ok (.aload_n 0, 1) := by decide +kernel
theorem dX11_far_34 : decode cX11_far 34 = .ok (.getfield 52, 3) := by decide +kernel
theorem dX11_far_37 : decode cX11_far 37 = .ok (.iload_n 1, 1) := by decide +kernel
theorem dX11_far_38 : decode cX11_far 38 = .ok (.iload_n 2, 1) := by decide +kernel
theorem dX11_far_39 : decode cX11_far 39 = .ok (.invokevirtual 316, 3) := by decide +kernel
theorem dX11_far_42 : decode cX11_far 42 = .ok (.ireturn, 1) := by decide +kernel
set_option maxRecDepth 20000 in
theorem ggX11_way_X11_isCorner : GoodIn wsX11_way wsX11_isCorner := goodIn_r _ [7, 2, 51, 52, 53, 54, 55, 56, 57, 58, 59, 60, 61, 62, 63, 64, 65, 66, 67, 68, 69, 70, 71, 72, 73, 74, 75] (by decide +kernel) (by decide +kernel)
set_option maxRecDepth 20000 in
theorem gX11_way_X11_isCorner : GoodIn wsX11_way (wsV RX11 159 RX11 yX11_isCorner wsX11_isCorner) := goodIn_app (goodIn_of _ (by decide +kernel)) ggX11_way_X11_isCorner
set_option maxRecDepth 20000 in
theorem ggX11_way_X11_openNow : GoodIn wsX11_way wsX11_openNow := goodIn_r _ [11, 2, 12, 13, 14, 15, 16, 17, 51, 52, 53, 54, 55, 56, 57, 58, 59, 60, 61, 62, 63, 64, 65, 66, 67, 76, 77, 78, 79, 80, 81, 82, 68, 69, 70, 71, 72, 73, 74, 75] (by decide +kernel) (by decide +kernel)
set_option maxRecDepth 20000 in
theorem gX11_way_X11_openNow : GoodIn wsX11_way (wsV RX11 170 RX11 yX11_openNow wsX11_openNow) := goodIn_app (goodIn_of _ (by decide +kernel)) ggX11_way_X11_openNow
set_option maxRecDepth 20000 in
theorem ggX11_way_X10_measure : GoodIn wsX11_way wsX10_measure := goodIn_r _ [21, 22, 23, 24, 25, 26, 27, 28, 29, 30, 14, 31, 32, 33, 34, 35, 36, 37, 38, 39, 40, 41, 42, 19, 43, 68, 69, 70, 71, 72, 73, 74, 75, 83, 84, 85, 86] (by decide +kernel) (by decide +kernel)
set_option maxRecDepth 20000 in
theorem gX11_way_X10_measure_n312 : GoodIn wsX11_way (wsX10_measure) := ggX11_way_X10_measure
set_option maxRecDepth 20000 in
theorem ggX11_way_X10_leastRow : GoodIn wsX11_way wsX10_leastRow := goodIn_r _ [46, 24, 25, 22, 47, 48, 49, 19, 50, 23, 83, 84, 85, 86] (by decide +kernel) (by decide +kernel)
set_option maxRecDepth 20000 in
theorem gX11_way_X10_leastRow_n319 : GoodIn wsX11_way (wsX10_leastRow) := ggX11_way_X10_leastRow
theorem dX11_way_0 : decode cX11_way 0 = .ok (.aload_n 0, 1) := by decide +kernel
theorem dX11_way_1 : decode cX11_way 1 = .ok (.iload_n 1, 1) := by decide +kernel
theorem dX11_way_2 : decode cX11_way 2 = .ok (.invokevirtual 159, 3) := by decide +kernel
theorem dX11_way_5 : decode cX11_way 5 = .ok (.ifCond .eq 11, 3) := by decide +kernel
theorem dX11_way_8 : decode cX11_way 8 = .ok (.aload_n 0, 1) := by decide +kernel
theorem dX11_way_9 : decode cX11_way 9 = .ok (.iload_n 2, 1) := by decide +kernel
theorem dX11_way_10 : decode cX11_way 10 = .ok (.invokevirtual 159, 3) := by decide +kernel
theorem dX11_way_13 : decode cX11_way 13 = .ok (.ifCond .ne 5, 3) := by decide +kernel
theorem dX11_way_16 : decode cX11_way 16 = .ok (.iconst (-1), 1) := by decide +kernel
theorem dX11_way_17 : decode cX11_way 17 = .ok (.ireturn, 1) := by decide +kernel
theorem dX11_way_18 : decode cX11_way 18 = .ok (.aload_n 0, 1) := by decide +kernel
theorem dX11_way_19 : decode cX11_way 19 = .ok (.getfield 52, 3) := by decide +kernel
theorem dX11_way_22 : decode cX11_way 22 = .ok (.aload_n 0, 1) := by decide +kernel
theorem dX11_way_23 : decode cX11_way 23 = .ok (.getfield 19, 3) := by decide +kernel
theorem dX11_way_26 : decode cX11_way 26 = .ok (.aload_n 0, 1) := by decide +kernel
theorem dX11_way_27 : decode cX11_way 27 = .ok (.invokevirtual 170, 3) := by decide +kernel
theorem dX11_way_30 : decode cX11_way 30 = .ok (.invokevirtual 312, 3) := by decide +kernel
theorem dX11_way_33 : decode cX11_way 33 = .ok (.aload_n 0, 1) := by decide +kernel
theorem dX11_way_34 : decode cX11_way 34 = .ok (.getfield 52, 3) := by decide +kernel
theorem dX11_way_37 : decode cX11_way 37 = .ok (.iload_n 1, 1) := by decide +kernel
theorem dX11_way_38 : decode cX11_way 38 = .ok (.iload_n 2, 1) := by decide +kernel
theorem dX11_way_39 : decode cX11_way 39 = .ok (.invokevirtual 319, 3) := by decide +kernel
theorem dX11_way_42 : decode cX11_way 42 = .ok (.ireturn, 1) := by decide +kernel
set_option maxRecDepth 20000 in
theorem ggX11_feast_X11_isCorner : GoodIn wsX11_feast wsX11_isCorner := goodIn_r _ [9, 3, 95, 96, 97, 98, 99, 100, 101, 102, 103, 104, 105, 106, 107, 108, 109, 110, 111, 119, 120, 121, 122, 123, 124, 125, 126] (by decide +kernel) (by decide +kernel)
set_option maxRecDepth 20000 in
theorem gX11_feast_X11_isCorner : GoodIn wsX11_feast (wsV RX11 159 RX11 yX11_isCorner wsX11_isCorner) := goodIn_app (goodIn_of _ (by decide +kernel)) ggX11_feast_X11_isCorner
set_option maxRecDepth 20000 in
theorem ggX11_feast_X1_lookAt : GoodIn wsX11_feast wsX1_lookAt := goodIn_r _ [13, 14, 15, 16, 17, 18, 19, 20, 21, 22, 23, 24, 25, 26, 27, 28, 29, 30, 31, 32, 33, 34, 35, 36, 37, 38, 39, 40, 41, 42, 43, 44, 45, 46, 47, 48, 49, 50, 51, 52, 53, 54, 55, 56, 57, 58, 59, 112, 113, 114, 115, 116, 117, 118, 127, 128, 129, 130, 131, 132, 133, 119, 120, 121, 122, 123, 124, 125, 126, 134, 135, 136, 137] (by decide +kernel) (by decide +kernel)
set_option maxRecDepth 20000 in
theorem gX11_feast_X1_lookAt_n253 : GoodIn wsX11_feast (wsX1_lookAt) := ggX11_feast_X1_lookAt
set_option maxRecDepth 20000 in
theorem ggX11_feast_X11_openNow : GoodIn wsX11_feast wsX11_openNow := goodIn_r _ [63, 3, 2, 17, 18, 19, 20, 21, 95, 96, 97, 98, 99, 100, 101, 102, 103, 104, 105, 106, 107, 108, 109, 110, 111, 127, 128, 129, 130, 131, 132, 133, 119, 120, 121, 122, 123, 124, 125, 126] (by decide +kernel) (by decide +kernel)
set_option maxRecDepth 20000 in
theorem gX11_feast_X11_openNow : GoodIn wsX11_feast (wsV RX11 170 RX11 yX11_openNow wsX11_openNow) := goodIn_app (goodIn_of _ (by decide +kernel)) ggX11_feast_X11_openNow
set_option maxRecDepth 20000 in
theorem ggX11_feast_X5_reachedFrom : GoodIn wsX11_feast wsX5_reachedFrom := goodIn_r _ [66, 25, 21, 67, 46, 47, 18, 48, 49, 68, 50, 51, 52, 119, 120, 121, 122, 123, 124, 125, 126] (by decide +kernel) (by decide +kernel)
set_option maxRecDepth 20000 in
theorem gX11_feast_X5_reachedFrom_n322 : GoodIn wsX11_feast (wsX5_reachedFrom) := ggX11_feast_X5_reachedFrom
set_option maxRecDepth 20000 in
theorem ggX11_feast_X10_planFeast : GoodIn wsX11_feast wsX10_planFeast := goodIn_r _ [71, 38, 72, 73, 74, 75, 35, 76, 41, 42, 43, 44, 45, 77, 78, 79, 80, 81, 82, 83, 84, 40, 85, 86, 87, 88, 134, 135, 136, 137] (by decide +kernel) (by decide +kernel)
set_option maxRecDepth 20000 in
theorem gX11_feast_X10_planFeast_n325 : GoodIn wsX11_feast (wsX10_planFeast) := ggX11_feast_X10_planFeast
set_option maxRecDepth 20000 in
theorem ggX11_feast_X10_feastYards : GoodIn wsX11_feast wsX10_feastYards := goodIn_r _ [91, 85, 86, 87, 35, 88, 72, 134, 135, 136, 137] (by decide +kernel) (by decide +kernel)
set_option maxRecDepth 20000 in
theorem gX11_feast_X10_feastYards_n328 : GoodIn wsX11_feast (wsX10_feastYards) := ggX11_feast_X10_feastYards
set_option maxRecDepth 20000 in
theorem ggX11_feast_X10_feastRow : GoodIn wsX11_feast wsX10_feastRow := goodIn_r _ [94, 38, 77, 78, 79, 35, 80, 41, 42, 43, 44, 45, 81, 82, 83, 84, 40, 85, 86, 87, 88, 72, 134, 135, 136, 137] (by decide +kernel) (by decide +kernel)
set_option maxRecDepth 20000 in
theorem gX11_feast_X10_feastRow_n331 : GoodIn wsX11_feast (wsX10_feastRow) := ggX11_feast_X10_feastRow
theorem dX11_feast_0 : decode cX11_feast 0 = .ok (.aload_n 0, 1) := by decide +kernel
theorem dX11_feast_1 : decode cX11_feast 1 = .ok (.iload_n 1, 1) := by decide +kernel
theorem dX11_feast_2 : decode cX11_feast 2 = .ok (.invokevirtual 159, 3) := by decide +kernel
theorem dX11_feast_5 : decode cX11_feast 5 = .ok (.ifCond .eq 12, 3) := by decide +kernel
theorem dX11_feast_8 : decode cX11_feast 8 = .ok (.iload_n 2, 1) := by decide +kernel
theorem dX11_feast_9 : decode cX11_feast 9 = .ok (.ifCond .lt 8, 3) := by decide +kernel
theorem dX11_feast_12 : decode cX11_feast 12 = .ok (.iload_n 2, 1) := by decide +kernel
theorem dX11_feast_13 : decode cX11_feast 13 = .ok (.iconst 1, 1) := by decide +kernel
theorem dX11_feast_14 : decode cX11_feast 14 = .ok (.if_icmp .le 5, 3) := by decide +kernel
theorem dX11_feast_17 : decode cX11_feast 17 = .ok (.iconst (-1), 1) := by decide +kernel
theorem dX11_feast_18 : decode cX11_feast 18 = .ok (.ireturn, 1) := by decide +kernel
theorem dX11_feast_19 : decode cX11_feast 19 = .ok (.aload_n 0, 1) := by decide +kernel
theorem dX11_feast_20 : decode cX11_feast 20 = .ok (.getfield 61, 3) := by decide +kernel
theorem dX11_feast_23 : decode cX11_feast 23 = .ok (.aload_n 0, 1) := by decide +kernel
theorem dX11_feast_24 : decode cX11_feast 24 = .ok (.getfield 75, 3) := by decide +kernel
theorem dX11_feast_27 : decode cX11_feast 27 = .ok (.invokevirtual 253, 3) := by decide +kernel
theorem dX11_feast_30 : decode cX11_feast 30 = .ok (.aload_n 0, 1) := by decide +kernel
theorem dX11_feast_31 : decode cX11_feast 31 = .ok (.getfield 61, 3) := by decide +kernel
theorem dX11_feast_34 : decode cX11_feast 34 = .ok (.getfield 309, 3) := by decide +kernel
theorem dX11_feast_37 : decode cX11_feast 37 = .ok (.istore_n 3, 1) := by decide +kernel
theorem dX11_feast_38 : decode cX11_feast 38 = .ok (.iload_n 3, 1) := by decide +kernel
theorem dX11_feast_39 : decode cX11_feast 39 = .ok (.ifCond .ne 13, 3) := by decide +kernel
theorem dX11_feast_42 : decode cX11_feast 42 = .ok (.iload_n 2, 1) := by decide +kernel
theorem dX11_feast_43 : decode cX11_feast 43 = .ok (.ifCond .ne 7, 3) := by decide +kernel
theorem dX11_feast_46 : decode cX11_feast 46 = .ok (.iconst 0, 1) := by decide +kernel
theorem dX11_feast_47 : decode cX11_feast 47 = .ok (.goto 4, 3) := by decide +kernel
theorem dX11_feast_50 : decode cX11_feast 50 = .ok (.iconst (-1), 1) := by decide +kernel
theorem dX11_feast_51 : decode cX11_feast 51 = .ok (.ireturn, 1) := by decide +kernel
theorem dX11_feast_52 : decode cX11_feast 52 = .ok (.iload_n 3, 1) := by decide +kernel
theorem dX11_feast_53 : decode cX11_feast 53 = .ok (.aload_n 0, 1) := by decide +kernel
theorem dX11_feast_54 : decode cX11_feast 54 = .ok (.getfield 19, 3) := by decide +kernel
theorem dX11_feast_57 : decode cX11_feast 57 = .ok (.iload_n 1, 1) := by decide +kernel
theorem dX11_feast_58 : decode cX11_feast 58 = .ok (.aload_n 0, 1) := by decide +kernel
theorem dX11_feast_59 : decode cX11_feast 59 = .ok (.invokevirtual 170, 3) := by decide +kernel
theorem dX11_feast_62 : decode cX11_feast 62 = .ok (.invokevirtual 322, 3) := by decide +kernel
theorem dX11_feast_65 : decode cX11_feast 65 = .ok (.iconst (-1), 1) := by decide +kernel
theorem dX11_feast_66 : decode cX11_feast 66 = .ok (.ixor, 1) := by decide +kernel
theorem dX11_feast_67 : decode cX11_feast 67 = .ok (.iand, 1) := by decide +kernel
theorem dX11_feast_68 : decode cX11_feast 68 = .ok (.ifCond .eq 5, 3) := by decide +kernel
theorem dX11_feast_71 : decode cX11_feast 71 = .ok (.iconst (-1), 1) := by decide +kernel
theorem dX11_feast_72 : decode cX11_feast 72 = .ok (.ireturn, 1) := by decide +kernel
theorem dX11_feast_73 : decode cX11_feast 73 = .ok (.aload_n 0, 1) := by decide +kernel
theorem dX11_feast_74 : decode cX11_feast 74 = .ok (.getfield 52, 3) := by decide +kernel
theorem dX11_feast_77 : decode cX11_feast 77 = .ok (.iload_n 3, 1) := by decide +kernel
theorem dX11_feast_78 : decode cX11_feast 78 = .ok (.invokevirtual 325, 3) := by decide +kernel
theorem dX11_feast_81 : decode cX11_feast 81 = .ok (.iload_n 2, 1) := by decide +kernel
theorem dX11_feast_82 : decode cX11_feast 82 = .ok (.ifCond .ne 15, 3) := by decide +kernel
theorem dX11_feast_85 : decode cX11_feast 85 = .ok (.aload_n 0, 1) := by decide +kernel
theorem dX11_feast_86 : decode cX11_feast 86 = .ok (.getfield 52, 3) := by decide +kernel
theorem dX11_feast_89 : decode cX11_feast 89 = .ok (.iload_n 1, 1) := by decide +kernel
theorem dX11_feast_90 : decode cX11_feast 90 = .ok (.iload_n 3, 1) := by decide +kernel
theorem dX11_feast_91 : decode cX11_feast 91 = .ok (.invokevirtual 328, 3) := by decide +kernel
theorem dX11_feast_94 : decode cX11_feast 94 = .ok (.goto 12, 3) := by decide +kernel
theorem dX11_feast_97 : decode cX11_feast 97 = .ok (.aload_n 0, 1) := by decide +kernel
theorem dX11_feast_98 : decode cX11_feast 98 = .ok (.getfield 52, 3) := by decide +kernel
theorem dX11_feast_101 : decode cX11_feast 101 = .ok (.iload_n 1, 1) := by decide +kernel
theorem dX11_feast_102 : decode cX11_feast 102 = .ok (.iload_n 3, 1) := by decide +kernel
theorem dX11_feast_103 : decode cX11_feast 103 = .ok (.invokevirtual 331, 3) := by decide +kernel
theorem dX11_feast_106 : decode cX11_feast 106 = .ok (.ireturn, 1) := by decide +kernel
set_option maxRecDepth 20000 in
theorem ggX11_around_X11_isCorner : GoodIn wsX11_around wsX11_isCorner := goodIn_r _ [7, 2, 47, 48, 49, 50, 51, 52, 53, 54, 55, 56, 57, 58, 59, 60, 61, 62, 63, 64, 65, 66, 67, 68, 69, 70, 71] (by decide +kernel) (by decide +kernel)
set_option maxRecDepth 20000 in
theorem gX11_around_X11_isCorner : GoodIn wsX11_around (wsV RX11 159 RX11 yX11_isCorner wsX11_isCorner) := goodIn_app (goodIn_of _ (by decide +kernel)) ggX11_around_X11_isCorner
set_option maxRecDepth 20000 in
theorem ggX11_around_X11_openNow : GoodIn wsX11_around wsX11_openNow := goodIn_r _ [11, 2, 12, 13, 14, 15, 16, 17, 47, 48, 49, 50, 51, 52, 53, 54, 55, 56, 57, 58, 59, 60, 61, 62, 63, 72, 73, 74, 75, 76, 77, 78, 64, 65, 66, 67, 68, 69, 70, 71] (by decide +kernel) (by decide +kernel)
set_option maxRecDepth 20000 in
theorem gX11_around_X11_openNow : GoodIn wsX11_around (wsV RX11 170 RX11 yX11_openNow wsX11_openNow) := goodIn_app (goodIn_of _ (by decide +kernel)) ggX11_around_X11_openNow
set_option maxRecDepth 20000 in
theorem ggX11_around_X10_measure : GoodIn wsX11_around wsX10_measure := goodIn_r _ [21, 22, 23, 24, 25, 26, 27, 28, 29, 30, 14, 31, 32, 33, 34, 35, 36, 37, 38, 39, 40, 41, 42, 19, 43, 64, 65, 66, 67, 68, 69, 70, 71, 79, 80, 81, 82] (by decide +kernel) (by decide +kernel)
set_option maxRecDepth 20000 in
theorem gX11_around_X10_measure_n312 : GoodIn wsX11_around (wsX10_measure) := ggX11_around_X10_measure
set_option maxRecDepth 20000 in
theorem ggX11_around_X10_yardsBetween : GoodIn wsX11_around wsX10_yardsBetween := goodIn_r _ [46, 24, 25, 79, 80, 81, 82] (by decide +kernel) (by decide +kernel)
set_option maxRecDepth 20000 in
theorem gX11_around_X10_yardsBetween_n316 : GoodIn wsX11_around (wsX10_yardsBetween) := ggX11_around_X10_yardsBetween
theorem dX11_around_0 : decode cX11_around 0 = .ok (.aload_n 0, 1) := by decide +kernel
theorem dX11_around_1 : decode cX11_around 1 = .ok (.iload_n 1, 1) := by decide +kernel
theorem dX11_around_2 : decode cX11_around 2 = .ok (.invokevirtual 159, 3) := by decide +kernel
theorem dX11_around_5 : decode cX11_around 5 = .ok (.ifCond .eq 13, 3) := by decide +kernel
theorem dX11_around_8 : decode cX11_around 8 = .ok (.iload_n 2, 1) := by decide +kernel
theorem dX11_around_9 : decode cX11_around 9 = .ok (.ifCond .lt 9, 3) := by decide +kernel
theorem dX11_around_12 : decode cX11_around 12 = .ok (.iload_n 2, 1) := by decide +kernel
theorem dX11_around_13 : decode cX11_around 13 = .ok (.bipush 99, 2) := by decide +kernel
theorem dX11_around_15 : decode cX11_around 15 = .ok (.if_icmp .le 5, 3) := by decide +kernel
theorem dX11_around_18 : decode cX11_around 18 = .ok (.iconst (-1), 1) := by decide +kernel
theorem dX11_around_19 : decode cX11_around 19 = .ok (.ireturn, 1) := by decide +kernel
theorem dX11_around_20 : decode cX11_around 20 = .ok (.aload_n 0, 1) := by decide +kernel
theorem dX11_around_21 : decode cX11_around 21 = .ok (.getfield 52, 3) := by decide +kernel
theorem dX11_around_24 : decode cX11_around 24 = .ok (.aload_n 0, 1) := by decide +kernel
theorem dX11_around_25 : decode cX11_around 25 = .ok (.getfield 19, 3) := by decide +kernel
theorem dX11_around_28 : decode cX11_around 28 = .ok (.aload_n 0, 1) := by decide +kernel
theorem dX11_around_29 : decode cX11_around 29 = .ok (.invokevirtual 170, 3) := by decide +kernel
theorem dX11_around_32 : decode cX11_around 32 = .ok (.invokevirtual 312, 3) := by decide +kernel
theorem dX11_around_35 : decode cX11_around 35 = .ok (.iconst 0, 1) := by decide +kernel
theorem dX11_around_36 : decode cX11_around 36 = .ok (.istore_n 3, 1) := by decide +kernel
theorem dX11_around_37 : decode cX11_around 37 = .ok (.iconst 0, 1) := by decide +kernel
theorem dX11_around_38 : decode cX11_around 38 = .ok (.istore 4, 2) := by decide +kernel
theorem dX11_around_40 : decode cX11_around 40 = .ok (.iload 4, 2) := by decide +kernel
theorem dX11_around_42 : decode cX11_around 42 = .ok (.aload_n 0, 1) := by decide +kernel
theorem dX11_around_43 : decode cX11_around 43 = .ok (.getfield 19, 3) := by decide +kernel
theorem dX11_around_46 : decode cX11_around 46 = .ok (.getfield 216, 3) := by decide +kernel
theorem dX11_around_49 : decode cX11_around 49 = .ok (.if_icmp .ge 40, 3) := by decide +kernel
theorem dX11_around_52 : decode cX11_around 52 = .ok (.aload_n 0, 1) := by decide +kernel
theorem dX11_around_53 : decode cX11_around 53 = .ok (.getfield 52, 3) := by decide +kernel
theorem dX11_around_56 : decode cX11_around 56 = .ok (.iload_n 1, 1) := by decide +kernel
theorem dX11_around_57 : decode cX11_around 57 = .ok (.iload 4, 2) := by decide +kernel
theorem dX11_around_59 : decode cX11_around 59 = .ok (.invokevirtual 316, 3) := by decide +kernel
theorem dX11_around_62 : decode cX11_around 62 = .ok (.istore 5, 2) := by decide +kernel
theorem dX11_around_64 : decode cX11_around 64 = .ok (.iload 5, 2) := by decide +kernel
theorem dX11_around_66 : decode cX11_around 66 = .ok (.iconst (-1), 1) := by decide +kernel
theorem dX11_around_67 : decode cX11_around 67 = .ok (.if_icmp .eq 16, 3) := by decide +kernel
theorem dX11_around_70 : decode cX11_around 70 = .ok (.iload 5, 2) := by decide +kernel
theorem dX11_around_72 : decode cX11_around 72 = .ok (.iload_n 2, 1) := by decide +kernel
theorem dX11_around_73 : decode cX11_around 73 = .ok (.if_icmp .gt 10, 3) := by decide +kernel
theorem dX11_around_76 : decode cX11_around 76 = .ok (.iload_n 3, 1) := by decide +kernel
theorem dX11_around_77 : decode cX11_around 77 = .ok (.iconst 1, 1) := by decide +kernel
theorem dX11_around_78 : decode cX11_around 78 = .ok (.iload 4, 2) := by decide +kernel
theorem dX11_around_80 : decode cX11_around 80 = .ok (.ishl, 1) := by decide +kernel
theorem dX11_around_81 : decode cX11_around 81 = .ok (.ior, 1) := by decide +kernel
theorem dX11_around_82 : decode cX11_around 82 = .ok (.istore_n 3, 1) := by decide +kernel
theorem dX11_around_83 : decode cX11_around 83 = .ok (.iinc 4 1, 3) := by decide +kernel
theorem dX11_around_86 : decode cX11_around 86 = .ok (.goto (-46), 3) := by decide +kernel
theorem dX11_around_89 : decode cX11_around 89 = .ok (.iload_n 3, 1) := by decide +kernel
theorem dX11_around_90 : decode cX11_around 90 = .ok (.ireturn, 1) := by decide +kernel
set_option maxRecDepth 20000 in
theorem ggX11_soon_X11_isWalker : GoodIn wsX11_soon wsX11_isWalker := goodIn_r _ [8, 9, 150, 151, 152, 153, 154, 155, 156, 157, 158, 159, 160, 161, 162, 163, 164, 165, 166, 174, 175, 176, 177, 178, 179, 180, 181] (by decide +kernel) (by decide +kernel)
set_option maxRecDepth 20000 in
theorem gX11_soon_X11_isWalker : GoodIn wsX11_soon (wsV RX11 196 RX11 yX11_isWalker wsX11_isWalker) := goodIn_app (goodIn_of _ (by decide +kernel)) ggX11_soon_X11_isWalker
set_option maxRecDepth 20000 in
theorem ggX11_soon_X6_become : GoodIn wsX11_soon wsX6_become := goodIn_r _ [13, 14, 15, 16, 17, 18, 19, 20, 21, 22, 23, 24, 182, 183, 184, 185, 186, 187, 188] (by decide +kernel) (by decide +kernel)
set_option maxRecDepth 20000 in
theorem gX11_soon_X6_become_n294 : GoodIn wsX11_soon (wsX6_become) := ggX11_soon_X6_become
set_option maxRecDepth 20000 in
theorem ggX11_soon_X1_lookAt : GoodIn wsX11_soon wsX1_lookAt := goodIn_r _ [28, 29, 30, 31, 32, 33, 34, 35, 36, 37, 38, 39, 40, 41, 42, 43, 44, 45, 46, 47, 48, 49, 50, 51, 52, 53, 54, 55, 56, 57, 58, 59, 60, 61, 62, 63, 64, 65, 66, 67, 68, 69, 70, 71, 72, 73, 74, 167, 168, 169, 170, 171, 172, 173, 182, 183, 184, 185, 186, 187, 188, 174, 175, 176, 177, 178, 179, 180, 181, 189, 190, 191, 192] (by decide +kernel) (by decide +kernel)
set_option maxRecDepth 20000 in
theorem gX11_soon_X1_lookAt_n253 : GoodIn wsX11_soon (wsX1_lookAt) := ggX11_soon_X1_lookAt
set_option maxRecDepth 20000 in
theorem ggX11_soon_X1_passDay : GoodIn wsX11_soon wsX1_passDay := goodIn_r _ [77, 78, 79, 80, 29, 81, 82, 59, 83, 84, 58, 60, 85, 86, 87, 26, 88, 89, 90, 91, 92, 93, 31, 94, 30, 95, 96, 97, 98, 99, 50, 100, 101, 55, 56, 102, 43, 44, 45, 46, 47, 48, 103, 104, 105, 106, 107, 108, 109, 110, 111, 112, 113, 114, 115, 116, 117, 118, 119, 120, 121, 122, 123, 124, 125, 126, 127, 128, 129, 130, 131, 132, 133, 134, 135, 136, 137, 138, 139, 140, 141, 142, 143, 144, 145, 146, 147, 148, 149, 167, 168, 169, 170, 171, 172, 173, 174, 175, 176, 177, 178, 179, 180, 181, 182, 183, 184, 185, 186, 187, 188, 193, 194, 195, 196, 197, 198, 199, 200, 201, 202, 203, 204, 189, 190, 191, 192] (by decide +kernel) (by decide +kernel)
set_option maxRecDepth 20000 in
theorem gX11_soon_X1_passDay_n256 : GoodIn wsX11_soon (wsX1_passDay) := ggX11_soon_X1_passDay
theorem dX11_soon_0 : decode cX11_soon 0 = .ok (.aload_n 0, 1) := by decide +kernel
theorem dX11_soon_1 : decode cX11_soon 1 = .ok (.iload_n 1, 1) := by decide +kernel
theorem dX11_soon_2 : decode cX11_soon 2 = .ok (.invokevirtual 196, 3) := by decide +kernel
theorem dX11_soon_5 : decode cX11_soon 5 = .ok (.ifCond .ne 5, 3) := by decide +kernel
theorem dX11_soon_8 : decode cX11_soon 8 = .ok (.iconst (-1), 1) := by decide +kernel
theorem dX11_soon_9 : decode cX11_soon 9 = .ok (.ireturn, 1) := by decide +kernel
theorem dX11_soon_10 : decode cX11_soon 10 = .ok (.aload_n 0, 1) := by decide +kernel
theorem dX11_soon_11 : decode cX11_soon 11 = .ok (.getfield 79, 3) := by decide +kernel
theorem dX11_soon_14 : decode cX11_soon 14 = .ok (.aload_n 0, 1) := by decide +kernel
theorem dX11_soon_15 : decode cX11_soon 15 = .ok (.getfield 75, 3) := by decide +kernel
theorem dX11_soon_18 : decode cX11_soon 18 = .ok (.invokevirtual 294, 3) := by decide +kernel
theorem dX11_soon_21 : decode cX11_soon 21 = .ok (.aload_n 0, 1) := by decide +kernel
theorem dX11_soon_22 : decode cX11_soon 22 = .ok (.getfield 61, 3) := by decide +kernel
theorem dX11_soon_25 : decode cX11_soon 25 = .ok (.aload_n 0, 1) := by decide +kernel
theorem dX11_soon_26 : decode cX11_soon 26 = .ok (.getfield 79, 3) := by decide +kernel
theorem dX11_soon_29 : decode cX11_soon 29 = .ok (.invokevirtual 253, 3) := by decide +kernel
theorem dX11_soon_32 : decode cX11_soon 32 = .ok (.iconst 1, 1) := by decide +kernel
theorem dX11_soon_33 : decode cX11_soon 33 = .ok (.istore_n 2, 1) := by decide +kernel
theorem dX11_soon_34 : decode cX11_soon 34 = .ok (.iload_n 2, 1) := by decide +kernel
theorem dX11_soon_35 : decode cX11_soon 35 = .ok (.bipush 60, 2) := by decide +kernel
theorem dX11_soon_37 : decode cX11_soon 37 = .ok (.if_icmp .gt 36, 3) := by decide +kernel
theorem dX11_soon_40 : decode cX11_soon 40 = .ok (.aload_n 0, 1) := by decide +kernel
theorem dX11_soon_41 : decode cX11_soon 41 = .ok (.getfield 61, 3) := by decide +kernel
theorem dX11_soon_44 : decode cX11_soon 44 = .ok (.aload_n 0, 1) := by decide +kernel
theorem dX11_soon_45 : decode cX11_soon 45 = .ok (.getfield 79, 3) := by decide +kernel
theorem dX11_soon_48 : decode cX11_soon 48 = .ok (.invokevirtual 256, 3) := by decide +kernel
theorem dX11_soon_51 : decode cX11_soon 51 = .ok (.aload_n 0, 1) := by decide +kernel
theorem dX11_soon_52 : decode cX11_soon 52 = .ok (.getfield 61, 3) := by decide +kernel
theorem dX11_soon_55 : decode cX11_soon 55 = .ok (.getfield 262, 3) := by decide +kernel
theorem dX11_soon_58 : decode cX11_soon 58 = .ok (.iload_n 1, 1) := by decide +kernel
theorem dX11_soon_59 : decode cX11_soon 59 = .ok (.ishr, 1) := by decide +kernel
theorem dX11_soon_60 : decode cX11_soon 60 = .ok (.iconst 1, 1) := by decide +kernel
theorem dX11_soon_61 : decode cX11_soon 61 = .ok (.iand, 1) := by decide +kernel
theorem dX11_soon_62 : decode cX11_soon 62 = .ok (.ifCond .eq 5, 3) := by decide +kernel
theorem dX11_soon_65 : decode cX11_soon 65 = .ok (.iload_n 2, 1) := by decide +kernel
theorem dX11_soon_66 : decode cX11_soon 66 = .ok (.ireturn, 1) := by decide +kernel
theorem dX11_soon_67 : decode cX11_soon 67 = .ok (.iinc 2 1, 3) := by decide +kernel
theorem dX11_soon_70 : decode cX11_soon 70 = .ok (.goto (-36), 3) := by decide +kernel
theorem dX11_soon_73 : decode cX11_soon 73 = .ok (.iconst (-1), 1) := by decide +kernel
theorem dX11_soon_74 : decode cX11_soon 74 = .ok (.ireturn, 1) := by decide +kernel
set_option maxRecDepth 20000 in
theorem ggX11_worn_X11_isCorner : GoodIn wsX11_worn wsX11_isCorner := goodIn_r _ [8, 9, 150, 151, 152, 153, 154, 155, 156, 157, 158, 159, 160, 161, 162, 163, 164, 165, 166, 174, 175, 176, 177, 178, 179, 180, 181] (by decide +kernel) (by decide +kernel)
set_option maxRecDepth 20000 in
theorem gX11_worn_X11_isCorner : GoodIn wsX11_worn (wsV RX11 159 RX11 yX11_isCorner wsX11_isCorner) := goodIn_app (goodIn_of _ (by decide +kernel)) ggX11_worn_X11_isCorner
set_option maxRecDepth 20000 in
theorem ggX11_worn_X6_become : GoodIn wsX11_worn wsX6_become := goodIn_r _ [13, 14, 15, 16, 17, 18, 19, 20, 21, 22, 23, 24, 167, 168, 169, 170, 171, 172, 173] (by decide +kernel) (by decide +kernel)
set_option maxRecDepth 20000 in
theorem gX11_worn_X6_become_n294 : GoodIn wsX11_worn (wsX6_become) := ggX11_worn_X6_become
set_option maxRecDepth 20000 in
theorem ggX11_worn_X1_lookAt : GoodIn wsX11_worn wsX1_lookAt := goodIn_r _ [28, 29, 30, 31, 32, 33, 34, 35, 36, 37, 38, 39, 40, 41, 42, 43, 44, 45, 46, 47, 48, 49, 50, 51, 52, 53, 54, 55, 56, 57, 58, 59, 60, 61, 62, 63, 64, 65, 66, 67, 68, 69, 70, 71, 72, 73, 74, 182, 183, 184, 185, 186, 187, 188, 167, 168, 169, 170, 171, 172, 173, 174, 175, 176, 177, 178, 179, 180, 181, 189, 190, 191, 192] (by decide +kernel) (by decide +kernel)
set_option maxRecDepth 20000 in
theorem gX11_worn_X1_lookAt_n253 : GoodIn wsX11_worn (wsX1_lookAt) := ggX11_worn_X1_lookAt
set_option maxRecDepth 20000 in
theorem ggX11_worn_X1_passDay : GoodIn wsX11_worn wsX1_passDay := goodIn_r _ [77, 78, 79, 80, 29, 81, 82, 59, 83, 84, 58, 60, 85, 86, 87, 26, 88, 89, 90, 91, 92, 93, 31, 94, 30, 95, 96, 97, 98, 99, 50, 100, 101, 55, 56, 102, 43, 44, 45, 46, 47, 48, 103, 104, 105, 106, 107, 108, 109, 110, 111, 112, 113, 114, 115, 116, 117, 118, 119, 120, 121, 122, 123, 124, 125, 126, 127, 128, 129, 130, 131, 132, 133, 134, 135, 136, 137, 138, 139, 140, 141, 142, 143, 144, 145, 146, 147, 148, 149, 182, 183, 184, 185, 186, 187, 188, 174, 175, 176, 177, 178, 179, 180, 181, 167, 168, 169, 170, 171, 172, 173, 193, 194, 195, 196, 197, 198, 199, 200, 201, 202, 203, 204, 189, 190, 191, 192] (by decide +kernel) (by decide +kernel)
set_option maxRecDepth 20000 in
theorem gX11_worn_X1_passDay_n256 : GoodIn wsX11_worn (wsX1_passDay) := ggX11_worn_X1_passDay
theorem dX11_worn_0 : decode cX11_worn 0 = .ok (.aload_n 0, 1) := by decide +kernel
theorem dX11_worn_1 : decode cX11_worn 1 = .ok (.iload_n 1, 1) := by decide +kernel
theorem dX11_worn_2 : decode cX11_worn 2 = .ok (.invokevirtual 159, 3) := by decide +kernel
theorem dX11_worn_5 : decode cX11_worn 5 = .ok (.ifCond .eq 15, 3) := by decide +kernel
theorem dX11_worn_8 : decode cX11_worn 8 = .ok (.iload_n 2, 1) := by decide +kernel
theorem dX11_worn_9 : decode cX11_worn 9 = .ok (.iconst 1, 1) := by decide +kernel
theorem dX11_worn_10 : decode cX11_worn 10 = .ok (.if_icmp .lt 10, 3) := by decide +kernel
theorem dX11_worn_13 : decode cX11_worn 13 = .ok (.iload_n 2, 1) := by decide +kernel
theorem dX11_worn_14 : decode cX11_worn 14 = .ok (.sipush 999, 3) := by decide +kernel
theorem dX11_worn_17 : decode cX11_worn 17 = .ok (.if_icmp .le 5, 3) := by decide +kernel
theorem dX11_worn_20 : decode cX11_worn 20 = .ok (.iconst (-1), 1) := by decide +kernel
theorem dX11_worn_21 : decode cX11_worn 21 = .ok (.ireturn, 1) := by decide +kernel
theorem dX11_worn_22 : decode cX11_worn 22 = .ok (.aload_n 0, 1) := by decide +kernel
theorem dX11_worn_23 : decode cX11_worn 23 = .ok (.getfield 79, 3) := by decide +kernel
theorem dX11_worn_26 : decode cX11_worn 26 = .ok (.aload_n 0, 1) := by decide +kernel
theorem dX11_worn_27 : decode cX11_worn 27 = .ok (.getfield 75, 3) := by decide +kernel
theorem dX11_worn_30 : decode cX11_worn 30 = .ok (.invokevirtual 294, 3) := by decide +kernel
theorem dX11_worn_33 : decode cX11_worn 33 = .ok (.aload_n 0, 1) := by decide +kernel
theorem dX11_worn_34 : decode cX11_worn 34 = .ok (.getfield 61, 3) := by decide +kernel
theorem dX11_worn_37 : decode cX11_worn 37 = .ok (.aload_n 0, 1) := by decide +kernel
theorem dX11_worn_38 : decode cX11_worn 38 = .ok (.getfield 79, 3) := by decide +kernel
theorem dX11_worn_41 : decode cX11_worn 41 = .ok (.invokevirtual 253, 3) := by decide +kernel
theorem dX11_worn_44 : decode cX11_worn 44 = .ok (.iconst 0, 1) := by decide +kernel
theorem dX11_worn_45 : decode cX11_worn 45 = .ok (.istore_n 3, 1) := by decide +kernel
theorem dX11_worn_46 : decode cX11_worn 46 = .ok (.iload_n 3, 1) := by decide +kernel
theorem dX11_worn_47 : decode cX11_worn 47 = .ok (.bipush 60, 2) := by decide +kernel
theorem dX11_worn_49 : decode cX11_worn 49 = .ok (.if_icmp .gt 35, 3) := by decide +kernel
theorem dX11_worn_52 : decode cX11_worn 52 = .ok (.aload_n 0, 1) := by decide +kernel
theorem dX11_worn_53 : decode cX11_worn 53 = .ok (.getfield 79, 3) := by decide +kernel
theorem dX11_worn_56 : decode cX11_worn 56 = .ok (.getfield 163, 3) := by decide +kernel
theorem dX11_worn_59 : decode cX11_worn 59 = .ok (.iload_n 1, 1) := by decide +kernel
theorem dX11_worn_60 : decode cX11_worn 60 = .ok (.iaload, 1) := by decide +kernel
theorem dX11_worn_61 : decode cX11_worn 61 = .ok (.iload_n 2, 1) := by decide +kernel
theorem dX11_worn_62 : decode cX11_worn 62 = .ok (.if_icmp .lt 5, 3) := by decide +kernel
theorem dX11_worn_65 : decode cX11_worn 65 = .ok (.iload_n 3, 1) := by decide +kernel
theorem dX11_worn_66 : decode cX11_worn 66 = .ok (.ireturn, 1) := by decide +kernel
theorem dX11_worn_67 : decode cX11_worn 67 = .ok (.aload_n 0, 1) := by decide +kernel
theorem dX11_worn_68 : decode cX11_worn 68 = .ok (.getfield 61, 3) := by decide +kernel
theorem dX11_worn_71 : decode cX11_worn 71 = .ok (.aload_n 0, 1) := by decide +kernel
theorem dX11_worn_72 : decode cX11_worn 72 = .ok (.getfield 79, 3) := by decide +kernel
theorem dX11_worn_75 : decode cX11_worn 75 = .ok (.invokevirtual 256, 3) := by decide +kernel
theorem dX11_worn_78 : decode cX11_worn 78 = .ok (.iinc 3 1, 3) := by decide +kernel
theorem dX11_worn_81 : decode cX11_worn 81 = .ok (.goto (-35), 3) := by decide +kernel
theorem dX11_worn_84 : decode cX11_worn 84 = .ok (.iconst (-1), 1) := by decide +kernel
theorem dX11_worn_85 : decode cX11_worn 85 = .ok (.ireturn, 1) := by decide +kernel
set_option maxRecDepth 20000 in
theorem ggX11_seen_X11_isCorner : GoodIn wsX11_seen wsX11_isCorner := goodIn_r _ [6, 7, 15, 16, 17, 18, 19, 20, 21, 22, 23, 24, 25, 26, 27, 28, 29, 30, 31, 32, 33, 34, 35, 36, 37, 38, 39] (by decide +kernel) (by decide +kernel)
set_option maxRecDepth 20000 in
theorem gX11_seen_X11_isCorner : GoodIn wsX11_seen (wsV RX11 159 RX11 yX11_isCorner wsX11_isCorner) := goodIn_app (goodIn_of _ (by decide +kernel)) ggX11_seen_X11_isCorner
set_option maxRecDepth 20000 in
theorem ggX11_seen_X7_add : GoodIn wsX11_seen wsX7_add := goodIn_r _ [11, 12, 13, 14, 40, 41, 42, 43, 44, 45] (by decide +kernel) (by decide +kernel)
set_option maxRecDepth 20000 in
theorem gX11_seen_X7_add_n334 : GoodIn wsX11_seen (wsX7_add) := ggX11_seen_X7_add
theorem dX11_seen_0 : decode cX11_seen 0 = .ok (.aload_n 0, 1) := by decide +kernel
theorem dX11_seen_1 : decode cX11_seen 1 = .ok (.iload_n 1, 1) := by decide +kernel
theorem dX11_seen_2 : decode cX11_seen 2 = .ok (.invokevirtual 159, 3) := by decide +kernel
theorem dX11_seen_5 : decode cX11_seen 5 = .ok (.ifCond .ne 5, 3) := by decide +kernel
theorem dX11_seen_8 : decode cX11_seen 8 = .ok (.iconst (-1), 1) := by decide +kernel
theorem dX11_seen_9 : decode cX11_seen 9 = .ok (.ireturn, 1) := by decide +kernel
theorem dX11_seen_10 : decode cX11_seen 10 = .ok (.aload_n 0, 1) := by decide +kernel
theorem dX11_seen_11 : decode cX11_seen 11 = .ok (.getfield 68, 3) := by decide +kernel
theorem dX11_seen_14 : decode cX11_seen 14 = .ok (.iload_n 1, 1) := by decide +kernel
theorem dX11_seen_15 : decode cX11_seen 15 = .ok (.iload_n 2, 1) := by decide +kernel
theorem dX11_seen_16 : decode cX11_seen 16 = .ok (.invokevirtual 334, 3) := by decide +kernel
theorem dX11_seen_19 : decode cX11_seen 19 = .ok (.ireturn, 1) := by decide +kernel
set_option maxRecDepth 20000 in
theorem ggX11_knocked_X11_hasTown : GoodIn wsX11_knocked wsX11_hasTown := goodIn_r _ [8, 2, 40, 41, 42, 43, 44, 45, 46, 47, 48, 49, 50, 51, 52, 53, 54, 55, 56, 70, 71, 72, 73, 74, 75, 76, 77] (by decide +kernel) (by decide +kernel)
set_option maxRecDepth 20000 in
theorem gX11_knocked_X11_hasTown : GoodIn wsX11_knocked (wsV RX11 239 RX11 yX11_hasTown wsX11_hasTown) := goodIn_app (goodIn_of _ (by decide +kernel)) ggX11_knocked_X11_hasTown
set_option maxRecDepth 20000 in
theorem ggX11_knocked_X7_gather : GoodIn wsX11_knocked wsX7_gather := goodIn_r _ [12, 13, 14, 15, 16, 17, 18, 19, 20, 21, 22, 23, 24, 25, 26, 27, 28, 29, 30, 31, 32, 33, 10, 34, 35, 36, 37, 38, 39, 64, 65, 66, 67, 68, 69, 70, 71, 72, 73, 74, 75, 76, 77] (by decide +kernel) (by decide +kernel)
set_option maxRecDepth 20000 in
theorem gX11_knocked_X7_gather_n338 : GoodIn wsX11_knocked (wsX7_gather) := ggX11_knocked_X7_gather
theorem dX11_knocked_0 : decode cX11_knocked 0 = .ok (.aload_n 0, 1) := by decide +kernel
theorem dX11_knocked_1 : decode cX11_knocked 1 = .ok (.invokevirtual 239, 3) := by decide +kernel
theorem dX11_knocked_4 : decode cX11_knocked 4 = .ok (.ifCond .ne 5, 3) := by decide +kernel
theorem dX11_knocked_7 : decode cX11_knocked 7 = .ok (.iconst (-1), 1) := by decide +kernel
theorem dX11_knocked_8 : decode cX11_knocked 8 = .ok (.ireturn, 1) := by decide +kernel
theorem dX11_knocked_9 : decode cX11_knocked 9 = .ok (.aload_n 0, 1) := by decide +kernel
theorem dX11_knocked_10 : decode cX11_knocked 10 = .ok (.getfield 68, 3) := by decide +kernel
theorem dX11_knocked_13 : decode cX11_knocked 13 = .ok (.aload_n 0, 1) := by decide +kernel
theorem dX11_knocked_14 : decode cX11_knocked 14 = .ok (.getfield 19, 3) := by decide +kernel
theorem dX11_knocked_17 : decode cX11_knocked 17 = .ok (.aload_n 0, 1) := by decide +kernel
theorem dX11_knocked_18 : decode cX11_knocked 18 = .ok (.getfield 75, 3) := by decide +kernel
theorem dX11_knocked_21 : decode cX11_knocked 21 = .ok (.getfield 193, 3) := by decide +kernel
theorem dX11_knocked_24 : decode cX11_knocked 24 = .ok (.invokevirtual 338, 3) := by decide +kernel
theorem dX11_knocked_27 : decode cX11_knocked 27 = .ok (.istore_n 2, 1) := by decide +kernel
theorem dX11_knocked_28 : decode cX11_knocked 28 = .ok (.iload_n 1, 1) := by decide +kernel
theorem dX11_knocked_29 : decode cX11_knocked 29 = .ok (.iconst (-1), 1) := by decide +kernel
theorem dX11_knocked_30 : decode cX11_knocked 30 = .ok (.if_icmp .ne 5, 3) := by decide +kernel
theorem dX11_knocked_33 : decode cX11_knocked 33 = .ok (.iload_n 2, 1) := by decide +kernel
theorem dX11_knocked_34 : decode cX11_knocked 34 = .ok (.ireturn, 1) := by decide +kernel
theorem dX11_knocked_35 : decode cX11_knocked 35 = .ok (.iload_n 1, 1) := by decide +kernel
theorem dX11_knocked_36 : decode cX11_knocked 36 = .ok (.ifCond .lt 8, 3) := by decide +kernel
theorem dX11_knocked_39 : decode cX11_knocked 39 = .ok (.iload_n 1, 1) := by decide +kernel
theorem dX11_knocked_40 : decode cX11_knocked 40 = .ok (.iload_n 2, 1) := by decide +kernel
theorem dX11_knocked_41 : decode cX11_knocked 41 = .ok (.if_icmp .lt 7, 3) := by decide +kernel
theorem dX11_knocked_44 : decode cX11_knocked 44 = .ok (.iconst (-1), 1) := by decide +kernel
theorem dX11_knocked_45 : decode cX11_knocked 45 = .ok (.goto 12, 3) := by decide +kernel
theorem dX11_knocked_48 : decode cX11_knocked 48 = .ok (.aload_n 0, 1) := by decide +kernel
theorem dX11_knocked_49 : decode cX11_knocked 49 = .ok (.getfield 68, 3) := by decide +kernel
theorem dX11_knocked_52 : decode cX11_knocked 52 = .ok (.getfield 342, 3) := by decide +kernel
theorem dX11_knocked_55 : decode cX11_knocked 55 = .ok (.iload_n 1, 1) := by decide +kernel
theorem dX11_knocked_56 : decode cX11_knocked 56 = .ok (.iaload, 1) := by decide +kernel
theorem dX11_knocked_57 : decode cX11_knocked 57 = .ok (.ireturn, 1) := by decide +kernel
set_option maxRecDepth 20000 in
theorem ggX11_ask_X11_hasTown : GoodIn wsX11_ask wsX11_hasTown := goodIn_r _ [8, 2, 47, 48, 49, 50, 51, 52, 53, 54, 55, 56, 57, 58, 59, 60, 61, 62, 63, 71, 72, 73, 74, 75, 76, 77, 78] (by decide +kernel) (by decide +kernel)
set_option maxRecDepth 20000 in
theorem gX11_ask_X11_hasTown : GoodIn wsX11_ask (wsV RX11 239 RX11 yX11_hasTown wsX11_hasTown) := goodIn_app (goodIn_of _ (by decide +kernel)) ggX11_ask_X11_hasTown
set_option maxRecDepth 20000 in
theorem ggX11_ask_X7_gather : GoodIn wsX11_ask wsX7_gather := goodIn_r _ [12, 13, 14, 15, 16, 17, 18, 19, 20, 21, 22, 23, 24, 25, 26, 27, 28, 29, 30, 31, 32, 33, 10, 34, 35, 36, 37, 38, 39, 79, 80, 81, 82, 83, 84, 71, 72, 73, 74, 75, 76, 77, 78] (by decide +kernel) (by decide +kernel)
set_option maxRecDepth 20000 in
theorem gX11_ask_X7_gather_n338 : GoodIn wsX11_ask (wsX7_gather) := ggX11_ask_X7_gather
set_option maxRecDepth 20000 in
theorem ggX11_ask_X7_apartBy : GoodIn wsX11_ask wsX7_apartBy := goodIn_r _ [42, 13, 39, 43, 44, 45, 46, 79, 80, 81, 82, 83, 84] (by decide +kernel) (by decide +kernel)
set_option maxRecDepth 20000 in
theorem gX11_ask_X7_apartBy_n345 : GoodIn wsX11_ask (wsX7_apartBy) := ggX11_ask_X7_apartBy
theorem dX11_ask_0 : decode cX11_ask 0 = .ok (.aload_n 0, 1) := by decide +kernel
theorem dX11_ask_1 : decode cX11_ask 1 = .ok (.invokevirtual 239, 3) := by decide +kernel
theorem dX11_ask_4 : decode cX11_ask 4 = .ok (.ifCond .eq 24, 3) := by decide +kernel
theorem dX11_ask_7 : decode cX11_ask 7 = .ok (.aload_n 0, 1) := by decide +kernel
theorem dX11_ask_8 : decode cX11_ask 8 = .ok (.getfield 68, 3) := by decide +kernel
theorem dX11_ask_11 : decode cX11_ask 11 = .ok (.aload_n 0, 1) := by decide +kernel
theorem dX11_ask_12 : decode cX11_ask 12 = .ok (.getfield 19, 3) := by decide +kernel
theorem dX11_ask_15 : decode cX11_ask 15 = .ok (.aload_n 0, 1) := by decide +kernel
theorem dX11_ask_16 : decode cX11_ask 16 = .ok (.getfield 75, 3) := by decide +kernel
theorem dX11_ask_19 : decode cX11_ask 19 = .ok (.getfield 193, 3) := by decide +kernel
theorem dX11_ask_22 : decode cX11_ask 22 = .ok (.invokevirtual 338, 3) := by decide +kernel
theorem dX11_ask_25 : decode cX11_ask 25 = .ok (.ifCond .ne 5, 3) := by decide +kernel
theorem dX11_ask_28 : decode cX11_ask 28 = .ok (.iconst (-1), 1) := by decide +kernel
theorem dX11_ask_29 : decode cX11_ask 29 = .ok (.ireturn, 1) := by decide +kernel
theorem dX11_ask_30 : decode cX11_ask 30 = .ok (.iconst (-1), 1) := by decide +kernel
theorem dX11_ask_31 : decode cX11_ask 31 = .ok (.istore_n 1, 1) := by decide +kernel
theorem dX11_ask_32 : decode cX11_ask 32 = .ok (.iconst 0, 1) := by decide +kernel
theorem dX11_ask_33 : decode cX11_ask 33 = .ok (.istore_n 2, 1) := by decide +kernel
theorem dX11_ask_34 : decode cX11_ask 34 = .ok (.iconst 0, 1) := by decide +kernel
theorem dX11_ask_35 : decode cX11_ask 35 = .ok (.istore_n 3, 1) := by decide +kernel
theorem dX11_ask_36 : decode cX11_ask 36 = .ok (.iload_n 3, 1) := by decide +kernel
theorem dX11_ask_37 : decode cX11_ask 37 = .ok (.aload_n 0, 1) := by decide +kernel
theorem dX11_ask_38 : decode cX11_ask 38 = .ok (.getfield 19, 3) := by decide +kernel
theorem dX11_ask_41 : decode cX11_ask 41 = .ok (.getfield 216, 3) := by decide +kernel
theorem dX11_ask_44 : decode cX11_ask 44 = .ok (.if_icmp .ge 35, 3) := by decide +kernel
theorem dX11_ask_47 : decode cX11_ask 47 = .ok (.aload_n 0, 1) := by decide +kernel
theorem dX11_ask_48 : decode cX11_ask 48 = .ok (.getfield 68, 3) := by decide +kernel
theorem dX11_ask_51 : decode cX11_ask 51 = .ok (.iload_n 3, 1) := by decide +kernel
theorem dX11_ask_52 : decode cX11_ask 52 = .ok (.invokevirtual 345, 3) := by decide +kernel
theorem dX11_ask_55 : decode cX11_ask 55 = .ok (.istore 4, 2) := by decide +kernel
theorem dX11_ask_57 : decode cX11_ask 57 = .ok (.iload_n 1, 1) := by decide +kernel
theorem dX11_ask_58 : decode cX11_ask 58 = .ok (.iconst (-1), 1) := by decide +kernel
theorem dX11_ask_59 : decode cX11_ask 59 = .ok (.if_icmp .eq 9, 3) := by decide +kernel
theorem dX11_ask_62 : decode cX11_ask 62 = .ok (.iload 4, 2) := by decide +kernel
theorem dX11_ask_64 : decode cX11_ask 64 = .ok (.iload_n 2, 1) := by decide +kernel
theorem dX11_ask_65 : decode cX11_ask 65 = .ok (.if_icmp .ge 8, 3) := by decide +kernel
theorem dX11_ask_68 : decode cX11_ask 68 = .ok (.iload_n 3, 1) := by decide +kernel
theorem dX11_ask_69 : decode cX11_ask 69 = .ok (.istore_n 1, 1) := by decide +kernel
theorem dX11_ask_70 : decode cX11_ask 70 = .ok (.iload 4, 2) := by decide +kernel
theorem dX11_ask_72 : decode cX11_ask 72 = .ok (.istore_n 2, 1) := by decide +kernel
theorem dX11_ask_73 : decode cX11_ask 73 = .ok (.iinc 3 1, 3) := by decide +kernel
theorem dX11_ask_76 : decode cX11_ask 76 = .ok (.goto (-40), 3) := by decide +kernel
theorem dX11_ask_79 : decode cX11_ask 79 = .ok (.iload_n 1, 1) := by decide +kernel
theorem dX11_ask_80 : decode cX11_ask 80 = .ok (.ireturn, 1) := by decide +kernel
set_option maxRecDepth 20000 in
theorem ggX11_walls_X11_openNow : GoodIn wsX11_walls wsX11_openNow := goodIn_r _ [6, 1, 7, 8, 9, 10, 11, 12, 26, 27, 28, 29, 30, 31, 32, 33, 34, 35, 36, 37, 38, 39, 40, 41, 42, 51, 52, 53, 54, 55, 56, 57, 43, 44, 45, 46, 47, 48, 49, 50] (by decide +kernel) (by decide +kernel)
set_option maxRecDepth 20000 in
theorem gX11_walls_X11_openNow : GoodIn wsX11_walls (wsV RX11 170 RX11 yX11_openNow wsX11_openNow) := goodIn_app (goodIn_of _ (by decide +kernel)) ggX11_walls_X11_openNow
set_option maxRecDepth 20000 in
theorem ggX11_walls_J6_bitCount_0f7a4 : GoodIn wsX11_walls wsJ6_bitCount_0f7a4 := goodIn_r _ [16, 17, 18, 19] (by decide +kernel) (by decide +kernel)
set_option maxRecDepth 20000 in
theorem gX11_walls_J6_bitCount_0f7a4 : GoodIn wsX11_walls (va_wsS RX11 176 yJ6_bitCount_0f7a4 wsJ6_bitCount_0f7a4) := goodIn_app (goodIn_of _ (by decide +kernel)) ggX11_walls_J6_bitCount_0f7a4
set_option maxRecDepth 20000 in
theorem ggX11_walls_X5_chapelsAmong : GoodIn wsX11_walls wsX5_chapelsAmong := goodIn_r _ [22, 23, 24, 25, 14, 15, 16, 17, 18, 19, 43, 44, 45, 46, 47, 48, 49, 50] (by decide +kernel) (by decide +kernel)
set_option maxRecDepth 20000 in
theorem gX11_walls_X5_chapelsAmong_n348 : GoodIn wsX11_walls (wsX5_chapelsAmong) := ggX11_walls_X5_chapelsAmong
theorem dX11_walls_0 : decode cX11_walls 0 = .ok (.iload_n 1, 1) := by decide +kernel
theorem dX11_walls_1 : decode cX11_walls 1 = .ok (.iconst 1, 1) := by decide +kernel
theorem dX11_walls_2 : decode cX11_walls 2 = .ok (.if_icmp .lt 16, 3) := by decide +kernel
theorem dX11_walls_5 : decode cX11_walls 5 = .ok (.iload_n 1, 1) := by decide +kernel
theorem dX11_walls_6 : decode cX11_walls 6 = .ok (.iconst 1, 1) := by decide +kernel
theorem dX11_walls_7 : decode cX11_walls 7 = .ok (.aload_n 0, 1) := by decide +kernel
theorem dX11_walls_8 : decode cX11_walls 8 = .ok (.getfield 19, 3) := by decide +kernel
theorem dX11_walls_11 : decode cX11_walls 11 = .ok (.getfield 216, 3) := by decide +kernel
theorem dX11_walls_14 : decode cX11_walls 14 = .ok (.ishl, 1) := by decide +kernel
theorem dX11_walls_15 : decode cX11_walls 15 = .ok (.if_icmp .lt 5, 3) := by decide +kernel
theorem dX11_walls_18 : decode cX11_walls 18 = .ok (.iconst (-1), 1) := by decide +kernel
theorem dX11_walls_19 : decode cX11_walls 19 = .ok (.ireturn, 1) := by decide +kernel
theorem dX11_walls_20 : decode cX11_walls 20 = .ok (.aload_n 0, 1) := by decide +kernel
theorem dX11_walls_21 : decode cX11_walls 21 = .ok (.invokevirtual 170, 3) := by decide +kernel
theorem dX11_walls_24 : decode cX11_walls 24 = .ok (.istore_n 2, 1) := by decide +kernel
theorem dX11_walls_25 : decode cX11_walls 25 = .ok (.iconst (-1), 1) := by decide +kernel
theorem dX11_walls_26 : decode cX11_walls 26 = .ok (.istore_n 3, 1) := by decide +kernel
theorem dX11_walls_27 : decode cX11_walls 27 = .ok (.bipush 13, 2) := by decide +kernel
theorem dX11_walls_29 : decode cX11_walls 29 = .ok (.istore 4, 2) := by decide +kernel
theorem dX11_walls_31 : decode cX11_walls 31 = .ok (.iconst 0, 1) := by decide +kernel
theorem dX11_walls_32 : decode cX11_walls 32 = .ok (.istore 5, 2) := by decide +kernel
theorem dX11_walls_34 : decode cX11_walls 34 = .ok (.iload 5, 2) := by decide +kernel
theorem dX11_walls_36 : decode cX11_walls 36 = .ok (.iconst 1, 1) := by decide +kernel
theorem dX11_walls_37 : decode cX11_walls 37 = .ok (.aload_n 0, 1) := by decide +kernel
theorem dX11_walls_38 : decode cX11_walls 38 = .ok (.getfield 19, 3) := by decide +kernel
theorem dX11_walls_41 : decode cX11_walls 41 = .ok (.getfield 156, 3) := by decide +kernel
theorem dX11_walls_44 : decode cX11_walls 44 = .ok (.ishl, 1) := by decide +kernel
theorem dX11_walls_45 : decode cX11_walls 45 = .ok (.if_icmp .ge 58, 3) := by decide +kernel
theorem dX11_walls_48 : decode cX11_walls 48 = .ok (.iload 5, 2) := by decide +kernel
theorem dX11_walls_50 : decode cX11_walls 50 = .ok (.iload_n 2, 1) := by decide +kernel
theorem dX11_walls_51 : decode cX11_walls 51 = .ok (.iconst (-1), 1) := by decide +kernel
theorem dX11_walls_52 : decode cX11_walls 52 = .ok (.ixor, 1) := by decide +kernel
theorem dX11_walls_53 : decode cX11_walls 53 = .ok (.iand, 1) := by decide +kernel
theorem dX11_walls_54 : decode cX11_walls 54 = .ok (.ifCond .ne 43, 3) := by decide +kernel
theorem dX11_walls_57 : decode cX11_walls 57 = .ok (.iload 5, 2) := by decide +kernel
theorem dX11_walls_59 : decode cX11_walls 59 = .ok (.invokestatic 176, 3) := by decide +kernel
theorem dX11_walls_62 : decode cX11_walls 62 = .ok (.iload 4, 2) := by decide +kernel
theorem dX11_walls_64 : decode cX11_walls 64 = .ok (.if_icmp .ge 33, 3) := by decide +kernel
theorem dX11_walls_67 : decode cX11_walls 67 = .ok (.iload_n 1, 1) := by decide +kernel
theorem dX11_walls_68 : decode cX11_walls 68 = .ok (.aload_n 0, 1) := by decide +kernel
theorem dX11_walls_69 : decode cX11_walls 69 = .ok (.getfield 19, 3) := by decide +kernel
theorem dX11_walls_72 : decode cX11_walls 72 = .ok (.iload_n 2, 1) := by decide +kernel
theorem dX11_walls_73 : decode cX11_walls 73 = .ok (.iload 5, 2) := by decide +kernel
theorem dX11_walls_75 : decode cX11_walls 75 = .ok (.iconst (-1), 1) := by decide +kernel
theorem dX11_walls_76 : decode cX11_walls 76 = .ok (.ixor, 1) := by decide +kernel
theorem dX11_walls_77 : decode cX11_walls 77 = .ok (.iand, 1) := by decide +kernel
theorem dX11_walls_78 : decode cX11_walls 78 = .ok (.invokevirtual 348, 3) := by decide +kernel
theorem dX11_walls_81 : decode cX11_walls 81 = .ok (.iconst (-1), 1) := by decide +kernel
theorem dX11_walls_82 : decode cX11_walls 82 = .ok (.ixor, 1) := by decide +kernel
theorem dX11_walls_83 : decode cX11_walls 83 = .ok (.iand, 1) := by decide +kernel
theorem dX11_walls_84 : decode cX11_walls 84 = .ok (.ifCond .ne 13, 3) := by decide +kernel
theorem dX11_walls_87 : decode cX11_walls 87 = .ok (.iload 5, 2) := by decide +kernel
theorem dX11_walls_89 : decode cX11_walls 89 = .ok (.istore_n 3, 1) := by decide +kernel
theorem dX11_walls_90 : decode cX11_walls 90 = .ok (.iload 5, 2) := by decide +kernel
theorem dX11_walls_92 : decode cX11_walls 92 = .ok (.invokestatic 176, 3) := by decide +kernel
theorem dX11_walls_95 : decode cX11_walls 95 = .ok (.istore 4, 2) := by decide +kernel
theorem dX11_walls_97 : decode cX11_walls 97 = .ok (.iinc 5 1, 3) := by decide +kernel
theorem dX11_walls_100 : decode cX11_walls 100 = .ok (.goto (-66), 3) := by decide +kernel
theorem dX11_walls_103 : decode cX11_walls 103 = .ok (.iload_n 3, 1) := by decide +kernel
theorem dX11_walls_104 : decode cX11_walls 104 = .ok (.ireturn, 1) := by decide +kernel
set_option maxRecDepth 20000 in
theorem ggX11_parted_X11_isCorner : GoodIn wsX11_parted wsX11_isCorner := goodIn_r _ [6, 1, 37, 38, 39, 40, 41, 42, 43, 44, 45, 46, 47, 48, 49, 50, 51, 52, 53, 54, 55, 56, 57, 58, 59, 60, 61] (by decide +kernel) (by decide +kernel)
set_option maxRecDepth 20000 in
theorem gX11_parted_X11_isCorner : GoodIn wsX11_parted (wsV RX11 159 RX11 yX11_isCorner wsX11_isCorner) := goodIn_app (goodIn_of _ (by decide +kernel)) ggX11_parted_X11_isCorner
set_option maxRecDepth 20000 in
theorem ggX11_parted_X11_openNow : GoodIn wsX11_parted wsX11_openNow := goodIn_r _ [10, 1, 11, 12, 13, 14, 15, 16, 37, 38, 39, 40, 41, 42, 43, 44, 45, 46, 47, 48, 49, 50, 51, 52, 53, 62, 63, 64, 65, 66, 67, 68, 54, 55, 56, 57, 58, 59, 60, 61] (by decide +kernel) (by decide +kernel)
set_option maxRecDepth 20000 in
theorem gX11_parted_X11_openNow : GoodIn wsX11_parted (wsV RX11 170 RX11 yX11_openNow wsX11_openNow) := goodIn_app (goodIn_of _ (by decide +kernel)) ggX11_parted_X11_openNow
set_option maxRecDepth 20000 in
theorem ggX11_parted_J6_bitCount_0f7a4 : GoodIn wsX11_parted wsJ6_bitCount_0f7a4 := goodIn_r _ [20, 21, 22, 23] (by decide +kernel) (by decide +kernel)
set_option maxRecDepth 20000 in
theorem gX11_parted_J6_bitCount_0f7a4 : GoodIn wsX11_parted (va_wsS RX11 176 yJ6_bitCount_0f7a4 wsJ6_bitCount_0f7a4) := goodIn_app (goodIn_of _ (by decide +kernel)) ggX11_parted_J6_bitCount_0f7a4
set_option maxRecDepth 20000 in
theorem ggX11_parted_X5_reachedFrom : GoodIn wsX11_parted wsX5_reachedFrom := goodIn_r _ [26, 27, 16, 28, 29, 30, 13, 31, 32, 33, 34, 35, 36, 54, 55, 56, 57, 58, 59, 60, 61] (by decide +kernel) (by decide +kernel)
set_option maxRecDepth 20000 in
theorem gX11_parted_X5_reachedFrom_n322 : GoodIn wsX11_parted (wsX5_reachedFrom) := ggX11_parted_X5_reachedFrom
theorem dX11_parted_0 : decode cX11_parted 0 = .ok (.aload_n 0, 1) := by decide +kernel
theorem dX11_parted_1 : decode cX11_parted 1 = .ok (.iload_n 1, 1) := by decide +kernel
theorem dX11_parted_2 : decode cX11_parted 2 = .ok (.invokevirtual 159, 3) := by decide +kernel
theorem dX11_parted_5 : decode cX11_parted 5 = .ok (.ifCond .eq 16, 3) := by decide +kernel
theorem dX11_parted_8 : decode cX11_parted 8 = .ok (.aload_n 0, 1) := by decide +kernel
theorem dX11_parted_9 : decode cX11_parted 9 = .ok (.iload_n 2, 1) := by decide +kernel
theorem dX11_parted_10 : decode cX11_parted 10 = .ok (.invokevirtual 159, 3) := by decide +kernel
theorem dX11_parted_13 : decode cX11_parted 13 = .ok (.ifCond .eq 8, 3) := by decide +kernel
theorem dX11_parted_16 : decode cX11_parted 16 = .ok (.iload_n 1, 1) := by decide +kernel
theorem dX11_parted_17 : decode cX11_parted 17 = .ok (.iload_n 2, 1) := by decide +kernel
theorem dX11_parted_18 : decode cX11_parted 18 = .ok (.if_icmp .ne 5, 3) := by decide +kernel
theorem dX11_parted_21 : decode cX11_parted 21 = .ok (.iconst (-1), 1) := by decide +kernel
theorem dX11_parted_22 : decode cX11_parted 22 = .ok (.ireturn, 1) := by decide +kernel
theorem dX11_parted_23 : decode cX11_parted 23 = .ok (.aload_n 0, 1) := by decide +kernel
theorem dX11_parted_24 : decode cX11_parted 24 = .ok (.invokevirtual 170, 3) := by decide +kernel
theorem dX11_parted_27 : decode cX11_parted 27 = .ok (.istore_n 3, 1) := by decide +kernel
theorem dX11_parted_28 : decode cX11_parted 28 = .ok (.iconst (-1), 1) := by decide +kernel
theorem dX11_parted_29 : decode cX11_parted 29 = .ok (.istore 4, 2) := by decide +kernel
theorem dX11_parted_31 : decode cX11_parted 31 = .ok (.bipush 13, 2) := by decide +kernel
theorem dX11_parted_33 : decode cX11_parted 33 = .ok (.istore 5, 2) := by decide +kernel
theorem dX11_parted_35 : decode cX11_parted 35 = .ok (.iconst 0, 1) := by decide +kernel
theorem dX11_parted_36 : decode cX11_parted 36 = .ok (.istore 6, 2) := by decide +kernel
theorem dX11_parted_38 : decode cX11_parted 38 = .ok (.iload 6, 2) := by decide +kernel
theorem dX11_parted_40 : decode cX11_parted 40 = .ok (.iconst 1, 1) := by decide +kernel
theorem dX11_parted_41 : decode cX11_parted 41 = .ok (.aload_n 0, 1) := by decide +kernel
theorem dX11_parted_42 : decode cX11_parted 42 = .ok (.getfield 19, 3) := by decide +kernel
theorem dX11_parted_45 : decode cX11_parted 45 = .ok (.getfield 156, 3) := by decide +kernel
theorem dX11_parted_48 : decode cX11_parted 48 = .ok (.ishl, 1) := by decide +kernel
theorem dX11_parted_49 : decode cX11_parted 49 = .ok (.if_icmp .ge 60, 3) := by decide +kernel
theorem dX11_parted_52 : decode cX11_parted 52 = .ok (.iload 6, 2) := by decide +kernel
theorem dX11_parted_54 : decode cX11_parted 54 = .ok (.iload_n 3, 1) := by decide +kernel
theorem dX11_parted_55 : decode cX11_parted 55 = .ok (.iconst (-1), 1) := by decide +kernel
theorem dX11_parted_56 : decode cX11_parted 56 = .ok (.ixor, 1) := by decide +kernel
theorem dX11_parted_57 : decode cX11_parted 57 = .ok (.iand, 1) := by decide +kernel
theorem dX11_parted_58 : decode cX11_parted 58 = .ok (.ifCond .ne 45, 3) := by decide +kernel
theorem dX11_parted_61 : decode cX11_parted 61 = .ok (.iload 6, 2) := by decide +kernel
theorem dX11_parted_63 : decode cX11_parted 63 = .ok (.invokestatic 176, 3) := by decide +kernel
theorem dX11_parted_66 : decode cX11_parted 66 = .ok (.iload 5, 2) := by decide +kernel
theorem dX11_parted_68 : decode cX11_parted 68 = .ok (.if_icmp .ge 35, 3) := by decide +kernel
theorem dX11_parted_71 : decode cX11_parted 71 = .ok (.aload_n 0, 1) := by decide +kernel
theorem dX11_parted_72 : decode cX11_parted 72 = .ok (.getfield 19, 3) := by decide +kernel
theorem dX11_parted_75 : decode cX11_parted 75 = .ok (.iload_n 1, 1) := by decide +kernel
theorem dX11_parted_76 : decode cX11_parted 76 = .ok (.iload_n 3, 1) := by decide +kernel
theorem dX11_parted_77 : decode cX11_parted 77 = .ok (.iload 6, 2) := by decide +kernel
theorem dX11_parted_79 : decode cX11_parted 79 = .ok (.iconst (-1), 1) := by decide +kernel
theorem dX11_parted_80 : decode cX11_parted 80 = .ok (.ixor, 1) := by decide +kernel
theorem dX11_parted_81 : decode cX11_parted 81 = .ok (.iand, 1) := by decide +kernel
theorem dX11_parted_82 : decode cX11_parted 82 = .ok (.invokevirtual 322, 3) := by decide +kernel
theorem dX11_parted_85 : decode cX11_parted 85 = .ok (.iload_n 2, 1) := by decide +kernel
theorem dX11_parted_86 : decode cX11_parted 86 = .ok (.ishr, 1) := by decide +kernel
theorem dX11_parted_87 : decode cX11_parted 87 = .ok (.iconst 1, 1) := by decide +kernel
theorem dX11_parted_88 : decode cX11_parted 88 = .ok (.iand, 1) := by decide +kernel
theorem dX11_parted_89 : decode cX11_parted 89 = .ok (.ifCond .ne 14, 3) := by decide +kernel
theorem dX11_parted_92 : decode cX11_parted 92 = .ok (.iload 6, 2) := by decide +kernel
theorem dX11_parted_94 : decode cX11_parted 94 = .ok (.istore 4, 2) := by decide +kernel
theorem dX11_parted_96 : decode cX11_parted 96 = .ok (.iload 6, 2) := by decide +kernel
theorem dX11_parted_98 : decode cX11_parted 98 = .ok (.invokestatic 176, 3) := by decide +kernel
theorem dX11_parted_101 : decode cX11_parted 101 = .ok (.istore 5, 2) := by decide +kernel
theorem dX11_parted_103 : decode cX11_parted 103 = .ok (.iinc 6 1, 3) := by decide +kernel
theorem dX11_parted_106 : decode cX11_parted 106 = .ok (.goto (-68), 3) := by decide +kernel
theorem dX11_parted_109 : decode cX11_parted 109 = .ok (.iload 4, 2) := by decide +kernel
theorem dX11_parted_111 : decode cX11_parted 111 = .ok (.ireturn, 1) := by decide +kernel
set_option maxRecDepth 20000 in
theorem ggX11_draws_X11_isWalker : GoodIn wsX11_draws wsX11_isWalker := goodIn_r _ [8, 9, 128, 129, 130, 131, 132, 133, 134, 135, 136, 137, 138, 139, 140, 141, 142, 143, 144, 145, 146, 147, 148, 149, 150, 151, 152] (by decide +kernel) (by decide +kernel)
set_option maxRecDepth 20000 in
theorem gX11_draws_X11_isWalker : GoodIn wsX11_draws (wsV RX11 196 RX11 yX11_isWalker wsX11_isWalker) := goodIn_app (goodIn_of _ (by decide +kernel)) ggX11_draws_X11_isWalker
set_option maxRecDepth 20000 in
theorem ggX11_draws_X11_isCorner : GoodIn wsX11_draws wsX11_isCorner := goodIn_r _ [13, 9, 128, 129, 130, 131, 132, 133, 134, 135, 136, 137, 138, 139, 140, 141, 142, 143, 144, 145, 146, 147, 148, 149, 150, 151, 152] (by decide +kernel) (by decide +kernel)
set_option maxRecDepth 20000 in
theorem gX11_draws_X11_isCorner : GoodIn wsX11_draws (wsV RX11 159 RX11 yX11_isCorner wsX11_isCorner) := goodIn_app (goodIn_of _ (by decide +kernel)) ggX11_draws_X11_isCorner
set_option maxRecDepth 20000 in
theorem ggX11_draws_X1_lookAt : GoodIn wsX11_draws wsX1_lookAt := goodIn_r _ [17, 18, 19, 20, 21, 22, 23, 24, 25, 26, 27, 28, 29, 30, 31, 32, 33, 34, 35, 36, 37, 38, 39, 40, 41, 42, 43, 44, 45, 46, 47, 48, 49, 50, 51, 52, 53, 54, 55, 56, 57, 58, 59, 60, 61, 62, 63, 153, 154, 155, 156, 157, 158, 159, 160, 161, 162, 163, 164, 165, 166, 145, 146, 147, 148, 149, 150, 151, 152, 167, 168, 169, 170] (by decide +kernel) (by decide +kernel)
set_option maxRecDepth 20000 in
theorem gX11_draws_X1_lookAt_n253 : GoodIn wsX11_draws (wsX1_lookAt) := ggX11_draws_X1_lookAt
set_option maxRecDepth 20000 in
theorem ggX11_draws_X1_pullOn : GoodIn wsX11_draws wsX1_pullOn := goodIn_r _ [66, 67, 20, 68, 19, 69, 47, 48, 49, 70, 71, 72, 73, 74, 75, 15, 76, 77, 39, 78, 79, 44, 45, 80, 32, 33, 34, 35, 36, 37, 81, 82, 83, 84, 85, 86, 87, 88, 89, 90, 91, 92, 93, 94, 95, 96, 97, 98, 99, 100, 101, 102, 103, 104, 105, 106, 107, 108, 109, 110, 111, 112, 113, 114, 115, 116, 117, 118, 119, 120, 121, 122, 123, 124, 125, 126, 127, 153, 154, 155, 156, 157, 158, 159, 160, 161, 162, 163, 164, 165, 166, 171, 172, 173, 174, 175, 176, 177, 178, 179, 180, 181, 182, 167, 168, 169, 170] (by decide +kernel) (by decide +kernel)
set_option maxRecDepth 20000 in
theorem gX11_draws_X1_pullOn_n351 : GoodIn wsX11_draws (wsX1_pullOn) := ggX11_draws_X1_pullOn
theorem dX11_draws_0 : decode cX11_draws 0 = .ok (.aload_n 0, 1) := by decide +kernel
theorem dX11_draws_1 : decode cX11_draws 1 = .ok (.iload_n 1, 1) := by decide +kernel
theorem dX11_draws_2 : decode cX11_draws 2 = .ok (.invokevirtual 196, 3) := by decide +kernel
theorem dX11_draws_5 : decode cX11_draws 5 = .ok (.ifCond .eq 11, 3) := by decide +kernel
theorem dX11_draws_8 : decode cX11_draws 8 = .ok (.aload_n 0, 1) := by decide +kernel
theorem dX11_draws_9 : decode cX11_draws 9 = .ok (.iload_n 2, 1) := by decide +kernel
theorem dX11_draws_10 : decode cX11_draws 10 = .ok (.invokevirtual 159, 3) := by decide +kernel
theorem dX11_draws_13 : decode cX11_draws 13 = .ok (.ifCond .ne 6, 3) := by decide +kernel
theorem dX11_draws_16 : decode cX11_draws 16 = .ok (.ldc 235, 2) := by decide +kernel
theorem dX11_draws_18 : decode cX11_draws 18 = .ok (.ireturn, 1) := by decide +kernel
theorem dX11_draws_19 : decode cX11_draws 19 = .ok (.aload_n 0, 1) := by decide +kernel
theorem dX11_draws_20 : decode cX11_draws 20 = .ok (.getfield 61, 3) := by decide +kernel
theorem dX11_draws_23 : decode cX11_draws 23 = .ok (.aload_n 0, 1) := by decide +kernel
theorem dX11_draws_24 : decode cX11_draws 24 = .ok (.getfield 75, 3) := by decide +kernel
theorem dX11_draws_27 : decode cX11_draws 27 = .ok (.invokevirtual 253, 3) := by decide +kernel
theorem dX11_draws_30 : decode cX11_draws 30 = .ok (.aload_n 0, 1) := by decide +kernel
theorem dX11_draws_31 : decode cX11_draws 31 = .ok (.getfield 61, 3) := by decide +kernel
theorem dX11_draws_34 : decode cX11_draws 34 = .ok (.aload_n 0, 1) := by decide +kernel
theorem dX11_draws_35 : decode cX11_draws 35 = .ok (.getfield 75, 3) := by decide +kernel
theorem dX11_draws_38 : decode cX11_draws 38 = .ok (.iload_n 1, 1) := by decide +kernel
theorem dX11_draws_39 : decode cX11_draws 39 = .ok (.iload_n 2, 1) := by decide +kernel
theorem dX11_draws_40 : decode cX11_draws 40 = .ok (.invokevirtual 351, 3) := by decide +kernel
theorem dX11_draws_43 : decode cX11_draws 43 = .ok (.ireturn, 1) := by decide +kernel
set_option maxRecDepth 20000 in
theorem ggX11_goes_X11_isWalker : GoodIn wsX11_goes wsX11_isWalker := goodIn_r _ [7, 8, 127, 128, 129, 130, 131, 132, 133, 134, 135, 136, 137, 138, 139, 140, 141, 142, 143, 144, 145, 146, 147, 148, 149, 150, 151] (by decide +kernel) (by decide +kernel)
set_option maxRecDepth 20000 in
theorem gX11_goes_X11_isWalker : GoodIn wsX11_goes (wsV RX11 196 RX11 yX11_isWalker wsX11_isWalker) := goodIn_app (goodIn_of _ (by decide +kernel)) ggX11_goes_X11_isWalker
set_option maxRecDepth 20000 in
theorem ggX11_goes_X1_lookAt : GoodIn wsX11_goes wsX1_lookAt := goodIn_r _ [12, 13, 14, 15, 16, 17, 18, 19, 20, 21, 22, 23, 24, 25, 26, 27, 28, 29, 30, 31, 32, 33, 34, 35, 36, 37, 38, 39, 40, 41, 42, 43, 44, 45, 46, 47, 48, 49, 50, 51, 52, 53, 54, 55, 56, 57, 58, 152, 153, 154, 155, 156, 157, 158, 159, 160, 161, 162, 163, 164, 165, 144, 145, 146, 147, 148, 149, 150, 151, 166, 167, 168, 169] (by decide +kernel) (by decide +kernel)
set_option maxRecDepth 20000 in
theorem gX11_goes_X1_lookAt_n253 : GoodIn wsX11_goes (wsX1_lookAt) := ggX11_goes_X1_lookAt
set_option maxRecDepth 20000 in
theorem ggX11_goes_X1_goalOf : GoodIn wsX11_goes wsX1_goalOf := goodIn_r _ [61, 62, 13, 63, 64, 65, 10, 66, 15, 67, 14, 68, 42, 43, 44, 69, 70, 71, 72, 73, 74, 75, 76, 34, 77, 78, 39, 40, 79, 27, 28, 29, 30, 31, 32, 80, 81, 82, 83, 84, 85, 86, 87, 88, 89, 90, 91, 92, 93, 94, 95, 96, 97, 98, 99, 100, 101, 102, 103, 104, 105, 106, 107, 108, 109, 110, 111, 112, 113, 114, 115, 116, 117, 118, 119, 120, 121, 122, 123, 124, 125, 126, 152, 153, 154, 155, 156, 157, 158, 144, 145, 146, 147, 148, 149, 150, 151, 159, 160, 161, 162, 163, 164, 165, 170, 171, 172, 173, 174, 175, 176, 177, 178, 179, 180, 181, 166, 167, 168, 169] (by decide +kernel) (by decide +kernel)
set_option maxRecDepth 20000 in
theorem gX11_goes_X1_goalOf_n355 : GoodIn wsX11_goes (wsX1_goalOf) := ggX11_goes_X1_goalOf
theorem dX11_goes_0 : decode cX11_goes 0 = .ok (.aload_n 0, 1) := by decide +kernel
theorem dX11_goes_1 : decode cX11_goes 1 = .ok (.iload_n 1, 1) := by decide +kernel
theorem dX11_goes_2 : decode cX11_goes 2 = .ok (.invokevirtual 196, 3) := by decide +kernel
theorem dX11_goes_5 : decode cX11_goes 5 = .ok (.ifCond .ne 5, 3) := by decide +kernel
theorem dX11_goes_8 : decode cX11_goes 8 = .ok (.iconst (-1), 1) := by decide +kernel
theorem dX11_goes_9 : decode cX11_goes 9 = .ok (.ireturn, 1) := by decide +kernel
theorem dX11_goes_10 : decode cX11_goes 10 = .ok (.aload_n 0, 1) := by decide +kernel
theorem dX11_goes_11 : decode cX11_goes 11 = .ok (.getfield 61, 3) := by decide +kernel
theorem dX11_goes_14 : decode cX11_goes 14 = .ok (.aload_n 0, 1) := by decide +kernel
theorem dX11_goes_15 : decode cX11_goes 15 = .ok (.getfield 75, 3) := by decide +kernel
theorem dX11_goes_18 : decode cX11_goes 18 = .ok (.invokevirtual 253, 3) := by decide +kernel
theorem dX11_goes_21 : decode cX11_goes 21 = .ok (.aload_n 0, 1) := by decide +kernel
theorem dX11_goes_22 : decode cX11_goes 22 = .ok (.getfield 61, 3) := by decide +kernel
theorem dX11_goes_25 : decode cX11_goes 25 = .ok (.aload_n 0, 1) := by decide +kernel
theorem dX11_goes_26 : decode cX11_goes 26 = .ok (.getfield 75, 3) := by decide +kernel
theorem dX11_goes_29 : decode cX11_goes 29 = .ok (.iload_n 1, 1) := by decide +kernel
theorem dX11_goes_30 : decode cX11_goes 30 = .ok (.invokevirtual 355, 3) := by decide +kernel
theorem dX11_goes_33 : decode cX11_goes 33 = .ok (.ireturn, 1) := by decide +kernel
set_option maxRecDepth 20000 in
theorem ggX11_goers_X11_isCorner : GoodIn wsX11_goers wsX11_isCorner := goodIn_r _ [8, 3, 127, 128, 129, 130, 131, 132, 133, 134, 135, 136, 137, 138, 139, 140, 141, 142, 143, 144, 145, 146, 147, 148, 149, 150, 151] (by decide +kernel) (by decide +kernel)
set_option maxRecDepth 20000 in
theorem gX11_goers_X11_isCorner : GoodIn wsX11_goers (wsV RX11 159 RX11 yX11_isCorner wsX11_isCorner) := goodIn_app (goodIn_of _ (by decide +kernel)) ggX11_goers_X11_isCorner
set_option maxRecDepth 20000 in
theorem ggX11_goers_X1_lookAt : GoodIn wsX11_goers wsX1_lookAt := goodIn_r _ [12, 13, 14, 15, 16, 17, 18, 19, 20, 21, 22, 23, 24, 25, 26, 27, 28, 29, 30, 31, 32, 33, 34, 35, 36, 37, 38, 39, 40, 41, 42, 43, 44, 45, 46, 47, 48, 49, 50, 51, 52, 53, 54, 55, 56, 57, 58, 152, 153, 154, 155, 156, 157, 158, 159, 160, 161, 162, 163, 164, 165, 144, 145, 146, 147, 148, 149, 150, 151, 166, 167, 168, 169] (by decide +kernel) (by decide +kernel)
set_option maxRecDepth 20000 in
theorem gX11_goers_X1_lookAt_n253 : GoodIn wsX11_goers (wsX1_lookAt) := ggX11_goers_X1_lookAt
set_option maxRecDepth 20000 in
theorem ggX11_goers_X1_goalOf : GoodIn wsX11_goers wsX1_goalOf := goodIn_r _ [61, 62, 13, 63, 64, 65, 10, 66, 15, 67, 14, 68, 42, 43, 44, 69, 70, 71, 72, 73, 74, 75, 76, 34, 77, 78, 39, 40, 79, 27, 28, 29, 30, 31, 32, 80, 81, 82, 83, 84, 85, 86, 87, 88, 89, 90, 91, 92, 93, 94, 95, 96, 97, 98, 99, 100, 101, 102, 103, 104, 105, 106, 107, 108, 109, 110, 111, 112, 113, 114, 115, 116, 117, 118, 119, 120, 121, 122, 123, 124, 125, 126, 152, 153, 154, 155, 156, 157, 158, 144, 145, 146, 147, 148, 149, 150, 151, 159, 160, 161, 162, 163, 164, 165, 170, 171, 172, 173, 174, 175, 176, 177, 178, 179, 180, 181, 166, 167, 168, 169] (by decide +kernel) (by decide +kernel)
set_option maxRecDepth 20000 in
theorem gX11_goers_X1_goalOf_n355 : GoodIn wsX11_goers (wsX1_goalOf) := ggX11_goers_X1_goalOf
theorem dX11_goers_0 : decode cX11_goers 0 = .ok (.aload_n 0, 1) := by decide +kernel
theorem dX11_goers_1 : decode cX11_goers 1 = .ok (.iload_n 1, 1) := by decide +kernel
theorem dX11_goers_2 : decode cX11_goers 2 = .ok (.invokevirtual 159, 3) := by decide +kernel
theorem dX11_goers_5 : decode cX11_goers 5 = .ok (.ifCond .ne 5, 3) := by decide +kernel
theorem dX11_goers_8 : decode cX11_goers 8 = .ok (.iconst (-1), 1) := by decide +kernel
theorem dX11_goers_9 : decode cX11_goers 9 = .ok (.ireturn, 1) := by decide +kernel
theorem dX11_goers_10 : decode cX11_goers 10 = .ok (.aload_n 0, 1) := by decide +kernel
theorem dX11_goers_11 : decode cX11_goers 11 = .ok (.getfield 61, 3) := by decide +kernel
theorem dX11_goers_14 : decode cX11_goers 14 = .ok (.aload_n 0, 1) := by decide +kernel
theorem dX11_goers_15 : decode cX11_goers 15 = .ok (.getfield 75, 3) := by decide +kernel
theorem dX11_goers_18 : decode cX11_goers 18 = .ok (.invokevirtual 253, 3) := by decide +kernel
theorem dX11_goers_21 : decode cX11_goers 21 = .ok (.iconst 0, 1) := by decide +kernel
theorem dX11_goers_22 : decode cX11_goers 22 = .ok (.istore_n 2, 1) := by decide +kernel
theorem dX11_goers_23 : decode cX11_goers 23 = .ok (.iconst 0, 1) := by decide +kernel
theorem dX11_goers_24 : decode cX11_goers 24 = .ok (.istore_n 3, 1) := by decide +kernel
theorem dX11_goers_25 : decode cX11_goers 25 = .ok (.iload_n 3, 1) := by decide +kernel
theorem dX11_goers_26 : decode cX11_goers 26 = .ok (.aload_n 0, 1) := by decide +kernel
theorem dX11_goers_27 : decode cX11_goers 27 = .ok (.getfield 19, 3) := by decide +kernel
theorem dX11_goers_30 : decode cX11_goers 30 = .ok (.getfield 219, 3) := by decide +kernel
theorem dX11_goers_33 : decode cX11_goers 33 = .ok (.if_icmp .ge 31, 3) := by decide +kernel
theorem dX11_goers_36 : decode cX11_goers 36 = .ok (.aload_n 0, 1) := by decide +kernel
theorem dX11_goers_37 : decode cX11_goers 37 = .ok (.getfield 61, 3) := by decide +kernel
theorem dX11_goers_40 : decode cX11_goers 40 = .ok (.aload_n 0, 1) := by decide +kernel
theorem dX11_goers_41 : decode cX11_goers 41 = .ok (.getfield 75, 3) := by decide +kernel
theorem dX11_goers_44 : decode cX11_goers 44 = .ok (.iload_n 3, 1) := by decide +kernel
theorem dX11_goers_45 : decode cX11_goers 45 = .ok (.invokevirtual 355, 3) := by decide +kernel
theorem dX11_goers_48 : decode cX11_goers 48 = .ok (.iload_n 1, 1) := by decide +kernel
theorem dX11_goers_49 : decode cX11_goers 49 = .ok (.if_icmp .ne 9, 3) := by decide +kernel
theorem dX11_goers_52 : decode cX11_goers 52 = .ok (.iload_n 2, 1) := by decide +kernel
theorem dX11_goers_53 : decode cX11_goers 53 = .ok (.iconst 1, 1) := by decide +kernel
theorem dX11_goers_54 : decode cX11_goers 54 = .ok (.iload_n 3, 1) := by decide +kernel
theorem dX11_goers_55 : decode cX11_goers 55 = .ok (.ishl, 1) := by decide +kernel
theorem dX11_goers_56 : decode cX11_goers 56 = .ok (.ior, 1) := by decide +kernel
theorem dX11_goers_57 : decode cX11_goers 57 = .ok (.istore_n 2, 1) := by decide +kernel
theorem dX11_goers_58 : decode cX11_goers 58 = .ok (.iinc 3 1, 3) := by decide +kernel
theorem dX11_goers_61 : decode cX11_goers 61 = .ok (.goto (-36), 3) := by decide +kernel
theorem dX11_goers_64 : decode cX11_goers 64 = .ok (.iload_n 2, 1) := by decide +kernel
theorem dX11_goers_65 : decode cX11_goers 65 = .ok (.ireturn, 1) := by decide +kernel
set_option maxRecDepth 20000 in
theorem ggX11_game_X11_areTwoWalkers : GoodIn wsX11_game wsX11_areTwoWalkers := goodIn_r _ [8, 9, 10, 11, 7, 12, 13, 132, 133, 134, 135, 136, 137, 138, 139, 140, 141, 142, 143, 144, 145, 146, 147, 148, 149, 150, 151, 152, 153, 154, 155, 156] (by decide +kernel) (by decide +kernel)
set_option maxRecDepth 20000 in
theorem gX11_game_X11_areTwoWalkers : GoodIn wsX11_game (wsV RX11 359 RX11 yX11_areTwoWalkers wsX11_areTwoWalkers) := goodIn_app (goodIn_of _ (by decide +kernel)) ggX11_game_X11_areTwoWalkers
set_option maxRecDepth 20000 in
theorem ggX11_game_X1_lookAt : GoodIn wsX11_game wsX1_lookAt := goodIn_r _ [17, 18, 19, 20, 21, 22, 23, 24, 25, 26, 27, 28, 29, 30, 31, 32, 33, 34, 35, 36, 37, 38, 39, 40, 41, 42, 43, 44, 45, 46, 47, 48, 49, 50, 51, 52, 53, 54, 55, 56, 57, 58, 59, 60, 61, 62, 63, 157, 158, 159, 160, 161, 162, 163, 164, 165, 166, 167, 168, 169, 170, 149, 150, 151, 152, 153, 154, 155, 156, 171, 172, 173, 174] (by decide +kernel) (by decide +kernel)
set_option maxRecDepth 20000 in
theorem gX11_game_X1_lookAt_n253 : GoodIn wsX11_game (wsX1_lookAt) := ggX11_game_X1_lookAt
set_option maxRecDepth 20000 in
theorem ggX11_game_X1_hasAt : GoodIn wsX11_game wsX1_hasAt := goodIn_r _ [66, 18, 67, 68, 69, 70, 15, 71, 20, 72, 19, 73, 47, 48, 49, 74, 75, 76, 77, 78, 79, 80, 81, 39, 82, 83, 44, 45, 84, 32, 33, 34, 35, 36, 37, 85, 86, 87, 88, 89, 90, 91, 92, 93, 94, 95, 96, 97, 98, 99, 100, 101, 102, 103, 104, 105, 106, 107, 108, 109, 110, 111, 112, 113, 114, 115, 116, 117, 118, 119, 120, 121, 122, 123, 124, 125, 126, 127, 128, 129, 130, 131, 157, 158, 159, 160, 161, 162, 163, 149, 150, 151, 152, 153, 154, 155, 156, 164, 165, 166, 167, 168, 169, 170, 175, 176, 177, 178, 179, 180, 181, 182, 183, 184, 185, 186, 171, 172, 173, 174] (by decide +kernel) (by decide +kernel)
set_option maxRecDepth 20000 in
theorem gX11_game_X1_hasAt_n363 : GoodIn wsX11_game (wsX1_hasAt) := ggX11_game_X1_hasAt
theorem dX11_game_0 : decode cX11_game 0 = .ok (.aload_n 0, 1) := by decide +kernel
theorem dX11_game_1 : decode cX11_game 1 = .ok (.iload_n 1, 1) := by decide +kernel
theorem dX11_game_2 : decode cX11_game 2 = .ok (.iload_n 2, 1) := by decide +kernel
theorem dX11_game_3 : decode cX11_game 3 = .ok (.invokevirtual 359, 3) := by decide +kernel
theorem dX11_game_6 : decode cX11_game 6 = .ok (.ifCond .eq 36, 3) := by decide +kernel
theorem dX11_game_9 : decode cX11_game 9 = .ok (.iload_n 3, 1) := by decide +kernel
theorem dX11_game_10 : decode cX11_game 10 = .ok (.ifCond .lt 32, 3) := by decide +kernel
theorem dX11_game_13 : decode cX11_game 13 = .ok (.iload_n 3, 1) := by decide +kernel
theorem dX11_game_14 : decode cX11_game 14 = .ok (.bipush 8, 2) := by decide +kernel
theorem dX11_game_16 : decode cX11_game 16 = .ok (.if_icmp .ge 26, 3) := by decide +kernel
theorem dX11_game_19 : decode cX11_game 19 = .ok (.iload 4, 2) := by decide +kernel
theorem dX11_game_21 : decode cX11_game 21 = .ok (.ifCond .lt 21, 3) := by decide +kernel
theorem dX11_game_24 : decode cX11_game 24 = .ok (.iload 4, 2) := by decide +kernel
theorem dX11_game_26 : decode cX11_game 26 = .ok (.bipush 8, 2) := by decide +kernel
theorem dX11_game_28 : decode cX11_game 28 = .ok (.if_icmp .ge 14, 3) := by decide +kernel
theorem dX11_game_31 : decode cX11_game 31 = .ok (.iload 5, 2) := by decide +kernel
theorem dX11_game_33 : decode cX11_game 33 = .ok (.ifCond .lt 9, 3) := by decide +kernel
theorem dX11_game_36 : decode cX11_game 36 = .ok (.iload 5, 2) := by decide +kernel
theorem dX11_game_38 : decode cX11_game 38 = .ok (.iconst 1, 1) := by decide +kernel
theorem dX11_game_39 : decode cX11_game 39 = .ok (.if_icmp .le 6, 3) := by decide +kernel
theorem dX11_game_42 : decode cX11_game 42 = .ok (.ldc 235, 2) := by decide +kernel
theorem dX11_game_44 : decode cX11_game 44 = .ok (.ireturn, 1) := by decide +kernel
theorem dX11_game_45 : decode cX11_game 45 = .ok (.aload_n 0, 1) := by decide +kernel
theorem dX11_game_46 : decode cX11_game 46 = .ok (.getfield 61, 3) := by decide +kernel
theorem dX11_game_49 : decode cX11_game 49 = .ok (.aload_n 0, 1) := by decide +kernel
theorem dX11_game_50 : decode cX11_game 50 = .ok (.getfield 75, 3) := by decide +kernel
theorem dX11_game_53 : decode cX11_game 53 = .ok (.invokevirtual 253, 3) := by decide +kernel
theorem dX11_game_56 : decode cX11_game 56 = .ok (.iload 5, 2) := by decide +kernel
theorem dX11_game_58 : decode cX11_game 58 = .ok (.ifCond .ne 21, 3) := by decide +kernel
theorem dX11_game_61 : decode cX11_game 61 = .ok (.aload_n 0, 1) := by decide +kernel
theorem dX11_game_62 : decode cX11_game 62 = .ok (.getfield 61, 3) := by decide +kernel
theorem dX11_game_65 : decode cX11_game 65 = .ok (.aload_n 0, 1) := by decide +kernel
theorem dX11_game_66 : decode cX11_game 66 = .ok (.getfield 75, 3) := by decide +kernel
theorem dX11_game_69 : decode cX11_game 69 = .ok (.iload_n 1, 1) := by decide +kernel
theorem dX11_game_70 : decode cX11_game 70 = .ok (.iload_n 3, 1) := by decide +kernel
theorem dX11_game_71 : decode cX11_game 71 = .ok (.iload 4, 2) := by decide +kernel
theorem dX11_game_73 : decode cX11_game 73 = .ok (.invokevirtual 363, 3) := by decide +kernel
theorem dX11_game_76 : decode cX11_game 76 = .ok (.goto 18, 3) := by decide +kernel
theorem dX11_game_79 : decode cX11_game 79 = .ok (.aload_n 0, 1) := by decide +kernel
theorem dX11_game_80 : decode cX11_game 80 = .ok (.getfield 61, 3) := by decide +kernel
theorem dX11_game_83 : decode cX11_game 83 = .ok (.aload_n 0, 1) := by decide +kernel
theorem dX11_game_84 : decode cX11_game 84 = .ok (.getfield 75, 3) := by decide +kernel
theorem dX11_game_87 : decode cX11_game 87 = .ok (.iload_n 2, 1) := by decide +kernel
theorem dX11_game_88 : decode cX11_game 88 = .ok (.iload 4, 2) := by decide +kernel
theorem dX11_game_90 : decode cX11_game 90 = .ok (.iload_n 3, 1) := by decide +kernel
theorem dX11_game_91 : decode cX11_game 91 = .ok (.invokevirtual 363, 3) := by decide +kernel
theorem dX11_game_94 : decode cX11_game 94 = .ok (.ireturn, 1) := by decide +kernel
set_option maxRecDepth 20000 in
theorem ggX11_rests_X11_areTwoWalkers : GoodIn wsX11_rests wsX11_areTwoWalkers := goodIn_r _ [8, 9, 10, 11, 7, 12, 3, 135, 136, 137, 138, 139, 140, 141, 142, 143, 144, 145, 146, 147, 148, 149, 150, 151, 152, 153, 154, 155, 156, 157, 158, 159] (by decide +kernel) (by decide +kernel)
set_option maxRecDepth 20000 in
theorem gX11_rests_X11_areTwoWalkers : GoodIn wsX11_rests (wsV RX11 359 RX11 yX11_areTwoWalkers wsX11_areTwoWalkers) := goodIn_app (goodIn_of _ (by decide +kernel)) ggX11_rests_X11_areTwoWalkers
set_option maxRecDepth 20000 in
theorem ggX11_rests_X1_lookAt : GoodIn wsX11_rests wsX1_lookAt := goodIn_r _ [16, 17, 18, 19, 20, 21, 22, 23, 24, 25, 26, 27, 28, 29, 30, 31, 32, 33, 34, 35, 36, 37, 38, 39, 40, 41, 42, 43, 44, 45, 46, 47, 48, 49, 50, 51, 52, 53, 54, 55, 56, 57, 58, 59, 60, 61, 62, 160, 161, 162, 163, 164, 165, 166, 167, 168, 169, 170, 171, 172, 173, 152, 153, 154, 155, 156, 157, 158, 159, 174, 175, 176, 177] (by decide +kernel) (by decide +kernel)
set_option maxRecDepth 20000 in
theorem gX11_rests_X1_lookAt_n253 : GoodIn wsX11_rests (wsX1_lookAt) := ggX11_rests_X1_lookAt
set_option maxRecDepth 20000 in
theorem ggX11_rests_X1_stays : GoodIn wsX11_rests wsX1_stays := goodIn_r _ [65, 17, 66, 67, 68, 14, 69, 70, 71, 72, 73, 74, 19, 75, 18, 76, 46, 47, 48, 77, 78, 79, 80, 81, 82, 83, 84, 38, 85, 86, 43, 44, 87, 31, 32, 33, 34, 35, 36, 88, 89, 90, 91, 92, 93, 94, 95, 96, 97, 98, 99, 100, 101, 102, 103, 104, 105, 106, 107, 108, 109, 110, 111, 112, 113, 114, 115, 116, 117, 118, 119, 120, 121, 122, 123, 124, 125, 126, 127, 128, 129, 130, 131, 132, 133, 134, 160, 161, 162, 163, 164, 165, 166, 152, 153, 154, 155, 156, 157, 158, 159, 167, 168, 169, 170, 171, 172, 173, 178, 179, 180, 181, 182, 183, 184, 185, 186, 187, 188, 189, 174, 175, 176, 177] (by decide +kernel) (by decide +kernel)
set_option maxRecDepth 20000 in
theorem gX11_rests_X1_stays_n367 : GoodIn wsX11_rests (wsX1_stays) := ggX11_rests_X1_stays
theorem dX11_rests_0 : decode cX11_rests 0 = .ok (.aload_n 0, 1) := by decide +kernel
theorem dX11_rests_1 : decode cX11_rests 1 = .ok (.iload_n 1, 1) := by decide +kernel
theorem dX11_rests_2 : decode cX11_rests 2 = .ok (.iload_n 2, 1) := by decide +kernel
theorem dX11_rests_3 : decode cX11_rests 3 = .ok (.invokevirtual 359, 3) := by decide +kernel
theorem dX11_rests_6 : decode cX11_rests 6 = .ok (.ifCond .eq 8, 3) := by decide +kernel
theorem dX11_rests_9 : decode cX11_rests 9 = .ok (.iload_n 3, 1) := by decide +kernel
theorem dX11_rests_10 : decode cX11_rests 10 = .ok (.iconst (-1), 1) := by decide +kernel
theorem dX11_rests_11 : decode cX11_rests 11 = .ok (.if_icmp .ge 5, 3) := by decide +kernel
theorem dX11_rests_14 : decode cX11_rests 14 = .ok (.iconst (-1), 1) := by decide +kernel
theorem dX11_rests_15 : decode cX11_rests 15 = .ok (.ireturn, 1) := by decide +kernel
theorem dX11_rests_16 : decode cX11_rests 16 = .ok (.aload_n 0, 1) := by decide +kernel
theorem dX11_rests_17 : decode cX11_rests 17 = .ok (.getfield 61, 3) := by decide +kernel
theorem dX11_rests_20 : decode cX11_rests 20 = .ok (.aload_n 0, 1) := by decide +kernel
theorem dX11_rests_21 : decode cX11_rests 21 = .ok (.getfield 75, 3) := by decide +kernel
theorem dX11_rests_24 : decode cX11_rests 24 = .ok (.invokevirtual 253, 3) := by decide +kernel
theorem dX11_rests_27 : decode cX11_rests 27 = .ok (.iconst 0, 1) := by decide +kernel
theorem dX11_rests_28 : decode cX11_rests 28 = .ok (.istore 4, 2) := by decide +kernel
theorem dX11_rests_30 : decode cX11_rests 30 = .ok (.iconst 0, 1) := by decide +kernel
theorem dX11_rests_31 : decode cX11_rests 31 = .ok (.istore 5, 2) := by decide +kernel
theorem dX11_rests_33 : decode cX11_rests 33 = .ok (.iload 5, 2) := by decide +kernel
theorem dX11_rests_35 : decode cX11_rests 35 = .ok (.aload_n 0, 1) := by decide +kernel
theorem dX11_rests_36 : decode cX11_rests 36 = .ok (.getfield 19, 3) := by decide +kernel
theorem dX11_rests_39 : decode cX11_rests 39 = .ok (.getfield 216, 3) := by decide +kernel
theorem dX11_rests_42 : decode cX11_rests 42 = .ok (.if_icmp .ge 86, 3) := by decide +kernel
theorem dX11_rests_45 : decode cX11_rests 45 = .ok (.iconst 0, 1) := by decide +kernel
theorem dX11_rests_46 : decode cX11_rests 46 = .ok (.istore 6, 2) := by decide +kernel
theorem dX11_rests_48 : decode cX11_rests 48 = .ok (.iload 6, 2) := by decide +kernel
theorem dX11_rests_50 : decode cX11_rests 50 = .ok (.aload_n 0, 1) := by decide +kernel
theorem dX11_rests_51 : decode cX11_rests 51 = .ok (.getfield 19, 3) := by decide +kernel
theorem dX11_rests_54 : decode cX11_rests 54 = .ok (.getfield 216, 3) := by decide +kernel
theorem dX11_rests_57 : decode cX11_rests 57 = .ok (.if_icmp .ge 65, 3) := by decide +kernel
theorem dX11_rests_60 : decode cX11_rests 60 = .ok (.aload_n 0, 1) := by decide +kernel
theorem dX11_rests_61 : decode cX11_rests 61 = .ok (.getfield 61, 3) := by decide +kernel
theorem dX11_rests_64 : decode cX11_rests 64 = .ok (.aload_n 0, 1) := by decide +kernel
theorem dX11_rests_65 : decode cX11_rests 65 = .ok (.getfield 75, 3) := by decide +kernel
theorem dX11_rests_68 : decode cX11_rests 68 = .ok (.iload_n 1, 1) := by decide +kernel
theorem dX11_rests_69 : decode cX11_rests 69 = .ok (.iload 5, 2) := by decide +kernel
theorem dX11_rests_71 : decode cX11_rests 71 = .ok (.iload 6, 2) := by decide +kernel
theorem dX11_rests_73 : decode cX11_rests 73 = .ok (.invokevirtual 367, 3) := by decide +kernel
theorem dX11_rests_76 : decode cX11_rests 76 = .ok (.ifCond .eq 40, 3) := by decide +kernel
theorem dX11_rests_79 : decode cX11_rests 79 = .ok (.aload_n 0, 1) := by decide +kernel
theorem dX11_rests_80 : decode cX11_rests 80 = .ok (.getfield 61, 3) := by decide +kernel
theorem dX11_rests_83 : decode cX11_rests 83 = .ok (.aload_n 0, 1) := by decide +kernel
theorem dX11_rests_84 : decode cX11_rests 84 = .ok (.getfield 75, 3) := by decide +kernel
theorem dX11_rests_87 : decode cX11_rests 87 = .ok (.iload_n 2, 1) := by decide +kernel
theorem dX11_rests_88 : decode cX11_rests 88 = .ok (.iload 6, 2) := by decide +kernel
theorem dX11_rests_90 : decode cX11_rests 90 = .ok (.iload 5, 2) := by decide +kernel
theorem dX11_rests_92 : decode cX11_rests 92 = .ok (.invokevirtual 367, 3) := by decide +kernel
theorem dX11_rests_95 : decode cX11_rests 95 = .ok (.ifCond .eq 21, 3) := by decide +kernel
theorem dX11_rests_98 : decode cX11_rests 98 = .ok (.iload 4, 2) := by decide +kernel
theorem dX11_rests_100 : decode cX11_rests 100 = .ok (.iload_n 3, 1) := by decide +kernel
theorem dX11_rests_101 : decode cX11_rests 101 = .ok (.if_icmp .ne 12, 3) := by decide +kernel
theorem dX11_rests_104 : decode cX11_rests 104 = .ok (.bipush 10, 2) := by decide +kernel
theorem dX11_rests_106 : decode cX11_rests 106 = .ok (.iload 5, 2) := by decide +kernel
theorem dX11_rests_108 : decode cX11_rests 108 = .ok (.imul, 1) := by decide +kernel
theorem dX11_rests_109 : decode cX11_rests 109 = .ok (.iload 6, 2) := by decide +kernel
theorem dX11_rests_111 : decode cX11_rests 111 = .ok (.iadd, 1) := by decide +kernel
theorem dX11_rests_112 : decode cX11_rests 112 = .ok (.ireturn, 1) := by decide +kernel
theorem dX11_rests_113 : decode cX11_rests 113 = .ok (.iinc 4 1, 3) := by decide +kernel
theorem dX11_rests_116 : decode cX11_rests 116 = .ok (.iinc 6 1, 3) := by decide +kernel
theorem dX11_rests_119 : decode cX11_rests 119 = .ok (.goto (-71), 3) := by decide +kernel
theorem dX11_rests_122 : decode cX11_rests 122 = .ok (.iinc 5 1, 3) := by decide +kernel
theorem dX11_rests_125 : decode cX11_rests 125 = .ok (.goto (-92), 3) := by decide +kernel
theorem dX11_rests_128 : decode cX11_rests 128 = .ok (.iload_n 3, 1) := by decide +kernel
theorem dX11_rests_129 : decode cX11_rests 129 = .ok (.iconst (-1), 1) := by decide +kernel
theorem dX11_rests_130 : decode cX11_rests 130 = .ok (.if_icmp .ne 8, 3) := by decide +kernel
theorem dX11_rests_133 : decode cX11_rests 133 = .ok (.iload 4, 2) := by decide +kernel
theorem dX11_rests_135 : decode cX11_rests 135 = .ok (.goto 4, 3) := by decide +kernel
theorem dX11_rests_138 : decode cX11_rests 138 = .ok (.iconst (-1), 1) := by decide +kernel
theorem dX11_rests_139 : decode cX11_rests 139 = .ok (.ireturn, 1) := by decide +kernel
set_option maxRecDepth 20000 in
theorem ggX11_odds_X11_isWalker : GoodIn wsX11_odds wsX11_isWalker := goodIn_r _ [10, 4, 67, 68, 69, 70, 71, 72, 73, 74, 75, 76, 77, 78, 79, 80, 81, 82, 83, 84, 85, 86, 87, 88, 89, 90, 91] (by decide +kernel) (by decide +kernel)
set_option maxRecDepth 20000 in
theorem gX11_odds_X11_isWalker : GoodIn wsX11_odds (wsV RX11 196 RX11 yX11_isWalker wsX11_isWalker) := goodIn_app (goodIn_of _ (by decide +kernel)) ggX11_odds_X11_isWalker
set_option maxRecDepth 20000 in
theorem ggX11_odds_X1_lookAt : GoodIn wsX11_odds wsX1_lookAt := goodIn_r _ [14, 15, 16, 17, 18, 19, 20, 21, 22, 23, 24, 25, 26, 27, 28, 29, 30, 31, 32, 33, 34, 35, 36, 37, 38, 39, 40, 41, 42, 43, 44, 45, 46, 47, 48, 49, 50, 51, 52, 53, 54, 55, 56, 57, 58, 59, 60, 92, 93, 94, 95, 96, 97, 98, 99, 100, 101, 102, 103, 104, 105, 84, 85, 86, 87, 88, 89, 90, 91, 106, 107, 108, 109] (by decide +kernel) (by decide +kernel)
set_option maxRecDepth 20000 in
theorem gX11_odds_X1_lookAt_n253 : GoodIn wsX11_odds (wsX1_lookAt) := ggX11_odds_X1_lookAt
set_option maxRecDepth 20000 in
theorem ggX11_odds_X1_canCome : GoodIn wsX11_odds wsX1_canCome := goodIn_r _ [63, 16, 17, 64, 36, 65, 66, 41, 42, 92, 93, 94, 95, 96, 97, 98, 99, 100, 101, 102, 103, 104, 105, 106, 107, 108, 109] (by decide +kernel) (by decide +kernel)
set_option maxRecDepth 20000 in
theorem gX11_odds_X1_canCome_n373 : GoodIn wsX11_odds (wsX1_canCome) := ggX11_odds_X1_canCome
theorem dX11_odds_0 : decode cX11_odds 0 = .ok (.aload_n 0, 1) := by decide +kernel
theorem dX11_odds_1 : decode cX11_odds 1 = .ok (.iload_n 1, 1) := by decide +kernel
theorem dX11_odds_2 : decode cX11_odds 2 = .ok (.invokevirtual 196, 3) := by decide +kernel
theorem dX11_odds_5 : decode cX11_odds 5 = .ok (.ifCond .eq 13, 3) := by decide +kernel
theorem dX11_odds_8 : decode cX11_odds 8 = .ok (.iload_n 2, 1) := by decide +kernel
theorem dX11_odds_9 : decode cX11_odds 9 = .ok (.ifCond .lt 9, 3) := by decide +kernel
theorem dX11_odds_12 : decode cX11_odds 12 = .ok (.iload_n 2, 1) := by decide +kernel
theorem dX11_odds_13 : decode cX11_odds 13 = .ok (.bipush 100, 2) := by decide +kernel
theorem dX11_odds_15 : decode cX11_odds 15 = .ok (.if_icmp .le 5, 3) := by decide +kernel
theorem dX11_odds_18 : decode cX11_odds 18 = .ok (.iconst (-1), 1) := by decide +kernel
theorem dX11_odds_19 : decode cX11_odds 19 = .ok (.ireturn, 1) := by decide +kernel
theorem dX11_odds_20 : decode cX11_odds 20 = .ok (.aload_n 0, 1) := by decide +kernel
theorem dX11_odds_21 : decode cX11_odds 21 = .ok (.getfield 61, 3) := by decide +kernel
theorem dX11_odds_24 : decode cX11_odds 24 = .ok (.aload_n 0, 1) := by decide +kernel
theorem dX11_odds_25 : decode cX11_odds 25 = .ok (.getfield 75, 3) := by decide +kernel
theorem dX11_odds_28 : decode cX11_odds 28 = .ok (.invokevirtual 253, 3) := by decide +kernel
theorem dX11_odds_31 : decode cX11_odds 31 = .ok (.ldc2_w 371, 3) := by decide +kernel
theorem dX11_odds_34 : decode cX11_odds 34 = .ok (.lstore_n 3, 1) := by decide +kernel
theorem dX11_odds_35 : decode cX11_odds 35 = .ok (.iconst 0, 1) := by decide +kernel
theorem dX11_odds_36 : decode cX11_odds 36 = .ok (.istore 5, 2) := by decide +kernel
theorem dX11_odds_38 : decode cX11_odds 38 = .ok (.iload 5, 2) := by decide +kernel
theorem dX11_odds_40 : decode cX11_odds 40 = .ok (.aload_n 0, 1) := by decide +kernel
theorem dX11_odds_41 : decode cX11_odds 41 = .ok (.getfield 19, 3) := by decide +kernel
theorem dX11_odds_44 : decode cX11_odds 44 = .ok (.getfield 216, 3) := by decide +kernel
theorem dX11_odds_47 : decode cX11_odds 47 = .ok (.if_icmp .ge 35, 3) := by decide +kernel
theorem dX11_odds_50 : decode cX11_odds 50 = .ok (.aload_n 0, 1) := by decide +kernel
theorem dX11_odds_51 : decode cX11_odds 51 = .ok (.getfield 61, 3) := by decide +kernel
theorem dX11_odds_54 : decode cX11_odds 54 = .ok (.aload_n 0, 1) := by decide +kernel
theorem dX11_odds_55 : decode cX11_odds 55 = .ok (.getfield 75, 3) := by decide +kernel
theorem dX11_odds_58 : decode cX11_odds 58 = .ok (.iload_n 1, 1) := by decide +kernel
theorem dX11_odds_59 : decode cX11_odds 59 = .ok (.iload 5, 2) := by decide +kernel
theorem dX11_odds_61 : decode cX11_odds 61 = .ok (.invokevirtual 373, 3) := by decide +kernel
theorem dX11_odds_64 : decode cX11_odds 64 = .ok (.ifCond .eq 12, 3) := by decide +kernel
theorem dX11_odds_67 : decode cX11_odds 67 = .ok (.lload_n 3, 1) := by decide +kernel
theorem dX11_odds_68 : decode cX11_odds 68 = .ok (.iload_n 2, 1) := by decide +kernel
theorem dX11_odds_69 : decode cX11_odds 69 = .ok (.i2l, 1) := by decide +kernel
theorem dX11_odds_70 : decode cX11_odds 70 = .ok (.lmul, 1) := by decide +kernel
theorem dX11_odds_71 : decode cX11_odds 71 = .ok (.ldc2_w 377, 3) := by decide +kernel
theorem dX11_odds_74 : decode cX11_odds 74 = .ok (.ldiv, 1) := by decide +kernel
theorem dX11_odds_75 : decode cX11_odds 75 = .ok (.lstore_n 3, 1) := by decide +kernel
theorem dX11_odds_76 : decode cX11_odds 76 = .ok (.iinc 5 1, 3) := by decide +kernel
theorem dX11_odds_79 : decode cX11_odds 79 = .ok (.goto (-41), 3) := by decide +kernel
theorem dX11_odds_82 : decode cX11_odds 82 = .ok (.ldc2_w 371, 3) := by decide +kernel
theorem dX11_odds_85 : decode cX11_odds 85 = .ok (.lload_n 3, 1) := by decide +kernel
theorem dX11_odds_86 : decode cX11_odds 86 = .ok (.lsub, 1) := by decide +kernel
theorem dX11_odds_87 : decode cX11_odds 87 = .ok (.l2i, 1) := by decide +kernel
theorem dX11_odds_88 : decode cX11_odds 88 = .ok (.ireturn, 1) := by decide +kernel
set_option maxRecDepth 20000 in
theorem ggX11_shares_X11_isCorner : GoodIn wsX11_shares wsX11_isCorner := goodIn_r _ [7, 1, 8, 9, 10, 11, 12, 13, 14, 15, 16, 17, 18, 19, 20, 21, 22, 23, 24, 25, 26, 27, 28, 29, 30, 31, 32] (by decide +kernel) (by decide +kernel)
set_option maxRecDepth 20000 in
theorem gX11_shares_X11_isCorner : GoodIn wsX11_shares (wsV RX11 159 RX11 yX11_isCorner wsX11_isCorner) := goodIn_app (goodIn_of _ (by decide +kernel)) ggX11_shares_X11_isCorner
theorem dX11_shares_0 : decode cX11_shares 0 = .ok (.aload_n 0, 1) := by decide +kernel
theorem dX11_shares_1 : decode cX11_shares 1 = .ok (.iload_n 1, 1) := by decide +kernel
theorem dX11_shares_2 : decode cX11_shares 2 = .ok (.invokevirtual 159, 3) := by decide +kernel
theorem dX11_shares_5 : decode cX11_shares 5 = .ok (.ifCond .eq 14, 3) := by decide +kernel
theorem dX11_shares_8 : decode cX11_shares 8 = .ok (.iload_n 2, 1) := by decide +kernel
theorem dX11_shares_9 : decode cX11_shares 9 = .ok (.ifCond .lt 10, 3) := by decide +kernel
theorem dX11_shares_12 : decode cX11_shares 12 = .ok (.iload_n 2, 1) := by decide +kernel
theorem dX11_shares_13 : decode cX11_shares 13 = .ok (.sipush 999, 3) := by decide +kernel
theorem dX11_shares_16 : decode cX11_shares 16 = .ok (.if_icmp .le 5, 3) := by decide +kernel
theorem dX11_shares_19 : decode cX11_shares 19 = .ok (.iconst (-1), 1) := by decide +kernel
theorem dX11_shares_20 : decode cX11_shares 20 = .ok (.ireturn, 1) := by decide +kernel
theorem dX11_shares_21 : decode cX11_shares 21 = .ok (.iconst 0, 1) := by decide +kernel
theorem dX11_shares_22 : decode cX11_shares 22 = .ok (.istore_n 3, 1) := by decide +kernel
theorem dX11_shares_23 : decode cX11_shares 23 = .ok (.iconst 0, 1) := by decide +kernel
theorem dX11_shares_24 : decode cX11_shares 24 = .ok (.istore 4, 2) := by decide +kernel
theorem dX11_shares_26 : decode cX11_shares 26 = .ok (.iload 4, 2) := by decide +kernel
theorem dX11_shares_28 : decode cX11_shares 28 = .ok (.aload_n 0, 1) := by decide +kernel
theorem dX11_shares_29 : decode cX11_shares 29 = .ok (.getfield 19, 3) := by decide +kernel
theorem dX11_shares_32 : decode cX11_shares 32 = .ok (.getfield 216, 3) := by decide +kernel
theorem dX11_shares_35 : decode cX11_shares 35 = .ok (.if_icmp .ge 22, 3) := by decide +kernel
theorem dX11_shares_38 : decode cX11_shares 38 = .ok (.iload_n 3, 1) := by decide +kernel
theorem dX11_shares_39 : decode cX11_shares 39 = .ok (.aload_n 0, 1) := by decide +kernel
theorem dX11_shares_40 : decode cX11_shares 40 = .ok (.getfield 75, 3) := by decide +kernel
theorem dX11_shares_43 : decode cX11_shares 43 = .ok (.getfield 163, 3) := by decide +kernel
theorem dX11_shares_46 : decode cX11_shares 46 = .ok (.iload 4, 2) := by decide +kernel
theorem dX11_shares_48 : decode cX11_shares 48 = .ok (.iaload, 1) := by decide +kernel
theorem dX11_shares_49 : decode cX11_shares 49 = .ok (.iadd, 1) := by decide +kernel
theorem dX11_shares_50 : decode cX11_shares 50 = .ok (.istore_n 3, 1) := by decide +kernel
theorem dX11_shares_51 : decode cX11_shares 51 = .ok (.iinc 4 1, 3) := by decide +kernel
theorem dX11_shares_54 : decode cX11_shares 54 = .ok (.goto (-28), 3) := by decide +kernel
theorem dX11_shares_57 : decode cX11_shares 57 = .ok (.iload_n 3, 1) := by decide +kernel
theorem dX11_shares_58 : decode cX11_shares 58 = .ok (.iconst 1, 1) := by decide +kernel
theorem dX11_shares_59 : decode cX11_shares 59 = .ok (.if_icmp .ge 7, 3) := by decide +kernel
theorem dX11_shares_62 : decode cX11_shares 62 = .ok (.iconst 0, 1) := by decide +kernel
theorem dX11_shares_63 : decode cX11_shares 63 = .ok (.goto 16, 3) := by decide +kernel
theorem dX11_shares_66 : decode cX11_shares 66 = .ok (.iload_n 2, 1) := by decide +kernel
theorem dX11_shares_67 : decode cX11_shares 67 = .ok (.aload_n 0, 1) := by decide +kernel
theorem dX11_shares_68 : decode cX11_shares 68 = .ok (.getfield 75, 3) := by decide +kernel
theorem dX11_shares_71 : decode cX11_shares 71 = .ok (.getfield 163, 3) := by decide +kernel
theorem dX11_shares_74 : decode cX11_shares 74 = .ok (.iload_n 1, 1) := by decide +kernel
theorem dX11_shares_75 : decode cX11_shares 75 = .ok (.iaload, 1) := by decide +kernel
theorem dX11_shares_76 : decode cX11_shares 76 = .ok (.imul, 1) := by decide +kernel
theorem dX11_shares_77 : decode cX11_shares 77 = .ok (.iload_n 3, 1) := by decide +kernel
theorem dX11_shares_78 : decode cX11_shares 78 = .ok (.idiv, 1) := by decide +kernel
theorem dX11_shares_79 : decode cX11_shares 79 = .ok (.ireturn, 1) := by decide +kernel
set_option maxRecDepth 20000 in
theorem ggX11_all_X11_hasTown : GoodIn wsX11_all wsX11_hasTown := goodIn_r _ [6, 1, 103, 104, 105, 106, 107, 108, 109, 110, 111, 112, 113, 114, 115, 116, 117, 118, 119, 120, 121, 122, 123, 124, 125, 126, 127] (by decide +kernel) (by decide +kernel)
set_option maxRecDepth 20000 in
theorem gX11_all_X11_hasTown : GoodIn wsX11_all (wsV RX11 239 RX11 yX11_hasTown wsX11_hasTown) := goodIn_app (goodIn_of _ (by decide +kernel)) ggX11_all_X11_hasTown
set_option maxRecDepth 20000 in
theorem ggX11_all_X11_openNow : GoodIn wsX11_all wsX11_openNow := goodIn_r _ [10, 1, 11, 12, 13, 14, 15, 16, 103, 104, 105, 106, 107, 108, 109, 110, 111, 112, 113, 114, 115, 116, 117, 118, 119, 128, 129, 130, 131, 132, 133, 134, 120, 121, 122, 123, 124, 125, 126, 127] (by decide +kernel) (by decide +kernel)
set_option maxRecDepth 20000 in
theorem gX11_all_X11_openNow : GoodIn wsX11_all (wsV RX11 170 RX11 yX11_openNow wsX11_openNow) := goodIn_app (goodIn_of _ (by decide +kernel)) ggX11_all_X11_openNow
set_option maxRecDepth 20000 in
theorem ggX11_all_X5_chapelsAmong : GoodIn wsX11_all wsX5_chapelsAmong := goodIn_r _ [19, 20, 21, 22, 23, 24, 25, 26, 27, 28, 120, 121, 122, 123, 124, 125, 126, 127] (by decide +kernel) (by decide +kernel)
set_option maxRecDepth 20000 in
theorem gX11_all_X5_chapelsAmong_n348 : GoodIn wsX11_all (wsX5_chapelsAmong) := ggX11_all_X5_chapelsAmong
set_option maxRecDepth 20000 in
theorem ggX11_all_X5_bridgesAmong : GoodIn wsX11_all wsX5_bridgesAmong := goodIn_r _ [31, 16, 32, 33, 34, 13, 35, 36, 37, 38, 39, 40, 20, 41, 42, 43, 44, 120, 121, 122, 123, 124, 125, 126, 127] (by decide +kernel) (by decide +kernel)
set_option maxRecDepth 20000 in
theorem gX11_all_X5_bridgesAmong_n379 : GoodIn wsX11_all (wsX5_bridgesAmong) := ggX11_all_X5_bridgesAmong
set_option maxRecDepth 20000 in
theorem ggX11_all_X5_partsBy : GoodIn wsX11_all wsX5_partsBy := goodIn_r _ [47, 20, 37, 38, 39, 13, 40, 16, 32, 33, 34, 35, 36, 41, 42, 43, 44, 120, 121, 122, 123, 124, 125, 126, 127] (by decide +kernel) (by decide +kernel)
set_option maxRecDepth 20000 in
theorem gX11_all_X5_partsBy_n382 : GoodIn wsX11_all (wsX5_partsBy) := ggX11_all_X5_partsBy
set_option maxRecDepth 20000 in
theorem ggX11_all_J6_bitCount_0f7a4 : GoodIn wsX11_all wsJ6_bitCount_0f7a4 := goodIn_r _ [25, 26, 27, 28] (by decide +kernel) (by decide +kernel)
set_option maxRecDepth 20000 in
theorem gX11_all_J6_bitCount_0f7a4 : GoodIn wsX11_all (va_wsS RX11 176 yJ6_bitCount_0f7a4 wsJ6_bitCount_0f7a4) := goodIn_app (goodIn_of _ (by decide +kernel)) ggX11_all_J6_bitCount_0f7a4
set_option maxRecDepth 20000 in
theorem ggX11_all_X11_deepest : GoodIn wsX11_all wsX11_deepest := goodIn_r _ [52, 1, 11, 103, 104, 105, 106, 107, 108, 109, 110, 111, 112, 113, 114, 115, 116, 117, 118, 119, 120, 121, 122, 123, 124, 125, 126, 127, 128, 129, 130, 131, 132, 133, 134] (by decide +kernel) (by decide +kernel)
set_option maxRecDepth 20000 in
theorem gX11_all_X11_deepest : GoodIn wsX11_all (wsV RX11 385 RX11 yX11_deepest wsX11_deepest) := goodIn_app (goodIn_of _ (by decide +kernel)) ggX11_all_X11_deepest
set_option maxRecDepth 20000 in
theorem ggX11_all_X11_byStreets : GoodIn wsX11_all wsX11_byStreets := goodIn_r _ [56, 1, 48, 23, 24, 25, 26, 27, 28, 103, 104, 105, 106, 107, 108, 109, 110, 111, 112, 113, 114, 115, 116, 117, 118, 119, 120, 121, 122, 123, 124, 125, 126, 127] (by decide +kernel) (by decide +kernel)
set_option maxRecDepth 20000 in
theorem gX11_all_X11_byStreets : GoodIn wsX11_all (wsV RX11 388 RX11 yX11_byStreets wsX11_byStreets) := goodIn_app (goodIn_of _ (by decide +kernel)) ggX11_all_X11_byStreets
set_option maxRecDepth 20000 in
theorem ggX11_all_X11_faithful : GoodIn wsX11_all wsX11_faithful := goodIn_r _ [60, 1, 11, 103, 104, 105, 106, 107, 108, 109, 110, 111, 112, 113, 114, 115, 116, 117, 118, 119, 120, 121, 122, 123, 124, 125, 126, 127, 128, 129, 130, 131, 132, 133, 134] (by decide +kernel) (by decide +kernel)
set_option maxRecDepth 20000 in
theorem gX11_all_X11_faithful : GoodIn wsX11_all (wsV RX11 391 RX11 yX11_faithful wsX11_faithful) := goodIn_app (goodIn_of _ (by decide +kernel)) ggX11_all_X11_faithful
set_option maxRecDepth 20000 in
theorem ggX11_all_X11_byFarthest : GoodIn wsX11_all wsX11_byFarthest := goodIn_r _ [64, 65, 1, 66, 67, 68, 69, 70, 71, 72, 73, 74, 75, 76, 77, 33, 13, 34, 35, 36, 42, 43, 44, 78, 79, 80, 81, 82, 83, 84, 85, 86, 87, 88, 89, 90, 91, 92, 93, 94, 103, 104, 105, 106, 107, 108, 109, 110, 111, 112, 113, 114, 115, 116, 117, 118, 119, 120, 121, 122, 123, 124, 125, 126, 127, 135, 136, 137, 138] (by decide +kernel) (by decide +kernel)
set_option maxRecDepth 20000 in
theorem gX11_all_X11_byFarthest : GoodIn wsX11_all (wsV RX11 394 RX11 yX11_byFarthest wsX11_byFarthest) := goodIn_app (goodIn_of _ (by decide +kernel)) ggX11_all_X11_byFarthest
set_option maxRecDepth 20000 in
theorem ggX11_all_X5_lengthOf : GoodIn wsX11_all wsX5_lengthOf := goodIn_r _ [97, 16, 98, 78, 79, 13, 80, 36, 120, 121, 122, 123, 124, 125, 126, 127] (by decide +kernel) (by decide +kernel)
set_option maxRecDepth 20000 in
theorem gX11_all_X5_lengthOf_n397 : GoodIn wsX11_all (wsX5_lengthOf) := ggX11_all_X5_lengthOf
set_option maxRecDepth 20000 in
theorem ggX11_all_X11_lit : GoodIn wsX11_all wsX11_lit := goodIn_r _ [102, 1, 11, 103, 104, 105, 106, 107, 108, 109, 110, 111, 112, 113, 114, 115, 116, 117, 118, 119, 120, 121, 122, 123, 124, 125, 126, 127, 128, 129, 130, 131, 132, 133, 134] (by decide +kernel) (by decide +kernel)
set_option maxRecDepth 20000 in
theorem gX11_all_X11_lit : GoodIn wsX11_all (wsV RX11 400 RX11 yX11_lit wsX11_lit) := goodIn_app (goodIn_of _ (by decide +kernel)) ggX11_all_X11_lit
theorem dX11_all_0 : decode cX11_all 0 = .ok (.aload_n 0, 1) := by decide +kernel
theorem dX11_all_1 : decode cX11_all 1 = .ok (.invokevirtual 239, 3) := by decide +kernel
theorem dX11_all_4 : decode cX11_all 4 = .ok (.ifCond .ne 5, 3) := by decide +kernel
theorem dX11_all_7 : decode cX11_all 7 = .ok (.iconst (-1), 1) := by decide +kernel
theorem dX11_all_8 : decode cX11_all 8 = .ok (.ireturn, 1) := by decide +kernel
theorem dX11_all_9 : decode cX11_all 9 = .ok (.aload_n 0, 1) := by decide +kernel
theorem dX11_all_10 : decode cX11_all 10 = .ok (.invokevirtual 170, 3) := by decide +kernel
theorem dX11_all_13 : decode cX11_all 13 = .ok (.istore_n 2, 1) := by decide +kernel
theorem dX11_all_14 : decode cX11_all 14 = .ok (.iload_n 1, 1) := by decide +kernel
theorem dX11_all_15 : decode cX11_all 15 = .ok (.tableswitch 173 0 11 #[61, 70, 79, 88, 110, 115, 122, 129, 134, 141, 148, 157], 61) := by decide +kernel
theorem dX11_all_76 : decode cX11_all 76 = .ok (.aload_n 0, 1) := by decide +kernel
theorem dX11_all_77 : decode cX11_all 77 = .ok (.getfield 19, 3) := by decide +kernel
theorem dX11_all_80 : decode cX11_all 80 = .ok (.iload_n 2, 1) := by decide +kernel
theorem dX11_all_81 : decode cX11_all 81 = .ok (.invokevirtual 348, 3) := by decide +kernel
theorem dX11_all_84 : decode cX11_all 84 = .ok (.ireturn, 1) := by decide +kernel
theorem dX11_all_85 : decode cX11_all 85 = .ok (.aload_n 0, 1) := by decide +kernel
theorem dX11_all_86 : decode cX11_all 86 = .ok (.getfield 19, 3) := by decide +kernel
theorem dX11_all_89 : decode cX11_all 89 = .ok (.iload_n 2, 1) := by decide +kernel
theorem dX11_all_90 : decode cX11_all 90 = .ok (.invokevirtual 379, 3) := by decide +kernel
theorem dX11_all_93 : decode cX11_all 93 = .ok (.ireturn, 1) := by decide +kernel
theorem dX11_all_94 : decode cX11_all 94 = .ok (.aload_n 0, 1) := by decide +kernel
theorem dX11_all_95 : decode cX11_all 95 = .ok (.getfield 19, 3) := by decide +kernel
theorem dX11_all_98 : decode cX11_all 98 = .ok (.iload_n 2, 1) := by decide +kernel
theorem dX11_all_99 : decode cX11_all 99 = .ok (.invokevirtual 382, 3) := by decide +kernel
theorem dX11_all_102 : decode cX11_all 102 = .ok (.ireturn, 1) := by decide +kernel
theorem dX11_all_103 : decode cX11_all 103 = .ok (.iload_n 2, 1) := by decide +kernel
theorem dX11_all_104 : decode cX11_all 104 = .ok (.invokestatic 176, 3) := by decide +kernel
theorem dX11_all_107 : decode cX11_all 107 = .ok (.aload_n 0, 1) := by decide +kernel
theorem dX11_all_108 : decode cX11_all 108 = .ok (.getfield 19, 3) := by decide +kernel
theorem dX11_all_111 : decode cX11_all 111 = .ok (.getfield 216, 3) := by decide +kernel
theorem dX11_all_114 : decode cX11_all 114 = .ok (.isub, 1) := by decide +kernel
theorem dX11_all_115 : decode cX11_all 115 = .ok (.aload_n 0, 1) := by decide +kernel
theorem dX11_all_116 : decode cX11_all 116 = .ok (.getfield 19, 3) := by decide +kernel
theorem dX11_all_119 : decode cX11_all 119 = .ok (.iload_n 2, 1) := by decide +kernel
theorem dX11_all_120 : decode cX11_all 120 = .ok (.invokevirtual 382, 3) := by decide +kernel
theorem dX11_all_123 : decode cX11_all 123 = .ok (.iadd, 1) := by decide +kernel
theorem dX11_all_124 : decode cX11_all 124 = .ok (.ireturn, 1) := by decide +kernel
theorem dX11_all_125 : decode cX11_all 125 = .ok (.aload_n 0, 1) := by decide +kernel
theorem dX11_all_126 : decode cX11_all 126 = .ok (.invokevirtual 385, 3) := by decide +kernel
theorem dX11_all_129 : decode cX11_all 129 = .ok (.ireturn, 1) := by decide +kernel
theorem dX11_all_130 : decode cX11_all 130 = .ok (.aload_n 0, 1) := by decide +kernel
theorem dX11_all_131 : decode cX11_all 131 = .ok (.iload_n 2, 1) := by decide +kernel
theorem dX11_all_132 : decode cX11_all 132 = .ok (.iconst (-1), 1) := by decide +kernel
theorem dX11_all_133 : decode cX11_all 133 = .ok (.invokevirtual 388, 3) := by decide +kernel
theorem dX11_all_136 : decode cX11_all 136 = .ok (.ireturn, 1) := by decide +kernel
theorem dX11_all_137 : decode cX11_all 137 = .ok (.aload_n 0, 1) := by decide +kernel
theorem dX11_all_138 : decode cX11_all 138 = .ok (.iload_n 2, 1) := by decide +kernel
theorem dX11_all_139 : decode cX11_all 139 = .ok (.iconst 1, 1) := by decide +kernel
theorem dX11_all_140 : decode cX11_all 140 = .ok (.invokevirtual 388, 3) := by decide +kernel
theorem dX11_all_143 : decode cX11_all 143 = .ok (.ireturn, 1) := by decide +kernel
theorem dX11_all_144 : decode cX11_all 144 = .ok (.aload_n 0, 1) := by decide +kernel
theorem dX11_all_145 : decode cX11_all 145 = .ok (.invokevirtual 391, 3) := by decide +kernel
theorem dX11_all_148 : decode cX11_all 148 = .ok (.ireturn, 1) := by decide +kernel
theorem dX11_all_149 : decode cX11_all 149 = .ok (.aload_n 0, 1) := by decide +kernel
theorem dX11_all_150 : decode cX11_all 150 = .ok (.iload_n 2, 1) := by decide +kernel
theorem dX11_all_151 : decode cX11_all 151 = .ok (.iconst 1, 1) := by decide +kernel
theorem dX11_all_152 : decode cX11_all 152 = .ok (.invokevirtual 394, 3) := by decide +kernel
theorem dX11_all_155 : decode cX11_all 155 = .ok (.ireturn, 1) := by decide +kernel
theorem dX11_all_156 : decode cX11_all 156 = .ok (.aload_n 0, 1) := by decide +kernel
theorem dX11_all_157 : decode cX11_all 157 = .ok (.iload_n 2, 1) := by decide +kernel
theorem dX11_all_158 : decode cX11_all 158 = .ok (.iconst (-1), 1) := by decide +kernel
theorem dX11_all_159 : decode cX11_all 159 = .ok (.invokevirtual 394, 3) := by decide +kernel
theorem dX11_all_162 : decode cX11_all 162 = .ok (.ireturn, 1) := by decide +kernel
theorem dX11_all_163 : decode cX11_all 163 = .ok (.aload_n 0, 1) := by decide +kernel
theorem dX11_all_164 : decode cX11_all 164 = .ok (.getfield 19, 3) := by decide +kernel
theorem dX11_all_167 : decode cX11_all 167 = .ok (.iload_n 2, 1) := by decide +kernel
theorem dX11_all_168 : decode cX11_all 168 = .ok (.invokevirtual 397, 3) := by decide +kernel
theorem dX11_all_171 : decode cX11_all 171 = .ok (.ireturn, 1) := by decide +kernel
theorem dX11_all_172 : decode cX11_all 172 = .ok (.aload_n 0, 1) := by decide +kernel
theorem dX11_all_173 : decode cX11_all 173 = .ok (.getfield 19, 3) := by decide +kernel
theorem dX11_all_176 : decode cX11_all 176 = .ok (.iload_n 2, 1) := by decide +kernel
theorem dX11_all_177 : decode cX11_all 177 = .ok (.invokevirtual 348, 3) := by decide +kernel
theorem dX11_all_180 : decode cX11_all 180 = .ok (.aload_n 0, 1) := by decide +kernel
theorem dX11_all_181 : decode cX11_all 181 = .ok (.invokevirtual 400, 3) := by decide +kernel
theorem dX11_all_184 : decode cX11_all 184 = .ok (.iconst (-1), 1) := by decide +kernel
theorem dX11_all_185 : decode cX11_all 185 = .ok (.ixor, 1) := by decide +kernel
theorem dX11_all_186 : decode cX11_all 186 = .ok (.iand, 1) := by decide +kernel
theorem dX11_all_187 : decode cX11_all 187 = .ok (.ireturn, 1) := by decide +kernel
theorem dX11_all_188 : decode cX11_all 188 = .ok (.iconst (-1), 1) := by decide +kernel
theorem dX11_all_189 : decode cX11_all 189 = .ok (.ireturn, 1) := by decide +kernel
theorem dX12_init_0 : decode cX12_init 0 = .ok (.aload_n 0, 1) := by decide +kernel
theorem dX12_init_1 : decode cX12_init 1 = .ok (.invokespecial 3, 3) := by decide +kernel
theorem dX12_init_4 : decode cX12_init 4 = .ok (.aload_n 0, 1) := by decide +kernel
theorem dX12_init_5 : decode cX12_init 5 = .ok (.sipush 240, 3) := by decide +kernel
theorem dX12_init_8 : decode cX12_init 8 = .ok (.newarray .byte, 2) := by decide +kernel
theorem dX12_init_10 : decode cX12_init 10 = .ok (.putfield 9, 3) := by decide +kernel
theorem dX12_init_13 : decode cX12_init 13 = .ok (.aload_n 0, 1) := by decide +kernel
theorem dX12_init_14 : decode cX12_init 14 = .ok (.sipush 960, 3) := by decide +kernel
theorem dX12_init_17 : decode cX12_init 17 = .ok (.newarray .byte, 2) := by decide +kernel
theorem dX12_init_19 : decode cX12_init 19 = .ok (.putfield 13, 3) := by decide +kernel
theorem dX12_init_22 : decode cX12_init 22 = .ok (.aload_n 0, 1) := by decide +kernel
theorem dX12_init_23 : decode cX12_init 23 = .ok (.iconst 4, 1) := by decide +kernel
theorem dX12_init_24 : decode cX12_init 24 = .ok (.newarray .int, 2) := by decide +kernel
theorem dX12_init_26 : decode cX12_init 26 = .ok (.putfield 16, 3) := by decide +kernel
theorem dX12_init_29 : decode cX12_init 29 = .ok (.aload_n 0, 1) := by decide +kernel
theorem dX12_init_30 : decode cX12_init 30 = .ok (.sipush 128, 3) := by decide +kernel
theorem dX12_init_33 : decode cX12_init 33 = .ok (.newarray .int, 2) := by decide +kernel
theorem dX12_init_35 : decode cX12_init 35 = .ok (.putfield 20, 3) := by decide +kernel
theorem dX12_init_38 : decode cX12_init 38 = .ok (.aload_n 0, 1) := by decide +kernel
theorem dX12_init_39 : decode cX12_init 39 = .ok (.aload_n 0, 1) := by decide +kernel
theorem dX12_init_40 : decode cX12_init 40 = .ok (.getfield 9, 3) := by decide +kernel
theorem dX12_init_43 : decode cX12_init 43 = .ok (.putfield 23, 3) := by decide +kernel
theorem dX12_init_46 : decode cX12_init 46 = .ok (.aload_n 0, 1) := by decide +kernel
theorem dX12_init_47 : decode cX12_init 47 = .ok (.ldc 26, 2) := by decide +kernel
theorem dX12_init_49 : decode cX12_init 49 = .ok (.putfield 28, 3) := by decide +kernel
theorem dX12_init_52 : decode cX12_init 52 = .ok (.aload_n 0, 1) := by decide +kernel
theorem dX12_init_53 : decode cX12_init 53 = .ok (.ldc 32, 2) := by decide +kernel
theorem dX12_init_55 : decode cX12_init 55 = .ok (.putfield 34, 3) := by decide +kernel
theorem dX12_init_58 : decode cX12_init 58 = .ok (.aload_n 0, 1) := by decide +kernel
theorem dX12_init_59 : decode cX12_init 59 = .ok (.iconst 2, 1) := by decide +kernel
theorem dX12_init_60 : decode cX12_init 60 = .ok (.newarray .int, 2) := by decide +kernel
theorem dX12_init_62 : decode cX12_init 62 = .ok (.putfield 37, 3) := by decide +kernel
theorem dX12_init_65 : decode cX12_init 65 = .ok (.aload_n 0, 1) := by decide +kernel
theorem dX12_init_66 : decode cX12_init 66 = .ok (.bipush 48, 2) := by decide +kernel
theorem dX12_init_68 : decode cX12_init 68 = .ok (.newarray .int, 2) := by decide +kernel
theorem dX12_init_70 : decode cX12_init 70 = .ok (.putfield 40, 3) := by decide +kernel
theorem dX12_init_73 : decode cX12_init 73 = .ok (.aload_n 0, 1) := by decide +kernel
theorem dX12_init_74 : decode cX12_init 74 = .ok (.bipush 48, 2) := by decide +kernel
theorem dX12_init_76 : decode cX12_init 76 = .ok (.newarray .int, 2) := by decide +kernel
theorem dX12_init_78 : decode cX12_init 78 = .ok (.putfield 43, 3) := by decide +kernel
theorem dX12_init_81 : decode cX12_init 81 = .ok (.aload_n 0, 1) := by decide +kernel
theorem dX12_init_82 : decode cX12_init 82 = .ok (.bipush 8, 2) := by decide +kernel
theorem dX12_init_84 : decode cX12_init 84 = .ok (.newarray .int, 2) := by decide +kernel
theorem dX12_init_86 : decode cX12_init 86 = .ok (.putfield 46, 3) := by decide +kernel
theorem dX12_init_89 : decode cX12_init 89 = .ok (.aload_n 0, 1) := by decide +kernel
theorem dX12_init_90 : decode cX12_init 90 = .ok (.bipush 8, 2) := by decide +kernel
theorem dX12_init_92 : decode cX12_init 92 = .ok (.newarray .int, 2) := by decide +kernel
theorem dX12_init_94 : decode cX12_init 94 = .ok (.putfield 49, 3) := by decide +kernel
theorem dX12_init_97 : decode cX12_init 97 = .ok (.aload_n 0, 1) := by decide +kernel
theorem dX12_init_98 : decode cX12_init 98 = .ok (.bipush 80, 2) := by decide +kernel
theorem dX12_init_100 : decode cX12_init 100 = .ok (.newarray .int, 2) := by decide +kernel
theorem dX12_init_102 : decode cX12_init 102 = .ok (.putfield 52, 3) := by decide +kernel
theorem dX12_init_105 : decode cX12_init 105 = .ok (.aload_n 0, 1) := by decide +kernel
theorem dX12_init_106 : decode cX12_init 106 = .ok (.iconst 5, 1) := by decide +kernel
theorem dX12_init_107 : decode cX12_init 107 = .ok (.newarray .int, 2) := by decide +kernel
theorem dX12_init_109 : decode cX12_init 109 = .ok (.putfield 55, 3) := by decide +kernel
theorem dX12_init_112 : decode cX12_init 112 = .ok (.aload_n 0, 1) := by decide +kernel
theorem dX12_init_113 : decode cX12_init 113 = .ok (.sipush 208, 3) := by decide +kernel
theorem dX12_init_116 : decode cX12_init 116 = .ok (.newarray .int, 2) := by decide +kernel
theorem dX12_init_118 : decode cX12_init 118 = .ok (.putfield 58, 3) := by decide +kernel
theorem dX12_init_121 : decode cX12_init 121 = .ok (.aload_n 0, 1) := by decide +kernel
theorem dX12_init_122 : decode cX12_init 122 = .ok (.sipush 208, 3) := by decide +kernel
theorem dX12_init_125 : decode cX12_init 125 = .ok (.newarray .int, 2) := by decide +kernel
theorem dX12_init_127 : decode cX12_init 127 = .ok (.putfield 61, 3) := by decide +kernel
theorem dX12_init_130 : decode cX12_init 130 = .ok (.aload_n 0, 1) := by decide +kernel
theorem dX12_init_131 : decode cX12_init 131 = .ok (.iconst (-1), 1) := by decide +kernel
theorem dX12_init_132 : decode cX12_init 132 = .ok (.putfield 64, 3) := by decide +kernel
theorem dX12_init_135 : decode cX12_init 135 = .ok (.aload_n 0, 1) := by decide +kernel
theorem dX12_init_136 : decode cX12_init 136 = .ok (.iconst 1, 1) := by decide +kernel
theorem dX12_init_137 : decode cX12_init 137 = .ok (.putfield 68, 3) := by decide +kernel
theorem dX12_init_140 : decode cX12_init 140 = .ok (.aload_n 0, 1) := by decide +kernel
theorem dX12_init_141 : decode cX12_init 141 = .ok (.bipush 64, 2) := by decide +kernel
theorem dX12_init_143 : decode cX12_init 143 = .ok (.newarray .int, 2) := by decide +kernel
theorem dX12_init_145 : decode cX12_init 145 = .ok (.putfield 71, 3) := by decide +kernel
theorem dX12_init_148 : decode cX12_init 148 = .ok (.aload_n 0, 1) := by decide +kernel
theorem dX12_init_149 : decode cX12_init 149 = .ok (.sipush 8191, 3) := by decide +kernel
theorem dX12_init_152 : decode cX12_init 152 = .ok (.newarray .long, 2) := by decide +kernel
theorem dX12_init_154 : decode cX12_init 154 = .ok (.putfield 74, 3) := by decide +kernel
theorem dX12_init_157 : decode cX12_init 157 = .ok (.aload_n 0, 1) := by decide +kernel
theorem dX12_init_158 : decode cX12_init 158 = .ok (.sipush 8191, 3) := by decide +kernel
theorem dX12_init_161 : decode cX12_init 161 = .ok (.newarray .int, 2) := by decide +kernel
theorem dX12_init_163 : decode cX12_init 163 = .ok (.putfield 78, 3) := by decide +kernel
theorem dX12_init_166 : decode cX12_init 166 = .ok (.aload_n 0, 1) := by decide +kernel
theorem dX12_init_167 : decode cX12_init 167 = .ok (.sipush 8320, 3) := by decide +kernel
theorem dX12_init_170 : decode cX12_init 170 = .ok (.newarray .int, 2) := by decide +kernel
theorem dX12_init_172 : decode cX12_init 172 = .ok (.putfield 81, 3) := by decide +kernel
theorem dX12_init_175 : decode cX12_init 175 = .ok (.aload_n 0, 1) := by decide +kernel
theorem dX12_init_176 : decode cX12_init 176 = .ok (.bipush 20, 2) := by decide +kernel
theorem dX12_init_178 : decode cX12_init 178 = .ok (.newarray .int, 2) := by decide +kernel
theorem dX12_init_180 : decode cX12_init 180 = .ok (.putfield 84, 3) := by decide +kernel
theorem dX12_init_183 : decode cX12_init 183 = .ok (.aload_n 0, 1) := by decide +kernel
theorem dX12_init_184 : decode cX12_init 184 = .ok (.sipush 208, 3) := by decide +kernel
theorem dX12_init_187 : decode cX12_init 187 = .ok (.newarray .int, 2) := by decide +kernel
theorem dX12_init_189 : decode cX12_init 189 = .ok (.putfield 87, 3) := by decide +kernel
theorem dX12_init_192 : decode cX12_init 192 = .ok (.return_, 1) := by decide +kernel
theorem dX12_thrown_0 : decode cX12_thrown 0 = .ok (.aload_n 0, 1) := by decide +kernel
theorem dX12_thrown_1 : decode cX12_thrown 1 = .ok (.getfield 90, 3) := by decide +kernel
theorem dX12_thrown_4 : decode cX12_thrown 4 = .ok (.ireturn, 1) := by decide +kernel
theorem dX12_isIn_0 : decode cX12_isIn 0 = .ok (.lload_n 0, 1) := by decide +kernel
theorem dX12_isIn_1 : decode cX12_isIn 1 = .ok (.lload_n 2, 1) := by decide +kernel
theorem dX12_isIn_2 : decode cX12_isIn 2 = .ok (.lcmp, 1) := by decide +kernel
theorem dX12_isIn_3 : decode cX12_isIn 3 = .ok (.ifCond .lt 14, 3) := by decide +kernel
theorem dX12_isIn_6 : decode cX12_isIn 6 = .ok (.lload_n 0, 1) := by decide +kernel
theorem dX12_isIn_7 : decode cX12_isIn 7 = .ok (.lload 4, 2) := by decide +kernel
theorem dX12_isIn_9 : decode cX12_isIn 9 = .ok (.lcmp, 1) := by decide +kernel
theorem dX12_isIn_10 : decode cX12_isIn 10 = .ok (.ifCond .gt 7, 3) := by decide +kernel
theorem dX12_isIn_13 : decode cX12_isIn 13 = .ok (.iconst 1, 1) := by decide +kernel
theorem dX12_isIn_14 : decode cX12_isIn 14 = .ok (.goto 4, 3) := by decide +kernel
theorem dX12_isIn_17 : decode cX12_isIn 17 = .ok (.iconst 0, 1) := by decide +kernel
theorem dX12_isIn_18 : decode cX12_isIn 18 = .ok (.ireturn, 1) := by decide +kernel
set_option maxRecDepth 20000 in
theorem ggX12_isAmong_J0_length_8abf5 : GoodIn wsX12_isAmong wsJ0_length_8abf5 := goodIn_r _ [5, 6, 7, 8, 9, 4, 10, 11, 12] (by decide +kernel) (by decide +kernel)
set_option maxRecDepth 20000 in
theorem gX12_isAmong_J0_length_8abf5 : GoodIn wsX12_isAmong (wsV RX12 93 RJ0 yJ0_length_8abf5 wsJ0_length_8abf5) := goodIn_app (goodIn_of _ (by decide +kernel)) ggX12_isAmong_J0_length_8abf5
set_option maxRecDepth 20000 in
theorem ggX12_isAmong_J0_charAt_5068e : GoodIn wsX12_isAmong wsJ0_charAt_5068e := goodIn_r _ [16, 6, 17, 18, 19, 4, 20, 11, 12, 21, 22, 23, 24, 25, 26, 27, 28, 29, 30, 31, 32, 33, 34, 35, 36, 37, 38, 39, 40, 41, 42, 43, 44, 45, 46, 47, 48, 49] (by decide +kernel) (by decide +kernel)
set_option maxRecDepth 20000 in
theorem gX12_isAmong_J0_charAt_5068e : GoodIn wsX12_isAmong (wsV RX12 99 RJ0 yJ0_charAt_5068e wsJ0_charAt_5068e) := goodIn_app (goodIn_of _ (by decide +kernel)) ggX12_isAmong_J0_charAt_5068e
theorem dX12_isAmong_0 : decode cX12_isAmong 0 = .ok (.iconst 0, 1) := by decide +kernel
theorem dX12_isAmong_1 : decode cX12_isAmong 1 = .ok (.istore_n 2, 1) := by decide +kernel
theorem dX12_isAmong_2 : decode cX12_isAmong 2 = .ok (.iload_n 2, 1) := by decide +kernel
theorem dX12_isAmong_3 : decode cX12_isAmong 3 = .ok (.aload_n 0, 1) := by decide +kernel
theorem dX12_isAmong_4 : decode cX12_isAmong 4 = .ok (.invokevirtual 93, 3) := by decide +kernel
theorem dX12_isAmong_7 : decode cX12_isAmong 7 = .ok (.if_icmp .ge 20, 3) := by decide +kernel
theorem dX12_isAmong_10 : decode cX12_isAmong 10 = .ok (.aload_n 0, 1) := by decide +kernel
theorem dX12_isAmong_11 : decode cX12_isAmong 11 = .ok (.iload_n 2, 1) := by decide +kernel
theorem dX12_isAmong_12 : decode cX12_isAmong 12 = .ok (.invokevirtual 99, 3) := by decide +kernel
theorem dX12_isAmong_15 : decode cX12_isAmong 15 = .ok (.iload_n 1, 1) := by decide +kernel
theorem dX12_isAmong_16 : decode cX12_isAmong 16 = .ok (.if_icmp .ne 5, 3) := by decide +kernel
theorem dX12_isAmong_19 : decode cX12_isAmong 19 = .ok (.iconst 1, 1) := by decide +kernel
theorem dX12_isAmong_20 : decode cX12_isAmong 20 = .ok (.ireturn, 1) := by decide +kernel
theorem dX12_isAmong_21 : decode cX12_isAmong 21 = .ok (.iinc 2 1, 3) := by decide +kernel
theorem dX12_isAmong_24 : decode cX12_isAmong 24 = .ok (.goto (-22), 3) := by decide +kernel
theorem dX12_isAmong_27 : decode cX12_isAmong 27 = .ok (.iconst 0, 1) := by decide +kernel
theorem dX12_isAmong_28 : decode cX12_isAmong 28 = .ok (.ireturn, 1) := by decide +kernel
theorem dX12_bytesIn_0 : decode cX12_bytesIn 0 = .ok (.iconst 0, 1) := by decide +kernel
theorem dX12_bytesIn_1 : decode cX12_bytesIn 1 = .ok (.istore_n 1, 1) := by decide +kernel
theorem dX12_bytesIn_2 : decode cX12_bytesIn 2 = .ok (.bipush 24, 2) := by decide +kernel
theorem dX12_bytesIn_4 : decode cX12_bytesIn 4 = .ok (.istore_n 2, 1) := by decide +kernel
theorem dX12_bytesIn_5 : decode cX12_bytesIn 5 = .ok (.iload_n 2, 1) := by decide +kernel
theorem dX12_bytesIn_6 : decode cX12_bytesIn 6 = .ok (.ifCond .lt 27, 3) := by decide +kernel
theorem dX12_bytesIn_9 : decode cX12_bytesIn 9 = .ok (.iload_n 1, 1) := by decide +kernel
theorem dX12_bytesIn_10 : decode cX12_bytesIn 10 = .ok (.iload_n 0, 1) := by decide +kernel
theorem dX12_bytesIn_11 : decode cX12_bytesIn 11 = .ok (.iload_n 2, 1) := by decide +kernel
theorem dX12_bytesIn_12 : decode cX12_bytesIn 12 = .ok (.ishr, 1) := by decide +kernel
theorem dX12_bytesIn_13 : decode cX12_bytesIn 13 = .ok (.sipush 255, 3) := by decide +kernel
theorem dX12_bytesIn_16 : decode cX12_bytesIn 16 = .ok (.iand, 1) := by decide +kernel
theorem dX12_bytesIn_17 : decode cX12_bytesIn 17 = .ok (.ifCond .eq 7, 3) := by decide +kernel
theorem dX12_bytesIn_20 : decode cX12_bytesIn 20 = .ok (.iconst 1, 1) := by decide +kernel
theorem dX12_bytesIn_21 : decode cX12_bytesIn 21 = .ok (.goto 4, 3) := by decide +kernel
theorem dX12_bytesIn_24 : decode cX12_bytesIn 24 = .ok (.iconst 0, 1) := by decide +kernel
theorem dX12_bytesIn_25 : decode cX12_bytesIn 25 = .ok (.iadd, 1) := by decide +kernel
theorem dX12_bytesIn_26 : decode cX12_bytesIn 26 = .ok (.istore_n 1, 1) := by decide +kernel
theorem dX12_bytesIn_27 : decode cX12_bytesIn 27 = .ok (.iinc 2 (-8), 3) := by decide +kernel
theorem dX12_bytesIn_30 : decode cX12_bytesIn 30 = .ok (.goto (-25), 3) := by decide +kernel
theorem dX12_bytesIn_33 : decode cX12_bytesIn 33 = .ok (.iload_n 1, 1) := by decide +kernel
theorem dX12_bytesIn_34 : decode cX12_bytesIn 34 = .ok (.ireturn, 1) := by decide +kernel
theorem dX12_put_0 : decode cX12_put 0 = .ok (.bipush 24, 2) := by decide +kernel
theorem dX12_put_2 : decode cX12_put 2 = .ok (.istore_n 2, 1) := by decide +kernel
theorem dX12_put_3 : decode cX12_put 3 = .ok (.iload_n 2, 1) := by decide +kernel
theorem dX12_put_4 : decode cX12_put 4 = .ok (.ifCond .lt 45, 3) := by decide +kernel
theorem dX12_put_7 : decode cX12_put 7 = .ok (.iload_n 1, 1) := by decide +kernel
theorem dX12_put_8 : decode cX12_put 8 = .ok (.iload_n 2, 1) := by decide +kernel
theorem dX12_put_9 : decode cX12_put 9 = .ok (.ishr, 1) := by decide +kernel
theorem dX12_put_10 : decode cX12_put 10 = .ok (.sipush 255, 3) := by decide +kernel
theorem dX12_put_13 : decode cX12_put 13 = .ok (.iand, 1) := by decide +kernel
theorem dX12_put_14 : decode cX12_put 14 = .ok (.ifCond .ne 6, 3) := by decide +kernel
theorem dX12_put_17 : decode cX12_put 17 = .ok (.goto 26, 3) := by decide +kernel
theorem dX12_put_20 : decode cX12_put 20 = .ok (.aload_n 0, 1) := by decide +kernel
theorem dX12_put_21 : decode cX12_put 21 = .ok (.getfield 9, 3) := by decide +kernel
theorem dX12_put_24 : decode cX12_put 24 = .ok (.aload_n 0, 1) := by decide +kernel
theorem dX12_put_25 : decode cX12_put 25 = .ok (.getfield 103, 3) := by decide +kernel
theorem dX12_put_28 : decode cX12_put 28 = .ok (.iload_n 1, 1) := by decide +kernel
theorem dX12_put_29 : decode cX12_put 29 = .ok (.iload_n 2, 1) := by decide +kernel
theorem dX12_put_30 : decode cX12_put 30 = .ok (.ishr, 1) := by decide +kernel
theorem dX12_put_31 : decode cX12_put 31 = .ok (.i2b, 1) := by decide +kernel
theorem dX12_put_32 : decode cX12_put 32 = .ok (.bastore, 1) := by decide +kernel
theorem dX12_put_33 : decode cX12_put 33 = .ok (.aload_n 0, 1) := by decide +kernel
theorem dX12_put_34 : decode cX12_put 34 = .ok (.dup, 1) := by decide +kernel
theorem dX12_put_35 : decode cX12_put 35 = .ok (.getfield 103, 3) := by decide +kernel
theorem dX12_put_38 : decode cX12_put 38 = .ok (.iconst 1, 1) := by decide +kernel
theorem dX12_put_39 : decode cX12_put 39 = .ok (.iadd, 1) := by decide +kernel
theorem dX12_put_40 : decode cX12_put 40 = .ok (.putfield 103, 3) := by decide +kernel
theorem dX12_put_43 : decode cX12_put 43 = .ok (.iinc 2 (-8), 3) := by decide +kernel
theorem dX12_put_46 : decode cX12_put 46 = .ok (.goto (-43), 3) := by decide +kernel
theorem dX12_put_49 : decode cX12_put 49 = .ok (.return_, 1) := by decide +kernel
set_option maxRecDepth 20000 in
theorem ggX12_feed_X12_bytesIn : GoodIn wsX12_feed wsX12_bytesIn := goodIn_r _ [6] (by decide +kernel) (by decide +kernel)
set_option maxRecDepth 20000 in
theorem gX12_feed_X12_bytesIn : GoodIn wsX12_feed (va_wsS RX12 105 yX12_bytesIn wsX12_bytesIn) := goodIn_app (goodIn_of _ (by decide +kernel)) ggX12_feed_X12_bytesIn
set_option maxRecDepth 20000 in
theorem ggX12_feed_X12_put : GoodIn wsX12_feed wsX12_put := goodIn_r _ [10, 11, 2, 12, 13, 14, 15, 16, 17, 18, 19, 20, 21, 22, 23, 24, 25, 26, 27, 28, 29, 30, 31, 32, 33, 34, 35, 36, 37, 38, 39, 40, 41, 42, 43, 44, 45, 46, 47, 48, 49, 50, 51, 52, 53, 54, 55, 56, 57, 58, 59, 60, 61, 62, 63, 64, 65] (by decide +kernel) (by decide +kernel)
set_option maxRecDepth 20000 in
theorem gX12_feed_X12_put : GoodIn wsX12_feed (wsV RX12 109 RX12 yX12_put wsX12_put) := goodIn_app (goodIn_of _ (by decide +kernel)) ggX12_feed_X12_put
theorem dX12_feed_0 : decode cX12_feed 0 = .ok (.aload_n 0, 1) := by decide +kernel
theorem dX12_feed_1 : decode cX12_feed 1 = .ok (.iconst 0, 1) := by decide +kernel
theorem dX12_feed_2 : decode cX12_feed 2 = .ok (.putfield 90, 3) := by decide +kernel
theorem dX12_feed_5 : decode cX12_feed 5 = .ok (.aload_n 0, 1) := by decide +kernel
theorem dX12_feed_6 : decode cX12_feed 6 = .ok (.getfield 103, 3) := by decide +kernel
theorem dX12_feed_9 : decode cX12_feed 9 = .ok (.iload_n 1, 1) := by decide +kernel
theorem dX12_feed_10 : decode cX12_feed 10 = .ok (.invokestatic 105, 3) := by decide +kernel
theorem dX12_feed_13 : decode cX12_feed 13 = .ok (.iadd, 1) := by decide +kernel
theorem dX12_feed_14 : decode cX12_feed 14 = .ok (.iload_n 2, 1) := by decide +kernel
theorem dX12_feed_15 : decode cX12_feed 15 = .ok (.invokestatic 105, 3) := by decide +kernel
theorem dX12_feed_18 : decode cX12_feed 18 = .ok (.iadd, 1) := by decide +kernel
theorem dX12_feed_19 : decode cX12_feed 19 = .ok (.iload_n 3, 1) := by decide +kernel
theorem dX12_feed_20 : decode cX12_feed 20 = .ok (.invokestatic 105, 3) := by decide +kernel
theorem dX12_feed_23 : decode cX12_feed 23 = .ok (.iadd, 1) := by decide +kernel
theorem dX12_feed_24 : decode cX12_feed 24 = .ok (.iload 4, 2) := by decide +kernel
theorem dX12_feed_26 : decode cX12_feed 26 = .ok (.invokestatic 105, 3) := by decide +kernel
