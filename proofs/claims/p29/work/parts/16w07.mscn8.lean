theorem k194_0 : lkc 0 (kcode 194) = some (.iload_n 1) := by decide +kernel
theorem k194_1 : lkc 1 (kcode 194) = some (.ifCond .lt 15) := by decide +kernel
theorem k194_4 : lkc 4 (kcode 194) = some (.iload_n 1) := by decide +kernel
theorem k194_5 : lkc 5 (kcode 194) = some (.aload_n 0) := by decide +kernel
theorem k194_6 : lkc 6 (kcode 194) = some (.getfield 283) := by decide +kernel
theorem k194_9 : lkc 9 (kcode 194) = some (.if_icmp .ge 7) := by decide +kernel
theorem k194_12 : lkc 12 (kcode 194) = some (.iconst 1) := by decide +kernel
theorem k194_13 : lkc 13 (kcode 194) = some (.goto 4) := by decide +kernel
theorem k194_16 : lkc 16 (kcode 194) = some (.iconst 0) := by decide +kernel
theorem k194_17 : lkc 17 (kcode 194) = some (.ireturn) := by decide +kernel
theorem k195_0 : lkc 0 (kcode 195) = some (.iload_n 1) := by decide +kernel
theorem k195_1 : lkc 1 (kcode 195) = some (.ifCond .lt 15) := by decide +kernel
theorem k195_4 : lkc 4 (kcode 195) = some (.iload_n 1) := by decide +kernel
theorem k195_5 : lkc 5 (kcode 195) = some (.aload_n 0) := by decide +kernel
theorem k195_6 : lkc 6 (kcode 195) = some (.getfield 286) := by decide +kernel
theorem k195_9 : lkc 9 (kcode 195) = some (.if_icmp .ge 7) := by decide +kernel
theorem k195_12 : lkc 12 (kcode 195) = some (.iconst 1) := by decide +kernel
theorem k195_13 : lkc 13 (kcode 195) = some (.goto 4) := by decide +kernel
theorem k195_16 : lkc 16 (kcode 195) = some (.iconst 0) := by decide +kernel
theorem k195_17 : lkc 17 (kcode 195) = some (.ireturn) := by decide +kernel
theorem k211_0 : lkc 0 (kcode 211) = some (.aload_n 0) := by decide +kernel
theorem k211_1 : lkc 1 (kcode 211) = some (.getfield 58) := by decide +kernel
theorem k211_4 : lkc 4 (kcode 211) = some (.bipush 25) := by decide +kernel
theorem k211_6 : lkc 6 (kcode 211) = some (.iaload) := by decide +kernel
theorem k211_7 : lkc 7 (kcode 211) = some (.iload_n 1) := by decide +kernel
theorem k211_8 : lkc 8 (kcode 211) = some (.if_icmp .ge 5) := by decide +kernel
theorem k211_11 : lkc 11 (kcode 211) = some (.iconst 0) := by decide +kernel
theorem k211_12 : lkc 12 (kcode 211) = some (.ireturn) := by decide +kernel
theorem k211_13 : lkc 13 (kcode 211) = some (.aload_n 0) := by decide +kernel
theorem k211_14 : lkc 14 (kcode 211) = some (.invokevirtual 367) := by decide +kernel
theorem k211_17 : lkc 17 (kcode 211) = some (.aload_n 0) := by decide +kernel
theorem k211_18 : lkc 18 (kcode 211) = some (.getfield 58) := by decide +kernel
theorem k211_21 : lkc 21 (kcode 211) = some (.bipush 25) := by decide +kernel
theorem k211_23 : lkc 23 (kcode 211) = some (.dup2) := by decide +kernel
theorem k211_24 : lkc 24 (kcode 211) = some (.iaload) := by decide +kernel
theorem k211_25 : lkc 25 (kcode 211) = some (.iload_n 1) := by decide +kernel
theorem k211_26 : lkc 26 (kcode 211) = some (.isub) := by decide +kernel
theorem k211_27 : lkc 27 (kcode 211) = some (.iastore) := by decide +kernel
theorem k211_28 : lkc 28 (kcode 211) = some (.iconst 1) := by decide +kernel
theorem k211_29 : lkc 29 (kcode 211) = some (.ireturn) := by decide +kernel
theorem k213_0 : lkc 0 (kcode 213) = some (.aload_n 0) := by decide +kernel
theorem k213_1 : lkc 1 (kcode 213) = some (.iconst 0) := by decide +kernel
theorem k213_2 : lkc 2 (kcode 213) = some (.putfield 90) := by decide +kernel
theorem k213_5 : lkc 5 (kcode 213) = some (.aload_n 0) := by decide +kernel
theorem k213_6 : lkc 6 (kcode 213) = some (.iload_n 1) := by decide +kernel
theorem k213_7 : lkc 7 (kcode 213) = some (.invokevirtual 357) := by decide +kernel
theorem k213_10 : lkc 10 (kcode 213) = some (.ifCond .eq 11) := by decide +kernel
theorem k213_13 : lkc 13 (kcode 213) = some (.aload_n 0) := by decide +kernel
theorem k213_14 : lkc 14 (kcode 213) = some (.iconst 3) := by decide +kernel
theorem k213_15 : lkc 15 (kcode 213) = some (.invokevirtual 374) := by decide +kernel
theorem k213_18 : lkc 18 (kcode 213) = some (.ifCond .ne 5) := by decide +kernel
theorem k213_21 : lkc 21 (kcode 213) = some (.iconst (-1)) := by decide +kernel
theorem k213_22 : lkc 22 (kcode 213) = some (.ireturn) := by decide +kernel
theorem k213_23 : lkc 23 (kcode 213) = some (.aload_n 0) := by decide +kernel
theorem k213_24 : lkc 24 (kcode 213) = some (.getfield 58) := by decide +kernel
theorem k213_27 : lkc 27 (kcode 213) = some (.bipush 24) := by decide +kernel
theorem k213_29 : lkc 29 (kcode 213) = some (.dup2) := by decide +kernel
theorem k213_30 : lkc 30 (kcode 213) = some (.iaload) := by decide +kernel
theorem k213_31 : lkc 31 (kcode 213) = some (.iconst 1) := by decide +kernel
theorem k213_32 : lkc 32 (kcode 213) = some (.iload_n 1) := by decide +kernel
theorem k213_33 : lkc 33 (kcode 213) = some (.ishl) := by decide +kernel
theorem k213_34 : lkc 34 (kcode 213) = some (.ixor) := by decide +kernel
theorem k213_35 : lkc 35 (kcode 213) = some (.iastore) := by decide +kernel
theorem k213_36 : lkc 36 (kcode 213) = some (.aload_n 0) := by decide +kernel
theorem k213_37 : lkc 37 (kcode 213) = some (.getfield 58) := by decide +kernel
theorem k213_40 : lkc 40 (kcode 213) = some (.bipush 24) := by decide +kernel
theorem k213_42 : lkc 42 (kcode 213) = some (.iaload) := by decide +kernel
theorem k213_43 : lkc 43 (kcode 213) = some (.iload_n 1) := by decide +kernel
theorem k213_44 : lkc 44 (kcode 213) = some (.ishr) := by decide +kernel
theorem k213_45 : lkc 45 (kcode 213) = some (.iconst 1) := by decide +kernel
theorem k213_46 : lkc 46 (kcode 213) = some (.iand) := by decide +kernel
theorem k213_47 : lkc 47 (kcode 213) = some (.ireturn) := by decide +kernel
theorem k214_0 : lkc 0 (kcode 214) = some (.aload_n 0) := by decide +kernel
theorem k214_1 : lkc 1 (kcode 214) = some (.iconst 0) := by decide +kernel
theorem k214_2 : lkc 2 (kcode 214) = some (.putfield 90) := by decide +kernel
theorem k214_5 : lkc 5 (kcode 214) = some (.aload_n 0) := by decide +kernel
theorem k214_6 : lkc 6 (kcode 214) = some (.iload_n 1) := by decide +kernel
theorem k214_7 : lkc 7 (kcode 214) = some (.invokevirtual 354) := by decide +kernel
theorem k214_10 : lkc 10 (kcode 214) = some (.ifCond .eq 25) := by decide +kernel
theorem k214_13 : lkc 13 (kcode 214) = some (.aload_n 0) := by decide +kernel
theorem k214_14 : lkc 14 (kcode 214) = some (.getfield 58) := by decide +kernel
theorem k214_17 : lkc 17 (kcode 214) = some (.iconst 2) := by decide +kernel
theorem k214_18 : lkc 18 (kcode 214) = some (.iload_n 1) := by decide +kernel
theorem k214_19 : lkc 19 (kcode 214) = some (.imul) := by decide +kernel
theorem k214_20 : lkc 20 (kcode 214) = some (.iconst 1) := by decide +kernel
theorem k214_21 : lkc 21 (kcode 214) = some (.iadd) := by decide +kernel
theorem k214_22 : lkc 22 (kcode 214) = some (.iaload) := by decide +kernel
theorem k214_23 : lkc 23 (kcode 214) = some (.iconst 3) := by decide +kernel
theorem k214_24 : lkc 24 (kcode 214) = some (.if_icmp .eq 11) := by decide +kernel
theorem k214_27 : lkc 27 (kcode 214) = some (.aload_n 0) := by decide +kernel
theorem k214_28 : lkc 28 (kcode 214) = some (.iconst 2) := by decide +kernel
theorem k214_29 : lkc 29 (kcode 214) = some (.invokevirtual 374) := by decide +kernel
theorem k214_32 : lkc 32 (kcode 214) = some (.ifCond .ne 5) := by decide +kernel
theorem k214_35 : lkc 35 (kcode 214) = some (.iconst (-1)) := by decide +kernel
theorem k214_36 : lkc 36 (kcode 214) = some (.ireturn) := by decide +kernel
theorem k214_37 : lkc 37 (kcode 214) = some (.aload_n 0) := by decide +kernel
theorem k214_38 : lkc 38 (kcode 214) = some (.getfield 58) := by decide +kernel
theorem k214_41 : lkc 41 (kcode 214) = some (.iconst 2) := by decide +kernel
theorem k214_42 : lkc 42 (kcode 214) = some (.iload_n 1) := by decide +kernel
theorem k214_43 : lkc 43 (kcode 214) = some (.imul) := by decide +kernel
theorem k214_44 : lkc 44 (kcode 214) = some (.iconst 1) := by decide +kernel
theorem k214_45 : lkc 45 (kcode 214) = some (.iadd) := by decide +kernel
theorem k214_46 : lkc 46 (kcode 214) = some (.dup2) := by decide +kernel
theorem k214_47 : lkc 47 (kcode 214) = some (.iaload) := by decide +kernel
theorem k214_48 : lkc 48 (kcode 214) = some (.iconst 1) := by decide +kernel
theorem k214_49 : lkc 49 (kcode 214) = some (.iadd) := by decide +kernel
theorem k214_50 : lkc 50 (kcode 214) = some (.iastore) := by decide +kernel
theorem k214_51 : lkc 51 (kcode 214) = some (.aload_n 0) := by decide +kernel
theorem k214_52 : lkc 52 (kcode 214) = some (.getfield 58) := by decide +kernel
theorem k214_55 : lkc 55 (kcode 214) = some (.iconst 2) := by decide +kernel
theorem k214_56 : lkc 56 (kcode 214) = some (.iload_n 1) := by decide +kernel
theorem k214_57 : lkc 57 (kcode 214) = some (.imul) := by decide +kernel
theorem k214_58 : lkc 58 (kcode 214) = some (.iconst 1) := by decide +kernel
theorem k214_59 : lkc 59 (kcode 214) = some (.iadd) := by decide +kernel
theorem k214_60 : lkc 60 (kcode 214) = some (.iaload) := by decide +kernel
theorem k214_61 : lkc 61 (kcode 214) = some (.ireturn) := by decide +kernel
theorem k215_0 : lkc 0 (kcode 215) = some (.aload_n 0) := by decide +kernel
theorem k215_1 : lkc 1 (kcode 215) = some (.iconst 0) := by decide +kernel
theorem k215_2 : lkc 2 (kcode 215) = some (.putfield 90) := by decide +kernel
theorem k215_5 : lkc 5 (kcode 215) = some (.aload_n 0) := by decide +kernel
theorem k215_6 : lkc 6 (kcode 215) = some (.iload_n 1) := by decide +kernel
theorem k215_7 : lkc 7 (kcode 215) = some (.invokevirtual 362) := by decide +kernel
theorem k215_10 : lkc 10 (kcode 215) = some (.ifCond .eq 36) := by decide +kernel
theorem k215_13 : lkc 13 (kcode 215) = some (.aload_n 0) := by decide +kernel
theorem k215_14 : lkc 14 (kcode 215) = some (.iload_n 2) := by decide +kernel
theorem k215_15 : lkc 15 (kcode 215) = some (.invokevirtual 354) := by decide +kernel
theorem k215_18 : lkc 18 (kcode 215) = some (.ifCond .eq 28) := by decide +kernel
theorem k215_21 : lkc 21 (kcode 215) = some (.aload_n 0) := by decide +kernel
theorem k215_22 : lkc 22 (kcode 215) = some (.getfield 58) := by decide +kernel
theorem k215_25 : lkc 25 (kcode 215) = some (.bipush 16) := by decide +kernel
theorem k215_27 : lkc 27 (kcode 215) = some (.iconst 2) := by decide +kernel
theorem k215_28 : lkc 28 (kcode 215) = some (.iload_n 1) := by decide +kernel
theorem k215_29 : lkc 29 (kcode 215) = some (.imul) := by decide +kernel
theorem k215_30 : lkc 30 (kcode 215) = some (.iadd) := by decide +kernel
theorem k215_31 : lkc 31 (kcode 215) = some (.iconst 0) := by decide +kernel
theorem k215_32 : lkc 32 (kcode 215) = some (.iadd) := by decide +kernel
theorem k215_33 : lkc 33 (kcode 215) = some (.iaload) := by decide +kernel
theorem k215_34 : lkc 34 (kcode 215) = some (.iload_n 2) := by decide +kernel
theorem k215_35 : lkc 35 (kcode 215) = some (.if_icmp .eq 11) := by decide +kernel
theorem k215_38 : lkc 38 (kcode 215) = some (.aload_n 0) := by decide +kernel
theorem k215_39 : lkc 39 (kcode 215) = some (.iconst 1) := by decide +kernel
theorem k215_40 : lkc 40 (kcode 215) = some (.invokevirtual 374) := by decide +kernel
theorem k215_43 : lkc 43 (kcode 215) = some (.ifCond .ne 5) := by decide +kernel
theorem k215_46 : lkc 46 (kcode 215) = some (.iconst (-1)) := by decide +kernel
theorem k215_47 : lkc 47 (kcode 215) = some (.ireturn) := by decide +kernel
theorem k215_48 : lkc 48 (kcode 215) = some (.aload_n 0) := by decide +kernel
theorem k215_49 : lkc 49 (kcode 215) = some (.getfield 58) := by decide +kernel
theorem k215_52 : lkc 52 (kcode 215) = some (.bipush 16) := by decide +kernel
theorem k215_54 : lkc 54 (kcode 215) = some (.iconst 2) := by decide +kernel
theorem k215_55 : lkc 55 (kcode 215) = some (.iload_n 1) := by decide +kernel
theorem k215_56 : lkc 56 (kcode 215) = some (.imul) := by decide +kernel
theorem k215_57 : lkc 57 (kcode 215) = some (.iadd) := by decide +kernel
theorem k215_58 : lkc 58 (kcode 215) = some (.iconst 0) := by decide +kernel
theorem k215_59 : lkc 59 (kcode 215) = some (.iadd) := by decide +kernel
theorem k215_60 : lkc 60 (kcode 215) = some (.iaload) := by decide +kernel
theorem k215_61 : lkc 61 (kcode 215) = some (.istore_n 3) := by decide +kernel
theorem k215_62 : lkc 62 (kcode 215) = some (.aload_n 0) := by decide +kernel
theorem k215_63 : lkc 63 (kcode 215) = some (.getfield 58) := by decide +kernel
theorem k215_66 : lkc 66 (kcode 215) = some (.bipush 16) := by decide +kernel
theorem k215_68 : lkc 68 (kcode 215) = some (.iconst 2) := by decide +kernel
theorem k215_69 : lkc 69 (kcode 215) = some (.iload_n 1) := by decide +kernel
theorem k215_70 : lkc 70 (kcode 215) = some (.imul) := by decide +kernel
theorem k215_71 : lkc 71 (kcode 215) = some (.iadd) := by decide +kernel
theorem k215_72 : lkc 72 (kcode 215) = some (.iconst 0) := by decide +kernel
theorem k215_73 : lkc 73 (kcode 215) = some (.iadd) := by decide +kernel
theorem k215_74 : lkc 74 (kcode 215) = some (.iload_n 2) := by decide +kernel
theorem k215_75 : lkc 75 (kcode 215) = some (.iastore) := by decide +kernel
theorem k215_76 : lkc 76 (kcode 215) = some (.iload_n 3) := by decide +kernel
theorem k215_77 : lkc 77 (kcode 215) = some (.ireturn) := by decide +kernel
theorem k216_0 : lkc 0 (kcode 216) = some (.aload_n 0) := by decide +kernel
theorem k216_1 : lkc 1 (kcode 216) = some (.iconst 0) := by decide +kernel
theorem k216_2 : lkc 2 (kcode 216) = some (.putfield 90) := by decide +kernel
theorem k216_5 : lkc 5 (kcode 216) = some (.aload_n 0) := by decide +kernel
theorem k216_6 : lkc 6 (kcode 216) = some (.iload_n 1) := by decide +kernel
theorem k216_7 : lkc 7 (kcode 216) = some (.invokevirtual 362) := by decide +kernel
theorem k216_10 : lkc 10 (kcode 216) = some (.ifCond .eq 29) := by decide +kernel
theorem k216_13 : lkc 13 (kcode 216) = some (.aload_n 0) := by decide +kernel
theorem k216_14 : lkc 14 (kcode 216) = some (.getfield 58) := by decide +kernel
theorem k216_17 : lkc 17 (kcode 216) = some (.bipush 16) := by decide +kernel
theorem k216_19 : lkc 19 (kcode 216) = some (.iconst 2) := by decide +kernel
theorem k216_20 : lkc 20 (kcode 216) = some (.iload_n 1) := by decide +kernel
theorem k216_21 : lkc 21 (kcode 216) = some (.imul) := by decide +kernel
theorem k216_22 : lkc 22 (kcode 216) = some (.iadd) := by decide +kernel
theorem k216_23 : lkc 23 (kcode 216) = some (.iconst 1) := by decide +kernel
theorem k216_24 : lkc 24 (kcode 216) = some (.iadd) := by decide +kernel
theorem k216_25 : lkc 25 (kcode 216) = some (.iaload) := by decide +kernel
theorem k216_26 : lkc 26 (kcode 216) = some (.bipush 9) := by decide +kernel
theorem k216_28 : lkc 28 (kcode 216) = some (.if_icmp .eq 11) := by decide +kernel
theorem k216_31 : lkc 31 (kcode 216) = some (.aload_n 0) := by decide +kernel
theorem k216_32 : lkc 32 (kcode 216) = some (.iconst 4) := by decide +kernel
theorem k216_33 : lkc 33 (kcode 216) = some (.invokevirtual 374) := by decide +kernel
theorem k216_36 : lkc 36 (kcode 216) = some (.ifCond .ne 5) := by decide +kernel
theorem k216_39 : lkc 39 (kcode 216) = some (.iconst (-1)) := by decide +kernel
theorem k216_40 : lkc 40 (kcode 216) = some (.ireturn) := by decide +kernel
theorem k216_41 : lkc 41 (kcode 216) = some (.aload_n 0) := by decide +kernel
theorem k216_42 : lkc 42 (kcode 216) = some (.getfield 58) := by decide +kernel
theorem k216_45 : lkc 45 (kcode 216) = some (.bipush 16) := by decide +kernel
theorem k216_47 : lkc 47 (kcode 216) = some (.iconst 2) := by decide +kernel
theorem k216_48 : lkc 48 (kcode 216) = some (.iload_n 1) := by decide +kernel
theorem k216_49 : lkc 49 (kcode 216) = some (.imul) := by decide +kernel
theorem k216_50 : lkc 50 (kcode 216) = some (.iadd) := by decide +kernel
theorem k216_51 : lkc 51 (kcode 216) = some (.iconst 1) := by decide +kernel
theorem k216_52 : lkc 52 (kcode 216) = some (.iadd) := by decide +kernel
theorem k216_53 : lkc 53 (kcode 216) = some (.dup2) := by decide +kernel
theorem k216_54 : lkc 54 (kcode 216) = some (.iaload) := by decide +kernel
theorem k216_55 : lkc 55 (kcode 216) = some (.iconst 1) := by decide +kernel
theorem k216_56 : lkc 56 (kcode 216) = some (.iadd) := by decide +kernel
theorem k216_57 : lkc 57 (kcode 216) = some (.iastore) := by decide +kernel
theorem k216_58 : lkc 58 (kcode 216) = some (.aload_n 0) := by decide +kernel
theorem k216_59 : lkc 59 (kcode 216) = some (.getfield 58) := by decide +kernel
theorem k216_62 : lkc 62 (kcode 216) = some (.bipush 16) := by decide +kernel
theorem k216_64 : lkc 64 (kcode 216) = some (.iconst 2) := by decide +kernel
theorem k216_65 : lkc 65 (kcode 216) = some (.iload_n 1) := by decide +kernel
theorem k216_66 : lkc 66 (kcode 216) = some (.imul) := by decide +kernel
theorem k216_67 : lkc 67 (kcode 216) = some (.iadd) := by decide +kernel
theorem k216_68 : lkc 68 (kcode 216) = some (.iconst 1) := by decide +kernel
theorem k216_69 : lkc 69 (kcode 216) = some (.iadd) := by decide +kernel
theorem k216_70 : lkc 70 (kcode 216) = some (.iaload) := by decide +kernel
theorem k216_71 : lkc 71 (kcode 216) = some (.ireturn) := by decide +kernel
theorem k217_0 : lkc 0 (kcode 217) = some (.aload_n 0) := by decide +kernel
theorem k217_1 : lkc 1 (kcode 217) = some (.iconst 0) := by decide +kernel
theorem k217_2 : lkc 2 (kcode 217) = some (.putfield 90) := by decide +kernel
theorem k217_5 : lkc 5 (kcode 217) = some (.aload_n 0) := by decide +kernel
theorem k217_6 : lkc 6 (kcode 217) = some (.getfield 283) := by decide +kernel
theorem k217_9 : lkc 9 (kcode 217) = some (.ifCond .eq 30) := by decide +kernel
theorem k217_12 : lkc 12 (kcode 217) = some (.iload_n 1) := by decide +kernel
theorem k217_13 : lkc 13 (kcode 217) = some (.i2l) := by decide +kernel
theorem k217_14 : lkc 14 (kcode 217) = some (.lconst 1) := by decide +kernel
theorem k217_15 : lkc 15 (kcode 217) = some (.ldc2_w 377) := by decide +kernel
theorem k217_18 : lkc 18 (kcode 217) = some (.invokestatic 211) := by decide +kernel
theorem k217_21 : lkc 21 (kcode 217) = some (.ifCond .eq 18) := by decide +kernel
theorem k217_24 : lkc 24 (kcode 217) = some (.aload_n 0) := by decide +kernel
theorem k217_25 : lkc 25 (kcode 217) = some (.getfield 58) := by decide +kernel
theorem k217_28 : lkc 28 (kcode 217) = some (.bipush 25) := by decide +kernel
theorem k217_30 : lkc 30 (kcode 217) = some (.iaload) := by decide +kernel
theorem k217_31 : lkc 31 (kcode 217) = some (.iload_n 1) := by decide +kernel
theorem k217_32 : lkc 32 (kcode 217) = some (.iadd) := by decide +kernel
theorem k217_33 : lkc 33 (kcode 217) = some (.sipush 999) := by decide +kernel
theorem k217_36 : lkc 36 (kcode 217) = some (.if_icmp .le 5) := by decide +kernel
theorem k217_39 : lkc 39 (kcode 217) = some (.iconst (-1)) := by decide +kernel
theorem k217_40 : lkc 40 (kcode 217) = some (.ireturn) := by decide +kernel
theorem k217_41 : lkc 41 (kcode 217) = some (.aload_n 0) := by decide +kernel
theorem k217_42 : lkc 42 (kcode 217) = some (.invokevirtual 367) := by decide +kernel
theorem k217_45 : lkc 45 (kcode 217) = some (.aload_n 0) := by decide +kernel
theorem k217_46 : lkc 46 (kcode 217) = some (.getfield 58) := by decide +kernel
theorem k217_49 : lkc 49 (kcode 217) = some (.bipush 25) := by decide +kernel
theorem k217_51 : lkc 51 (kcode 217) = some (.dup2) := by decide +kernel
theorem k217_52 : lkc 52 (kcode 217) = some (.iaload) := by decide +kernel
theorem k217_53 : lkc 53 (kcode 217) = some (.iload_n 1) := by decide +kernel
theorem k217_54 : lkc 54 (kcode 217) = some (.iadd) := by decide +kernel
theorem k217_55 : lkc 55 (kcode 217) = some (.iastore) := by decide +kernel
theorem k217_56 : lkc 56 (kcode 217) = some (.aload_n 0) := by decide +kernel
theorem k217_57 : lkc 57 (kcode 217) = some (.getfield 58) := by decide +kernel
theorem k217_60 : lkc 60 (kcode 217) = some (.bipush 25) := by decide +kernel
theorem k217_62 : lkc 62 (kcode 217) = some (.iaload) := by decide +kernel
theorem k217_63 : lkc 63 (kcode 217) = some (.ireturn) := by decide +kernel
/-! forward: the acts, the reference -/
theorem rmO_f {h : Nat} {m mk : xM} (q : rmO h m mk) {a i : Nat} (ha : a ≠ 331) (hi : ¬ (a = 314 ∧ i = 42)) : mk.1 a i = m.1 a i := q.2.1 a i ha hi
theorem rmO_r {h : Nat} {m mk : xM} (q : rmO h m mk) (hr : rS m) : rS mk := fun a i b z => by rw [q.1]; exact hr a i b z
theorem c_misStreet {m : xM} {C : Nat} {z : Int32} (hr : rS m) (hC : m.1 314 26 = nI C) (hC9 : C ≤ 1000) : fC 194 [.ref 314, .int z] m (fun rv m' => ((∃ e, e < C ∧ z = nI e ∧ rv = some (.int 1)) ∨ ((∀ e, e < C → z ≠ nI e) ∧ rv = some (.int 0))) ∧ m = m') := by
  refine fC_of (by decide) (fun d n P H => ?_)
  have neg : ∀ n, (∀ e, e < C → z ≠ nI e) → xF 194 (xw d) P n 16 [(0, .ref 314), (1, .int z)] [] m → ∃ rv m', P rv m' ∧ ((∃ e, e < C ∧ z = nI e ∧ rv = some (.int 1)) ∨ ((∀ e, e < C → z ≠ nI e) ∧ rv = some (.int 0))) ∧ m = m' := by
    intro n h H
    replace H := f_iconst H k194_16 (v := 0) (by decide)
    replace H := f_iret H k194_17
    exact ⟨_, _, H, Or.inr ⟨h, rfl⟩, rfl⟩
  replace H := f_iload_n H k194_0 rfl
  have Hbr := f_if_lt H k194_1 (t := 16) (by decide)
  clear H
  rcases Hbr with ⟨c0, H⟩ | ⟨c0, H⟩
  · exact neg _ (fun e he q => by rw [q, show (0 : Int32) = nI 0 from rfl, nxlt (by omega) (by omega)] at c0; omega) H
  · replace H := f_iload_n H k194_4 rfl
    replace H := f_aload_n H k194_5 rfl
    replace H := f_gi H k194_6 (ci := 12) (f := 26) (by decide +kernel) (by decide)
    rw [hC] at H
    have Hbr := f_icmp_ge H k194_9 (t := 16) (by decide)
    clear H
    rcases Hbr with ⟨c1, H⟩ | ⟨c1, H⟩
    · exact neg _ (fun e he q => by rw [q, nxle (by omega) (by omega)] at c1; omega) H
    · replace H := f_iconst H k194_12 (v := 1) (by decide)
      replace H := f_goto H k194_13 (t := 17) (by decide)
      replace H := f_iret H k194_17
      obtain ⟨e, he, rfl⟩ := z_nI (z := z) (K := C) hC9 c0 (by
        rw [Int32.le_iff_toInt_le] at c1
        rw [Int32.lt_iff_toInt_lt]
        omega)
      exact ⟨_, _, H, Or.inl ⟨e, he, rfl, rfl⟩, rfl⟩
theorem c_misWalker {m : xM} {C : Nat} {z : Int32} (hr : rS m) (hC : m.1 314 27 = nI C) (hC9 : C ≤ 1000) : fC 195 [.ref 314, .int z] m (fun rv m' => ((∃ e, e < C ∧ z = nI e ∧ rv = some (.int 1)) ∨ ((∀ e, e < C → z ≠ nI e) ∧ rv = some (.int 0))) ∧ m = m') := by
  refine fC_of (by decide) (fun d n P H => ?_)
  have neg : ∀ n, (∀ e, e < C → z ≠ nI e) → xF 195 (xw d) P n 16 [(0, .ref 314), (1, .int z)] [] m → ∃ rv m', P rv m' ∧ ((∃ e, e < C ∧ z = nI e ∧ rv = some (.int 1)) ∨ ((∀ e, e < C → z ≠ nI e) ∧ rv = some (.int 0))) ∧ m = m' := by
    intro n h H
    replace H := f_iconst H k195_16 (v := 0) (by decide)
    replace H := f_iret H k195_17
    exact ⟨_, _, H, Or.inr ⟨h, rfl⟩, rfl⟩
  replace H := f_iload_n H k195_0 rfl
  have Hbr := f_if_lt H k195_1 (t := 16) (by decide)
  clear H
  rcases Hbr with ⟨c0, H⟩ | ⟨c0, H⟩
  · exact neg _ (fun e he q => by rw [q, show (0 : Int32) = nI 0 from rfl, nxlt (by omega) (by omega)] at c0; omega) H
  · replace H := f_iload_n H k195_4 rfl
    replace H := f_aload_n H k195_5 rfl
    replace H := f_gi H k195_6 (ci := 12) (f := 27) (by decide +kernel) (by decide)
    rw [hC] at H
    have Hbr := f_icmp_ge H k195_9 (t := 16) (by decide)
    clear H
    rcases Hbr with ⟨c1, H⟩ | ⟨c1, H⟩
    · exact neg _ (fun e he q => by rw [q, nxle (by omega) (by omega)] at c1; omega) H
    · replace H := f_iconst H k195_12 (v := 1) (by decide)
      replace H := f_goto H k195_13 (t := 17) (by decide)
      replace H := f_iret H k195_17
      obtain ⟨e, he, rfl⟩ := z_nI (z := z) (K := C) hC9 c0 (by
        rw [Int32.le_iff_toInt_le] at c1
        rw [Int32.lt_iff_toInt_lt]
        omega)
      exact ⟨_, _, H, Or.inl ⟨e, he, rfl, rfl⟩, rfl⟩
theorem c_misCornerN {m : xM} {C : Nat} {z : Int32} (hr : rS m) (hC : m.1 314 25 = nI C) (hC9 : C ≤ 1000) : fC 193 [.ref 314, .int z] m (fun rv m' => ((∃ e, e < C ∧ z = nI e ∧ rv = some (.int 1)) ∨ ((∀ e, e < C → z ≠ nI e) ∧ rv = some (.int 0))) ∧ m = m') := by
  refine fC_of (by decide) (fun d n P H => ?_)
  have neg : ∀ n, (∀ e, e < C → z ≠ nI e) → xF 193 (xw d) P n 16 [(0, .ref 314), (1, .int z)] [] m → ∃ rv m', P rv m' ∧ ((∃ e, e < C ∧ z = nI e ∧ rv = some (.int 1)) ∨ ((∀ e, e < C → z ≠ nI e) ∧ rv = some (.int 0))) ∧ m = m' := by
    intro n h H
    replace H := f_iconst H k193_16 (v := 0) (by decide)
    replace H := f_iret H k193_17
    exact ⟨_, _, H, Or.inr ⟨h, rfl⟩, rfl⟩
  replace H := f_iload_n H k193_0 rfl
  have Hbr := f_if_lt H k193_1 (t := 16) (by decide)
  clear H
  rcases Hbr with ⟨c0, H⟩ | ⟨c0, H⟩
  · exact neg _ (fun e he q => by rw [q, show (0 : Int32) = nI 0 from rfl, nxlt (by omega) (by omega)] at c0; omega) H
  · replace H := f_iload_n H k193_4 rfl
    replace H := f_aload_n H k193_5 rfl
    replace H := f_gi H k193_6 (ci := 12) (f := 25) (by decide +kernel) (by decide)
    rw [hC] at H
    have Hbr := f_icmp_ge H k193_9 (t := 16) (by decide)
    clear H
    rcases Hbr with ⟨c1, H⟩ | ⟨c1, H⟩
    · exact neg _ (fun e he q => by rw [q, nxle (by omega) (by omega)] at c1; omega) H
    · replace H := f_iconst H k193_12 (v := 1) (by decide)
      replace H := f_goto H k193_13 (t := 17) (by decide)
      replace H := f_iret H k193_17
      obtain ⟨e, he, rfl⟩ := z_nI (z := z) (K := C) hC9 c0 (by
        rw [Int32.le_iff_toInt_le] at c1
        rw [Int32.lt_iff_toInt_lt]
        omega)
      exact ⟨_, _, H, Or.inl ⟨e, he, rfl, rfl⟩, rfl⟩
theorem c_pays {m : xM} {k h p : Nat} (hr : rS m) (hk : m.1 326 25 = nI k) (hk9 : k ≤ 999) (hh : m.1 314 42 = nI h) (hh4 : h ≤ 40) (hp : p ≤ 10) : fC 211 [.ref 314, .int (nI p)] m (fun rv m' => (k < p ∧ rv = some (.int 0) ∧ m' = m) ∨ (p ≤ k ∧ rv = some (.int 1) ∧ ∃ mk, rmO h m mk ∧ m' = mI mk 326 25 (nI (k - p)))) := by
  refine fC_of (by decide) (fun d n P H => ?_)
  have c25 : (25 : Int32).toNatClampNeg = 25 := by decide
  replace H := f_aload_n H k211_0 rfl
  replace H := f_gr H k211_1 (ci := 12) (f := 32) (x := 326) (by decide +kernel) (by decide) (hr 314 32 326 rfl)
  replace H := f_bipush H k211_4 (v := 25) (by decide)
  have Hob := f_iald H k211_6 (c := 208) (by decide)
  clear H
  obtain ⟨hb6, H⟩ := Hob
  replace H := f_iload_n H k211_7 rfl
  rw [c25, hk] at H
  have Hbr := f_icmp_ge H k211_8 (t := 13) (by decide)
  clear H
  rcases Hbr with ⟨c, H⟩ | ⟨c, H⟩
  · rw [nxle (by omega) (by omega)] at c
    replace H := f_aload_n H k211_13 rfl
    obtain ⟨rv, m4, ⟨rfl, hq⟩, h9_14⟩ := f_inv H k211_14 (by decide +kernel) (as := []) (b := 314) (r := []) (by rfl) (c_remember hr hh hh4)
    replace H := h9_14
    have hr := rmO_r hq hr
    have k4 : m4.1 326 25 = nI k := by rw [rmO_f hq (by omega) (by omega)]; exact hk
    replace H := f_aload_n H k211_17 rfl
    replace H := f_gr H k211_18 (ci := 12) (f := 32) (x := 326) (by decide +kernel) (by decide) (hr 314 32 326 rfl)
    replace H := f_bipush H k211_21 (v := 25) (by decide)
    replace H := f_dup2 H k211_23
    have Hob := f_iald H k211_24 (c := 208) (by decide)
    clear H
    obtain ⟨hb24, H⟩ := Hob
    replace H := f_iload_n H k211_25 rfl
    replace H := f_isub H k211_26
    have Hob := f_iast H k211_27 (c := 208) (by decide)
    clear H
    obtain ⟨hb27, H⟩ := Hob
    replace H := f_iconst H k211_28 (v := 1) (by decide)
    rw [c25, k4, nI_sub (by omega) c] at H
    replace H := f_iret H k211_29
    exact ⟨_, _, H, Or.inr ⟨c, rfl, m4, hq, rfl⟩⟩
  · rw [nxle (by omega) (by omega)] at c
    replace H := f_iconst H k211_11 (v := 0) (by decide)
    replace H := f_iret H k211_12
    exact ⟨_, _, H, Or.inl ⟨by omega, rfl, rfl⟩⟩
theorem c_mwall {m : xM} {S w k h : Nat} {z : Int32} (hr : rS m) (hk : m.1 326 25 = nI k) (hk9 : k ≤ 999) (hh : m.1 314 42 = nI h) (hh4 : h ≤ 40) (hS : m.1 314 26 = nI S) (hS12 : S ≤ 12) (hw : m.1 326 24 = nI w) (hw2 : w < 65536) : fC 213 [.ref 314, .int z] m (fun rv m' => (¬ (∃ e, e < S ∧ z = nI e ∧ 3 ≤ k) ∧ rv = some (.int (-1)) ∧ m' = mI m 314 0 0) ∨ ∃ e, e < S ∧ z = nI e ∧ 3 ≤ k ∧ rv = some (.int (if (w ^^^ 2 ^ e).testBit e then 1 else 0)) ∧ ∃ mk, rmO h (mI m 314 0 0) mk ∧ m' = mI (mI mk 326 25 (nI (k - 3))) 326 24 (nI (w ^^^ 2 ^ e))) := by
  refine fC_of (by decide) (fun d n P H => ?_)
  have c24 : (24 : Int32).toNatClampNeg = 24 := by decide
  have c25 : (25 : Int32).toNatClampNeg = 25 := by decide
  replace H := f_aload_n H k213_0 rfl
  replace H := f_iconst H k213_1 (v := 0) (by decide)
  replace H := f_put_i H k213_2 (ci := 12) (f := 0) (by decide +kernel) (by decide)
  have hk : (mI m 314 0 0).1 326 25 = nI k := by rw [mI_ne (by omega)]; exact hk
  have hh : (mI m 314 0 0).1 314 42 = nI h := by rw [mI_ne (by omega)]; exact hh
  have hr : rS (mI m 314 0 0) := hr
  have hS : (mI m 314 0 0).1 314 26 = nI S := by rw [mI_ne (by omega)]; exact hS
  have hw : (mI m 314 0 0).1 326 24 = nI w := by rw [mI_ne (by omega)]; exact hw
  generalize mI m 314 0 0 = m at *
  have neg : ∀ n, ¬ (∃ e, e < S ∧ z = nI e ∧ 3 ≤ k) → xF 213 (xw d) P n 21 [(0, .ref 314), (1, .int z)] [] m → ∃ rv m', P rv m' ∧ ((¬ (∃ e, e < S ∧ z = nI e ∧ 3 ≤ k) ∧ rv = some (.int (-1)) ∧ m' = m) ∨ ∃ e, e < S ∧ z = nI e ∧ 3 ≤ k ∧ rv = some (.int (if (w ^^^ 2 ^ e).testBit e then 1 else 0)) ∧ ∃ mk, rmO h m mk ∧ m' = mI (mI mk 326 25 (nI (k - 3))) 326 24 (nI (w ^^^ 2 ^ e))) := by
    intro n hn H
    replace H := f_iconst H k213_21 (v := -1) (by decide)
    replace H := f_iret H k213_22
    exact ⟨_, _, H, Or.inl ⟨hn, rfl, rfl⟩⟩
  replace H := f_aload_n H k213_5 rfl
  replace H := f_iload_n H k213_6 rfl
  obtain ⟨rv, m3, ⟨ho, e3⟩, h9_7⟩ := f_inv H k213_7 (by decide +kernel) (as := [.int _]) (b := 314) (r := []) (by rfl) (c_misStreet hr hS (by omega))
  replace H := h9_7
  rw [← e3] at H
  clear e3
  rcases ho with ⟨e, he, rfl, rfl⟩ | ⟨hno, rfl⟩
  · replace H := f_if_eq_f H k213_10 (by decide)
    replace H := f_aload_n H k213_13 rfl
    replace H := f_iconst H k213_14 (v := 3) (by decide)
    rw [show (3 : Int32) = nI 3 from rfl] at H
    obtain ⟨rv, m4, ho, h9_15⟩ := f_inv H k213_15 (by decide +kernel) (as := [.int _]) (b := 314) (r := []) (by rfl) (c_pays (p := 3) hr hk hk9 hh hh4 (by omega))
    replace H := h9_15
    rcases ho with ⟨c, rfl, e4⟩ | ⟨c, rfl, m5, hq, e4⟩
    · rw [e4] at H
      replace H := f_if_ne_f H k213_18 rfl
      exact neg _ (fun ⟨_, _, _, q⟩ => by omega) H
    · rw [e4] at H
      have hr5 : rS m5 := rmO_r hq hr
      have hr : rS (mI m5 326 25 (nI (k - 3))) := hr5
      have w5 : (mI m5 326 25 (nI (k - 3))).1 326 24 = nI w := by rw [mI_ne (by omega), rmO_f hq (by omega) (by omega)]; exact hw
      have he16 : e < 16 := by omega
      have hlt : w ^^^ 2 ^ e < 65536 := Nat.xor_lt_two_pow (n := 16) hw2 (Nat.lt_of_lt_of_le (Nat.pow_lt_pow_right (by omega) he16) (Nat.le_refl _))
      replace H := f_if_ne_t H k213_18 (by decide) (t := 23) (by decide)
      replace H := f_aload_n H k213_23 rfl
      replace H := f_gr H k213_24 (ci := 12) (f := 32) (x := 326) (by decide +kernel) (by decide) (hr 314 32 326 rfl)
      replace H := f_bipush H k213_27 (v := 24) (by decide)
      replace H := f_dup2 H k213_29
      have Hob := f_iald H k213_30 (c := 208) (by decide)
      clear H
      obtain ⟨hb30, H⟩ := Hob
      replace H := f_iconst H k213_31 (v := 1) (by decide)
      replace H := f_iload_n H k213_32 rfl
      replace H := f_ishl H k213_33
      replace H := f_ixor H k213_34
      have Hob := f_iast H k213_35 (c := 208) (by decide)
      clear H
      obtain ⟨hb35, H⟩ := Hob
      replace H := f_aload_n H k213_36 rfl
      replace H := f_gr H k213_37 (ci := 12) (f := 32) (x := 326) (by decide +kernel) (by decide) (hr 314 32 326 rfl)
      replace H := f_bipush H k213_40 (v := 24) (by decide)
      have Hob := f_iald H k213_42 (c := 208) (by decide)
      clear H
      obtain ⟨hb42, H⟩ := Hob
      replace H := f_iload_n H k213_43 rfl
      replace H := f_ishr H k213_44
      replace H := f_iconst H k213_45 (v := 1) (by decide)
      replace H := f_iand H k213_46
      rw [c24, w5, mI_at, shl_n he16, nx_xor, has_n (by omega) (by omega)] at H
      replace H := f_iret H k213_47
      exact ⟨_, _, H, Or.inr ⟨e, he, rfl, c, rfl, m5, hq, rfl⟩⟩
  · replace H := f_if_eq_t H k213_10 rfl (t := 21) (by decide)
    exact neg _ (fun ⟨e, q1, q2, _⟩ => hno e q1 q2) H
theorem c_mlamp {m : xM} {C k h : Nat} {l : Nat → Nat} {z : Int32} (hr : rS m) (hk : m.1 326 25 = nI k) (hk9 : k ≤ 999) (hh : m.1 314 42 = nI h) (hh4 : h ≤ 40) (hC : m.1 314 25 = nI C) (hC8 : C ≤ 8) (hl : ∀ e, e < 8 → m.1 326 (2 * e + 1) = nI (l e) ∧ l e ≤ 3) : fC 214 [.ref 314, .int z] m (fun rv m' => (¬ (∃ e, e < C ∧ z = nI e ∧ 2 ≤ k ∧ l e < 3) ∧ rv = some (.int (-1)) ∧ m' = mI m 314 0 0) ∨ ∃ e, e < C ∧ z = nI e ∧ 2 ≤ k ∧ l e < 3 ∧ rv = some (.int (nI (l e + 1))) ∧ ∃ mk, rmO h (mI m 314 0 0) mk ∧ m' = mI (mI mk 326 25 (nI (k - 2))) 326 (2 * e + 1) (nI (l e + 1))) := by
  refine fC_of (by decide) (fun d n P H => ?_)
  have c24 : (24 : Int32).toNatClampNeg = 24 := by decide
  have c25 : (25 : Int32).toNatClampNeg = 25 := by decide
  replace H := f_aload_n H k214_0 rfl
  replace H := f_iconst H k214_1 (v := 0) (by decide)
  replace H := f_put_i H k214_2 (ci := 12) (f := 0) (by decide +kernel) (by decide)
  have hk : (mI m 314 0 0).1 326 25 = nI k := by rw [mI_ne (by omega)]; exact hk
  have hh : (mI m 314 0 0).1 314 42 = nI h := by rw [mI_ne (by omega)]; exact hh
  have hr : rS (mI m 314 0 0) := hr
  have hC : (mI m 314 0 0).1 314 25 = nI C := by rw [mI_ne (by omega)]; exact hC
  have hl : ∀ e, e < 8 → (mI m 314 0 0).1 326 (2 * e + 1) = nI (l e) ∧ l e ≤ 3 := fun e he => by rw [mI_ne (by omega)]; exact hl e he
  generalize mI m 314 0 0 = m at *
  have neg : ∀ n, ¬ (∃ e, e < C ∧ z = nI e ∧ 2 ≤ k ∧ l e < 3) → xF 214 (xw d) P n 35 [(0, .ref 314), (1, .int z)] [] m → ∃ rv m', P rv m' ∧ ((¬ (∃ e, e < C ∧ z = nI e ∧ 2 ≤ k ∧ l e < 3) ∧ rv = some (.int (-1)) ∧ m' = m) ∨ ∃ e, e < C ∧ z = nI e ∧ 2 ≤ k ∧ l e < 3 ∧ rv = some (.int (nI (l e + 1))) ∧ ∃ mk, rmO h m mk ∧ m' = mI (mI mk 326 25 (nI (k - 2))) 326 (2 * e + 1) (nI (l e + 1))) := by
    intro n hn H
    replace H := f_iconst H k214_35 (v := -1) (by decide)
    replace H := f_iret H k214_36
    exact ⟨_, _, H, Or.inl ⟨hn, rfl, rfl⟩⟩
  replace H := f_aload_n H k214_5 rfl
  replace H := f_iload_n H k214_6 rfl
  obtain ⟨rv, m3, ⟨ho, e3⟩, h9_7⟩ := f_inv H k214_7 (by decide +kernel) (as := [.int _]) (b := 314) (r := []) (by rfl) (c_misCornerN hr hC (by omega))
  replace H := h9_7
  rw [← e3] at H
  clear e3
  rcases ho with ⟨e, he, rfl, rfl⟩ | ⟨hno, rfl⟩
  · replace H := f_if_eq_f H k214_10 (by decide)
    obtain ⟨hl1, hl2⟩ := hl e (by omega)
    replace H := f_aload_n H k214_13 rfl
    replace H := f_gr H k214_14 (ci := 12) (f := 32) (x := 326) (by decide +kernel) (by decide) (hr 314 32 326 rfl)
    replace H := f_iconst H k214_17 (v := 2) (by decide)
    replace H := f_iload_n H k214_18 rfl
    replace H := f_imul H k214_19
    replace H := f_iconst H k214_20 (v := 1) (by decide)
    replace H := f_iadd H k214_21
    have Hob := f_iald H k214_22 (c := 208) (by decide)
    clear H
    obtain ⟨hb22, H⟩ := Hob
    replace H := f_iconst H k214_23 (v := 3) (by decide)
    rw [show (2 : Int32) = nI 2 from rfl, nI_mul, nI_s, nI_clamp (by omega), hl1, show (3 : Int32) = nI 3 from rfl] at H
    have Hbr := f_icmp_eq H k214_24 (t := 35) (by decide)
    clear H
    rcases Hbr with ⟨c, H⟩ | ⟨c, H⟩
    · rw [nI_inj (by omega) (by omega)] at c
      exact neg _ (fun ⟨e2, q0, q1, _, q⟩ => by
        rw [nI_inj (by omega) (by omega)] at q1
        subst q1
        omega) H
    · rw [nI_inj (by omega) (by omega)] at c
      replace H := f_aload_n H k214_27 rfl
      replace H := f_iconst H k214_28 (v := 2) (by decide)
      rw [show (2 : Int32) = nI 2 from rfl] at H
      obtain ⟨rv, m4, ho, h9_29⟩ := f_inv H k214_29 (by decide +kernel) (as := [.int _]) (b := 314) (r := []) (by rfl) (c_pays (p := 2) hr hk hk9 hh hh4 (by omega))
      replace H := h9_29
      rcases ho with ⟨c2, rfl, e4⟩ | ⟨c2, rfl, m5, hq, e4⟩
      · rw [e4] at H
        replace H := f_if_ne_f H k214_32 rfl
        exact neg _ (fun ⟨_, _, _, q, _⟩ => by omega) H
      · rw [e4] at H
        have hr5 : rS m5 := rmO_r hq hr
        have hr : rS (mI m5 326 25 (nI (k - 2))) := hr5
        have l5 : (mI m5 326 25 (nI (k - 2))).1 326 (2 * e + 1) = nI (l e) := by rw [mI_ne (by omega), rmO_f hq (by omega) (by omega)]; exact hl1
        replace H := f_if_ne_t H k214_32 (by decide) (t := 37) (by decide)
        replace H := f_aload_n H k214_37 rfl
        replace H := f_gr H k214_38 (ci := 12) (f := 32) (x := 326) (by decide +kernel) (by decide) (hr 314 32 326 rfl)
        replace H := f_iconst H k214_41 (v := 2) (by decide)
        replace H := f_iload_n H k214_42 rfl
        replace H := f_imul H k214_43
        replace H := f_iconst H k214_44 (v := 1) (by decide)
        replace H := f_iadd H k214_45
        replace H := f_dup2 H k214_46
        have Hob := f_iald H k214_47 (c := 208) (by decide)
        clear H
        obtain ⟨hb47, H⟩ := Hob
        replace H := f_iconst H k214_48 (v := 1) (by decide)
        replace H := f_iadd H k214_49
        have Hob := f_iast H k214_50 (c := 208) (by decide)
        clear H
        obtain ⟨hb50, H⟩ := Hob
        replace H := f_aload_n H k214_51 rfl
        replace H := f_gr H k214_52 (ci := 12) (f := 32) (x := 326) (by decide +kernel) (by decide) (hr 314 32 326 rfl)
        replace H := f_iconst H k214_55 (v := 2) (by decide)
        replace H := f_iload_n H k214_56 rfl
        replace H := f_imul H k214_57
        replace H := f_iconst H k214_58 (v := 1) (by decide)
        replace H := f_iadd H k214_59
        have Hob := f_iald H k214_60 (c := 208) (by decide)
        clear H
        obtain ⟨hb60, H⟩ := Hob
        rw [show (2 : Int32) = nI 2 from rfl, nI_mul, nI_s, nI_clamp (by omega), l5, mI_at, nI_s] at H
        replace H := f_iret H k214_61
        exact ⟨_, _, H, Or.inr ⟨e, he, rfl, c2, by omega, rfl, m5, hq, rfl⟩⟩
  · replace H := f_if_eq_t H k214_10 rfl (t := 35) (by decide)
    exact neg _ (fun ⟨e, q1, q2, _⟩ => hno e q1 q2) H
theorem c_mpreach {m : xM} {W k h : Nat} {f : Nat → Nat} {z : Int32} (hr : rS m) (hk : m.1 326 25 = nI k) (hk9 : k ≤ 999) (hh : m.1 314 42 = nI h) (hh4 : h ≤ 40) (hW : m.1 314 27 = nI W) (hW4 : W ≤ 4) (hf : ∀ p, p < W → m.1 326 (17 + 2 * p) = nI (f p) ∧ f p ≤ 9) : fC 216 [.ref 314, .int z] m (fun rv m' => (¬ (∃ p, p < W ∧ z = nI p ∧ 4 ≤ k ∧ f p < 9) ∧ rv = some (.int (-1)) ∧ m' = mI m 314 0 0) ∨ ∃ p, p < W ∧ z = nI p ∧ 4 ≤ k ∧ f p < 9 ∧ rv = some (.int (nI (f p + 1))) ∧ ∃ mk, rmO h (mI m 314 0 0) mk ∧ m' = mI (mI mk 326 25 (nI (k - 4))) 326 (17 + 2 * p) (nI (f p + 1))) := by
  refine fC_of (by decide) (fun d n P H => ?_)
  have c24 : (24 : Int32).toNatClampNeg = 24 := by decide
  have c25 : (25 : Int32).toNatClampNeg = 25 := by decide
  replace H := f_aload_n H k216_0 rfl
  replace H := f_iconst H k216_1 (v := 0) (by decide)
  replace H := f_put_i H k216_2 (ci := 12) (f := 0) (by decide +kernel) (by decide)
  have hk : (mI m 314 0 0).1 326 25 = nI k := by rw [mI_ne (by omega)]; exact hk
  have hh : (mI m 314 0 0).1 314 42 = nI h := by rw [mI_ne (by omega)]; exact hh
  have hr : rS (mI m 314 0 0) := hr
  have hW : (mI m 314 0 0).1 314 27 = nI W := by rw [mI_ne (by omega)]; exact hW
  have hf : ∀ p, p < W → (mI m 314 0 0).1 326 (17 + 2 * p) = nI (f p) ∧ f p ≤ 9 := fun e he => by rw [mI_ne (by omega)]; exact hf e he
  generalize mI m 314 0 0 = m at *
  have neg : ∀ n, ¬ (∃ p, p < W ∧ z = nI p ∧ 4 ≤ k ∧ f p < 9) → xF 216 (xw d) P n 39 [(0, .ref 314), (1, .int z)] [] m → ∃ rv m', P rv m' ∧ ((¬ (∃ p, p < W ∧ z = nI p ∧ 4 ≤ k ∧ f p < 9) ∧ rv = some (.int (-1)) ∧ m' = m) ∨ ∃ p, p < W ∧ z = nI p ∧ 4 ≤ k ∧ f p < 9 ∧ rv = some (.int (nI (f p + 1))) ∧ ∃ mk, rmO h m mk ∧ m' = mI (mI mk 326 25 (nI (k - 4))) 326 (17 + 2 * p) (nI (f p + 1))) := by
    intro n hn H
    replace H := f_iconst H k216_39 (v := -1) (by decide)
    replace H := f_iret H k216_40
    exact ⟨_, _, H, Or.inl ⟨hn, rfl, rfl⟩⟩
  replace H := f_aload_n H k216_5 rfl
  replace H := f_iload_n H k216_6 rfl
  obtain ⟨rv, m3, ⟨ho, e3⟩, h9_7⟩ := f_inv H k216_7 (by decide +kernel) (as := [.int _]) (b := 314) (r := []) (by rfl) (c_misWalker hr hW (by omega))
  replace H := h9_7
  rw [← e3] at H
  clear e3
  rcases ho with ⟨e, he, rfl, rfl⟩ | ⟨hno, rfl⟩
  · replace H := f_if_eq_f H k216_10 (by decide)
    obtain ⟨hl1, hl2⟩ := hf e (by omega)
    have ix : ∀ n : Int32, 16 + 2 * nI e + 1 = nI (17 + 2 * e) := fun _ => by rw [show (2 : Int32) = nI 2 from rfl, nI_mul, show (16 : Int32) = nI 16 from rfl, r_ad, nI_s, show 16 + 2 * e + 1 = 17 + 2 * e by omega]
    replace H := f_aload_n H k216_13 rfl
    replace H := f_gr H k216_14 (ci := 12) (f := 32) (x := 326) (by decide +kernel) (by decide) (hr 314 32 326 rfl)
    replace H := f_bipush H k216_17 (v := 16) (by decide)
    replace H := f_iconst H k216_19 (v := 2) (by decide)
    replace H := f_iload_n H k216_20 rfl
    replace H := f_imul H k216_21
    replace H := f_iadd H k216_22
    replace H := f_iconst H k216_23 (v := 1) (by decide)
    replace H := f_iadd H k216_24
    have Hob := f_iald H k216_25 (c := 208) (by decide)
    clear H
    obtain ⟨hb25, H⟩ := Hob
    replace H := f_bipush H k216_26 (v := 9) (by decide)
    rw [ix 0, nI_clamp (by omega), hl1, show (9 : Int32) = nI 9 from rfl] at H
    have Hbr := f_icmp_eq H k216_28 (t := 39) (by decide)
    clear H
    rcases Hbr with ⟨c, H⟩ | ⟨c, H⟩
    · rw [nI_inj (by omega) (by omega)] at c
      exact neg _ (fun ⟨e2, q0, q1, _, q⟩ => by
        rw [nI_inj (by omega) (by omega)] at q1
        subst q1
        omega) H
    · rw [nI_inj (by omega) (by omega)] at c
      replace H := f_aload_n H k216_31 rfl
      replace H := f_iconst H k216_32 (v := 4) (by decide)
      rw [show (4 : Int32) = nI 4 from rfl] at H
      obtain ⟨rv, m4, ho, h9_33⟩ := f_inv H k216_33 (by decide +kernel) (as := [.int _]) (b := 314) (r := []) (by rfl) (c_pays (p := 4) hr hk hk9 hh hh4 (by omega))
      replace H := h9_33
      rcases ho with ⟨c2, rfl, e4⟩ | ⟨c2, rfl, m5, hq, e4⟩
      · rw [e4] at H
        replace H := f_if_ne_f H k216_36 rfl
        exact neg _ (fun ⟨_, _, _, q, _⟩ => by omega) H
      · rw [e4] at H
        have hr5 : rS m5 := rmO_r hq hr
        have hr : rS (mI m5 326 25 (nI (k - 4))) := hr5
        have l5 : (mI m5 326 25 (nI (k - 4))).1 326 (17 + 2 * e) = nI (f e) := by rw [mI_ne (by omega), rmO_f hq (by omega) (by omega)]; exact hl1
        replace H := f_if_ne_t H k216_36 (by decide) (t := 41) (by decide)
        replace H := f_aload_n H k216_41 rfl
        replace H := f_gr H k216_42 (ci := 12) (f := 32) (x := 326) (by decide +kernel) (by decide) (hr 314 32 326 rfl)
        replace H := f_bipush H k216_45 (v := 16) (by decide)
        replace H := f_iconst H k216_47 (v := 2) (by decide)
        replace H := f_iload_n H k216_48 rfl
        replace H := f_imul H k216_49
        replace H := f_iadd H k216_50
        replace H := f_iconst H k216_51 (v := 1) (by decide)
        replace H := f_iadd H k216_52
        replace H := f_dup2 H k216_53
        have Hob := f_iald H k216_54 (c := 208) (by decide)
        clear H
        obtain ⟨hb54, H⟩ := Hob
        replace H := f_iconst H k216_55 (v := 1) (by decide)
        replace H := f_iadd H k216_56
        have Hob := f_iast H k216_57 (c := 208) (by decide)
        clear H
        obtain ⟨hb57, H⟩ := Hob
        replace H := f_aload_n H k216_58 rfl
        replace H := f_gr H k216_59 (ci := 12) (f := 32) (x := 326) (by decide +kernel) (by decide) (hr 314 32 326 rfl)
        replace H := f_bipush H k216_62 (v := 16) (by decide)
        replace H := f_iconst H k216_64 (v := 2) (by decide)
        replace H := f_iload_n H k216_65 rfl
        replace H := f_imul H k216_66
        replace H := f_iadd H k216_67
        replace H := f_iconst H k216_68 (v := 1) (by decide)
        replace H := f_iadd H k216_69
        have Hob := f_iald H k216_70 (c := 208) (by decide)
        clear H
        obtain ⟨hb70, H⟩ := Hob
        rw [ix 0, nI_clamp (by omega), l5, mI_at, nI_s] at H
        replace H := f_iret H k216_71
        exact ⟨_, _, H, Or.inr ⟨e, he, rfl, c2, by omega, rfl, m5, hq, rfl⟩⟩
  · replace H := f_if_eq_t H k216_10 rfl (t := 39) (by decide)
    exact neg _ (fun ⟨e, q1, q2, _⟩ => hno e q1 q2) H
theorem c_mmoves {m : xM} {W C k h : Nat} {hm : Nat → Nat} {z y : Int32} (hr : rS m) (hk : m.1 326 25 = nI k) (hk9 : k ≤ 999) (hh : m.1 314 42 = nI h) (hh4 : h ≤ 40) (hW : m.1 314 27 = nI W) (hW4 : W ≤ 4) (hC : m.1 314 25 = nI C) (hC8 : C ≤ 8) (hH : ∀ p, p < W → m.1 326 (16 + 2 * p) = nI (hm p) ∧ hm p < C) : fC 215 [.ref 314, .int z, .int y] m (fun rv m' => (¬ (∃ p e, p < W ∧ e < C ∧ z = nI p ∧ y = nI e ∧ 1 ≤ k ∧ hm p ≠ e) ∧ rv = some (.int (-1)) ∧ m' = mI m 314 0 0) ∨ ∃ p e, p < W ∧ e < C ∧ z = nI p ∧ y = nI e ∧ 1 ≤ k ∧ hm p ≠ e ∧ rv = some (.int (nI (hm p))) ∧ ∃ mk, rmO h (mI m 314 0 0) mk ∧ m' = mI (mI mk 326 25 (nI (k - 1))) 326 (16 + 2 * p) (nI e)) := by
  refine fC_of (by decide) (fun d n P H => ?_)
  have c24 : (24 : Int32).toNatClampNeg = 24 := by decide
  have c25 : (25 : Int32).toNatClampNeg = 25 := by decide
  replace H := f_aload_n H k215_0 rfl
  replace H := f_iconst H k215_1 (v := 0) (by decide)
  replace H := f_put_i H k215_2 (ci := 12) (f := 0) (by decide +kernel) (by decide)
  have hk : (mI m 314 0 0).1 326 25 = nI k := by rw [mI_ne (by omega)]; exact hk
  have hh : (mI m 314 0 0).1 314 42 = nI h := by rw [mI_ne (by omega)]; exact hh
  have hr : rS (mI m 314 0 0) := hr
  have hW : (mI m 314 0 0).1 314 27 = nI W := by rw [mI_ne (by omega)]; exact hW
  have hC : (mI m 314 0 0).1 314 25 = nI C := by rw [mI_ne (by omega)]; exact hC
  have hH : ∀ p, p < W → (mI m 314 0 0).1 326 (16 + 2 * p) = nI (hm p) ∧ hm p < C := fun e he => by rw [mI_ne (by omega)]; exact hH e he
  generalize mI m 314 0 0 = m at *
  have neg : ∀ n, ¬ (∃ p e, p < W ∧ e < C ∧ z = nI p ∧ y = nI e ∧ 1 ≤ k ∧ hm p ≠ e) → xF 215 (xw d) P n 46 [(0, .ref 314), (1, .int z), (2, .int y)] [] m → ∃ rv m', P rv m' ∧ ((¬ (∃ p e, p < W ∧ e < C ∧ z = nI p ∧ y = nI e ∧ 1 ≤ k ∧ hm p ≠ e) ∧ rv = some (.int (-1)) ∧ m' = m) ∨ ∃ p e, p < W ∧ e < C ∧ z = nI p ∧ y = nI e ∧ 1 ≤ k ∧ hm p ≠ e ∧ rv = some (.int (nI (hm p))) ∧ ∃ mk, rmO h m mk ∧ m' = mI (mI mk 326 25 (nI (k - 1))) 326 (16 + 2 * p) (nI e)) := by
    intro n hn H
    replace H := f_iconst H k215_46 (v := -1) (by decide)
    replace H := f_iret H k215_47
    exact ⟨_, _, H, Or.inl ⟨hn, rfl, rfl⟩⟩
  replace H := f_aload_n H k215_5 rfl
  replace H := f_iload_n H k215_6 rfl
  obtain ⟨rv, m3, ⟨ho, e3⟩, h9_7⟩ := f_inv H k215_7 (by decide +kernel) (as := [.int _]) (b := 314) (r := []) (by rfl) (c_misWalker hr hW (by omega))
  replace H := h9_7
  rw [← e3] at H
  clear e3
  rcases ho with ⟨p, hp, rfl, rfl⟩ | ⟨hno, rfl⟩
  · replace H := f_if_eq_f H k215_10 (by decide)
    obtain ⟨hl1, hl2⟩ := hH p (by omega)
    have ix : ∀ n : Int32, 16 + 2 * nI p + 0 = nI (16 + 2 * p) := fun _ => by rw [show (2 : Int32) = nI 2 from rfl, nI_mul, show (16 : Int32) = nI 16 from rfl, r_ad, show (0 : Int32) = nI 0 from rfl, r_ad, Nat.add_zero]
    replace H := f_aload_n H k215_13 rfl
    replace H := f_iload_n H k215_14 rfl
    obtain ⟨rv, m3, ⟨ho, e3⟩, h9_15⟩ := f_inv H k215_15 (by decide +kernel) (as := [.int _]) (b := 314) (r := []) (by rfl) (c_misCornerN hr hC (by omega))
    replace H := h9_15
    rw [← e3] at H
    clear e3
    rcases ho with ⟨e, he, rfl, rfl⟩ | ⟨hno, rfl⟩
    · replace H := f_if_eq_f H k215_18 (by decide)
      replace H := f_aload_n H k215_21 rfl
      replace H := f_gr H k215_22 (ci := 12) (f := 32) (x := 326) (by decide +kernel) (by decide) (hr 314 32 326 rfl)
      replace H := f_bipush H k215_25 (v := 16) (by decide)
      replace H := f_iconst H k215_27 (v := 2) (by decide)
      replace H := f_iload_n H k215_28 rfl
      replace H := f_imul H k215_29
      replace H := f_iadd H k215_30
      replace H := f_iconst H k215_31 (v := 0) (by decide)
      replace H := f_iadd H k215_32
      have Hob := f_iald H k215_33 (c := 208) (by decide)
      clear H
      obtain ⟨hb33, H⟩ := Hob
      replace H := f_iload_n H k215_34 rfl
      rw [ix 0, nI_clamp (by omega), hl1] at H
      have Hbr := f_icmp_eq H k215_35 (t := 46) (by decide)
      clear H
      rcases Hbr with ⟨c, H⟩ | ⟨c, H⟩
      · rw [nI_inj (by omega) (by omega)] at c
        exact neg _ (fun ⟨p2, e2, q0, q9, q1, q2, _, q⟩ => by
          rw [nI_inj (by omega) (by omega)] at q1 q2
          subst q1 q2
          exact q c) H
      · rw [nI_inj (by omega) (by omega)] at c
        replace H := f_aload_n H k215_38 rfl
        replace H := f_iconst H k215_39 (v := 1) (by decide)
        rw [show (1 : Int32) = nI 1 from rfl] at H
        obtain ⟨rv, m4, ho, h9_40⟩ := f_inv H k215_40 (by decide +kernel) (as := [.int _]) (b := 314) (r := []) (by rfl) (c_pays (p := 1) hr hk hk9 hh hh4 (by omega))
        replace H := h9_40
        rcases ho with ⟨c2, rfl, e4⟩ | ⟨c2, rfl, m5, hq, e4⟩
        · rw [e4] at H
          replace H := f_if_ne_f H k215_43 rfl
          exact neg _ (fun ⟨_, _, _, _, _, _, q, _⟩ => by omega) H
        · rw [e4] at H
          have hr5 : rS m5 := rmO_r hq hr
          have hr : rS (mI m5 326 25 (nI (k - 1))) := hr5
          have l5 : (mI m5 326 25 (nI (k - 1))).1 326 (16 + 2 * p) = nI (hm p) := by rw [mI_ne (by omega), rmO_f hq (by omega) (by omega)]; exact hl1
          replace H := f_if_ne_t H k215_43 (by decide) (t := 48) (by decide)
          replace H := f_aload_n H k215_48 rfl
          replace H := f_gr H k215_49 (ci := 12) (f := 32) (x := 326) (by decide +kernel) (by decide) (hr 314 32 326 rfl)
          replace H := f_bipush H k215_52 (v := 16) (by decide)
          replace H := f_iconst H k215_54 (v := 2) (by decide)
          replace H := f_iload_n H k215_55 rfl
          replace H := f_imul H k215_56
          replace H := f_iadd H k215_57
          replace H := f_iconst H k215_58 (v := 0) (by decide)
          replace H := f_iadd H k215_59
          have Hob := f_iald H k215_60 (c := 208) (by decide)
          clear H
          obtain ⟨hb60, H⟩ := Hob
          rw [ix 0, nI_clamp (by omega), l5] at H
          replace H := f_istore_n H k215_61 (l2 := [(3, .int (nI (hm p))), (0, .ref 314), (1, .int (nI p)), (2, .int (nI e))]) rfl
          replace H := f_aload_n H k215_62 rfl
          replace H := f_gr H k215_63 (ci := 12) (f := 32) (x := 326) (by decide +kernel) (by decide) (hr 314 32 326 rfl)
          replace H := f_bipush H k215_66 (v := 16) (by decide)
          replace H := f_iconst H k215_68 (v := 2) (by decide)
          replace H := f_iload_n H k215_69 rfl
          replace H := f_imul H k215_70
          replace H := f_iadd H k215_71
          replace H := f_iconst H k215_72 (v := 0) (by decide)
          replace H := f_iadd H k215_73
          replace H := f_iload_n H k215_74 rfl
          have Hob := f_iast H k215_75 (c := 208) (by decide)
          clear H
          obtain ⟨hb75, H⟩ := Hob
          replace H := f_iload_n H k215_76 rfl
          rw [ix 0, nI_clamp (by omega)] at H
          replace H := f_iret H k215_77
          exact ⟨_, _, H, Or.inr ⟨p, e, hp, he, rfl, rfl, c2, c, rfl, m5, hq, rfl⟩⟩
    · replace H := f_if_eq_t H k215_18 rfl (t := 46) (by decide)
      exact neg _ (fun ⟨p, e, q1, q2, q3, q4, _⟩ => hno e q2 q4) H
  · replace H := f_if_eq_t H k215_10 rfl (t := 46) (by decide)
    exact neg _ (fun ⟨p, e, q1, q2, q3, _⟩ => hno p q1 q3) H
theorem c_mgive {m : xM} {S k h : Nat} {z : Int32} (hr : rS m) (hk : m.1 326 25 = nI k) (hk9 : k ≤ 999) (hh : m.1 314 42 = nI h) (hh4 : h ≤ 40) (hS : m.1 314 26 = nI S) (hS12 : S ≤ 12) : fC 217 [.ref 314, .int z] m (fun rv m' => (¬ (0 < S ∧ ∃ n, 1 ≤ n ∧ n ≤ 50 ∧ z = nI n ∧ k + n ≤ 999) ∧ rv = some (.int (-1)) ∧ m' = mI m 314 0 0) ∨ (0 < S ∧ ∃ n, 1 ≤ n ∧ n ≤ 50 ∧ z = nI n ∧ k + n ≤ 999 ∧ rv = some (.int (nI (k + n))) ∧ ∃ mk, rmO h (mI m 314 0 0) mk ∧ m' = mI mk 326 25 (nI (k + n)))) := by
  refine fC_of (by decide) (fun d n P H => ?_)
  have c24 : (24 : Int32).toNatClampNeg = 24 := by decide
  have c25 : (25 : Int32).toNatClampNeg = 25 := by decide
  replace H := f_aload_n H k217_0 rfl
  replace H := f_iconst H k217_1 (v := 0) (by decide)
  replace H := f_put_i H k217_2 (ci := 12) (f := 0) (by decide +kernel) (by decide)
  have hk : (mI m 314 0 0).1 326 25 = nI k := by rw [mI_ne (by omega)]; exact hk
  have hh : (mI m 314 0 0).1 314 42 = nI h := by rw [mI_ne (by omega)]; exact hh
  have hr : rS (mI m 314 0 0) := hr
  have hS : (mI m 314 0 0).1 314 26 = nI S := by rw [mI_ne (by omega)]; exact hS
  generalize mI m 314 0 0 = m at *
  have neg : ∀ n, ¬ (0 < S ∧ ∃ n, 1 ≤ n ∧ n ≤ 50 ∧ z = nI n ∧ k + n ≤ 999) → xF 217 (xw d) P n 39 [(0, .ref 314), (1, .int z)] [] m → ∃ rv m', P rv m' ∧ ((¬ (0 < S ∧ ∃ n, 1 ≤ n ∧ n ≤ 50 ∧ z = nI n ∧ k + n ≤ 999) ∧ rv = some (.int (-1)) ∧ m' = m) ∨ (0 < S ∧ ∃ n, 1 ≤ n ∧ n ≤ 50 ∧ z = nI n ∧ k + n ≤ 999 ∧ rv = some (.int (nI (k + n))) ∧ ∃ mk, rmO h m mk ∧ m' = mI mk 326 25 (nI (k + n)))) := by
    intro n hn H
    replace H := f_iconst H k217_39 (v := -1) (by decide)
    replace H := f_iret H k217_40
    exact ⟨_, _, H, Or.inl ⟨hn, rfl, rfl⟩⟩
  replace H := f_aload_n H k217_5 rfl
  replace H := f_gi H k217_6 (ci := 12) (f := 26) (by decide +kernel) (by decide)
  rw [hS] at H
  have Hbr := f_if_eq H k217_9 (t := 39) (by decide)
  clear H
  rcases Hbr with ⟨c, H⟩ | ⟨c, H⟩
  · rw [show (0 : Int32) = nI 0 from rfl, nI_inj (by omega) (by omega)] at c
    exact neg _ (fun ⟨q, _⟩ => by omega) H
  · rw [show (0 : Int32) = nI 0 from rfl, nI_inj (by omega) (by omega)] at c
    replace H := f_iload_n H k217_12 rfl
    replace H := f_i2l H k217_13
    replace H := f_lconst H k217_14 (v := 1) (by decide)
    replace H := f_ldc2 H k217_15 (v := 50) (by decide +kernel)
    obtain ⟨rv, m3, ⟨ho, e3⟩, h9_18⟩ := f_ins H k217_18 (by decide +kernel) (as := [.long _, .long _, .long _]) (r := []) (by rfl) (c_isInK (v := z) (l := 1) (mo := 50) (by decide) (by decide))
    replace H := h9_18
    rw [← e3] at H
    clear e3
    rcases ho with ⟨o1, o2, rfl⟩ | ⟨o1, rfl⟩
    · rw [Int32.le_iff_toInt_le] at o1 o2
      rw [show (1 : Int32).toInt = 1 by decide] at o1
      rw [show (50 : Int32).toInt = 50 by decide] at o2
      obtain ⟨g, hg, rfl⟩ := i_rng (x := z) (L := 50) (by omega) (by omega) (by decide)
      rw [nI_toInt (by omega)] at o1 o2
      replace H := f_if_eq_f H k217_21 (by decide)
      replace H := f_aload_n H k217_24 rfl
      replace H := f_gr H k217_25 (ci := 12) (f := 32) (x := 326) (by decide +kernel) (by decide) (hr 314 32 326 rfl)
      replace H := f_bipush H k217_28 (v := 25) (by decide)
      have Hob := f_iald H k217_30 (c := 208) (by decide)
      clear H
      obtain ⟨hb30, H⟩ := Hob
      replace H := f_iload_n H k217_31 rfl
      replace H := f_iadd H k217_32
      replace H := f_sipush H k217_33 (v := 999) (by decide)
      rw [c25, hk, r_ad, show (999 : Int32) = nI 999 from rfl] at H
      have Hbr := f_icmp_le H k217_36 (t := 41) (by decide)
      clear H
      rcases Hbr with ⟨c3, H⟩ | ⟨c3, H⟩
      · rw [nxle (by omega) (by omega)] at c3
        replace H := f_aload_n H k217_41 rfl
        obtain ⟨rv, m4, ⟨rfl, hq⟩, h9_42⟩ := f_inv H k217_42 (by decide +kernel) (as := []) (b := 314) (r := []) (by rfl) (c_remember hr hh hh4)
        replace H := h9_42
        have hr := rmO_r hq hr
        have k4 : m4.1 326 25 = nI k := by rw [rmO_f hq (by omega) (by omega)]; exact hk
        replace H := f_aload_n H k217_45 rfl
        replace H := f_gr H k217_46 (ci := 12) (f := 32) (x := 326) (by decide +kernel) (by decide) (hr 314 32 326 rfl)
        replace H := f_bipush H k217_49 (v := 25) (by decide)
        replace H := f_dup2 H k217_51
        have Hob := f_iald H k217_52 (c := 208) (by decide)
        clear H
        obtain ⟨hb52, H⟩ := Hob
        replace H := f_iload_n H k217_53 rfl
        replace H := f_iadd H k217_54
        have Hob := f_iast H k217_55 (c := 208) (by decide)
        clear H
        obtain ⟨hb55, H⟩ := Hob
        replace H := f_aload_n H k217_56 rfl
        replace H := f_gr H k217_57 (ci := 12) (f := 32) (x := 326) (by decide +kernel) (by decide) (hr 314 32 326 rfl)
        replace H := f_bipush H k217_60 (v := 25) (by decide)
        have Hob := f_iald H k217_62 (c := 208) (by decide)
        clear H
        obtain ⟨hb62, H⟩ := Hob
        rw [c25, k4, r_ad, mI_at] at H
        replace H := f_iret H k217_63
        exact ⟨_, _, H, Or.inr ⟨by omega, g, by omega, by omega, rfl, c3, rfl, m4, hq, rfl⟩⟩
      · rw [nxle (by omega) (by omega)] at c3
        exact neg _ (fun ⟨_, n, q1, q2, q3, q4⟩ => by
          rw [nI_inj (by omega) (by omega)] at q3
          omega) H
    · replace H := f_if_eq_t H k217_21 rfl (t := 39) (by decide)
      rw [Int32.lt_iff_toInt_lt, Int32.lt_iff_toInt_lt, show (1 : Int32).toInt = 1 by decide, show (50 : Int32).toInt = 50 by decide] at o1
      exact neg _ (fun ⟨_, n, q1, q2, q3, _⟩ => by rw [q3, nI_toInt (by omega)] at o1; omega) H
