theorem dX6_highestOf_12 : decode cX6_highestOf 12 = .ok (.iaload, 1) := by decide +kernel
theorem dX6_highestOf_13 : decode cX6_highestOf 13 = .ok (.istore 4, 2) := by decide +kernel
theorem dX6_highestOf_15 : decode cX6_highestOf 15 = .ok (.iconst 1, 1) := by decide +kernel
theorem dX6_highestOf_16 : decode cX6_highestOf 16 = .ok (.istore 5, 2) := by decide +kernel
theorem dX6_highestOf_18 : decode cX6_highestOf 18 = .ok (.iload 5, 2) := by decide +kernel
theorem dX6_highestOf_20 : decode cX6_highestOf 20 = .ok (.ifCond .eq 34, 3) := by decide +kernel
theorem dX6_highestOf_23 : decode cX6_highestOf 23 = .ok (.aload_n 0, 1) := by decide +kernel
theorem dX6_highestOf_24 : decode cX6_highestOf 24 = .ok (.getfield 7, 3) := by decide +kernel
theorem dX6_highestOf_27 : decode cX6_highestOf 27 = .ok (.iload_n 3, 1) := by decide +kernel
theorem dX6_highestOf_28 : decode cX6_highestOf 28 = .ok (.iaload, 1) := by decide +kernel
theorem dX6_highestOf_29 : decode cX6_highestOf 29 = .ok (.bipush 10, 2) := by decide +kernel
theorem dX6_highestOf_31 : decode cX6_highestOf 31 = .ok (.if_icmp .ge 23, 3) := by decide +kernel
theorem dX6_highestOf_34 : decode cX6_highestOf 34 = .ok (.aload_n 0, 1) := by decide +kernel
theorem dX6_highestOf_35 : decode cX6_highestOf 35 = .ok (.getfield 7, 3) := by decide +kernel
theorem dX6_highestOf_38 : decode cX6_highestOf 38 = .ok (.iload_n 3, 1) := by decide +kernel
theorem dX6_highestOf_39 : decode cX6_highestOf 39 = .ok (.dup2, 1) := by decide +kernel
theorem dX6_highestOf_40 : decode cX6_highestOf 40 = .ok (.iaload, 1) := by decide +kernel
theorem dX6_highestOf_41 : decode cX6_highestOf 41 = .ok (.iconst 1, 1) := by decide +kernel
theorem dX6_highestOf_42 : decode cX6_highestOf 42 = .ok (.iadd, 1) := by decide +kernel
theorem dX6_highestOf_43 : decode cX6_highestOf 43 = .ok (.iastore, 1) := by decide +kernel
theorem dX6_highestOf_44 : decode cX6_highestOf 44 = .ok (.aload_n 0, 1) := by decide +kernel
theorem dX6_highestOf_45 : decode cX6_highestOf 45 = .ok (.iload_n 1, 1) := by decide +kernel
theorem dX6_highestOf_46 : decode cX6_highestOf 46 = .ok (.invokevirtual 74, 3) := by decide +kernel
theorem dX6_highestOf_49 : decode cX6_highestOf 49 = .ok (.istore 5, 2) := by decide +kernel
theorem dX6_highestOf_51 : decode cX6_highestOf 51 = .ok (.goto (-33), 3) := by decide +kernel
theorem dX6_highestOf_54 : decode cX6_highestOf 54 = .ok (.iload 5, 2) := by decide +kernel
theorem dX6_highestOf_56 : decode cX6_highestOf 56 = .ok (.ifCond .eq 12, 3) := by decide +kernel
theorem dX6_highestOf_59 : decode cX6_highestOf 59 = .ok (.aload_n 0, 1) := by decide +kernel
theorem dX6_highestOf_60 : decode cX6_highestOf 60 = .ok (.getfield 7, 3) := by decide +kernel
theorem dX6_highestOf_63 : decode cX6_highestOf 63 = .ok (.iload_n 3, 1) := by decide +kernel
theorem dX6_highestOf_64 : decode cX6_highestOf 64 = .ok (.iaload, 1) := by decide +kernel
theorem dX6_highestOf_65 : decode cX6_highestOf 65 = .ok (.goto 11, 3) := by decide +kernel
theorem dX6_highestOf_68 : decode cX6_highestOf 68 = .ok (.aload_n 0, 1) := by decide +kernel
theorem dX6_highestOf_69 : decode cX6_highestOf 69 = .ok (.getfield 7, 3) := by decide +kernel
theorem dX6_highestOf_72 : decode cX6_highestOf 72 = .ok (.iload_n 3, 1) := by decide +kernel
theorem dX6_highestOf_73 : decode cX6_highestOf 73 = .ok (.iaload, 1) := by decide +kernel
theorem dX6_highestOf_74 : decode cX6_highestOf 74 = .ok (.iconst 1, 1) := by decide +kernel
theorem dX6_highestOf_75 : decode cX6_highestOf 75 = .ok (.isub, 1) := by decide +kernel
theorem dX6_highestOf_76 : decode cX6_highestOf 76 = .ok (.istore 6, 2) := by decide +kernel
theorem dX6_highestOf_78 : decode cX6_highestOf 78 = .ok (.aload_n 0, 1) := by decide +kernel
theorem dX6_highestOf_79 : decode cX6_highestOf 79 = .ok (.getfield 7, 3) := by decide +kernel
theorem dX6_highestOf_82 : decode cX6_highestOf 82 = .ok (.iload_n 3, 1) := by decide +kernel
theorem dX6_highestOf_83 : decode cX6_highestOf 83 = .ok (.iload 4, 2) := by decide +kernel
theorem dX6_highestOf_85 : decode cX6_highestOf 85 = .ok (.iastore, 1) := by decide +kernel
theorem dX6_highestOf_86 : decode cX6_highestOf 86 = .ok (.iload 6, 2) := by decide +kernel
theorem dX6_highestOf_88 : decode cX6_highestOf 88 = .ok (.ireturn, 1) := by decide +kernel
set_option maxRecDepth 20000 in
theorem ggX6_highest_X6_isPerson : GoodIn wsX6_highest wsX6_isPerson := goodIn_r _ [5, 6, 7, 8, 4, 9, 10, 11, 12, 13, 14, 15, 58, 59, 60, 61, 62, 63, 64, 65, 66, 67, 68, 69, 70, 71, 72, 73] (by decide +kernel) (by decide +kernel)
set_option maxRecDepth 20000 in
theorem gX6_highest_X6_isPerson : GoodIn wsX6_highest (wsV RX6 93 RX6 yX6_isPerson wsX6_isPerson) := goodIn_app (goodIn_of _ (by decide +kernel)) ggX6_highest_X6_isPerson
set_option maxRecDepth 20000 in
theorem ggX6_highest_X6_holds : GoodIn wsX6_highest wsX6_holds := goodIn_r _ [19, 20, 58, 59, 60, 61, 62, 63, 64, 65, 66, 67, 68, 69, 70, 71, 72, 73] (by decide +kernel) (by decide +kernel)
set_option maxRecDepth 20000 in
theorem gX6_highest_X6_holds : GoodIn wsX6_highest (wsV RX6 77 RX6 yX6_holds wsX6_holds) := goodIn_app (goodIn_of _ (by decide +kernel)) ggX6_highest_X6_holds
set_option maxRecDepth 20000 in
theorem ggX6_highest_X6_highestOf : GoodIn wsX6_highest wsX6_highestOf := goodIn_r _ [24, 6, 25, 26, 4, 27, 28, 29, 30, 31, 32, 33, 34, 35, 36, 37, 38, 39, 40, 41, 42, 43, 13, 14, 15, 44, 45, 46, 47, 48, 49, 50, 51, 52, 53, 54, 55, 56, 57, 58, 59, 60, 61, 62, 63, 64, 65, 66, 67, 68, 69, 70, 71, 72, 73] (by decide +kernel) (by decide +kernel)
set_option maxRecDepth 20000 in
theorem gX6_highest_X6_highestOf : GoodIn wsX6_highest (wsV RX6 163 RX6 yX6_highestOf wsX6_highestOf) := goodIn_app (goodIn_of _ (by decide +kernel)) ggX6_highest_X6_highestOf
theorem dX6_highest_0 : decode cX6_highest 0 = .ok (.aload_n 0, 1) := by decide +kernel
theorem dX6_highest_1 : decode cX6_highest 1 = .ok (.aload_n 0, 1) := by decide +kernel
theorem dX6_highest_2 : decode cX6_highest 2 = .ok (.iload_n 1, 1) := by decide +kernel
theorem dX6_highest_3 : decode cX6_highest 3 = .ok (.iload_n 2, 1) := by decide +kernel
theorem dX6_highest_4 : decode cX6_highest 4 = .ok (.invokevirtual 93, 3) := by decide +kernel
theorem dX6_highest_7 : decode cX6_highest 7 = .ok (.ifCond .eq 7, 3) := by decide +kernel
theorem dX6_highest_10 : decode cX6_highest 10 = .ok (.iconst 0, 1) := by decide +kernel
theorem dX6_highest_11 : decode cX6_highest 11 = .ok (.goto 4, 3) := by decide +kernel
theorem dX6_highest_14 : decode cX6_highest 14 = .ok (.iconst 1, 1) := by decide +kernel
theorem dX6_highest_15 : decode cX6_highest 15 = .ok (.invokevirtual 77, 3) := by decide +kernel
theorem dX6_highest_18 : decode cX6_highest 18 = .ok (.ifCond .eq 12, 3) := by decide +kernel
theorem dX6_highest_21 : decode cX6_highest 21 = .ok (.aload_n 0, 1) := by decide +kernel
theorem dX6_highest_22 : decode cX6_highest 22 = .ok (.iload_n 1, 1) := by decide +kernel
theorem dX6_highest_23 : decode cX6_highest 23 = .ok (.iload_n 2, 1) := by decide +kernel
theorem dX6_highest_24 : decode cX6_highest 24 = .ok (.invokevirtual 163, 3) := by decide +kernel
theorem dX6_highest_27 : decode cX6_highest 27 = .ok (.goto 4, 3) := by decide +kernel
theorem dX6_highest_30 : decode cX6_highest 30 = .ok (.iconst 0, 1) := by decide +kernel
theorem dX6_highest_31 : decode cX6_highest 31 = .ok (.ireturn, 1) := by decide +kernel
set_option maxRecDepth 20000 in
theorem ggX6_ropeFor_X6_of : GoodIn wsX6_ropeFor wsX6_of := goodIn_r _ [5] (by decide +kernel) (by decide +kernel)
set_option maxRecDepth 20000 in
theorem gX6_ropeFor_X6_of : GoodIn wsX6_ropeFor (va_wsS RX6 19 yX6_of wsX6_of) := goodIn_app (goodIn_of _ (by decide +kernel)) ggX6_ropeFor_X6_of
set_option maxRecDepth 20000 in
theorem ggX6_ropeFor_X6_stands : GoodIn wsX6_ropeFor wsX6_stands := goodIn_r _ [9, 10, 11, 12, 4, 13, 1, 14, 15, 16, 17, 18, 19, 20, 21, 2, 3, 5, 22, 23, 24, 25, 26, 27, 28, 29, 30, 31, 32, 33, 34, 35, 36, 37, 38, 39, 40, 41, 42, 43, 44, 45, 46, 47, 48, 49, 50, 51, 52, 53, 54] (by decide +kernel) (by decide +kernel)
set_option maxRecDepth 20000 in
theorem gX6_ropeFor_X6_stands : GoodIn wsX6_ropeFor (wsV RX6 74 RX6 yX6_stands wsX6_stands) := goodIn_app (goodIn_of _ (by decide +kernel)) ggX6_ropeFor_X6_stands
theorem dX6_ropeFor_0 : decode cX6_ropeFor 0 = .ok (.aload_n 0, 1) := by decide +kernel
theorem dX6_ropeFor_1 : decode cX6_ropeFor 1 = .ok (.getfield 7, 3) := by decide +kernel
theorem dX6_ropeFor_4 : decode cX6_ropeFor 4 = .ok (.iload_n 1, 1) := by decide +kernel
theorem dX6_ropeFor_5 : decode cX6_ropeFor 5 = .ok (.iconst 5, 1) := by decide +kernel
theorem dX6_ropeFor_6 : decode cX6_ropeFor 6 = .ok (.invokestatic 19, 3) := by decide +kernel
theorem dX6_ropeFor_9 : decode cX6_ropeFor 9 = .ok (.iaload, 1) := by decide +kernel
theorem dX6_ropeFor_10 : decode cX6_ropeFor 10 = .ok (.istore_n 2, 1) := by decide +kernel
theorem dX6_ropeFor_11 : decode cX6_ropeFor 11 = .ok (.iconst 0, 1) := by decide +kernel
theorem dX6_ropeFor_12 : decode cX6_ropeFor 12 = .ok (.istore_n 3, 1) := by decide +kernel
theorem dX6_ropeFor_13 : decode cX6_ropeFor 13 = .ok (.aload_n 0, 1) := by decide +kernel
theorem dX6_ropeFor_14 : decode cX6_ropeFor 14 = .ok (.getfield 7, 3) := by decide +kernel
theorem dX6_ropeFor_17 : decode cX6_ropeFor 17 = .ok (.iload_n 1, 1) := by decide +kernel
theorem dX6_ropeFor_18 : decode cX6_ropeFor 18 = .ok (.iconst 5, 1) := by decide +kernel
theorem dX6_ropeFor_19 : decode cX6_ropeFor 19 = .ok (.invokestatic 19, 3) := by decide +kernel
theorem dX6_ropeFor_22 : decode cX6_ropeFor 22 = .ok (.iload_n 3, 1) := by decide +kernel
theorem dX6_ropeFor_23 : decode cX6_ropeFor 23 = .ok (.iastore, 1) := by decide +kernel
theorem dX6_ropeFor_24 : decode cX6_ropeFor 24 = .ok (.iload_n 3, 1) := by decide +kernel
theorem dX6_ropeFor_25 : decode cX6_ropeFor 25 = .ok (.sipush 200, 3) := by decide +kernel
theorem dX6_ropeFor_28 : decode cX6_ropeFor 28 = .ok (.if_icmp .gt 28, 3) := by decide +kernel
theorem dX6_ropeFor_31 : decode cX6_ropeFor 31 = .ok (.aload_n 0, 1) := by decide +kernel
theorem dX6_ropeFor_32 : decode cX6_ropeFor 32 = .ok (.iload_n 1, 1) := by decide +kernel
theorem dX6_ropeFor_33 : decode cX6_ropeFor 33 = .ok (.invokevirtual 74, 3) := by decide +kernel
theorem dX6_ropeFor_36 : decode cX6_ropeFor 36 = .ok (.ifCond .ne 20, 3) := by decide +kernel
theorem dX6_ropeFor_39 : decode cX6_ropeFor 39 = .ok (.iinc 3 1, 3) := by decide +kernel
theorem dX6_ropeFor_42 : decode cX6_ropeFor 42 = .ok (.aload_n 0, 1) := by decide +kernel
theorem dX6_ropeFor_43 : decode cX6_ropeFor 43 = .ok (.getfield 7, 3) := by decide +kernel
theorem dX6_ropeFor_46 : decode cX6_ropeFor 46 = .ok (.iload_n 1, 1) := by decide +kernel
theorem dX6_ropeFor_47 : decode cX6_ropeFor 47 = .ok (.iconst 5, 1) := by decide +kernel
theorem dX6_ropeFor_48 : decode cX6_ropeFor 48 = .ok (.invokestatic 19, 3) := by decide +kernel
theorem dX6_ropeFor_51 : decode cX6_ropeFor 51 = .ok (.iload_n 3, 1) := by decide +kernel
theorem dX6_ropeFor_52 : decode cX6_ropeFor 52 = .ok (.iastore, 1) := by decide +kernel
theorem dX6_ropeFor_53 : decode cX6_ropeFor 53 = .ok (.goto (-29), 3) := by decide +kernel
theorem dX6_ropeFor_56 : decode cX6_ropeFor 56 = .ok (.aload_n 0, 1) := by decide +kernel
theorem dX6_ropeFor_57 : decode cX6_ropeFor 57 = .ok (.getfield 7, 3) := by decide +kernel
theorem dX6_ropeFor_60 : decode cX6_ropeFor 60 = .ok (.iload_n 1, 1) := by decide +kernel
theorem dX6_ropeFor_61 : decode cX6_ropeFor 61 = .ok (.iconst 5, 1) := by decide +kernel
theorem dX6_ropeFor_62 : decode cX6_ropeFor 62 = .ok (.invokestatic 19, 3) := by decide +kernel
theorem dX6_ropeFor_65 : decode cX6_ropeFor 65 = .ok (.iload_n 2, 1) := by decide +kernel
theorem dX6_ropeFor_66 : decode cX6_ropeFor 66 = .ok (.iastore, 1) := by decide +kernel
theorem dX6_ropeFor_67 : decode cX6_ropeFor 67 = .ok (.iload_n 3, 1) := by decide +kernel
theorem dX6_ropeFor_68 : decode cX6_ropeFor 68 = .ok (.sipush 200, 3) := by decide +kernel
theorem dX6_ropeFor_71 : decode cX6_ropeFor 71 = .ok (.if_icmp .le 7, 3) := by decide +kernel
theorem dX6_ropeFor_74 : decode cX6_ropeFor 74 = .ok (.iconst (-1), 1) := by decide +kernel
theorem dX6_ropeFor_75 : decode cX6_ropeFor 75 = .ok (.goto 4, 3) := by decide +kernel
theorem dX6_ropeFor_78 : decode cX6_ropeFor 78 = .ok (.iload_n 3, 1) := by decide +kernel
theorem dX6_ropeFor_79 : decode cX6_ropeFor 79 = .ok (.ireturn, 1) := by decide +kernel
set_option maxRecDepth 20000 in
theorem ggX6_neededRope_X6_isLadder : GoodIn wsX6_neededRope wsX6_isLadder := goodIn_r _ [4, 5, 6, 3, 7] (by decide +kernel) (by decide +kernel)
set_option maxRecDepth 20000 in
theorem gX6_neededRope_X6_isLadder : GoodIn wsX6_neededRope (va_wsS RX6 31 yX6_isLadder wsX6_isLadder) := goodIn_app (goodIn_of _ (by decide +kernel)) ggX6_neededRope_X6_isLadder
set_option maxRecDepth 20000 in
theorem ggX6_neededRope_X6_holds : GoodIn wsX6_neededRope wsX6_holds := goodIn_r _ [11, 12, 54, 55, 56, 57, 58, 59, 60, 61, 62, 63, 64, 65, 66, 67, 68, 69] (by decide +kernel) (by decide +kernel)
set_option maxRecDepth 20000 in
theorem gX6_neededRope_X6_holds : GoodIn wsX6_neededRope (wsV RX6 77 RX6 yX6_holds wsX6_holds) := goodIn_app (goodIn_of _ (by decide +kernel)) ggX6_neededRope_X6_holds
set_option maxRecDepth 20000 in
theorem ggX6_neededRope_X6_ropeFor : GoodIn wsX6_neededRope wsX6_ropeFor := goodIn_r _ [16, 17, 18, 19, 3, 20, 21, 22, 23, 24, 25, 26, 27, 28, 29, 30, 31, 32, 33, 34, 35, 36, 37, 38, 39, 40, 41, 42, 43, 44, 45, 46, 47, 48, 49, 50, 51, 52, 53, 54, 55, 56, 57, 58, 59, 60, 61, 62, 63, 64, 65, 66, 67, 68, 69] (by decide +kernel) (by decide +kernel)
set_option maxRecDepth 20000 in
theorem gX6_neededRope_X6_ropeFor : GoodIn wsX6_neededRope (wsV RX6 166 RX6 yX6_ropeFor wsX6_ropeFor) := goodIn_app (goodIn_of _ (by decide +kernel)) ggX6_neededRope_X6_ropeFor
theorem dX6_neededRope_0 : decode cX6_neededRope 0 = .ok (.aload_n 0, 1) := by decide +kernel
theorem dX6_neededRope_1 : decode cX6_neededRope 1 = .ok (.iload_n 1, 1) := by decide +kernel
theorem dX6_neededRope_2 : decode cX6_neededRope 2 = .ok (.invokestatic 31, 3) := by decide +kernel
theorem dX6_neededRope_5 : decode cX6_neededRope 5 = .ok (.ifCond .eq 7, 3) := by decide +kernel
theorem dX6_neededRope_8 : decode cX6_neededRope 8 = .ok (.iconst 0, 1) := by decide +kernel
theorem dX6_neededRope_9 : decode cX6_neededRope 9 = .ok (.goto 4, 3) := by decide +kernel
theorem dX6_neededRope_12 : decode cX6_neededRope 12 = .ok (.iconst 1, 1) := by decide +kernel
theorem dX6_neededRope_13 : decode cX6_neededRope 13 = .ok (.invokevirtual 77, 3) := by decide +kernel
theorem dX6_neededRope_16 : decode cX6_neededRope 16 = .ok (.ifCond .eq 11, 3) := by decide +kernel
theorem dX6_neededRope_19 : decode cX6_neededRope 19 = .ok (.aload_n 0, 1) := by decide +kernel
theorem dX6_neededRope_20 : decode cX6_neededRope 20 = .ok (.iload_n 1, 1) := by decide +kernel
theorem dX6_neededRope_21 : decode cX6_neededRope 21 = .ok (.invokevirtual 166, 3) := by decide +kernel
theorem dX6_neededRope_24 : decode cX6_neededRope 24 = .ok (.goto 4, 3) := by decide +kernel
theorem dX6_neededRope_27 : decode cX6_neededRope 27 = .ok (.iconst 0, 1) := by decide +kernel
theorem dX6_neededRope_28 : decode cX6_neededRope 28 = .ok (.ireturn, 1) := by decide +kernel
set_option maxRecDepth 20000 in
theorem ggX6_baseFor_X6_of : GoodIn wsX6_baseFor wsX6_of := goodIn_r _ [5] (by decide +kernel) (by decide +kernel)
set_option maxRecDepth 20000 in
theorem gX6_baseFor_X6_of : GoodIn wsX6_baseFor (va_wsS RX6 19 yX6_of wsX6_of) := goodIn_app (goodIn_of _ (by decide +kernel)) ggX6_baseFor_X6_of
set_option maxRecDepth 20000 in
theorem ggX6_baseFor_X6_forces : GoodIn wsX6_baseFor wsX6_forces := goodIn_r _ [9, 1, 10, 11, 12, 13, 14, 15, 16, 4, 17, 2, 3, 5, 18, 19, 20, 21, 22, 23, 24, 25, 26, 27, 28, 29, 30, 31, 32, 33, 34, 35, 36, 37, 38, 39, 40, 41, 42, 43, 44, 45, 46, 47, 48, 49, 50] (by decide +kernel) (by decide +kernel)
set_option maxRecDepth 20000 in
theorem gX6_baseFor_X6_forces : GoodIn wsX6_baseFor (wsV RX6 71 RX6 yX6_forces wsX6_forces) := goodIn_app (goodIn_of _ (by decide +kernel)) ggX6_baseFor_X6_forces
theorem dX6_baseFor_0 : decode cX6_baseFor 0 = .ok (.aload_n 0, 1) := by decide +kernel
theorem dX6_baseFor_1 : decode cX6_baseFor 1 = .ok (.getfield 7, 3) := by decide +kernel
theorem dX6_baseFor_4 : decode cX6_baseFor 4 = .ok (.iload_n 1, 1) := by decide +kernel
theorem dX6_baseFor_5 : decode cX6_baseFor 5 = .ok (.iconst 0, 1) := by decide +kernel
theorem dX6_baseFor_6 : decode cX6_baseFor 6 = .ok (.invokestatic 19, 3) := by decide +kernel
theorem dX6_baseFor_9 : decode cX6_baseFor 9 = .ok (.iaload, 1) := by decide +kernel
theorem dX6_baseFor_10 : decode cX6_baseFor 10 = .ok (.istore_n 2, 1) := by decide +kernel
theorem dX6_baseFor_11 : decode cX6_baseFor 11 = .ok (.iconst (-1), 1) := by decide +kernel
theorem dX6_baseFor_12 : decode cX6_baseFor 12 = .ok (.istore_n 3, 1) := by decide +kernel
theorem dX6_baseFor_13 : decode cX6_baseFor 13 = .ok (.iconst 0, 1) := by decide +kernel
theorem dX6_baseFor_14 : decode cX6_baseFor 14 = .ok (.istore 4, 2) := by decide +kernel
theorem dX6_baseFor_16 : decode cX6_baseFor 16 = .ok (.bipush 10, 2) := by decide +kernel
theorem dX6_baseFor_18 : decode cX6_baseFor 18 = .ok (.istore 5, 2) := by decide +kernel
theorem dX6_baseFor_20 : decode cX6_baseFor 20 = .ok (.iload 5, 2) := by decide +kernel
theorem dX6_baseFor_22 : decode cX6_baseFor 22 = .ok (.bipush 100, 2) := by decide +kernel
theorem dX6_baseFor_24 : decode cX6_baseFor 24 = .ok (.if_icmp .gt 58, 3) := by decide +kernel
theorem dX6_baseFor_27 : decode cX6_baseFor 27 = .ok (.aload_n 0, 1) := by decide +kernel
theorem dX6_baseFor_28 : decode cX6_baseFor 28 = .ok (.getfield 7, 3) := by decide +kernel
theorem dX6_baseFor_31 : decode cX6_baseFor 31 = .ok (.iload_n 1, 1) := by decide +kernel
theorem dX6_baseFor_32 : decode cX6_baseFor 32 = .ok (.iconst 0, 1) := by decide +kernel
theorem dX6_baseFor_33 : decode cX6_baseFor 33 = .ok (.invokestatic 19, 3) := by decide +kernel
theorem dX6_baseFor_36 : decode cX6_baseFor 36 = .ok (.iload 5, 2) := by decide +kernel
theorem dX6_baseFor_38 : decode cX6_baseFor 38 = .ok (.iastore, 1) := by decide +kernel
theorem dX6_baseFor_39 : decode cX6_baseFor 39 = .ok (.aload_n 0, 1) := by decide +kernel
theorem dX6_baseFor_40 : decode cX6_baseFor 40 = .ok (.iload_n 1, 1) := by decide +kernel
theorem dX6_baseFor_41 : decode cX6_baseFor 41 = .ok (.invokevirtual 71, 3) := by decide +kernel
theorem dX6_baseFor_44 : decode cX6_baseFor 44 = .ok (.istore 6, 2) := by decide +kernel
theorem dX6_baseFor_46 : decode cX6_baseFor 46 = .ok (.iload 6, 2) := by decide +kernel
theorem dX6_baseFor_48 : decode cX6_baseFor 48 = .ok (.iload 4, 2) := by decide +kernel
theorem dX6_baseFor_50 : decode cX6_baseFor 50 = .ok (.if_icmp .le 8, 3) := by decide +kernel
theorem dX6_baseFor_53 : decode cX6_baseFor 53 = .ok (.iload 5, 2) := by decide +kernel
theorem dX6_baseFor_55 : decode cX6_baseFor 55 = .ok (.goto 4, 3) := by decide +kernel
theorem dX6_baseFor_58 : decode cX6_baseFor 58 = .ok (.iload_n 3, 1) := by decide +kernel
theorem dX6_baseFor_59 : decode cX6_baseFor 59 = .ok (.istore_n 3, 1) := by decide +kernel
theorem dX6_baseFor_60 : decode cX6_baseFor 60 = .ok (.iload 6, 2) := by decide +kernel
theorem dX6_baseFor_62 : decode cX6_baseFor 62 = .ok (.iload 4, 2) := by decide +kernel
theorem dX6_baseFor_64 : decode cX6_baseFor 64 = .ok (.if_icmp .le 8, 3) := by decide +kernel
theorem dX6_baseFor_67 : decode cX6_baseFor 67 = .ok (.iload 6, 2) := by decide +kernel
theorem dX6_baseFor_69 : decode cX6_baseFor 69 = .ok (.goto 5, 3) := by decide +kernel
theorem dX6_baseFor_72 : decode cX6_baseFor 72 = .ok (.iload 4, 2) := by decide +kernel
theorem dX6_baseFor_74 : decode cX6_baseFor 74 = .ok (.istore 4, 2) := by decide +kernel
theorem dX6_baseFor_76 : decode cX6_baseFor 76 = .ok (.iinc 5 5, 3) := by decide +kernel
theorem dX6_baseFor_79 : decode cX6_baseFor 79 = .ok (.goto (-59), 3) := by decide +kernel
theorem dX6_baseFor_82 : decode cX6_baseFor 82 = .ok (.aload_n 0, 1) := by decide +kernel
theorem dX6_baseFor_83 : decode cX6_baseFor 83 = .ok (.getfield 7, 3) := by decide +kernel
theorem dX6_baseFor_86 : decode cX6_baseFor 86 = .ok (.iload_n 1, 1) := by decide +kernel
theorem dX6_baseFor_87 : decode cX6_baseFor 87 = .ok (.iconst 0, 1) := by decide +kernel
theorem dX6_baseFor_88 : decode cX6_baseFor 88 = .ok (.invokestatic 19, 3) := by decide +kernel
theorem dX6_baseFor_91 : decode cX6_baseFor 91 = .ok (.iload_n 2, 1) := by decide +kernel
theorem dX6_baseFor_92 : decode cX6_baseFor 92 = .ok (.iastore, 1) := by decide +kernel
theorem dX6_baseFor_93 : decode cX6_baseFor 93 = .ok (.iload_n 3, 1) := by decide +kernel
theorem dX6_baseFor_94 : decode cX6_baseFor 94 = .ok (.ireturn, 1) := by decide +kernel
set_option maxRecDepth 20000 in
theorem ggX6_bestBase_X6_isLadder : GoodIn wsX6_bestBase wsX6_isLadder := goodIn_r _ [4, 5, 6, 3, 7] (by decide +kernel) (by decide +kernel)
set_option maxRecDepth 20000 in
theorem gX6_bestBase_X6_isLadder : GoodIn wsX6_bestBase (va_wsS RX6 31 yX6_isLadder wsX6_isLadder) := goodIn_app (goodIn_of _ (by decide +kernel)) ggX6_bestBase_X6_isLadder
set_option maxRecDepth 20000 in
theorem ggX6_bestBase_X6_holds : GoodIn wsX6_bestBase wsX6_holds := goodIn_r _ [11, 12, 50, 51, 52, 53, 54, 55, 56, 57, 58, 59, 60, 61, 62, 63, 64, 65] (by decide +kernel) (by decide +kernel)
set_option maxRecDepth 20000 in
theorem gX6_bestBase_X6_holds : GoodIn wsX6_bestBase (wsV RX6 77 RX6 yX6_holds wsX6_holds) := goodIn_app (goodIn_of _ (by decide +kernel)) ggX6_bestBase_X6_holds
set_option maxRecDepth 20000 in
theorem ggX6_bestBase_X6_baseFor : GoodIn wsX6_bestBase wsX6_baseFor := goodIn_r _ [16, 17, 18, 19, 3, 20, 21, 22, 23, 24, 25, 26, 27, 28, 29, 30, 31, 32, 33, 34, 35, 36, 37, 38, 39, 40, 41, 42, 43, 44, 45, 46, 47, 48, 49, 50, 51, 52, 53, 54, 55, 56, 57, 58, 59, 60, 61, 62, 63, 64, 65] (by decide +kernel) (by decide +kernel)
set_option maxRecDepth 20000 in
theorem gX6_bestBase_X6_baseFor : GoodIn wsX6_bestBase (wsV RX6 169 RX6 yX6_baseFor wsX6_baseFor) := goodIn_app (goodIn_of _ (by decide +kernel)) ggX6_bestBase_X6_baseFor
theorem dX6_bestBase_0 : decode cX6_bestBase 0 = .ok (.aload_n 0, 1) := by decide +kernel
theorem dX6_bestBase_1 : decode cX6_bestBase 1 = .ok (.iload_n 1, 1) := by decide +kernel
theorem dX6_bestBase_2 : decode cX6_bestBase 2 = .ok (.invokestatic 31, 3) := by decide +kernel
theorem dX6_bestBase_5 : decode cX6_bestBase 5 = .ok (.ifCond .eq 7, 3) := by decide +kernel
theorem dX6_bestBase_8 : decode cX6_bestBase 8 = .ok (.iconst 0, 1) := by decide +kernel
theorem dX6_bestBase_9 : decode cX6_bestBase 9 = .ok (.goto 4, 3) := by decide +kernel
theorem dX6_bestBase_12 : decode cX6_bestBase 12 = .ok (.iconst 1, 1) := by decide +kernel
theorem dX6_bestBase_13 : decode cX6_bestBase 13 = .ok (.invokevirtual 77, 3) := by decide +kernel
theorem dX6_bestBase_16 : decode cX6_bestBase 16 = .ok (.ifCond .eq 11, 3) := by decide +kernel
theorem dX6_bestBase_19 : decode cX6_bestBase 19 = .ok (.aload_n 0, 1) := by decide +kernel
theorem dX6_bestBase_20 : decode cX6_bestBase 20 = .ok (.iload_n 1, 1) := by decide +kernel
theorem dX6_bestBase_21 : decode cX6_bestBase 21 = .ok (.invokevirtual 169, 3) := by decide +kernel
theorem dX6_bestBase_24 : decode cX6_bestBase 24 = .ok (.goto 4, 3) := by decide +kernel
theorem dX6_bestBase_27 : decode cX6_bestBase 27 = .ok (.iconst 0, 1) := by decide +kernel
theorem dX6_bestBase_28 : decode cX6_bestBase 28 = .ok (.ireturn, 1) := by decide +kernel
set_option maxRecDepth 20000 in
theorem ggX6_riskiestOf_X6_of : GoodIn wsX6_riskiestOf wsX6_of := goodIn_r _ [5] (by decide +kernel) (by decide +kernel)
set_option maxRecDepth 20000 in
theorem gX6_riskiestOf_X6_of : GoodIn wsX6_riskiestOf (va_wsS RX6 19 yX6_of wsX6_of) := goodIn_app (goodIn_of _ (by decide +kernel)) ggX6_riskiestOf_X6_of
set_option maxRecDepth 20000 in
theorem ggX6_riskiestOf_X6_ofPerson : GoodIn wsX6_riskiestOf wsX6_ofPerson := goodIn_r _ [8] (by decide +kernel) (by decide +kernel)
set_option maxRecDepth 20000 in
theorem gX6_riskiestOf_X6_ofPerson : GoodIn wsX6_riskiestOf (va_wsS RX6 38 yX6_ofPerson wsX6_ofPerson) := goodIn_app (goodIn_of _ (by decide +kernel)) ggX6_riskiestOf_X6_ofPerson
set_option maxRecDepth 20000 in
theorem ggX6_riskiestOf_X6_forces : GoodIn wsX6_riskiestOf wsX6_forces := goodIn_r _ [12, 1, 13, 14, 15, 16, 17, 18, 19, 4, 20, 2, 3, 5, 6, 7, 8, 21, 22, 23, 24, 25, 26, 27, 28, 29, 30, 31, 32, 33, 34, 35, 36, 37, 38, 39, 40, 41, 42, 43, 44, 45, 46, 47, 48, 49, 50] (by decide +kernel) (by decide +kernel)
set_option maxRecDepth 20000 in
theorem gX6_riskiestOf_X6_forces : GoodIn wsX6_riskiestOf (wsV RX6 71 RX6 yX6_forces wsX6_forces) := goodIn_app (goodIn_of _ (by decide +kernel)) ggX6_riskiestOf_X6_forces
theorem dX6_riskiestOf_0 : decode cX6_riskiestOf 0 = .ok (.iconst (-1), 1) := by decide +kernel
theorem dX6_riskiestOf_1 : decode cX6_riskiestOf 1 = .ok (.istore_n 2, 1) := by decide +kernel
theorem dX6_riskiestOf_2 : decode cX6_riskiestOf 2 = .ok (.iconst (-1), 1) := by decide +kernel
theorem dX6_riskiestOf_3 : decode cX6_riskiestOf 3 = .ok (.istore_n 3, 1) := by decide +kernel
theorem dX6_riskiestOf_4 : decode cX6_riskiestOf 4 = .ok (.iconst 0, 1) := by decide +kernel
theorem dX6_riskiestOf_5 : decode cX6_riskiestOf 5 = .ok (.istore 4, 2) := by decide +kernel
theorem dX6_riskiestOf_7 : decode cX6_riskiestOf 7 = .ok (.iload 4, 2) := by decide +kernel
theorem dX6_riskiestOf_9 : decode cX6_riskiestOf 9 = .ok (.aload_n 0, 1) := by decide +kernel
theorem dX6_riskiestOf_10 : decode cX6_riskiestOf 10 = .ok (.getfield 7, 3) := by decide +kernel
theorem dX6_riskiestOf_13 : decode cX6_riskiestOf 13 = .ok (.iload_n 1, 1) := by decide +kernel
theorem dX6_riskiestOf_14 : decode cX6_riskiestOf 14 = .ok (.bipush 6, 2) := by decide +kernel
theorem dX6_riskiestOf_16 : decode cX6_riskiestOf 16 = .ok (.invokestatic 19, 3) := by decide +kernel
theorem dX6_riskiestOf_19 : decode cX6_riskiestOf 19 = .ok (.iaload, 1) := by decide +kernel
theorem dX6_riskiestOf_20 : decode cX6_riskiestOf 20 = .ok (.if_icmp .ge 83, 3) := by decide +kernel
theorem dX6_riskiestOf_23 : decode cX6_riskiestOf 23 = .ok (.aload_n 0, 1) := by decide +kernel
theorem dX6_riskiestOf_24 : decode cX6_riskiestOf 24 = .ok (.getfield 7, 3) := by decide +kernel
theorem dX6_riskiestOf_27 : decode cX6_riskiestOf 27 = .ok (.iload_n 1, 1) := by decide +kernel
theorem dX6_riskiestOf_28 : decode cX6_riskiestOf 28 = .ok (.iload 4, 2) := by decide +kernel
theorem dX6_riskiestOf_30 : decode cX6_riskiestOf 30 = .ok (.iconst 0, 1) := by decide +kernel
theorem dX6_riskiestOf_31 : decode cX6_riskiestOf 31 = .ok (.invokestatic 38, 3) := by decide +kernel
theorem dX6_riskiestOf_34 : decode cX6_riskiestOf 34 = .ok (.iaload, 1) := by decide +kernel
theorem dX6_riskiestOf_35 : decode cX6_riskiestOf 35 = .ok (.istore 5, 2) := by decide +kernel
theorem dX6_riskiestOf_37 : decode cX6_riskiestOf 37 = .ok (.aload_n 0, 1) := by decide +kernel
theorem dX6_riskiestOf_38 : decode cX6_riskiestOf 38 = .ok (.getfield 7, 3) := by decide +kernel
theorem dX6_riskiestOf_41 : decode cX6_riskiestOf 41 = .ok (.iload_n 1, 1) := by decide +kernel
theorem dX6_riskiestOf_42 : decode cX6_riskiestOf 42 = .ok (.iload 4, 2) := by decide +kernel
theorem dX6_riskiestOf_44 : decode cX6_riskiestOf 44 = .ok (.iconst 0, 1) := by decide +kernel
theorem dX6_riskiestOf_45 : decode cX6_riskiestOf 45 = .ok (.invokestatic 38, 3) := by decide +kernel
theorem dX6_riskiestOf_48 : decode cX6_riskiestOf 48 = .ok (.iconst 0, 1) := by decide +kernel
theorem dX6_riskiestOf_49 : decode cX6_riskiestOf 49 = .ok (.iastore, 1) := by decide +kernel
theorem dX6_riskiestOf_50 : decode cX6_riskiestOf 50 = .ok (.aload_n 0, 1) := by decide +kernel
theorem dX6_riskiestOf_51 : decode cX6_riskiestOf 51 = .ok (.iload_n 1, 1) := by decide +kernel
theorem dX6_riskiestOf_52 : decode cX6_riskiestOf 52 = .ok (.invokevirtual 71, 3) := by decide +kernel
theorem dX6_riskiestOf_55 : decode cX6_riskiestOf 55 = .ok (.istore 6, 2) := by decide +kernel
theorem dX6_riskiestOf_57 : decode cX6_riskiestOf 57 = .ok (.aload_n 0, 1) := by decide +kernel
theorem dX6_riskiestOf_58 : decode cX6_riskiestOf 58 = .ok (.getfield 7, 3) := by decide +kernel
theorem dX6_riskiestOf_61 : decode cX6_riskiestOf 61 = .ok (.iload_n 1, 1) := by decide +kernel
theorem dX6_riskiestOf_62 : decode cX6_riskiestOf 62 = .ok (.iload 4, 2) := by decide +kernel
theorem dX6_riskiestOf_64 : decode cX6_riskiestOf 64 = .ok (.iconst 0, 1) := by decide +kernel
theorem dX6_riskiestOf_65 : decode cX6_riskiestOf 65 = .ok (.invokestatic 38, 3) := by decide +kernel
theorem dX6_riskiestOf_68 : decode cX6_riskiestOf 68 = .ok (.iload 5, 2) := by decide +kernel
theorem dX6_riskiestOf_70 : decode cX6_riskiestOf 70 = .ok (.iastore, 1) := by decide +kernel
theorem dX6_riskiestOf_71 : decode cX6_riskiestOf 71 = .ok (.iload 6, 2) := by decide +kernel
theorem dX6_riskiestOf_73 : decode cX6_riskiestOf 73 = .ok (.iload_n 3, 1) := by decide +kernel
theorem dX6_riskiestOf_74 : decode cX6_riskiestOf 74 = .ok (.if_icmp .le 8, 3) := by decide +kernel
theorem dX6_riskiestOf_77 : decode cX6_riskiestOf 77 = .ok (.iload 4, 2) := by decide +kernel
theorem dX6_riskiestOf_79 : decode cX6_riskiestOf 79 = .ok (.goto 4, 3) := by decide +kernel
theorem dX6_riskiestOf_82 : decode cX6_riskiestOf 82 = .ok (.iload_n 2, 1) := by decide +kernel
theorem dX6_riskiestOf_83 : decode cX6_riskiestOf 83 = .ok (.istore_n 2, 1) := by decide +kernel
theorem dX6_riskiestOf_84 : decode cX6_riskiestOf 84 = .ok (.iload 6, 2) := by decide +kernel
theorem dX6_riskiestOf_86 : decode cX6_riskiestOf 86 = .ok (.iload_n 3, 1) := by decide +kernel
theorem dX6_riskiestOf_87 : decode cX6_riskiestOf 87 = .ok (.if_icmp .le 8, 3) := by decide +kernel
theorem dX6_riskiestOf_90 : decode cX6_riskiestOf 90 = .ok (.iload 6, 2) := by decide +kernel
theorem dX6_riskiestOf_92 : decode cX6_riskiestOf 92 = .ok (.goto 4, 3) := by decide +kernel
theorem dX6_riskiestOf_95 : decode cX6_riskiestOf 95 = .ok (.iload_n 3, 1) := by decide +kernel
theorem dX6_riskiestOf_96 : decode cX6_riskiestOf 96 = .ok (.istore_n 3, 1) := by decide +kernel
theorem dX6_riskiestOf_97 : decode cX6_riskiestOf 97 = .ok (.iinc 4 1, 3) := by decide +kernel
theorem dX6_riskiestOf_100 : decode cX6_riskiestOf 100 = .ok (.goto (-93), 3) := by decide +kernel
theorem dX6_riskiestOf_103 : decode cX6_riskiestOf 103 = .ok (.iload_n 2, 1) := by decide +kernel
theorem dX6_riskiestOf_104 : decode cX6_riskiestOf 104 = .ok (.ireturn, 1) := by decide +kernel
set_option maxRecDepth 20000 in
theorem ggX6_riskiest_X6_isLadder : GoodIn wsX6_riskiest wsX6_isLadder := goodIn_r _ [4, 5, 6, 3, 7] (by decide +kernel) (by decide +kernel)
set_option maxRecDepth 20000 in
theorem gX6_riskiest_X6_isLadder : GoodIn wsX6_riskiest (va_wsS RX6 31 yX6_isLadder wsX6_isLadder) := goodIn_app (goodIn_of _ (by decide +kernel)) ggX6_riskiest_X6_isLadder
set_option maxRecDepth 20000 in
theorem ggX6_riskiest_X6_holds : GoodIn wsX6_riskiest wsX6_holds := goodIn_r _ [11, 12, 50, 51, 52, 53, 54, 55, 56, 57, 58, 59, 60, 61, 62, 63, 64, 65] (by decide +kernel) (by decide +kernel)
set_option maxRecDepth 20000 in
theorem gX6_riskiest_X6_holds : GoodIn wsX6_riskiest (wsV RX6 77 RX6 yX6_holds wsX6_holds) := goodIn_app (goodIn_of _ (by decide +kernel)) ggX6_riskiest_X6_holds
set_option maxRecDepth 20000 in
theorem ggX6_riskiest_X6_riskiestOf : GoodIn wsX6_riskiest wsX6_riskiestOf := goodIn_r _ [16, 17, 18, 19, 3, 20, 21, 22, 23, 24, 25, 26, 27, 28, 29, 30, 31, 32, 33, 34, 35, 36, 37, 38, 39, 40, 41, 42, 43, 44, 45, 46, 47, 48, 49, 50, 51, 52, 53, 54, 55, 56, 57, 58, 59, 60, 61, 62, 63, 64, 65] (by decide +kernel) (by decide +kernel)
set_option maxRecDepth 20000 in
theorem gX6_riskiest_X6_riskiestOf : GoodIn wsX6_riskiest (wsV RX6 172 RX6 yX6_riskiestOf wsX6_riskiestOf) := goodIn_app (goodIn_of _ (by decide +kernel)) ggX6_riskiest_X6_riskiestOf
theorem dX6_riskiest_0 : decode cX6_riskiest 0 = .ok (.aload_n 0, 1) := by decide +kernel
theorem dX6_riskiest_1 : decode cX6_riskiest 1 = .ok (.iload_n 1, 1) := by decide +kernel
theorem dX6_riskiest_2 : decode cX6_riskiest 2 = .ok (.invokestatic 31, 3) := by decide +kernel
theorem dX6_riskiest_5 : decode cX6_riskiest 5 = .ok (.ifCond .eq 7, 3) := by decide +kernel
theorem dX6_riskiest_8 : decode cX6_riskiest 8 = .ok (.iconst 0, 1) := by decide +kernel
theorem dX6_riskiest_9 : decode cX6_riskiest 9 = .ok (.goto 4, 3) := by decide +kernel
theorem dX6_riskiest_12 : decode cX6_riskiest 12 = .ok (.iconst 1, 1) := by decide +kernel
theorem dX6_riskiest_13 : decode cX6_riskiest 13 = .ok (.invokevirtual 77, 3) := by decide +kernel
theorem dX6_riskiest_16 : decode cX6_riskiest 16 = .ok (.ifCond .eq 11, 3) := by decide +kernel
theorem dX6_riskiest_19 : decode cX6_riskiest 19 = .ok (.aload_n 0, 1) := by decide +kernel
theorem dX6_riskiest_20 : decode cX6_riskiest 20 = .ok (.iload_n 1, 1) := by decide +kernel
theorem dX6_riskiest_21 : decode cX6_riskiest 21 = .ok (.invokevirtual 172, 3) := by decide +kernel
theorem dX6_riskiest_24 : decode cX6_riskiest 24 = .ok (.goto 4, 3) := by decide +kernel
theorem dX6_riskiest_27 : decode cX6_riskiest 27 = .ok (.iconst 0, 1) := by decide +kernel
theorem dX6_riskiest_28 : decode cX6_riskiest 28 = .ok (.ireturn, 1) := by decide +kernel
set_option maxRecDepth 20000 in
theorem ggX6_wallsFor_X6_of : GoodIn wsX6_wallsFor wsX6_of := goodIn_r _ [5] (by decide +kernel) (by decide +kernel)
set_option maxRecDepth 20000 in
theorem gX6_wallsFor_X6_of : GoodIn wsX6_wallsFor (va_wsS RX6 19 yX6_of wsX6_of) := goodIn_app (goodIn_of _ (by decide +kernel)) ggX6_wallsFor_X6_of
set_option maxRecDepth 20000 in
theorem ggX6_wallsFor_X6_stands : GoodIn wsX6_wallsFor wsX6_stands := goodIn_r _ [9, 10, 11, 12, 4, 13, 1, 14, 15, 16, 17, 18, 19, 20, 21, 2, 3, 5, 22, 23, 24, 25, 26, 27, 28, 29, 30, 31, 32, 33, 34, 35, 36, 37, 38, 39, 40, 41, 42, 43, 44, 45, 46, 47, 48, 49, 50, 51, 52, 53, 54] (by decide +kernel) (by decide +kernel)
set_option maxRecDepth 20000 in
theorem gX6_wallsFor_X6_stands : GoodIn wsX6_wallsFor (wsV RX6 74 RX6 yX6_stands wsX6_stands) := goodIn_app (goodIn_of _ (by decide +kernel)) ggX6_wallsFor_X6_stands
theorem dX6_wallsFor_0 : decode cX6_wallsFor 0 = .ok (.aload_n 0, 1) := by decide +kernel
theorem dX6_wallsFor_1 : decode cX6_wallsFor 1 = .ok (.getfield 7, 3) := by decide +kernel
theorem dX6_wallsFor_4 : decode cX6_wallsFor 4 = .ok (.iload_n 1, 1) := by decide +kernel
theorem dX6_wallsFor_5 : decode cX6_wallsFor 5 = .ok (.iconst 4, 1) := by decide +kernel
theorem dX6_wallsFor_6 : decode cX6_wallsFor 6 = .ok (.invokestatic 19, 3) := by decide +kernel
theorem dX6_wallsFor_9 : decode cX6_wallsFor 9 = .ok (.iaload, 1) := by decide +kernel
theorem dX6_wallsFor_10 : decode cX6_wallsFor 10 = .ok (.istore_n 2, 1) := by decide +kernel
theorem dX6_wallsFor_11 : decode cX6_wallsFor 11 = .ok (.iconst 0, 1) := by decide +kernel
theorem dX6_wallsFor_12 : decode cX6_wallsFor 12 = .ok (.istore_n 3, 1) := by decide +kernel
theorem dX6_wallsFor_13 : decode cX6_wallsFor 13 = .ok (.iconst 0, 1) := by decide +kernel
theorem dX6_wallsFor_14 : decode cX6_wallsFor 14 = .ok (.istore 4, 2) := by decide +kernel
theorem dX6_wallsFor_16 : decode cX6_wallsFor 16 = .ok (.iload 4, 2) := by decide +kernel
theorem dX6_wallsFor_18 : decode cX6_wallsFor 18 = .ok (.iconst 4, 1) := by decide +kernel
theorem dX6_wallsFor_19 : decode cX6_wallsFor 19 = .ok (.if_icmp .ge 40, 3) := by decide +kernel
theorem dX6_wallsFor_22 : decode cX6_wallsFor 22 = .ok (.aload_n 0, 1) := by decide +kernel
theorem dX6_wallsFor_23 : decode cX6_wallsFor 23 = .ok (.getfield 7, 3) := by decide +kernel
theorem dX6_wallsFor_26 : decode cX6_wallsFor 26 = .ok (.iload_n 1, 1) := by decide +kernel
theorem dX6_wallsFor_27 : decode cX6_wallsFor 27 = .ok (.iconst 4, 1) := by decide +kernel
theorem dX6_wallsFor_28 : decode cX6_wallsFor 28 = .ok (.invokestatic 19, 3) := by decide +kernel
theorem dX6_wallsFor_31 : decode cX6_wallsFor 31 = .ok (.iload 4, 2) := by decide +kernel
theorem dX6_wallsFor_33 : decode cX6_wallsFor 33 = .ok (.iastore, 1) := by decide +kernel
theorem dX6_wallsFor_34 : decode cX6_wallsFor 34 = .ok (.iload_n 3, 1) := by decide +kernel
theorem dX6_wallsFor_35 : decode cX6_wallsFor 35 = .ok (.aload_n 0, 1) := by decide +kernel
theorem dX6_wallsFor_36 : decode cX6_wallsFor 36 = .ok (.iload_n 1, 1) := by decide +kernel
theorem dX6_wallsFor_37 : decode cX6_wallsFor 37 = .ok (.invokevirtual 74, 3) := by decide +kernel
theorem dX6_wallsFor_40 : decode cX6_wallsFor 40 = .ok (.ifCond .eq 10, 3) := by decide +kernel
theorem dX6_wallsFor_43 : decode cX6_wallsFor 43 = .ok (.iconst 1, 1) := by decide +kernel
theorem dX6_wallsFor_44 : decode cX6_wallsFor 44 = .ok (.iload 4, 2) := by decide +kernel
theorem dX6_wallsFor_46 : decode cX6_wallsFor 46 = .ok (.ishl, 1) := by decide +kernel
theorem dX6_wallsFor_47 : decode cX6_wallsFor 47 = .ok (.goto 4, 3) := by decide +kernel
theorem dX6_wallsFor_50 : decode cX6_wallsFor 50 = .ok (.iconst 0, 1) := by decide +kernel
theorem dX6_wallsFor_51 : decode cX6_wallsFor 51 = .ok (.ior, 1) := by decide +kernel
theorem dX6_wallsFor_52 : decode cX6_wallsFor 52 = .ok (.istore_n 3, 1) := by decide +kernel
theorem dX6_wallsFor_53 : decode cX6_wallsFor 53 = .ok (.iinc 4 1, 3) := by decide +kernel
theorem dX6_wallsFor_56 : decode cX6_wallsFor 56 = .ok (.goto (-40), 3) := by decide +kernel
theorem dX6_wallsFor_59 : decode cX6_wallsFor 59 = .ok (.aload_n 0, 1) := by decide +kernel
theorem dX6_wallsFor_60 : decode cX6_wallsFor 60 = .ok (.getfield 7, 3) := by decide +kernel
theorem dX6_wallsFor_63 : decode cX6_wallsFor 63 = .ok (.iload_n 1, 1) := by decide +kernel
theorem dX6_wallsFor_64 : decode cX6_wallsFor 64 = .ok (.iconst 4, 1) := by decide +kernel
theorem dX6_wallsFor_65 : decode cX6_wallsFor 65 = .ok (.invokestatic 19, 3) := by decide +kernel
theorem dX6_wallsFor_68 : decode cX6_wallsFor 68 = .ok (.iload_n 2, 1) := by decide +kernel
theorem dX6_wallsFor_69 : decode cX6_wallsFor 69 = .ok (.iastore, 1) := by decide +kernel
theorem dX6_wallsFor_70 : decode cX6_wallsFor 70 = .ok (.iload_n 3, 1) := by decide +kernel
theorem dX6_wallsFor_71 : decode cX6_wallsFor 71 = .ok (.ireturn, 1) := by decide +kernel
set_option maxRecDepth 20000 in
theorem ggX6_walls_X6_isLadder : GoodIn wsX6_walls wsX6_isLadder := goodIn_r _ [4, 5, 6, 3, 7] (by decide +kernel) (by decide +kernel)
set_option maxRecDepth 20000 in
theorem gX6_walls_X6_isLadder : GoodIn wsX6_walls (va_wsS RX6 31 yX6_isLadder wsX6_isLadder) := goodIn_app (goodIn_of _ (by decide +kernel)) ggX6_walls_X6_isLadder
set_option maxRecDepth 20000 in
theorem ggX6_walls_X6_holds : GoodIn wsX6_walls wsX6_holds := goodIn_r _ [11, 12, 54, 55, 56, 57, 58, 59, 60, 61, 62, 63, 64, 65, 66, 67, 68, 69] (by decide +kernel) (by decide +kernel)
set_option maxRecDepth 20000 in
theorem gX6_walls_X6_holds : GoodIn wsX6_walls (wsV RX6 77 RX6 yX6_holds wsX6_holds) := goodIn_app (goodIn_of _ (by decide +kernel)) ggX6_walls_X6_holds
set_option maxRecDepth 20000 in
theorem ggX6_walls_X6_wallsFor : GoodIn wsX6_walls wsX6_wallsFor := goodIn_r _ [16, 17, 18, 19, 3, 20, 21, 22, 23, 24, 25, 26, 27, 28, 29, 30, 31, 32, 33, 34, 35, 36, 37, 38, 39, 40, 41, 42, 43, 44, 45, 46, 47, 48, 49, 50, 51, 52, 53, 54, 55, 56, 57, 58, 59, 60, 61, 62, 63, 64, 65, 66, 67, 68, 69] (by decide +kernel) (by decide +kernel)
set_option maxRecDepth 20000 in
theorem gX6_walls_X6_wallsFor : GoodIn wsX6_walls (wsV RX6 175 RX6 yX6_wallsFor wsX6_wallsFor) := goodIn_app (goodIn_of _ (by decide +kernel)) ggX6_walls_X6_wallsFor
theorem dX6_walls_0 : decode cX6_walls 0 = .ok (.aload_n 0, 1) := by decide +kernel
theorem dX6_walls_1 : decode cX6_walls 1 = .ok (.iload_n 1, 1) := by decide +kernel
theorem dX6_walls_2 : decode cX6_walls 2 = .ok (.invokestatic 31, 3) := by decide +kernel
theorem dX6_walls_5 : decode cX6_walls 5 = .ok (.ifCond .eq 7, 3) := by decide +kernel
theorem dX6_walls_8 : decode cX6_walls 8 = .ok (.iconst 0, 1) := by decide +kernel
theorem dX6_walls_9 : decode cX6_walls 9 = .ok (.goto 4, 3) := by decide +kernel
theorem dX6_walls_12 : decode cX6_walls 12 = .ok (.iconst 1, 1) := by decide +kernel
theorem dX6_walls_13 : decode cX6_walls 13 = .ok (.invokevirtual 77, 3) := by decide +kernel
theorem dX6_walls_16 : decode cX6_walls 16 = .ok (.ifCond .eq 11, 3) := by decide +kernel
theorem dX6_walls_19 : decode cX6_walls 19 = .ok (.aload_n 0, 1) := by decide +kernel
theorem dX6_walls_20 : decode cX6_walls 20 = .ok (.iload_n 1, 1) := by decide +kernel
theorem dX6_walls_21 : decode cX6_walls 21 = .ok (.invokevirtual 175, 3) := by decide +kernel
theorem dX6_walls_24 : decode cX6_walls 24 = .ok (.goto 4, 3) := by decide +kernel
theorem dX6_walls_27 : decode cX6_walls 27 = .ok (.iconst 0, 1) := by decide +kernel
theorem dX6_walls_28 : decode cX6_walls 28 = .ok (.ireturn, 1) := by decide +kernel
set_option maxRecDepth 20000 in
theorem ggX6_share_X6_sumOf : GoodIn wsX6_share wsX6_sumOf := goodIn_r _ [6, 7, 8, 9, 5, 10, 1, 11, 12, 13, 14, 15, 16, 17, 18, 19, 20, 21, 22, 23, 24, 25, 26, 27, 28, 29, 30, 31, 32, 33, 34, 35, 36, 37, 38, 39, 40, 41, 42, 43, 44, 45, 46, 47, 48, 49, 50, 51, 52, 53, 54, 55, 56, 57, 58, 59, 60, 61, 62] (by decide +kernel) (by decide +kernel)
set_option maxRecDepth 20000 in
theorem gX6_share_X6_sumOf : GoodIn wsX6_share (wsV RX6 157 RX6 yX6_sumOf wsX6_sumOf) := goodIn_app (goodIn_of _ (by decide +kernel)) ggX6_share_X6_sumOf
theorem dX6_share_0 : decode cX6_share 0 = .ok (.aload_n 0, 1) := by decide +kernel
theorem dX6_share_1 : decode cX6_share 1 = .ok (.bipush 6, 2) := by decide +kernel
theorem dX6_share_3 : decode cX6_share 3 = .ok (.invokevirtual 157, 3) := by decide +kernel
theorem dX6_share_6 : decode cX6_share 6 = .ok (.istore_n 1, 1) := by decide +kernel
theorem dX6_share_7 : decode cX6_share 7 = .ok (.iload_n 1, 1) := by decide +kernel
theorem dX6_share_8 : decode cX6_share 8 = .ok (.aload_n 0, 1) := by decide +kernel
theorem dX6_share_9 : decode cX6_share 9 = .ok (.getfield 7, 3) := by decide +kernel
theorem dX6_share_12 : decode cX6_share 12 = .ok (.bipush 56, 2) := by decide +kernel
theorem dX6_share_14 : decode cX6_share 14 = .ok (.iaload, 1) := by decide +kernel
theorem dX6_share_15 : decode cX6_share 15 = .ok (.iadd, 1) := by decide +kernel
theorem dX6_share_16 : decode cX6_share 16 = .ok (.ifCond .ne 7, 3) := by decide +kernel
theorem dX6_share_19 : decode cX6_share 19 = .ok (.dconst 1, 1) := by decide +kernel
theorem dX6_share_20 : decode cX6_share 20 = .ok (.goto 16, 3) := by decide +kernel
theorem dX6_share_23 : decode cX6_share 23 = .ok (.iload_n 1, 1) := by decide +kernel
theorem dX6_share_24 : decode cX6_share 24 = .ok (.i2d, 1) := by decide +kernel
theorem dX6_share_25 : decode cX6_share 25 = .ok (.iload_n 1, 1) := by decide +kernel
theorem dX6_share_26 : decode cX6_share 26 = .ok (.aload_n 0, 1) := by decide +kernel
theorem dX6_share_27 : decode cX6_share 27 = .ok (.getfield 7, 3) := by decide +kernel
theorem dX6_share_30 : decode cX6_share 30 = .ok (.bipush 56, 2) := by decide +kernel
theorem dX6_share_32 : decode cX6_share 32 = .ok (.iaload, 1) := by decide +kernel
theorem dX6_share_33 : decode cX6_share 33 = .ok (.iadd, 1) := by decide +kernel
theorem dX6_share_34 : decode cX6_share 34 = .ok (.i2d, 1) := by decide +kernel
theorem dX6_share_35 : decode cX6_share 35 = .ok (.ddiv, 1) := by decide +kernel
theorem dX6_share_36 : decode cX6_share 36 = .ok (.dreturn, 1) := by decide +kernel
set_option maxRecDepth 20000 in
theorem ggX6_safety_X6_share : GoodIn wsX6_safety wsX6_share := goodIn_r _ [6, 7, 8, 9, 10, 5, 11, 12, 13, 14, 15, 16, 17, 18, 19, 20, 21, 22, 23, 24, 25, 26, 27, 28, 29, 30, 31, 32, 33, 34, 35, 36, 37, 38, 39, 40, 41, 42, 43, 44, 45, 46, 47, 48, 49, 50, 51, 52, 53, 54, 55, 56, 57, 58, 59, 60, 61, 62, 63, 64, 65, 66, 67] (by decide +kernel) (by decide +kernel)
set_option maxRecDepth 20000 in
theorem gX6_safety_X6_share : GoodIn wsX6_safety (wsV RX6 178 RX6 yX6_share wsX6_share) := goodIn_app (goodIn_of _ (by decide +kernel)) ggX6_safety_X6_share
theorem dX6_safety_0 : decode cX6_safety 0 = .ok (.aload_n 0, 1) := by decide +kernel
theorem dX6_safety_1 : decode cX6_safety 1 = .ok (.iconst 0, 1) := by decide +kernel
theorem dX6_safety_2 : decode cX6_safety 2 = .ok (.putfield 23, 3) := by decide +kernel
theorem dX6_safety_5 : decode cX6_safety 5 = .ok (.aload_n 0, 1) := by decide +kernel
theorem dX6_safety_6 : decode cX6_safety 6 = .ok (.invokevirtual 178, 3) := by decide +kernel
theorem dX6_safety_9 : decode cX6_safety 9 = .ok (.dreturn, 1) := by decide +kernel
theorem dX6_bitsOf_0 : decode cX6_bitsOf 0 = .ok (.dload_n 0, 1) := by decide +kernel
theorem dX6_bitsOf_1 : decode cX6_bitsOf 1 = .ok (.dconst 0, 1) := by decide +kernel
theorem dX6_bitsOf_2 : decode cX6_bitsOf 2 = .ok (.dcmp .l, 1) := by decide +kernel
theorem dX6_bitsOf_3 : decode cX6_bitsOf 3 = .ok (.ifCond .ne 5, 3) := by decide +kernel
theorem dX6_bitsOf_6 : decode cX6_bitsOf 6 = .ok (.lconst 0, 1) := by decide +kernel
theorem dX6_bitsOf_7 : decode cX6_bitsOf 7 = .ok (.lreturn, 1) := by decide +kernel
theorem dX6_bitsOf_8 : decode cX6_bitsOf 8 = .ok (.ldc2_w 182, 3) := by decide +kernel
theorem dX6_bitsOf_11 : decode cX6_bitsOf 11 = .ok (.lstore_n 2, 1) := by decide +kernel
theorem dX6_bitsOf_12 : decode cX6_bitsOf 12 = .ok (.dload_n 0, 1) := by decide +kernel
theorem dX6_bitsOf_13 : decode cX6_bitsOf 13 = .ok (.dstore 4, 2) := by decide +kernel
theorem dX6_bitsOf_15 : decode cX6_bitsOf 15 = .ok (.dload 4, 2) := by decide +kernel
theorem dX6_bitsOf_17 : decode cX6_bitsOf 17 = .ok (.dconst 1, 1) := by decide +kernel
theorem dX6_bitsOf_18 : decode cX6_bitsOf 18 = .ok (.dcmp .g, 1) := by decide +kernel
theorem dX6_bitsOf_19 : decode cX6_bitsOf 19 = .ok (.ifCond .ge 18, 3) := by decide +kernel
theorem dX6_bitsOf_22 : decode cX6_bitsOf 22 = .ok (.dload 4, 2) := by decide +kernel
theorem dX6_bitsOf_24 : decode cX6_bitsOf 24 = .ok (.ldc2_w 184, 3) := by decide +kernel
theorem dX6_bitsOf_27 : decode cX6_bitsOf 27 = .ok (.dmul, 1) := by decide +kernel
theorem dX6_bitsOf_28 : decode cX6_bitsOf 28 = .ok (.dstore 4, 2) := by decide +kernel
theorem dX6_bitsOf_30 : decode cX6_bitsOf 30 = .ok (.lload_n 2, 1) := by decide +kernel
theorem dX6_bitsOf_31 : decode cX6_bitsOf 31 = .ok (.lconst 1, 1) := by decide +kernel
theorem dX6_bitsOf_32 : decode cX6_bitsOf 32 = .ok (.lsub, 1) := by decide +kernel
theorem dX6_bitsOf_33 : decode cX6_bitsOf 33 = .ok (.lstore_n 2, 1) := by decide +kernel
theorem dX6_bitsOf_34 : decode cX6_bitsOf 34 = .ok (.goto (-19), 3) := by decide +kernel
theorem dX6_bitsOf_37 : decode cX6_bitsOf 37 = .ok (.lload_n 2, 1) := by decide +kernel
theorem dX6_bitsOf_38 : decode cX6_bitsOf 38 = .ok (.ldc2_w 186, 3) := by decide +kernel
theorem dX6_bitsOf_41 : decode cX6_bitsOf 41 = .ok (.lmul, 1) := by decide +kernel
theorem dX6_bitsOf_42 : decode cX6_bitsOf 42 = .ok (.dload 4, 2) := by decide +kernel
theorem dX6_bitsOf_44 : decode cX6_bitsOf 44 = .ok (.dconst 1, 1) := by decide +kernel
theorem dX6_bitsOf_45 : decode cX6_bitsOf 45 = .ok (.dsub, 1) := by decide +kernel
theorem dX6_bitsOf_46 : decode cX6_bitsOf 46 = .ok (.ldc2_w 188, 3) := by decide +kernel
theorem dX6_bitsOf_49 : decode cX6_bitsOf 49 = .ok (.dmul, 1) := by decide +kernel
theorem dX6_bitsOf_50 : decode cX6_bitsOf 50 = .ok (.d2l, 1) := by decide +kernel
theorem dX6_bitsOf_51 : decode cX6_bitsOf 51 = .ok (.ladd, 1) := by decide +kernel
theorem dX6_bitsOf_52 : decode cX6_bitsOf 52 = .ok (.lreturn, 1) := by decide +kernel
theorem dX6_digestOne_0 : decode cX6_digestOne 0 = .ok (.aload_n 0, 1) := by decide +kernel
theorem dX6_digestOne_1 : decode cX6_digestOne 1 = .ok (.ldc2_w 190, 3) := by decide +kernel
theorem dX6_digestOne_4 : decode cX6_digestOne 4 = .ok (.aload_n 0, 1) := by decide +kernel
theorem dX6_digestOne_5 : decode cX6_digestOne 5 = .ok (.getfield 192, 3) := by decide +kernel
theorem dX6_digestOne_8 : decode cX6_digestOne 8 = .ok (.lmul, 1) := by decide +kernel
theorem dX6_digestOne_9 : decode cX6_digestOne 9 = .ok (.lload_n 1, 1) := by decide +kernel
theorem dX6_digestOne_10 : decode cX6_digestOne 10 = .ok (.ladd, 1) := by decide +kernel
theorem dX6_digestOne_11 : decode cX6_digestOne 11 = .ok (.putfield 192, 3) := by decide +kernel
theorem dX6_digestOne_14 : decode cX6_digestOne 14 = .ok (.return_, 1) := by decide +kernel
set_option maxRecDepth 20000 in
theorem ggX6_digestLadder_X6_ofLadder : GoodIn wsX6_digestLadder wsX6_ofLadder := goodIn_r _ [6, 1, 7, 8, 9, 5, 10, 11, 12, 13, 14, 15, 16, 17, 18, 19, 20, 21, 22, 23, 24, 25, 26, 27, 28, 29, 30, 31, 32, 33, 34, 35, 36, 37, 38, 39, 40, 41, 42, 77, 78, 79, 80, 81, 82, 83, 84, 85, 86, 87, 88, 89, 90, 91, 92] (by decide +kernel) (by decide +kernel)
set_option maxRecDepth 20000 in
theorem gX6_digestLadder_X6_ofLadder : GoodIn wsX6_digestLadder (wsV RX6 145 RX6 yX6_ofLadder wsX6_ofLadder) := goodIn_app (goodIn_of _ (by decide +kernel)) ggX6_digestLadder_X6_ofLadder
set_option maxRecDepth 20000 in
theorem ggX6_digestLadder_X6_digestOne : GoodIn wsX6_digestLadder wsX6_digestOne := goodIn_r _ [46, 47, 48, 77, 78, 79, 80, 81, 82, 83, 84, 85, 86, 87, 88, 89, 90, 91, 92] (by decide +kernel) (by decide +kernel)
set_option maxRecDepth 20000 in
theorem gX6_digestLadder_X6_digestOne : GoodIn wsX6_digestLadder (wsV RX6 196 RX6 yX6_digestOne wsX6_digestOne) := goodIn_app (goodIn_of _ (by decide +kernel)) ggX6_digestLadder_X6_digestOne
set_option maxRecDepth 20000 in
theorem ggX6_digestLadder_X6_ofForce : GoodIn wsX6_digestLadder wsX6_ofForce := goodIn_r _ [52, 30, 31, 32, 25, 26, 27, 5, 28, 1, 29, 7, 8, 9, 10, 11, 12, 13, 14, 15, 16, 17, 18, 19, 20, 33, 34, 35, 36, 37, 38, 39, 40, 41, 42, 53, 54, 55, 56, 77, 78, 79, 80, 81, 82, 83, 84, 85, 86, 87, 88, 89, 90, 91, 92] (by decide +kernel) (by decide +kernel)
set_option maxRecDepth 20000 in
theorem gX6_digestLadder_X6_ofForce : GoodIn wsX6_digestLadder (wsV RX6 151 RX6 yX6_ofForce wsX6_ofForce) := goodIn_app (goodIn_of _ (by decide +kernel)) ggX6_digestLadder_X6_ofForce
set_option maxRecDepth 20000 in
theorem ggX6_digestLadder_X6_of : GoodIn wsX6_digestLadder wsX6_of := goodIn_r _ [13] (by decide +kernel) (by decide +kernel)
set_option maxRecDepth 20000 in
theorem gX6_digestLadder_X6_of : GoodIn wsX6_digestLadder (va_wsS RX6 19 yX6_of wsX6_of) := goodIn_app (goodIn_of _ (by decide +kernel)) ggX6_digestLadder_X6_of
set_option maxRecDepth 20000 in
theorem ggX6_digestLadder_X6_ofPerson : GoodIn wsX6_digestLadder wsX6_ofPerson := goodIn_r _ [16] (by decide +kernel) (by decide +kernel)
set_option maxRecDepth 20000 in
theorem gX6_digestLadder_X6_ofPerson : GoodIn wsX6_digestLadder (va_wsS RX6 38 yX6_ofPerson wsX6_ofPerson) := goodIn_app (goodIn_of _ (by decide +kernel)) ggX6_digestLadder_X6_ofPerson
set_option maxRecDepth 20000 in
theorem ggX6_digestLadder_X6_highestOf : GoodIn wsX6_digestLadder wsX6_highestOf := goodIn_r _ [60, 1, 14, 15, 5, 16, 21, 22, 23, 24, 25, 26, 27, 28, 29, 30, 31, 32, 7, 8, 9, 10, 11, 12, 13, 17, 18, 19, 20, 33, 34, 35, 36, 37, 38, 39, 40, 41, 42, 77, 78, 79, 80, 81, 82, 83, 84, 85, 86, 87, 88, 89, 90, 91, 92] (by decide +kernel) (by decide +kernel)
set_option maxRecDepth 20000 in
theorem gX6_digestLadder_X6_highestOf : GoodIn wsX6_digestLadder (wsV RX6 163 RX6 yX6_highestOf wsX6_highestOf) := goodIn_app (goodIn_of _ (by decide +kernel)) ggX6_digestLadder_X6_highestOf
set_option maxRecDepth 20000 in
theorem ggX6_digestLadder_X6_ropeFor : GoodIn wsX6_digestLadder wsX6_ropeFor := goodIn_r _ [64, 1, 11, 12, 5, 13, 21, 22, 23, 24, 25, 26, 27, 28, 29, 30, 31, 32, 7, 8, 9, 10, 14, 15, 16, 17, 18, 19, 20, 33, 34, 35, 36, 37, 38, 39, 40, 41, 42, 77, 78, 79, 80, 81, 82, 83, 84, 85, 86, 87, 88, 89, 90, 91, 92] (by decide +kernel) (by decide +kernel)
set_option maxRecDepth 20000 in
theorem gX6_digestLadder_X6_ropeFor : GoodIn wsX6_digestLadder (wsV RX6 166 RX6 yX6_ropeFor wsX6_ropeFor) := goodIn_app (goodIn_of _ (by decide +kernel)) ggX6_digestLadder_X6_ropeFor
set_option maxRecDepth 20000 in
theorem ggX6_digestLadder_X6_baseFor : GoodIn wsX6_digestLadder wsX6_baseFor := goodIn_r _ [68, 1, 11, 12, 5, 13, 25, 26, 27, 28, 29, 30, 31, 32, 7, 8, 9, 10, 14, 15, 16, 17, 18, 19, 20, 33, 34, 35, 36, 37, 38, 39, 40, 41, 42, 77, 78, 79, 80, 81, 82, 83, 84, 85, 86, 87, 88, 89, 90, 91, 92] (by decide +kernel) (by decide +kernel)
set_option maxRecDepth 20000 in
theorem gX6_digestLadder_X6_baseFor : GoodIn wsX6_digestLadder (wsV RX6 169 RX6 yX6_baseFor wsX6_baseFor) := goodIn_app (goodIn_of _ (by decide +kernel)) ggX6_digestLadder_X6_baseFor
set_option maxRecDepth 20000 in
theorem ggX6_digestLadder_X6_riskiestOf : GoodIn wsX6_digestLadder wsX6_riskiestOf := goodIn_r _ [72, 1, 11, 12, 5, 13, 14, 15, 16, 25, 26, 27, 28, 29, 30, 31, 32, 7, 8, 9, 10, 17, 18, 19, 20, 33, 34, 35, 36, 37, 38, 39, 40, 41, 42, 77, 78, 79, 80, 81, 82, 83, 84, 85, 86, 87, 88, 89, 90, 91, 92] (by decide +kernel) (by decide +kernel)
set_option maxRecDepth 20000 in
theorem gX6_digestLadder_X6_riskiestOf : GoodIn wsX6_digestLadder (wsV RX6 172 RX6 yX6_riskiestOf wsX6_riskiestOf) := goodIn_app (goodIn_of _ (by decide +kernel)) ggX6_digestLadder_X6_riskiestOf
set_option maxRecDepth 20000 in
theorem ggX6_digestLadder_X6_wallsFor : GoodIn wsX6_digestLadder wsX6_wallsFor := goodIn_r _ [76, 1, 11, 12, 5, 13, 21, 22, 23, 24, 25, 26, 27, 28, 29, 30, 31, 32, 7, 8, 9, 10, 14, 15, 16, 17, 18, 19, 20, 33, 34, 35, 36, 37, 38, 39, 40, 41, 42, 77, 78, 79, 80, 81, 82, 83, 84, 85, 86, 87, 88, 89, 90, 91, 92] (by decide +kernel) (by decide +kernel)
set_option maxRecDepth 20000 in
theorem gX6_digestLadder_X6_wallsFor : GoodIn wsX6_digestLadder (wsV RX6 175 RX6 yX6_wallsFor wsX6_wallsFor) := goodIn_app (goodIn_of _ (by decide +kernel)) ggX6_digestLadder_X6_wallsFor
theorem dX6_digestLadder_0 : decode cX6_digestLadder 0 = .ok (.iconst 0, 1) := by decide +kernel
theorem dX6_digestLadder_1 : decode cX6_digestLadder 1 = .ok (.istore_n 2, 1) := by decide +kernel
theorem dX6_digestLadder_2 : decode cX6_digestLadder 2 = .ok (.iload_n 2, 1) := by decide +kernel
theorem dX6_digestLadder_3 : decode cX6_digestLadder 3 = .ok (.bipush 11, 2) := by decide +kernel
theorem dX6_digestLadder_5 : decode cX6_digestLadder 5 = .ok (.if_icmp .ge 20, 3) := by decide +kernel
theorem dX6_digestLadder_8 : decode cX6_digestLadder 8 = .ok (.aload_n 0, 1) := by decide +kernel
theorem dX6_digestLadder_9 : decode cX6_digestLadder 9 = .ok (.aload_n 0, 1) := by decide +kernel
theorem dX6_digestLadder_10 : decode cX6_digestLadder 10 = .ok (.iload_n 1, 1) := by decide +kernel
theorem dX6_digestLadder_11 : decode cX6_digestLadder 11 = .ok (.iload_n 2, 1) := by decide +kernel
theorem dX6_digestLadder_12 : decode cX6_digestLadder 12 = .ok (.invokevirtual 145, 3) := by decide +kernel
theorem dX6_digestLadder_15 : decode cX6_digestLadder 15 = .ok (.i2l, 1) := by decide +kernel
theorem dX6_digestLadder_16 : decode cX6_digestLadder 16 = .ok (.invokevirtual 196, 3) := by decide +kernel
theorem dX6_digestLadder_19 : decode cX6_digestLadder 19 = .ok (.iinc 2 1, 3) := by decide +kernel
theorem dX6_digestLadder_22 : decode cX6_digestLadder 22 = .ok (.goto (-20), 3) := by decide +kernel
theorem dX6_digestLadder_25 : decode cX6_digestLadder 25 = .ok (.iconst 0, 1) := by decide +kernel
theorem dX6_digestLadder_26 : decode cX6_digestLadder 26 = .ok (.istore_n 2, 1) := by decide +kernel
theorem dX6_digestLadder_27 : decode cX6_digestLadder 27 = .ok (.iload_n 2, 1) := by decide +kernel
theorem dX6_digestLadder_28 : decode cX6_digestLadder 28 = .ok (.bipush 6, 2) := by decide +kernel
theorem dX6_digestLadder_30 : decode cX6_digestLadder 30 = .ok (.if_icmp .ge 20, 3) := by decide +kernel
theorem dX6_digestLadder_33 : decode cX6_digestLadder 33 = .ok (.aload_n 0, 1) := by decide +kernel
theorem dX6_digestLadder_34 : decode cX6_digestLadder 34 = .ok (.aload_n 0, 1) := by decide +kernel
theorem dX6_digestLadder_35 : decode cX6_digestLadder 35 = .ok (.iload_n 1, 1) := by decide +kernel
theorem dX6_digestLadder_36 : decode cX6_digestLadder 36 = .ok (.iload_n 2, 1) := by decide +kernel
theorem dX6_digestLadder_37 : decode cX6_digestLadder 37 = .ok (.invokevirtual 151, 3) := by decide +kernel
theorem dX6_digestLadder_40 : decode cX6_digestLadder 40 = .ok (.i2l, 1) := by decide +kernel
theorem dX6_digestLadder_41 : decode cX6_digestLadder 41 = .ok (.invokevirtual 196, 3) := by decide +kernel
theorem dX6_digestLadder_44 : decode cX6_digestLadder 44 = .ok (.iinc 2 1, 3) := by decide +kernel
theorem dX6_digestLadder_47 : decode cX6_digestLadder 47 = .ok (.goto (-20), 3) := by decide +kernel
theorem dX6_digestLadder_50 : decode cX6_digestLadder 50 = .ok (.iconst 0, 1) := by decide +kernel
theorem dX6_digestLadder_51 : decode cX6_digestLadder 51 = .ok (.istore_n 2, 1) := by decide +kernel
theorem dX6_digestLadder_52 : decode cX6_digestLadder 52 = .ok (.iload_n 2, 1) := by decide +kernel
theorem dX6_digestLadder_53 : decode cX6_digestLadder 53 = .ok (.aload_n 0, 1) := by decide +kernel
theorem dX6_digestLadder_54 : decode cX6_digestLadder 54 = .ok (.getfield 7, 3) := by decide +kernel
theorem dX6_digestLadder_57 : decode cX6_digestLadder 57 = .ok (.iload_n 1, 1) := by decide +kernel
theorem dX6_digestLadder_58 : decode cX6_digestLadder 58 = .ok (.bipush 6, 2) := by decide +kernel
theorem dX6_digestLadder_60 : decode cX6_digestLadder 60 = .ok (.invokestatic 19, 3) := by decide +kernel
theorem dX6_digestLadder_63 : decode cX6_digestLadder 63 = .ok (.iaload, 1) := by decide +kernel
theorem dX6_digestLadder_64 : decode cX6_digestLadder 64 = .ok (.if_icmp .ge 52, 3) := by decide +kernel
theorem dX6_digestLadder_67 : decode cX6_digestLadder 67 = .ok (.aload_n 0, 1) := by decide +kernel
theorem dX6_digestLadder_68 : decode cX6_digestLadder 68 = .ok (.aload_n 0, 1) := by decide +kernel
theorem dX6_digestLadder_69 : decode cX6_digestLadder 69 = .ok (.getfield 7, 3) := by decide +kernel
theorem dX6_digestLadder_72 : decode cX6_digestLadder 72 = .ok (.iload_n 1, 1) := by decide +kernel
theorem dX6_digestLadder_73 : decode cX6_digestLadder 73 = .ok (.iload_n 2, 1) := by decide +kernel
theorem dX6_digestLadder_74 : decode cX6_digestLadder 74 = .ok (.iconst 0, 1) := by decide +kernel
theorem dX6_digestLadder_75 : decode cX6_digestLadder 75 = .ok (.invokestatic 38, 3) := by decide +kernel
theorem dX6_digestLadder_78 : decode cX6_digestLadder 78 = .ok (.iaload, 1) := by decide +kernel
theorem dX6_digestLadder_79 : decode cX6_digestLadder 79 = .ok (.i2l, 1) := by decide +kernel
theorem dX6_digestLadder_80 : decode cX6_digestLadder 80 = .ok (.invokevirtual 196, 3) := by decide +kernel
theorem dX6_digestLadder_83 : decode cX6_digestLadder 83 = .ok (.aload_n 0, 1) := by decide +kernel
theorem dX6_digestLadder_84 : decode cX6_digestLadder 84 = .ok (.aload_n 0, 1) := by decide +kernel
theorem dX6_digestLadder_85 : decode cX6_digestLadder 85 = .ok (.getfield 7, 3) := by decide +kernel
theorem dX6_digestLadder_88 : decode cX6_digestLadder 88 = .ok (.iload_n 1, 1) := by decide +kernel
theorem dX6_digestLadder_89 : decode cX6_digestLadder 89 = .ok (.iload_n 2, 1) := by decide +kernel
theorem dX6_digestLadder_90 : decode cX6_digestLadder 90 = .ok (.iconst 1, 1) := by decide +kernel
theorem dX6_digestLadder_91 : decode cX6_digestLadder 91 = .ok (.invokestatic 38, 3) := by decide +kernel
theorem dX6_digestLadder_94 : decode cX6_digestLadder 94 = .ok (.iaload, 1) := by decide +kernel
theorem dX6_digestLadder_95 : decode cX6_digestLadder 95 = .ok (.i2l, 1) := by decide +kernel
theorem dX6_digestLadder_96 : decode cX6_digestLadder 96 = .ok (.invokevirtual 196, 3) := by decide +kernel
theorem dX6_digestLadder_99 : decode cX6_digestLadder 99 = .ok (.aload_n 0, 1) := by decide +kernel
theorem dX6_digestLadder_100 : decode cX6_digestLadder 100 = .ok (.aload_n 0, 1) := by decide +kernel
theorem dX6_digestLadder_101 : decode cX6_digestLadder 101 = .ok (.iload_n 1, 1) := by decide +kernel
theorem dX6_digestLadder_102 : decode cX6_digestLadder 102 = .ok (.iload_n 2, 1) := by decide +kernel
theorem dX6_digestLadder_103 : decode cX6_digestLadder 103 = .ok (.invokevirtual 163, 3) := by decide +kernel
theorem dX6_digestLadder_106 : decode cX6_digestLadder 106 = .ok (.i2l, 1) := by decide +kernel
theorem dX6_digestLadder_107 : decode cX6_digestLadder 107 = .ok (.invokevirtual 196, 3) := by decide +kernel
theorem dX6_digestLadder_110 : decode cX6_digestLadder 110 = .ok (.iinc 2 1, 3) := by decide +kernel
theorem dX6_digestLadder_113 : decode cX6_digestLadder 113 = .ok (.goto (-61), 3) := by decide +kernel
theorem dX6_digestLadder_116 : decode cX6_digestLadder 116 = .ok (.aload_n 0, 1) := by decide +kernel
theorem dX6_digestLadder_117 : decode cX6_digestLadder 117 = .ok (.aload_n 0, 1) := by decide +kernel
theorem dX6_digestLadder_118 : decode cX6_digestLadder 118 = .ok (.iload_n 1, 1) := by decide +kernel
theorem dX6_digestLadder_119 : decode cX6_digestLadder 119 = .ok (.invokevirtual 166, 3) := by decide +kernel
theorem dX6_digestLadder_122 : decode cX6_digestLadder 122 = .ok (.i2l, 1) := by decide +kernel
theorem dX6_digestLadder_123 : decode cX6_digestLadder 123 = .ok (.invokevirtual 196, 3) := by decide +kernel
theorem dX6_digestLadder_126 : decode cX6_digestLadder 126 = .ok (.aload_n 0, 1) := by decide +kernel
theorem dX6_digestLadder_127 : decode cX6_digestLadder 127 = .ok (.aload_n 0, 1) := by decide +kernel
theorem dX6_digestLadder_128 : decode cX6_digestLadder 128 = .ok (.iload_n 1, 1) := by decide +kernel
theorem dX6_digestLadder_129 : decode cX6_digestLadder 129 = .ok (.invokevirtual 169, 3) := by decide +kernel
theorem dX6_digestLadder_132 : decode cX6_digestLadder 132 = .ok (.i2l, 1) := by decide +kernel
theorem dX6_digestLadder_133 : decode cX6_digestLadder 133 = .ok (.invokevirtual 196, 3) := by decide +kernel
theorem dX6_digestLadder_136 : decode cX6_digestLadder 136 = .ok (.aload_n 0, 1) := by decide +kernel
theorem dX6_digestLadder_137 : decode cX6_digestLadder 137 = .ok (.aload_n 0, 1) := by decide +kernel
theorem dX6_digestLadder_138 : decode cX6_digestLadder 138 = .ok (.iload_n 1, 1) := by decide +kernel
theorem dX6_digestLadder_139 : decode cX6_digestLadder 139 = .ok (.invokevirtual 172, 3) := by decide +kernel
theorem dX6_digestLadder_142 : decode cX6_digestLadder 142 = .ok (.i2l, 1) := by decide +kernel
theorem dX6_digestLadder_143 : decode cX6_digestLadder 143 = .ok (.invokevirtual 196, 3) := by decide +kernel
theorem dX6_digestLadder_146 : decode cX6_digestLadder 146 = .ok (.aload_n 0, 1) := by decide +kernel
theorem dX6_digestLadder_147 : decode cX6_digestLadder 147 = .ok (.aload_n 0, 1) := by decide +kernel
theorem dX6_digestLadder_148 : decode cX6_digestLadder 148 = .ok (.iload_n 1, 1) := by decide +kernel
theorem dX6_digestLadder_149 : decode cX6_digestLadder 149 = .ok (.invokevirtual 175, 3) := by decide +kernel
theorem dX6_digestLadder_152 : decode cX6_digestLadder 152 = .ok (.i2l, 1) := by decide +kernel
theorem dX6_digestLadder_153 : decode cX6_digestLadder 153 = .ok (.invokevirtual 196, 3) := by decide +kernel
theorem dX6_digestLadder_156 : decode cX6_digestLadder 156 = .ok (.return_, 1) := by decide +kernel
set_option maxRecDepth 20000 in
theorem ggX6_digest_X6_counted : GoodIn wsX6_digest wsX6_counted := goodIn_r _ [10, 11, 12, 13, 14, 15, 9, 16, 17, 18, 19, 20, 21, 22, 23, 24, 25, 26, 27, 28, 29, 30, 31, 32, 33, 34, 35, 36, 37, 38, 39, 40, 41, 42, 43, 44, 45, 46, 47, 48, 49, 50, 51, 52, 53, 54, 55, 56, 109, 110, 111, 112, 113, 114, 115, 116, 117, 118, 119, 120, 121, 122, 123, 124] (by decide +kernel) (by decide +kernel)
set_option maxRecDepth 20000 in
theorem gX6_digest_X6_counted : GoodIn wsX6_digest (wsV RX6 160 RX6 yX6_counted wsX6_counted) := goodIn_app (goodIn_of _ (by decide +kernel)) ggX6_digest_X6_counted
set_option maxRecDepth 20000 in
theorem ggX6_digest_X6_digestOne : GoodIn wsX6_digest wsX6_digestOne := goodIn_r _ [60, 61, 3, 109, 110, 111, 112, 113, 114, 115, 116, 117, 118, 119, 120, 121, 122, 123, 124] (by decide +kernel) (by decide +kernel)
set_option maxRecDepth 20000 in
theorem gX6_digest_X6_digestOne : GoodIn wsX6_digest (wsV RX6 196 RX6 yX6_digestOne wsX6_digestOne) := goodIn_app (goodIn_of _ (by decide +kernel)) ggX6_digest_X6_digestOne
set_option maxRecDepth 20000 in
theorem ggX6_digest_X6_digestLadder : GoodIn wsX6_digest wsX6_digestLadder := goodIn_r _ [65, 11, 17, 18, 19, 9, 20, 21, 22, 23, 24, 25, 26, 27, 28, 29, 30, 31, 32, 33, 34, 35, 36, 37, 38, 39, 40, 41, 42, 43, 44, 45, 46, 47, 48, 49, 50, 51, 52, 53, 54, 55, 56, 57, 58, 59, 60, 61, 3, 66, 67, 68, 69, 70, 71, 72, 73, 74, 75, 76, 77, 78, 79, 80, 81, 82, 83, 84, 85, 86, 87, 88, 89, 90, 91, 92, 93, 109, 110, 111, 112, 113, 114, 115, 116, 117, 118, 119, 120, 121, 122, 123, 124] (by decide +kernel) (by decide +kernel)
set_option maxRecDepth 20000 in
theorem gX6_digest_X6_digestLadder : GoodIn wsX6_digest (wsV RX6 202 RX6 yX6_digestLadder wsX6_digestLadder) := goodIn_app (goodIn_of _ (by decide +kernel)) ggX6_digest_X6_digestLadder
set_option maxRecDepth 20000 in
theorem ggX6_digest_X6_lacking : GoodIn wsX6_digest wsX6_lacking := goodIn_r _ [97, 21, 22, 23, 9, 24, 11, 25, 26, 27, 28, 29, 30, 70, 71, 72, 73, 31, 32, 33, 34, 47, 48, 49, 50, 51, 52, 53, 54, 55, 56, 109, 110, 111, 112, 113, 114, 115, 116, 117, 118, 119, 120, 121, 122, 123, 124] (by decide +kernel) (by decide +kernel)
set_option maxRecDepth 20000 in
theorem gX6_digest_X6_lacking : GoodIn wsX6_digest (wsV RX6 154 RX6 yX6_lacking wsX6_lacking) := goodIn_app (goodIn_of _ (by decide +kernel)) ggX6_digest_X6_lacking
set_option maxRecDepth 20000 in
theorem ggX6_digest_X6_share : GoodIn wsX6_digest wsX6_share := goodIn_r _ [101, 11, 13, 14, 15, 9, 16, 17, 18, 19, 20, 21, 22, 23, 24, 25, 26, 27, 28, 29, 30, 31, 32, 33, 34, 35, 36, 37, 38, 39, 40, 41, 42, 43, 44, 45, 46, 47, 48, 49, 50, 51, 52, 53, 54, 55, 56, 109, 110, 111, 112, 113, 114, 115, 116, 117, 118, 119, 120, 121, 122, 123, 124] (by decide +kernel) (by decide +kernel)
set_option maxRecDepth 20000 in
theorem gX6_digest_X6_share : GoodIn wsX6_digest (wsV RX6 178 RX6 yX6_share wsX6_share) := goodIn_app (goodIn_of _ (by decide +kernel)) ggX6_digest_X6_share
set_option maxRecDepth 20000 in
theorem ggX6_digest_X6_bitsOf : GoodIn wsX6_digest wsX6_bitsOf := goodIn_r _ [104, 105, 106, 107, 108] (by decide +kernel) (by decide +kernel)
set_option maxRecDepth 20000 in
theorem gX6_digest_X6_bitsOf : GoodIn wsX6_digest (va_wsS RX6 206 yX6_bitsOf wsX6_bitsOf) := goodIn_app (goodIn_of _ (by decide +kernel)) ggX6_digest_X6_bitsOf
theorem dX6_digest_0 : decode cX6_digest 0 = .ok (.aload_n 0, 1) := by decide +kernel
theorem dX6_digest_1 : decode cX6_digest 1 = .ok (.iconst 0, 1) := by decide +kernel
theorem dX6_digest_2 : decode cX6_digest 2 = .ok (.putfield 23, 3) := by decide +kernel
theorem dX6_digest_5 : decode cX6_digest 5 = .ok (.aload_n 0, 1) := by decide +kernel
theorem dX6_digest_6 : decode cX6_digest 6 = .ok (.ldc2_w 200, 3) := by decide +kernel
theorem dX6_digest_9 : decode cX6_digest 9 = .ok (.putfield 192, 3) := by decide +kernel
theorem dX6_digest_12 : decode cX6_digest 12 = .ok (.iconst 0, 1) := by decide +kernel
theorem dX6_digest_13 : decode cX6_digest 13 = .ok (.istore_n 1, 1) := by decide +kernel
theorem dX6_digest_14 : decode cX6_digest 14 = .ok (.iload_n 1, 1) := by decide +kernel
theorem dX6_digest_15 : decode cX6_digest 15 = .ok (.bipush 6, 2) := by decide +kernel
theorem dX6_digest_17 : decode cX6_digest 17 = .ok (.if_icmp .ge 19, 3) := by decide +kernel
theorem dX6_digest_20 : decode cX6_digest 20 = .ok (.aload_n 0, 1) := by decide +kernel
theorem dX6_digest_21 : decode cX6_digest 21 = .ok (.aload_n 0, 1) := by decide +kernel
theorem dX6_digest_22 : decode cX6_digest 22 = .ok (.iload_n 1, 1) := by decide +kernel
theorem dX6_digest_23 : decode cX6_digest 23 = .ok (.invokevirtual 160, 3) := by decide +kernel
theorem dX6_digest_26 : decode cX6_digest 26 = .ok (.i2l, 1) := by decide +kernel
theorem dX6_digest_27 : decode cX6_digest 27 = .ok (.invokevirtual 196, 3) := by decide +kernel
theorem dX6_digest_30 : decode cX6_digest 30 = .ok (.iinc 1 1, 3) := by decide +kernel
theorem dX6_digest_33 : decode cX6_digest 33 = .ok (.goto (-19), 3) := by decide +kernel
theorem dX6_digest_36 : decode cX6_digest 36 = .ok (.iconst 0, 1) := by decide +kernel
theorem dX6_digest_37 : decode cX6_digest 37 = .ok (.istore_n 1, 1) := by decide +kernel
theorem dX6_digest_38 : decode cX6_digest 38 = .ok (.iload_n 1, 1) := by decide +kernel
theorem dX6_digest_39 : decode cX6_digest 39 = .ok (.iconst 4, 1) := by decide +kernel
theorem dX6_digest_40 : decode cX6_digest 40 = .ok (.if_icmp .ge 14, 3) := by decide +kernel
theorem dX6_digest_43 : decode cX6_digest 43 = .ok (.aload_n 0, 1) := by decide +kernel
theorem dX6_digest_44 : decode cX6_digest 44 = .ok (.iload_n 1, 1) := by decide +kernel
theorem dX6_digest_45 : decode cX6_digest 45 = .ok (.invokevirtual 202, 3) := by decide +kernel
theorem dX6_digest_48 : decode cX6_digest 48 = .ok (.iinc 1 1, 3) := by decide +kernel
theorem dX6_digest_51 : decode cX6_digest 51 = .ok (.goto (-13), 3) := by decide +kernel
theorem dX6_digest_54 : decode cX6_digest 54 = .ok (.aload_n 0, 1) := by decide +kernel
theorem dX6_digest_55 : decode cX6_digest 55 = .ok (.aload_n 0, 1) := by decide +kernel
theorem dX6_digest_56 : decode cX6_digest 56 = .ok (.iconst 0, 1) := by decide +kernel
theorem dX6_digest_57 : decode cX6_digest 57 = .ok (.bipush (-10), 2) := by decide +kernel
theorem dX6_digest_59 : decode cX6_digest 59 = .ok (.invokevirtual 154, 3) := by decide +kernel
theorem dX6_digest_62 : decode cX6_digest 62 = .ok (.i2l, 1) := by decide +kernel
theorem dX6_digest_63 : decode cX6_digest 63 = .ok (.invokevirtual 196, 3) := by decide +kernel
theorem dX6_digest_66 : decode cX6_digest 66 = .ok (.aload_n 0, 1) := by decide +kernel
theorem dX6_digest_67 : decode cX6_digest 67 = .ok (.aload_n 0, 1) := by decide +kernel
theorem dX6_digest_68 : decode cX6_digest 68 = .ok (.iconst 0, 1) := by decide +kernel
theorem dX6_digest_69 : decode cX6_digest 69 = .ok (.iconst 0, 1) := by decide +kernel
theorem dX6_digest_70 : decode cX6_digest 70 = .ok (.invokevirtual 154, 3) := by decide +kernel
theorem dX6_digest_73 : decode cX6_digest 73 = .ok (.i2l, 1) := by decide +kernel
theorem dX6_digest_74 : decode cX6_digest 74 = .ok (.invokevirtual 196, 3) := by decide +kernel
theorem dX6_digest_77 : decode cX6_digest 77 = .ok (.aload_n 0, 1) := by decide +kernel
theorem dX6_digest_78 : decode cX6_digest 78 = .ok (.aload_n 0, 1) := by decide +kernel
theorem dX6_digest_79 : decode cX6_digest 79 = .ok (.iconst 0, 1) := by decide +kernel
theorem dX6_digest_80 : decode cX6_digest 80 = .ok (.bipush 10, 2) := by decide +kernel
theorem dX6_digest_82 : decode cX6_digest 82 = .ok (.invokevirtual 154, 3) := by decide +kernel
theorem dX6_digest_85 : decode cX6_digest 85 = .ok (.i2l, 1) := by decide +kernel
theorem dX6_digest_86 : decode cX6_digest 86 = .ok (.invokevirtual 196, 3) := by decide +kernel
theorem dX6_digest_89 : decode cX6_digest 89 = .ok (.aload_n 0, 1) := by decide +kernel
theorem dX6_digest_90 : decode cX6_digest 90 = .ok (.aload_n 0, 1) := by decide +kernel
theorem dX6_digest_91 : decode cX6_digest 91 = .ok (.invokevirtual 178, 3) := by decide +kernel
theorem dX6_digest_94 : decode cX6_digest 94 = .ok (.invokestatic 206, 3) := by decide +kernel
theorem dX6_digest_97 : decode cX6_digest 97 = .ok (.invokevirtual 196, 3) := by decide +kernel
theorem dX6_digest_100 : decode cX6_digest 100 = .ok (.aload_n 0, 1) := by decide +kernel
theorem dX6_digest_101 : decode cX6_digest 101 = .ok (.aload_n 0, 1) := by decide +kernel
theorem dX6_digest_102 : decode cX6_digest 102 = .ok (.getfield 103, 3) := by decide +kernel
theorem dX6_digest_105 : decode cX6_digest 105 = .ok (.i2l, 1) := by decide +kernel
theorem dX6_digest_106 : decode cX6_digest 106 = .ok (.invokevirtual 196, 3) := by decide +kernel
theorem dX6_digest_109 : decode cX6_digest 109 = .ok (.iconst 0, 1) := by decide +kernel
theorem dX6_digest_110 : decode cX6_digest 110 = .ok (.istore_n 1, 1) := by decide +kernel
theorem dX6_digest_111 : decode cX6_digest 111 = .ok (.iload_n 1, 1) := by decide +kernel
theorem dX6_digest_112 : decode cX6_digest 112 = .ok (.aload_n 0, 1) := by decide +kernel
theorem dX6_digest_113 : decode cX6_digest 113 = .ok (.getfield 103, 3) := by decide +kernel
theorem dX6_digest_116 : decode cX6_digest 116 = .ok (.if_icmp .ge 20, 3) := by decide +kernel
theorem dX6_digest_119 : decode cX6_digest 119 = .ok (.aload_n 0, 1) := by decide +kernel
theorem dX6_digest_120 : decode cX6_digest 120 = .ok (.aload_n 0, 1) := by decide +kernel
theorem dX6_digest_121 : decode cX6_digest 121 = .ok (.getfield 16, 3) := by decide +kernel
theorem dX6_digest_124 : decode cX6_digest 124 = .ok (.iload_n 1, 1) := by decide +kernel
theorem dX6_digest_125 : decode cX6_digest 125 = .ok (.iaload, 1) := by decide +kernel
theorem dX6_digest_126 : decode cX6_digest 126 = .ok (.i2l, 1) := by decide +kernel
theorem dX6_digest_127 : decode cX6_digest 127 = .ok (.invokevirtual 196, 3) := by decide +kernel
theorem dX6_digest_130 : decode cX6_digest 130 = .ok (.iinc 1 1, 3) := by decide +kernel
theorem dX6_digest_133 : decode cX6_digest 133 = .ok (.goto (-22), 3) := by decide +kernel
theorem dX6_digest_136 : decode cX6_digest 136 = .ok (.aload_n 0, 1) := by decide +kernel
theorem dX6_digest_137 : decode cX6_digest 137 = .ok (.getfield 192, 3) := by decide +kernel
theorem dX6_digest_140 : decode cX6_digest 140 = .ok (.lreturn, 1) := by decide +kernel
