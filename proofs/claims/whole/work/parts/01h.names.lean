theorem dX6_put_109 : decode cX6_put 109 = .ok (.aload_n 0, 1) := by decide +kernel
theorem dX6_put_110 : decode cX6_put 110 = .ok (.iload_n 1, 1) := by decide +kernel
theorem dX6_put_111 : decode cX6_put 111 = .ok (.invokevirtual 83, 3) := by decide +kernel
theorem dX6_put_114 : decode cX6_put 114 = .ok (.ifCond .eq 7, 3) := by decide +kernel
theorem dX6_put_117 : decode cX6_put 117 = .ok (.iconst 1, 1) := by decide +kernel
theorem dX6_put_118 : decode cX6_put 118 = .ok (.goto 4, 3) := by decide +kernel
theorem dX6_put_121 : decode cX6_put 121 = .ok (.iconst 0, 1) := by decide +kernel
theorem dX6_put_122 : decode cX6_put 122 = .ok (.ireturn, 1) := by decide +kernel
set_option maxRecDepth 20000 in
theorem ggX6_kinds_X6_isLadder : GoodIn wsX6_kinds wsX6_isLadder := goodIn_r _ [5, 6, 7, 4, 8] (by decide +kernel) (by decide +kernel)
set_option maxRecDepth 20000 in
theorem gX6_kinds_X6_isLadder : GoodIn wsX6_kinds (va_wsS RX6 31 yX6_isLadder wsX6_isLadder) := goodIn_app (goodIn_of _ (by decide +kernel)) ggX6_kinds_X6_isLadder
set_option maxRecDepth 20000 in
theorem ggX6_kinds_X6_in : GoodIn wsX6_kinds wsX6_in := goodIn_r _ [8] (by decide +kernel) (by decide +kernel)
set_option maxRecDepth 20000 in
theorem gX6_kinds_X6_in : GoodIn wsX6_kinds (va_wsS RX6 27 yX6_in wsX6_in) := goodIn_app (goodIn_of _ (by decide +kernel)) ggX6_kinds_X6_in
set_option maxRecDepth 20000 in
theorem ggX6_kinds_X6_holds : GoodIn wsX6_kinds wsX6_holds := goodIn_r _ [12, 13, 60, 61, 62, 63, 64, 65, 66, 67, 68, 69, 70, 71, 72, 73, 74, 75] (by decide +kernel) (by decide +kernel)
set_option maxRecDepth 20000 in
theorem gX6_kinds_X6_holds : GoodIn wsX6_kinds (wsV RX6 77 RX6 yX6_holds wsX6_holds) := goodIn_app (goodIn_of _ (by decide +kernel)) ggX6_kinds_X6_holds
set_option maxRecDepth 20000 in
theorem ggX6_kinds_X6_save : GoodIn wsX6_kinds wsX6_save := goodIn_r _ [17, 18, 19, 1, 60, 61, 62, 63, 64, 65, 66, 67, 68, 69, 70, 71, 72, 73, 74, 75] (by decide +kernel) (by decide +kernel)
set_option maxRecDepth 20000 in
theorem gX6_kinds_X6_save : GoodIn wsX6_kinds (wsV RX6 80 RX6 yX6_save wsX6_save) := goodIn_app (goodIn_of _ (by decide +kernel)) ggX6_kinds_X6_save
set_option maxRecDepth 20000 in
theorem ggX6_kinds_X6_of : GoodIn wsX6_kinds wsX6_of := goodIn_r _ [22] (by decide +kernel) (by decide +kernel)
set_option maxRecDepth 20000 in
theorem gX6_kinds_X6_of : GoodIn wsX6_kinds (va_wsS RX6 19 yX6_of wsX6_of) := goodIn_app (goodIn_of _ (by decide +kernel)) ggX6_kinds_X6_of
set_option maxRecDepth 20000 in
theorem ggX6_kinds_X6_falls : GoodIn wsX6_kinds wsX6_falls := goodIn_r _ [26, 1, 20, 21, 4, 22, 27, 28, 29, 30, 31, 32, 33, 34, 35, 36, 37, 38, 39, 40, 41, 42, 43, 44, 45, 46, 47, 48, 49, 50, 51, 52, 53, 54, 55, 56, 57, 58, 59, 60, 61, 62, 63, 64, 65, 66, 67, 68, 69, 70, 71, 72, 73, 74, 75] (by decide +kernel) (by decide +kernel)
set_option maxRecDepth 20000 in
theorem gX6_kinds_X6_falls : GoodIn wsX6_kinds (wsV RX6 83 RX6 yX6_falls wsX6_falls) := goodIn_app (goodIn_of _ (by decide +kernel)) ggX6_kinds_X6_falls
theorem dX6_kinds_0 : decode cX6_kinds 0 = .ok (.aload_n 0, 1) := by decide +kernel
theorem dX6_kinds_1 : decode cX6_kinds 1 = .ok (.iload_n 1, 1) := by decide +kernel
theorem dX6_kinds_2 : decode cX6_kinds 2 = .ok (.invokestatic 31, 3) := by decide +kernel
theorem dX6_kinds_5 : decode cX6_kinds 5 = .ok (.ifCond .ne 7, 3) := by decide +kernel
theorem dX6_kinds_8 : decode cX6_kinds 8 = .ok (.iconst 1, 1) := by decide +kernel
theorem dX6_kinds_9 : decode cX6_kinds 9 = .ok (.goto 26, 3) := by decide +kernel
theorem dX6_kinds_12 : decode cX6_kinds 12 = .ok (.iload_n 2, 1) := by decide +kernel
theorem dX6_kinds_13 : decode cX6_kinds 13 = .ok (.iconst 0, 1) := by decide +kernel
theorem dX6_kinds_14 : decode cX6_kinds 14 = .ok (.iconst 3, 1) := by decide +kernel
theorem dX6_kinds_15 : decode cX6_kinds 15 = .ok (.invokestatic 27, 3) := by decide +kernel
theorem dX6_kinds_18 : decode cX6_kinds 18 = .ok (.ifCond .eq 16, 3) := by decide +kernel
theorem dX6_kinds_21 : decode cX6_kinds 21 = .ok (.iload_n 3, 1) := by decide +kernel
theorem dX6_kinds_22 : decode cX6_kinds 22 = .ok (.iconst 0, 1) := by decide +kernel
theorem dX6_kinds_23 : decode cX6_kinds 23 = .ok (.iconst 3, 1) := by decide +kernel
theorem dX6_kinds_24 : decode cX6_kinds 24 = .ok (.invokestatic 27, 3) := by decide +kernel
theorem dX6_kinds_27 : decode cX6_kinds 27 = .ok (.ifCond .eq 7, 3) := by decide +kernel
theorem dX6_kinds_30 : decode cX6_kinds 30 = .ok (.iconst 0, 1) := by decide +kernel
theorem dX6_kinds_31 : decode cX6_kinds 31 = .ok (.goto 4, 3) := by decide +kernel
theorem dX6_kinds_34 : decode cX6_kinds 34 = .ok (.iconst 2, 1) := by decide +kernel
theorem dX6_kinds_35 : decode cX6_kinds 35 = .ok (.invokevirtual 77, 3) := by decide +kernel
theorem dX6_kinds_38 : decode cX6_kinds 38 = .ok (.ifCond .ne 5, 3) := by decide +kernel
theorem dX6_kinds_41 : decode cX6_kinds 41 = .ok (.iconst 0, 1) := by decide +kernel
theorem dX6_kinds_42 : decode cX6_kinds 42 = .ok (.ireturn, 1) := by decide +kernel
theorem dX6_kinds_43 : decode cX6_kinds 43 = .ok (.aload_n 0, 1) := by decide +kernel
theorem dX6_kinds_44 : decode cX6_kinds 44 = .ok (.invokevirtual 80, 3) := by decide +kernel
theorem dX6_kinds_47 : decode cX6_kinds 47 = .ok (.aload_n 0, 1) := by decide +kernel
theorem dX6_kinds_48 : decode cX6_kinds 48 = .ok (.getfield 7, 3) := by decide +kernel
theorem dX6_kinds_51 : decode cX6_kinds 51 = .ok (.iload_n 1, 1) := by decide +kernel
theorem dX6_kinds_52 : decode cX6_kinds 52 = .ok (.iconst 3, 1) := by decide +kernel
theorem dX6_kinds_53 : decode cX6_kinds 53 = .ok (.invokestatic 19, 3) := by decide +kernel
theorem dX6_kinds_56 : decode cX6_kinds 56 = .ok (.iload_n 2, 1) := by decide +kernel
theorem dX6_kinds_57 : decode cX6_kinds 57 = .ok (.iastore, 1) := by decide +kernel
theorem dX6_kinds_58 : decode cX6_kinds 58 = .ok (.aload_n 0, 1) := by decide +kernel
theorem dX6_kinds_59 : decode cX6_kinds 59 = .ok (.getfield 7, 3) := by decide +kernel
theorem dX6_kinds_62 : decode cX6_kinds 62 = .ok (.iload_n 1, 1) := by decide +kernel
theorem dX6_kinds_63 : decode cX6_kinds 63 = .ok (.iconst 4, 1) := by decide +kernel
theorem dX6_kinds_64 : decode cX6_kinds 64 = .ok (.invokestatic 19, 3) := by decide +kernel
theorem dX6_kinds_67 : decode cX6_kinds 67 = .ok (.iload_n 3, 1) := by decide +kernel
theorem dX6_kinds_68 : decode cX6_kinds 68 = .ok (.iastore, 1) := by decide +kernel
theorem dX6_kinds_69 : decode cX6_kinds 69 = .ok (.aload_n 0, 1) := by decide +kernel
theorem dX6_kinds_70 : decode cX6_kinds 70 = .ok (.iload_n 1, 1) := by decide +kernel
theorem dX6_kinds_71 : decode cX6_kinds 71 = .ok (.invokevirtual 83, 3) := by decide +kernel
theorem dX6_kinds_74 : decode cX6_kinds 74 = .ok (.ifCond .eq 7, 3) := by decide +kernel
theorem dX6_kinds_77 : decode cX6_kinds 77 = .ok (.iconst 1, 1) := by decide +kernel
theorem dX6_kinds_78 : decode cX6_kinds 78 = .ok (.goto 4, 3) := by decide +kernel
theorem dX6_kinds_81 : decode cX6_kinds 81 = .ok (.iconst 0, 1) := by decide +kernel
theorem dX6_kinds_82 : decode cX6_kinds 82 = .ok (.ireturn, 1) := by decide +kernel
set_option maxRecDepth 20000 in
theorem ggX6_rope_X6_isLadder : GoodIn wsX6_rope wsX6_isLadder := goodIn_r _ [5, 6, 7, 4, 8] (by decide +kernel) (by decide +kernel)
set_option maxRecDepth 20000 in
theorem gX6_rope_X6_isLadder : GoodIn wsX6_rope (va_wsS RX6 31 yX6_isLadder wsX6_isLadder) := goodIn_app (goodIn_of _ (by decide +kernel)) ggX6_rope_X6_isLadder
set_option maxRecDepth 20000 in
theorem ggX6_rope_X6_in : GoodIn wsX6_rope wsX6_in := goodIn_r _ [8] (by decide +kernel) (by decide +kernel)
set_option maxRecDepth 20000 in
theorem gX6_rope_X6_in : GoodIn wsX6_rope (va_wsS RX6 27 yX6_in wsX6_in) := goodIn_app (goodIn_of _ (by decide +kernel)) ggX6_rope_X6_in
set_option maxRecDepth 20000 in
theorem ggX6_rope_X6_holds : GoodIn wsX6_rope wsX6_holds := goodIn_r _ [12, 13, 60, 61, 62, 63, 64, 65, 66, 67, 68, 69, 70, 71, 72, 73, 74, 75] (by decide +kernel) (by decide +kernel)
set_option maxRecDepth 20000 in
theorem gX6_rope_X6_holds : GoodIn wsX6_rope (wsV RX6 77 RX6 yX6_holds wsX6_holds) := goodIn_app (goodIn_of _ (by decide +kernel)) ggX6_rope_X6_holds
set_option maxRecDepth 20000 in
theorem ggX6_rope_X6_save : GoodIn wsX6_rope wsX6_save := goodIn_r _ [17, 18, 19, 1, 60, 61, 62, 63, 64, 65, 66, 67, 68, 69, 70, 71, 72, 73, 74, 75] (by decide +kernel) (by decide +kernel)
set_option maxRecDepth 20000 in
theorem gX6_rope_X6_save : GoodIn wsX6_rope (wsV RX6 80 RX6 yX6_save wsX6_save) := goodIn_app (goodIn_of _ (by decide +kernel)) ggX6_rope_X6_save
set_option maxRecDepth 20000 in
theorem ggX6_rope_X6_of : GoodIn wsX6_rope wsX6_of := goodIn_r _ [22] (by decide +kernel) (by decide +kernel)
set_option maxRecDepth 20000 in
theorem gX6_rope_X6_of : GoodIn wsX6_rope (va_wsS RX6 19 yX6_of wsX6_of) := goodIn_app (goodIn_of _ (by decide +kernel)) ggX6_rope_X6_of
set_option maxRecDepth 20000 in
theorem ggX6_rope_X6_falls : GoodIn wsX6_rope wsX6_falls := goodIn_r _ [26, 1, 20, 21, 4, 22, 27, 28, 29, 30, 31, 32, 33, 34, 35, 36, 37, 38, 39, 40, 41, 42, 43, 44, 45, 46, 47, 48, 49, 50, 51, 52, 53, 54, 55, 56, 57, 58, 59, 60, 61, 62, 63, 64, 65, 66, 67, 68, 69, 70, 71, 72, 73, 74, 75] (by decide +kernel) (by decide +kernel)
set_option maxRecDepth 20000 in
theorem gX6_rope_X6_falls : GoodIn wsX6_rope (wsV RX6 83 RX6 yX6_falls wsX6_falls) := goodIn_app (goodIn_of _ (by decide +kernel)) ggX6_rope_X6_falls
theorem dX6_rope_0 : decode cX6_rope 0 = .ok (.aload_n 0, 1) := by decide +kernel
theorem dX6_rope_1 : decode cX6_rope 1 = .ok (.iload_n 1, 1) := by decide +kernel
theorem dX6_rope_2 : decode cX6_rope 2 = .ok (.invokestatic 31, 3) := by decide +kernel
theorem dX6_rope_5 : decode cX6_rope 5 = .ok (.ifCond .ne 7, 3) := by decide +kernel
theorem dX6_rope_8 : decode cX6_rope 8 = .ok (.iconst 1, 1) := by decide +kernel
theorem dX6_rope_9 : decode cX6_rope 9 = .ok (.goto 19, 3) := by decide +kernel
theorem dX6_rope_12 : decode cX6_rope 12 = .ok (.iload_n 2, 1) := by decide +kernel
theorem dX6_rope_13 : decode cX6_rope 13 = .ok (.iconst 0, 1) := by decide +kernel
theorem dX6_rope_14 : decode cX6_rope 14 = .ok (.sipush 200, 3) := by decide +kernel
theorem dX6_rope_17 : decode cX6_rope 17 = .ok (.invokestatic 27, 3) := by decide +kernel
theorem dX6_rope_20 : decode cX6_rope 20 = .ok (.ifCond .eq 7, 3) := by decide +kernel
theorem dX6_rope_23 : decode cX6_rope 23 = .ok (.iconst 0, 1) := by decide +kernel
theorem dX6_rope_24 : decode cX6_rope 24 = .ok (.goto 4, 3) := by decide +kernel
theorem dX6_rope_27 : decode cX6_rope 27 = .ok (.iconst 2, 1) := by decide +kernel
theorem dX6_rope_28 : decode cX6_rope 28 = .ok (.invokevirtual 77, 3) := by decide +kernel
theorem dX6_rope_31 : decode cX6_rope 31 = .ok (.ifCond .ne 5, 3) := by decide +kernel
theorem dX6_rope_34 : decode cX6_rope 34 = .ok (.iconst 0, 1) := by decide +kernel
theorem dX6_rope_35 : decode cX6_rope 35 = .ok (.ireturn, 1) := by decide +kernel
theorem dX6_rope_36 : decode cX6_rope 36 = .ok (.aload_n 0, 1) := by decide +kernel
theorem dX6_rope_37 : decode cX6_rope 37 = .ok (.invokevirtual 80, 3) := by decide +kernel
theorem dX6_rope_40 : decode cX6_rope 40 = .ok (.aload_n 0, 1) := by decide +kernel
theorem dX6_rope_41 : decode cX6_rope 41 = .ok (.getfield 7, 3) := by decide +kernel
theorem dX6_rope_44 : decode cX6_rope 44 = .ok (.iload_n 1, 1) := by decide +kernel
theorem dX6_rope_45 : decode cX6_rope 45 = .ok (.iconst 5, 1) := by decide +kernel
theorem dX6_rope_46 : decode cX6_rope 46 = .ok (.invokestatic 19, 3) := by decide +kernel
theorem dX6_rope_49 : decode cX6_rope 49 = .ok (.iload_n 2, 1) := by decide +kernel
theorem dX6_rope_50 : decode cX6_rope 50 = .ok (.iastore, 1) := by decide +kernel
theorem dX6_rope_51 : decode cX6_rope 51 = .ok (.aload_n 0, 1) := by decide +kernel
theorem dX6_rope_52 : decode cX6_rope 52 = .ok (.iload_n 1, 1) := by decide +kernel
theorem dX6_rope_53 : decode cX6_rope 53 = .ok (.invokevirtual 83, 3) := by decide +kernel
theorem dX6_rope_56 : decode cX6_rope 56 = .ok (.ifCond .eq 7, 3) := by decide +kernel
theorem dX6_rope_59 : decode cX6_rope 59 = .ok (.iconst 1, 1) := by decide +kernel
theorem dX6_rope_60 : decode cX6_rope 60 = .ok (.goto 4, 3) := by decide +kernel
theorem dX6_rope_63 : decode cX6_rope 63 = .ok (.iconst 0, 1) := by decide +kernel
theorem dX6_rope_64 : decode cX6_rope 64 = .ok (.ireturn, 1) := by decide +kernel
set_option maxRecDepth 20000 in
theorem ggX6_comes_X6_of : GoodIn wsX6_comes wsX6_of := goodIn_r _ [5] (by decide +kernel) (by decide +kernel)
set_option maxRecDepth 20000 in
theorem gX6_comes_X6_of : GoodIn wsX6_comes (va_wsS RX6 19 yX6_of wsX6_of) := goodIn_app (goodIn_of _ (by decide +kernel)) ggX6_comes_X6_of
set_option maxRecDepth 20000 in
theorem ggX6_comes_X6_ofPerson : GoodIn wsX6_comes wsX6_ofPerson := goodIn_r _ [8] (by decide +kernel) (by decide +kernel)
set_option maxRecDepth 20000 in
theorem gX6_comes_X6_ofPerson : GoodIn wsX6_comes (va_wsS RX6 38 yX6_ofPerson wsX6_ofPerson) := goodIn_app (goodIn_of _ (by decide +kernel)) ggX6_comes_X6_ofPerson
set_option maxRecDepth 20000 in
theorem ggX6_comes_X6_falls : GoodIn wsX6_comes wsX6_falls := goodIn_r _ [12, 1, 2, 3, 4, 5, 13, 14, 15, 16, 17, 18, 19, 20, 21, 22, 23, 24, 25, 26, 27, 28, 6, 7, 8, 29, 30, 31, 32, 33, 34, 35, 36, 37, 38, 39, 40, 41, 42, 43, 44, 45, 46, 47, 48, 49, 50, 51, 52, 53, 54, 55, 56, 57, 58] (by decide +kernel) (by decide +kernel)
set_option maxRecDepth 20000 in
theorem gX6_comes_X6_falls : GoodIn wsX6_comes (wsV RX6 83 RX6 yX6_falls wsX6_falls) := goodIn_app (goodIn_of _ (by decide +kernel)) ggX6_comes_X6_falls
theorem dX6_comes_0 : decode cX6_comes 0 = .ok (.aload_n 0, 1) := by decide +kernel
theorem dX6_comes_1 : decode cX6_comes 1 = .ok (.getfield 7, 3) := by decide +kernel
theorem dX6_comes_4 : decode cX6_comes 4 = .ok (.iload_n 1, 1) := by decide +kernel
theorem dX6_comes_5 : decode cX6_comes 5 = .ok (.bipush 6, 2) := by decide +kernel
theorem dX6_comes_7 : decode cX6_comes 7 = .ok (.invokestatic 19, 3) := by decide +kernel
theorem dX6_comes_10 : decode cX6_comes 10 = .ok (.iaload, 1) := by decide +kernel
theorem dX6_comes_11 : decode cX6_comes 11 = .ok (.istore_n 3, 1) := by decide +kernel
theorem dX6_comes_12 : decode cX6_comes 12 = .ok (.aload_n 0, 1) := by decide +kernel
theorem dX6_comes_13 : decode cX6_comes 13 = .ok (.getfield 7, 3) := by decide +kernel
theorem dX6_comes_16 : decode cX6_comes 16 = .ok (.iload_n 1, 1) := by decide +kernel
theorem dX6_comes_17 : decode cX6_comes 17 = .ok (.iload_n 3, 1) := by decide +kernel
theorem dX6_comes_18 : decode cX6_comes 18 = .ok (.iconst 0, 1) := by decide +kernel
theorem dX6_comes_19 : decode cX6_comes 19 = .ok (.invokestatic 38, 3) := by decide +kernel
theorem dX6_comes_22 : decode cX6_comes 22 = .ok (.iload_n 2, 1) := by decide +kernel
theorem dX6_comes_23 : decode cX6_comes 23 = .ok (.iastore, 1) := by decide +kernel
theorem dX6_comes_24 : decode cX6_comes 24 = .ok (.aload_n 0, 1) := by decide +kernel
theorem dX6_comes_25 : decode cX6_comes 25 = .ok (.getfield 7, 3) := by decide +kernel
theorem dX6_comes_28 : decode cX6_comes 28 = .ok (.iload_n 1, 1) := by decide +kernel
theorem dX6_comes_29 : decode cX6_comes 29 = .ok (.iload_n 3, 1) := by decide +kernel
theorem dX6_comes_30 : decode cX6_comes 30 = .ok (.iconst 1, 1) := by decide +kernel
theorem dX6_comes_31 : decode cX6_comes 31 = .ok (.invokestatic 38, 3) := by decide +kernel
theorem dX6_comes_34 : decode cX6_comes 34 = .ok (.iconst 0, 1) := by decide +kernel
theorem dX6_comes_35 : decode cX6_comes 35 = .ok (.iastore, 1) := by decide +kernel
theorem dX6_comes_36 : decode cX6_comes 36 = .ok (.aload_n 0, 1) := by decide +kernel
theorem dX6_comes_37 : decode cX6_comes 37 = .ok (.getfield 7, 3) := by decide +kernel
theorem dX6_comes_40 : decode cX6_comes 40 = .ok (.iload_n 1, 1) := by decide +kernel
theorem dX6_comes_41 : decode cX6_comes 41 = .ok (.bipush 6, 2) := by decide +kernel
theorem dX6_comes_43 : decode cX6_comes 43 = .ok (.invokestatic 19, 3) := by decide +kernel
theorem dX6_comes_46 : decode cX6_comes 46 = .ok (.dup2, 1) := by decide +kernel
theorem dX6_comes_47 : decode cX6_comes 47 = .ok (.iaload, 1) := by decide +kernel
theorem dX6_comes_48 : decode cX6_comes 48 = .ok (.iconst 1, 1) := by decide +kernel
theorem dX6_comes_49 : decode cX6_comes 49 = .ok (.iadd, 1) := by decide +kernel
theorem dX6_comes_50 : decode cX6_comes 50 = .ok (.iastore, 1) := by decide +kernel
theorem dX6_comes_51 : decode cX6_comes 51 = .ok (.aload_n 0, 1) := by decide +kernel
theorem dX6_comes_52 : decode cX6_comes 52 = .ok (.iload_n 1, 1) := by decide +kernel
theorem dX6_comes_53 : decode cX6_comes 53 = .ok (.invokevirtual 83, 3) := by decide +kernel
theorem dX6_comes_56 : decode cX6_comes 56 = .ok (.ifCond .eq 7, 3) := by decide +kernel
theorem dX6_comes_59 : decode cX6_comes 59 = .ok (.iconst 0, 1) := by decide +kernel
theorem dX6_comes_60 : decode cX6_comes 60 = .ok (.goto 14, 3) := by decide +kernel
theorem dX6_comes_63 : decode cX6_comes 63 = .ok (.aload_n 0, 1) := by decide +kernel
theorem dX6_comes_64 : decode cX6_comes 64 = .ok (.getfield 7, 3) := by decide +kernel
theorem dX6_comes_67 : decode cX6_comes 67 = .ok (.iload_n 1, 1) := by decide +kernel
theorem dX6_comes_68 : decode cX6_comes 68 = .ok (.bipush 6, 2) := by decide +kernel
theorem dX6_comes_70 : decode cX6_comes 70 = .ok (.invokestatic 19, 3) := by decide +kernel
theorem dX6_comes_73 : decode cX6_comes 73 = .ok (.iaload, 1) := by decide +kernel
theorem dX6_comes_74 : decode cX6_comes 74 = .ok (.ireturn, 1) := by decide +kernel
set_option maxRecDepth 20000 in
theorem ggX6_on_X6_isLadder : GoodIn wsX6_on wsX6_isLadder := goodIn_r _ [5, 6, 7, 4, 8] (by decide +kernel) (by decide +kernel)
set_option maxRecDepth 20000 in
theorem gX6_on_X6_isLadder : GoodIn wsX6_on (va_wsS RX6 31 yX6_isLadder wsX6_isLadder) := goodIn_app (goodIn_of _ (by decide +kernel)) ggX6_on_X6_isLadder
set_option maxRecDepth 20000 in
theorem ggX6_on_X6_in : GoodIn wsX6_on wsX6_in := goodIn_r _ [8] (by decide +kernel) (by decide +kernel)
set_option maxRecDepth 20000 in
theorem gX6_on_X6_in : GoodIn wsX6_on (va_wsS RX6 27 yX6_in wsX6_in) := goodIn_app (goodIn_of _ (by decide +kernel)) ggX6_on_X6_in
set_option maxRecDepth 20000 in
theorem ggX6_on_X6_of : GoodIn wsX6_on wsX6_of := goodIn_r _ [11] (by decide +kernel) (by decide +kernel)
set_option maxRecDepth 20000 in
theorem gX6_on_X6_of : GoodIn wsX6_on (va_wsS RX6 19 yX6_of wsX6_of) := goodIn_app (goodIn_of _ (by decide +kernel)) ggX6_on_X6_of
set_option maxRecDepth 20000 in
theorem ggX6_on_X6_holds : GoodIn wsX6_on wsX6_holds := goodIn_r _ [15, 16, 64, 65, 66, 67, 68, 69, 70, 71, 72, 73, 74, 75, 76, 77, 78, 79] (by decide +kernel) (by decide +kernel)
set_option maxRecDepth 20000 in
theorem gX6_on_X6_holds : GoodIn wsX6_on (wsV RX6 77 RX6 yX6_holds wsX6_holds) := goodIn_app (goodIn_of _ (by decide +kernel)) ggX6_on_X6_holds
set_option maxRecDepth 20000 in
theorem ggX6_on_X6_save : GoodIn wsX6_on wsX6_save := goodIn_r _ [20, 21, 22, 1, 64, 65, 66, 67, 68, 69, 70, 71, 72, 73, 74, 75, 76, 77, 78, 79] (by decide +kernel) (by decide +kernel)
set_option maxRecDepth 20000 in
theorem gX6_on_X6_save : GoodIn wsX6_on (wsV RX6 80 RX6 yX6_save wsX6_save) := goodIn_app (goodIn_of _ (by decide +kernel)) ggX6_on_X6_save
set_option maxRecDepth 20000 in
theorem ggX6_on_X6_comes : GoodIn wsX6_on wsX6_comes := goodIn_r _ [26, 1, 9, 10, 4, 11, 27, 28, 29, 30, 31, 32, 33, 34, 35, 36, 37, 38, 39, 40, 41, 42, 43, 44, 45, 46, 47, 48, 49, 50, 51, 52, 53, 54, 55, 56, 57, 58, 59, 60, 61, 62, 63, 64, 65, 66, 67, 68, 69, 70, 71, 72, 73, 74, 75, 76, 77, 78, 79] (by decide +kernel) (by decide +kernel)
set_option maxRecDepth 20000 in
theorem gX6_on_X6_comes : GoodIn wsX6_on (wsV RX6 86 RX6 yX6_comes wsX6_comes) := goodIn_app (goodIn_of _ (by decide +kernel)) ggX6_on_X6_comes
theorem dX6_on_0 : decode cX6_on 0 = .ok (.aload_n 0, 1) := by decide +kernel
theorem dX6_on_1 : decode cX6_on 1 = .ok (.iload_n 1, 1) := by decide +kernel
theorem dX6_on_2 : decode cX6_on 2 = .ok (.invokestatic 31, 3) := by decide +kernel
theorem dX6_on_5 : decode cX6_on 5 = .ok (.ifCond .ne 7, 3) := by decide +kernel
theorem dX6_on_8 : decode cX6_on 8 = .ok (.iconst 1, 1) := by decide +kernel
theorem dX6_on_9 : decode cX6_on 9 = .ok (.goto 39, 3) := by decide +kernel
theorem dX6_on_12 : decode cX6_on 12 = .ok (.iload_n 2, 1) := by decide +kernel
theorem dX6_on_13 : decode cX6_on 13 = .ok (.bipush 20, 2) := by decide +kernel
theorem dX6_on_15 : decode cX6_on 15 = .ok (.sipush 150, 3) := by decide +kernel
theorem dX6_on_18 : decode cX6_on 18 = .ok (.invokestatic 27, 3) := by decide +kernel
theorem dX6_on_21 : decode cX6_on 21 = .ok (.ifCond .ne 7, 3) := by decide +kernel
theorem dX6_on_24 : decode cX6_on 24 = .ok (.iconst 2, 1) := by decide +kernel
theorem dX6_on_25 : decode cX6_on 25 = .ok (.goto 23, 3) := by decide +kernel
theorem dX6_on_28 : decode cX6_on 28 = .ok (.aload_n 0, 1) := by decide +kernel
theorem dX6_on_29 : decode cX6_on 29 = .ok (.getfield 7, 3) := by decide +kernel
theorem dX6_on_32 : decode cX6_on 32 = .ok (.iload_n 1, 1) := by decide +kernel
theorem dX6_on_33 : decode cX6_on 33 = .ok (.bipush 6, 2) := by decide +kernel
theorem dX6_on_35 : decode cX6_on 35 = .ok (.invokestatic 19, 3) := by decide +kernel
theorem dX6_on_38 : decode cX6_on 38 = .ok (.iaload, 1) := by decide +kernel
theorem dX6_on_39 : decode cX6_on 39 = .ok (.iconst 3, 1) := by decide +kernel
theorem dX6_on_40 : decode cX6_on 40 = .ok (.if_icmp .ne 7, 3) := by decide +kernel
theorem dX6_on_43 : decode cX6_on 43 = .ok (.iconst 3, 1) := by decide +kernel
theorem dX6_on_44 : decode cX6_on 44 = .ok (.goto 4, 3) := by decide +kernel
theorem dX6_on_47 : decode cX6_on 47 = .ok (.iconst 0, 1) := by decide +kernel
theorem dX6_on_48 : decode cX6_on 48 = .ok (.invokevirtual 77, 3) := by decide +kernel
theorem dX6_on_51 : decode cX6_on 51 = .ok (.ifCond .ne 5, 3) := by decide +kernel
theorem dX6_on_54 : decode cX6_on 54 = .ok (.iconst 0, 1) := by decide +kernel
theorem dX6_on_55 : decode cX6_on 55 = .ok (.ireturn, 1) := by decide +kernel
theorem dX6_on_56 : decode cX6_on 56 = .ok (.aload_n 0, 1) := by decide +kernel
theorem dX6_on_57 : decode cX6_on 57 = .ok (.invokevirtual 80, 3) := by decide +kernel
theorem dX6_on_60 : decode cX6_on 60 = .ok (.aload_n 0, 1) := by decide +kernel
theorem dX6_on_61 : decode cX6_on 61 = .ok (.iload_n 1, 1) := by decide +kernel
theorem dX6_on_62 : decode cX6_on 62 = .ok (.iload_n 2, 1) := by decide +kernel
theorem dX6_on_63 : decode cX6_on 63 = .ok (.invokevirtual 86, 3) := by decide +kernel
theorem dX6_on_66 : decode cX6_on 66 = .ok (.ireturn, 1) := by decide +kernel
set_option maxRecDepth 20000 in
theorem ggX6_takesOff_X6_ofPerson : GoodIn wsX6_takesOff wsX6_ofPerson := goodIn_r _ [5] (by decide +kernel) (by decide +kernel)
set_option maxRecDepth 20000 in
theorem gX6_takesOff_X6_ofPerson : GoodIn wsX6_takesOff (va_wsS RX6 38 yX6_ofPerson wsX6_ofPerson) := goodIn_app (goodIn_of _ (by decide +kernel)) ggX6_takesOff_X6_ofPerson
set_option maxRecDepth 20000 in
theorem ggX6_takesOff_X6_of : GoodIn wsX6_takesOff wsX6_of := goodIn_r _ [8] (by decide +kernel) (by decide +kernel)
set_option maxRecDepth 20000 in
theorem gX6_takesOff_X6_of : GoodIn wsX6_takesOff (va_wsS RX6 19 yX6_of wsX6_of) := goodIn_app (goodIn_of _ (by decide +kernel)) ggX6_takesOff_X6_of
theorem dX6_takesOff_0 : decode cX6_takesOff 0 = .ok (.iload_n 1, 1) := by decide +kernel
theorem dX6_takesOff_1 : decode cX6_takesOff 1 = .ok (.iload_n 2, 1) := by decide +kernel
theorem dX6_takesOff_2 : decode cX6_takesOff 2 = .ok (.iconst 0, 1) := by decide +kernel
theorem dX6_takesOff_3 : decode cX6_takesOff 3 = .ok (.invokestatic 38, 3) := by decide +kernel
theorem dX6_takesOff_6 : decode cX6_takesOff 6 = .ok (.istore_n 3, 1) := by decide +kernel
theorem dX6_takesOff_7 : decode cX6_takesOff 7 = .ok (.iload_n 3, 1) := by decide +kernel
theorem dX6_takesOff_8 : decode cX6_takesOff 8 = .ok (.iload_n 1, 1) := by decide +kernel
theorem dX6_takesOff_9 : decode cX6_takesOff 9 = .ok (.iconst 2, 1) := by decide +kernel
theorem dX6_takesOff_10 : decode cX6_takesOff 10 = .ok (.iconst 0, 1) := by decide +kernel
theorem dX6_takesOff_11 : decode cX6_takesOff 11 = .ok (.invokestatic 38, 3) := by decide +kernel
theorem dX6_takesOff_14 : decode cX6_takesOff 14 = .ok (.if_icmp .ge 23, 3) := by decide +kernel
theorem dX6_takesOff_17 : decode cX6_takesOff 17 = .ok (.aload_n 0, 1) := by decide +kernel
theorem dX6_takesOff_18 : decode cX6_takesOff 18 = .ok (.getfield 7, 3) := by decide +kernel
theorem dX6_takesOff_21 : decode cX6_takesOff 21 = .ok (.iload_n 3, 1) := by decide +kernel
theorem dX6_takesOff_22 : decode cX6_takesOff 22 = .ok (.aload_n 0, 1) := by decide +kernel
theorem dX6_takesOff_23 : decode cX6_takesOff 23 = .ok (.getfield 7, 3) := by decide +kernel
theorem dX6_takesOff_26 : decode cX6_takesOff 26 = .ok (.iload_n 3, 1) := by decide +kernel
theorem dX6_takesOff_27 : decode cX6_takesOff 27 = .ok (.iconst 2, 1) := by decide +kernel
theorem dX6_takesOff_28 : decode cX6_takesOff 28 = .ok (.iadd, 1) := by decide +kernel
theorem dX6_takesOff_29 : decode cX6_takesOff 29 = .ok (.iaload, 1) := by decide +kernel
theorem dX6_takesOff_30 : decode cX6_takesOff 30 = .ok (.iastore, 1) := by decide +kernel
theorem dX6_takesOff_31 : decode cX6_takesOff 31 = .ok (.iinc 3 1, 3) := by decide +kernel
theorem dX6_takesOff_34 : decode cX6_takesOff 34 = .ok (.goto (-27), 3) := by decide +kernel
theorem dX6_takesOff_37 : decode cX6_takesOff 37 = .ok (.aload_n 0, 1) := by decide +kernel
theorem dX6_takesOff_38 : decode cX6_takesOff 38 = .ok (.getfield 7, 3) := by decide +kernel
theorem dX6_takesOff_41 : decode cX6_takesOff 41 = .ok (.iload_n 1, 1) := by decide +kernel
theorem dX6_takesOff_42 : decode cX6_takesOff 42 = .ok (.bipush 6, 2) := by decide +kernel
theorem dX6_takesOff_44 : decode cX6_takesOff 44 = .ok (.invokestatic 19, 3) := by decide +kernel
theorem dX6_takesOff_47 : decode cX6_takesOff 47 = .ok (.dup2, 1) := by decide +kernel
theorem dX6_takesOff_48 : decode cX6_takesOff 48 = .ok (.iaload, 1) := by decide +kernel
theorem dX6_takesOff_49 : decode cX6_takesOff 49 = .ok (.iconst 1, 1) := by decide +kernel
theorem dX6_takesOff_50 : decode cX6_takesOff 50 = .ok (.isub, 1) := by decide +kernel
theorem dX6_takesOff_51 : decode cX6_takesOff 51 = .ok (.iastore, 1) := by decide +kernel
theorem dX6_takesOff_52 : decode cX6_takesOff 52 = .ok (.return_, 1) := by decide +kernel
set_option maxRecDepth 20000 in
theorem ggX6_goes_X6_takesOff : GoodIn wsX6_goes wsX6_takesOff := goodIn_r _ [6, 1, 7, 8, 5, 9, 10, 11, 12, 47, 48, 49, 50, 51, 52, 53, 54, 55, 56, 57, 58, 59, 60, 61, 62] (by decide +kernel) (by decide +kernel)
set_option maxRecDepth 20000 in
theorem gX6_goes_X6_takesOff : GoodIn wsX6_goes (wsV RX6 89 RX6 yX6_takesOff wsX6_takesOff) := goodIn_app (goodIn_of _ (by decide +kernel)) ggX6_goes_X6_takesOff
set_option maxRecDepth 20000 in
theorem ggX6_goes_X6_falls : GoodIn wsX6_goes wsX6_falls := goodIn_r _ [16, 1, 10, 11, 5, 12, 17, 18, 19, 20, 21, 22, 23, 24, 25, 26, 27, 28, 29, 30, 31, 32, 7, 8, 9, 33, 34, 35, 36, 37, 38, 39, 40, 41, 42, 43, 44, 45, 46, 47, 48, 49, 50, 51, 52, 53, 54, 55, 56, 57, 58, 59, 60, 61, 62] (by decide +kernel) (by decide +kernel)
set_option maxRecDepth 20000 in
theorem gX6_goes_X6_falls : GoodIn wsX6_goes (wsV RX6 83 RX6 yX6_falls wsX6_falls) := goodIn_app (goodIn_of _ (by decide +kernel)) ggX6_goes_X6_falls
set_option maxRecDepth 20000 in
theorem ggX6_goes_X6_of : GoodIn wsX6_goes wsX6_of := goodIn_r _ [12] (by decide +kernel) (by decide +kernel)
set_option maxRecDepth 20000 in
theorem gX6_goes_X6_of : GoodIn wsX6_goes (va_wsS RX6 19 yX6_of wsX6_of) := goodIn_app (goodIn_of _ (by decide +kernel)) ggX6_goes_X6_of
theorem dX6_goes_0 : decode cX6_goes 0 = .ok (.aload_n 0, 1) := by decide +kernel
theorem dX6_goes_1 : decode cX6_goes 1 = .ok (.iload_n 1, 1) := by decide +kernel
theorem dX6_goes_2 : decode cX6_goes 2 = .ok (.iload_n 2, 1) := by decide +kernel
theorem dX6_goes_3 : decode cX6_goes 3 = .ok (.invokevirtual 89, 3) := by decide +kernel
theorem dX6_goes_6 : decode cX6_goes 6 = .ok (.aload_n 0, 1) := by decide +kernel
theorem dX6_goes_7 : decode cX6_goes 7 = .ok (.iload_n 1, 1) := by decide +kernel
theorem dX6_goes_8 : decode cX6_goes 8 = .ok (.invokevirtual 83, 3) := by decide +kernel
theorem dX6_goes_11 : decode cX6_goes 11 = .ok (.ifCond .eq 7, 3) := by decide +kernel
theorem dX6_goes_14 : decode cX6_goes 14 = .ok (.iconst 0, 1) := by decide +kernel
theorem dX6_goes_15 : decode cX6_goes 15 = .ok (.goto 14, 3) := by decide +kernel
theorem dX6_goes_18 : decode cX6_goes 18 = .ok (.aload_n 0, 1) := by decide +kernel
theorem dX6_goes_19 : decode cX6_goes 19 = .ok (.getfield 7, 3) := by decide +kernel
theorem dX6_goes_22 : decode cX6_goes 22 = .ok (.iload_n 1, 1) := by decide +kernel
theorem dX6_goes_23 : decode cX6_goes 23 = .ok (.bipush 6, 2) := by decide +kernel
theorem dX6_goes_25 : decode cX6_goes 25 = .ok (.invokestatic 19, 3) := by decide +kernel
theorem dX6_goes_28 : decode cX6_goes 28 = .ok (.iaload, 1) := by decide +kernel
theorem dX6_goes_29 : decode cX6_goes 29 = .ok (.ireturn, 1) := by decide +kernel
set_option maxRecDepth 20000 in
theorem ggX6_off_X6_isPerson : GoodIn wsX6_off wsX6_isPerson := goodIn_r _ [5, 6, 7, 8, 4, 9, 10, 11, 12, 13, 14, 15, 72, 73, 74, 75, 76, 77, 78, 79, 80, 81, 82, 83, 84, 85, 86, 87] (by decide +kernel) (by decide +kernel)
set_option maxRecDepth 20000 in
theorem gX6_off_X6_isPerson : GoodIn wsX6_off (wsV RX6 93 RX6 yX6_isPerson wsX6_isPerson) := goodIn_app (goodIn_of _ (by decide +kernel)) ggX6_off_X6_isPerson
set_option maxRecDepth 20000 in
theorem ggX6_off_X6_holds : GoodIn wsX6_off wsX6_holds := goodIn_r _ [19, 20, 72, 73, 74, 75, 76, 77, 78, 79, 80, 81, 82, 83, 84, 85, 86, 87] (by decide +kernel) (by decide +kernel)
set_option maxRecDepth 20000 in
theorem gX6_off_X6_holds : GoodIn wsX6_off (wsV RX6 77 RX6 yX6_holds wsX6_holds) := goodIn_app (goodIn_of _ (by decide +kernel)) ggX6_off_X6_holds
set_option maxRecDepth 20000 in
theorem ggX6_off_X6_save : GoodIn wsX6_off wsX6_save := goodIn_r _ [24, 25, 26, 6, 72, 73, 74, 75, 76, 77, 78, 79, 80, 81, 82, 83, 84, 85, 86, 87] (by decide +kernel) (by decide +kernel)
set_option maxRecDepth 20000 in
theorem gX6_off_X6_save : GoodIn wsX6_off (wsV RX6 80 RX6 yX6_save wsX6_save) := goodIn_app (goodIn_of _ (by decide +kernel)) ggX6_off_X6_save
set_option maxRecDepth 20000 in
theorem ggX6_off_X6_goes : GoodIn wsX6_off wsX6_goes := goodIn_r _ [30, 6, 31, 32, 33, 4, 34, 35, 36, 37, 13, 14, 15, 38, 39, 40, 41, 42, 43, 44, 45, 46, 47, 48, 49, 50, 51, 52, 53, 54, 55, 56, 57, 58, 59, 60, 61, 62, 63, 64, 65, 66, 67, 68, 69, 70, 71, 72, 73, 74, 75, 76, 77, 78, 79, 80, 81, 82, 83, 84, 85, 86, 87] (by decide +kernel) (by decide +kernel)
set_option maxRecDepth 20000 in
theorem gX6_off_X6_goes : GoodIn wsX6_off (wsV RX6 97 RX6 yX6_goes wsX6_goes) := goodIn_app (goodIn_of _ (by decide +kernel)) ggX6_off_X6_goes
theorem dX6_off_0 : decode cX6_off 0 = .ok (.aload_n 0, 1) := by decide +kernel
theorem dX6_off_1 : decode cX6_off 1 = .ok (.aload_n 0, 1) := by decide +kernel
theorem dX6_off_2 : decode cX6_off 2 = .ok (.iload_n 1, 1) := by decide +kernel
theorem dX6_off_3 : decode cX6_off 3 = .ok (.iload_n 2, 1) := by decide +kernel
theorem dX6_off_4 : decode cX6_off 4 = .ok (.invokevirtual 93, 3) := by decide +kernel
theorem dX6_off_7 : decode cX6_off 7 = .ok (.ifCond .eq 7, 3) := by decide +kernel
theorem dX6_off_10 : decode cX6_off 10 = .ok (.iconst 0, 1) := by decide +kernel
theorem dX6_off_11 : decode cX6_off 11 = .ok (.goto 4, 3) := by decide +kernel
theorem dX6_off_14 : decode cX6_off 14 = .ok (.iconst 1, 1) := by decide +kernel
theorem dX6_off_15 : decode cX6_off 15 = .ok (.invokevirtual 77, 3) := by decide +kernel
theorem dX6_off_18 : decode cX6_off 18 = .ok (.ifCond .ne 5, 3) := by decide +kernel
theorem dX6_off_21 : decode cX6_off 21 = .ok (.iconst 0, 1) := by decide +kernel
theorem dX6_off_22 : decode cX6_off 22 = .ok (.ireturn, 1) := by decide +kernel
theorem dX6_off_23 : decode cX6_off 23 = .ok (.aload_n 0, 1) := by decide +kernel
theorem dX6_off_24 : decode cX6_off 24 = .ok (.invokevirtual 80, 3) := by decide +kernel
theorem dX6_off_27 : decode cX6_off 27 = .ok (.aload_n 0, 1) := by decide +kernel
theorem dX6_off_28 : decode cX6_off 28 = .ok (.iload_n 1, 1) := by decide +kernel
theorem dX6_off_29 : decode cX6_off 29 = .ok (.iload_n 2, 1) := by decide +kernel
theorem dX6_off_30 : decode cX6_off 30 = .ok (.invokevirtual 97, 3) := by decide +kernel
theorem dX6_off_33 : decode cX6_off 33 = .ok (.ireturn, 1) := by decide +kernel
set_option maxRecDepth 20000 in
theorem ggX6_climbs_X6_ofPerson : GoodIn wsX6_climbs wsX6_ofPerson := goodIn_r _ [5] (by decide +kernel) (by decide +kernel)
set_option maxRecDepth 20000 in
theorem gX6_climbs_X6_ofPerson : GoodIn wsX6_climbs (va_wsS RX6 38 yX6_ofPerson wsX6_ofPerson) := goodIn_app (goodIn_of _ (by decide +kernel)) ggX6_climbs_X6_ofPerson
set_option maxRecDepth 20000 in
theorem ggX6_climbs_X6_falls : GoodIn wsX6_climbs wsX6_falls := goodIn_r _ [9, 1, 10, 11, 4, 12, 13, 14, 15, 16, 17, 18, 19, 20, 21, 22, 23, 24, 25, 26, 27, 28, 2, 3, 5, 29, 30, 31, 32, 33, 34, 35, 36, 37, 38, 39, 40, 41, 42, 43, 44, 45, 46, 47, 48, 49, 50, 51, 52, 53, 54, 55, 56, 57, 58] (by decide +kernel) (by decide +kernel)
set_option maxRecDepth 20000 in
theorem gX6_climbs_X6_falls : GoodIn wsX6_climbs (wsV RX6 83 RX6 yX6_falls wsX6_falls) := goodIn_app (goodIn_of _ (by decide +kernel)) ggX6_climbs_X6_falls
theorem dX6_climbs_0 : decode cX6_climbs 0 = .ok (.iload_n 1, 1) := by decide +kernel
theorem dX6_climbs_1 : decode cX6_climbs 1 = .ok (.iload_n 2, 1) := by decide +kernel
theorem dX6_climbs_2 : decode cX6_climbs 2 = .ok (.iconst 1, 1) := by decide +kernel
theorem dX6_climbs_3 : decode cX6_climbs 3 = .ok (.invokestatic 38, 3) := by decide +kernel
theorem dX6_climbs_6 : decode cX6_climbs 6 = .ok (.istore 4, 2) := by decide +kernel
theorem dX6_climbs_8 : decode cX6_climbs 8 = .ok (.iconst 0, 1) := by decide +kernel
theorem dX6_climbs_9 : decode cX6_climbs 9 = .ok (.istore 5, 2) := by decide +kernel
theorem dX6_climbs_11 : decode cX6_climbs 11 = .ok (.iload 5, 2) := by decide +kernel
theorem dX6_climbs_13 : decode cX6_climbs 13 = .ok (.ifCond .ne 61, 3) := by decide +kernel
theorem dX6_climbs_16 : decode cX6_climbs 16 = .ok (.aload_n 0, 1) := by decide +kernel
theorem dX6_climbs_17 : decode cX6_climbs 17 = .ok (.getfield 7, 3) := by decide +kernel
theorem dX6_climbs_20 : decode cX6_climbs 20 = .ok (.iload 4, 2) := by decide +kernel
theorem dX6_climbs_22 : decode cX6_climbs 22 = .ok (.iaload, 1) := by decide +kernel
theorem dX6_climbs_23 : decode cX6_climbs 23 = .ok (.iload_n 3, 1) := by decide +kernel
theorem dX6_climbs_24 : decode cX6_climbs 24 = .ok (.if_icmp .eq 50, 3) := by decide +kernel
theorem dX6_climbs_27 : decode cX6_climbs 27 = .ok (.aload_n 0, 1) := by decide +kernel
theorem dX6_climbs_28 : decode cX6_climbs 28 = .ok (.getfield 7, 3) := by decide +kernel
theorem dX6_climbs_31 : decode cX6_climbs 31 = .ok (.iload 4, 2) := by decide +kernel
theorem dX6_climbs_33 : decode cX6_climbs 33 = .ok (.dup2, 1) := by decide +kernel
theorem dX6_climbs_34 : decode cX6_climbs 34 = .ok (.iaload, 1) := by decide +kernel
theorem dX6_climbs_35 : decode cX6_climbs 35 = .ok (.aload_n 0, 1) := by decide +kernel
theorem dX6_climbs_36 : decode cX6_climbs 36 = .ok (.getfield 7, 3) := by decide +kernel
theorem dX6_climbs_39 : decode cX6_climbs 39 = .ok (.iload 4, 2) := by decide +kernel
theorem dX6_climbs_41 : decode cX6_climbs 41 = .ok (.iaload, 1) := by decide +kernel
theorem dX6_climbs_42 : decode cX6_climbs 42 = .ok (.iload_n 3, 1) := by decide +kernel
theorem dX6_climbs_43 : decode cX6_climbs 43 = .ok (.if_icmp .ge 7, 3) := by decide +kernel
theorem dX6_climbs_46 : decode cX6_climbs 46 = .ok (.iconst 1, 1) := by decide +kernel
theorem dX6_climbs_47 : decode cX6_climbs 47 = .ok (.goto 4, 3) := by decide +kernel
theorem dX6_climbs_50 : decode cX6_climbs 50 = .ok (.iconst (-1), 1) := by decide +kernel
theorem dX6_climbs_51 : decode cX6_climbs 51 = .ok (.iadd, 1) := by decide +kernel
theorem dX6_climbs_52 : decode cX6_climbs 52 = .ok (.iastore, 1) := by decide +kernel
theorem dX6_climbs_53 : decode cX6_climbs 53 = .ok (.aload_n 0, 1) := by decide +kernel
theorem dX6_climbs_54 : decode cX6_climbs 54 = .ok (.getfield 7, 3) := by decide +kernel
theorem dX6_climbs_57 : decode cX6_climbs 57 = .ok (.bipush 57, 2) := by decide +kernel
theorem dX6_climbs_59 : decode cX6_climbs 59 = .ok (.dup2, 1) := by decide +kernel
theorem dX6_climbs_60 : decode cX6_climbs 60 = .ok (.iaload, 1) := by decide +kernel
theorem dX6_climbs_61 : decode cX6_climbs 61 = .ok (.iconst 1, 1) := by decide +kernel
theorem dX6_climbs_62 : decode cX6_climbs 62 = .ok (.iadd, 1) := by decide +kernel
theorem dX6_climbs_63 : decode cX6_climbs 63 = .ok (.iastore, 1) := by decide +kernel
theorem dX6_climbs_64 : decode cX6_climbs 64 = .ok (.aload_n 0, 1) := by decide +kernel
theorem dX6_climbs_65 : decode cX6_climbs 65 = .ok (.iload_n 1, 1) := by decide +kernel
theorem dX6_climbs_66 : decode cX6_climbs 66 = .ok (.invokevirtual 83, 3) := by decide +kernel
theorem dX6_climbs_69 : decode cX6_climbs 69 = .ok (.istore 5, 2) := by decide +kernel
theorem dX6_climbs_71 : decode cX6_climbs 71 = .ok (.goto (-60), 3) := by decide +kernel
theorem dX6_climbs_74 : decode cX6_climbs 74 = .ok (.iload 5, 2) := by decide +kernel
theorem dX6_climbs_76 : decode cX6_climbs 76 = .ok (.ifCond .eq 7, 3) := by decide +kernel
theorem dX6_climbs_79 : decode cX6_climbs 79 = .ok (.iconst (-1), 1) := by decide +kernel
theorem dX6_climbs_80 : decode cX6_climbs 80 = .ok (.goto 4, 3) := by decide +kernel
theorem dX6_climbs_83 : decode cX6_climbs 83 = .ok (.iload_n 3, 1) := by decide +kernel
theorem dX6_climbs_84 : decode cX6_climbs 84 = .ok (.ireturn, 1) := by decide +kernel
set_option maxRecDepth 20000 in
theorem ggX6_climb_X6_isPerson : GoodIn wsX6_climb wsX6_isPerson := goodIn_r _ [5, 6, 7, 8, 4, 9, 10, 11, 12, 13, 14, 15, 68, 69, 70, 71, 72, 73, 74, 75, 76, 77, 78, 79, 80, 81, 82, 83] (by decide +kernel) (by decide +kernel)
set_option maxRecDepth 20000 in
theorem gX6_climb_X6_isPerson : GoodIn wsX6_climb (wsV RX6 93 RX6 yX6_isPerson wsX6_isPerson) := goodIn_app (goodIn_of _ (by decide +kernel)) ggX6_climb_X6_isPerson
set_option maxRecDepth 20000 in
theorem ggX6_climb_X6_in : GoodIn wsX6_climb wsX6_in := goodIn_r _ [12] (by decide +kernel) (by decide +kernel)
set_option maxRecDepth 20000 in
theorem gX6_climb_X6_in : GoodIn wsX6_climb (va_wsS RX6 27 yX6_in wsX6_in) := goodIn_app (goodIn_of _ (by decide +kernel)) ggX6_climb_X6_in
set_option maxRecDepth 20000 in
theorem ggX6_climb_X6_holds : GoodIn wsX6_climb wsX6_holds := goodIn_r _ [19, 20, 68, 69, 70, 71, 72, 73, 74, 75, 76, 77, 78, 79, 80, 81, 82, 83] (by decide +kernel) (by decide +kernel)
set_option maxRecDepth 20000 in
theorem gX6_climb_X6_holds : GoodIn wsX6_climb (wsV RX6 77 RX6 yX6_holds wsX6_holds) := goodIn_app (goodIn_of _ (by decide +kernel)) ggX6_climb_X6_holds
set_option maxRecDepth 20000 in
theorem ggX6_climb_X6_save : GoodIn wsX6_climb wsX6_save := goodIn_r _ [24, 25, 26, 6, 68, 69, 70, 71, 72, 73, 74, 75, 76, 77, 78, 79, 80, 81, 82, 83] (by decide +kernel) (by decide +kernel)
set_option maxRecDepth 20000 in
theorem gX6_climb_X6_save : GoodIn wsX6_climb (wsV RX6 80 RX6 yX6_save wsX6_save) := goodIn_app (goodIn_of _ (by decide +kernel)) ggX6_climb_X6_save
set_option maxRecDepth 20000 in
theorem ggX6_climb_X6_climbs : GoodIn wsX6_climb wsX6_climbs := goodIn_r _ [30, 6, 31, 32, 4, 33, 34, 35, 36, 37, 13, 14, 15, 38, 39, 40, 41, 42, 43, 44, 45, 46, 47, 48, 49, 50, 51, 52, 53, 54, 55, 56, 57, 58, 59, 60, 61, 62, 63, 64, 65, 66, 67, 68, 69, 70, 71, 72, 73, 74, 75, 76, 77, 78, 79, 80, 81, 82, 83] (by decide +kernel) (by decide +kernel)
set_option maxRecDepth 20000 in
theorem gX6_climb_X6_climbs : GoodIn wsX6_climb (wsV RX6 100 RX6 yX6_climbs wsX6_climbs) := goodIn_app (goodIn_of _ (by decide +kernel)) ggX6_climb_X6_climbs
theorem dX6_climb_0 : decode cX6_climb 0 = .ok (.aload_n 0, 1) := by decide +kernel
theorem dX6_climb_1 : decode cX6_climb 1 = .ok (.aload_n 0, 1) := by decide +kernel
theorem dX6_climb_2 : decode cX6_climb 2 = .ok (.iload_n 1, 1) := by decide +kernel
theorem dX6_climb_3 : decode cX6_climb 3 = .ok (.iload_n 2, 1) := by decide +kernel
theorem dX6_climb_4 : decode cX6_climb 4 = .ok (.invokevirtual 93, 3) := by decide +kernel
theorem dX6_climb_7 : decode cX6_climb 7 = .ok (.ifCond .ne 7, 3) := by decide +kernel
theorem dX6_climb_10 : decode cX6_climb 10 = .ok (.iconst 1, 1) := by decide +kernel
theorem dX6_climb_11 : decode cX6_climb 11 = .ok (.goto 18, 3) := by decide +kernel
theorem dX6_climb_14 : decode cX6_climb 14 = .ok (.iload_n 3, 1) := by decide +kernel
theorem dX6_climb_15 : decode cX6_climb 15 = .ok (.iconst 0, 1) := by decide +kernel
theorem dX6_climb_16 : decode cX6_climb 16 = .ok (.bipush 10, 2) := by decide +kernel
theorem dX6_climb_18 : decode cX6_climb 18 = .ok (.invokestatic 27, 3) := by decide +kernel
theorem dX6_climb_21 : decode cX6_climb 21 = .ok (.ifCond .eq 7, 3) := by decide +kernel
theorem dX6_climb_24 : decode cX6_climb 24 = .ok (.iconst 0, 1) := by decide +kernel
theorem dX6_climb_25 : decode cX6_climb 25 = .ok (.goto 4, 3) := by decide +kernel
theorem dX6_climb_28 : decode cX6_climb 28 = .ok (.iconst 2, 1) := by decide +kernel
theorem dX6_climb_29 : decode cX6_climb 29 = .ok (.invokevirtual 77, 3) := by decide +kernel
theorem dX6_climb_32 : decode cX6_climb 32 = .ok (.ifCond .ne 5, 3) := by decide +kernel
theorem dX6_climb_35 : decode cX6_climb 35 = .ok (.iconst 0, 1) := by decide +kernel
theorem dX6_climb_36 : decode cX6_climb 36 = .ok (.ireturn, 1) := by decide +kernel
theorem dX6_climb_37 : decode cX6_climb 37 = .ok (.aload_n 0, 1) := by decide +kernel
theorem dX6_climb_38 : decode cX6_climb 38 = .ok (.invokevirtual 80, 3) := by decide +kernel
theorem dX6_climb_41 : decode cX6_climb 41 = .ok (.aload_n 0, 1) := by decide +kernel
theorem dX6_climb_42 : decode cX6_climb 42 = .ok (.iload_n 1, 1) := by decide +kernel
theorem dX6_climb_43 : decode cX6_climb 43 = .ok (.iload_n 2, 1) := by decide +kernel
theorem dX6_climb_44 : decode cX6_climb 44 = .ok (.iload_n 3, 1) := by decide +kernel
theorem dX6_climb_45 : decode cX6_climb 45 = .ok (.invokevirtual 100, 3) := by decide +kernel
theorem dX6_climb_48 : decode cX6_climb 48 = .ok (.ireturn, 1) := by decide +kernel
set_option maxRecDepth 20000 in
theorem ggX6_append_X6_in : GoodIn wsX6_append wsX6_in := goodIn_r _ [6] (by decide +kernel) (by decide +kernel)
set_option maxRecDepth 20000 in
theorem gX6_append_X6_in : GoodIn wsX6_append (va_wsS RX6 27 yX6_in wsX6_in) := goodIn_app (goodIn_of _ (by decide +kernel)) ggX6_append_X6_in
set_option maxRecDepth 20000 in
theorem ggX6_append_X6_holds : GoodIn wsX6_append wsX6_holds := goodIn_r _ [10, 11, 12, 13, 14, 15, 16, 17, 18, 19, 20, 21, 22, 23, 24, 25, 26, 27] (by decide +kernel) (by decide +kernel)
set_option maxRecDepth 20000 in
theorem gX6_append_X6_holds : GoodIn wsX6_append (wsV RX6 77 RX6 yX6_holds wsX6_holds) := goodIn_app (goodIn_of _ (by decide +kernel)) ggX6_append_X6_holds
theorem dX6_append_0 : decode cX6_append 0 = .ok (.aload_n 0, 1) := by decide +kernel
theorem dX6_append_1 : decode cX6_append 1 = .ok (.iload_n 1, 1) := by decide +kernel
theorem dX6_append_2 : decode cX6_append 2 = .ok (.bipush 33, 2) := by decide +kernel
theorem dX6_append_4 : decode cX6_append 4 = .ok (.bipush 126, 2) := by decide +kernel
theorem dX6_append_6 : decode cX6_append 6 = .ok (.invokestatic 27, 3) := by decide +kernel
theorem dX6_append_9 : decode cX6_append 9 = .ok (.ifCond .ne 7, 3) := by decide +kernel
theorem dX6_append_12 : decode cX6_append 12 = .ok (.iconst 1, 1) := by decide +kernel
theorem dX6_append_13 : decode cX6_append 13 = .ok (.goto 17, 3) := by decide +kernel
theorem dX6_append_16 : decode cX6_append 16 = .ok (.aload_n 0, 1) := by decide +kernel
theorem dX6_append_17 : decode cX6_append 17 = .ok (.getfield 103, 3) := by decide +kernel
theorem dX6_append_20 : decode cX6_append 20 = .ok (.bipush 60, 2) := by decide +kernel
theorem dX6_append_22 : decode cX6_append 22 = .ok (.if_icmp .ne 7, 3) := by decide +kernel
theorem dX6_append_25 : decode cX6_append 25 = .ok (.iconst 2, 1) := by decide +kernel
theorem dX6_append_26 : decode cX6_append 26 = .ok (.goto 4, 3) := by decide +kernel
theorem dX6_append_29 : decode cX6_append 29 = .ok (.iconst 0, 1) := by decide +kernel
theorem dX6_append_30 : decode cX6_append 30 = .ok (.invokevirtual 77, 3) := by decide +kernel
theorem dX6_append_33 : decode cX6_append 33 = .ok (.ifCond .ne 5, 3) := by decide +kernel
theorem dX6_append_36 : decode cX6_append 36 = .ok (.iconst 0, 1) := by decide +kernel
theorem dX6_append_37 : decode cX6_append 37 = .ok (.ireturn, 1) := by decide +kernel
theorem dX6_append_38 : decode cX6_append 38 = .ok (.aload_n 0, 1) := by decide +kernel
theorem dX6_append_39 : decode cX6_append 39 = .ok (.getfield 16, 3) := by decide +kernel
theorem dX6_append_42 : decode cX6_append 42 = .ok (.aload_n 0, 1) := by decide +kernel
theorem dX6_append_43 : decode cX6_append 43 = .ok (.getfield 103, 3) := by decide +kernel
theorem dX6_append_46 : decode cX6_append 46 = .ok (.iload_n 1, 1) := by decide +kernel
theorem dX6_append_47 : decode cX6_append 47 = .ok (.iastore, 1) := by decide +kernel
theorem dX6_append_48 : decode cX6_append 48 = .ok (.aload_n 0, 1) := by decide +kernel
theorem dX6_append_49 : decode cX6_append 49 = .ok (.dup, 1) := by decide +kernel
theorem dX6_append_50 : decode cX6_append 50 = .ok (.getfield 103, 3) := by decide +kernel
theorem dX6_append_53 : decode cX6_append 53 = .ok (.iconst 1, 1) := by decide +kernel
theorem dX6_append_54 : decode cX6_append 54 = .ok (.iadd, 1) := by decide +kernel
theorem dX6_append_55 : decode cX6_append 55 = .ok (.putfield 103, 3) := by decide +kernel
theorem dX6_append_58 : decode cX6_append 58 = .ok (.aload_n 0, 1) := by decide +kernel
theorem dX6_append_59 : decode cX6_append 59 = .ok (.getfield 103, 3) := by decide +kernel
theorem dX6_append_62 : decode cX6_append 62 = .ok (.ireturn, 1) := by decide +kernel
theorem dX6_clearBuffer_0 : decode cX6_clearBuffer 0 = .ok (.aload_n 0, 1) := by decide +kernel
theorem dX6_clearBuffer_1 : decode cX6_clearBuffer 1 = .ok (.iconst 0, 1) := by decide +kernel
theorem dX6_clearBuffer_2 : decode cX6_clearBuffer 2 = .ok (.putfield 23, 3) := by decide +kernel
theorem dX6_clearBuffer_5 : decode cX6_clearBuffer 5 = .ok (.aload_n 0, 1) := by decide +kernel
theorem dX6_clearBuffer_6 : decode cX6_clearBuffer 6 = .ok (.getfield 103, 3) := by decide +kernel
theorem dX6_clearBuffer_9 : decode cX6_clearBuffer 9 = .ok (.istore_n 1, 1) := by decide +kernel
theorem dX6_clearBuffer_10 : decode cX6_clearBuffer 10 = .ok (.aload_n 0, 1) := by decide +kernel
theorem dX6_clearBuffer_11 : decode cX6_clearBuffer 11 = .ok (.iconst 0, 1) := by decide +kernel
theorem dX6_clearBuffer_12 : decode cX6_clearBuffer 12 = .ok (.putfield 103, 3) := by decide +kernel
theorem dX6_clearBuffer_15 : decode cX6_clearBuffer 15 = .ok (.iload_n 1, 1) := by decide +kernel
theorem dX6_clearBuffer_16 : decode cX6_clearBuffer 16 = .ok (.ireturn, 1) := by decide +kernel
set_option maxRecDepth 20000 in
theorem ggX6_sign_X6_in : GoodIn wsX6_sign wsX6_in := goodIn_r _ [8] (by decide +kernel) (by decide +kernel)
set_option maxRecDepth 20000 in
theorem gX6_sign_X6_in : GoodIn wsX6_sign (va_wsS RX6 27 yX6_in wsX6_in) := goodIn_app (goodIn_of _ (by decide +kernel)) ggX6_sign_X6_in
theorem dX6_sign_0 : decode cX6_sign 0 = .ok (.aload_n 0, 1) := by decide +kernel
theorem dX6_sign_1 : decode cX6_sign 1 = .ok (.getfield 106, 3) := by decide +kernel
theorem dX6_sign_4 : decode cX6_sign 4 = .ok (.aload_n 0, 1) := by decide +kernel
theorem dX6_sign_5 : decode cX6_sign 5 = .ok (.getfield 103, 3) := by decide +kernel
theorem dX6_sign_8 : decode cX6_sign 8 = .ok (.if_icmp .ge 15, 3) := by decide +kernel
theorem dX6_sign_11 : decode cX6_sign 11 = .ok (.aload_n 0, 1) := by decide +kernel
theorem dX6_sign_12 : decode cX6_sign 12 = .ok (.getfield 16, 3) := by decide +kernel
theorem dX6_sign_15 : decode cX6_sign 15 = .ok (.aload_n 0, 1) := by decide +kernel
theorem dX6_sign_16 : decode cX6_sign 16 = .ok (.getfield 106, 3) := by decide +kernel
theorem dX6_sign_19 : decode cX6_sign 19 = .ok (.iaload, 1) := by decide +kernel
theorem dX6_sign_20 : decode cX6_sign 20 = .ok (.goto 4, 3) := by decide +kernel
theorem dX6_sign_23 : decode cX6_sign 23 = .ok (.iconst 0, 1) := by decide +kernel
theorem dX6_sign_24 : decode cX6_sign 24 = .ok (.istore_n 3, 1) := by decide +kernel
theorem dX6_sign_25 : decode cX6_sign 25 = .ok (.aload_n 0, 1) := by decide +kernel
theorem dX6_sign_26 : decode cX6_sign 26 = .ok (.aload_n 0, 1) := by decide +kernel
theorem dX6_sign_27 : decode cX6_sign 27 = .ok (.getfield 109, 3) := by decide +kernel
theorem dX6_sign_30 : decode cX6_sign 30 = .ok (.ifCond .ne 12, 3) := by decide +kernel
theorem dX6_sign_33 : decode cX6_sign 33 = .ok (.iload_n 3, 1) := by decide +kernel
theorem dX6_sign_34 : decode cX6_sign 34 = .ok (.iload_n 1, 1) := by decide +kernel
theorem dX6_sign_35 : decode cX6_sign 35 = .ok (.iload_n 2, 1) := by decide +kernel
theorem dX6_sign_36 : decode cX6_sign 36 = .ok (.invokestatic 27, 3) := by decide +kernel
theorem dX6_sign_39 : decode cX6_sign 39 = .ok (.ifCond .ne 7, 3) := by decide +kernel
theorem dX6_sign_42 : decode cX6_sign 42 = .ok (.iconst 1, 1) := by decide +kernel
theorem dX6_sign_43 : decode cX6_sign 43 = .ok (.goto 4, 3) := by decide +kernel
theorem dX6_sign_46 : decode cX6_sign 46 = .ok (.iconst 0, 1) := by decide +kernel
theorem dX6_sign_47 : decode cX6_sign 47 = .ok (.putfield 109, 3) := by decide +kernel
theorem dX6_sign_50 : decode cX6_sign 50 = .ok (.aload_n 0, 1) := by decide +kernel
theorem dX6_sign_51 : decode cX6_sign 51 = .ok (.dup, 1) := by decide +kernel
theorem dX6_sign_52 : decode cX6_sign 52 = .ok (.getfield 106, 3) := by decide +kernel
theorem dX6_sign_55 : decode cX6_sign 55 = .ok (.aload_n 0, 1) := by decide +kernel
theorem dX6_sign_56 : decode cX6_sign 56 = .ok (.getfield 109, 3) := by decide +kernel
theorem dX6_sign_59 : decode cX6_sign 59 = .ok (.ifCond .eq 7, 3) := by decide +kernel
theorem dX6_sign_62 : decode cX6_sign 62 = .ok (.iconst 0, 1) := by decide +kernel
theorem dX6_sign_63 : decode cX6_sign 63 = .ok (.goto 4, 3) := by decide +kernel
theorem dX6_sign_66 : decode cX6_sign 66 = .ok (.iconst 1, 1) := by decide +kernel
theorem dX6_sign_67 : decode cX6_sign 67 = .ok (.iadd, 1) := by decide +kernel
theorem dX6_sign_68 : decode cX6_sign 68 = .ok (.putfield 106, 3) := by decide +kernel
theorem dX6_sign_71 : decode cX6_sign 71 = .ok (.iload_n 3, 1) := by decide +kernel
theorem dX6_sign_72 : decode cX6_sign 72 = .ok (.ireturn, 1) := by decide +kernel
set_option maxRecDepth 20000 in
theorem ggX6_begins_X6_in : GoodIn wsX6_begins wsX6_in := goodIn_r _ [4] (by decide +kernel) (by decide +kernel)
set_option maxRecDepth 20000 in
theorem gX6_begins_X6_in : GoodIn wsX6_begins (va_wsS RX6 27 yX6_in wsX6_in) := goodIn_app (goodIn_of _ (by decide +kernel)) ggX6_begins_X6_in
theorem dX6_begins_0 : decode cX6_begins 0 = .ok (.iload_n 0, 1) := by decide +kernel
theorem dX6_begins_1 : decode cX6_begins 1 = .ok (.iload_n 1, 1) := by decide +kernel
theorem dX6_begins_2 : decode cX6_begins 2 = .ok (.iload_n 2, 1) := by decide +kernel
theorem dX6_begins_3 : decode cX6_begins 3 = .ok (.invokestatic 27, 3) := by decide +kernel
theorem dX6_begins_6 : decode cX6_begins 6 = .ok (.ifCond .ne 41, 3) := by decide +kernel
theorem dX6_begins_9 : decode cX6_begins 9 = .ok (.bipush 10, 2) := by decide +kernel
theorem dX6_begins_11 : decode cX6_begins 11 = .ok (.iload_n 0, 1) := by decide +kernel
theorem dX6_begins_12 : decode cX6_begins 12 = .ok (.imul, 1) := by decide +kernel
theorem dX6_begins_13 : decode cX6_begins 13 = .ok (.iload_n 2, 1) := by decide +kernel
theorem dX6_begins_14 : decode cX6_begins 14 = .ok (.if_icmp .gt 14, 3) := by decide +kernel
theorem dX6_begins_17 : decode cX6_begins 17 = .ok (.bipush 10, 2) := by decide +kernel
theorem dX6_begins_19 : decode cX6_begins 19 = .ok (.iload_n 0, 1) := by decide +kernel
theorem dX6_begins_20 : decode cX6_begins 20 = .ok (.imul, 1) := by decide +kernel
theorem dX6_begins_21 : decode cX6_begins 21 = .ok (.bipush 9, 2) := by decide +kernel
theorem dX6_begins_23 : decode cX6_begins 23 = .ok (.iadd, 1) := by decide +kernel
theorem dX6_begins_24 : decode cX6_begins 24 = .ok (.iload_n 1, 1) := by decide +kernel
theorem dX6_begins_25 : decode cX6_begins 25 = .ok (.if_icmp .ge 22, 3) := by decide +kernel
theorem dX6_begins_28 : decode cX6_begins 28 = .ok (.bipush 100, 2) := by decide +kernel
theorem dX6_begins_30 : decode cX6_begins 30 = .ok (.iload_n 0, 1) := by decide +kernel
theorem dX6_begins_31 : decode cX6_begins 31 = .ok (.imul, 1) := by decide +kernel
theorem dX6_begins_32 : decode cX6_begins 32 = .ok (.iload_n 2, 1) := by decide +kernel
theorem dX6_begins_33 : decode cX6_begins 33 = .ok (.if_icmp .gt 18, 3) := by decide +kernel
theorem dX6_begins_36 : decode cX6_begins 36 = .ok (.bipush 100, 2) := by decide +kernel
theorem dX6_begins_38 : decode cX6_begins 38 = .ok (.iload_n 0, 1) := by decide +kernel
theorem dX6_begins_39 : decode cX6_begins 39 = .ok (.imul, 1) := by decide +kernel
theorem dX6_begins_40 : decode cX6_begins 40 = .ok (.bipush 99, 2) := by decide +kernel
theorem dX6_begins_42 : decode cX6_begins 42 = .ok (.iadd, 1) := by decide +kernel
theorem dX6_begins_43 : decode cX6_begins 43 = .ok (.iload_n 1, 1) := by decide +kernel
theorem dX6_begins_44 : decode cX6_begins 44 = .ok (.if_icmp .lt 7, 3) := by decide +kernel
theorem dX6_begins_47 : decode cX6_begins 47 = .ok (.iconst 1, 1) := by decide +kernel
theorem dX6_begins_48 : decode cX6_begins 48 = .ok (.goto 4, 3) := by decide +kernel
theorem dX6_begins_51 : decode cX6_begins 51 = .ok (.iconst 0, 1) := by decide +kernel
theorem dX6_begins_52 : decode cX6_begins 52 = .ok (.ireturn, 1) := by decide +kernel
set_option maxRecDepth 20000 in
theorem ggX6_goesOn_X6_in : GoodIn wsX6_goesOn wsX6_in := goodIn_r _ [9] (by decide +kernel) (by decide +kernel)
set_option maxRecDepth 20000 in
theorem gX6_goesOn_X6_in : GoodIn wsX6_goesOn (va_wsS RX6 27 yX6_in wsX6_in) := goodIn_app (goodIn_of _ (by decide +kernel)) ggX6_goesOn_X6_in
set_option maxRecDepth 20000 in
theorem ggX6_goesOn_X6_begins : GoodIn wsX6_goesOn wsX6_begins := goodIn_r _ [12, 6, 7, 8, 9] (by decide +kernel) (by decide +kernel)
set_option maxRecDepth 20000 in
theorem gX6_goesOn_X6_begins : GoodIn wsX6_goesOn (va_wsS RX6 116 yX6_begins wsX6_begins) := goodIn_app (goodIn_of _ (by decide +kernel)) ggX6_goesOn_X6_begins
theorem dX6_goesOn_0 : decode cX6_goesOn 0 = .ok (.aload_n 0, 1) := by decide +kernel
theorem dX6_goesOn_1 : decode cX6_goesOn 1 = .ok (.getfield 109, 3) := by decide +kernel
theorem dX6_goesOn_4 : decode cX6_goesOn 4 = .ok (.ifCond .ne 37, 3) := by decide +kernel
theorem dX6_goesOn_7 : decode cX6_goesOn 7 = .ok (.aload_n 0, 1) := by decide +kernel
theorem dX6_goesOn_8 : decode cX6_goesOn 8 = .ok (.getfield 106, 3) := by decide +kernel
theorem dX6_goesOn_11 : decode cX6_goesOn 11 = .ok (.aload_n 0, 1) := by decide +kernel
theorem dX6_goesOn_12 : decode cX6_goesOn 12 = .ok (.getfield 103, 3) := by decide +kernel
theorem dX6_goesOn_15 : decode cX6_goesOn 15 = .ok (.if_icmp .ge 26, 3) := by decide +kernel
theorem dX6_goesOn_18 : decode cX6_goesOn 18 = .ok (.aload_n 0, 1) := by decide +kernel
theorem dX6_goesOn_19 : decode cX6_goesOn 19 = .ok (.getfield 16, 3) := by decide +kernel
theorem dX6_goesOn_22 : decode cX6_goesOn 22 = .ok (.aload_n 0, 1) := by decide +kernel
theorem dX6_goesOn_23 : decode cX6_goesOn 23 = .ok (.getfield 106, 3) := by decide +kernel
theorem dX6_goesOn_26 : decode cX6_goesOn 26 = .ok (.iaload, 1) := by decide +kernel
theorem dX6_goesOn_27 : decode cX6_goesOn 27 = .ok (.bipush 48, 2) := by decide +kernel
theorem dX6_goesOn_29 : decode cX6_goesOn 29 = .ok (.bipush 57, 2) := by decide +kernel
theorem dX6_goesOn_31 : decode cX6_goesOn 31 = .ok (.invokestatic 27, 3) := by decide +kernel
theorem dX6_goesOn_34 : decode cX6_goesOn 34 = .ok (.ifCond .eq 7, 3) := by decide +kernel
theorem dX6_goesOn_37 : decode cX6_goesOn 37 = .ok (.iconst 1, 1) := by decide +kernel
theorem dX6_goesOn_38 : decode cX6_goesOn 38 = .ok (.goto 4, 3) := by decide +kernel
theorem dX6_goesOn_41 : decode cX6_goesOn 41 = .ok (.iconst 0, 1) := by decide +kernel
theorem dX6_goesOn_42 : decode cX6_goesOn 42 = .ok (.istore_n 3, 1) := by decide +kernel
theorem dX6_goesOn_43 : decode cX6_goesOn 43 = .ok (.iload_n 3, 1) := by decide +kernel
theorem dX6_goesOn_44 : decode cX6_goesOn 44 = .ok (.ifCond .eq 42, 3) := by decide +kernel
theorem dX6_goesOn_47 : decode cX6_goesOn 47 = .ok (.aload_n 0, 1) := by decide +kernel
theorem dX6_goesOn_48 : decode cX6_goesOn 48 = .ok (.getfield 113, 3) := by decide +kernel
theorem dX6_goesOn_51 : decode cX6_goesOn 51 = .ok (.ifCond .le 35, 3) := by decide +kernel
theorem dX6_goesOn_54 : decode cX6_goesOn 54 = .ok (.bipush 10, 2) := by decide +kernel
theorem dX6_goesOn_56 : decode cX6_goesOn 56 = .ok (.aload_n 0, 1) := by decide +kernel
theorem dX6_goesOn_57 : decode cX6_goesOn 57 = .ok (.getfield 113, 3) := by decide +kernel
theorem dX6_goesOn_60 : decode cX6_goesOn 60 = .ok (.imul, 1) := by decide +kernel
theorem dX6_goesOn_61 : decode cX6_goesOn 61 = .ok (.aload_n 0, 1) := by decide +kernel
theorem dX6_goesOn_62 : decode cX6_goesOn 62 = .ok (.getfield 16, 3) := by decide +kernel
theorem dX6_goesOn_65 : decode cX6_goesOn 65 = .ok (.aload_n 0, 1) := by decide +kernel
theorem dX6_goesOn_66 : decode cX6_goesOn 66 = .ok (.getfield 106, 3) := by decide +kernel
theorem dX6_goesOn_69 : decode cX6_goesOn 69 = .ok (.iaload, 1) := by decide +kernel
theorem dX6_goesOn_70 : decode cX6_goesOn 70 = .ok (.iadd, 1) := by decide +kernel
theorem dX6_goesOn_71 : decode cX6_goesOn 71 = .ok (.bipush 48, 2) := by decide +kernel
theorem dX6_goesOn_73 : decode cX6_goesOn 73 = .ok (.isub, 1) := by decide +kernel
theorem dX6_goesOn_74 : decode cX6_goesOn 74 = .ok (.iload_n 1, 1) := by decide +kernel
theorem dX6_goesOn_75 : decode cX6_goesOn 75 = .ok (.iload_n 2, 1) := by decide +kernel
theorem dX6_goesOn_76 : decode cX6_goesOn 76 = .ok (.invokestatic 116, 3) := by decide +kernel
theorem dX6_goesOn_79 : decode cX6_goesOn 79 = .ok (.ifCond .eq 7, 3) := by decide +kernel
theorem dX6_goesOn_82 : decode cX6_goesOn 82 = .ok (.iconst 1, 1) := by decide +kernel
theorem dX6_goesOn_83 : decode cX6_goesOn 83 = .ok (.goto 4, 3) := by decide +kernel
theorem dX6_goesOn_86 : decode cX6_goesOn 86 = .ok (.iconst 0, 1) := by decide +kernel
theorem dX6_goesOn_87 : decode cX6_goesOn 87 = .ok (.ireturn, 1) := by decide +kernel
set_option maxRecDepth 20000 in
theorem ggX6_readNumber_X6_sign : GoodIn wsX6_readNumber wsX6_sign := goodIn_r _ [9, 3, 10, 2, 4, 11, 12, 8, 13, 21, 22, 23, 24, 25, 26, 27, 28, 29, 30, 31, 32, 33, 34, 35, 36] (by decide +kernel) (by decide +kernel)
set_option maxRecDepth 20000 in
theorem gX6_readNumber_X6_sign : GoodIn wsX6_readNumber (wsV RX6 119 RX6 yX6_sign wsX6_sign) := goodIn_app (goodIn_of _ (by decide +kernel)) ggX6_readNumber_X6_sign
set_option maxRecDepth 20000 in
theorem ggX6_readNumber_X6_goesOn : GoodIn wsX6_readNumber wsX6_goesOn := goodIn_r _ [17, 4, 3, 10, 2, 1, 11, 12, 8, 13, 18, 19, 20, 21, 22, 23, 24, 25, 26, 27, 28, 29, 30, 31, 32, 33, 34, 35, 36] (by decide +kernel) (by decide +kernel)
set_option maxRecDepth 20000 in
theorem gX6_readNumber_X6_goesOn : GoodIn wsX6_readNumber (wsV RX6 122 RX6 yX6_goesOn wsX6_goesOn) := goodIn_app (goodIn_of _ (by decide +kernel)) ggX6_readNumber_X6_goesOn
set_option maxRecDepth 20000 in
theorem ggX6_readNumber_X6_in : GoodIn wsX6_readNumber wsX6_in := goodIn_r _ [13] (by decide +kernel) (by decide +kernel)
set_option maxRecDepth 20000 in
theorem gX6_readNumber_X6_in : GoodIn wsX6_readNumber (va_wsS RX6 27 yX6_in wsX6_in) := goodIn_app (goodIn_of _ (by decide +kernel)) ggX6_readNumber_X6_in
theorem dX6_readNumber_0 : decode cX6_readNumber 0 = .ok (.aload_n 0, 1) := by decide +kernel
theorem dX6_readNumber_1 : decode cX6_readNumber 1 = .ok (.aload_n 0, 1) := by decide +kernel
theorem dX6_readNumber_2 : decode cX6_readNumber 2 = .ok (.iload_n 1, 1) := by decide +kernel
theorem dX6_readNumber_3 : decode cX6_readNumber 3 = .ok (.ifCond .le 8, 3) := by decide +kernel
theorem dX6_readNumber_6 : decode cX6_readNumber 6 = .ok (.bipush 49, 2) := by decide +kernel
theorem dX6_readNumber_8 : decode cX6_readNumber 8 = .ok (.goto 5, 3) := by decide +kernel
theorem dX6_readNumber_11 : decode cX6_readNumber 11 = .ok (.bipush 48, 2) := by decide +kernel
theorem dX6_readNumber_13 : decode cX6_readNumber 13 = .ok (.bipush 57, 2) := by decide +kernel
theorem dX6_readNumber_15 : decode cX6_readNumber 15 = .ok (.invokevirtual 119, 3) := by decide +kernel
theorem dX6_readNumber_18 : decode cX6_readNumber 18 = .ok (.bipush 48, 2) := by decide +kernel
theorem dX6_readNumber_20 : decode cX6_readNumber 20 = .ok (.isub, 1) := by decide +kernel
theorem dX6_readNumber_21 : decode cX6_readNumber 21 = .ok (.putfield 113, 3) := by decide +kernel
theorem dX6_readNumber_24 : decode cX6_readNumber 24 = .ok (.aload_n 0, 1) := by decide +kernel
theorem dX6_readNumber_25 : decode cX6_readNumber 25 = .ok (.iload_n 1, 1) := by decide +kernel
theorem dX6_readNumber_26 : decode cX6_readNumber 26 = .ok (.iload_n 2, 1) := by decide +kernel
theorem dX6_readNumber_27 : decode cX6_readNumber 27 = .ok (.invokevirtual 122, 3) := by decide +kernel
theorem dX6_readNumber_30 : decode cX6_readNumber 30 = .ok (.ifCond .eq 40, 3) := by decide +kernel
theorem dX6_readNumber_33 : decode cX6_readNumber 33 = .ok (.aload_n 0, 1) := by decide +kernel
theorem dX6_readNumber_34 : decode cX6_readNumber 34 = .ok (.bipush 10, 2) := by decide +kernel
theorem dX6_readNumber_36 : decode cX6_readNumber 36 = .ok (.aload_n 0, 1) := by decide +kernel
theorem dX6_readNumber_37 : decode cX6_readNumber 37 = .ok (.getfield 113, 3) := by decide +kernel
theorem dX6_readNumber_40 : decode cX6_readNumber 40 = .ok (.imul, 1) := by decide +kernel
theorem dX6_readNumber_41 : decode cX6_readNumber 41 = .ok (.aload_n 0, 1) := by decide +kernel
theorem dX6_readNumber_42 : decode cX6_readNumber 42 = .ok (.getfield 16, 3) := by decide +kernel
theorem dX6_readNumber_45 : decode cX6_readNumber 45 = .ok (.aload_n 0, 1) := by decide +kernel
theorem dX6_readNumber_46 : decode cX6_readNumber 46 = .ok (.getfield 106, 3) := by decide +kernel
theorem dX6_readNumber_49 : decode cX6_readNumber 49 = .ok (.iaload, 1) := by decide +kernel
theorem dX6_readNumber_50 : decode cX6_readNumber 50 = .ok (.iadd, 1) := by decide +kernel
theorem dX6_readNumber_51 : decode cX6_readNumber 51 = .ok (.bipush 48, 2) := by decide +kernel
theorem dX6_readNumber_53 : decode cX6_readNumber 53 = .ok (.isub, 1) := by decide +kernel
theorem dX6_readNumber_54 : decode cX6_readNumber 54 = .ok (.putfield 113, 3) := by decide +kernel
theorem dX6_readNumber_57 : decode cX6_readNumber 57 = .ok (.aload_n 0, 1) := by decide +kernel
theorem dX6_readNumber_58 : decode cX6_readNumber 58 = .ok (.dup, 1) := by decide +kernel
theorem dX6_readNumber_59 : decode cX6_readNumber 59 = .ok (.getfield 106, 3) := by decide +kernel
theorem dX6_readNumber_62 : decode cX6_readNumber 62 = .ok (.iconst 1, 1) := by decide +kernel
theorem dX6_readNumber_63 : decode cX6_readNumber 63 = .ok (.iadd, 1) := by decide +kernel
theorem dX6_readNumber_64 : decode cX6_readNumber 64 = .ok (.putfield 106, 3) := by decide +kernel
theorem dX6_readNumber_67 : decode cX6_readNumber 67 = .ok (.goto (-43), 3) := by decide +kernel
theorem dX6_readNumber_70 : decode cX6_readNumber 70 = .ok (.aload_n 0, 1) := by decide +kernel
theorem dX6_readNumber_71 : decode cX6_readNumber 71 = .ok (.aload_n 0, 1) := by decide +kernel
theorem dX6_readNumber_72 : decode cX6_readNumber 72 = .ok (.getfield 109, 3) := by decide +kernel
theorem dX6_readNumber_75 : decode cX6_readNumber 75 = .ok (.ifCond .ne 15, 3) := by decide +kernel
theorem dX6_readNumber_78 : decode cX6_readNumber 78 = .ok (.aload_n 0, 1) := by decide +kernel
theorem dX6_readNumber_79 : decode cX6_readNumber 79 = .ok (.getfield 113, 3) := by decide +kernel
theorem dX6_readNumber_82 : decode cX6_readNumber 82 = .ok (.iload_n 1, 1) := by decide +kernel
theorem dX6_readNumber_83 : decode cX6_readNumber 83 = .ok (.iload_n 2, 1) := by decide +kernel
theorem dX6_readNumber_84 : decode cX6_readNumber 84 = .ok (.invokestatic 27, 3) := by decide +kernel
theorem dX6_readNumber_87 : decode cX6_readNumber 87 = .ok (.ifCond .ne 7, 3) := by decide +kernel
theorem dX6_readNumber_90 : decode cX6_readNumber 90 = .ok (.iconst 1, 1) := by decide +kernel
theorem dX6_readNumber_91 : decode cX6_readNumber 91 = .ok (.goto 4, 3) := by decide +kernel
theorem dX6_readNumber_94 : decode cX6_readNumber 94 = .ok (.iconst 0, 1) := by decide +kernel
theorem dX6_readNumber_95 : decode cX6_readNumber 95 = .ok (.putfield 109, 3) := by decide +kernel
theorem dX6_readNumber_98 : decode cX6_readNumber 98 = .ok (.return_, 1) := by decide +kernel
set_option maxRecDepth 20000 in
theorem ggX6_readPart_X6_sign : GoodIn wsX6_readPart wsX6_sign := goodIn_r _ [11, 2, 3, 4, 6, 12, 13, 10, 14, 27, 28, 29, 30, 31, 32, 33, 34, 35, 36, 37, 38, 39, 40, 41, 42] (by decide +kernel) (by decide +kernel)
set_option maxRecDepth 20000 in
theorem gX6_readPart_X6_sign : GoodIn wsX6_readPart (wsV RX6 119 RX6 yX6_sign wsX6_sign) := goodIn_app (goodIn_of _ (by decide +kernel)) ggX6_readPart_X6_sign
set_option maxRecDepth 20000 in
theorem ggX6_readPart_X6_readNumber : GoodIn wsX6_readPart wsX6_readNumber := goodIn_r _ [18, 19, 4, 2, 6, 7, 8, 9, 10, 11, 3, 12, 13, 14, 20, 21, 22, 23, 24, 25, 26, 27, 28, 29, 30, 31, 32, 33, 34, 35, 36, 37, 38, 39, 40, 41, 42] (by decide +kernel) (by decide +kernel)
set_option maxRecDepth 20000 in
theorem gX6_readPart_X6_readNumber : GoodIn wsX6_readPart (wsV RX6 131 RX6 yX6_readNumber wsX6_readNumber) := goodIn_app (goodIn_of _ (by decide +kernel)) ggX6_readPart_X6_readNumber
theorem dX6_readPart_0 : decode cX6_readPart 0 = .ok (.aload_n 0, 1) := by decide +kernel
theorem dX6_readPart_1 : decode cX6_readPart 1 = .ok (.aload_n 0, 1) := by decide +kernel
theorem dX6_readPart_2 : decode cX6_readPart 2 = .ok (.bipush 48, 2) := by decide +kernel
theorem dX6_readPart_4 : decode cX6_readPart 4 = .ok (.bipush 51, 2) := by decide +kernel
theorem dX6_readPart_6 : decode cX6_readPart 6 = .ok (.invokevirtual 119, 3) := by decide +kernel
theorem dX6_readPart_9 : decode cX6_readPart 9 = .ok (.bipush 48, 2) := by decide +kernel
theorem dX6_readPart_11 : decode cX6_readPart 11 = .ok (.isub, 1) := by decide +kernel
theorem dX6_readPart_12 : decode cX6_readPart 12 = .ok (.putfield 125, 3) := by decide +kernel
theorem dX6_readPart_15 : decode cX6_readPart 15 = .ok (.aload_n 0, 1) := by decide +kernel
theorem dX6_readPart_16 : decode cX6_readPart 16 = .ok (.aload_n 0, 1) := by decide +kernel
theorem dX6_readPart_17 : decode cX6_readPart 17 = .ok (.getfield 106, 3) := by decide +kernel
theorem dX6_readPart_20 : decode cX6_readPart 20 = .ok (.aload_n 0, 1) := by decide +kernel
theorem dX6_readPart_21 : decode cX6_readPart 21 = .ok (.getfield 103, 3) := by decide +kernel
theorem dX6_readPart_24 : decode cX6_readPart 24 = .ok (.if_icmp .ge 15, 3) := by decide +kernel
theorem dX6_readPart_27 : decode cX6_readPart 27 = .ok (.aload_n 0, 1) := by decide +kernel
theorem dX6_readPart_28 : decode cX6_readPart 28 = .ok (.getfield 16, 3) := by decide +kernel
theorem dX6_readPart_31 : decode cX6_readPart 31 = .ok (.aload_n 0, 1) := by decide +kernel
theorem dX6_readPart_32 : decode cX6_readPart 32 = .ok (.getfield 106, 3) := by decide +kernel
theorem dX6_readPart_35 : decode cX6_readPart 35 = .ok (.iaload, 1) := by decide +kernel
theorem dX6_readPart_36 : decode cX6_readPart 36 = .ok (.goto 4, 3) := by decide +kernel
theorem dX6_readPart_39 : decode cX6_readPart 39 = .ok (.iconst 0, 1) := by decide +kernel
