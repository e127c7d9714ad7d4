set_option maxRecDepth 20000 in
theorem ggX6_init_X6_of : GoodIn wsX6_init wsX6_of := goodIn_r _ [11] (by decide +kernel) (by decide +kernel)
set_option maxRecDepth 20000 in
theorem gX6_init_X6_of : GoodIn wsX6_init (va_wsS RX6 19 yX6_of wsX6_of) := goodIn_app (goodIn_of _ (by decide +kernel)) ggX6_init_X6_of
theorem dX6_init_0 : decode cX6_init 0 = .ok (.aload_n 0, 1) := by decide +kernel
theorem dX6_init_1 : decode cX6_init 1 = .ok (.invokespecial 1, 3) := by decide +kernel
theorem dX6_init_4 : decode cX6_init 4 = .ok (.aload_n 0, 1) := by decide +kernel
theorem dX6_init_5 : decode cX6_init 5 = .ok (.bipush 58, 2) := by decide +kernel
theorem dX6_init_7 : decode cX6_init 7 = .ok (.newarray .int, 2) := by decide +kernel
theorem dX6_init_9 : decode cX6_init 9 = .ok (.putfield 7, 3) := by decide +kernel
theorem dX6_init_12 : decode cX6_init 12 = .ok (.aload_n 0, 1) := by decide +kernel
theorem dX6_init_13 : decode cX6_init 13 = .ok (.sipush 348, 3) := by decide +kernel
theorem dX6_init_16 : decode cX6_init 16 = .ok (.newarray .int, 2) := by decide +kernel
theorem dX6_init_18 : decode cX6_init 18 = .ok (.putfield 13, 3) := by decide +kernel
theorem dX6_init_21 : decode cX6_init 21 = .ok (.aload_n 0, 1) := by decide +kernel
theorem dX6_init_22 : decode cX6_init 22 = .ok (.bipush 60, 2) := by decide +kernel
theorem dX6_init_24 : decode cX6_init 24 = .ok (.newarray .int, 2) := by decide +kernel
theorem dX6_init_26 : decode cX6_init 26 = .ok (.putfield 16, 3) := by decide +kernel
theorem dX6_init_29 : decode cX6_init 29 = .ok (.iconst 0, 1) := by decide +kernel
theorem dX6_init_30 : decode cX6_init 30 = .ok (.istore_n 1, 1) := by decide +kernel
theorem dX6_init_31 : decode cX6_init 31 = .ok (.iload_n 1, 1) := by decide +kernel
theorem dX6_init_32 : decode cX6_init 32 = .ok (.iconst 4, 1) := by decide +kernel
theorem dX6_init_33 : decode cX6_init 33 = .ok (.if_icmp .ge 68, 3) := by decide +kernel
theorem dX6_init_36 : decode cX6_init 36 = .ok (.aload_n 0, 1) := by decide +kernel
theorem dX6_init_37 : decode cX6_init 37 = .ok (.getfield 7, 3) := by decide +kernel
theorem dX6_init_40 : decode cX6_init 40 = .ok (.iload_n 1, 1) := by decide +kernel
theorem dX6_init_41 : decode cX6_init 41 = .ok (.iconst 0, 1) := by decide +kernel
theorem dX6_init_42 : decode cX6_init 42 = .ok (.invokestatic 19, 3) := by decide +kernel
theorem dX6_init_45 : decode cX6_init 45 = .ok (.bipush 50, 2) := by decide +kernel
theorem dX6_init_47 : decode cX6_init 47 = .ok (.iastore, 1) := by decide +kernel
theorem dX6_init_48 : decode cX6_init 48 = .ok (.aload_n 0, 1) := by decide +kernel
theorem dX6_init_49 : decode cX6_init 49 = .ok (.getfield 7, 3) := by decide +kernel
theorem dX6_init_52 : decode cX6_init 52 = .ok (.iload_n 1, 1) := by decide +kernel
theorem dX6_init_53 : decode cX6_init 53 = .ok (.iconst 1, 1) := by decide +kernel
theorem dX6_init_54 : decode cX6_init 54 = .ok (.invokestatic 19, 3) := by decide +kernel
theorem dX6_init_57 : decode cX6_init 57 = .ok (.sipush 150, 3) := by decide +kernel
theorem dX6_init_60 : decode cX6_init 60 = .ok (.iastore, 1) := by decide +kernel
theorem dX6_init_61 : decode cX6_init 61 = .ok (.aload_n 0, 1) := by decide +kernel
theorem dX6_init_62 : decode cX6_init 62 = .ok (.getfield 7, 3) := by decide +kernel
theorem dX6_init_65 : decode cX6_init 65 = .ok (.iload_n 1, 1) := by decide +kernel
theorem dX6_init_66 : decode cX6_init 66 = .ok (.iconst 2, 1) := by decide +kernel
theorem dX6_init_67 : decode cX6_init 67 = .ok (.invokestatic 19, 3) := by decide +kernel
theorem dX6_init_70 : decode cX6_init 70 = .ok (.bipush 20, 2) := by decide +kernel
theorem dX6_init_72 : decode cX6_init 72 = .ok (.iastore, 1) := by decide +kernel
theorem dX6_init_73 : decode cX6_init 73 = .ok (.aload_n 0, 1) := by decide +kernel
theorem dX6_init_74 : decode cX6_init 74 = .ok (.getfield 7, 3) := by decide +kernel
theorem dX6_init_77 : decode cX6_init 77 = .ok (.iload_n 1, 1) := by decide +kernel
theorem dX6_init_78 : decode cX6_init 78 = .ok (.iconst 3, 1) := by decide +kernel
theorem dX6_init_79 : decode cX6_init 79 = .ok (.invokestatic 19, 3) := by decide +kernel
theorem dX6_init_82 : decode cX6_init 82 = .ok (.iconst 2, 1) := by decide +kernel
theorem dX6_init_83 : decode cX6_init 83 = .ok (.iastore, 1) := by decide +kernel
theorem dX6_init_84 : decode cX6_init 84 = .ok (.aload_n 0, 1) := by decide +kernel
theorem dX6_init_85 : decode cX6_init 85 = .ok (.getfield 7, 3) := by decide +kernel
theorem dX6_init_88 : decode cX6_init 88 = .ok (.iload_n 1, 1) := by decide +kernel
theorem dX6_init_89 : decode cX6_init 89 = .ok (.iconst 4, 1) := by decide +kernel
theorem dX6_init_90 : decode cX6_init 90 = .ok (.invokestatic 19, 3) := by decide +kernel
theorem dX6_init_93 : decode cX6_init 93 = .ok (.iconst 2, 1) := by decide +kernel
theorem dX6_init_94 : decode cX6_init 94 = .ok (.iastore, 1) := by decide +kernel
theorem dX6_init_95 : decode cX6_init 95 = .ok (.iinc 1 1, 3) := by decide +kernel
theorem dX6_init_98 : decode cX6_init 98 = .ok (.goto (-67), 3) := by decide +kernel
theorem dX6_init_101 : decode cX6_init 101 = .ok (.return_, 1) := by decide +kernel
theorem dX6_thrown_0 : decode cX6_thrown 0 = .ok (.aload_n 0, 1) := by decide +kernel
theorem dX6_thrown_1 : decode cX6_thrown 1 = .ok (.getfield 23, 3) := by decide +kernel
theorem dX6_thrown_4 : decode cX6_thrown 4 = .ok (.ireturn, 1) := by decide +kernel
theorem dX6_in_0 : decode cX6_in 0 = .ok (.iload_n 0, 1) := by decide +kernel
theorem dX6_in_1 : decode cX6_in 1 = .ok (.iload_n 1, 1) := by decide +kernel
theorem dX6_in_2 : decode cX6_in 2 = .ok (.if_icmp .lt 12, 3) := by decide +kernel
theorem dX6_in_5 : decode cX6_in 5 = .ok (.iload_n 0, 1) := by decide +kernel
theorem dX6_in_6 : decode cX6_in 6 = .ok (.iload_n 2, 1) := by decide +kernel
theorem dX6_in_7 : decode cX6_in 7 = .ok (.if_icmp .gt 7, 3) := by decide +kernel
theorem dX6_in_10 : decode cX6_in 10 = .ok (.iconst 1, 1) := by decide +kernel
theorem dX6_in_11 : decode cX6_in 11 = .ok (.goto 4, 3) := by decide +kernel
theorem dX6_in_14 : decode cX6_in 14 = .ok (.iconst 0, 1) := by decide +kernel
theorem dX6_in_15 : decode cX6_in 15 = .ok (.ireturn, 1) := by decide +kernel
theorem dX6_holds_0 : decode cX6_holds 0 = .ok (.aload_n 0, 1) := by decide +kernel
theorem dX6_holds_1 : decode cX6_holds 1 = .ok (.iload_n 1, 1) := by decide +kernel
theorem dX6_holds_2 : decode cX6_holds 2 = .ok (.putfield 23, 3) := by decide +kernel
theorem dX6_holds_5 : decode cX6_holds 5 = .ok (.iload_n 1, 1) := by decide +kernel
theorem dX6_holds_6 : decode cX6_holds 6 = .ok (.ifCond .ne 7, 3) := by decide +kernel
theorem dX6_holds_9 : decode cX6_holds 9 = .ok (.iconst 1, 1) := by decide +kernel
theorem dX6_holds_10 : decode cX6_holds 10 = .ok (.goto 4, 3) := by decide +kernel
theorem dX6_holds_13 : decode cX6_holds 13 = .ok (.iconst 0, 1) := by decide +kernel
theorem dX6_holds_14 : decode cX6_holds 14 = .ok (.ireturn, 1) := by decide +kernel
set_option maxRecDepth 20000 in
theorem ggX6_isLadder_X6_in : GoodIn wsX6_isLadder wsX6_in := goodIn_r _ [4] (by decide +kernel) (by decide +kernel)
set_option maxRecDepth 20000 in
theorem gX6_isLadder_X6_in : GoodIn wsX6_isLadder (va_wsS RX6 27 yX6_in wsX6_in) := goodIn_app (goodIn_of _ (by decide +kernel)) ggX6_isLadder_X6_in
theorem dX6_isLadder_0 : decode cX6_isLadder 0 = .ok (.iload_n 0, 1) := by decide +kernel
theorem dX6_isLadder_1 : decode cX6_isLadder 1 = .ok (.iconst 0, 1) := by decide +kernel
theorem dX6_isLadder_2 : decode cX6_isLadder 2 = .ok (.iconst 3, 1) := by decide +kernel
theorem dX6_isLadder_3 : decode cX6_isLadder 3 = .ok (.invokestatic 27, 3) := by decide +kernel
theorem dX6_isLadder_6 : decode cX6_isLadder 6 = .ok (.ireturn, 1) := by decide +kernel
set_option maxRecDepth 20000 in
theorem ggX6_isPerson_X6_isLadder : GoodIn wsX6_isPerson wsX6_isLadder := goodIn_r _ [5, 6, 7, 4, 8] (by decide +kernel) (by decide +kernel)
set_option maxRecDepth 20000 in
theorem gX6_isPerson_X6_isLadder : GoodIn wsX6_isPerson (va_wsS RX6 31 yX6_isLadder wsX6_isLadder) := goodIn_app (goodIn_of _ (by decide +kernel)) ggX6_isPerson_X6_isLadder
set_option maxRecDepth 20000 in
theorem ggX6_isPerson_X6_of : GoodIn wsX6_isPerson wsX6_of := goodIn_r _ [11] (by decide +kernel) (by decide +kernel)
set_option maxRecDepth 20000 in
theorem gX6_isPerson_X6_of : GoodIn wsX6_isPerson (va_wsS RX6 19 yX6_of wsX6_of) := goodIn_app (goodIn_of _ (by decide +kernel)) ggX6_isPerson_X6_of
set_option maxRecDepth 20000 in
theorem ggX6_isPerson_X6_in : GoodIn wsX6_isPerson wsX6_in := goodIn_r _ [8] (by decide +kernel) (by decide +kernel)
set_option maxRecDepth 20000 in
theorem gX6_isPerson_X6_in : GoodIn wsX6_isPerson (va_wsS RX6 27 yX6_in wsX6_in) := goodIn_app (goodIn_of _ (by decide +kernel)) ggX6_isPerson_X6_in
theorem dX6_isPerson_0 : decode cX6_isPerson 0 = .ok (.iload_n 1, 1) := by decide +kernel
theorem dX6_isPerson_1 : decode cX6_isPerson 1 = .ok (.invokestatic 31, 3) := by decide +kernel
theorem dX6_isPerson_4 : decode cX6_isPerson 4 = .ok (.ifCond .eq 28, 3) := by decide +kernel
theorem dX6_isPerson_7 : decode cX6_isPerson 7 = .ok (.iload_n 2, 1) := by decide +kernel
theorem dX6_isPerson_8 : decode cX6_isPerson 8 = .ok (.iconst 0, 1) := by decide +kernel
theorem dX6_isPerson_9 : decode cX6_isPerson 9 = .ok (.aload_n 0, 1) := by decide +kernel
theorem dX6_isPerson_10 : decode cX6_isPerson 10 = .ok (.getfield 7, 3) := by decide +kernel
theorem dX6_isPerson_13 : decode cX6_isPerson 13 = .ok (.iload_n 1, 1) := by decide +kernel
theorem dX6_isPerson_14 : decode cX6_isPerson 14 = .ok (.bipush 6, 2) := by decide +kernel
theorem dX6_isPerson_16 : decode cX6_isPerson 16 = .ok (.invokestatic 19, 3) := by decide +kernel
theorem dX6_isPerson_19 : decode cX6_isPerson 19 = .ok (.iaload, 1) := by decide +kernel
theorem dX6_isPerson_20 : decode cX6_isPerson 20 = .ok (.iconst 1, 1) := by decide +kernel
theorem dX6_isPerson_21 : decode cX6_isPerson 21 = .ok (.isub, 1) := by decide +kernel
theorem dX6_isPerson_22 : decode cX6_isPerson 22 = .ok (.invokestatic 27, 3) := by decide +kernel
theorem dX6_isPerson_25 : decode cX6_isPerson 25 = .ok (.ifCond .eq 7, 3) := by decide +kernel
theorem dX6_isPerson_28 : decode cX6_isPerson 28 = .ok (.iconst 1, 1) := by decide +kernel
theorem dX6_isPerson_29 : decode cX6_isPerson 29 = .ok (.goto 4, 3) := by decide +kernel
theorem dX6_isPerson_32 : decode cX6_isPerson 32 = .ok (.iconst 0, 1) := by decide +kernel
theorem dX6_isPerson_33 : decode cX6_isPerson 33 = .ok (.ireturn, 1) := by decide +kernel
theorem dX6_of_0 : decode cX6_of 0 = .ok (.bipush 14, 2) := by decide +kernel
theorem dX6_of_2 : decode cX6_of 2 = .ok (.iload_n 0, 1) := by decide +kernel
theorem dX6_of_3 : decode cX6_of 3 = .ok (.imul, 1) := by decide +kernel
theorem dX6_of_4 : decode cX6_of 4 = .ok (.iload_n 1, 1) := by decide +kernel
theorem dX6_of_5 : decode cX6_of 5 = .ok (.iadd, 1) := by decide +kernel
theorem dX6_of_6 : decode cX6_of 6 = .ok (.ireturn, 1) := by decide +kernel
theorem dX6_ofPerson_0 : decode cX6_ofPerson 0 = .ok (.bipush 14, 2) := by decide +kernel
theorem dX6_ofPerson_2 : decode cX6_ofPerson 2 = .ok (.iload_n 0, 1) := by decide +kernel
theorem dX6_ofPerson_3 : decode cX6_ofPerson 3 = .ok (.imul, 1) := by decide +kernel
theorem dX6_ofPerson_4 : decode cX6_ofPerson 4 = .ok (.bipush 8, 2) := by decide +kernel
theorem dX6_ofPerson_6 : decode cX6_ofPerson 6 = .ok (.iadd, 1) := by decide +kernel
theorem dX6_ofPerson_7 : decode cX6_ofPerson 7 = .ok (.iconst 2, 1) := by decide +kernel
theorem dX6_ofPerson_8 : decode cX6_ofPerson 8 = .ok (.iload_n 1, 1) := by decide +kernel
theorem dX6_ofPerson_9 : decode cX6_ofPerson 9 = .ok (.imul, 1) := by decide +kernel
theorem dX6_ofPerson_10 : decode cX6_ofPerson 10 = .ok (.iadd, 1) := by decide +kernel
theorem dX6_ofPerson_11 : decode cX6_ofPerson 11 = .ok (.iload_n 2, 1) := by decide +kernel
theorem dX6_ofPerson_12 : decode cX6_ofPerson 12 = .ok (.iadd, 1) := by decide +kernel
theorem dX6_ofPerson_13 : decode cX6_ofPerson 13 = .ok (.ireturn, 1) := by decide +kernel
theorem dX6_save_0 : decode cX6_save 0 = .ok (.aload_n 0, 1) := by decide +kernel
theorem dX6_save_1 : decode cX6_save 1 = .ok (.getfield 35, 3) := by decide +kernel
theorem dX6_save_4 : decode cX6_save 4 = .ok (.bipush 6, 2) := by decide +kernel
theorem dX6_save_6 : decode cX6_save 6 = .ok (.if_icmp .ne 43, 3) := by decide +kernel
theorem dX6_save_9 : decode cX6_save 9 = .ok (.iconst 0, 1) := by decide +kernel
theorem dX6_save_10 : decode cX6_save 10 = .ok (.istore_n 1, 1) := by decide +kernel
theorem dX6_save_11 : decode cX6_save 11 = .ok (.iload_n 1, 1) := by decide +kernel
theorem dX6_save_12 : decode cX6_save 12 = .ok (.sipush 290, 3) := by decide +kernel
theorem dX6_save_15 : decode cX6_save 15 = .ok (.if_icmp .ge 24, 3) := by decide +kernel
theorem dX6_save_18 : decode cX6_save 18 = .ok (.aload_n 0, 1) := by decide +kernel
theorem dX6_save_19 : decode cX6_save 19 = .ok (.getfield 13, 3) := by decide +kernel
theorem dX6_save_22 : decode cX6_save 22 = .ok (.iload_n 1, 1) := by decide +kernel
theorem dX6_save_23 : decode cX6_save 23 = .ok (.aload_n 0, 1) := by decide +kernel
theorem dX6_save_24 : decode cX6_save 24 = .ok (.getfield 13, 3) := by decide +kernel
theorem dX6_save_27 : decode cX6_save 27 = .ok (.iload_n 1, 1) := by decide +kernel
theorem dX6_save_28 : decode cX6_save 28 = .ok (.bipush 58, 2) := by decide +kernel
theorem dX6_save_30 : decode cX6_save 30 = .ok (.iadd, 1) := by decide +kernel
theorem dX6_save_31 : decode cX6_save 31 = .ok (.iaload, 1) := by decide +kernel
theorem dX6_save_32 : decode cX6_save 32 = .ok (.iastore, 1) := by decide +kernel
theorem dX6_save_33 : decode cX6_save 33 = .ok (.iinc 1 1, 3) := by decide +kernel
theorem dX6_save_36 : decode cX6_save 36 = .ok (.goto (-25), 3) := by decide +kernel
theorem dX6_save_39 : decode cX6_save 39 = .ok (.aload_n 0, 1) := by decide +kernel
theorem dX6_save_40 : decode cX6_save 40 = .ok (.dup, 1) := by decide +kernel
theorem dX6_save_41 : decode cX6_save 41 = .ok (.getfield 35, 3) := by decide +kernel
theorem dX6_save_44 : decode cX6_save 44 = .ok (.iconst 1, 1) := by decide +kernel
theorem dX6_save_45 : decode cX6_save 45 = .ok (.isub, 1) := by decide +kernel
theorem dX6_save_46 : decode cX6_save 46 = .ok (.putfield 35, 3) := by decide +kernel
theorem dX6_save_49 : decode cX6_save 49 = .ok (.iconst 0, 1) := by decide +kernel
theorem dX6_save_50 : decode cX6_save 50 = .ok (.istore_n 1, 1) := by decide +kernel
theorem dX6_save_51 : decode cX6_save 51 = .ok (.iload_n 1, 1) := by decide +kernel
theorem dX6_save_52 : decode cX6_save 52 = .ok (.bipush 58, 2) := by decide +kernel
theorem dX6_save_54 : decode cX6_save 54 = .ok (.if_icmp .ge 29, 3) := by decide +kernel
theorem dX6_save_57 : decode cX6_save 57 = .ok (.aload_n 0, 1) := by decide +kernel
theorem dX6_save_58 : decode cX6_save 58 = .ok (.getfield 13, 3) := by decide +kernel
theorem dX6_save_61 : decode cX6_save 61 = .ok (.bipush 58, 2) := by decide +kernel
theorem dX6_save_63 : decode cX6_save 63 = .ok (.aload_n 0, 1) := by decide +kernel
theorem dX6_save_64 : decode cX6_save 64 = .ok (.getfield 35, 3) := by decide +kernel
theorem dX6_save_67 : decode cX6_save 67 = .ok (.imul, 1) := by decide +kernel
theorem dX6_save_68 : decode cX6_save 68 = .ok (.iload_n 1, 1) := by decide +kernel
theorem dX6_save_69 : decode cX6_save 69 = .ok (.iadd, 1) := by decide +kernel
theorem dX6_save_70 : decode cX6_save 70 = .ok (.aload_n 0, 1) := by decide +kernel
theorem dX6_save_71 : decode cX6_save 71 = .ok (.getfield 7, 3) := by decide +kernel
theorem dX6_save_74 : decode cX6_save 74 = .ok (.iload_n 1, 1) := by decide +kernel
theorem dX6_save_75 : decode cX6_save 75 = .ok (.iaload, 1) := by decide +kernel
theorem dX6_save_76 : decode cX6_save 76 = .ok (.iastore, 1) := by decide +kernel
theorem dX6_save_77 : decode cX6_save 77 = .ok (.iinc 1 1, 3) := by decide +kernel
theorem dX6_save_80 : decode cX6_save 80 = .ok (.goto (-29), 3) := by decide +kernel
theorem dX6_save_83 : decode cX6_save 83 = .ok (.aload_n 0, 1) := by decide +kernel
theorem dX6_save_84 : decode cX6_save 84 = .ok (.dup, 1) := by decide +kernel
theorem dX6_save_85 : decode cX6_save 85 = .ok (.getfield 35, 3) := by decide +kernel
theorem dX6_save_88 : decode cX6_save 88 = .ok (.iconst 1, 1) := by decide +kernel
theorem dX6_save_89 : decode cX6_save 89 = .ok (.iadd, 1) := by decide +kernel
theorem dX6_save_90 : decode cX6_save 90 = .ok (.putfield 35, 3) := by decide +kernel
theorem dX6_save_93 : decode cX6_save 93 = .ok (.return_, 1) := by decide +kernel
theorem dX6_groundOf_0 : decode cX6_groundOf 0 = .ok (.iload_n 0, 1) := by decide +kernel
theorem dX6_groundOf_1 : decode cX6_groundOf 1 = .ok (.ifCond .ne 7, 3) := by decide +kernel
theorem dX6_groundOf_4 : decode cX6_groundOf 4 = .ok (.iconst 5, 1) := by decide +kernel
theorem dX6_groundOf_5 : decode cX6_groundOf 5 = .ok (.goto 25, 3) := by decide +kernel
theorem dX6_groundOf_8 : decode cX6_groundOf 8 = .ok (.iload_n 0, 1) := by decide +kernel
theorem dX6_groundOf_9 : decode cX6_groundOf 9 = .ok (.iconst 1, 1) := by decide +kernel
theorem dX6_groundOf_10 : decode cX6_groundOf 10 = .ok (.if_icmp .ne 8, 3) := by decide +kernel
theorem dX6_groundOf_13 : decode cX6_groundOf 13 = .ok (.bipush 25, 2) := by decide +kernel
theorem dX6_groundOf_15 : decode cX6_groundOf 15 = .ok (.goto 15, 3) := by decide +kernel
theorem dX6_groundOf_18 : decode cX6_groundOf 18 = .ok (.iload_n 0, 1) := by decide +kernel
theorem dX6_groundOf_19 : decode cX6_groundOf 19 = .ok (.iconst 2, 1) := by decide +kernel
theorem dX6_groundOf_20 : decode cX6_groundOf 20 = .ok (.if_icmp .ne 8, 3) := by decide +kernel
theorem dX6_groundOf_23 : decode cX6_groundOf 23 = .ok (.bipush 40, 2) := by decide +kernel
theorem dX6_groundOf_25 : decode cX6_groundOf 25 = .ok (.goto 5, 3) := by decide +kernel
theorem dX6_groundOf_28 : decode cX6_groundOf 28 = .ok (.bipush 60, 2) := by decide +kernel
theorem dX6_groundOf_30 : decode cX6_groundOf 30 = .ok (.ireturn, 1) := by decide +kernel
theorem dX6_wallOf_0 : decode cX6_wallOf 0 = .ok (.iload_n 0, 1) := by decide +kernel
theorem dX6_wallOf_1 : decode cX6_wallOf 1 = .ok (.ifCond .ne 7, 3) := by decide +kernel
theorem dX6_wallOf_4 : decode cX6_wallOf 4 = .ok (.iconst 0, 1) := by decide +kernel
theorem dX6_wallOf_5 : decode cX6_wallOf 5 = .ok (.goto 25, 3) := by decide +kernel
theorem dX6_wallOf_8 : decode cX6_wallOf 8 = .ok (.iload_n 0, 1) := by decide +kernel
theorem dX6_wallOf_9 : decode cX6_wallOf 9 = .ok (.iconst 1, 1) := by decide +kernel
theorem dX6_wallOf_10 : decode cX6_wallOf 10 = .ok (.if_icmp .ne 8, 3) := by decide +kernel
theorem dX6_wallOf_13 : decode cX6_wallOf 13 = .ok (.bipush 20, 2) := by decide +kernel
theorem dX6_wallOf_15 : decode cX6_wallOf 15 = .ok (.goto 15, 3) := by decide +kernel
theorem dX6_wallOf_18 : decode cX6_wallOf 18 = .ok (.iload_n 0, 1) := by decide +kernel
theorem dX6_wallOf_19 : decode cX6_wallOf 19 = .ok (.iconst 2, 1) := by decide +kernel
theorem dX6_wallOf_20 : decode cX6_wallOf 20 = .ok (.if_icmp .ne 8, 3) := by decide +kernel
theorem dX6_wallOf_23 : decode cX6_wallOf 23 = .ok (.bipush 45, 2) := by decide +kernel
theorem dX6_wallOf_25 : decode cX6_wallOf 25 = .ok (.goto 5, 3) := by decide +kernel
theorem dX6_wallOf_28 : decode cX6_wallOf 28 = .ok (.bipush 60, 2) := by decide +kernel
theorem dX6_wallOf_30 : decode cX6_wallOf 30 = .ok (.ireturn, 1) := by decide +kernel
set_option maxRecDepth 20000 in
theorem ggX6_loadOf_X6_of : GoodIn wsX6_loadOf wsX6_of := goodIn_r _ [5] (by decide +kernel) (by decide +kernel)
set_option maxRecDepth 20000 in
theorem gX6_loadOf_X6_of : GoodIn wsX6_loadOf (va_wsS RX6 19 yX6_of wsX6_of) := goodIn_app (goodIn_of _ (by decide +kernel)) ggX6_loadOf_X6_of
set_option maxRecDepth 20000 in
theorem ggX6_loadOf_X6_ofPerson : GoodIn wsX6_loadOf wsX6_ofPerson := goodIn_r _ [8] (by decide +kernel) (by decide +kernel)
set_option maxRecDepth 20000 in
theorem gX6_loadOf_X6_ofPerson : GoodIn wsX6_loadOf (va_wsS RX6 38 yX6_ofPerson wsX6_ofPerson) := goodIn_app (goodIn_of _ (by decide +kernel)) ggX6_loadOf_X6_ofPerson
theorem dX6_loadOf_0 : decode cX6_loadOf 0 = .ok (.aload_n 0, 1) := by decide +kernel
theorem dX6_loadOf_1 : decode cX6_loadOf 1 = .ok (.getfield 7, 3) := by decide +kernel
theorem dX6_loadOf_4 : decode cX6_loadOf 4 = .ok (.iload_n 1, 1) := by decide +kernel
theorem dX6_loadOf_5 : decode cX6_loadOf 5 = .ok (.iconst 2, 1) := by decide +kernel
theorem dX6_loadOf_6 : decode cX6_loadOf 6 = .ok (.invokestatic 19, 3) := by decide +kernel
theorem dX6_loadOf_9 : decode cX6_loadOf 9 = .ok (.iaload, 1) := by decide +kernel
theorem dX6_loadOf_10 : decode cX6_loadOf 10 = .ok (.istore_n 2, 1) := by decide +kernel
theorem dX6_loadOf_11 : decode cX6_loadOf 11 = .ok (.iconst 0, 1) := by decide +kernel
theorem dX6_loadOf_12 : decode cX6_loadOf 12 = .ok (.istore_n 3, 1) := by decide +kernel
theorem dX6_loadOf_13 : decode cX6_loadOf 13 = .ok (.iload_n 3, 1) := by decide +kernel
theorem dX6_loadOf_14 : decode cX6_loadOf 14 = .ok (.aload_n 0, 1) := by decide +kernel
theorem dX6_loadOf_15 : decode cX6_loadOf 15 = .ok (.getfield 7, 3) := by decide +kernel
theorem dX6_loadOf_18 : decode cX6_loadOf 18 = .ok (.iload_n 1, 1) := by decide +kernel
theorem dX6_loadOf_19 : decode cX6_loadOf 19 = .ok (.bipush 6, 2) := by decide +kernel
theorem dX6_loadOf_21 : decode cX6_loadOf 21 = .ok (.invokestatic 19, 3) := by decide +kernel
theorem dX6_loadOf_24 : decode cX6_loadOf 24 = .ok (.iaload, 1) := by decide +kernel
theorem dX6_loadOf_25 : decode cX6_loadOf 25 = .ok (.if_icmp .ge 23, 3) := by decide +kernel
theorem dX6_loadOf_28 : decode cX6_loadOf 28 = .ok (.iload_n 2, 1) := by decide +kernel
theorem dX6_loadOf_29 : decode cX6_loadOf 29 = .ok (.aload_n 0, 1) := by decide +kernel
theorem dX6_loadOf_30 : decode cX6_loadOf 30 = .ok (.getfield 7, 3) := by decide +kernel
theorem dX6_loadOf_33 : decode cX6_loadOf 33 = .ok (.iload_n 1, 1) := by decide +kernel
theorem dX6_loadOf_34 : decode cX6_loadOf 34 = .ok (.iload_n 3, 1) := by decide +kernel
theorem dX6_loadOf_35 : decode cX6_loadOf 35 = .ok (.iconst 0, 1) := by decide +kernel
theorem dX6_loadOf_36 : decode cX6_loadOf 36 = .ok (.invokestatic 38, 3) := by decide +kernel
theorem dX6_loadOf_39 : decode cX6_loadOf 39 = .ok (.iaload, 1) := by decide +kernel
theorem dX6_loadOf_40 : decode cX6_loadOf 40 = .ok (.iadd, 1) := by decide +kernel
theorem dX6_loadOf_41 : decode cX6_loadOf 41 = .ok (.istore_n 2, 1) := by decide +kernel
theorem dX6_loadOf_42 : decode cX6_loadOf 42 = .ok (.iinc 3 1, 3) := by decide +kernel
theorem dX6_loadOf_45 : decode cX6_loadOf 45 = .ok (.goto (-32), 3) := by decide +kernel
theorem dX6_loadOf_48 : decode cX6_loadOf 48 = .ok (.iload_n 2, 1) := by decide +kernel
theorem dX6_loadOf_49 : decode cX6_loadOf 49 = .ok (.ireturn, 1) := by decide +kernel
set_option maxRecDepth 20000 in
theorem ggX6_momentOf_X6_of : GoodIn wsX6_momentOf wsX6_of := goodIn_r _ [5] (by decide +kernel) (by decide +kernel)
set_option maxRecDepth 20000 in
theorem gX6_momentOf_X6_of : GoodIn wsX6_momentOf (va_wsS RX6 19 yX6_of wsX6_of) := goodIn_app (goodIn_of _ (by decide +kernel)) ggX6_momentOf_X6_of
set_option maxRecDepth 20000 in
theorem ggX6_momentOf_X6_ofPerson : GoodIn wsX6_momentOf wsX6_ofPerson := goodIn_r _ [8] (by decide +kernel) (by decide +kernel)
set_option maxRecDepth 20000 in
theorem gX6_momentOf_X6_ofPerson : GoodIn wsX6_momentOf (va_wsS RX6 38 yX6_ofPerson wsX6_ofPerson) := goodIn_app (goodIn_of _ (by decide +kernel)) ggX6_momentOf_X6_ofPerson
theorem dX6_momentOf_0 : decode cX6_momentOf 0 = .ok (.iconst 5, 1) := by decide +kernel
theorem dX6_momentOf_1 : decode cX6_momentOf 1 = .ok (.aload_n 0, 1) := by decide +kernel
theorem dX6_momentOf_2 : decode cX6_momentOf 2 = .ok (.getfield 7, 3) := by decide +kernel
theorem dX6_momentOf_5 : decode cX6_momentOf 5 = .ok (.iload_n 1, 1) := by decide +kernel
theorem dX6_momentOf_6 : decode cX6_momentOf 6 = .ok (.iconst 2, 1) := by decide +kernel
theorem dX6_momentOf_7 : decode cX6_momentOf 7 = .ok (.invokestatic 19, 3) := by decide +kernel
theorem dX6_momentOf_10 : decode cX6_momentOf 10 = .ok (.iaload, 1) := by decide +kernel
theorem dX6_momentOf_11 : decode cX6_momentOf 11 = .ok (.imul, 1) := by decide +kernel
theorem dX6_momentOf_12 : decode cX6_momentOf 12 = .ok (.istore_n 2, 1) := by decide +kernel
theorem dX6_momentOf_13 : decode cX6_momentOf 13 = .ok (.iconst 0, 1) := by decide +kernel
theorem dX6_momentOf_14 : decode cX6_momentOf 14 = .ok (.istore_n 3, 1) := by decide +kernel
theorem dX6_momentOf_15 : decode cX6_momentOf 15 = .ok (.iload_n 3, 1) := by decide +kernel
theorem dX6_momentOf_16 : decode cX6_momentOf 16 = .ok (.aload_n 0, 1) := by decide +kernel
theorem dX6_momentOf_17 : decode cX6_momentOf 17 = .ok (.getfield 7, 3) := by decide +kernel
theorem dX6_momentOf_20 : decode cX6_momentOf 20 = .ok (.iload_n 1, 1) := by decide +kernel
theorem dX6_momentOf_21 : decode cX6_momentOf 21 = .ok (.bipush 6, 2) := by decide +kernel
theorem dX6_momentOf_23 : decode cX6_momentOf 23 = .ok (.invokestatic 19, 3) := by decide +kernel
theorem dX6_momentOf_26 : decode cX6_momentOf 26 = .ok (.iaload, 1) := by decide +kernel
theorem dX6_momentOf_27 : decode cX6_momentOf 27 = .ok (.if_icmp .ge 35, 3) := by decide +kernel
theorem dX6_momentOf_30 : decode cX6_momentOf 30 = .ok (.iload_n 2, 1) := by decide +kernel
theorem dX6_momentOf_31 : decode cX6_momentOf 31 = .ok (.aload_n 0, 1) := by decide +kernel
theorem dX6_momentOf_32 : decode cX6_momentOf 32 = .ok (.getfield 7, 3) := by decide +kernel
theorem dX6_momentOf_35 : decode cX6_momentOf 35 = .ok (.iload_n 1, 1) := by decide +kernel
theorem dX6_momentOf_36 : decode cX6_momentOf 36 = .ok (.iload_n 3, 1) := by decide +kernel
theorem dX6_momentOf_37 : decode cX6_momentOf 37 = .ok (.iconst 0, 1) := by decide +kernel
theorem dX6_momentOf_38 : decode cX6_momentOf 38 = .ok (.invokestatic 38, 3) := by decide +kernel
theorem dX6_momentOf_41 : decode cX6_momentOf 41 = .ok (.iaload, 1) := by decide +kernel
theorem dX6_momentOf_42 : decode cX6_momentOf 42 = .ok (.aload_n 0, 1) := by decide +kernel
theorem dX6_momentOf_43 : decode cX6_momentOf 43 = .ok (.getfield 7, 3) := by decide +kernel
theorem dX6_momentOf_46 : decode cX6_momentOf 46 = .ok (.iload_n 1, 1) := by decide +kernel
theorem dX6_momentOf_47 : decode cX6_momentOf 47 = .ok (.iload_n 3, 1) := by decide +kernel
theorem dX6_momentOf_48 : decode cX6_momentOf 48 = .ok (.iconst 1, 1) := by decide +kernel
theorem dX6_momentOf_49 : decode cX6_momentOf 49 = .ok (.invokestatic 38, 3) := by decide +kernel
theorem dX6_momentOf_52 : decode cX6_momentOf 52 = .ok (.iaload, 1) := by decide +kernel
theorem dX6_momentOf_53 : decode cX6_momentOf 53 = .ok (.imul, 1) := by decide +kernel
theorem dX6_momentOf_54 : decode cX6_momentOf 54 = .ok (.iadd, 1) := by decide +kernel
theorem dX6_momentOf_55 : decode cX6_momentOf 55 = .ok (.istore_n 2, 1) := by decide +kernel
theorem dX6_momentOf_56 : decode cX6_momentOf 56 = .ok (.iinc 3 1, 3) := by decide +kernel
theorem dX6_momentOf_59 : decode cX6_momentOf 59 = .ok (.goto (-44), 3) := by decide +kernel
theorem dX6_momentOf_62 : decode cX6_momentOf 62 = .ok (.aload_n 0, 1) := by decide +kernel
theorem dX6_momentOf_63 : decode cX6_momentOf 63 = .ok (.getfield 7, 3) := by decide +kernel
theorem dX6_momentOf_66 : decode cX6_momentOf 66 = .ok (.iload_n 1, 1) := by decide +kernel
theorem dX6_momentOf_67 : decode cX6_momentOf 67 = .ok (.iconst 0, 1) := by decide +kernel
theorem dX6_momentOf_68 : decode cX6_momentOf 68 = .ok (.invokestatic 19, 3) := by decide +kernel
theorem dX6_momentOf_71 : decode cX6_momentOf 71 = .ok (.iaload, 1) := by decide +kernel
theorem dX6_momentOf_72 : decode cX6_momentOf 72 = .ok (.iload_n 2, 1) := by decide +kernel
theorem dX6_momentOf_73 : decode cX6_momentOf 73 = .ok (.imul, 1) := by decide +kernel
theorem dX6_momentOf_74 : decode cX6_momentOf 74 = .ok (.ireturn, 1) := by decide +kernel
set_option maxRecDepth 20000 in
theorem ggX6_pushOf_X6_momentOf : GoodIn wsX6_pushOf wsX6_momentOf := goodIn_r _ [6, 1, 7, 8, 5, 9, 10, 11, 12, 13, 14, 15, 16, 17, 18, 19, 20, 21, 22, 23, 24, 25, 26, 27, 28] (by decide +kernel) (by decide +kernel)
set_option maxRecDepth 20000 in
theorem gX6_pushOf_X6_momentOf : GoodIn wsX6_pushOf (wsV RX6 42 RX6 yX6_momentOf wsX6_momentOf) := goodIn_app (goodIn_of _ (by decide +kernel)) ggX6_pushOf_X6_momentOf
set_option maxRecDepth 20000 in
theorem ggX6_pushOf_X6_of : GoodIn wsX6_pushOf wsX6_of := goodIn_r _ [9] (by decide +kernel) (by decide +kernel)
set_option maxRecDepth 20000 in
theorem gX6_pushOf_X6_of : GoodIn wsX6_pushOf (va_wsS RX6 19 yX6_of wsX6_of) := goodIn_app (goodIn_of _ (by decide +kernel)) ggX6_pushOf_X6_of
theorem dX6_pushOf_0 : decode cX6_pushOf 0 = .ok (.aload_n 0, 1) := by decide +kernel
theorem dX6_pushOf_1 : decode cX6_pushOf 1 = .ok (.iload_n 1, 1) := by decide +kernel
theorem dX6_pushOf_2 : decode cX6_pushOf 2 = .ok (.invokevirtual 42, 3) := by decide +kernel
theorem dX6_pushOf_5 : decode cX6_pushOf 5 = .ok (.bipush 10, 2) := by decide +kernel
theorem dX6_pushOf_7 : decode cX6_pushOf 7 = .ok (.iload_n 2, 1) := by decide +kernel
theorem dX6_pushOf_8 : decode cX6_pushOf 8 = .ok (.imul, 1) := by decide +kernel
theorem dX6_pushOf_9 : decode cX6_pushOf 9 = .ok (.aload_n 0, 1) := by decide +kernel
theorem dX6_pushOf_10 : decode cX6_pushOf 10 = .ok (.getfield 7, 3) := by decide +kernel
theorem dX6_pushOf_13 : decode cX6_pushOf 13 = .ok (.iload_n 1, 1) := by decide +kernel
theorem dX6_pushOf_14 : decode cX6_pushOf 14 = .ok (.iconst 0, 1) := by decide +kernel
theorem dX6_pushOf_15 : decode cX6_pushOf 15 = .ok (.invokestatic 19, 3) := by decide +kernel
theorem dX6_pushOf_18 : decode cX6_pushOf 18 = .ok (.iaload, 1) := by decide +kernel
theorem dX6_pushOf_19 : decode cX6_pushOf 19 = .ok (.imul, 1) := by decide +kernel
theorem dX6_pushOf_20 : decode cX6_pushOf 20 = .ok (.isub, 1) := by decide +kernel
theorem dX6_pushOf_21 : decode cX6_pushOf 21 = .ok (.ireturn, 1) := by decide +kernel
set_option maxRecDepth 20000 in
theorem ggX6_lacks_X6_of : GoodIn wsX6_lacks wsX6_of := goodIn_r _ [5] (by decide +kernel) (by decide +kernel)
set_option maxRecDepth 20000 in
theorem gX6_lacks_X6_of : GoodIn wsX6_lacks (va_wsS RX6 19 yX6_of wsX6_of) := goodIn_app (goodIn_of _ (by decide +kernel)) ggX6_lacks_X6_of
set_option maxRecDepth 20000 in
theorem ggX6_lacks_X6_wallOf : GoodIn wsX6_lacks wsX6_wallOf := goodIn_r _ [8] (by decide +kernel) (by decide +kernel)
set_option maxRecDepth 20000 in
theorem gX6_lacks_X6_wallOf : GoodIn wsX6_lacks (va_wsS RX6 46 yX6_wallOf wsX6_wallOf) := goodIn_app (goodIn_of _ (by decide +kernel)) ggX6_lacks_X6_wallOf
set_option maxRecDepth 20000 in
theorem ggX6_lacks_X6_groundOf : GoodIn wsX6_lacks wsX6_groundOf := goodIn_r _ [11] (by decide +kernel) (by decide +kernel)
set_option maxRecDepth 20000 in
theorem gX6_lacks_X6_groundOf : GoodIn wsX6_lacks (va_wsS RX6 49 yX6_groundOf wsX6_groundOf) := goodIn_app (goodIn_of _ (by decide +kernel)) ggX6_lacks_X6_groundOf
theorem dX6_lacks_0 : decode cX6_lacks 0 = .ok (.aload_n 0, 1) := by decide +kernel
theorem dX6_lacks_1 : decode cX6_lacks 1 = .ok (.getfield 7, 3) := by decide +kernel
theorem dX6_lacks_4 : decode cX6_lacks 4 = .ok (.iload_n 1, 1) := by decide +kernel
theorem dX6_lacks_5 : decode cX6_lacks 5 = .ok (.iconst 1, 1) := by decide +kernel
theorem dX6_lacks_6 : decode cX6_lacks 6 = .ok (.invokestatic 19, 3) := by decide +kernel
theorem dX6_lacks_9 : decode cX6_lacks 9 = .ok (.iaload, 1) := by decide +kernel
theorem dX6_lacks_10 : decode cX6_lacks 10 = .ok (.istore 5, 2) := by decide +kernel
theorem dX6_lacks_12 : decode cX6_lacks 12 = .ok (.aload_n 0, 1) := by decide +kernel
theorem dX6_lacks_13 : decode cX6_lacks 13 = .ok (.getfield 7, 3) := by decide +kernel
theorem dX6_lacks_16 : decode cX6_lacks 16 = .ok (.iload_n 1, 1) := by decide +kernel
theorem dX6_lacks_17 : decode cX6_lacks 17 = .ok (.iconst 4, 1) := by decide +kernel
theorem dX6_lacks_18 : decode cX6_lacks 18 = .ok (.invokestatic 19, 3) := by decide +kernel
theorem dX6_lacks_21 : decode cX6_lacks 21 = .ok (.iaload, 1) := by decide +kernel
theorem dX6_lacks_22 : decode cX6_lacks 22 = .ok (.istore 6, 2) := by decide +kernel
theorem dX6_lacks_24 : decode cX6_lacks 24 = .ok (.iload_n 2, 1) := by decide +kernel
theorem dX6_lacks_25 : decode cX6_lacks 25 = .ok (.ifCond .ge 8, 3) := by decide +kernel
theorem dX6_lacks_28 : decode cX6_lacks 28 = .ok (.iload_n 2, 1) := by decide +kernel
theorem dX6_lacks_29 : decode cX6_lacks 29 = .ok (.ineg, 1) := by decide +kernel
theorem dX6_lacks_30 : decode cX6_lacks 30 = .ok (.goto 4, 3) := by decide +kernel
theorem dX6_lacks_33 : decode cX6_lacks 33 = .ok (.iload_n 2, 1) := by decide +kernel
theorem dX6_lacks_34 : decode cX6_lacks 34 = .ok (.istore 7, 2) := by decide +kernel
theorem dX6_lacks_36 : decode cX6_lacks 36 = .ok (.sipush 1000, 3) := by decide +kernel
theorem dX6_lacks_39 : decode cX6_lacks 39 = .ok (.iload 5, 2) := by decide +kernel
theorem dX6_lacks_41 : decode cX6_lacks 41 = .ok (.imul, 1) := by decide +kernel
theorem dX6_lacks_42 : decode cX6_lacks 42 = .ok (.iload 7, 2) := by decide +kernel
theorem dX6_lacks_44 : decode cX6_lacks 44 = .ok (.imul, 1) := by decide +kernel
theorem dX6_lacks_45 : decode cX6_lacks 45 = .ok (.iload 6, 2) := by decide +kernel
theorem dX6_lacks_47 : decode cX6_lacks 47 = .ok (.invokestatic 46, 3) := by decide +kernel
theorem dX6_lacks_50 : decode cX6_lacks 50 = .ok (.iload 4, 2) := by decide +kernel
theorem dX6_lacks_52 : decode cX6_lacks 52 = .ok (.imul, 1) := by decide +kernel
theorem dX6_lacks_53 : decode cX6_lacks 53 = .ok (.if_icmp .gt 17, 3) := by decide +kernel
theorem dX6_lacks_56 : decode cX6_lacks 56 = .ok (.iload 6, 2) := by decide +kernel
theorem dX6_lacks_58 : decode cX6_lacks 58 = .ok (.iconst 3, 1) := by decide +kernel
theorem dX6_lacks_59 : decode cX6_lacks 59 = .ok (.if_icmp .ne 7, 3) := by decide +kernel
theorem dX6_lacks_62 : decode cX6_lacks 62 = .ok (.iload_n 2, 1) := by decide +kernel
theorem dX6_lacks_63 : decode cX6_lacks 63 = .ok (.ifCond .lt 7, 3) := by decide +kernel
theorem dX6_lacks_66 : decode cX6_lacks 66 = .ok (.iconst 1, 1) := by decide +kernel
theorem dX6_lacks_67 : decode cX6_lacks 67 = .ok (.goto 4, 3) := by decide +kernel
theorem dX6_lacks_70 : decode cX6_lacks 70 = .ok (.iconst 0, 1) := by decide +kernel
theorem dX6_lacks_71 : decode cX6_lacks 71 = .ok (.istore 8, 2) := by decide +kernel
theorem dX6_lacks_73 : decode cX6_lacks 73 = .ok (.bipush 100, 2) := by decide +kernel
theorem dX6_lacks_75 : decode cX6_lacks 75 = .ok (.iload 4, 2) := by decide +kernel
theorem dX6_lacks_77 : decode cX6_lacks 77 = .ok (.imul, 1) := by decide +kernel
theorem dX6_lacks_78 : decode cX6_lacks 78 = .ok (.bipush 10, 2) := by decide +kernel
theorem dX6_lacks_80 : decode cX6_lacks 80 = .ok (.iload 5, 2) := by decide +kernel
theorem dX6_lacks_82 : decode cX6_lacks 82 = .ok (.imul, 1) := by decide +kernel
theorem dX6_lacks_83 : decode cX6_lacks 83 = .ok (.aload_n 0, 1) := by decide +kernel
theorem dX6_lacks_84 : decode cX6_lacks 84 = .ok (.getfield 7, 3) := by decide +kernel
theorem dX6_lacks_87 : decode cX6_lacks 87 = .ok (.iload_n 1, 1) := by decide +kernel
theorem dX6_lacks_88 : decode cX6_lacks 88 = .ok (.iconst 3, 1) := by decide +kernel
theorem dX6_lacks_89 : decode cX6_lacks 89 = .ok (.invokestatic 19, 3) := by decide +kernel
theorem dX6_lacks_92 : decode cX6_lacks 92 = .ok (.iaload, 1) := by decide +kernel
theorem dX6_lacks_93 : decode cX6_lacks 93 = .ok (.invokestatic 49, 3) := by decide +kernel
theorem dX6_lacks_96 : decode cX6_lacks 96 = .ok (.iload_n 3, 1) := by decide +kernel
theorem dX6_lacks_97 : decode cX6_lacks 97 = .ok (.iload_n 2, 1) := by decide +kernel
theorem dX6_lacks_98 : decode cX6_lacks 98 = .ok (.isub, 1) := by decide +kernel
theorem dX6_lacks_99 : decode cX6_lacks 99 = .ok (.imul, 1) := by decide +kernel
theorem dX6_lacks_100 : decode cX6_lacks 100 = .ok (.bipush 100, 2) := by decide +kernel
theorem dX6_lacks_102 : decode cX6_lacks 102 = .ok (.aload_n 0, 1) := by decide +kernel
theorem dX6_lacks_103 : decode cX6_lacks 103 = .ok (.getfield 7, 3) := by decide +kernel
theorem dX6_lacks_106 : decode cX6_lacks 106 = .ok (.iload_n 1, 1) := by decide +kernel
theorem dX6_lacks_107 : decode cX6_lacks 107 = .ok (.iconst 5, 1) := by decide +kernel
theorem dX6_lacks_108 : decode cX6_lacks 108 = .ok (.invokestatic 19, 3) := by decide +kernel
theorem dX6_lacks_111 : decode cX6_lacks 111 = .ok (.iaload, 1) := by decide +kernel
theorem dX6_lacks_112 : decode cX6_lacks 112 = .ok (.imul, 1) := by decide +kernel
theorem dX6_lacks_113 : decode cX6_lacks 113 = .ok (.iadd, 1) := by decide +kernel
theorem dX6_lacks_114 : decode cX6_lacks 114 = .ok (.imul, 1) := by decide +kernel
theorem dX6_lacks_115 : decode cX6_lacks 115 = .ok (.if_icmp .gt 7, 3) := by decide +kernel
theorem dX6_lacks_118 : decode cX6_lacks 118 = .ok (.iconst 1, 1) := by decide +kernel
theorem dX6_lacks_119 : decode cX6_lacks 119 = .ok (.goto 4, 3) := by decide +kernel
theorem dX6_lacks_122 : decode cX6_lacks 122 = .ok (.iconst 0, 1) := by decide +kernel
theorem dX6_lacks_123 : decode cX6_lacks 123 = .ok (.istore 9, 2) := by decide +kernel
theorem dX6_lacks_125 : decode cX6_lacks 125 = .ok (.iload 4, 2) := by decide +kernel
theorem dX6_lacks_127 : decode cX6_lacks 127 = .ok (.ifCond .ge 7, 3) := by decide +kernel
theorem dX6_lacks_130 : decode cX6_lacks 130 = .ok (.iconst 1, 1) := by decide +kernel
theorem dX6_lacks_131 : decode cX6_lacks 131 = .ok (.goto 4, 3) := by decide +kernel
theorem dX6_lacks_134 : decode cX6_lacks 134 = .ok (.iconst 0, 1) := by decide +kernel
theorem dX6_lacks_135 : decode cX6_lacks 135 = .ok (.iload 8, 2) := by decide +kernel
theorem dX6_lacks_137 : decode cX6_lacks 137 = .ok (.ifCond .eq 7, 3) := by decide +kernel
theorem dX6_lacks_140 : decode cX6_lacks 140 = .ok (.iconst 0, 1) := by decide +kernel
theorem dX6_lacks_141 : decode cX6_lacks 141 = .ok (.goto 4, 3) := by decide +kernel
theorem dX6_lacks_144 : decode cX6_lacks 144 = .ok (.iconst 2, 1) := by decide +kernel
theorem dX6_lacks_145 : decode cX6_lacks 145 = .ok (.iadd, 1) := by decide +kernel
theorem dX6_lacks_146 : decode cX6_lacks 146 = .ok (.iload_n 2, 1) := by decide +kernel
theorem dX6_lacks_147 : decode cX6_lacks 147 = .ok (.iload_n 3, 1) := by decide +kernel
theorem dX6_lacks_148 : decode cX6_lacks 148 = .ok (.if_icmp .le 7, 3) := by decide +kernel
theorem dX6_lacks_151 : decode cX6_lacks 151 = .ok (.iconst 4, 1) := by decide +kernel
theorem dX6_lacks_152 : decode cX6_lacks 152 = .ok (.goto 4, 3) := by decide +kernel
theorem dX6_lacks_155 : decode cX6_lacks 155 = .ok (.iconst 0, 1) := by decide +kernel
theorem dX6_lacks_156 : decode cX6_lacks 156 = .ok (.iadd, 1) := by decide +kernel
theorem dX6_lacks_157 : decode cX6_lacks 157 = .ok (.iload 9, 2) := by decide +kernel
theorem dX6_lacks_159 : decode cX6_lacks 159 = .ok (.ifCond .eq 7, 3) := by decide +kernel
theorem dX6_lacks_162 : decode cX6_lacks 162 = .ok (.iconst 0, 1) := by decide +kernel
theorem dX6_lacks_163 : decode cX6_lacks 163 = .ok (.goto 5, 3) := by decide +kernel
theorem dX6_lacks_166 : decode cX6_lacks 166 = .ok (.bipush 8, 2) := by decide +kernel
theorem dX6_lacks_168 : decode cX6_lacks 168 = .ok (.iadd, 1) := by decide +kernel
theorem dX6_lacks_169 : decode cX6_lacks 169 = .ok (.ireturn, 1) := by decide +kernel
set_option maxRecDepth 20000 in
theorem ggX6_forces_X6_loadOf : GoodIn wsX6_forces wsX6_loadOf := goodIn_r _ [10, 1, 11, 12, 9, 13, 14, 15, 16, 31, 32, 33, 34, 35, 36, 37, 38, 39, 40, 41, 42, 43, 44, 45, 46] (by decide +kernel) (by decide +kernel)
set_option maxRecDepth 20000 in
theorem gX6_forces_X6_loadOf : GoodIn wsX6_forces (wsV RX6 52 RX6 yX6_loadOf wsX6_loadOf) := goodIn_app (goodIn_of _ (by decide +kernel)) ggX6_forces_X6_loadOf
set_option maxRecDepth 20000 in
theorem ggX6_forces_X6_momentOf : GoodIn wsX6_forces wsX6_momentOf := goodIn_r _ [20, 1, 11, 12, 9, 13, 14, 15, 16, 31, 32, 33, 34, 35, 36, 37, 38, 39, 40, 41, 42, 43, 44, 45, 46] (by decide +kernel) (by decide +kernel)
set_option maxRecDepth 20000 in
theorem gX6_forces_X6_momentOf : GoodIn wsX6_forces (wsV RX6 42 RX6 yX6_momentOf wsX6_momentOf) := goodIn_app (goodIn_of _ (by decide +kernel)) ggX6_forces_X6_momentOf
set_option maxRecDepth 20000 in
theorem ggX6_forces_X6_of : GoodIn wsX6_forces wsX6_of := goodIn_r _ [13] (by decide +kernel) (by decide +kernel)
set_option maxRecDepth 20000 in
theorem gX6_forces_X6_of : GoodIn wsX6_forces (va_wsS RX6 19 yX6_of wsX6_of) := goodIn_app (goodIn_of _ (by decide +kernel)) ggX6_forces_X6_of
set_option maxRecDepth 20000 in
theorem ggX6_forces_X6_lacks : GoodIn wsX6_forces wsX6_lacks := goodIn_r _ [24, 1, 11, 12, 9, 13, 25, 26, 27, 28, 29, 30, 31, 32, 33, 34, 35, 36, 37, 38, 39, 40, 41, 42, 43, 44, 45, 46] (by decide +kernel) (by decide +kernel)
set_option maxRecDepth 20000 in
theorem gX6_forces_X6_lacks : GoodIn wsX6_forces (wsV RX6 67 RX6 yX6_lacks wsX6_lacks) := goodIn_app (goodIn_of _ (by decide +kernel)) ggX6_forces_X6_lacks
theorem dX6_forces_0 : decode cX6_forces 0 = .ok (.aload_n 0, 1) := by decide +kernel
theorem dX6_forces_1 : decode cX6_forces 1 = .ok (.iload_n 1, 1) := by decide +kernel
theorem dX6_forces_2 : decode cX6_forces 2 = .ok (.invokevirtual 52, 3) := by decide +kernel
theorem dX6_forces_5 : decode cX6_forces 5 = .ok (.istore_n 2, 1) := by decide +kernel
theorem dX6_forces_6 : decode cX6_forces 6 = .ok (.aload_n 0, 1) := by decide +kernel
theorem dX6_forces_7 : decode cX6_forces 7 = .ok (.iload_n 1, 1) := by decide +kernel
theorem dX6_forces_8 : decode cX6_forces 8 = .ok (.invokevirtual 42, 3) := by decide +kernel
theorem dX6_forces_11 : decode cX6_forces 11 = .ok (.istore_n 3, 1) := by decide +kernel
theorem dX6_forces_12 : decode cX6_forces 12 = .ok (.aload_n 0, 1) := by decide +kernel
theorem dX6_forces_13 : decode cX6_forces 13 = .ok (.getfield 7, 3) := by decide +kernel
theorem dX6_forces_16 : decode cX6_forces 16 = .ok (.iload_n 1, 1) := by decide +kernel
theorem dX6_forces_17 : decode cX6_forces 17 = .ok (.iconst 0, 1) := by decide +kernel
theorem dX6_forces_18 : decode cX6_forces 18 = .ok (.invokestatic 19, 3) := by decide +kernel
theorem dX6_forces_21 : decode cX6_forces 21 = .ok (.iaload, 1) := by decide +kernel
theorem dX6_forces_22 : decode cX6_forces 22 = .ok (.istore 4, 2) := by decide +kernel
theorem dX6_forces_24 : decode cX6_forces 24 = .ok (.aload_n 0, 1) := by decide +kernel
theorem dX6_forces_25 : decode cX6_forces 25 = .ok (.iconst 0, 1) := by decide +kernel
theorem dX6_forces_26 : decode cX6_forces 26 = .ok (.putfield 55, 3) := by decide +kernel
theorem dX6_forces_29 : decode cX6_forces 29 = .ok (.aload_n 0, 1) := by decide +kernel
theorem dX6_forces_30 : decode cX6_forces 30 = .ok (.iconst 0, 1) := by decide +kernel
theorem dX6_forces_31 : decode cX6_forces 31 = .ok (.putfield 58, 3) := by decide +kernel
theorem dX6_forces_34 : decode cX6_forces 34 = .ok (.aload_n 0, 1) := by decide +kernel
theorem dX6_forces_35 : decode cX6_forces 35 = .ok (.iconst 0, 1) := by decide +kernel
theorem dX6_forces_36 : decode cX6_forces 36 = .ok (.putfield 61, 3) := by decide +kernel
theorem dX6_forces_39 : decode cX6_forces 39 = .ok (.aload_n 0, 1) := by decide +kernel
theorem dX6_forces_40 : decode cX6_forces 40 = .ok (.iconst 0, 1) := by decide +kernel
theorem dX6_forces_41 : decode cX6_forces 41 = .ok (.putfield 64, 3) := by decide +kernel
theorem dX6_forces_44 : decode cX6_forces 44 = .ok (.sipush (-1000), 3) := by decide +kernel
theorem dX6_forces_47 : decode cX6_forces 47 = .ok (.istore 5, 2) := by decide +kernel
theorem dX6_forces_49 : decode cX6_forces 49 = .ok (.iload 5, 2) := by decide +kernel
theorem dX6_forces_51 : decode cX6_forces 51 = .ok (.sipush 1000, 3) := by decide +kernel
theorem dX6_forces_54 : decode cX6_forces 54 = .ok (.if_icmp .gt 120, 3) := by decide +kernel
theorem dX6_forces_57 : decode cX6_forces 57 = .ok (.aload_n 0, 1) := by decide +kernel
theorem dX6_forces_58 : decode cX6_forces 58 = .ok (.iload_n 1, 1) := by decide +kernel
theorem dX6_forces_59 : decode cX6_forces 59 = .ok (.iload 5, 2) := by decide +kernel
theorem dX6_forces_61 : decode cX6_forces 61 = .ok (.iload_n 2, 1) := by decide +kernel
theorem dX6_forces_62 : decode cX6_forces 62 = .ok (.iload_n 3, 1) := by decide +kernel
theorem dX6_forces_63 : decode cX6_forces 63 = .ok (.bipush 10, 2) := by decide +kernel
theorem dX6_forces_65 : decode cX6_forces 65 = .ok (.iload 5, 2) := by decide +kernel
theorem dX6_forces_67 : decode cX6_forces 67 = .ok (.imul, 1) := by decide +kernel
theorem dX6_forces_68 : decode cX6_forces 68 = .ok (.iload 4, 2) := by decide +kernel
theorem dX6_forces_70 : decode cX6_forces 70 = .ok (.imul, 1) := by decide +kernel
theorem dX6_forces_71 : decode cX6_forces 71 = .ok (.isub, 1) := by decide +kernel
theorem dX6_forces_72 : decode cX6_forces 72 = .ok (.invokevirtual 67, 3) := by decide +kernel
theorem dX6_forces_75 : decode cX6_forces 75 = .ok (.ifCond .ne 93, 3) := by decide +kernel
theorem dX6_forces_78 : decode cX6_forces 78 = .ok (.iload 5, 2) := by decide +kernel
theorem dX6_forces_80 : decode cX6_forces 80 = .ok (.ifCond .lt 20, 3) := by decide +kernel
theorem dX6_forces_83 : decode cX6_forces 83 = .ok (.aload_n 0, 1) := by decide +kernel
theorem dX6_forces_84 : decode cX6_forces 84 = .ok (.getfield 64, 3) := by decide +kernel
theorem dX6_forces_87 : decode cX6_forces 87 = .ok (.ifCond .ge 17, 3) := by decide +kernel
theorem dX6_forces_90 : decode cX6_forces 90 = .ok (.iload 5, 2) := by decide +kernel
theorem dX6_forces_92 : decode cX6_forces 92 = .ok (.aload_n 0, 1) := by decide +kernel
theorem dX6_forces_93 : decode cX6_forces 93 = .ok (.getfield 64, 3) := by decide +kernel
theorem dX6_forces_96 : decode cX6_forces 96 = .ok (.ineg, 1) := by decide +kernel
theorem dX6_forces_97 : decode cX6_forces 97 = .ok (.if_icmp .gt 7, 3) := by decide +kernel
theorem dX6_forces_100 : decode cX6_forces 100 = .ok (.iconst 1, 1) := by decide +kernel
theorem dX6_forces_101 : decode cX6_forces 101 = .ok (.goto 4, 3) := by decide +kernel
theorem dX6_forces_104 : decode cX6_forces 104 = .ok (.iconst 0, 1) := by decide +kernel
theorem dX6_forces_105 : decode cX6_forces 105 = .ok (.istore 6, 2) := by decide +kernel
theorem dX6_forces_107 : decode cX6_forces 107 = .ok (.aload_n 0, 1) := by decide +kernel
theorem dX6_forces_108 : decode cX6_forces 108 = .ok (.aload_n 0, 1) := by decide +kernel
theorem dX6_forces_109 : decode cX6_forces 109 = .ok (.getfield 55, 3) := by decide +kernel
theorem dX6_forces_112 : decode cX6_forces 112 = .ok (.ifCond .ne 8, 3) := by decide +kernel
theorem dX6_forces_115 : decode cX6_forces 115 = .ok (.iload 5, 2) := by decide +kernel
theorem dX6_forces_117 : decode cX6_forces 117 = .ok (.goto 7, 3) := by decide +kernel
theorem dX6_forces_120 : decode cX6_forces 120 = .ok (.aload_n 0, 1) := by decide +kernel
theorem dX6_forces_121 : decode cX6_forces 121 = .ok (.getfield 58, 3) := by decide +kernel
theorem dX6_forces_124 : decode cX6_forces 124 = .ok (.putfield 58, 3) := by decide +kernel
theorem dX6_forces_127 : decode cX6_forces 127 = .ok (.aload_n 0, 1) := by decide +kernel
theorem dX6_forces_128 : decode cX6_forces 128 = .ok (.aload_n 0, 1) := by decide +kernel
theorem dX6_forces_129 : decode cX6_forces 129 = .ok (.getfield 55, 3) := by decide +kernel
theorem dX6_forces_132 : decode cX6_forces 132 = .ok (.ifCond .eq 8, 3) := by decide +kernel
theorem dX6_forces_135 : decode cX6_forces 135 = .ok (.iload 6, 2) := by decide +kernel
theorem dX6_forces_137 : decode cX6_forces 137 = .ok (.ifCond .eq 8, 3) := by decide +kernel
theorem dX6_forces_140 : decode cX6_forces 140 = .ok (.iload 5, 2) := by decide +kernel
theorem dX6_forces_142 : decode cX6_forces 142 = .ok (.goto 7, 3) := by decide +kernel
theorem dX6_forces_145 : decode cX6_forces 145 = .ok (.aload_n 0, 1) := by decide +kernel
theorem dX6_forces_146 : decode cX6_forces 146 = .ok (.getfield 64, 3) := by decide +kernel
theorem dX6_forces_149 : decode cX6_forces 149 = .ok (.putfield 64, 3) := by decide +kernel
theorem dX6_forces_152 : decode cX6_forces 152 = .ok (.aload_n 0, 1) := by decide +kernel
theorem dX6_forces_153 : decode cX6_forces 153 = .ok (.iload 5, 2) := by decide +kernel
theorem dX6_forces_155 : decode cX6_forces 155 = .ok (.putfield 61, 3) := by decide +kernel
theorem dX6_forces_158 : decode cX6_forces 158 = .ok (.aload_n 0, 1) := by decide +kernel
theorem dX6_forces_159 : decode cX6_forces 159 = .ok (.dup, 1) := by decide +kernel
theorem dX6_forces_160 : decode cX6_forces 160 = .ok (.getfield 55, 3) := by decide +kernel
theorem dX6_forces_163 : decode cX6_forces 163 = .ok (.iconst 1, 1) := by decide +kernel
theorem dX6_forces_164 : decode cX6_forces 164 = .ok (.iadd, 1) := by decide +kernel
theorem dX6_forces_165 : decode cX6_forces 165 = .ok (.putfield 55, 3) := by decide +kernel
theorem dX6_forces_168 : decode cX6_forces 168 = .ok (.iinc 5 1, 3) := by decide +kernel
theorem dX6_forces_171 : decode cX6_forces 171 = .ok (.goto (-122), 3) := by decide +kernel
theorem dX6_forces_174 : decode cX6_forces 174 = .ok (.aload_n 0, 1) := by decide +kernel
theorem dX6_forces_175 : decode cX6_forces 175 = .ok (.getfield 55, 3) := by decide +kernel
theorem dX6_forces_178 : decode cX6_forces 178 = .ok (.ireturn, 1) := by decide +kernel
set_option maxRecDepth 20000 in
theorem ggX6_stands_X6_forces : GoodIn wsX6_stands wsX6_forces := goodIn_r _ [5, 6, 7, 8, 9, 10, 11, 12, 13, 4, 14, 15, 16, 17, 18, 19, 20, 21, 22, 23, 24, 25, 26, 27, 28, 29, 30, 31, 32, 33, 34, 35, 36, 37, 38, 39, 40, 41, 42, 43, 44, 45, 46, 47, 48, 49, 50] (by decide +kernel) (by decide +kernel)
set_option maxRecDepth 20000 in
theorem gX6_stands_X6_forces : GoodIn wsX6_stands (wsV RX6 71 RX6 yX6_forces wsX6_forces) := goodIn_app (goodIn_of _ (by decide +kernel)) ggX6_stands_X6_forces
theorem dX6_stands_0 : decode cX6_stands 0 = .ok (.aload_n 0, 1) := by decide +kernel
theorem dX6_stands_1 : decode cX6_stands 1 = .ok (.iload_n 1, 1) := by decide +kernel
theorem dX6_stands_2 : decode cX6_stands 2 = .ok (.invokevirtual 71, 3) := by decide +kernel
theorem dX6_stands_5 : decode cX6_stands 5 = .ok (.ifCond .le 7, 3) := by decide +kernel
theorem dX6_stands_8 : decode cX6_stands 8 = .ok (.iconst 1, 1) := by decide +kernel
theorem dX6_stands_9 : decode cX6_stands 9 = .ok (.goto 4, 3) := by decide +kernel
theorem dX6_stands_12 : decode cX6_stands 12 = .ok (.iconst 0, 1) := by decide +kernel
theorem dX6_stands_13 : decode cX6_stands 13 = .ok (.ireturn, 1) := by decide +kernel
set_option maxRecDepth 20000 in
theorem ggX6_falls_X6_of : GoodIn wsX6_falls wsX6_of := goodIn_r _ [5] (by decide +kernel) (by decide +kernel)
set_option maxRecDepth 20000 in
theorem gX6_falls_X6_of : GoodIn wsX6_falls (va_wsS RX6 19 yX6_of wsX6_of) := goodIn_app (goodIn_of _ (by decide +kernel)) ggX6_falls_X6_of
set_option maxRecDepth 20000 in
theorem ggX6_falls_X6_stands : GoodIn wsX6_falls wsX6_stands := goodIn_r _ [9, 10, 11, 12, 4, 13, 1, 14, 15, 16, 17, 18, 19, 20, 21, 2, 3, 5, 22, 23, 24, 25, 26, 27, 28, 29, 30, 31, 32, 33, 34, 35, 36, 37, 38, 39, 40, 41, 42, 43, 44, 45, 46, 47, 48, 49, 50, 51, 52, 53, 54] (by decide +kernel) (by decide +kernel)
set_option maxRecDepth 20000 in
theorem gX6_falls_X6_stands : GoodIn wsX6_falls (wsV RX6 74 RX6 yX6_stands wsX6_stands) := goodIn_app (goodIn_of _ (by decide +kernel)) ggX6_falls_X6_stands
theorem dX6_falls_0 : decode cX6_falls 0 = .ok (.aload_n 0, 1) := by decide +kernel
theorem dX6_falls_1 : decode cX6_falls 1 = .ok (.getfield 7, 3) := by decide +kernel
theorem dX6_falls_4 : decode cX6_falls 4 = .ok (.iload_n 1, 1) := by decide +kernel
theorem dX6_falls_5 : decode cX6_falls 5 = .ok (.bipush 6, 2) := by decide +kernel
theorem dX6_falls_7 : decode cX6_falls 7 = .ok (.invokestatic 19, 3) := by decide +kernel
theorem dX6_falls_10 : decode cX6_falls 10 = .ok (.iaload, 1) := by decide +kernel
theorem dX6_falls_11 : decode cX6_falls 11 = .ok (.istore_n 2, 1) := by decide +kernel
theorem dX6_falls_12 : decode cX6_falls 12 = .ok (.iload_n 2, 1) := by decide +kernel
theorem dX6_falls_13 : decode cX6_falls 13 = .ok (.ifCond .eq 11, 3) := by decide +kernel
theorem dX6_falls_16 : decode cX6_falls 16 = .ok (.aload_n 0, 1) := by decide +kernel
theorem dX6_falls_17 : decode cX6_falls 17 = .ok (.iload_n 1, 1) := by decide +kernel
theorem dX6_falls_18 : decode cX6_falls 18 = .ok (.invokevirtual 74, 3) := by decide +kernel
theorem dX6_falls_21 : decode cX6_falls 21 = .ok (.ifCond .eq 5, 3) := by decide +kernel
theorem dX6_falls_24 : decode cX6_falls 24 = .ok (.iconst 0, 1) := by decide +kernel
theorem dX6_falls_25 : decode cX6_falls 25 = .ok (.ireturn, 1) := by decide +kernel
theorem dX6_falls_26 : decode cX6_falls 26 = .ok (.aload_n 0, 1) := by decide +kernel
theorem dX6_falls_27 : decode cX6_falls 27 = .ok (.getfield 7, 3) := by decide +kernel
theorem dX6_falls_30 : decode cX6_falls 30 = .ok (.iload_n 1, 1) := by decide +kernel
theorem dX6_falls_31 : decode cX6_falls 31 = .ok (.bipush 6, 2) := by decide +kernel
theorem dX6_falls_33 : decode cX6_falls 33 = .ok (.invokestatic 19, 3) := by decide +kernel
theorem dX6_falls_36 : decode cX6_falls 36 = .ok (.iconst 0, 1) := by decide +kernel
theorem dX6_falls_37 : decode cX6_falls 37 = .ok (.iastore, 1) := by decide +kernel
theorem dX6_falls_38 : decode cX6_falls 38 = .ok (.aload_n 0, 1) := by decide +kernel
theorem dX6_falls_39 : decode cX6_falls 39 = .ok (.getfield 7, 3) := by decide +kernel
theorem dX6_falls_42 : decode cX6_falls 42 = .ok (.iload_n 1, 1) := by decide +kernel
theorem dX6_falls_43 : decode cX6_falls 43 = .ok (.bipush 7, 2) := by decide +kernel
theorem dX6_falls_45 : decode cX6_falls 45 = .ok (.invokestatic 19, 3) := by decide +kernel
theorem dX6_falls_48 : decode cX6_falls 48 = .ok (.dup2, 1) := by decide +kernel
theorem dX6_falls_49 : decode cX6_falls 49 = .ok (.iaload, 1) := by decide +kernel
theorem dX6_falls_50 : decode cX6_falls 50 = .ok (.iconst 1, 1) := by decide +kernel
theorem dX6_falls_51 : decode cX6_falls 51 = .ok (.iadd, 1) := by decide +kernel
theorem dX6_falls_52 : decode cX6_falls 52 = .ok (.iastore, 1) := by decide +kernel
theorem dX6_falls_53 : decode cX6_falls 53 = .ok (.aload_n 0, 1) := by decide +kernel
theorem dX6_falls_54 : decode cX6_falls 54 = .ok (.getfield 7, 3) := by decide +kernel
theorem dX6_falls_57 : decode cX6_falls 57 = .ok (.bipush 56, 2) := by decide +kernel
theorem dX6_falls_59 : decode cX6_falls 59 = .ok (.dup2, 1) := by decide +kernel
theorem dX6_falls_60 : decode cX6_falls 60 = .ok (.iaload, 1) := by decide +kernel
theorem dX6_falls_61 : decode cX6_falls 61 = .ok (.iload_n 2, 1) := by decide +kernel
theorem dX6_falls_62 : decode cX6_falls 62 = .ok (.iadd, 1) := by decide +kernel
theorem dX6_falls_63 : decode cX6_falls 63 = .ok (.iastore, 1) := by decide +kernel
theorem dX6_falls_64 : decode cX6_falls 64 = .ok (.iconst 1, 1) := by decide +kernel
theorem dX6_falls_65 : decode cX6_falls 65 = .ok (.ireturn, 1) := by decide +kernel
set_option maxRecDepth 20000 in
theorem ggX6_put_X6_in : GoodIn wsX6_put wsX6_in := goodIn_r _ [5] (by decide +kernel) (by decide +kernel)
set_option maxRecDepth 20000 in
theorem gX6_put_X6_in : GoodIn wsX6_put (va_wsS RX6 27 yX6_in wsX6_in) := goodIn_app (goodIn_of _ (by decide +kernel)) ggX6_put_X6_in
set_option maxRecDepth 20000 in
theorem ggX6_put_X6_isLadder : GoodIn wsX6_put wsX6_isLadder := goodIn_r _ [8, 2, 3, 4, 5] (by decide +kernel) (by decide +kernel)
set_option maxRecDepth 20000 in
theorem gX6_put_X6_isLadder : GoodIn wsX6_put (va_wsS RX6 31 yX6_isLadder wsX6_isLadder) := goodIn_app (goodIn_of _ (by decide +kernel)) ggX6_put_X6_isLadder
set_option maxRecDepth 20000 in
theorem ggX6_put_X6_holds : GoodIn wsX6_put wsX6_holds := goodIn_r _ [12, 13, 60, 61, 62, 63, 64, 65, 66, 67, 68, 69, 70, 71, 72, 73, 74, 75] (by decide +kernel) (by decide +kernel)
set_option maxRecDepth 20000 in
theorem gX6_put_X6_holds : GoodIn wsX6_put (wsV RX6 77 RX6 yX6_holds wsX6_holds) := goodIn_app (goodIn_of _ (by decide +kernel)) ggX6_put_X6_holds
set_option maxRecDepth 20000 in
theorem ggX6_put_X6_save : GoodIn wsX6_put wsX6_save := goodIn_r _ [17, 18, 19, 1, 60, 61, 62, 63, 64, 65, 66, 67, 68, 69, 70, 71, 72, 73, 74, 75] (by decide +kernel) (by decide +kernel)
set_option maxRecDepth 20000 in
theorem gX6_put_X6_save : GoodIn wsX6_put (wsV RX6 80 RX6 yX6_save wsX6_save) := goodIn_app (goodIn_of _ (by decide +kernel)) ggX6_put_X6_save
set_option maxRecDepth 20000 in
theorem ggX6_put_X6_of : GoodIn wsX6_put wsX6_of := goodIn_r _ [22] (by decide +kernel) (by decide +kernel)
set_option maxRecDepth 20000 in
theorem gX6_put_X6_of : GoodIn wsX6_put (va_wsS RX6 19 yX6_of wsX6_of) := goodIn_app (goodIn_of _ (by decide +kernel)) ggX6_put_X6_of
set_option maxRecDepth 20000 in
theorem ggX6_put_X6_falls : GoodIn wsX6_put wsX6_falls := goodIn_r _ [26, 1, 20, 21, 4, 22, 27, 28, 29, 30, 31, 32, 33, 34, 35, 36, 37, 38, 39, 40, 41, 42, 43, 44, 45, 46, 47, 48, 49, 50, 51, 52, 53, 54, 55, 56, 57, 58, 59, 60, 61, 62, 63, 64, 65, 66, 67, 68, 69, 70, 71, 72, 73, 74, 75] (by decide +kernel) (by decide +kernel)
set_option maxRecDepth 20000 in
theorem gX6_put_X6_falls : GoodIn wsX6_put (wsV RX6 83 RX6 yX6_falls wsX6_falls) := goodIn_app (goodIn_of _ (by decide +kernel)) ggX6_put_X6_falls
theorem dX6_put_0 : decode cX6_put 0 = .ok (.iload_n 2, 1) := by decide +kernel
theorem dX6_put_1 : decode cX6_put 1 = .ok (.bipush 10, 2) := by decide +kernel
theorem dX6_put_3 : decode cX6_put 3 = .ok (.bipush 100, 2) := by decide +kernel
theorem dX6_put_5 : decode cX6_put 5 = .ok (.invokestatic 27, 3) := by decide +kernel
theorem dX6_put_8 : decode cX6_put 8 = .ok (.ifCond .eq 30, 3) := by decide +kernel
theorem dX6_put_11 : decode cX6_put 11 = .ok (.iload_n 3, 1) := by decide +kernel
theorem dX6_put_12 : decode cX6_put 12 = .ok (.bipush 50, 2) := by decide +kernel
theorem dX6_put_14 : decode cX6_put 14 = .ok (.sipush 300, 3) := by decide +kernel
theorem dX6_put_17 : decode cX6_put 17 = .ok (.invokestatic 27, 3) := by decide +kernel
theorem dX6_put_20 : decode cX6_put 20 = .ok (.ifCond .eq 18, 3) := by decide +kernel
theorem dX6_put_23 : decode cX6_put 23 = .ok (.iload 4, 2) := by decide +kernel
theorem dX6_put_25 : decode cX6_put 25 = .ok (.iconst 1, 1) := by decide +kernel
theorem dX6_put_26 : decode cX6_put 26 = .ok (.bipush 100, 2) := by decide +kernel
theorem dX6_put_28 : decode cX6_put 28 = .ok (.invokestatic 27, 3) := by decide +kernel
theorem dX6_put_31 : decode cX6_put 31 = .ok (.ifCond .eq 7, 3) := by decide +kernel
theorem dX6_put_34 : decode cX6_put 34 = .ok (.iconst 1, 1) := by decide +kernel
theorem dX6_put_35 : decode cX6_put 35 = .ok (.goto 4, 3) := by decide +kernel
theorem dX6_put_38 : decode cX6_put 38 = .ok (.iconst 0, 1) := by decide +kernel
theorem dX6_put_39 : decode cX6_put 39 = .ok (.istore 5, 2) := by decide +kernel
theorem dX6_put_41 : decode cX6_put 41 = .ok (.aload_n 0, 1) := by decide +kernel
theorem dX6_put_42 : decode cX6_put 42 = .ok (.iload_n 1, 1) := by decide +kernel
theorem dX6_put_43 : decode cX6_put 43 = .ok (.invokestatic 31, 3) := by decide +kernel
theorem dX6_put_46 : decode cX6_put 46 = .ok (.ifCond .ne 7, 3) := by decide +kernel
theorem dX6_put_49 : decode cX6_put 49 = .ok (.iconst 1, 1) := by decide +kernel
theorem dX6_put_50 : decode cX6_put 50 = .ok (.goto 13, 3) := by decide +kernel
theorem dX6_put_53 : decode cX6_put 53 = .ok (.iload 5, 2) := by decide +kernel
theorem dX6_put_55 : decode cX6_put 55 = .ok (.ifCond .eq 7, 3) := by decide +kernel
theorem dX6_put_58 : decode cX6_put 58 = .ok (.iconst 0, 1) := by decide +kernel
theorem dX6_put_59 : decode cX6_put 59 = .ok (.goto 4, 3) := by decide +kernel
theorem dX6_put_62 : decode cX6_put 62 = .ok (.iconst 2, 1) := by decide +kernel
theorem dX6_put_63 : decode cX6_put 63 = .ok (.invokevirtual 77, 3) := by decide +kernel
theorem dX6_put_66 : decode cX6_put 66 = .ok (.ifCond .ne 5, 3) := by decide +kernel
theorem dX6_put_69 : decode cX6_put 69 = .ok (.iconst 0, 1) := by decide +kernel
theorem dX6_put_70 : decode cX6_put 70 = .ok (.ireturn, 1) := by decide +kernel
theorem dX6_put_71 : decode cX6_put 71 = .ok (.aload_n 0, 1) := by decide +kernel
theorem dX6_put_72 : decode cX6_put 72 = .ok (.invokevirtual 80, 3) := by decide +kernel
theorem dX6_put_75 : decode cX6_put 75 = .ok (.aload_n 0, 1) := by decide +kernel
theorem dX6_put_76 : decode cX6_put 76 = .ok (.getfield 7, 3) := by decide +kernel
theorem dX6_put_79 : decode cX6_put 79 = .ok (.iload_n 1, 1) := by decide +kernel
theorem dX6_put_80 : decode cX6_put 80 = .ok (.iconst 0, 1) := by decide +kernel
theorem dX6_put_81 : decode cX6_put 81 = .ok (.invokestatic 19, 3) := by decide +kernel
theorem dX6_put_84 : decode cX6_put 84 = .ok (.iload_n 2, 1) := by decide +kernel
theorem dX6_put_85 : decode cX6_put 85 = .ok (.iastore, 1) := by decide +kernel
theorem dX6_put_86 : decode cX6_put 86 = .ok (.aload_n 0, 1) := by decide +kernel
theorem dX6_put_87 : decode cX6_put 87 = .ok (.getfield 7, 3) := by decide +kernel
theorem dX6_put_90 : decode cX6_put 90 = .ok (.iload_n 1, 1) := by decide +kernel
theorem dX6_put_91 : decode cX6_put 91 = .ok (.iconst 1, 1) := by decide +kernel
theorem dX6_put_92 : decode cX6_put 92 = .ok (.invokestatic 19, 3) := by decide +kernel
theorem dX6_put_95 : decode cX6_put 95 = .ok (.iload_n 3, 1) := by decide +kernel
theorem dX6_put_96 : decode cX6_put 96 = .ok (.iastore, 1) := by decide +kernel
theorem dX6_put_97 : decode cX6_put 97 = .ok (.aload_n 0, 1) := by decide +kernel
theorem dX6_put_98 : decode cX6_put 98 = .ok (.getfield 7, 3) := by decide +kernel
theorem dX6_put_101 : decode cX6_put 101 = .ok (.iload_n 1, 1) := by decide +kernel
theorem dX6_put_102 : decode cX6_put 102 = .ok (.iconst 2, 1) := by decide +kernel
theorem dX6_put_103 : decode cX6_put 103 = .ok (.invokestatic 19, 3) := by decide +kernel
theorem dX6_put_106 : decode cX6_put 106 = .ok (.iload 4, 2) := by decide +kernel
theorem dX6_put_108 : decode cX6_put 108 = .ok (.iastore, 1) := by decide +kernel
