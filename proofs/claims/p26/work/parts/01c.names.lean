theorem inJ9 : ∀ w ∈ wsJ90, w ∈ lw_tbl := by decide +kernel
theorem inJ0 : ∀ w ∈ wsJ00, w ∈ lw_tbl := by decide +kernel
theorem dJ9_floorDiv_7cf53_0 : decode cJ9_floorDiv_7cf53 0 = .ok (.iload_n 0, 1) := by decide +kernel
theorem dJ9_floorDiv_7cf53_1 : decode cJ9_floorDiv_7cf53 1 = .ok (.iload_n 1, 1) := by decide +kernel
theorem dJ9_floorDiv_7cf53_2 : decode cJ9_floorDiv_7cf53 2 = .ok (.idiv, 1) := by decide +kernel
theorem dJ9_floorDiv_7cf53_3 : decode cJ9_floorDiv_7cf53 3 = .ok (.istore_n 2, 1) := by decide +kernel
theorem dJ9_floorDiv_7cf53_4 : decode cJ9_floorDiv_7cf53 4 = .ok (.iload_n 0, 1) := by decide +kernel
theorem dJ9_floorDiv_7cf53_5 : decode cJ9_floorDiv_7cf53 5 = .ok (.iload_n 1, 1) := by decide +kernel
theorem dJ9_floorDiv_7cf53_6 : decode cJ9_floorDiv_7cf53 6 = .ok (.ixor, 1) := by decide +kernel
theorem dJ9_floorDiv_7cf53_7 : decode cJ9_floorDiv_7cf53 7 = .ok (.ifCond .ge 14, 3) := by decide +kernel
theorem dJ9_floorDiv_7cf53_10 : decode cJ9_floorDiv_7cf53 10 = .ok (.iload_n 2, 1) := by decide +kernel
theorem dJ9_floorDiv_7cf53_11 : decode cJ9_floorDiv_7cf53 11 = .ok (.iload_n 1, 1) := by decide +kernel
theorem dJ9_floorDiv_7cf53_12 : decode cJ9_floorDiv_7cf53 12 = .ok (.imul, 1) := by decide +kernel
theorem dJ9_floorDiv_7cf53_13 : decode cJ9_floorDiv_7cf53 13 = .ok (.iload_n 0, 1) := by decide +kernel
theorem dJ9_floorDiv_7cf53_14 : decode cJ9_floorDiv_7cf53 14 = .ok (.if_icmp .eq 7, 3) := by decide +kernel
theorem dJ9_floorDiv_7cf53_17 : decode cJ9_floorDiv_7cf53 17 = .ok (.iload_n 2, 1) := by decide +kernel
theorem dJ9_floorDiv_7cf53_18 : decode cJ9_floorDiv_7cf53 18 = .ok (.iconst 1, 1) := by decide +kernel
theorem dJ9_floorDiv_7cf53_19 : decode cJ9_floorDiv_7cf53 19 = .ok (.isub, 1) := by decide +kernel
theorem dJ9_floorDiv_7cf53_20 : decode cJ9_floorDiv_7cf53 20 = .ok (.ireturn, 1) := by decide +kernel
theorem dJ9_floorDiv_7cf53_21 : decode cJ9_floorDiv_7cf53 21 = .ok (.iload_n 2, 1) := by decide +kernel
theorem dJ9_floorDiv_7cf53_22 : decode cJ9_floorDiv_7cf53 22 = .ok (.ireturn, 1) := by decide +kernel
theorem dJ9_abs_0f7a4_0 : decode cJ9_abs_0f7a4 0 = .ok (.iload_n 0, 1) := by decide +kernel
theorem dJ9_abs_0f7a4_1 : decode cJ9_abs_0f7a4 1 = .ok (.ifCond .ge 8, 3) := by decide +kernel
theorem dJ9_abs_0f7a4_4 : decode cJ9_abs_0f7a4 4 = .ok (.iload_n 0, 1) := by decide +kernel
theorem dJ9_abs_0f7a4_5 : decode cJ9_abs_0f7a4 5 = .ok (.ineg, 1) := by decide +kernel
theorem dJ9_abs_0f7a4_6 : decode cJ9_abs_0f7a4 6 = .ok (.goto 4, 3) := by decide +kernel
theorem dJ9_abs_0f7a4_9 : decode cJ9_abs_0f7a4 9 = .ok (.iload_n 0, 1) := by decide +kernel
theorem dJ9_abs_0f7a4_10 : decode cJ9_abs_0f7a4 10 = .ok (.ireturn, 1) := by decide +kernel
theorem dJ9_max_7cf53_0 : decode cJ9_max_7cf53 0 = .ok (.iload_n 0, 1) := by decide +kernel
theorem dJ9_max_7cf53_1 : decode cJ9_max_7cf53 1 = .ok (.iload_n 1, 1) := by decide +kernel
theorem dJ9_max_7cf53_2 : decode cJ9_max_7cf53 2 = .ok (.if_icmp .lt 7, 3) := by decide +kernel
theorem dJ9_max_7cf53_5 : decode cJ9_max_7cf53 5 = .ok (.iload_n 0, 1) := by decide +kernel
theorem dJ9_max_7cf53_6 : decode cJ9_max_7cf53 6 = .ok (.goto 4, 3) := by decide +kernel
theorem dJ9_max_7cf53_9 : decode cJ9_max_7cf53 9 = .ok (.iload_n 1, 1) := by decide +kernel
theorem dJ9_max_7cf53_10 : decode cJ9_max_7cf53 10 = .ok (.ireturn, 1) := by decide +kernel
theorem dJ9_min_7cf53_0 : decode cJ9_min_7cf53 0 = .ok (.iload_n 0, 1) := by decide +kernel
theorem dJ9_min_7cf53_1 : decode cJ9_min_7cf53 1 = .ok (.iload_n 1, 1) := by decide +kernel
theorem dJ9_min_7cf53_2 : decode cJ9_min_7cf53 2 = .ok (.if_icmp .gt 7, 3) := by decide +kernel
theorem dJ9_min_7cf53_5 : decode cJ9_min_7cf53 5 = .ok (.iload_n 0, 1) := by decide +kernel
theorem dJ9_min_7cf53_6 : decode cJ9_min_7cf53 6 = .ok (.goto 4, 3) := by decide +kernel
theorem dJ9_min_7cf53_9 : decode cJ9_min_7cf53 9 = .ok (.iload_n 1, 1) := by decide +kernel
theorem dJ9_min_7cf53_10 : decode cJ9_min_7cf53 10 = .ok (.ireturn, 1) := by decide +kernel
set_option maxRecDepth 20000 in
theorem ggX0_init_X3_init : GoodIn wsX0_init wsX3_init := goodIn_r _ [12, 13, 2, 3, 14, 15, 16, 17, 18, 19, 20, 21, 22, 23, 24, 25, 26, 27, 28, 29, 30, 31, 32, 33, 37, 38, 39, 40, 41, 42, 43, 44, 45, 46, 47, 48, 49] (by decide +kernel) (by decide +kernel)
set_option maxRecDepth 20000 in
theorem gX0_init_X3_init : GoodIn wsX0_init (wsX3_init) := ggX0_init_X3_init
theorem dX0_init_0 : decode cX0_init 0 = .ok (.aload_n 0, 1) := by decide +kernel
theorem dX0_init_1 : decode cX0_init 1 = .ok (.invokespecial 3, 3) := by decide +kernel
theorem dX0_init_4 : decode cX0_init 4 = .ok (.aload_n 0, 1) := by decide +kernel
theorem dX0_init_5 : decode cX0_init 5 = .ok (.bipush 6, 2) := by decide +kernel
theorem dX0_init_7 : decode cX0_init 7 = .ok (.anewarray 9, 3) := by decide +kernel
theorem dX0_init_10 : decode cX0_init 10 = .ok (.putfield 11, 3) := by decide +kernel
theorem dX0_init_13 : decode cX0_init 13 = .ok (.aload_n 0, 1) := by decide +kernel
theorem dX0_init_14 : decode cX0_init 14 = .ok (.iconst 0, 1) := by decide +kernel
theorem dX0_init_15 : decode cX0_init 15 = .ok (.putfield 17, 3) := by decide +kernel
theorem dX0_init_18 : decode cX0_init 18 = .ok (.aload_n 0, 1) := by decide +kernel
theorem dX0_init_19 : decode cX0_init 19 = .ok (.iconst 0, 1) := by decide +kernel
theorem dX0_init_20 : decode cX0_init 20 = .ok (.putfield 21, 3) := by decide +kernel
theorem dX0_init_23 : decode cX0_init 23 = .ok (.iconst 0, 1) := by decide +kernel
theorem dX0_init_24 : decode cX0_init 24 = .ok (.istore_n 1, 1) := by decide +kernel
theorem dX0_init_25 : decode cX0_init 25 = .ok (.iload_n 1, 1) := by decide +kernel
theorem dX0_init_26 : decode cX0_init 26 = .ok (.bipush 6, 2) := by decide +kernel
theorem dX0_init_28 : decode cX0_init 28 = .ok (.if_icmp .ge 22, 3) := by decide +kernel
theorem dX0_init_31 : decode cX0_init 31 = .ok (.aload_n 0, 1) := by decide +kernel
theorem dX0_init_32 : decode cX0_init 32 = .ok (.getfield 11, 3) := by decide +kernel
theorem dX0_init_35 : decode cX0_init 35 = .ok (.iload_n 1, 1) := by decide +kernel
theorem dX0_init_36 : decode cX0_init 36 = .ok (.new 9, 3) := by decide +kernel
theorem dX0_init_39 : decode cX0_init 39 = .ok (.dup, 1) := by decide +kernel
theorem dX0_init_40 : decode cX0_init 40 = .ok (.invokespecial 24, 3) := by decide +kernel
theorem dX0_init_43 : decode cX0_init 43 = .ok (.aastore, 1) := by decide +kernel
theorem dX0_init_44 : decode cX0_init 44 = .ok (.iinc 1 1, 3) := by decide +kernel
theorem dX0_init_47 : decode cX0_init 47 = .ok (.goto (-22), 3) := by decide +kernel
theorem dX0_init_50 : decode cX0_init 50 = .ok (.return_, 1) := by decide +kernel
set_option maxRecDepth 20000 in
theorem ggX0_save_X3_copyFrom : GoodIn wsX0_save wsX3_copyFrom := goodIn_r _ [12, 13, 14, 15, 16, 17, 18, 19, 20, 21, 22, 23, 24, 25, 26, 27, 28, 29, 30, 34, 35, 36, 37, 38, 39, 40, 41, 42, 43, 44, 45, 46] (by decide +kernel) (by decide +kernel)
set_option maxRecDepth 20000 in
theorem gX0_save_X3_copyFrom : GoodIn wsX0_save (wsV RX0 25 RX3 yX3_copyFrom wsX3_copyFrom) := goodIn_app (goodIn_of _ (by decide +kernel)) ggX0_save_X3_copyFrom
theorem dX0_save_0 : decode cX0_save 0 = .ok (.aload_n 0, 1) := by decide +kernel
theorem dX0_save_1 : decode cX0_save 1 = .ok (.getfield 17, 3) := by decide +kernel
theorem dX0_save_4 : decode cX0_save 4 = .ok (.ifCond .lt 12, 3) := by decide +kernel
theorem dX0_save_7 : decode cX0_save 7 = .ok (.aload_n 0, 1) := by decide +kernel
theorem dX0_save_8 : decode cX0_save 8 = .ok (.getfield 17, 3) := by decide +kernel
theorem dX0_save_11 : decode cX0_save 11 = .ok (.bipush 6, 2) := by decide +kernel
theorem dX0_save_13 : decode cX0_save 13 = .ok (.if_icmp .lt 4, 3) := by decide +kernel
theorem dX0_save_16 : decode cX0_save 16 = .ok (.return_, 1) := by decide +kernel
theorem dX0_save_17 : decode cX0_save 17 = .ok (.aload_n 0, 1) := by decide +kernel
theorem dX0_save_18 : decode cX0_save 18 = .ok (.getfield 11, 3) := by decide +kernel
theorem dX0_save_21 : decode cX0_save 21 = .ok (.aload_n 0, 1) := by decide +kernel
theorem dX0_save_22 : decode cX0_save 22 = .ok (.getfield 17, 3) := by decide +kernel
theorem dX0_save_25 : decode cX0_save 25 = .ok (.aaload, 1) := by decide +kernel
theorem dX0_save_26 : decode cX0_save 26 = .ok (.aload_n 1, 1) := by decide +kernel
theorem dX0_save_27 : decode cX0_save 27 = .ok (.invokevirtual 25, 3) := by decide +kernel
theorem dX0_save_30 : decode cX0_save 30 = .ok (.aload_n 0, 1) := by decide +kernel
theorem dX0_save_31 : decode cX0_save 31 = .ok (.aload_n 0, 1) := by decide +kernel
theorem dX0_save_32 : decode cX0_save 32 = .ok (.getfield 17, 3) := by decide +kernel
theorem dX0_save_35 : decode cX0_save 35 = .ok (.iconst 1, 1) := by decide +kernel
theorem dX0_save_36 : decode cX0_save 36 = .ok (.iadd, 1) := by decide +kernel
theorem dX0_save_37 : decode cX0_save 37 = .ok (.bipush 6, 2) := by decide +kernel
theorem dX0_save_39 : decode cX0_save 39 = .ok (.if_icmp .ge 12, 3) := by decide +kernel
theorem dX0_save_42 : decode cX0_save 42 = .ok (.aload_n 0, 1) := by decide +kernel
theorem dX0_save_43 : decode cX0_save 43 = .ok (.getfield 17, 3) := by decide +kernel
theorem dX0_save_46 : decode cX0_save 46 = .ok (.iconst 1, 1) := by decide +kernel
theorem dX0_save_47 : decode cX0_save 47 = .ok (.iadd, 1) := by decide +kernel
theorem dX0_save_48 : decode cX0_save 48 = .ok (.goto 4, 3) := by decide +kernel
theorem dX0_save_51 : decode cX0_save 51 = .ok (.iconst 0, 1) := by decide +kernel
theorem dX0_save_52 : decode cX0_save 52 = .ok (.putfield 17, 3) := by decide +kernel
theorem dX0_save_55 : decode cX0_save 55 = .ok (.aload_n 0, 1) := by decide +kernel
theorem dX0_save_56 : decode cX0_save 56 = .ok (.aload_n 0, 1) := by decide +kernel
theorem dX0_save_57 : decode cX0_save 57 = .ok (.getfield 21, 3) := by decide +kernel
theorem dX0_save_60 : decode cX0_save 60 = .ok (.iconst 1, 1) := by decide +kernel
theorem dX0_save_61 : decode cX0_save 61 = .ok (.iadd, 1) := by decide +kernel
theorem dX0_save_62 : decode cX0_save 62 = .ok (.bipush 6, 2) := by decide +kernel
theorem dX0_save_64 : decode cX0_save 64 = .ok (.invokestatic 29, 3) := by decide +kernel
theorem dX0_save_67 : decode cX0_save 67 = .ok (.putfield 21, 3) := by decide +kernel
theorem dX0_save_70 : decode cX0_save 70 = .ok (.return_, 1) := by decide +kernel
set_option maxRecDepth 20000 in
theorem ggX0_restoreTo_X3_copyFrom : GoodIn wsX0_restoreTo wsX3_copyFrom := goodIn_r _ [8, 9, 10, 11, 12, 13, 14, 15, 16, 17, 18, 19, 20, 21, 22, 23, 24, 25, 26, 30, 31, 32, 33, 34, 35, 36, 37, 38, 39, 40, 41, 42] (by decide +kernel) (by decide +kernel)
set_option maxRecDepth 20000 in
theorem gX0_restoreTo_X3_copyFrom : GoodIn wsX0_restoreTo (wsV RX0 25 RX3 yX3_copyFrom wsX3_copyFrom) := goodIn_app (goodIn_of _ (by decide +kernel)) ggX0_restoreTo_X3_copyFrom
theorem dX0_restoreTo_0 : decode cX0_restoreTo 0 = .ok (.aload_n 0, 1) := by decide +kernel
theorem dX0_restoreTo_1 : decode cX0_restoreTo 1 = .ok (.getfield 17, 3) := by decide +kernel
theorem dX0_restoreTo_4 : decode cX0_restoreTo 4 = .ok (.ifCond .le 12, 3) := by decide +kernel
theorem dX0_restoreTo_7 : decode cX0_restoreTo 7 = .ok (.aload_n 0, 1) := by decide +kernel
theorem dX0_restoreTo_8 : decode cX0_restoreTo 8 = .ok (.getfield 17, 3) := by decide +kernel
theorem dX0_restoreTo_11 : decode cX0_restoreTo 11 = .ok (.iconst 1, 1) := by decide +kernel
theorem dX0_restoreTo_12 : decode cX0_restoreTo 12 = .ok (.isub, 1) := by decide +kernel
theorem dX0_restoreTo_13 : decode cX0_restoreTo 13 = .ok (.goto 4, 3) := by decide +kernel
theorem dX0_restoreTo_16 : decode cX0_restoreTo 16 = .ok (.iconst 5, 1) := by decide +kernel
theorem dX0_restoreTo_17 : decode cX0_restoreTo 17 = .ok (.istore_n 2, 1) := by decide +kernel
theorem dX0_restoreTo_18 : decode cX0_restoreTo 18 = .ok (.aload_n 0, 1) := by decide +kernel
theorem dX0_restoreTo_19 : decode cX0_restoreTo 19 = .ok (.getfield 21, 3) := by decide +kernel
theorem dX0_restoreTo_22 : decode cX0_restoreTo 22 = .ok (.ifCond .le 9, 3) := by decide +kernel
theorem dX0_restoreTo_25 : decode cX0_restoreTo 25 = .ok (.iload_n 2, 1) := by decide +kernel
theorem dX0_restoreTo_26 : decode cX0_restoreTo 26 = .ok (.bipush 6, 2) := by decide +kernel
theorem dX0_restoreTo_28 : decode cX0_restoreTo 28 = .ok (.if_icmp .lt 4, 3) := by decide +kernel
theorem dX0_restoreTo_31 : decode cX0_restoreTo 31 = .ok (.return_, 1) := by decide +kernel
theorem dX0_restoreTo_32 : decode cX0_restoreTo 32 = .ok (.aload_n 1, 1) := by decide +kernel
theorem dX0_restoreTo_33 : decode cX0_restoreTo 33 = .ok (.aload_n 0, 1) := by decide +kernel
theorem dX0_restoreTo_34 : decode cX0_restoreTo 34 = .ok (.getfield 11, 3) := by decide +kernel
theorem dX0_restoreTo_37 : decode cX0_restoreTo 37 = .ok (.iload_n 2, 1) := by decide +kernel
theorem dX0_restoreTo_38 : decode cX0_restoreTo 38 = .ok (.aaload, 1) := by decide +kernel
theorem dX0_restoreTo_39 : decode cX0_restoreTo 39 = .ok (.invokevirtual 25, 3) := by decide +kernel
theorem dX0_restoreTo_42 : decode cX0_restoreTo 42 = .ok (.aload_n 0, 1) := by decide +kernel
theorem dX0_restoreTo_43 : decode cX0_restoreTo 43 = .ok (.iload_n 2, 1) := by decide +kernel
theorem dX0_restoreTo_44 : decode cX0_restoreTo 44 = .ok (.putfield 17, 3) := by decide +kernel
theorem dX0_restoreTo_47 : decode cX0_restoreTo 47 = .ok (.aload_n 0, 1) := by decide +kernel
theorem dX0_restoreTo_48 : decode cX0_restoreTo 48 = .ok (.dup, 1) := by decide +kernel
theorem dX0_restoreTo_49 : decode cX0_restoreTo 49 = .ok (.getfield 21, 3) := by decide +kernel
theorem dX0_restoreTo_52 : decode cX0_restoreTo 52 = .ok (.iconst 1, 1) := by decide +kernel
theorem dX0_restoreTo_53 : decode cX0_restoreTo 53 = .ok (.isub, 1) := by decide +kernel
theorem dX0_restoreTo_54 : decode cX0_restoreTo 54 = .ok (.putfield 21, 3) := by decide +kernel
theorem dX0_restoreTo_57 : decode cX0_restoreTo 57 = .ok (.return_, 1) := by decide +kernel
theorem dX1_init_0 : decode cX1_init 0 = .ok (.aload_n 0, 1) := by decide +kernel
theorem dX1_init_1 : decode cX1_init 1 = .ok (.invokespecial 3, 3) := by decide +kernel
theorem dX1_init_4 : decode cX1_init 4 = .ok (.aload_n 0, 1) := by decide +kernel
theorem dX1_init_5 : decode cX1_init 5 = .ok (.iconst 0, 1) := by decide +kernel
theorem dX1_init_6 : decode cX1_init 6 = .ok (.putfield 11, 3) := by decide +kernel
theorem dX1_init_9 : decode cX1_init 9 = .ok (.aload_n 0, 1) := by decide +kernel
theorem dX1_init_10 : decode cX1_init 10 = .ok (.iconst 0, 1) := by decide +kernel
theorem dX1_init_11 : decode cX1_init 11 = .ok (.putfield 15, 3) := by decide +kernel
theorem dX1_init_14 : decode cX1_init 14 = .ok (.aload_n 0, 1) := by decide +kernel
theorem dX1_init_15 : decode cX1_init 15 = .ok (.iconst 0, 1) := by decide +kernel
theorem dX1_init_16 : decode cX1_init 16 = .ok (.putfield 18, 3) := by decide +kernel
theorem dX1_init_19 : decode cX1_init 19 = .ok (.aload_n 0, 1) := by decide +kernel
theorem dX1_init_20 : decode cX1_init 20 = .ok (.iconst 0, 1) := by decide +kernel
theorem dX1_init_21 : decode cX1_init 21 = .ok (.putfield 21, 3) := by decide +kernel
theorem dX1_init_24 : decode cX1_init 24 = .ok (.aload_n 0, 1) := by decide +kernel
theorem dX1_init_25 : decode cX1_init 25 = .ok (.iconst 0, 1) := by decide +kernel
theorem dX1_init_26 : decode cX1_init 26 = .ok (.putfield 24, 3) := by decide +kernel
theorem dX1_init_29 : decode cX1_init 29 = .ok (.aload_n 0, 1) := by decide +kernel
theorem dX1_init_30 : decode cX1_init 30 = .ok (.iconst 0, 1) := by decide +kernel
theorem dX1_init_31 : decode cX1_init 31 = .ok (.putfield 27, 3) := by decide +kernel
theorem dX1_init_34 : decode cX1_init 34 = .ok (.return_, 1) := by decide +kernel
theorem dX2_init_0 : decode cX2_init 0 = .ok (.aload_n 0, 1) := by decide +kernel
theorem dX2_init_1 : decode cX2_init 1 = .ok (.invokespecial 3, 3) := by decide +kernel
theorem dX2_init_4 : decode cX2_init 4 = .ok (.aload_n 0, 1) := by decide +kernel
theorem dX2_init_5 : decode cX2_init 5 = .ok (.bipush 50, 2) := by decide +kernel
theorem dX2_init_7 : decode cX2_init 7 = .ok (.putfield 9, 3) := by decide +kernel
theorem dX2_init_10 : decode cX2_init 10 = .ok (.aload_n 0, 1) := by decide +kernel
theorem dX2_init_11 : decode cX2_init 11 = .ok (.sipush 150, 3) := by decide +kernel
theorem dX2_init_14 : decode cX2_init 14 = .ok (.putfield 15, 3) := by decide +kernel
theorem dX2_init_17 : decode cX2_init 17 = .ok (.aload_n 0, 1) := by decide +kernel
theorem dX2_init_18 : decode cX2_init 18 = .ok (.bipush 20, 2) := by decide +kernel
theorem dX2_init_20 : decode cX2_init 20 = .ok (.putfield 18, 3) := by decide +kernel
theorem dX2_init_23 : decode cX2_init 23 = .ok (.aload_n 0, 1) := by decide +kernel
theorem dX2_init_24 : decode cX2_init 24 = .ok (.iconst 2, 1) := by decide +kernel
theorem dX2_init_25 : decode cX2_init 25 = .ok (.putfield 21, 3) := by decide +kernel
theorem dX2_init_28 : decode cX2_init 28 = .ok (.aload_n 0, 1) := by decide +kernel
theorem dX2_init_29 : decode cX2_init 29 = .ok (.iconst 2, 1) := by decide +kernel
theorem dX2_init_30 : decode cX2_init 30 = .ok (.putfield 24, 3) := by decide +kernel
theorem dX2_init_33 : decode cX2_init 33 = .ok (.aload_n 0, 1) := by decide +kernel
theorem dX2_init_34 : decode cX2_init 34 = .ok (.iconst 0, 1) := by decide +kernel
theorem dX2_init_35 : decode cX2_init 35 = .ok (.putfield 27, 3) := by decide +kernel
theorem dX2_init_38 : decode cX2_init 38 = .ok (.aload_n 0, 1) := by decide +kernel
theorem dX2_init_39 : decode cX2_init 39 = .ok (.iconst 0, 1) := by decide +kernel
theorem dX2_init_40 : decode cX2_init 40 = .ok (.putfield 30, 3) := by decide +kernel
theorem dX2_init_43 : decode cX2_init 43 = .ok (.aload_n 0, 1) := by decide +kernel
theorem dX2_init_44 : decode cX2_init 44 = .ok (.iconst 0, 1) := by decide +kernel
theorem dX2_init_45 : decode cX2_init 45 = .ok (.putfield 33, 3) := by decide +kernel
theorem dX2_init_48 : decode cX2_init 48 = .ok (.aload_n 0, 1) := by decide +kernel
theorem dX2_init_49 : decode cX2_init 49 = .ok (.iconst 3, 1) := by decide +kernel
theorem dX2_init_50 : decode cX2_init 50 = .ok (.newarray .int, 2) := by decide +kernel
theorem dX2_init_52 : decode cX2_init 52 = .ok (.putfield 36, 3) := by decide +kernel
theorem dX2_init_55 : decode cX2_init 55 = .ok (.aload_n 0, 1) := by decide +kernel
theorem dX2_init_56 : decode cX2_init 56 = .ok (.iconst 3, 1) := by decide +kernel
theorem dX2_init_57 : decode cX2_init 57 = .ok (.newarray .int, 2) := by decide +kernel
theorem dX2_init_59 : decode cX2_init 59 = .ok (.putfield 40, 3) := by decide +kernel
theorem dX2_init_62 : decode cX2_init 62 = .ok (.return_, 1) := by decide +kernel
theorem dX2_copyFrom_0 : decode cX2_copyFrom 0 = .ok (.aload_n 0, 1) := by decide +kernel
theorem dX2_copyFrom_1 : decode cX2_copyFrom 1 = .ok (.aload_n 1, 1) := by decide +kernel
theorem dX2_copyFrom_2 : decode cX2_copyFrom 2 = .ok (.getfield 9, 3) := by decide +kernel
theorem dX2_copyFrom_5 : decode cX2_copyFrom 5 = .ok (.putfield 9, 3) := by decide +kernel
theorem dX2_copyFrom_8 : decode cX2_copyFrom 8 = .ok (.aload_n 0, 1) := by decide +kernel
theorem dX2_copyFrom_9 : decode cX2_copyFrom 9 = .ok (.aload_n 1, 1) := by decide +kernel
theorem dX2_copyFrom_10 : decode cX2_copyFrom 10 = .ok (.getfield 15, 3) := by decide +kernel
theorem dX2_copyFrom_13 : decode cX2_copyFrom 13 = .ok (.putfield 15, 3) := by decide +kernel
theorem dX2_copyFrom_16 : decode cX2_copyFrom 16 = .ok (.aload_n 0, 1) := by decide +kernel
theorem dX2_copyFrom_17 : decode cX2_copyFrom 17 = .ok (.aload_n 1, 1) := by decide +kernel
theorem dX2_copyFrom_18 : decode cX2_copyFrom 18 = .ok (.getfield 18, 3) := by decide +kernel
theorem dX2_copyFrom_21 : decode cX2_copyFrom 21 = .ok (.putfield 18, 3) := by decide +kernel
theorem dX2_copyFrom_24 : decode cX2_copyFrom 24 = .ok (.aload_n 0, 1) := by decide +kernel
theorem dX2_copyFrom_25 : decode cX2_copyFrom 25 = .ok (.aload_n 1, 1) := by decide +kernel
theorem dX2_copyFrom_26 : decode cX2_copyFrom 26 = .ok (.getfield 21, 3) := by decide +kernel
theorem dX2_copyFrom_29 : decode cX2_copyFrom 29 = .ok (.putfield 21, 3) := by decide +kernel
theorem dX2_copyFrom_32 : decode cX2_copyFrom 32 = .ok (.aload_n 0, 1) := by decide +kernel
theorem dX2_copyFrom_33 : decode cX2_copyFrom 33 = .ok (.aload_n 1, 1) := by decide +kernel
theorem dX2_copyFrom_34 : decode cX2_copyFrom 34 = .ok (.getfield 24, 3) := by decide +kernel
theorem dX2_copyFrom_37 : decode cX2_copyFrom 37 = .ok (.putfield 24, 3) := by decide +kernel
theorem dX2_copyFrom_40 : decode cX2_copyFrom 40 = .ok (.aload_n 0, 1) := by decide +kernel
theorem dX2_copyFrom_41 : decode cX2_copyFrom 41 = .ok (.aload_n 1, 1) := by decide +kernel
theorem dX2_copyFrom_42 : decode cX2_copyFrom 42 = .ok (.getfield 27, 3) := by decide +kernel
theorem dX2_copyFrom_45 : decode cX2_copyFrom 45 = .ok (.putfield 27, 3) := by decide +kernel
theorem dX2_copyFrom_48 : decode cX2_copyFrom 48 = .ok (.aload_n 0, 1) := by decide +kernel
theorem dX2_copyFrom_49 : decode cX2_copyFrom 49 = .ok (.aload_n 1, 1) := by decide +kernel
theorem dX2_copyFrom_50 : decode cX2_copyFrom 50 = .ok (.getfield 30, 3) := by decide +kernel
theorem dX2_copyFrom_53 : decode cX2_copyFrom 53 = .ok (.putfield 30, 3) := by decide +kernel
theorem dX2_copyFrom_56 : decode cX2_copyFrom 56 = .ok (.aload_n 0, 1) := by decide +kernel
theorem dX2_copyFrom_57 : decode cX2_copyFrom 57 = .ok (.aload_n 1, 1) := by decide +kernel
theorem dX2_copyFrom_58 : decode cX2_copyFrom 58 = .ok (.getfield 33, 3) := by decide +kernel
theorem dX2_copyFrom_61 : decode cX2_copyFrom 61 = .ok (.putfield 33, 3) := by decide +kernel
theorem dX2_copyFrom_64 : decode cX2_copyFrom 64 = .ok (.iconst 0, 1) := by decide +kernel
theorem dX2_copyFrom_65 : decode cX2_copyFrom 65 = .ok (.istore_n 2, 1) := by decide +kernel
theorem dX2_copyFrom_66 : decode cX2_copyFrom 66 = .ok (.iload_n 2, 1) := by decide +kernel
theorem dX2_copyFrom_67 : decode cX2_copyFrom 67 = .ok (.iconst 3, 1) := by decide +kernel
theorem dX2_copyFrom_68 : decode cX2_copyFrom 68 = .ok (.if_icmp .ge 33, 3) := by decide +kernel
theorem dX2_copyFrom_71 : decode cX2_copyFrom 71 = .ok (.aload_n 0, 1) := by decide +kernel
theorem dX2_copyFrom_72 : decode cX2_copyFrom 72 = .ok (.getfield 36, 3) := by decide +kernel
theorem dX2_copyFrom_75 : decode cX2_copyFrom 75 = .ok (.iload_n 2, 1) := by decide +kernel
theorem dX2_copyFrom_76 : decode cX2_copyFrom 76 = .ok (.aload_n 1, 1) := by decide +kernel
theorem dX2_copyFrom_77 : decode cX2_copyFrom 77 = .ok (.getfield 36, 3) := by decide +kernel
theorem dX2_copyFrom_80 : decode cX2_copyFrom 80 = .ok (.iload_n 2, 1) := by decide +kernel
theorem dX2_copyFrom_81 : decode cX2_copyFrom 81 = .ok (.iaload, 1) := by decide +kernel
theorem dX2_copyFrom_82 : decode cX2_copyFrom 82 = .ok (.iastore, 1) := by decide +kernel
theorem dX2_copyFrom_83 : decode cX2_copyFrom 83 = .ok (.aload_n 0, 1) := by decide +kernel
theorem dX2_copyFrom_84 : decode cX2_copyFrom 84 = .ok (.getfield 40, 3) := by decide +kernel
theorem dX2_copyFrom_87 : decode cX2_copyFrom 87 = .ok (.iload_n 2, 1) := by decide +kernel
theorem dX2_copyFrom_88 : decode cX2_copyFrom 88 = .ok (.aload_n 1, 1) := by decide +kernel
theorem dX2_copyFrom_89 : decode cX2_copyFrom 89 = .ok (.getfield 40, 3) := by decide +kernel
theorem dX2_copyFrom_92 : decode cX2_copyFrom 92 = .ok (.iload_n 2, 1) := by decide +kernel
theorem dX2_copyFrom_93 : decode cX2_copyFrom 93 = .ok (.iaload, 1) := by decide +kernel
theorem dX2_copyFrom_94 : decode cX2_copyFrom 94 = .ok (.iastore, 1) := by decide +kernel
theorem dX2_copyFrom_95 : decode cX2_copyFrom 95 = .ok (.iinc 2 1, 3) := by decide +kernel
theorem dX2_copyFrom_98 : decode cX2_copyFrom 98 = .ok (.goto (-32), 3) := by decide +kernel
theorem dX2_copyFrom_101 : decode cX2_copyFrom 101 = .ok (.return_, 1) := by decide +kernel
theorem dX2_isFull_0 : decode cX2_isFull 0 = .ok (.aload_n 0, 1) := by decide +kernel
theorem dX2_isFull_1 : decode cX2_isFull 1 = .ok (.getfield 33, 3) := by decide +kernel
theorem dX2_isFull_4 : decode cX2_isFull 4 = .ok (.iconst 3, 1) := by decide +kernel
theorem dX2_isFull_5 : decode cX2_isFull 5 = .ok (.if_icmp .lt 7, 3) := by decide +kernel
theorem dX2_isFull_8 : decode cX2_isFull 8 = .ok (.iconst 1, 1) := by decide +kernel
theorem dX2_isFull_9 : decode cX2_isFull 9 = .ok (.goto 4, 3) := by decide +kernel
theorem dX2_isFull_12 : decode cX2_isFull 12 = .ok (.iconst 0, 1) := by decide +kernel
theorem dX2_isFull_13 : decode cX2_isFull 13 = .ok (.ireturn, 1) := by decide +kernel
theorem dX2_bears_0 : decode cX2_bears 0 = .ok (.iload_n 1, 1) := by decide +kernel
theorem dX2_bears_1 : decode cX2_bears 1 = .ok (.ifCond .lt 20, 3) := by decide +kernel
theorem dX2_bears_4 : decode cX2_bears 4 = .ok (.iload_n 1, 1) := by decide +kernel
theorem dX2_bears_5 : decode cX2_bears 5 = .ok (.aload_n 0, 1) := by decide +kernel
theorem dX2_bears_6 : decode cX2_bears 6 = .ok (.getfield 33, 3) := by decide +kernel
theorem dX2_bears_9 : decode cX2_bears 9 = .ok (.if_icmp .ge 12, 3) := by decide +kernel
theorem dX2_bears_12 : decode cX2_bears 12 = .ok (.iload_n 1, 1) := by decide +kernel
theorem dX2_bears_13 : decode cX2_bears 13 = .ok (.iconst 3, 1) := by decide +kernel
theorem dX2_bears_14 : decode cX2_bears 14 = .ok (.if_icmp .ge 7, 3) := by decide +kernel
theorem dX2_bears_17 : decode cX2_bears 17 = .ok (.iconst 1, 1) := by decide +kernel
theorem dX2_bears_18 : decode cX2_bears 18 = .ok (.goto 4, 3) := by decide +kernel
theorem dX2_bears_21 : decode cX2_bears 21 = .ok (.iconst 0, 1) := by decide +kernel
theorem dX2_bears_22 : decode cX2_bears 22 = .ok (.ireturn, 1) := by decide +kernel
set_option maxRecDepth 20000 in
theorem ggX2_weightOf_X2_bears : GoodIn wsX2_weightOf wsX2_bears := goodIn_r _ [6, 7, 8, 9, 10, 11, 12, 13, 14, 15, 16, 17] (by decide +kernel) (by decide +kernel)
set_option maxRecDepth 20000 in
theorem gX2_weightOf_X2_bears : GoodIn wsX2_weightOf (wsV RX2 43 RX2 yX2_bears wsX2_bears) := goodIn_app (goodIn_of _ (by decide +kernel)) ggX2_weightOf_X2_bears
theorem dX2_weightOf_0 : decode cX2_weightOf 0 = .ok (.aload_n 0, 1) := by decide +kernel
theorem dX2_weightOf_1 : decode cX2_weightOf 1 = .ok (.iload_n 1, 1) := by decide +kernel
theorem dX2_weightOf_2 : decode cX2_weightOf 2 = .ok (.invokevirtual 43, 3) := by decide +kernel
theorem dX2_weightOf_5 : decode cX2_weightOf 5 = .ok (.ifCond .eq 12, 3) := by decide +kernel
theorem dX2_weightOf_8 : decode cX2_weightOf 8 = .ok (.aload_n 0, 1) := by decide +kernel
theorem dX2_weightOf_9 : decode cX2_weightOf 9 = .ok (.getfield 36, 3) := by decide +kernel
theorem dX2_weightOf_12 : decode cX2_weightOf 12 = .ok (.iload_n 1, 1) := by decide +kernel
theorem dX2_weightOf_13 : decode cX2_weightOf 13 = .ok (.iaload, 1) := by decide +kernel
theorem dX2_weightOf_14 : decode cX2_weightOf 14 = .ok (.goto 4, 3) := by decide +kernel
theorem dX2_weightOf_17 : decode cX2_weightOf 17 = .ok (.iconst 0, 1) := by decide +kernel
theorem dX2_weightOf_18 : decode cX2_weightOf 18 = .ok (.ireturn, 1) := by decide +kernel
set_option maxRecDepth 20000 in
theorem ggX2_stepOf_X2_bears : GoodIn wsX2_stepOf wsX2_bears := goodIn_r _ [6, 7, 8, 9, 10, 11, 12, 13, 14, 15, 16, 17] (by decide +kernel) (by decide +kernel)
set_option maxRecDepth 20000 in
theorem gX2_stepOf_X2_bears : GoodIn wsX2_stepOf (wsV RX2 43 RX2 yX2_bears wsX2_bears) := goodIn_app (goodIn_of _ (by decide +kernel)) ggX2_stepOf_X2_bears
theorem dX2_stepOf_0 : decode cX2_stepOf 0 = .ok (.aload_n 0, 1) := by decide +kernel
theorem dX2_stepOf_1 : decode cX2_stepOf 1 = .ok (.iload_n 1, 1) := by decide +kernel
theorem dX2_stepOf_2 : decode cX2_stepOf 2 = .ok (.invokevirtual 43, 3) := by decide +kernel
theorem dX2_stepOf_5 : decode cX2_stepOf 5 = .ok (.ifCond .eq 12, 3) := by decide +kernel
theorem dX2_stepOf_8 : decode cX2_stepOf 8 = .ok (.aload_n 0, 1) := by decide +kernel
theorem dX2_stepOf_9 : decode cX2_stepOf 9 = .ok (.getfield 40, 3) := by decide +kernel
theorem dX2_stepOf_12 : decode cX2_stepOf 12 = .ok (.iload_n 1, 1) := by decide +kernel
theorem dX2_stepOf_13 : decode cX2_stepOf 13 = .ok (.iaload, 1) := by decide +kernel
theorem dX2_stepOf_14 : decode cX2_stepOf 14 = .ok (.goto 4, 3) := by decide +kernel
theorem dX2_stepOf_17 : decode cX2_stepOf 17 = .ok (.iconst 0, 1) := by decide +kernel
theorem dX2_stepOf_18 : decode cX2_stepOf 18 = .ok (.ireturn, 1) := by decide +kernel
set_option maxRecDepth 20000 in
theorem ggX2_setStep_X2_bears : GoodIn wsX2_setStep wsX2_bears := goodIn_r _ [6, 7, 8, 9, 10, 11, 12, 13, 14, 15, 16, 17] (by decide +kernel) (by decide +kernel)
set_option maxRecDepth 20000 in
theorem gX2_setStep_X2_bears : GoodIn wsX2_setStep (wsV RX2 43 RX2 yX2_bears wsX2_bears) := goodIn_app (goodIn_of _ (by decide +kernel)) ggX2_setStep_X2_bears
theorem dX2_setStep_0 : decode cX2_setStep 0 = .ok (.aload_n 0, 1) := by decide +kernel
theorem dX2_setStep_1 : decode cX2_setStep 1 = .ok (.iload_n 1, 1) := by decide +kernel
theorem dX2_setStep_2 : decode cX2_setStep 2 = .ok (.invokevirtual 43, 3) := by decide +kernel
theorem dX2_setStep_5 : decode cX2_setStep 5 = .ok (.ifCond .eq 10, 3) := by decide +kernel
theorem dX2_setStep_8 : decode cX2_setStep 8 = .ok (.aload_n 0, 1) := by decide +kernel
theorem dX2_setStep_9 : decode cX2_setStep 9 = .ok (.getfield 40, 3) := by decide +kernel
theorem dX2_setStep_12 : decode cX2_setStep 12 = .ok (.iload_n 1, 1) := by decide +kernel
theorem dX2_setStep_13 : decode cX2_setStep 13 = .ok (.iload_n 2, 1) := by decide +kernel
theorem dX2_setStep_14 : decode cX2_setStep 14 = .ok (.iastore, 1) := by decide +kernel
theorem dX2_setStep_15 : decode cX2_setStep 15 = .ok (.return_, 1) := by decide +kernel
theorem dX2_add_0 : decode cX2_add 0 = .ok (.aload_n 0, 1) := by decide +kernel
theorem dX2_add_1 : decode cX2_add 1 = .ok (.getfield 33, 3) := by decide +kernel
theorem dX2_add_4 : decode cX2_add 4 = .ok (.ifCond .lt 41, 3) := by decide +kernel
theorem dX2_add_7 : decode cX2_add 7 = .ok (.aload_n 0, 1) := by decide +kernel
theorem dX2_add_8 : decode cX2_add 8 = .ok (.getfield 33, 3) := by decide +kernel
theorem dX2_add_11 : decode cX2_add 11 = .ok (.iconst 3, 1) := by decide +kernel
theorem dX2_add_12 : decode cX2_add 12 = .ok (.if_icmp .ge 33, 3) := by decide +kernel
theorem dX2_add_15 : decode cX2_add 15 = .ok (.aload_n 0, 1) := by decide +kernel
theorem dX2_add_16 : decode cX2_add 16 = .ok (.getfield 36, 3) := by decide +kernel
theorem dX2_add_19 : decode cX2_add 19 = .ok (.aload_n 0, 1) := by decide +kernel
theorem dX2_add_20 : decode cX2_add 20 = .ok (.getfield 33, 3) := by decide +kernel
theorem dX2_add_23 : decode cX2_add 23 = .ok (.iload_n 1, 1) := by decide +kernel
theorem dX2_add_24 : decode cX2_add 24 = .ok (.iastore, 1) := by decide +kernel
theorem dX2_add_25 : decode cX2_add 25 = .ok (.aload_n 0, 1) := by decide +kernel
theorem dX2_add_26 : decode cX2_add 26 = .ok (.getfield 40, 3) := by decide +kernel
theorem dX2_add_29 : decode cX2_add 29 = .ok (.aload_n 0, 1) := by decide +kernel
theorem dX2_add_30 : decode cX2_add 30 = .ok (.getfield 33, 3) := by decide +kernel
theorem dX2_add_33 : decode cX2_add 33 = .ok (.iconst 0, 1) := by decide +kernel
theorem dX2_add_34 : decode cX2_add 34 = .ok (.iastore, 1) := by decide +kernel
theorem dX2_add_35 : decode cX2_add 35 = .ok (.aload_n 0, 1) := by decide +kernel
theorem dX2_add_36 : decode cX2_add 36 = .ok (.dup, 1) := by decide +kernel
theorem dX2_add_37 : decode cX2_add 37 = .ok (.getfield 33, 3) := by decide +kernel
theorem dX2_add_40 : decode cX2_add 40 = .ok (.iconst 1, 1) := by decide +kernel
theorem dX2_add_41 : decode cX2_add 41 = .ok (.iadd, 1) := by decide +kernel
theorem dX2_add_42 : decode cX2_add 42 = .ok (.putfield 33, 3) := by decide +kernel
theorem dX2_add_45 : decode cX2_add 45 = .ok (.return_, 1) := by decide +kernel
set_option maxRecDepth 20000 in
theorem ggX2_remove_X2_bears : GoodIn wsX2_remove wsX2_bears := goodIn_r _ [8, 3, 9, 10, 11, 12, 13, 14, 15, 16, 17, 18] (by decide +kernel) (by decide +kernel)
set_option maxRecDepth 20000 in
theorem gX2_remove_X2_bears : GoodIn wsX2_remove (wsV RX2 43 RX2 yX2_bears wsX2_bears) := goodIn_app (goodIn_of _ (by decide +kernel)) ggX2_remove_X2_bears
theorem dX2_remove_0 : decode cX2_remove 0 = .ok (.aload_n 0, 1) := by decide +kernel
theorem dX2_remove_1 : decode cX2_remove 1 = .ok (.iload_n 1, 1) := by decide +kernel
theorem dX2_remove_2 : decode cX2_remove 2 = .ok (.invokevirtual 43, 3) := by decide +kernel
theorem dX2_remove_5 : decode cX2_remove 5 = .ok (.ifCond .ne 4, 3) := by decide +kernel
theorem dX2_remove_8 : decode cX2_remove 8 = .ok (.return_, 1) := by decide +kernel
theorem dX2_remove_9 : decode cX2_remove 9 = .ok (.iload_n 1, 1) := by decide +kernel
theorem dX2_remove_10 : decode cX2_remove 10 = .ok (.istore_n 2, 1) := by decide +kernel
theorem dX2_remove_11 : decode cX2_remove 11 = .ok (.iload_n 2, 1) := by decide +kernel
theorem dX2_remove_12 : decode cX2_remove 12 = .ok (.iconst 2, 1) := by decide +kernel
theorem dX2_remove_13 : decode cX2_remove 13 = .ok (.if_icmp .ge 37, 3) := by decide +kernel
theorem dX2_remove_16 : decode cX2_remove 16 = .ok (.aload_n 0, 1) := by decide +kernel
theorem dX2_remove_17 : decode cX2_remove 17 = .ok (.getfield 36, 3) := by decide +kernel
theorem dX2_remove_20 : decode cX2_remove 20 = .ok (.iload_n 2, 1) := by decide +kernel
theorem dX2_remove_21 : decode cX2_remove 21 = .ok (.aload_n 0, 1) := by decide +kernel
theorem dX2_remove_22 : decode cX2_remove 22 = .ok (.getfield 36, 3) := by decide +kernel
theorem dX2_remove_25 : decode cX2_remove 25 = .ok (.iload_n 2, 1) := by decide +kernel
theorem dX2_remove_26 : decode cX2_remove 26 = .ok (.iconst 1, 1) := by decide +kernel
theorem dX2_remove_27 : decode cX2_remove 27 = .ok (.iadd, 1) := by decide +kernel
theorem dX2_remove_28 : decode cX2_remove 28 = .ok (.iaload, 1) := by decide +kernel
theorem dX2_remove_29 : decode cX2_remove 29 = .ok (.iastore, 1) := by decide +kernel
theorem dX2_remove_30 : decode cX2_remove 30 = .ok (.aload_n 0, 1) := by decide +kernel
theorem dX2_remove_31 : decode cX2_remove 31 = .ok (.getfield 40, 3) := by decide +kernel
theorem dX2_remove_34 : decode cX2_remove 34 = .ok (.iload_n 2, 1) := by decide +kernel
theorem dX2_remove_35 : decode cX2_remove 35 = .ok (.aload_n 0, 1) := by decide +kernel
theorem dX2_remove_36 : decode cX2_remove 36 = .ok (.getfield 40, 3) := by decide +kernel
theorem dX2_remove_39 : decode cX2_remove 39 = .ok (.iload_n 2, 1) := by decide +kernel
theorem dX2_remove_40 : decode cX2_remove 40 = .ok (.iconst 1, 1) := by decide +kernel
theorem dX2_remove_41 : decode cX2_remove 41 = .ok (.iadd, 1) := by decide +kernel
theorem dX2_remove_42 : decode cX2_remove 42 = .ok (.iaload, 1) := by decide +kernel
theorem dX2_remove_43 : decode cX2_remove 43 = .ok (.iastore, 1) := by decide +kernel
theorem dX2_remove_44 : decode cX2_remove 44 = .ok (.iinc 2 1, 3) := by decide +kernel
theorem dX2_remove_47 : decode cX2_remove 47 = .ok (.goto (-36), 3) := by decide +kernel
theorem dX2_remove_50 : decode cX2_remove 50 = .ok (.aload_n 0, 1) := by decide +kernel
theorem dX2_remove_51 : decode cX2_remove 51 = .ok (.getfield 36, 3) := by decide +kernel
theorem dX2_remove_54 : decode cX2_remove 54 = .ok (.iconst 2, 1) := by decide +kernel
theorem dX2_remove_55 : decode cX2_remove 55 = .ok (.iconst 0, 1) := by decide +kernel
theorem dX2_remove_56 : decode cX2_remove 56 = .ok (.iastore, 1) := by decide +kernel
theorem dX2_remove_57 : decode cX2_remove 57 = .ok (.aload_n 0, 1) := by decide +kernel
theorem dX2_remove_58 : decode cX2_remove 58 = .ok (.getfield 40, 3) := by decide +kernel
theorem dX2_remove_61 : decode cX2_remove 61 = .ok (.iconst 2, 1) := by decide +kernel
theorem dX2_remove_62 : decode cX2_remove 62 = .ok (.iconst 0, 1) := by decide +kernel
theorem dX2_remove_63 : decode cX2_remove 63 = .ok (.iastore, 1) := by decide +kernel
theorem dX2_remove_64 : decode cX2_remove 64 = .ok (.aload_n 0, 1) := by decide +kernel
theorem dX2_remove_65 : decode cX2_remove 65 = .ok (.dup, 1) := by decide +kernel
theorem dX2_remove_66 : decode cX2_remove 66 = .ok (.getfield 33, 3) := by decide +kernel
theorem dX2_remove_69 : decode cX2_remove 69 = .ok (.iconst 1, 1) := by decide +kernel
theorem dX2_remove_70 : decode cX2_remove 70 = .ok (.isub, 1) := by decide +kernel
theorem dX2_remove_71 : decode cX2_remove 71 = .ok (.putfield 33, 3) := by decide +kernel
theorem dX2_remove_74 : decode cX2_remove 74 = .ok (.return_, 1) := by decide +kernel
theorem dX2_removeAll_0 : decode cX2_removeAll 0 = .ok (.iconst 0, 1) := by decide +kernel
theorem dX2_removeAll_1 : decode cX2_removeAll 1 = .ok (.istore_n 1, 1) := by decide +kernel
theorem dX2_removeAll_2 : decode cX2_removeAll 2 = .ok (.iload_n 1, 1) := by decide +kernel
theorem dX2_removeAll_3 : decode cX2_removeAll 3 = .ok (.iconst 3, 1) := by decide +kernel
theorem dX2_removeAll_4 : decode cX2_removeAll 4 = .ok (.if_icmp .ge 23, 3) := by decide +kernel
theorem dX2_removeAll_7 : decode cX2_removeAll 7 = .ok (.aload_n 0, 1) := by decide +kernel
theorem dX2_removeAll_8 : decode cX2_removeAll 8 = .ok (.getfield 36, 3) := by decide +kernel
theorem dX2_removeAll_11 : decode cX2_removeAll 11 = .ok (.iload_n 1, 1) := by decide +kernel
theorem dX2_removeAll_12 : decode cX2_removeAll 12 = .ok (.iconst 0, 1) := by decide +kernel
theorem dX2_removeAll_13 : decode cX2_removeAll 13 = .ok (.iastore, 1) := by decide +kernel
theorem dX2_removeAll_14 : decode cX2_removeAll 14 = .ok (.aload_n 0, 1) := by decide +kernel
theorem dX2_removeAll_15 : decode cX2_removeAll 15 = .ok (.getfield 40, 3) := by decide +kernel
theorem dX2_removeAll_18 : decode cX2_removeAll 18 = .ok (.iload_n 1, 1) := by decide +kernel
theorem dX2_removeAll_19 : decode cX2_removeAll 19 = .ok (.iconst 0, 1) := by decide +kernel
theorem dX2_removeAll_20 : decode cX2_removeAll 20 = .ok (.iastore, 1) := by decide +kernel
theorem dX2_removeAll_21 : decode cX2_removeAll 21 = .ok (.iinc 1 1, 3) := by decide +kernel
theorem dX2_removeAll_24 : decode cX2_removeAll 24 = .ok (.goto (-22), 3) := by decide +kernel
theorem dX2_removeAll_27 : decode cX2_removeAll 27 = .ok (.aload_n 0, 1) := by decide +kernel
theorem dX2_removeAll_28 : decode cX2_removeAll 28 = .ok (.iconst 0, 1) := by decide +kernel
theorem dX2_removeAll_29 : decode cX2_removeAll 29 = .ok (.putfield 33, 3) := by decide +kernel
theorem dX2_removeAll_32 : decode cX2_removeAll 32 = .ok (.return_, 1) := by decide +kernel
theorem dX2_load_0 : decode cX2_load 0 = .ok (.aload_n 0, 1) := by decide +kernel
theorem dX2_load_1 : decode cX2_load 1 = .ok (.getfield 18, 3) := by decide +kernel
theorem dX2_load_4 : decode cX2_load 4 = .ok (.istore_n 1, 1) := by decide +kernel
theorem dX2_load_5 : decode cX2_load 5 = .ok (.iconst 0, 1) := by decide +kernel
theorem dX2_load_6 : decode cX2_load 6 = .ok (.istore_n 2, 1) := by decide +kernel
theorem dX2_load_7 : decode cX2_load 7 = .ok (.iload_n 2, 1) := by decide +kernel
theorem dX2_load_8 : decode cX2_load 8 = .ok (.iconst 3, 1) := by decide +kernel
theorem dX2_load_9 : decode cX2_load 9 = .ok (.if_icmp .ge 18, 3) := by decide +kernel
theorem dX2_load_12 : decode cX2_load 12 = .ok (.iload_n 1, 1) := by decide +kernel
theorem dX2_load_13 : decode cX2_load 13 = .ok (.aload_n 0, 1) := by decide +kernel
theorem dX2_load_14 : decode cX2_load 14 = .ok (.getfield 36, 3) := by decide +kernel
theorem dX2_load_17 : decode cX2_load 17 = .ok (.iload_n 2, 1) := by decide +kernel
theorem dX2_load_18 : decode cX2_load 18 = .ok (.iaload, 1) := by decide +kernel
theorem dX2_load_19 : decode cX2_load 19 = .ok (.iadd, 1) := by decide +kernel
theorem dX2_load_20 : decode cX2_load 20 = .ok (.istore_n 1, 1) := by decide +kernel
theorem dX2_load_21 : decode cX2_load 21 = .ok (.iinc 2 1, 3) := by decide +kernel
theorem dX2_load_24 : decode cX2_load 24 = .ok (.goto (-17), 3) := by decide +kernel
theorem dX2_load_27 : decode cX2_load 27 = .ok (.iload_n 1, 1) := by decide +kernel
theorem dX2_load_28 : decode cX2_load 28 = .ok (.ireturn, 1) := by decide +kernel
theorem dX2_moment_0 : decode cX2_moment 0 = .ok (.iconst 5, 1) := by decide +kernel
theorem dX2_moment_1 : decode cX2_moment 1 = .ok (.aload_n 0, 1) := by decide +kernel
theorem dX2_moment_2 : decode cX2_moment 2 = .ok (.getfield 18, 3) := by decide +kernel
theorem dX2_moment_5 : decode cX2_moment 5 = .ok (.imul, 1) := by decide +kernel
theorem dX2_moment_6 : decode cX2_moment 6 = .ok (.istore_n 1, 1) := by decide +kernel
theorem dX2_moment_7 : decode cX2_moment 7 = .ok (.iconst 0, 1) := by decide +kernel
theorem dX2_moment_8 : decode cX2_moment 8 = .ok (.istore_n 2, 1) := by decide +kernel
theorem dX2_moment_9 : decode cX2_moment 9 = .ok (.iload_n 2, 1) := by decide +kernel
theorem dX2_moment_10 : decode cX2_moment 10 = .ok (.iconst 3, 1) := by decide +kernel
theorem dX2_moment_11 : decode cX2_moment 11 = .ok (.if_icmp .ge 25, 3) := by decide +kernel
theorem dX2_moment_14 : decode cX2_moment 14 = .ok (.iload_n 1, 1) := by decide +kernel
theorem dX2_moment_15 : decode cX2_moment 15 = .ok (.aload_n 0, 1) := by decide +kernel
theorem dX2_moment_16 : decode cX2_moment 16 = .ok (.getfield 40, 3) := by decide +kernel
theorem dX2_moment_19 : decode cX2_moment 19 = .ok (.iload_n 2, 1) := by decide +kernel
theorem dX2_moment_20 : decode cX2_moment 20 = .ok (.iaload, 1) := by decide +kernel
theorem dX2_moment_21 : decode cX2_moment 21 = .ok (.aload_n 0, 1) := by decide +kernel
theorem dX2_moment_22 : decode cX2_moment 22 = .ok (.getfield 36, 3) := by decide +kernel
theorem dX2_moment_25 : decode cX2_moment 25 = .ok (.iload_n 2, 1) := by decide +kernel
theorem dX2_moment_26 : decode cX2_moment 26 = .ok (.iaload, 1) := by decide +kernel
theorem dX2_moment_27 : decode cX2_moment 27 = .ok (.imul, 1) := by decide +kernel
theorem dX2_moment_28 : decode cX2_moment 28 = .ok (.iadd, 1) := by decide +kernel
theorem dX2_moment_29 : decode cX2_moment 29 = .ok (.istore_n 1, 1) := by decide +kernel
theorem dX2_moment_30 : decode cX2_moment 30 = .ok (.iinc 2 1, 3) := by decide +kernel
theorem dX2_moment_33 : decode cX2_moment 33 = .ok (.goto (-24), 3) := by decide +kernel
theorem dX2_moment_36 : decode cX2_moment 36 = .ok (.aload_n 0, 1) := by decide +kernel
theorem dX2_moment_37 : decode cX2_moment 37 = .ok (.getfield 9, 3) := by decide +kernel
theorem dX2_moment_40 : decode cX2_moment 40 = .ok (.iload_n 1, 1) := by decide +kernel
theorem dX2_moment_41 : decode cX2_moment 41 = .ok (.imul, 1) := by decide +kernel
theorem dX2_moment_42 : decode cX2_moment 42 = .ok (.ireturn, 1) := by decide +kernel
set_option maxRecDepth 20000 in
theorem ggX2_push_X2_moment : GoodIn wsX2_push wsX2_moment := goodIn_r _ [6, 7, 8, 9, 1, 10, 11, 12, 13, 14, 15, 16, 17, 18, 19] (by decide +kernel) (by decide +kernel)
set_option maxRecDepth 20000 in
theorem gX2_push_X2_moment : GoodIn wsX2_push (wsV RX2 47 RX2 yX2_moment wsX2_moment) := goodIn_app (goodIn_of _ (by decide +kernel)) ggX2_push_X2_moment
theorem dX2_push_0 : decode cX2_push 0 = .ok (.aload_n 0, 1) := by decide +kernel
theorem dX2_push_1 : decode cX2_push 1 = .ok (.invokevirtual 47, 3) := by decide +kernel
theorem dX2_push_4 : decode cX2_push 4 = .ok (.bipush 10, 2) := by decide +kernel
theorem dX2_push_6 : decode cX2_push 6 = .ok (.iload_n 1, 1) := by decide +kernel
theorem dX2_push_7 : decode cX2_push 7 = .ok (.imul, 1) := by decide +kernel
theorem dX2_push_8 : decode cX2_push 8 = .ok (.aload_n 0, 1) := by decide +kernel
theorem dX2_push_9 : decode cX2_push 9 = .ok (.getfield 9, 3) := by decide +kernel
theorem dX2_push_12 : decode cX2_push 12 = .ok (.imul, 1) := by decide +kernel
theorem dX2_push_13 : decode cX2_push 13 = .ok (.isub, 1) := by decide +kernel
theorem dX2_push_14 : decode cX2_push 14 = .ok (.ireturn, 1) := by decide +kernel
set_option maxRecDepth 20000 in
theorem ggX2_whatGivesWay_X2_push : GoodIn wsX2_whatGivesWay wsX2_push := goodIn_r _ [12, 13, 14, 15, 16, 11, 17, 18, 19, 20, 34, 35, 36, 37, 38, 39, 40, 41, 42, 43] (by decide +kernel) (by decide +kernel)
set_option maxRecDepth 20000 in
theorem gX2_whatGivesWay_X2_push : GoodIn wsX2_whatGivesWay (wsV RX2 51 RX2 yX2_push wsX2_push) := goodIn_app (goodIn_of _ (by decide +kernel)) ggX2_whatGivesWay_X2_push
set_option maxRecDepth 20000 in
theorem ggX2_whatGivesWay_X2_load : GoodIn wsX2_whatGivesWay wsX2_load := goodIn_r _ [24, 18, 20, 34, 35, 36, 37, 38, 39, 40, 41, 42, 43] (by decide +kernel) (by decide +kernel)
set_option maxRecDepth 20000 in
theorem gX2_whatGivesWay_X2_load : GoodIn wsX2_whatGivesWay (wsV RX2 55 RX2 yX2_load wsX2_load) := goodIn_app (goodIn_of _ (by decide +kernel)) ggX2_whatGivesWay_X2_load
set_option maxRecDepth 20000 in
theorem ggX2_whatGivesWay_X2_wallPercents : GoodIn wsX2_whatGivesWay wsX2_wallPercents := goodIn_r _ [28, 6, 34, 35, 36, 37, 38, 39, 40, 41, 42, 43] (by decide +kernel) (by decide +kernel)
set_option maxRecDepth 20000 in
theorem gX2_whatGivesWay_X2_wallPercents : GoodIn wsX2_whatGivesWay (wsV RX2 63 RX2 yX2_wallPercents wsX2_wallPercents) := goodIn_app (goodIn_of _ (by decide +kernel)) ggX2_whatGivesWay_X2_wallPercents
set_option maxRecDepth 20000 in
theorem ggX2_whatGivesWay_X2_groundPercents : GoodIn wsX2_whatGivesWay wsX2_groundPercents := goodIn_r _ [32, 33, 34, 35, 36, 37, 38, 39, 40, 41, 42, 43] (by decide +kernel) (by decide +kernel)
set_option maxRecDepth 20000 in
theorem gX2_whatGivesWay_X2_groundPercents : GoodIn wsX2_whatGivesWay (wsV RX2 66 RX2 yX2_groundPercents wsX2_groundPercents) := goodIn_app (goodIn_of _ (by decide +kernel)) ggX2_whatGivesWay_X2_groundPercents
theorem dX2_whatGivesWay_0 : decode cX2_whatGivesWay 0 = .ok (.aload_n 0, 1) := by decide +kernel
theorem dX2_whatGivesWay_1 : decode cX2_whatGivesWay 1 = .ok (.iload_n 1, 1) := by decide +kernel
theorem dX2_whatGivesWay_2 : decode cX2_whatGivesWay 2 = .ok (.invokevirtual 51, 3) := by decide +kernel
theorem dX2_whatGivesWay_5 : decode cX2_whatGivesWay 5 = .ok (.istore_n 2, 1) := by decide +kernel
theorem dX2_whatGivesWay_6 : decode cX2_whatGivesWay 6 = .ok (.aload_n 0, 1) := by decide +kernel
theorem dX2_whatGivesWay_7 : decode cX2_whatGivesWay 7 = .ok (.invokevirtual 55, 3) := by decide +kernel
theorem dX2_whatGivesWay_10 : decode cX2_whatGivesWay 10 = .ok (.istore_n 3, 1) := by decide +kernel
theorem dX2_whatGivesWay_11 : decode cX2_whatGivesWay 11 = .ok (.iload_n 2, 1) := by decide +kernel
theorem dX2_whatGivesWay_12 : decode cX2_whatGivesWay 12 = .ok (.ifCond .ge 7, 3) := by decide +kernel
theorem dX2_whatGivesWay_15 : decode cX2_whatGivesWay 15 = .ok (.iconst 1, 1) := by decide +kernel
theorem dX2_whatGivesWay_16 : decode cX2_whatGivesWay 16 = .ok (.goto 4, 3) := by decide +kernel
theorem dX2_whatGivesWay_19 : decode cX2_whatGivesWay 19 = .ok (.iconst 0, 1) := by decide +kernel
theorem dX2_whatGivesWay_20 : decode cX2_whatGivesWay 20 = .ok (.istore 4, 2) := by decide +kernel
theorem dX2_whatGivesWay_22 : decode cX2_whatGivesWay 22 = .ok (.sipush 1000, 3) := by decide +kernel
theorem dX2_whatGivesWay_25 : decode cX2_whatGivesWay 25 = .ok (.aload_n 0, 1) := by decide +kernel
theorem dX2_whatGivesWay_26 : decode cX2_whatGivesWay 26 = .ok (.getfield 15, 3) := by decide +kernel
theorem dX2_whatGivesWay_29 : decode cX2_whatGivesWay 29 = .ok (.imul, 1) := by decide +kernel
theorem dX2_whatGivesWay_30 : decode cX2_whatGivesWay 30 = .ok (.iload_n 1, 1) := by decide +kernel
theorem dX2_whatGivesWay_31 : decode cX2_whatGivesWay 31 = .ok (.invokestatic 58, 3) := by decide +kernel
theorem dX2_whatGivesWay_34 : decode cX2_whatGivesWay 34 = .ok (.imul, 1) := by decide +kernel
theorem dX2_whatGivesWay_35 : decode cX2_whatGivesWay 35 = .ok (.aload_n 0, 1) := by decide +kernel
theorem dX2_whatGivesWay_36 : decode cX2_whatGivesWay 36 = .ok (.invokevirtual 63, 3) := by decide +kernel
theorem dX2_whatGivesWay_39 : decode cX2_whatGivesWay 39 = .ok (.iload_n 2, 1) := by decide +kernel
theorem dX2_whatGivesWay_40 : decode cX2_whatGivesWay 40 = .ok (.imul, 1) := by decide +kernel
theorem dX2_whatGivesWay_41 : decode cX2_whatGivesWay 41 = .ok (.if_icmp .gt 15, 3) := by decide +kernel
theorem dX2_whatGivesWay_44 : decode cX2_whatGivesWay 44 = .ok (.aload_n 0, 1) := by decide +kernel
theorem dX2_whatGivesWay_45 : decode cX2_whatGivesWay 45 = .ok (.getfield 24, 3) := by decide +kernel
theorem dX2_whatGivesWay_48 : decode cX2_whatGivesWay 48 = .ok (.iconst 3, 1) := by decide +kernel
theorem dX2_whatGivesWay_49 : decode cX2_whatGivesWay 49 = .ok (.if_icmp .ne 13, 3) := by decide +kernel
theorem dX2_whatGivesWay_52 : decode cX2_whatGivesWay 52 = .ok (.iload_n 1, 1) := by decide +kernel
theorem dX2_whatGivesWay_53 : decode cX2_whatGivesWay 53 = .ok (.ifCond .ge 9, 3) := by decide +kernel
theorem dX2_whatGivesWay_56 : decode cX2_whatGivesWay 56 = .ok (.iload 4, 2) := by decide +kernel
theorem dX2_whatGivesWay_58 : decode cX2_whatGivesWay 58 = .ok (.iconst 2, 1) := by decide +kernel
theorem dX2_whatGivesWay_59 : decode cX2_whatGivesWay 59 = .ok (.ior, 1) := by decide +kernel
theorem dX2_whatGivesWay_60 : decode cX2_whatGivesWay 60 = .ok (.istore 4, 2) := by decide +kernel
theorem dX2_whatGivesWay_62 : decode cX2_whatGivesWay 62 = .ok (.iload_n 1, 1) := by decide +kernel
theorem dX2_whatGivesWay_63 : decode cX2_whatGivesWay 63 = .ok (.iload_n 3, 1) := by decide +kernel
theorem dX2_whatGivesWay_64 : decode cX2_whatGivesWay 64 = .ok (.if_icmp .le 9, 3) := by decide +kernel
theorem dX2_whatGivesWay_67 : decode cX2_whatGivesWay 67 = .ok (.iload 4, 2) := by decide +kernel
theorem dX2_whatGivesWay_69 : decode cX2_whatGivesWay 69 = .ok (.iconst 4, 1) := by decide +kernel
theorem dX2_whatGivesWay_70 : decode cX2_whatGivesWay 70 = .ok (.ior, 1) := by decide +kernel
theorem dX2_whatGivesWay_71 : decode cX2_whatGivesWay 71 = .ok (.istore 4, 2) := by decide +kernel
theorem dX2_whatGivesWay_73 : decode cX2_whatGivesWay 73 = .ok (.bipush 100, 2) := by decide +kernel
theorem dX2_whatGivesWay_75 : decode cX2_whatGivesWay 75 = .ok (.iload_n 2, 1) := by decide +kernel
theorem dX2_whatGivesWay_76 : decode cX2_whatGivesWay 76 = .ok (.imul, 1) := by decide +kernel
theorem dX2_whatGivesWay_77 : decode cX2_whatGivesWay 77 = .ok (.bipush 10, 2) := by decide +kernel
theorem dX2_whatGivesWay_79 : decode cX2_whatGivesWay 79 = .ok (.aload_n 0, 1) := by decide +kernel
theorem dX2_whatGivesWay_80 : decode cX2_whatGivesWay 80 = .ok (.getfield 15, 3) := by decide +kernel
theorem dX2_whatGivesWay_83 : decode cX2_whatGivesWay 83 = .ok (.imul, 1) := by decide +kernel
theorem dX2_whatGivesWay_84 : decode cX2_whatGivesWay 84 = .ok (.aload_n 0, 1) := by decide +kernel
theorem dX2_whatGivesWay_85 : decode cX2_whatGivesWay 85 = .ok (.invokevirtual 66, 3) := by decide +kernel
theorem dX2_whatGivesWay_88 : decode cX2_whatGivesWay 88 = .ok (.iload_n 3, 1) := by decide +kernel
theorem dX2_whatGivesWay_89 : decode cX2_whatGivesWay 89 = .ok (.iload_n 1, 1) := by decide +kernel
theorem dX2_whatGivesWay_90 : decode cX2_whatGivesWay 90 = .ok (.isub, 1) := by decide +kernel
theorem dX2_whatGivesWay_91 : decode cX2_whatGivesWay 91 = .ok (.imul, 1) := by decide +kernel
theorem dX2_whatGivesWay_92 : decode cX2_whatGivesWay 92 = .ok (.bipush 100, 2) := by decide +kernel
theorem dX2_whatGivesWay_94 : decode cX2_whatGivesWay 94 = .ok (.aload_n 0, 1) := by decide +kernel
theorem dX2_whatGivesWay_95 : decode cX2_whatGivesWay 95 = .ok (.getfield 27, 3) := by decide +kernel
theorem dX2_whatGivesWay_98 : decode cX2_whatGivesWay 98 = .ok (.imul, 1) := by decide +kernel
theorem dX2_whatGivesWay_99 : decode cX2_whatGivesWay 99 = .ok (.iadd, 1) := by decide +kernel
theorem dX2_whatGivesWay_100 : decode cX2_whatGivesWay 100 = .ok (.imul, 1) := by decide +kernel
theorem dX2_whatGivesWay_101 : decode cX2_whatGivesWay 101 = .ok (.if_icmp .le 10, 3) := by decide +kernel
theorem dX2_whatGivesWay_104 : decode cX2_whatGivesWay 104 = .ok (.iload 4, 2) := by decide +kernel
theorem dX2_whatGivesWay_106 : decode cX2_whatGivesWay 106 = .ok (.bipush 8, 2) := by decide +kernel
theorem dX2_whatGivesWay_108 : decode cX2_whatGivesWay 108 = .ok (.ior, 1) := by decide +kernel
theorem dX2_whatGivesWay_109 : decode cX2_whatGivesWay 109 = .ok (.istore 4, 2) := by decide +kernel
theorem dX2_whatGivesWay_111 : decode cX2_whatGivesWay 111 = .ok (.iload 4, 2) := by decide +kernel
theorem dX2_whatGivesWay_113 : decode cX2_whatGivesWay 113 = .ok (.ireturn, 1) := by decide +kernel
set_option maxRecDepth 20000 in
theorem ggX2_stands_X2_leastForce : GoodIn wsX2_stands wsX2_leastForce := goodIn_r _ [5, 6, 7, 8, 9, 10, 11, 12, 4, 13, 14, 15, 16, 17, 18, 19, 20, 21, 22, 23, 24, 25, 26, 27, 28, 29, 30, 31, 32, 33, 34, 35, 36, 37, 38, 39, 40, 41, 42, 43, 44, 45, 50, 51, 52, 53, 54, 55, 56, 57, 58, 59] (by decide +kernel) (by decide +kernel)
set_option maxRecDepth 20000 in
theorem gX2_stands_X2_leastForce : GoodIn wsX2_stands (wsV RX2 69 RX2 yX2_leastForce wsX2_leastForce) := goodIn_app (goodIn_of _ (by decide +kernel)) ggX2_stands_X2_leastForce
set_option maxRecDepth 20000 in
theorem ggX2_stands_X2_greatestForce : GoodIn wsX2_stands wsX2_greatestForce := goodIn_r _ [49, 15, 16, 17, 18, 19, 4, 20, 14, 21, 22, 23, 24, 25, 26, 27, 28, 29, 30, 31, 50, 51, 52, 53, 54, 55, 56, 57, 58, 59] (by decide +kernel) (by decide +kernel)
set_option maxRecDepth 20000 in
theorem gX2_stands_X2_greatestForce : GoodIn wsX2_stands (wsV RX2 72 RX2 yX2_greatestForce wsX2_greatestForce) := goodIn_app (goodIn_of _ (by decide +kernel)) ggX2_stands_X2_greatestForce
theorem dX2_stands_0 : decode cX2_stands 0 = .ok (.aload_n 0, 1) := by decide +kernel
theorem dX2_stands_1 : decode cX2_stands 1 = .ok (.invokevirtual 69, 3) := by decide +kernel
theorem dX2_stands_4 : decode cX2_stands 4 = .ok (.aload_n 0, 1) := by decide +kernel
theorem dX2_stands_5 : decode cX2_stands 5 = .ok (.invokevirtual 72, 3) := by decide +kernel
theorem dX2_stands_8 : decode cX2_stands 8 = .ok (.if_icmp .gt 7, 3) := by decide +kernel
theorem dX2_stands_11 : decode cX2_stands 11 = .ok (.iconst 1, 1) := by decide +kernel
theorem dX2_stands_12 : decode cX2_stands 12 = .ok (.goto 4, 3) := by decide +kernel
theorem dX2_stands_15 : decode cX2_stands 15 = .ok (.iconst 0, 1) := by decide +kernel
theorem dX2_stands_16 : decode cX2_stands 16 = .ok (.ireturn, 1) := by decide +kernel
set_option maxRecDepth 20000 in
theorem ggX2_forces_X2_greatestForce : GoodIn wsX2_forces wsX2_greatestForce := goodIn_r _ [9, 10, 11, 12, 13, 14, 8, 15, 16, 17, 18, 19, 20, 21, 22, 23, 24, 25, 26, 27, 50, 51, 52, 53, 54, 55, 56, 57, 58, 59] (by decide +kernel) (by decide +kernel)
set_option maxRecDepth 20000 in
theorem gX2_forces_X2_greatestForce : GoodIn wsX2_forces (wsV RX2 72 RX2 yX2_greatestForce wsX2_greatestForce) := goodIn_app (goodIn_of _ (by decide +kernel)) ggX2_forces_X2_greatestForce
set_option maxRecDepth 20000 in
theorem ggX2_forces_X2_leastForce : GoodIn wsX2_forces wsX2_leastForce := goodIn_r _ [31, 1, 2, 3, 4, 32, 33, 34, 8, 35, 16, 10, 11, 12, 13, 14, 15, 17, 18, 19, 20, 21, 22, 23, 24, 25, 26, 27, 36, 37, 38, 39, 40, 41, 42, 43, 44, 45, 46, 47, 48, 49, 50, 51, 52, 53, 54, 55, 56, 57, 58, 59] (by decide +kernel) (by decide +kernel)
set_option maxRecDepth 20000 in
theorem gX2_forces_X2_leastForce : GoodIn wsX2_forces (wsV RX2 69 RX2 yX2_leastForce wsX2_leastForce) := goodIn_app (goodIn_of _ (by decide +kernel)) ggX2_forces_X2_leastForce
theorem dX2_forces_0 : decode cX2_forces 0 = .ok (.iconst 0, 1) := by decide +kernel
theorem dX2_forces_1 : decode cX2_forces 1 = .ok (.aload_n 0, 1) := by decide +kernel
theorem dX2_forces_2 : decode cX2_forces 2 = .ok (.invokevirtual 72, 3) := by decide +kernel
theorem dX2_forces_5 : decode cX2_forces 5 = .ok (.aload_n 0, 1) := by decide +kernel
theorem dX2_forces_6 : decode cX2_forces 6 = .ok (.invokevirtual 69, 3) := by decide +kernel
theorem dX2_forces_9 : decode cX2_forces 9 = .ok (.isub, 1) := by decide +kernel
theorem dX2_forces_10 : decode cX2_forces 10 = .ok (.iconst 1, 1) := by decide +kernel
theorem dX2_forces_11 : decode cX2_forces 11 = .ok (.iadd, 1) := by decide +kernel
theorem dX2_forces_12 : decode cX2_forces 12 = .ok (.invokestatic 75, 3) := by decide +kernel
theorem dX2_forces_15 : decode cX2_forces 15 = .ok (.ireturn, 1) := by decide +kernel
set_option maxRecDepth 20000 in
theorem ggX2_nearestForce_X2_leastForce : GoodIn wsX2_nearestForce wsX2_leastForce := goodIn_r _ [12, 5, 6, 3, 7, 13, 14, 15, 11, 16, 17, 18, 19, 20, 21, 22, 23, 24, 25, 26, 27, 28, 29, 30, 31, 32, 33, 34, 35, 36, 37, 38, 39, 40, 41, 42, 43, 44, 45, 46, 47, 48, 53, 54, 55, 56, 57, 58, 59, 60, 61, 62] (by decide +kernel) (by decide +kernel)
set_option maxRecDepth 20000 in
theorem gX2_nearestForce_X2_leastForce : GoodIn wsX2_nearestForce (wsV RX2 69 RX2 yX2_leastForce wsX2_leastForce) := goodIn_app (goodIn_of _ (by decide +kernel)) ggX2_nearestForce_X2_leastForce
set_option maxRecDepth 20000 in
theorem ggX2_nearestForce_X2_greatestForce : GoodIn wsX2_nearestForce wsX2_greatestForce := goodIn_r _ [52, 18, 19, 20, 21, 22, 11, 23, 17, 24, 25, 26, 27, 28, 29, 30, 31, 32, 33, 34, 53, 54, 55, 56, 57, 58, 59, 60, 61, 62] (by decide +kernel) (by decide +kernel)
set_option maxRecDepth 20000 in
theorem gX2_nearestForce_X2_greatestForce : GoodIn wsX2_nearestForce (wsV RX2 72 RX2 yX2_greatestForce wsX2_greatestForce) := goodIn_app (goodIn_of _ (by decide +kernel)) ggX2_nearestForce_X2_greatestForce
theorem dX2_nearestForce_0 : decode cX2_nearestForce 0 = .ok (.aload_n 0, 1) := by decide +kernel
theorem dX2_nearestForce_1 : decode cX2_nearestForce 1 = .ok (.invokevirtual 69, 3) := by decide +kernel
theorem dX2_nearestForce_4 : decode cX2_nearestForce 4 = .ok (.iconst 0, 1) := by decide +kernel
theorem dX2_nearestForce_5 : decode cX2_nearestForce 5 = .ok (.aload_n 0, 1) := by decide +kernel
theorem dX2_nearestForce_6 : decode cX2_nearestForce 6 = .ok (.invokevirtual 72, 3) := by decide +kernel
theorem dX2_nearestForce_9 : decode cX2_nearestForce 9 = .ok (.invokestatic 79, 3) := by decide +kernel
theorem dX2_nearestForce_12 : decode cX2_nearestForce 12 = .ok (.invokestatic 75, 3) := by decide +kernel
theorem dX2_nearestForce_15 : decode cX2_nearestForce 15 = .ok (.ireturn, 1) := by decide +kernel
set_option maxRecDepth 20000 in
theorem ggX2_leastForce_X2_leastByWall : GoodIn wsX2_leastForce wsX2_leastByWall := goodIn_r _ [9, 10, 11, 12, 13, 14, 15, 8, 16, 17, 18, 19, 20, 21, 22, 23, 24, 25, 26, 27, 42, 43, 44, 45, 46, 47, 48, 49, 50, 51] (by decide +kernel) (by decide +kernel)
set_option maxRecDepth 20000 in
theorem gX2_leastForce_X2_leastByWall : GoodIn wsX2_leastForce (wsV RX2 82 RX2 yX2_leastByWall wsX2_leastByWall) := goodIn_app (goodIn_of _ (by decide +kernel)) ggX2_leastForce_X2_leastByWall
set_option maxRecDepth 20000 in
theorem ggX2_leastForce_X2_leastByGround : GoodIn wsX2_leastForce wsX2_leastByGround := goodIn_r _ [31, 11, 12, 32, 33, 34, 35, 8, 36, 37, 38, 39, 40, 41, 21, 23, 17, 18, 19, 20, 22, 24, 25, 26, 27, 42, 43, 44, 45, 46, 47, 48, 49, 50, 51] (by decide +kernel) (by decide +kernel)
set_option maxRecDepth 20000 in
theorem gX2_leastForce_X2_leastByGround : GoodIn wsX2_leastForce (wsV RX2 85 RX2 yX2_leastByGround wsX2_leastByGround) := goodIn_app (goodIn_of _ (by decide +kernel)) ggX2_leastForce_X2_leastByGround
theorem dX2_leastForce_0 : decode cX2_leastForce 0 = .ok (.sipush (-1000), 3) := by decide +kernel
theorem dX2_leastForce_3 : decode cX2_leastForce 3 = .ok (.aload_n 0, 1) := by decide +kernel
theorem dX2_leastForce_4 : decode cX2_leastForce 4 = .ok (.invokevirtual 82, 3) := by decide +kernel
theorem dX2_leastForce_7 : decode cX2_leastForce 7 = .ok (.aload_n 0, 1) := by decide +kernel
theorem dX2_leastForce_8 : decode cX2_leastForce 8 = .ok (.invokevirtual 85, 3) := by decide +kernel
theorem dX2_leastForce_11 : decode cX2_leastForce 11 = .ok (.invokestatic 75, 3) := by decide +kernel
theorem dX2_leastForce_14 : decode cX2_leastForce 14 = .ok (.invokestatic 75, 3) := by decide +kernel
theorem dX2_leastForce_17 : decode cX2_leastForce 17 = .ok (.ireturn, 1) := by decide +kernel
set_option maxRecDepth 20000 in
theorem ggX2_greatestForce_X2_wallPercents : GoodIn wsX2_greatestForce wsX2_wallPercents := goodIn_r _ [7, 8, 20, 21, 22, 23, 24, 25, 26, 27, 28, 29] (by decide +kernel) (by decide +kernel)
set_option maxRecDepth 20000 in
theorem gX2_greatestForce_X2_wallPercents : GoodIn wsX2_greatestForce (wsV RX2 63 RX2 yX2_wallPercents wsX2_wallPercents) := goodIn_app (goodIn_of _ (by decide +kernel)) ggX2_greatestForce_X2_wallPercents
set_option maxRecDepth 20000 in
theorem ggX2_greatestForce_X2_moment : GoodIn wsX2_greatestForce wsX2_moment := goodIn_r _ [12, 13, 14, 15, 2, 20, 21, 22, 23, 24, 25, 26, 27, 28, 29] (by decide +kernel) (by decide +kernel)
set_option maxRecDepth 20000 in
theorem gX2_greatestForce_X2_moment : GoodIn wsX2_greatestForce (wsV RX2 47 RX2 yX2_moment wsX2_moment) := goodIn_app (goodIn_of _ (by decide +kernel)) ggX2_greatestForce_X2_moment
set_option maxRecDepth 20000 in
theorem ggX2_greatestForce_J9_floorDiv_7cf53 : GoodIn wsX2_greatestForce wsJ9_floorDiv_7cf53 := goodIn_r _ [19] (by decide +kernel) (by decide +kernel)
set_option maxRecDepth 20000 in
theorem gX2_greatestForce_J9_floorDiv_7cf53 : GoodIn wsX2_greatestForce (va_wsS RX2 88 yJ9_floorDiv_7cf53 wsJ9_floorDiv_7cf53) := goodIn_app (goodIn_of _ (by decide +kernel)) ggX2_greatestForce_J9_floorDiv_7cf53
theorem dX2_greatestForce_0 : decode cX2_greatestForce 0 = .ok (.aload_n 0, 1) := by decide +kernel
theorem dX2_greatestForce_1 : decode cX2_greatestForce 1 = .ok (.invokevirtual 63, 3) := by decide +kernel
theorem dX2_greatestForce_4 : decode cX2_greatestForce 4 = .ok (.istore_n 1, 1) := by decide +kernel
theorem dX2_greatestForce_5 : decode cX2_greatestForce 5 = .ok (.sipush 1000, 3) := by decide +kernel
theorem dX2_greatestForce_8 : decode cX2_greatestForce 8 = .ok (.aload_n 0, 1) := by decide +kernel
theorem dX2_greatestForce_9 : decode cX2_greatestForce 9 = .ok (.getfield 15, 3) := by decide +kernel
theorem dX2_greatestForce_12 : decode cX2_greatestForce 12 = .ok (.imul, 1) := by decide +kernel
theorem dX2_greatestForce_13 : decode cX2_greatestForce 13 = .ok (.bipush 10, 2) := by decide +kernel
theorem dX2_greatestForce_15 : decode cX2_greatestForce 15 = .ok (.aload_n 0, 1) := by decide +kernel
theorem dX2_greatestForce_16 : decode cX2_greatestForce 16 = .ok (.getfield 9, 3) := by decide +kernel
theorem dX2_greatestForce_19 : decode cX2_greatestForce 19 = .ok (.imul, 1) := by decide +kernel
theorem dX2_greatestForce_20 : decode cX2_greatestForce 20 = .ok (.iload_n 1, 1) := by decide +kernel
theorem dX2_greatestForce_21 : decode cX2_greatestForce 21 = .ok (.imul, 1) := by decide +kernel
theorem dX2_greatestForce_22 : decode cX2_greatestForce 22 = .ok (.iadd, 1) := by decide +kernel
theorem dX2_greatestForce_23 : decode cX2_greatestForce 23 = .ok (.istore_n 2, 1) := by decide +kernel
theorem dX2_greatestForce_24 : decode cX2_greatestForce 24 = .ok (.iload_n 2, 1) := by decide +kernel
theorem dX2_greatestForce_25 : decode cX2_greatestForce 25 = .ok (.ifCond .le 16, 3) := by decide +kernel
theorem dX2_greatestForce_28 : decode cX2_greatestForce 28 = .ok (.iload_n 1, 1) := by decide +kernel
theorem dX2_greatestForce_29 : decode cX2_greatestForce 29 = .ok (.aload_n 0, 1) := by decide +kernel
theorem dX2_greatestForce_30 : decode cX2_greatestForce 30 = .ok (.invokevirtual 47, 3) := by decide +kernel
theorem dX2_greatestForce_33 : decode cX2_greatestForce 33 = .ok (.imul, 1) := by decide +kernel
theorem dX2_greatestForce_34 : decode cX2_greatestForce 34 = .ok (.iload_n 2, 1) := by decide +kernel
theorem dX2_greatestForce_35 : decode cX2_greatestForce 35 = .ok (.invokestatic 88, 3) := by decide +kernel
theorem dX2_greatestForce_38 : decode cX2_greatestForce 38 = .ok (.goto 4, 3) := by decide +kernel
theorem dX2_greatestForce_41 : decode cX2_greatestForce 41 = .ok (.iconst 0, 1) := by decide +kernel
theorem dX2_greatestForce_42 : decode cX2_greatestForce 42 = .ok (.ireturn, 1) := by decide +kernel
set_option maxRecDepth 20000 in
theorem ggX2_leastByWall_X2_wallPercents : GoodIn wsX2_leastByWall wsX2_wallPercents := goodIn_r _ [8, 1, 20, 21, 22, 23, 24, 25, 26, 27, 28, 29] (by decide +kernel) (by decide +kernel)
set_option maxRecDepth 20000 in
theorem gX2_leastByWall_X2_wallPercents : GoodIn wsX2_leastByWall (wsV RX2 63 RX2 yX2_wallPercents wsX2_wallPercents) := goodIn_app (goodIn_of _ (by decide +kernel)) ggX2_leastByWall_X2_wallPercents
set_option maxRecDepth 20000 in
theorem ggX2_leastByWall_X2_moment : GoodIn wsX2_leastByWall wsX2_moment := goodIn_r _ [12, 13, 14, 15, 3, 20, 21, 22, 23, 24, 25, 26, 27, 28, 29] (by decide +kernel) (by decide +kernel)
set_option maxRecDepth 20000 in
theorem gX2_leastByWall_X2_moment : GoodIn wsX2_leastByWall (wsV RX2 47 RX2 yX2_moment wsX2_moment) := goodIn_app (goodIn_of _ (by decide +kernel)) ggX2_leastByWall_X2_moment
set_option maxRecDepth 20000 in
theorem ggX2_leastByWall_J9_floorDiv_7cf53 : GoodIn wsX2_leastByWall wsJ9_floorDiv_7cf53 := goodIn_r _ [19] (by decide +kernel) (by decide +kernel)
set_option maxRecDepth 20000 in
theorem gX2_leastByWall_J9_floorDiv_7cf53 : GoodIn wsX2_leastByWall (va_wsS RX2 88 yJ9_floorDiv_7cf53 wsJ9_floorDiv_7cf53) := goodIn_app (goodIn_of _ (by decide +kernel)) ggX2_leastByWall_J9_floorDiv_7cf53
theorem dX2_leastByWall_0 : decode cX2_leastByWall 0 = .ok (.aload_n 0, 1) := by decide +kernel
theorem dX2_leastByWall_1 : decode cX2_leastByWall 1 = .ok (.getfield 24, 3) := by decide +kernel
theorem dX2_leastByWall_4 : decode cX2_leastByWall 4 = .ok (.iconst 3, 1) := by decide +kernel
theorem dX2_leastByWall_5 : decode cX2_leastByWall 5 = .ok (.if_icmp .ne 5, 3) := by decide +kernel
theorem dX2_leastByWall_8 : decode cX2_leastByWall 8 = .ok (.iconst 0, 1) := by decide +kernel
theorem dX2_leastByWall_9 : decode cX2_leastByWall 9 = .ok (.ireturn, 1) := by decide +kernel
theorem dX2_leastByWall_10 : decode cX2_leastByWall 10 = .ok (.aload_n 0, 1) := by decide +kernel
theorem dX2_leastByWall_11 : decode cX2_leastByWall 11 = .ok (.invokevirtual 63, 3) := by decide +kernel
theorem dX2_leastByWall_14 : decode cX2_leastByWall 14 = .ok (.istore_n 1, 1) := by decide +kernel
theorem dX2_leastByWall_15 : decode cX2_leastByWall 15 = .ok (.sipush 1000, 3) := by decide +kernel
theorem dX2_leastByWall_18 : decode cX2_leastByWall 18 = .ok (.aload_n 0, 1) := by decide +kernel
theorem dX2_leastByWall_19 : decode cX2_leastByWall 19 = .ok (.getfield 15, 3) := by decide +kernel
theorem dX2_leastByWall_22 : decode cX2_leastByWall 22 = .ok (.imul, 1) := by decide +kernel
theorem dX2_leastByWall_23 : decode cX2_leastByWall 23 = .ok (.bipush 10, 2) := by decide +kernel
theorem dX2_leastByWall_25 : decode cX2_leastByWall 25 = .ok (.aload_n 0, 1) := by decide +kernel
theorem dX2_leastByWall_26 : decode cX2_leastByWall 26 = .ok (.getfield 9, 3) := by decide +kernel
theorem dX2_leastByWall_29 : decode cX2_leastByWall 29 = .ok (.imul, 1) := by decide +kernel
theorem dX2_leastByWall_30 : decode cX2_leastByWall 30 = .ok (.iload_n 1, 1) := by decide +kernel
theorem dX2_leastByWall_31 : decode cX2_leastByWall 31 = .ok (.imul, 1) := by decide +kernel
theorem dX2_leastByWall_32 : decode cX2_leastByWall 32 = .ok (.isub, 1) := by decide +kernel
theorem dX2_leastByWall_33 : decode cX2_leastByWall 33 = .ok (.istore_n 2, 1) := by decide +kernel
theorem dX2_leastByWall_34 : decode cX2_leastByWall 34 = .ok (.iload_n 2, 1) := by decide +kernel
theorem dX2_leastByWall_35 : decode cX2_leastByWall 35 = .ok (.ifCond .le 17, 3) := by decide +kernel
theorem dX2_leastByWall_38 : decode cX2_leastByWall 38 = .ok (.iload_n 1, 1) := by decide +kernel
theorem dX2_leastByWall_39 : decode cX2_leastByWall 39 = .ok (.aload_n 0, 1) := by decide +kernel
theorem dX2_leastByWall_40 : decode cX2_leastByWall 40 = .ok (.invokevirtual 47, 3) := by decide +kernel
theorem dX2_leastByWall_43 : decode cX2_leastByWall 43 = .ok (.imul, 1) := by decide +kernel
theorem dX2_leastByWall_44 : decode cX2_leastByWall 44 = .ok (.iload_n 2, 1) := by decide +kernel
theorem dX2_leastByWall_45 : decode cX2_leastByWall 45 = .ok (.invokestatic 88, 3) := by decide +kernel
theorem dX2_leastByWall_48 : decode cX2_leastByWall 48 = .ok (.ineg, 1) := by decide +kernel
theorem dX2_leastByWall_49 : decode cX2_leastByWall 49 = .ok (.goto 6, 3) := by decide +kernel
theorem dX2_leastByWall_52 : decode cX2_leastByWall 52 = .ok (.sipush (-1000), 3) := by decide +kernel
theorem dX2_leastByWall_55 : decode cX2_leastByWall 55 = .ok (.ireturn, 1) := by decide +kernel
set_option maxRecDepth 20000 in
theorem ggX2_leastByGround_X2_groundPercents : GoodIn wsX2_leastByGround wsX2_groundPercents := goodIn_r _ [8, 9, 25, 26, 27, 28, 29, 30, 31, 32, 33, 34] (by decide +kernel) (by decide +kernel)
set_option maxRecDepth 20000 in
theorem gX2_leastByGround_X2_groundPercents : GoodIn wsX2_leastByGround (wsV RX2 66 RX2 yX2_groundPercents wsX2_groundPercents) := goodIn_app (goodIn_of _ (by decide +kernel)) ggX2_leastByGround_X2_groundPercents
set_option maxRecDepth 20000 in
theorem ggX2_leastByGround_X2_load : GoodIn wsX2_leastByGround wsX2_load := goodIn_r _ [13, 14, 15, 25, 26, 27, 28, 29, 30, 31, 32, 33, 34] (by decide +kernel) (by decide +kernel)
set_option maxRecDepth 20000 in
theorem gX2_leastByGround_X2_load : GoodIn wsX2_leastByGround (wsV RX2 55 RX2 yX2_load wsX2_load) := goodIn_app (goodIn_of _ (by decide +kernel)) ggX2_leastByGround_X2_load
set_option maxRecDepth 20000 in
theorem ggX2_leastByGround_X2_moment : GoodIn wsX2_leastByGround wsX2_moment := goodIn_r _ [19, 14, 20, 15, 2, 25, 26, 27, 28, 29, 30, 31, 32, 33, 34] (by decide +kernel) (by decide +kernel)
set_option maxRecDepth 20000 in
theorem gX2_leastByGround_X2_moment : GoodIn wsX2_leastByGround (wsV RX2 47 RX2 yX2_moment wsX2_moment) := goodIn_app (goodIn_of _ (by decide +kernel)) ggX2_leastByGround_X2_moment
set_option maxRecDepth 20000 in
theorem ggX2_leastByGround_J9_floorDiv_7cf53 : GoodIn wsX2_leastByGround wsJ9_floorDiv_7cf53 := goodIn_r _ [24] (by decide +kernel) (by decide +kernel)
set_option maxRecDepth 20000 in
theorem gX2_leastByGround_J9_floorDiv_7cf53 : GoodIn wsX2_leastByGround (va_wsS RX2 88 yJ9_floorDiv_7cf53 wsJ9_floorDiv_7cf53) := goodIn_app (goodIn_of _ (by decide +kernel)) ggX2_leastByGround_J9_floorDiv_7cf53
theorem dX2_leastByGround_0 : decode cX2_leastByGround 0 = .ok (.bipush 10, 2) := by decide +kernel
theorem dX2_leastByGround_2 : decode cX2_leastByGround 2 = .ok (.aload_n 0, 1) := by decide +kernel
theorem dX2_leastByGround_3 : decode cX2_leastByGround 3 = .ok (.getfield 15, 3) := by decide +kernel
theorem dX2_leastByGround_6 : decode cX2_leastByGround 6 = .ok (.imul, 1) := by decide +kernel
theorem dX2_leastByGround_7 : decode cX2_leastByGround 7 = .ok (.aload_n 0, 1) := by decide +kernel
theorem dX2_leastByGround_8 : decode cX2_leastByGround 8 = .ok (.invokevirtual 66, 3) := by decide +kernel
theorem dX2_leastByGround_11 : decode cX2_leastByGround 11 = .ok (.imul, 1) := by decide +kernel
theorem dX2_leastByGround_12 : decode cX2_leastByGround 12 = .ok (.sipush 1000, 3) := by decide +kernel
theorem dX2_leastByGround_15 : decode cX2_leastByGround 15 = .ok (.aload_n 0, 1) := by decide +kernel
theorem dX2_leastByGround_16 : decode cX2_leastByGround 16 = .ok (.getfield 9, 3) := by decide +kernel
theorem dX2_leastByGround_19 : decode cX2_leastByGround 19 = .ok (.imul, 1) := by decide +kernel
theorem dX2_leastByGround_20 : decode cX2_leastByGround 20 = .ok (.isub, 1) := by decide +kernel
theorem dX2_leastByGround_21 : decode cX2_leastByGround 21 = .ok (.istore_n 1, 1) := by decide +kernel
theorem dX2_leastByGround_22 : decode cX2_leastByGround 22 = .ok (.bipush 10, 2) := by decide +kernel
theorem dX2_leastByGround_24 : decode cX2_leastByGround 24 = .ok (.aload_n 0, 1) := by decide +kernel
theorem dX2_leastByGround_25 : decode cX2_leastByGround 25 = .ok (.getfield 15, 3) := by decide +kernel
theorem dX2_leastByGround_28 : decode cX2_leastByGround 28 = .ok (.imul, 1) := by decide +kernel
theorem dX2_leastByGround_29 : decode cX2_leastByGround 29 = .ok (.aload_n 0, 1) := by decide +kernel
theorem dX2_leastByGround_30 : decode cX2_leastByGround 30 = .ok (.invokevirtual 66, 3) := by decide +kernel
theorem dX2_leastByGround_33 : decode cX2_leastByGround 33 = .ok (.aload_n 0, 1) := by decide +kernel
theorem dX2_leastByGround_34 : decode cX2_leastByGround 34 = .ok (.invokevirtual 55, 3) := by decide +kernel
theorem dX2_leastByGround_37 : decode cX2_leastByGround 37 = .ok (.imul, 1) := by decide +kernel
theorem dX2_leastByGround_38 : decode cX2_leastByGround 38 = .ok (.bipush 100, 2) := by decide +kernel
theorem dX2_leastByGround_40 : decode cX2_leastByGround 40 = .ok (.aload_n 0, 1) := by decide +kernel
theorem dX2_leastByGround_41 : decode cX2_leastByGround 41 = .ok (.getfield 27, 3) := by decide +kernel
theorem dX2_leastByGround_44 : decode cX2_leastByGround 44 = .ok (.imul, 1) := by decide +kernel
theorem dX2_leastByGround_45 : decode cX2_leastByGround 45 = .ok (.iadd, 1) := by decide +kernel
theorem dX2_leastByGround_46 : decode cX2_leastByGround 46 = .ok (.imul, 1) := by decide +kernel
theorem dX2_leastByGround_47 : decode cX2_leastByGround 47 = .ok (.bipush 100, 2) := by decide +kernel
theorem dX2_leastByGround_49 : decode cX2_leastByGround 49 = .ok (.aload_n 0, 1) := by decide +kernel
theorem dX2_leastByGround_50 : decode cX2_leastByGround 50 = .ok (.invokevirtual 47, 3) := by decide +kernel
theorem dX2_leastByGround_53 : decode cX2_leastByGround 53 = .ok (.imul, 1) := by decide +kernel
theorem dX2_leastByGround_54 : decode cX2_leastByGround 54 = .ok (.isub, 1) := by decide +kernel
theorem dX2_leastByGround_55 : decode cX2_leastByGround 55 = .ok (.istore_n 2, 1) := by decide +kernel
theorem dX2_leastByGround_56 : decode cX2_leastByGround 56 = .ok (.iload_n 1, 1) := by decide +kernel
theorem dX2_leastByGround_57 : decode cX2_leastByGround 57 = .ok (.ifCond .ge 13, 3) := by decide +kernel
theorem dX2_leastByGround_60 : decode cX2_leastByGround 60 = .ok (.iload_n 2, 1) := by decide +kernel
theorem dX2_leastByGround_61 : decode cX2_leastByGround 61 = .ok (.iload_n 1, 1) := by decide +kernel
theorem dX2_leastByGround_62 : decode cX2_leastByGround 62 = .ok (.ineg, 1) := by decide +kernel
theorem dX2_leastByGround_63 : decode cX2_leastByGround 63 = .ok (.invokestatic 88, 3) := by decide +kernel
theorem dX2_leastByGround_66 : decode cX2_leastByGround 66 = .ok (.ineg, 1) := by decide +kernel
theorem dX2_leastByGround_67 : decode cX2_leastByGround 67 = .ok (.goto 6, 3) := by decide +kernel
theorem dX2_leastByGround_70 : decode cX2_leastByGround 70 = .ok (.sipush (-1000), 3) := by decide +kernel
theorem dX2_leastByGround_73 : decode cX2_leastByGround 73 = .ok (.ireturn, 1) := by decide +kernel
theorem dX2_groundPercents_0 : decode cX2_groundPercents 0 = .ok (.aload_n 0, 1) := by decide +kernel
theorem dX2_groundPercents_1 : decode cX2_groundPercents 1 = .ok (.getfield 21, 3) := by decide +kernel
theorem dX2_groundPercents_4 : decode cX2_groundPercents 4 = .ok (.ifCond .lt 25, 3) := by decide +kernel
theorem dX2_groundPercents_7 : decode cX2_groundPercents 7 = .ok (.aload_n 0, 1) := by decide +kernel
theorem dX2_groundPercents_8 : decode cX2_groundPercents 8 = .ok (.getfield 21, 3) := by decide +kernel
theorem dX2_groundPercents_11 : decode cX2_groundPercents 11 = .ok (.getstatic 91, 3) := by decide +kernel
theorem dX2_groundPercents_14 : decode cX2_groundPercents 14 = .ok (.arraylength, 1) := by decide +kernel
theorem dX2_groundPercents_15 : decode cX2_groundPercents 15 = .ok (.if_icmp .ge 14, 3) := by decide +kernel
theorem dX2_groundPercents_18 : decode cX2_groundPercents 18 = .ok (.getstatic 91, 3) := by decide +kernel
theorem dX2_groundPercents_21 : decode cX2_groundPercents 21 = .ok (.aload_n 0, 1) := by decide +kernel
theorem dX2_groundPercents_22 : decode cX2_groundPercents 22 = .ok (.getfield 21, 3) := by decide +kernel
theorem dX2_groundPercents_25 : decode cX2_groundPercents 25 = .ok (.iaload, 1) := by decide +kernel
theorem dX2_groundPercents_26 : decode cX2_groundPercents 26 = .ok (.goto 4, 3) := by decide +kernel
theorem dX2_groundPercents_29 : decode cX2_groundPercents 29 = .ok (.iconst 0, 1) := by decide +kernel
theorem dX2_groundPercents_30 : decode cX2_groundPercents 30 = .ok (.ireturn, 1) := by decide +kernel
theorem dX2_wallPercents_0 : decode cX2_wallPercents 0 = .ok (.aload_n 0, 1) := by decide +kernel
theorem dX2_wallPercents_1 : decode cX2_wallPercents 1 = .ok (.getfield 24, 3) := by decide +kernel
theorem dX2_wallPercents_4 : decode cX2_wallPercents 4 = .ok (.ifCond .lt 25, 3) := by decide +kernel
theorem dX2_wallPercents_7 : decode cX2_wallPercents 7 = .ok (.aload_n 0, 1) := by decide +kernel
theorem dX2_wallPercents_8 : decode cX2_wallPercents 8 = .ok (.getfield 24, 3) := by decide +kernel
theorem dX2_wallPercents_11 : decode cX2_wallPercents 11 = .ok (.getstatic 94, 3) := by decide +kernel
theorem dX2_wallPercents_14 : decode cX2_wallPercents 14 = .ok (.arraylength, 1) := by decide +kernel
theorem dX2_wallPercents_15 : decode cX2_wallPercents 15 = .ok (.if_icmp .ge 14, 3) := by decide +kernel
theorem dX2_wallPercents_18 : decode cX2_wallPercents 18 = .ok (.getstatic 94, 3) := by decide +kernel
theorem dX2_wallPercents_21 : decode cX2_wallPercents 21 = .ok (.aload_n 0, 1) := by decide +kernel
theorem dX2_wallPercents_22 : decode cX2_wallPercents 22 = .ok (.getfield 24, 3) := by decide +kernel
theorem dX2_wallPercents_25 : decode cX2_wallPercents 25 = .ok (.iaload, 1) := by decide +kernel
theorem dX2_wallPercents_26 : decode cX2_wallPercents 26 = .ok (.goto 4, 3) := by decide +kernel
theorem dX2_wallPercents_29 : decode cX2_wallPercents 29 = .ok (.iconst 0, 1) := by decide +kernel
theorem dX2_wallPercents_30 : decode cX2_wallPercents 30 = .ok (.ireturn, 1) := by decide +kernel
set_option maxRecDepth 20000 in
theorem ggX3_init_X2_init : GoodIn wsX3_init wsX2_init := goodIn_r _ [11, 12, 2, 3, 13, 14, 15, 16, 17, 18, 19, 20, 21, 22, 23, 27, 28, 29, 30, 31, 32, 33, 34, 35, 36] (by decide +kernel) (by decide +kernel)
set_option maxRecDepth 20000 in
theorem gX3_init_X2_init_n24 : GoodIn wsX3_init (wsX2_init) := ggX3_init_X2_init
theorem dX3_init_0 : decode cX3_init 0 = .ok (.aload_n 0, 1) := by decide +kernel
theorem dX3_init_1 : decode cX3_init 1 = .ok (.invokespecial 3, 3) := by decide +kernel
theorem dX3_init_4 : decode cX3_init 4 = .ok (.aload_n 0, 1) := by decide +kernel
theorem dX3_init_5 : decode cX3_init 5 = .ok (.iconst 4, 1) := by decide +kernel
theorem dX3_init_6 : decode cX3_init 6 = .ok (.anewarray 9, 3) := by decide +kernel
theorem dX3_init_9 : decode cX3_init 9 = .ok (.putfield 11, 3) := by decide +kernel
theorem dX3_init_12 : decode cX3_init 12 = .ok (.aload_n 0, 1) := by decide +kernel
theorem dX3_init_13 : decode cX3_init 13 = .ok (.iconst 0, 1) := by decide +kernel
theorem dX3_init_14 : decode cX3_init 14 = .ok (.putfield 17, 3) := by decide +kernel
theorem dX3_init_17 : decode cX3_init 17 = .ok (.aload_n 0, 1) := by decide +kernel
theorem dX3_init_18 : decode cX3_init 18 = .ok (.iconst 0, 1) := by decide +kernel
theorem dX3_init_19 : decode cX3_init 19 = .ok (.putfield 21, 3) := by decide +kernel
theorem dX3_init_22 : decode cX3_init 22 = .ok (.iconst 0, 1) := by decide +kernel
theorem dX3_init_23 : decode cX3_init 23 = .ok (.istore_n 1, 1) := by decide +kernel
theorem dX3_init_24 : decode cX3_init 24 = .ok (.iload_n 1, 1) := by decide +kernel
theorem dX3_init_25 : decode cX3_init 25 = .ok (.iconst 4, 1) := by decide +kernel
theorem dX3_init_26 : decode cX3_init 26 = .ok (.if_icmp .ge 22, 3) := by decide +kernel
theorem dX3_init_29 : decode cX3_init 29 = .ok (.aload_n 0, 1) := by decide +kernel
theorem dX3_init_30 : decode cX3_init 30 = .ok (.getfield 11, 3) := by decide +kernel
theorem dX3_init_33 : decode cX3_init 33 = .ok (.iload_n 1, 1) := by decide +kernel
theorem dX3_init_34 : decode cX3_init 34 = .ok (.new 9, 3) := by decide +kernel
theorem dX3_init_37 : decode cX3_init 37 = .ok (.dup, 1) := by decide +kernel
theorem dX3_init_38 : decode cX3_init 38 = .ok (.invokespecial 24, 3) := by decide +kernel
theorem dX3_init_41 : decode cX3_init 41 = .ok (.aastore, 1) := by decide +kernel
theorem dX3_init_42 : decode cX3_init 42 = .ok (.iinc 1 1, 3) := by decide +kernel
theorem dX3_init_45 : decode cX3_init 45 = .ok (.goto (-21), 3) := by decide +kernel
theorem dX3_init_48 : decode cX3_init 48 = .ok (.return_, 1) := by decide +kernel
set_option maxRecDepth 20000 in
theorem ggX3_copyFrom_X2_copyFrom : GoodIn wsX3_copyFrom wsX2_copyFrom := goodIn_r _ [8, 9, 10, 11, 12, 13, 14, 15, 16, 17, 18, 22, 23, 24, 25, 26, 27, 28, 29, 30, 31] (by decide +kernel) (by decide +kernel)
set_option maxRecDepth 20000 in
theorem gX3_copyFrom_X2_copyFrom : GoodIn wsX3_copyFrom (wsV RX3 25 RX2 yX2_copyFrom wsX2_copyFrom) := goodIn_app (goodIn_of _ (by decide +kernel)) ggX3_copyFrom_X2_copyFrom
theorem dX3_copyFrom_0 : decode cX3_copyFrom 0 = .ok (.iconst 0, 1) := by decide +kernel
theorem dX3_copyFrom_1 : decode cX3_copyFrom 1 = .ok (.istore_n 2, 1) := by decide +kernel
theorem dX3_copyFrom_2 : decode cX3_copyFrom 2 = .ok (.iload_n 2, 1) := by decide +kernel
theorem dX3_copyFrom_3 : decode cX3_copyFrom 3 = .ok (.iconst 4, 1) := by decide +kernel
theorem dX3_copyFrom_4 : decode cX3_copyFrom 4 = .ok (.if_icmp .ge 24, 3) := by decide +kernel
theorem dX3_copyFrom_7 : decode cX3_copyFrom 7 = .ok (.aload_n 0, 1) := by decide +kernel
theorem dX3_copyFrom_8 : decode cX3_copyFrom 8 = .ok (.getfield 11, 3) := by decide +kernel
theorem dX3_copyFrom_11 : decode cX3_copyFrom 11 = .ok (.iload_n 2, 1) := by decide +kernel
theorem dX3_copyFrom_12 : decode cX3_copyFrom 12 = .ok (.aaload, 1) := by decide +kernel
theorem dX3_copyFrom_13 : decode cX3_copyFrom 13 = .ok (.aload_n 1, 1) := by decide +kernel
theorem dX3_copyFrom_14 : decode cX3_copyFrom 14 = .ok (.getfield 11, 3) := by decide +kernel
theorem dX3_copyFrom_17 : decode cX3_copyFrom 17 = .ok (.iload_n 2, 1) := by decide +kernel
theorem dX3_copyFrom_18 : decode cX3_copyFrom 18 = .ok (.aaload, 1) := by decide +kernel
theorem dX3_copyFrom_19 : decode cX3_copyFrom 19 = .ok (.invokevirtual 25, 3) := by decide +kernel
theorem dX3_copyFrom_22 : decode cX3_copyFrom 22 = .ok (.iinc 2 1, 3) := by decide +kernel
theorem dX3_copyFrom_25 : decode cX3_copyFrom 25 = .ok (.goto (-23), 3) := by decide +kernel
theorem dX3_copyFrom_28 : decode cX3_copyFrom 28 = .ok (.aload_n 0, 1) := by decide +kernel
theorem dX3_copyFrom_29 : decode cX3_copyFrom 29 = .ok (.aload_n 1, 1) := by decide +kernel
theorem dX3_copyFrom_30 : decode cX3_copyFrom 30 = .ok (.getfield 17, 3) := by decide +kernel
theorem dX3_copyFrom_33 : decode cX3_copyFrom 33 = .ok (.putfield 17, 3) := by decide +kernel
theorem dX3_copyFrom_36 : decode cX3_copyFrom 36 = .ok (.aload_n 0, 1) := by decide +kernel
theorem dX3_copyFrom_37 : decode cX3_copyFrom 37 = .ok (.aload_n 1, 1) := by decide +kernel
theorem dX3_copyFrom_38 : decode cX3_copyFrom 38 = .ok (.getfield 21, 3) := by decide +kernel
theorem dX3_copyFrom_41 : decode cX3_copyFrom 41 = .ok (.putfield 21, 3) := by decide +kernel
theorem dX3_copyFrom_44 : decode cX3_copyFrom 44 = .ok (.return_, 1) := by decide +kernel
set_option maxRecDepth 20000 in
theorem ggX3_standing_X2_stands : GoodIn wsX3_standing wsX2_stands := goodIn_r _ [6, 7, 8, 9, 5, 10, 11, 12, 13, 14, 15, 16, 17, 18, 19, 20, 21, 22, 23, 24, 25, 26, 27, 28, 29, 30, 31, 32, 33, 34, 35, 36, 37, 38, 39, 40, 41, 42, 43, 44, 45, 46, 47, 48, 49, 50, 51, 52, 53, 54, 58, 59, 60, 61, 62, 63, 64, 65, 66, 67] (by decide +kernel) (by decide +kernel)
set_option maxRecDepth 20000 in
theorem gX3_standing_X2_stands : GoodIn wsX3_standing (wsV RX3 29 RX2 yX2_stands wsX2_stands) := goodIn_app (goodIn_of _ (by decide +kernel)) ggX3_standing_X2_stands
theorem dX3_standing_0 : decode cX3_standing 0 = .ok (.iconst 0, 1) := by decide +kernel
theorem dX3_standing_1 : decode cX3_standing 1 = .ok (.istore_n 1, 1) := by decide +kernel
theorem dX3_standing_2 : decode cX3_standing 2 = .ok (.iconst 0, 1) := by decide +kernel
theorem dX3_standing_3 : decode cX3_standing 3 = .ok (.istore_n 2, 1) := by decide +kernel
theorem dX3_standing_4 : decode cX3_standing 4 = .ok (.iload_n 2, 1) := by decide +kernel
theorem dX3_standing_5 : decode cX3_standing 5 = .ok (.iconst 4, 1) := by decide +kernel
theorem dX3_standing_6 : decode cX3_standing 6 = .ok (.if_icmp .ge 24, 3) := by decide +kernel
theorem dX3_standing_9 : decode cX3_standing 9 = .ok (.aload_n 0, 1) := by decide +kernel
theorem dX3_standing_10 : decode cX3_standing 10 = .ok (.getfield 11, 3) := by decide +kernel
theorem dX3_standing_13 : decode cX3_standing 13 = .ok (.iload_n 2, 1) := by decide +kernel
theorem dX3_standing_14 : decode cX3_standing 14 = .ok (.aaload, 1) := by decide +kernel
theorem dX3_standing_15 : decode cX3_standing 15 = .ok (.invokevirtual 29, 3) := by decide +kernel
theorem dX3_standing_18 : decode cX3_standing 18 = .ok (.ifCond .eq 6, 3) := by decide +kernel
theorem dX3_standing_21 : decode cX3_standing 21 = .ok (.iinc 1 1, 3) := by decide +kernel
theorem dX3_standing_24 : decode cX3_standing 24 = .ok (.iinc 2 1, 3) := by decide +kernel
theorem dX3_standing_27 : decode cX3_standing 27 = .ok (.goto (-23), 3) := by decide +kernel
theorem dX3_standing_30 : decode cX3_standing 30 = .ok (.iload_n 1, 1) := by decide +kernel
theorem dX3_standing_31 : decode cX3_standing 31 = .ok (.ireturn, 1) := by decide +kernel
theorem dX3_people_0 : decode cX3_people 0 = .ok (.iconst 0, 1) := by decide +kernel
theorem dX3_people_1 : decode cX3_people 1 = .ok (.istore_n 1, 1) := by decide +kernel
theorem dX3_people_2 : decode cX3_people 2 = .ok (.iconst 0, 1) := by decide +kernel
theorem dX3_people_3 : decode cX3_people 3 = .ok (.istore_n 2, 1) := by decide +kernel
theorem dX3_people_4 : decode cX3_people 4 = .ok (.iload_n 2, 1) := by decide +kernel
theorem dX3_people_5 : decode cX3_people 5 = .ok (.iconst 4, 1) := by decide +kernel
theorem dX3_people_6 : decode cX3_people 6 = .ok (.if_icmp .ge 21, 3) := by decide +kernel
theorem dX3_people_9 : decode cX3_people 9 = .ok (.iload_n 1, 1) := by decide +kernel
theorem dX3_people_10 : decode cX3_people 10 = .ok (.aload_n 0, 1) := by decide +kernel
theorem dX3_people_11 : decode cX3_people 11 = .ok (.getfield 11, 3) := by decide +kernel
theorem dX3_people_14 : decode cX3_people 14 = .ok (.iload_n 2, 1) := by decide +kernel
theorem dX3_people_15 : decode cX3_people 15 = .ok (.aaload, 1) := by decide +kernel
theorem dX3_people_16 : decode cX3_people 16 = .ok (.getfield 33, 3) := by decide +kernel
theorem dX3_people_19 : decode cX3_people 19 = .ok (.iadd, 1) := by decide +kernel
theorem dX3_people_20 : decode cX3_people 20 = .ok (.istore_n 1, 1) := by decide +kernel
theorem dX3_people_21 : decode cX3_people 21 = .ok (.iinc 2 1, 3) := by decide +kernel
theorem dX3_people_24 : decode cX3_people 24 = .ok (.goto (-20), 3) := by decide +kernel
theorem dX3_people_27 : decode cX3_people 27 = .ok (.iload_n 1, 1) := by decide +kernel
theorem dX3_people_28 : decode cX3_people 28 = .ok (.ireturn, 1) := by decide +kernel
theorem dX3_falls_0 : decode cX3_falls 0 = .ok (.iconst 0, 1) := by decide +kernel
theorem dX3_falls_1 : decode cX3_falls 1 = .ok (.istore_n 1, 1) := by decide +kernel
theorem dX3_falls_2 : decode cX3_falls 2 = .ok (.iconst 0, 1) := by decide +kernel
theorem dX3_falls_3 : decode cX3_falls 3 = .ok (.istore_n 2, 1) := by decide +kernel
theorem dX3_falls_4 : decode cX3_falls 4 = .ok (.iload_n 2, 1) := by decide +kernel
theorem dX3_falls_5 : decode cX3_falls 5 = .ok (.iconst 4, 1) := by decide +kernel
theorem dX3_falls_6 : decode cX3_falls 6 = .ok (.if_icmp .ge 21, 3) := by decide +kernel
theorem dX3_falls_9 : decode cX3_falls 9 = .ok (.iload_n 1, 1) := by decide +kernel
theorem dX3_falls_10 : decode cX3_falls 10 = .ok (.aload_n 0, 1) := by decide +kernel
theorem dX3_falls_11 : decode cX3_falls 11 = .ok (.getfield 11, 3) := by decide +kernel
theorem dX3_falls_14 : decode cX3_falls 14 = .ok (.iload_n 2, 1) := by decide +kernel
theorem dX3_falls_15 : decode cX3_falls 15 = .ok (.aaload, 1) := by decide +kernel
theorem dX3_falls_16 : decode cX3_falls 16 = .ok (.getfield 36, 3) := by decide +kernel
theorem dX3_falls_19 : decode cX3_falls 19 = .ok (.iadd, 1) := by decide +kernel
theorem dX3_falls_20 : decode cX3_falls 20 = .ok (.istore_n 1, 1) := by decide +kernel
theorem dX3_falls_21 : decode cX3_falls 21 = .ok (.iinc 2 1, 3) := by decide +kernel
theorem dX3_falls_24 : decode cX3_falls 24 = .ok (.goto (-20), 3) := by decide +kernel
theorem dX3_falls_27 : decode cX3_falls 27 = .ok (.iload_n 1, 1) := by decide +kernel
theorem dX3_falls_28 : decode cX3_falls 28 = .ok (.ireturn, 1) := by decide +kernel
set_option maxRecDepth 20000 in
theorem ggX3_fallsNow_X2_stands : GoodIn wsX3_fallsNow wsX2_stands := goodIn_r _ [6, 7, 8, 9, 5, 10, 11, 12, 13, 14, 15, 16, 17, 18, 19, 20, 21, 22, 23, 24, 25, 26, 27, 28, 29, 30, 31, 32, 33, 34, 35, 36, 37, 38, 39, 40, 41, 42, 43, 44, 45, 46, 47, 48, 49, 50, 51, 52, 53, 54, 67, 68, 69, 70, 71, 72, 73, 74, 75, 76] (by decide +kernel) (by decide +kernel)
set_option maxRecDepth 20000 in
theorem gX3_fallsNow_X2_stands : GoodIn wsX3_fallsNow (wsV RX3 29 RX2 yX2_stands wsX2_stands) := goodIn_app (goodIn_of _ (by decide +kernel)) ggX3_fallsNow_X2_stands
set_option maxRecDepth 20000 in
theorem ggX3_fallsNow_X3_fall : GoodIn wsX3_fallsNow wsX3_fall := goodIn_r _ [59, 60, 1, 61, 62, 63, 64, 5, 65, 32, 31, 66, 77, 78, 79, 67, 68, 69, 70, 71, 72, 73, 74, 75, 76] (by decide +kernel) (by decide +kernel)
set_option maxRecDepth 20000 in
theorem gX3_fallsNow_X3_fall : GoodIn wsX3_fallsNow (wsV RX3 39 RX3 yX3_fall wsX3_fall) := goodIn_app (goodIn_of _ (by decide +kernel)) ggX3_fallsNow_X3_fall
theorem dX3_fallsNow_0 : decode cX3_fallsNow 0 = .ok (.aload_n 1, 1) := by decide +kernel
theorem dX3_fallsNow_1 : decode cX3_fallsNow 1 = .ok (.getfield 33, 3) := by decide +kernel
theorem dX3_fallsNow_4 : decode cX3_fallsNow 4 = .ok (.ifCond .eq 10, 3) := by decide +kernel
theorem dX3_fallsNow_7 : decode cX3_fallsNow 7 = .ok (.aload_n 1, 1) := by decide +kernel
theorem dX3_fallsNow_8 : decode cX3_fallsNow 8 = .ok (.invokevirtual 29, 3) := by decide +kernel
theorem dX3_fallsNow_11 : decode cX3_fallsNow 11 = .ok (.ifCond .eq 5, 3) := by decide +kernel
theorem dX3_fallsNow_14 : decode cX3_fallsNow 14 = .ok (.iconst 0, 1) := by decide +kernel
theorem dX3_fallsNow_15 : decode cX3_fallsNow 15 = .ok (.ireturn, 1) := by decide +kernel
theorem dX3_fallsNow_16 : decode cX3_fallsNow 16 = .ok (.aload_n 0, 1) := by decide +kernel
theorem dX3_fallsNow_17 : decode cX3_fallsNow 17 = .ok (.aload_n 1, 1) := by decide +kernel
theorem dX3_fallsNow_18 : decode cX3_fallsNow 18 = .ok (.invokevirtual 39, 3) := by decide +kernel
theorem dX3_fallsNow_21 : decode cX3_fallsNow 21 = .ok (.iconst 1, 1) := by decide +kernel
theorem dX3_fallsNow_22 : decode cX3_fallsNow 22 = .ok (.ireturn, 1) := by decide +kernel
set_option maxRecDepth 20000 in
theorem ggX3_fall_X2_removeAll : GoodIn wsX3_fall wsX2_removeAll := goodIn_r _ [8, 9, 10, 11, 15, 16, 17, 18, 19, 20, 21, 22, 23, 24] (by decide +kernel) (by decide +kernel)
set_option maxRecDepth 20000 in
theorem gX3_fall_X2_removeAll : GoodIn wsX3_fall (wsV RX3 42 RX2 yX2_removeAll wsX2_removeAll) := goodIn_app (goodIn_of _ (by decide +kernel)) ggX3_fall_X2_removeAll
theorem dX3_fall_0 : decode cX3_fall 0 = .ok (.aload_n 0, 1) := by decide +kernel
theorem dX3_fall_1 : decode cX3_fall 1 = .ok (.dup, 1) := by decide +kernel
theorem dX3_fall_2 : decode cX3_fall 2 = .ok (.getfield 17, 3) := by decide +kernel
theorem dX3_fall_5 : decode cX3_fall 5 = .ok (.aload_n 1, 1) := by decide +kernel
theorem dX3_fall_6 : decode cX3_fall 6 = .ok (.getfield 33, 3) := by decide +kernel
theorem dX3_fall_9 : decode cX3_fall 9 = .ok (.iadd, 1) := by decide +kernel
theorem dX3_fall_10 : decode cX3_fall 10 = .ok (.putfield 17, 3) := by decide +kernel
theorem dX3_fall_13 : decode cX3_fall 13 = .ok (.aload_n 1, 1) := by decide +kernel
theorem dX3_fall_14 : decode cX3_fall 14 = .ok (.dup, 1) := by decide +kernel
theorem dX3_fall_15 : decode cX3_fall 15 = .ok (.getfield 36, 3) := by decide +kernel
theorem dX3_fall_18 : decode cX3_fall 18 = .ok (.iconst 1, 1) := by decide +kernel
theorem dX3_fall_19 : decode cX3_fall 19 = .ok (.iadd, 1) := by decide +kernel
theorem dX3_fall_20 : decode cX3_fall 20 = .ok (.putfield 36, 3) := by decide +kernel
theorem dX3_fall_23 : decode cX3_fall 23 = .ok (.aload_n 1, 1) := by decide +kernel
theorem dX3_fall_24 : decode cX3_fall 24 = .ok (.invokevirtual 42, 3) := by decide +kernel
theorem dX3_fall_27 : decode cX3_fall 27 = .ok (.return_, 1) := by decide +kernel
set_option maxRecDepth 20000 in
theorem ggX3_walk_X2_stepOf : GoodIn wsX3_walk wsX2_stepOf := goodIn_r _ [10, 11, 12, 13, 14, 9, 15, 16, 86, 87, 88, 89, 90, 91, 92, 93, 94, 95] (by decide +kernel) (by decide +kernel)
set_option maxRecDepth 20000 in
theorem gX3_walk_X2_stepOf : GoodIn wsX3_walk (wsV RX3 45 RX2 yX2_stepOf wsX2_stepOf) := goodIn_app (goodIn_of _ (by decide +kernel)) ggX3_walk_X2_stepOf
set_option maxRecDepth 20000 in
theorem ggX3_walk_X2_setStep : GoodIn wsX3_walk wsX2_setStep := goodIn_r _ [20, 11, 12, 13, 14, 9, 15, 16, 86, 87, 88, 89, 90, 91, 92, 93, 94, 95] (by decide +kernel) (by decide +kernel)
set_option maxRecDepth 20000 in
theorem gX3_walk_X2_setStep : GoodIn wsX3_walk (wsV RX3 54 RX2 yX2_setStep wsX2_setStep) := goodIn_app (goodIn_of _ (by decide +kernel)) ggX3_walk_X2_setStep
set_option maxRecDepth 20000 in
theorem ggX3_walk_X2_stands : GoodIn wsX3_walk wsX2_stands := goodIn_r _ [24, 25, 26, 27, 9, 28, 29, 30, 3, 31, 32, 33, 34, 35, 36, 37, 38, 39, 40, 41, 42, 43, 44, 45, 46, 47, 11, 48, 49, 50, 51, 52, 53, 54, 55, 56, 57, 58, 59, 60, 61, 62, 63, 64, 65, 66, 67, 68, 69, 70, 86, 87, 88, 89, 90, 91, 92, 93, 94, 95] (by decide +kernel) (by decide +kernel)
set_option maxRecDepth 20000 in
theorem gX3_walk_X2_stands : GoodIn wsX3_walk (wsV RX3 29 RX2 yX2_stands wsX2_stands) := goodIn_app (goodIn_of _ (by decide +kernel)) ggX3_walk_X2_stands
set_option maxRecDepth 20000 in
theorem ggX3_walk_X3_fall : GoodIn wsX3_walk wsX3_fall := goodIn_r _ [75, 76, 77, 78, 79, 80, 81, 9, 82, 48, 11, 16, 83, 84, 85, 86, 87, 88, 89, 90, 91, 92, 93, 94, 95] (by decide +kernel) (by decide +kernel)
set_option maxRecDepth 20000 in
theorem gX3_walk_X3_fall : GoodIn wsX3_walk (wsV RX3 39 RX3 yX3_fall wsX3_fall) := goodIn_app (goodIn_of _ (by decide +kernel)) ggX3_walk_X3_fall
theorem dX3_walk_0 : decode cX3_walk 0 = .ok (.aload_n 1, 1) := by decide +kernel
theorem dX3_walk_1 : decode cX3_walk 1 = .ok (.iload_n 2, 1) := by decide +kernel
theorem dX3_walk_2 : decode cX3_walk 2 = .ok (.invokevirtual 45, 3) := by decide +kernel
theorem dX3_walk_5 : decode cX3_walk 5 = .ok (.istore 4, 2) := by decide +kernel
theorem dX3_walk_7 : decode cX3_walk 7 = .ok (.iload_n 3, 1) := by decide +kernel
theorem dX3_walk_8 : decode cX3_walk 8 = .ok (.iload 4, 2) := by decide +kernel
theorem dX3_walk_10 : decode cX3_walk 10 = .ok (.if_icmp .ge 7, 3) := by decide +kernel
theorem dX3_walk_13 : decode cX3_walk 13 = .ok (.iconst (-1), 1) := by decide +kernel
theorem dX3_walk_14 : decode cX3_walk 14 = .ok (.goto 4, 3) := by decide +kernel
theorem dX3_walk_17 : decode cX3_walk 17 = .ok (.iconst 1, 1) := by decide +kernel
theorem dX3_walk_18 : decode cX3_walk 18 = .ok (.istore 5, 2) := by decide +kernel
theorem dX3_walk_20 : decode cX3_walk 20 = .ok (.iload_n 3, 1) := by decide +kernel
theorem dX3_walk_21 : decode cX3_walk 21 = .ok (.iload 4, 2) := by decide +kernel
theorem dX3_walk_23 : decode cX3_walk 23 = .ok (.isub, 1) := by decide +kernel
theorem dX3_walk_24 : decode cX3_walk 24 = .ok (.invokestatic 49, 3) := by decide +kernel
theorem dX3_walk_27 : decode cX3_walk 27 = .ok (.istore 6, 2) := by decide +kernel
theorem dX3_walk_29 : decode cX3_walk 29 = .ok (.iconst 1, 1) := by decide +kernel
theorem dX3_walk_30 : decode cX3_walk 30 = .ok (.istore 7, 2) := by decide +kernel
theorem dX3_walk_32 : decode cX3_walk 32 = .ok (.iload 7, 2) := by decide +kernel
theorem dX3_walk_34 : decode cX3_walk 34 = .ok (.iload 6, 2) := by decide +kernel
theorem dX3_walk_36 : decode cX3_walk 36 = .ok (.if_icmp .gt 46, 3) := by decide +kernel
theorem dX3_walk_39 : decode cX3_walk 39 = .ok (.aload_n 1, 1) := by decide +kernel
theorem dX3_walk_40 : decode cX3_walk 40 = .ok (.iload_n 2, 1) := by decide +kernel
theorem dX3_walk_41 : decode cX3_walk 41 = .ok (.iload 4, 2) := by decide +kernel
theorem dX3_walk_43 : decode cX3_walk 43 = .ok (.iload 7, 2) := by decide +kernel
theorem dX3_walk_45 : decode cX3_walk 45 = .ok (.iload 5, 2) := by decide +kernel
theorem dX3_walk_47 : decode cX3_walk 47 = .ok (.imul, 1) := by decide +kernel
theorem dX3_walk_48 : decode cX3_walk 48 = .ok (.iadd, 1) := by decide +kernel
theorem dX3_walk_49 : decode cX3_walk 49 = .ok (.invokevirtual 54, 3) := by decide +kernel
theorem dX3_walk_52 : decode cX3_walk 52 = .ok (.aload_n 0, 1) := by decide +kernel
theorem dX3_walk_53 : decode cX3_walk 53 = .ok (.dup, 1) := by decide +kernel
theorem dX3_walk_54 : decode cX3_walk 54 = .ok (.getfield 21, 3) := by decide +kernel
theorem dX3_walk_57 : decode cX3_walk 57 = .ok (.iconst 1, 1) := by decide +kernel
theorem dX3_walk_58 : decode cX3_walk 58 = .ok (.iadd, 1) := by decide +kernel
theorem dX3_walk_59 : decode cX3_walk 59 = .ok (.putfield 21, 3) := by decide +kernel
theorem dX3_walk_62 : decode cX3_walk 62 = .ok (.aload_n 1, 1) := by decide +kernel
theorem dX3_walk_63 : decode cX3_walk 63 = .ok (.invokevirtual 29, 3) := by decide +kernel
theorem dX3_walk_66 : decode cX3_walk 66 = .ok (.ifCond .ne 10, 3) := by decide +kernel
theorem dX3_walk_69 : decode cX3_walk 69 = .ok (.aload_n 0, 1) := by decide +kernel
theorem dX3_walk_70 : decode cX3_walk 70 = .ok (.aload_n 1, 1) := by decide +kernel
theorem dX3_walk_71 : decode cX3_walk 71 = .ok (.invokevirtual 39, 3) := by decide +kernel
theorem dX3_walk_74 : decode cX3_walk 74 = .ok (.iconst (-1), 1) := by decide +kernel
theorem dX3_walk_75 : decode cX3_walk 75 = .ok (.ireturn, 1) := by decide +kernel
theorem dX3_walk_76 : decode cX3_walk 76 = .ok (.iinc 7 1, 3) := by decide +kernel
theorem dX3_walk_79 : decode cX3_walk 79 = .ok (.goto (-47), 3) := by decide +kernel
theorem dX3_walk_82 : decode cX3_walk 82 = .ok (.iload_n 3, 1) := by decide +kernel
theorem dX3_walk_83 : decode cX3_walk 83 = .ok (.ireturn, 1) := by decide +kernel
set_option maxRecDepth 20000 in
theorem ggX4_init_X1_init : GoodIn wsX4_init wsX1_init := goodIn_r _ [13, 14, 2, 3, 15, 16, 17, 18, 19, 20, 25, 26, 27, 28, 29, 30] (by decide +kernel) (by decide +kernel)
set_option maxRecDepth 20000 in
theorem gX4_init_X1_init_n24 : GoodIn wsX4_init (wsX1_init) := ggX4_init_X1_init
theorem dX4_init_0 : decode cX4_init 0 = .ok (.aload_n 0, 1) := by decide +kernel
theorem dX4_init_1 : decode cX4_init 1 = .ok (.invokespecial 3, 3) := by decide +kernel
theorem dX4_init_4 : decode cX4_init 4 = .ok (.aload_n 0, 1) := by decide +kernel
theorem dX4_init_5 : decode cX4_init 5 = .ok (.bipush 60, 2) := by decide +kernel
theorem dX4_init_7 : decode cX4_init 7 = .ok (.newarray .int, 2) := by decide +kernel
theorem dX4_init_9 : decode cX4_init 9 = .ok (.putfield 9, 3) := by decide +kernel
theorem dX4_init_12 : decode cX4_init 12 = .ok (.aload_n 0, 1) := by decide +kernel
theorem dX4_init_13 : decode cX4_init 13 = .ok (.iconst 0, 1) := by decide +kernel
theorem dX4_init_14 : decode cX4_init 14 = .ok (.putfield 15, 3) := by decide +kernel
theorem dX4_init_17 : decode cX4_init 17 = .ok (.aload_n 0, 1) := by decide +kernel
theorem dX4_init_18 : decode cX4_init 18 = .ok (.iconst 0, 1) := by decide +kernel
theorem dX4_init_19 : decode cX4_init 19 = .ok (.putfield 19, 3) := by decide +kernel
theorem dX4_init_22 : decode cX4_init 22 = .ok (.aload_n 0, 1) := by decide +kernel
theorem dX4_init_23 : decode cX4_init 23 = .ok (.new 22, 3) := by decide +kernel
theorem dX4_init_26 : decode cX4_init 26 = .ok (.dup, 1) := by decide +kernel
theorem dX4_init_27 : decode cX4_init 27 = .ok (.invokespecial 24, 3) := by decide +kernel
theorem dX4_init_30 : decode cX4_init 30 = .ok (.putfield 25, 3) := by decide +kernel
theorem dX4_init_33 : decode cX4_init 33 = .ok (.return_, 1) := by decide +kernel
