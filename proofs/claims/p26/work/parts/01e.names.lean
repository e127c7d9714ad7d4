set_option maxRecDepth 20000 in
theorem ggX5_init_X3_init : GoodIn wsX5_init wsX3_init := goodIn_r _ [22, 23, 2, 3, 24, 25, 26, 27, 17, 18, 28, 29, 30, 31, 32, 33, 34, 35, 36, 37, 38, 39, 40, 41, 70, 71, 72, 84, 85, 86, 87, 88, 89, 90, 91, 92, 93] (by decide +kernel) (by decide +kernel)
set_option maxRecDepth 20000 in
theorem gX5_init_X3_init : GoodIn wsX5_init (wsX3_init) := ggX5_init_X3_init
set_option maxRecDepth 20000 in
theorem ggX5_init_X0_init : GoodIn wsX5_init wsX0_init := goodIn_r _ [44, 45, 2, 3, 46, 47, 48, 49, 5, 6, 50, 21, 22, 23, 24, 25, 26, 27, 17, 18, 28, 29, 30, 31, 32, 33, 34, 35, 36, 37, 38, 39, 40, 41, 77, 78, 79, 70, 71, 72, 84, 85, 86, 87, 88, 89, 90, 91, 92, 93] (by decide +kernel) (by decide +kernel)
set_option maxRecDepth 20000 in
theorem gX5_init_X0_init : GoodIn wsX5_init (wsX0_init) := ggX5_init_X0_init
set_option maxRecDepth 20000 in
theorem ggX5_init_X4_init : GoodIn wsX5_init wsX4_init := goodIn_r _ [52, 53, 2, 3, 39, 54, 55, 56, 57, 58, 59, 60, 61, 62, 63, 64, 65, 66, 67, 68, 69, 80, 81, 82, 83, 94, 95, 96, 97, 98, 99] (by decide +kernel) (by decide +kernel)
set_option maxRecDepth 20000 in
theorem gX5_init_X4_init_n25 : GoodIn wsX5_init (wsX4_init) := ggX5_init_X4_init
set_option maxRecDepth 20000 in
theorem ggX5_init_X2_init : GoodIn wsX5_init wsX2_init := goodIn_r _ [29, 30, 2, 3, 31, 32, 33, 34, 35, 36, 37, 38, 39, 40, 41, 84, 85, 86, 87, 88, 89, 90, 91, 92, 93] (by decide +kernel) (by decide +kernel)
set_option maxRecDepth 20000 in
theorem gX5_init_X2_init_n32 : GoodIn wsX5_init (wsX2_init) := ggX5_init_X2_init
theorem dX5_init_0 : decode cX5_init 0 = .ok (.aload_n 0, 1) := by decide +kernel
theorem dX5_init_1 : decode cX5_init 1 = .ok (.invokespecial 1, 3) := by decide +kernel
theorem dX5_init_4 : decode cX5_init 4 = .ok (.aload_n 0, 1) := by decide +kernel
theorem dX5_init_5 : decode cX5_init 5 = .ok (.new 7, 3) := by decide +kernel
theorem dX5_init_8 : decode cX5_init 8 = .ok (.dup, 1) := by decide +kernel
theorem dX5_init_9 : decode cX5_init 9 = .ok (.invokespecial 9, 3) := by decide +kernel
theorem dX5_init_12 : decode cX5_init 12 = .ok (.putfield 10, 3) := by decide +kernel
theorem dX5_init_15 : decode cX5_init 15 = .ok (.aload_n 0, 1) := by decide +kernel
theorem dX5_init_16 : decode cX5_init 16 = .ok (.new 16, 3) := by decide +kernel
theorem dX5_init_19 : decode cX5_init 19 = .ok (.dup, 1) := by decide +kernel
theorem dX5_init_20 : decode cX5_init 20 = .ok (.invokespecial 18, 3) := by decide +kernel
theorem dX5_init_23 : decode cX5_init 23 = .ok (.putfield 19, 3) := by decide +kernel
theorem dX5_init_26 : decode cX5_init 26 = .ok (.aload_n 0, 1) := by decide +kernel
theorem dX5_init_27 : decode cX5_init 27 = .ok (.new 23, 3) := by decide +kernel
theorem dX5_init_30 : decode cX5_init 30 = .ok (.dup, 1) := by decide +kernel
theorem dX5_init_31 : decode cX5_init 31 = .ok (.invokespecial 25, 3) := by decide +kernel
theorem dX5_init_34 : decode cX5_init 34 = .ok (.putfield 26, 3) := by decide +kernel
theorem dX5_init_37 : decode cX5_init 37 = .ok (.aload_n 0, 1) := by decide +kernel
theorem dX5_init_38 : decode cX5_init 38 = .ok (.new 30, 3) := by decide +kernel
theorem dX5_init_41 : decode cX5_init 41 = .ok (.dup, 1) := by decide +kernel
theorem dX5_init_42 : decode cX5_init 42 = .ok (.invokespecial 32, 3) := by decide +kernel
theorem dX5_init_45 : decode cX5_init 45 = .ok (.putfield 33, 3) := by decide +kernel
theorem dX5_init_48 : decode cX5_init 48 = .ok (.return_, 1) := by decide +kernel
set_option maxRecDepth 20000 in
theorem ggX5_put_X5_rigOf : GoodIn wsX5_put wsX5_rigOf := goodIn_ca (goodIn_r _ [10, 11, 12, 2, 13, 111, 112, 113, 114, 125, 126, 127] (by decide +kernel) (by decide +kernel)) (goodIn_sub (fun _ h => List.mem_cons_of_mem _ (List.mem_append_left _ (List.mem_append_right _ h))) (by decide +kernel))
set_option maxRecDepth 20000 in
theorem gX5_put_X5_rigOf : GoodIn wsX5_put (wsV RX5 37 RX5 yX5_rigOf wsX5_rigOf) := goodIn_app (goodIn_of _ (by decide +kernel)) ggX5_put_X5_rigOf
set_option maxRecDepth 20000 in
theorem ggX5_put_X5_demandRange : GoodIn wsX5_put wsX5_demandRange := goodIn_ca (goodIn_r _ [16, 17, 18] (by decide +kernel) (by decide +kernel)) (goodIn_sub (fun _ h => List.mem_cons_of_mem _ (List.mem_append_right _ h)) (by decide +kernel))
set_option maxRecDepth 20000 in
theorem gX5_put_X5_demandRange : GoodIn wsX5_put (va_wsS RX5 41 yX5_demandRange wsX5_demandRange) := goodIn_app (goodIn_of _ (by decide +kernel)) ggX5_put_X5_demandRange
set_option maxRecDepth 20000 in
theorem ggX5_put_X0_save : GoodIn wsX5_put wsX0_save := goodIn_r _ [23, 24, 25, 26, 27, 28, 29, 30, 31, 32, 33, 34, 35, 36, 37, 38, 39, 40, 41, 42, 43, 44, 45, 46, 47, 48, 49, 50, 51, 52, 53, 128, 129, 130, 125, 126, 127, 115, 116, 117, 118, 119, 120, 121, 122, 123, 124] (by decide +kernel) (by decide +kernel)
set_option maxRecDepth 20000 in
theorem gX5_put_X0_save : GoodIn wsX5_put (wsV RX5 45 RX0 yX0_save wsX0_save) := goodIn_app (goodIn_of _ (by decide +kernel)) ggX5_put_X0_save
set_option maxRecDepth 20000 in
theorem ggX5_put_X3_fallsNow : GoodIn wsX5_put wsX3_fallsNow := goodIn_r _ [57, 58, 59, 60, 61, 42, 62, 63, 64, 65, 66, 67, 68, 29, 69, 70, 71, 72, 73, 48, 45, 44, 74, 75, 76, 77, 78, 79, 80, 81, 46, 53, 52, 82, 83, 84, 85, 86, 87, 88, 89, 49, 90, 91, 92, 93, 47, 94, 95, 96, 97, 98, 99, 100, 101, 102, 103, 104, 34, 105, 37, 106, 107, 108, 109, 110, 51, 115, 116, 117, 118, 119, 120, 121, 122, 123, 124, 125, 126, 127] (by decide +kernel) (by decide +kernel)
set_option maxRecDepth 20000 in
theorem gX5_put_X3_fallsNow : GoodIn wsX5_put (wsV RX5 59 RX3 yX3_fallsNow wsX3_fallsNow) := goodIn_app (goodIn_of _ (by decide +kernel)) ggX5_put_X3_fallsNow
theorem dX5_put_0 : decode cX5_put 0 = .ok (.aload_n 0, 1) := by decide +kernel
theorem dX5_put_1 : decode cX5_put 1 = .ok (.iload_n 1, 1) := by decide +kernel
theorem dX5_put_2 : decode cX5_put 2 = .ok (.invokevirtual 37, 3) := by decide +kernel
theorem dX5_put_5 : decode cX5_put 5 = .ok (.astore 5, 2) := by decide +kernel
theorem dX5_put_7 : decode cX5_put 7 = .ok (.iload_n 2, 1) := by decide +kernel
theorem dX5_put_8 : decode cX5_put 8 = .ok (.bipush 10, 2) := by decide +kernel
theorem dX5_put_10 : decode cX5_put 10 = .ok (.bipush 100, 2) := by decide +kernel
theorem dX5_put_12 : decode cX5_put 12 = .ok (.invokestatic 41, 3) := by decide +kernel
theorem dX5_put_15 : decode cX5_put 15 = .ok (.iload_n 3, 1) := by decide +kernel
theorem dX5_put_16 : decode cX5_put 16 = .ok (.bipush 50, 2) := by decide +kernel
theorem dX5_put_18 : decode cX5_put 18 = .ok (.sipush 300, 3) := by decide +kernel
theorem dX5_put_21 : decode cX5_put 21 = .ok (.invokestatic 41, 3) := by decide +kernel
theorem dX5_put_24 : decode cX5_put 24 = .ok (.iload 4, 2) := by decide +kernel
theorem dX5_put_26 : decode cX5_put 26 = .ok (.iconst 1, 1) := by decide +kernel
theorem dX5_put_27 : decode cX5_put 27 = .ok (.bipush 100, 2) := by decide +kernel
theorem dX5_put_29 : decode cX5_put 29 = .ok (.invokestatic 41, 3) := by decide +kernel
theorem dX5_put_32 : decode cX5_put 32 = .ok (.aload_n 0, 1) := by decide +kernel
theorem dX5_put_33 : decode cX5_put 33 = .ok (.getfield 19, 3) := by decide +kernel
theorem dX5_put_36 : decode cX5_put 36 = .ok (.aload_n 0, 1) := by decide +kernel
theorem dX5_put_37 : decode cX5_put 37 = .ok (.getfield 10, 3) := by decide +kernel
theorem dX5_put_40 : decode cX5_put 40 = .ok (.invokevirtual 45, 3) := by decide +kernel
theorem dX5_put_43 : decode cX5_put 43 = .ok (.aload 5, 2) := by decide +kernel
theorem dX5_put_45 : decode cX5_put 45 = .ok (.iload_n 2, 1) := by decide +kernel
theorem dX5_put_46 : decode cX5_put 46 = .ok (.putfield 49, 3) := by decide +kernel
theorem dX5_put_49 : decode cX5_put 49 = .ok (.aload 5, 2) := by decide +kernel
theorem dX5_put_51 : decode cX5_put 51 = .ok (.iload_n 3, 1) := by decide +kernel
theorem dX5_put_52 : decode cX5_put 52 = .ok (.putfield 53, 3) := by decide +kernel
theorem dX5_put_55 : decode cX5_put 55 = .ok (.aload 5, 2) := by decide +kernel
theorem dX5_put_57 : decode cX5_put 57 = .ok (.iload 4, 2) := by decide +kernel
theorem dX5_put_59 : decode cX5_put 59 = .ok (.putfield 56, 3) := by decide +kernel
theorem dX5_put_62 : decode cX5_put 62 = .ok (.aload_n 0, 1) := by decide +kernel
theorem dX5_put_63 : decode cX5_put 63 = .ok (.getfield 10, 3) := by decide +kernel
theorem dX5_put_66 : decode cX5_put 66 = .ok (.aload 5, 2) := by decide +kernel
theorem dX5_put_68 : decode cX5_put 68 = .ok (.invokevirtual 59, 3) := by decide +kernel
theorem dX5_put_71 : decode cX5_put 71 = .ok (.ifCond .eq 7, 3) := by decide +kernel
theorem dX5_put_74 : decode cX5_put 74 = .ok (.iconst 1, 1) := by decide +kernel
theorem dX5_put_75 : decode cX5_put 75 = .ok (.goto 4, 3) := by decide +kernel
theorem dX5_put_78 : decode cX5_put 78 = .ok (.iconst 0, 1) := by decide +kernel
theorem dX5_put_79 : decode cX5_put 79 = .ok (.ireturn, 1) := by decide +kernel
set_option maxRecDepth 20000 in
theorem ggX5_kinds_X5_rigOf : GoodIn wsX5_kinds wsX5_rigOf := goodIn_ca (goodIn_r _ [9, 10, 11, 2, 12, 110, 111, 112, 113, 124, 125, 126] (by decide +kernel) (by decide +kernel)) (goodIn_sub (fun _ h => List.mem_cons_of_mem _ (List.mem_append_left _ (List.mem_append_right _ h))) (by decide +kernel))
set_option maxRecDepth 20000 in
theorem gX5_kinds_X5_rigOf : GoodIn wsX5_kinds (wsV RX5 37 RX5 yX5_rigOf wsX5_rigOf) := goodIn_app (goodIn_of _ (by decide +kernel)) ggX5_kinds_X5_rigOf
set_option maxRecDepth 20000 in
theorem ggX5_kinds_X5_demandRange : GoodIn wsX5_kinds wsX5_demandRange := goodIn_ca (goodIn_r _ [15, 16, 17] (by decide +kernel) (by decide +kernel)) (goodIn_sub (fun _ h => List.mem_cons_of_mem _ (List.mem_append_right _ h)) (by decide +kernel))
set_option maxRecDepth 20000 in
theorem gX5_kinds_X5_demandRange : GoodIn wsX5_kinds (va_wsS RX5 41 yX5_demandRange wsX5_demandRange) := goodIn_app (goodIn_of _ (by decide +kernel)) ggX5_kinds_X5_demandRange
set_option maxRecDepth 20000 in
theorem ggX5_kinds_X0_save : GoodIn wsX5_kinds wsX0_save := goodIn_r _ [22, 23, 24, 25, 26, 27, 28, 29, 30, 31, 32, 33, 34, 35, 36, 37, 38, 39, 40, 41, 42, 43, 44, 45, 46, 47, 48, 49, 50, 51, 52, 127, 128, 129, 124, 125, 126, 114, 115, 116, 117, 118, 119, 120, 121, 122, 123] (by decide +kernel) (by decide +kernel)
set_option maxRecDepth 20000 in
theorem gX5_kinds_X0_save : GoodIn wsX5_kinds (wsV RX5 45 RX0 yX0_save wsX0_save) := goodIn_app (goodIn_of _ (by decide +kernel)) ggX5_kinds_X0_save
set_option maxRecDepth 20000 in
theorem ggX5_kinds_X3_fallsNow : GoodIn wsX5_kinds wsX3_fallsNow := goodIn_r _ [56, 57, 58, 59, 60, 41, 61, 62, 63, 64, 65, 66, 67, 28, 68, 69, 70, 71, 72, 47, 44, 43, 73, 74, 75, 76, 77, 78, 79, 80, 45, 52, 51, 81, 82, 83, 84, 85, 86, 87, 88, 48, 89, 90, 91, 92, 46, 93, 94, 95, 96, 97, 98, 99, 100, 101, 102, 103, 33, 104, 36, 105, 106, 107, 108, 109, 50, 114, 115, 116, 117, 118, 119, 120, 121, 122, 123, 124, 125, 126] (by decide +kernel) (by decide +kernel)
set_option maxRecDepth 20000 in
theorem gX5_kinds_X3_fallsNow : GoodIn wsX5_kinds (wsV RX5 59 RX3 yX3_fallsNow wsX3_fallsNow) := goodIn_app (goodIn_of _ (by decide +kernel)) ggX5_kinds_X3_fallsNow
theorem dX5_kinds_0 : decode cX5_kinds 0 = .ok (.aload_n 0, 1) := by decide +kernel
theorem dX5_kinds_1 : decode cX5_kinds 1 = .ok (.iload_n 1, 1) := by decide +kernel
theorem dX5_kinds_2 : decode cX5_kinds 2 = .ok (.invokevirtual 37, 3) := by decide +kernel
theorem dX5_kinds_5 : decode cX5_kinds 5 = .ok (.astore 4, 2) := by decide +kernel
theorem dX5_kinds_7 : decode cX5_kinds 7 = .ok (.iload_n 2, 1) := by decide +kernel
theorem dX5_kinds_8 : decode cX5_kinds 8 = .ok (.iconst 0, 1) := by decide +kernel
theorem dX5_kinds_9 : decode cX5_kinds 9 = .ok (.iconst 3, 1) := by decide +kernel
theorem dX5_kinds_10 : decode cX5_kinds 10 = .ok (.invokestatic 41, 3) := by decide +kernel
theorem dX5_kinds_13 : decode cX5_kinds 13 = .ok (.iload_n 3, 1) := by decide +kernel
theorem dX5_kinds_14 : decode cX5_kinds 14 = .ok (.iconst 0, 1) := by decide +kernel
theorem dX5_kinds_15 : decode cX5_kinds 15 = .ok (.iconst 3, 1) := by decide +kernel
theorem dX5_kinds_16 : decode cX5_kinds 16 = .ok (.invokestatic 41, 3) := by decide +kernel
theorem dX5_kinds_19 : decode cX5_kinds 19 = .ok (.aload_n 0, 1) := by decide +kernel
theorem dX5_kinds_20 : decode cX5_kinds 20 = .ok (.getfield 19, 3) := by decide +kernel
theorem dX5_kinds_23 : decode cX5_kinds 23 = .ok (.aload_n 0, 1) := by decide +kernel
theorem dX5_kinds_24 : decode cX5_kinds 24 = .ok (.getfield 10, 3) := by decide +kernel
theorem dX5_kinds_27 : decode cX5_kinds 27 = .ok (.invokevirtual 45, 3) := by decide +kernel
theorem dX5_kinds_30 : decode cX5_kinds 30 = .ok (.aload 4, 2) := by decide +kernel
theorem dX5_kinds_32 : decode cX5_kinds 32 = .ok (.iload_n 2, 1) := by decide +kernel
theorem dX5_kinds_33 : decode cX5_kinds 33 = .ok (.putfield 63, 3) := by decide +kernel
theorem dX5_kinds_36 : decode cX5_kinds 36 = .ok (.aload 4, 2) := by decide +kernel
theorem dX5_kinds_38 : decode cX5_kinds 38 = .ok (.iload_n 3, 1) := by decide +kernel
theorem dX5_kinds_39 : decode cX5_kinds 39 = .ok (.putfield 66, 3) := by decide +kernel
theorem dX5_kinds_42 : decode cX5_kinds 42 = .ok (.aload_n 0, 1) := by decide +kernel
theorem dX5_kinds_43 : decode cX5_kinds 43 = .ok (.getfield 10, 3) := by decide +kernel
theorem dX5_kinds_46 : decode cX5_kinds 46 = .ok (.aload 4, 2) := by decide +kernel
theorem dX5_kinds_48 : decode cX5_kinds 48 = .ok (.invokevirtual 59, 3) := by decide +kernel
theorem dX5_kinds_51 : decode cX5_kinds 51 = .ok (.ifCond .eq 7, 3) := by decide +kernel
theorem dX5_kinds_54 : decode cX5_kinds 54 = .ok (.iconst 1, 1) := by decide +kernel
theorem dX5_kinds_55 : decode cX5_kinds 55 = .ok (.goto 4, 3) := by decide +kernel
theorem dX5_kinds_58 : decode cX5_kinds 58 = .ok (.iconst 0, 1) := by decide +kernel
theorem dX5_kinds_59 : decode cX5_kinds 59 = .ok (.ireturn, 1) := by decide +kernel
set_option maxRecDepth 20000 in
theorem ggX5_rope_X5_rigOf : GoodIn wsX5_rope wsX5_rigOf := goodIn_ca (goodIn_r _ [8, 9, 10, 2, 11, 109, 110, 111, 112, 123, 124, 125] (by decide +kernel) (by decide +kernel)) (goodIn_sub (fun _ h => List.mem_cons_of_mem _ (List.mem_append_left _ (List.mem_append_right _ h))) (by decide +kernel))
set_option maxRecDepth 20000 in
theorem gX5_rope_X5_rigOf : GoodIn wsX5_rope (wsV RX5 37 RX5 yX5_rigOf wsX5_rigOf) := goodIn_app (goodIn_of _ (by decide +kernel)) ggX5_rope_X5_rigOf
set_option maxRecDepth 20000 in
theorem ggX5_rope_X5_demandRange : GoodIn wsX5_rope wsX5_demandRange := goodIn_ca (goodIn_r _ [14, 15, 16] (by decide +kernel) (by decide +kernel)) (goodIn_sub (fun _ h => List.mem_cons_of_mem _ (List.mem_append_right _ h)) (by decide +kernel))
set_option maxRecDepth 20000 in
theorem gX5_rope_X5_demandRange : GoodIn wsX5_rope (va_wsS RX5 41 yX5_demandRange wsX5_demandRange) := goodIn_app (goodIn_of _ (by decide +kernel)) ggX5_rope_X5_demandRange
set_option maxRecDepth 20000 in
theorem ggX5_rope_X0_save : GoodIn wsX5_rope wsX0_save := goodIn_r _ [21, 22, 23, 24, 25, 26, 27, 28, 29, 30, 31, 32, 33, 34, 35, 36, 37, 38, 39, 40, 41, 42, 43, 44, 45, 46, 47, 48, 49, 50, 51, 126, 127, 128, 123, 124, 125, 113, 114, 115, 116, 117, 118, 119, 120, 121, 122] (by decide +kernel) (by decide +kernel)
set_option maxRecDepth 20000 in
theorem gX5_rope_X0_save : GoodIn wsX5_rope (wsV RX5 45 RX0 yX0_save wsX0_save) := goodIn_app (goodIn_of _ (by decide +kernel)) ggX5_rope_X0_save
set_option maxRecDepth 20000 in
theorem ggX5_rope_X3_fallsNow : GoodIn wsX5_rope wsX3_fallsNow := goodIn_r _ [55, 56, 57, 58, 59, 40, 60, 61, 62, 63, 64, 65, 66, 27, 67, 68, 69, 70, 71, 46, 43, 42, 72, 73, 74, 75, 76, 77, 78, 79, 44, 51, 50, 80, 81, 82, 83, 84, 85, 86, 87, 47, 88, 89, 90, 91, 45, 92, 93, 94, 95, 96, 97, 98, 99, 100, 101, 102, 32, 103, 35, 104, 105, 106, 107, 108, 49, 113, 114, 115, 116, 117, 118, 119, 120, 121, 122, 123, 124, 125] (by decide +kernel) (by decide +kernel)
set_option maxRecDepth 20000 in
theorem gX5_rope_X3_fallsNow : GoodIn wsX5_rope (wsV RX5 59 RX3 yX3_fallsNow wsX3_fallsNow) := goodIn_app (goodIn_of _ (by decide +kernel)) ggX5_rope_X3_fallsNow
theorem dX5_rope_0 : decode cX5_rope 0 = .ok (.aload_n 0, 1) := by decide +kernel
theorem dX5_rope_1 : decode cX5_rope 1 = .ok (.iload_n 1, 1) := by decide +kernel
theorem dX5_rope_2 : decode cX5_rope 2 = .ok (.invokevirtual 37, 3) := by decide +kernel
theorem dX5_rope_5 : decode cX5_rope 5 = .ok (.astore_n 3, 1) := by decide +kernel
theorem dX5_rope_6 : decode cX5_rope 6 = .ok (.iload_n 2, 1) := by decide +kernel
theorem dX5_rope_7 : decode cX5_rope 7 = .ok (.iconst 0, 1) := by decide +kernel
theorem dX5_rope_8 : decode cX5_rope 8 = .ok (.sipush 200, 3) := by decide +kernel
theorem dX5_rope_11 : decode cX5_rope 11 = .ok (.invokestatic 41, 3) := by decide +kernel
theorem dX5_rope_14 : decode cX5_rope 14 = .ok (.aload_n 0, 1) := by decide +kernel
theorem dX5_rope_15 : decode cX5_rope 15 = .ok (.getfield 19, 3) := by decide +kernel
theorem dX5_rope_18 : decode cX5_rope 18 = .ok (.aload_n 0, 1) := by decide +kernel
theorem dX5_rope_19 : decode cX5_rope 19 = .ok (.getfield 10, 3) := by decide +kernel
theorem dX5_rope_22 : decode cX5_rope 22 = .ok (.invokevirtual 45, 3) := by decide +kernel
theorem dX5_rope_25 : decode cX5_rope 25 = .ok (.aload_n 3, 1) := by decide +kernel
theorem dX5_rope_26 : decode cX5_rope 26 = .ok (.iload_n 2, 1) := by decide +kernel
theorem dX5_rope_27 : decode cX5_rope 27 = .ok (.putfield 69, 3) := by decide +kernel
theorem dX5_rope_30 : decode cX5_rope 30 = .ok (.aload_n 0, 1) := by decide +kernel
theorem dX5_rope_31 : decode cX5_rope 31 = .ok (.getfield 10, 3) := by decide +kernel
theorem dX5_rope_34 : decode cX5_rope 34 = .ok (.aload_n 3, 1) := by decide +kernel
theorem dX5_rope_35 : decode cX5_rope 35 = .ok (.invokevirtual 59, 3) := by decide +kernel
theorem dX5_rope_38 : decode cX5_rope 38 = .ok (.ifCond .eq 7, 3) := by decide +kernel
theorem dX5_rope_41 : decode cX5_rope 41 = .ok (.iconst 1, 1) := by decide +kernel
theorem dX5_rope_42 : decode cX5_rope 42 = .ok (.goto 4, 3) := by decide +kernel
theorem dX5_rope_45 : decode cX5_rope 45 = .ok (.iconst 0, 1) := by decide +kernel
theorem dX5_rope_46 : decode cX5_rope 46 = .ok (.ireturn, 1) := by decide +kernel
set_option maxRecDepth 20000 in
theorem ggX5_on_X5_rigOf : GoodIn wsX5_on wsX5_rigOf := goodIn_ca (goodIn_r _ [10, 11, 12, 4, 13, 119, 120, 121, 122, 133, 134, 135] (by decide +kernel) (by decide +kernel)) (goodIn_sub (fun _ h => List.mem_cons_of_mem _ (List.mem_append_left _ (List.mem_append_right _ h))) (by decide +kernel))
set_option maxRecDepth 20000 in
theorem gX5_on_X5_rigOf : GoodIn wsX5_on (wsV RX5 37 RX5 yX5_rigOf wsX5_rigOf) := goodIn_app (goodIn_of _ (by decide +kernel)) ggX5_on_X5_rigOf
set_option maxRecDepth 20000 in
theorem ggX5_on_X5_demandRange : GoodIn wsX5_on wsX5_demandRange := goodIn_ca (goodIn_r _ [16, 17, 18] (by decide +kernel) (by decide +kernel)) (goodIn_sub (fun _ h => List.mem_cons_of_mem _ (List.mem_append_right _ h)) (by decide +kernel))
set_option maxRecDepth 20000 in
theorem gX5_on_X5_demandRange : GoodIn wsX5_on (va_wsS RX5 41 yX5_demandRange wsX5_demandRange) := goodIn_app (goodIn_of _ (by decide +kernel)) ggX5_on_X5_demandRange
set_option maxRecDepth 20000 in
theorem ggX5_on_X2_isFull : GoodIn wsX5_on wsX2_isFull := goodIn_r _ [23, 24, 123, 124, 125, 126, 127, 128, 129, 130, 131, 132] (by decide +kernel) (by decide +kernel)
set_option maxRecDepth 20000 in
theorem gX5_on_X2_isFull : GoodIn wsX5_on (wsV RX5 72 RX2 yX2_isFull wsX2_isFull) := goodIn_app (goodIn_of _ (by decide +kernel)) ggX5_on_X2_isFull
set_option maxRecDepth 20000 in
theorem ggX5_on_X0_save : GoodIn wsX5_on wsX0_save := goodIn_r _ [29, 30, 31, 32, 33, 34, 35, 36, 37, 38, 39, 40, 41, 42, 43, 44, 45, 46, 47, 22, 48, 49, 50, 51, 52, 53, 54, 55, 24, 56, 57, 136, 137, 138, 133, 134, 135, 123, 124, 125, 126, 127, 128, 129, 130, 131, 132] (by decide +kernel) (by decide +kernel)
set_option maxRecDepth 20000 in
theorem gX5_on_X0_save : GoodIn wsX5_on (wsV RX5 45 RX0 yX0_save wsX0_save) := goodIn_app (goodIn_of _ (by decide +kernel)) ggX5_on_X0_save
set_option maxRecDepth 20000 in
theorem ggX5_on_X2_add : GoodIn wsX5_on wsX2_add := goodIn_r _ [61, 24, 56, 57, 123, 124, 125, 126, 127, 128, 129, 130, 131, 132] (by decide +kernel) (by decide +kernel)
set_option maxRecDepth 20000 in
theorem gX5_on_X2_add : GoodIn wsX5_on (wsV RX5 83 RX2 yX2_add wsX2_add) := goodIn_app (goodIn_of _ (by decide +kernel)) ggX5_on_X2_add
set_option maxRecDepth 20000 in
theorem ggX5_on_X3_fallsNow : GoodIn wsX5_on wsX3_fallsNow := goodIn_r _ [65, 66, 67, 68, 69, 22, 70, 71, 72, 73, 74, 75, 76, 35, 77, 78, 79, 80, 81, 53, 50, 49, 82, 83, 84, 85, 86, 87, 88, 89, 51, 57, 56, 90, 91, 92, 93, 94, 95, 96, 97, 54, 98, 99, 100, 101, 52, 102, 103, 104, 105, 106, 107, 108, 109, 110, 111, 112, 40, 113, 43, 114, 115, 116, 117, 118, 24, 123, 124, 125, 126, 127, 128, 129, 130, 131, 132, 133, 134, 135] (by decide +kernel) (by decide +kernel)
set_option maxRecDepth 20000 in
theorem gX5_on_X3_fallsNow : GoodIn wsX5_on (wsV RX5 59 RX3 yX3_fallsNow wsX3_fallsNow) := goodIn_app (goodIn_of _ (by decide +kernel)) ggX5_on_X3_fallsNow
theorem dX5_on_0 : decode cX5_on 0 = .ok (.aload_n 0, 1) := by decide +kernel
theorem dX5_on_1 : decode cX5_on 1 = .ok (.iload_n 1, 1) := by decide +kernel
theorem dX5_on_2 : decode cX5_on 2 = .ok (.invokevirtual 37, 3) := by decide +kernel
theorem dX5_on_5 : decode cX5_on 5 = .ok (.astore_n 3, 1) := by decide +kernel
theorem dX5_on_6 : decode cX5_on 6 = .ok (.iload_n 2, 1) := by decide +kernel
theorem dX5_on_7 : decode cX5_on 7 = .ok (.bipush 20, 2) := by decide +kernel
theorem dX5_on_9 : decode cX5_on 9 = .ok (.sipush 150, 3) := by decide +kernel
theorem dX5_on_12 : decode cX5_on 12 = .ok (.invokestatic 41, 3) := by decide +kernel
theorem dX5_on_15 : decode cX5_on 15 = .ok (.aload_n 3, 1) := by decide +kernel
theorem dX5_on_16 : decode cX5_on 16 = .ok (.invokevirtual 72, 3) := by decide +kernel
theorem dX5_on_19 : decode cX5_on 19 = .ok (.ifCond .eq 13, 3) := by decide +kernel
theorem dX5_on_22 : decode cX5_on 22 = .ok (.new 76, 3) := by decide +kernel
theorem dX5_on_25 : decode cX5_on 25 = .ok (.dup, 1) := by decide +kernel
theorem dX5_on_26 : decode cX5_on 26 = .ok (.ldc 78, 2) := by decide +kernel
theorem dX5_on_28 : decode cX5_on 28 = .ok (.invokespecial 80, 3) := by decide +kernel
theorem dX5_on_31 : decode cX5_on 31 = .ok (.athrow, 1) := by decide +kernel
theorem dX5_on_32 : decode cX5_on 32 = .ok (.aload_n 0, 1) := by decide +kernel
theorem dX5_on_33 : decode cX5_on 33 = .ok (.getfield 19, 3) := by decide +kernel
theorem dX5_on_36 : decode cX5_on 36 = .ok (.aload_n 0, 1) := by decide +kernel
theorem dX5_on_37 : decode cX5_on 37 = .ok (.getfield 10, 3) := by decide +kernel
theorem dX5_on_40 : decode cX5_on 40 = .ok (.invokevirtual 45, 3) := by decide +kernel
theorem dX5_on_43 : decode cX5_on 43 = .ok (.aload_n 3, 1) := by decide +kernel
theorem dX5_on_44 : decode cX5_on 44 = .ok (.iload_n 2, 1) := by decide +kernel
theorem dX5_on_45 : decode cX5_on 45 = .ok (.invokevirtual 83, 3) := by decide +kernel
theorem dX5_on_48 : decode cX5_on 48 = .ok (.aload_n 0, 1) := by decide +kernel
theorem dX5_on_49 : decode cX5_on 49 = .ok (.getfield 10, 3) := by decide +kernel
theorem dX5_on_52 : decode cX5_on 52 = .ok (.aload_n 3, 1) := by decide +kernel
theorem dX5_on_53 : decode cX5_on 53 = .ok (.invokevirtual 59, 3) := by decide +kernel
theorem dX5_on_56 : decode cX5_on 56 = .ok (.pop, 1) := by decide +kernel
theorem dX5_on_57 : decode cX5_on 57 = .ok (.aload_n 3, 1) := by decide +kernel
theorem dX5_on_58 : decode cX5_on 58 = .ok (.getfield 87, 3) := by decide +kernel
theorem dX5_on_61 : decode cX5_on 61 = .ok (.ireturn, 1) := by decide +kernel
set_option maxRecDepth 20000 in
theorem ggX5_off_X5_rigOf : GoodIn wsX5_off wsX5_rigOf := goodIn_ca (goodIn_r _ [8, 9, 10, 2, 11, 116, 117, 118, 119, 130, 131, 132] (by decide +kernel) (by decide +kernel)) (goodIn_sub (fun _ h => List.mem_cons_of_mem _ (List.mem_append_right _ h)) (by decide +kernel))
set_option maxRecDepth 20000 in
theorem gX5_off_X5_rigOf : GoodIn wsX5_off (wsV RX5 37 RX5 yX5_rigOf wsX5_rigOf) := goodIn_app (goodIn_of _ (by decide +kernel)) ggX5_off_X5_rigOf
set_option maxRecDepth 20000 in
theorem ggX5_off_X5_demandPerson : GoodIn wsX5_off wsX5_demandPerson := goodIn_ca (goodIn_r _ [14, 9, 10, 15, 16, 17, 18, 19, 20, 120, 121, 122, 123, 124, 125, 126, 127, 128, 129] (by decide +kernel) (by decide +kernel)) (goodIn_sub (fun _ h => List.mem_cons_of_mem _ (List.mem_append_right _ h)) (by decide +kernel))
set_option maxRecDepth 20000 in
theorem gX5_off_X5_demandPerson : GoodIn wsX5_off (va_wsS RX5 90 yX5_demandPerson wsX5_demandPerson) := goodIn_app (goodIn_of _ (by decide +kernel)) ggX5_off_X5_demandPerson
set_option maxRecDepth 20000 in
theorem ggX5_off_X0_save : GoodIn wsX5_off wsX0_save := goodIn_r _ [25, 26, 27, 28, 29, 30, 31, 32, 33, 34, 35, 36, 37, 38, 39, 40, 41, 42, 43, 18, 44, 45, 46, 47, 48, 49, 50, 51, 20, 52, 53, 133, 134, 135, 130, 131, 132, 120, 121, 122, 123, 124, 125, 126, 127, 128, 129] (by decide +kernel) (by decide +kernel)
set_option maxRecDepth 20000 in
theorem gX5_off_X0_save : GoodIn wsX5_off (wsV RX5 45 RX0 yX0_save wsX0_save) := goodIn_app (goodIn_of _ (by decide +kernel)) ggX5_off_X0_save
set_option maxRecDepth 20000 in
theorem ggX5_off_X2_remove : GoodIn wsX5_off wsX2_remove := goodIn_r _ [57, 52, 53, 20, 58, 16, 17, 18, 19, 120, 121, 122, 123, 124, 125, 126, 127, 128, 129] (by decide +kernel) (by decide +kernel)
set_option maxRecDepth 20000 in
theorem gX5_off_X2_remove : GoodIn wsX5_off (wsV RX5 94 RX2 yX2_remove wsX2_remove) := goodIn_app (goodIn_of _ (by decide +kernel)) ggX5_off_X2_remove
set_option maxRecDepth 20000 in
theorem ggX5_off_X3_fallsNow : GoodIn wsX5_off wsX3_fallsNow := goodIn_r _ [62, 63, 64, 65, 66, 18, 67, 68, 69, 70, 71, 72, 73, 31, 74, 75, 76, 77, 78, 49, 46, 45, 79, 80, 81, 82, 83, 84, 85, 86, 47, 53, 52, 87, 88, 89, 90, 91, 92, 93, 94, 50, 95, 96, 97, 98, 48, 99, 100, 101, 102, 103, 104, 105, 106, 107, 108, 109, 36, 110, 39, 111, 112, 113, 114, 115, 20, 120, 121, 122, 123, 124, 125, 126, 127, 128, 129, 130, 131, 132] (by decide +kernel) (by decide +kernel)
set_option maxRecDepth 20000 in
theorem gX5_off_X3_fallsNow : GoodIn wsX5_off (wsV RX5 59 RX3 yX3_fallsNow wsX3_fallsNow) := goodIn_app (goodIn_of _ (by decide +kernel)) ggX5_off_X3_fallsNow
theorem dX5_off_0 : decode cX5_off 0 = .ok (.aload_n 0, 1) := by decide +kernel
theorem dX5_off_1 : decode cX5_off 1 = .ok (.iload_n 1, 1) := by decide +kernel
theorem dX5_off_2 : decode cX5_off 2 = .ok (.invokevirtual 37, 3) := by decide +kernel
theorem dX5_off_5 : decode cX5_off 5 = .ok (.astore_n 3, 1) := by decide +kernel
theorem dX5_off_6 : decode cX5_off 6 = .ok (.aload_n 3, 1) := by decide +kernel
theorem dX5_off_7 : decode cX5_off 7 = .ok (.iload_n 2, 1) := by decide +kernel
theorem dX5_off_8 : decode cX5_off 8 = .ok (.invokestatic 90, 3) := by decide +kernel
theorem dX5_off_11 : decode cX5_off 11 = .ok (.aload_n 0, 1) := by decide +kernel
theorem dX5_off_12 : decode cX5_off 12 = .ok (.getfield 19, 3) := by decide +kernel
theorem dX5_off_15 : decode cX5_off 15 = .ok (.aload_n 0, 1) := by decide +kernel
theorem dX5_off_16 : decode cX5_off 16 = .ok (.getfield 10, 3) := by decide +kernel
theorem dX5_off_19 : decode cX5_off 19 = .ok (.invokevirtual 45, 3) := by decide +kernel
theorem dX5_off_22 : decode cX5_off 22 = .ok (.aload_n 3, 1) := by decide +kernel
theorem dX5_off_23 : decode cX5_off 23 = .ok (.iload_n 2, 1) := by decide +kernel
theorem dX5_off_24 : decode cX5_off 24 = .ok (.invokevirtual 94, 3) := by decide +kernel
theorem dX5_off_27 : decode cX5_off 27 = .ok (.aload_n 0, 1) := by decide +kernel
theorem dX5_off_28 : decode cX5_off 28 = .ok (.getfield 10, 3) := by decide +kernel
theorem dX5_off_31 : decode cX5_off 31 = .ok (.aload_n 3, 1) := by decide +kernel
theorem dX5_off_32 : decode cX5_off 32 = .ok (.invokevirtual 59, 3) := by decide +kernel
theorem dX5_off_35 : decode cX5_off 35 = .ok (.pop, 1) := by decide +kernel
theorem dX5_off_36 : decode cX5_off 36 = .ok (.aload_n 3, 1) := by decide +kernel
theorem dX5_off_37 : decode cX5_off 37 = .ok (.getfield 87, 3) := by decide +kernel
theorem dX5_off_40 : decode cX5_off 40 = .ok (.ireturn, 1) := by decide +kernel
set_option maxRecDepth 20000 in
theorem ggX5_climb_X5_rigOf : GoodIn wsX5_climb wsX5_rigOf := goodIn_ca (goodIn_r _ [7, 8, 9, 2, 10, 127, 128, 129, 130, 131, 132, 133] (by decide +kernel) (by decide +kernel)) (goodIn_sub (fun _ h => List.mem_cons_of_mem _ (List.mem_append_left _ (List.mem_append_right _ h))) (by decide +kernel))
set_option maxRecDepth 20000 in
theorem gX5_climb_X5_rigOf : GoodIn wsX5_climb (wsV RX5 37 RX5 yX5_rigOf wsX5_rigOf) := goodIn_app (goodIn_of _ (by decide +kernel)) ggX5_climb_X5_rigOf
set_option maxRecDepth 20000 in
theorem ggX5_climb_X5_demandPerson : GoodIn wsX5_climb wsX5_demandPerson := goodIn_ca (goodIn_r _ [13, 8, 9, 14, 15, 16, 17, 18, 19, 134, 135, 136, 137, 138, 139, 140, 141, 142, 143] (by decide +kernel) (by decide +kernel)) (goodIn_sub (fun _ h => List.mem_cons_of_mem _ (List.mem_append_left _ (List.mem_append_right _ h))) (by decide +kernel))
set_option maxRecDepth 20000 in
theorem gX5_climb_X5_demandPerson : GoodIn wsX5_climb (va_wsS RX5 90 yX5_demandPerson wsX5_demandPerson) := goodIn_app (goodIn_of _ (by decide +kernel)) ggX5_climb_X5_demandPerson
set_option maxRecDepth 20000 in
theorem ggX5_climb_X5_demandRange : GoodIn wsX5_climb wsX5_demandRange := goodIn_ca (goodIn_r _ [22, 23, 24] (by decide +kernel) (by decide +kernel)) (goodIn_sub (fun _ h => List.mem_cons_of_mem _ (List.mem_append_right _ h)) (by decide +kernel))
set_option maxRecDepth 20000 in
theorem gX5_climb_X5_demandRange : GoodIn wsX5_climb (va_wsS RX5 41 yX5_demandRange wsX5_demandRange) := goodIn_app (goodIn_of _ (by decide +kernel)) ggX5_climb_X5_demandRange
set_option maxRecDepth 20000 in
theorem ggX5_climb_X0_save : GoodIn wsX5_climb wsX0_save := goodIn_r _ [29, 30, 31, 32, 33, 34, 35, 36, 37, 38, 39, 40, 41, 42, 43, 44, 45, 46, 47, 17, 48, 49, 50, 51, 52, 53, 54, 55, 19, 56, 57, 144, 145, 146, 131, 132, 133, 134, 135, 136, 137, 138, 139, 140, 141, 142, 143] (by decide +kernel) (by decide +kernel)
set_option maxRecDepth 20000 in
theorem gX5_climb_X0_save : GoodIn wsX5_climb (wsV RX5 45 RX0 yX0_save wsX0_save) := goodIn_app (goodIn_of _ (by decide +kernel)) ggX5_climb_X0_save
set_option maxRecDepth 20000 in
theorem ggX5_climb_X3_walk : GoodIn wsX5_climb wsX3_walk := goodIn_r _ [61, 62, 63, 35, 64, 44, 65, 66, 67, 17, 68, 57, 69, 15, 16, 18, 19, 70, 71, 72, 73, 74, 75, 76, 77, 78, 79, 80, 81, 82, 83, 84, 85, 86, 87, 88, 53, 50, 49, 89, 90, 91, 92, 93, 94, 95, 96, 51, 56, 97, 98, 99, 100, 101, 102, 103, 104, 54, 105, 106, 107, 108, 52, 109, 110, 111, 112, 113, 114, 115, 116, 117, 118, 119, 40, 120, 43, 121, 122, 123, 124, 125, 126, 131, 132, 133, 134, 135, 136, 137, 138, 139, 140, 141, 142, 143] (by decide +kernel) (by decide +kernel)
set_option maxRecDepth 20000 in
theorem gX5_climb_X3_walk : GoodIn wsX5_climb (wsV RX5 97 RX3 yX3_walk wsX3_walk) := goodIn_app (goodIn_of _ (by decide +kernel)) ggX5_climb_X3_walk
theorem dX5_climb_0 : decode cX5_climb 0 = .ok (.aload_n 0, 1) := by decide +kernel
theorem dX5_climb_1 : decode cX5_climb 1 = .ok (.iload_n 1, 1) := by decide +kernel
theorem dX5_climb_2 : decode cX5_climb 2 = .ok (.invokevirtual 37, 3) := by decide +kernel
theorem dX5_climb_5 : decode cX5_climb 5 = .ok (.astore 4, 2) := by decide +kernel
theorem dX5_climb_7 : decode cX5_climb 7 = .ok (.aload 4, 2) := by decide +kernel
theorem dX5_climb_9 : decode cX5_climb 9 = .ok (.iload_n 2, 1) := by decide +kernel
theorem dX5_climb_10 : decode cX5_climb 10 = .ok (.invokestatic 90, 3) := by decide +kernel
theorem dX5_climb_13 : decode cX5_climb 13 = .ok (.iload_n 3, 1) := by decide +kernel
theorem dX5_climb_14 : decode cX5_climb 14 = .ok (.iconst 0, 1) := by decide +kernel
theorem dX5_climb_15 : decode cX5_climb 15 = .ok (.bipush 10, 2) := by decide +kernel
theorem dX5_climb_17 : decode cX5_climb 17 = .ok (.invokestatic 41, 3) := by decide +kernel
theorem dX5_climb_20 : decode cX5_climb 20 = .ok (.aload_n 0, 1) := by decide +kernel
theorem dX5_climb_21 : decode cX5_climb 21 = .ok (.getfield 19, 3) := by decide +kernel
theorem dX5_climb_24 : decode cX5_climb 24 = .ok (.aload_n 0, 1) := by decide +kernel
theorem dX5_climb_25 : decode cX5_climb 25 = .ok (.getfield 10, 3) := by decide +kernel
theorem dX5_climb_28 : decode cX5_climb 28 = .ok (.invokevirtual 45, 3) := by decide +kernel
theorem dX5_climb_31 : decode cX5_climb 31 = .ok (.aload_n 0, 1) := by decide +kernel
theorem dX5_climb_32 : decode cX5_climb 32 = .ok (.getfield 10, 3) := by decide +kernel
theorem dX5_climb_35 : decode cX5_climb 35 = .ok (.aload 4, 2) := by decide +kernel
theorem dX5_climb_37 : decode cX5_climb 37 = .ok (.iload_n 2, 1) := by decide +kernel
theorem dX5_climb_38 : decode cX5_climb 38 = .ok (.iload_n 3, 1) := by decide +kernel
theorem dX5_climb_39 : decode cX5_climb 39 = .ok (.invokevirtual 97, 3) := by decide +kernel
theorem dX5_climb_42 : decode cX5_climb 42 = .ok (.ireturn, 1) := by decide +kernel
set_option maxRecDepth 20000 in
theorem ggX5_undo_X0_restoreTo : GoodIn wsX5_undo wsX0_restoreTo := goodIn_r _ [10, 11, 12, 13, 14, 15, 16, 17, 18, 19, 20, 21, 22, 23, 24, 25, 26, 27, 28, 29, 30, 31, 32, 33, 34, 35, 36, 41, 42, 43, 44, 45, 46, 47, 48, 49, 50, 51, 52, 53, 54, 55, 56] (by decide +kernel) (by decide +kernel)
set_option maxRecDepth 20000 in
theorem gX5_undo_X0_restoreTo : GoodIn wsX5_undo (wsV RX5 142 RX0 yX0_restoreTo wsX0_restoreTo) := goodIn_app (goodIn_of _ (by decide +kernel)) ggX5_undo_X0_restoreTo
theorem dX5_undo_0 : decode cX5_undo 0 = .ok (.aload_n 0, 1) := by decide +kernel
theorem dX5_undo_1 : decode cX5_undo 1 = .ok (.getfield 19, 3) := by decide +kernel
theorem dX5_undo_4 : decode cX5_undo 4 = .ok (.getfield 137, 3) := by decide +kernel
theorem dX5_undo_7 : decode cX5_undo 7 = .ok (.ifCond .ne 13, 3) := by decide +kernel
theorem dX5_undo_10 : decode cX5_undo 10 = .ok (.new 76, 3) := by decide +kernel
theorem dX5_undo_13 : decode cX5_undo 13 = .ok (.dup, 1) := by decide +kernel
theorem dX5_undo_14 : decode cX5_undo 14 = .ok (.ldc 140, 2) := by decide +kernel
theorem dX5_undo_16 : decode cX5_undo 16 = .ok (.invokespecial 80, 3) := by decide +kernel
theorem dX5_undo_19 : decode cX5_undo 19 = .ok (.athrow, 1) := by decide +kernel
theorem dX5_undo_20 : decode cX5_undo 20 = .ok (.aload_n 0, 1) := by decide +kernel
theorem dX5_undo_21 : decode cX5_undo 21 = .ok (.getfield 19, 3) := by decide +kernel
theorem dX5_undo_24 : decode cX5_undo 24 = .ok (.aload_n 0, 1) := by decide +kernel
theorem dX5_undo_25 : decode cX5_undo 25 = .ok (.getfield 10, 3) := by decide +kernel
theorem dX5_undo_28 : decode cX5_undo 28 = .ok (.invokevirtual 142, 3) := by decide +kernel
theorem dX5_undo_31 : decode cX5_undo 31 = .ok (.aload_n 0, 1) := by decide +kernel
theorem dX5_undo_32 : decode cX5_undo 32 = .ok (.getfield 19, 3) := by decide +kernel
theorem dX5_undo_35 : decode cX5_undo 35 = .ok (.getfield 137, 3) := by decide +kernel
theorem dX5_undo_38 : decode cX5_undo 38 = .ok (.ireturn, 1) := by decide +kernel
set_option maxRecDepth 20000 in
theorem ggX5_ladder_X5_rigOf : GoodIn wsX5_ladder wsX5_rigOf := goodIn_ca (goodIn_r _ [15, 16, 17, 18, 19, 85, 86, 87, 88, 89, 90, 91] (by decide +kernel) (by decide +kernel)) (goodIn_sub (fun _ h => List.mem_cons_of_mem _ (List.mem_append_right _ h)) (by decide +kernel))
set_option maxRecDepth 20000 in
theorem gX5_ladder_X5_rigOf : GoodIn wsX5_ladder (wsV RX5 37 RX5 yX5_rigOf wsX5_rigOf) := goodIn_app (goodIn_of _ (by decide +kernel)) ggX5_ladder_X5_rigOf
set_option maxRecDepth 20000 in
theorem ggX5_ladder_X2_load : GoodIn wsX5_ladder wsX2_load := goodIn_r _ [24, 25, 26, 75, 76, 77, 78, 79, 80, 81, 82, 83, 84] (by decide +kernel) (by decide +kernel)
set_option maxRecDepth 20000 in
theorem gX5_ladder_X2_load : GoodIn wsX5_ladder (wsV RX5 145 RX2 yX2_load wsX2_load) := goodIn_app (goodIn_of _ (by decide +kernel)) ggX5_ladder_X2_load
set_option maxRecDepth 20000 in
theorem ggX5_ladder_X2_moment : GoodIn wsX5_ladder wsX2_moment := goodIn_r _ [30, 25, 31, 26, 32, 75, 76, 77, 78, 79, 80, 81, 82, 83, 84] (by decide +kernel) (by decide +kernel)
set_option maxRecDepth 20000 in
theorem gX5_ladder_X2_moment : GoodIn wsX5_ladder (wsV RX5 148 RX2 yX2_moment wsX2_moment) := goodIn_app (goodIn_of _ (by decide +kernel)) ggX5_ladder_X2_moment
set_option maxRecDepth 20000 in
theorem ggX5_ladder_X2_stands : GoodIn wsX5_ladder wsX2_stands := goodIn_r _ [36, 37, 38, 39, 23, 40, 41, 42, 43, 44, 45, 46, 47, 48, 49, 50, 32, 51, 52, 53, 54, 55, 28, 29, 30, 25, 31, 26, 56, 57, 58, 59, 60, 61, 62, 63, 64, 65, 66, 67, 68, 69, 70, 21, 22, 24, 71, 72, 73, 74, 75, 76, 77, 78, 79, 80, 81, 82, 83, 84] (by decide +kernel) (by decide +kernel)
set_option maxRecDepth 20000 in
theorem gX5_ladder_X2_stands : GoodIn wsX5_ladder (wsV RX5 154 RX2 yX2_stands wsX2_stands) := goodIn_app (goodIn_of _ (by decide +kernel)) ggX5_ladder_X2_stands
theorem dX5_ladder_0 : decode cX5_ladder 0 = .ok (.aload_n 0, 1) := by decide +kernel
theorem dX5_ladder_1 : decode cX5_ladder 1 = .ok (.iload_n 1, 1) := by decide +kernel
theorem dX5_ladder_2 : decode cX5_ladder 2 = .ok (.invokevirtual 37, 3) := by decide +kernel
theorem dX5_ladder_5 : decode cX5_ladder 5 = .ok (.astore_n 3, 1) := by decide +kernel
theorem dX5_ladder_6 : decode cX5_ladder 6 = .ok (.iload_n 2, 1) := by decide +kernel
theorem dX5_ladder_7 : decode cX5_ladder 7 = .ok (.tableswitch 120 0 10 #[57, 62, 67, 72, 77, 82, 87, 92, 97, 102, 107], 57) := by decide +kernel
theorem dX5_ladder_64 : decode cX5_ladder 64 = .ok (.aload_n 3, 1) := by decide +kernel
theorem dX5_ladder_65 : decode cX5_ladder 65 = .ok (.getfield 49, 3) := by decide +kernel
theorem dX5_ladder_68 : decode cX5_ladder 68 = .ok (.ireturn, 1) := by decide +kernel
theorem dX5_ladder_69 : decode cX5_ladder 69 = .ok (.aload_n 3, 1) := by decide +kernel
theorem dX5_ladder_70 : decode cX5_ladder 70 = .ok (.getfield 53, 3) := by decide +kernel
theorem dX5_ladder_73 : decode cX5_ladder 73 = .ok (.ireturn, 1) := by decide +kernel
theorem dX5_ladder_74 : decode cX5_ladder 74 = .ok (.aload_n 3, 1) := by decide +kernel
theorem dX5_ladder_75 : decode cX5_ladder 75 = .ok (.getfield 56, 3) := by decide +kernel
theorem dX5_ladder_78 : decode cX5_ladder 78 = .ok (.ireturn, 1) := by decide +kernel
theorem dX5_ladder_79 : decode cX5_ladder 79 = .ok (.aload_n 3, 1) := by decide +kernel
theorem dX5_ladder_80 : decode cX5_ladder 80 = .ok (.getfield 63, 3) := by decide +kernel
theorem dX5_ladder_83 : decode cX5_ladder 83 = .ok (.ireturn, 1) := by decide +kernel
theorem dX5_ladder_84 : decode cX5_ladder 84 = .ok (.aload_n 3, 1) := by decide +kernel
theorem dX5_ladder_85 : decode cX5_ladder 85 = .ok (.getfield 66, 3) := by decide +kernel
theorem dX5_ladder_88 : decode cX5_ladder 88 = .ok (.ireturn, 1) := by decide +kernel
theorem dX5_ladder_89 : decode cX5_ladder 89 = .ok (.aload_n 3, 1) := by decide +kernel
theorem dX5_ladder_90 : decode cX5_ladder 90 = .ok (.getfield 69, 3) := by decide +kernel
theorem dX5_ladder_93 : decode cX5_ladder 93 = .ok (.ireturn, 1) := by decide +kernel
theorem dX5_ladder_94 : decode cX5_ladder 94 = .ok (.aload_n 3, 1) := by decide +kernel
theorem dX5_ladder_95 : decode cX5_ladder 95 = .ok (.getfield 87, 3) := by decide +kernel
theorem dX5_ladder_98 : decode cX5_ladder 98 = .ok (.ireturn, 1) := by decide +kernel
theorem dX5_ladder_99 : decode cX5_ladder 99 = .ok (.aload_n 3, 1) := by decide +kernel
theorem dX5_ladder_100 : decode cX5_ladder 100 = .ok (.invokevirtual 145, 3) := by decide +kernel
theorem dX5_ladder_103 : decode cX5_ladder 103 = .ok (.ireturn, 1) := by decide +kernel
theorem dX5_ladder_104 : decode cX5_ladder 104 = .ok (.aload_n 3, 1) := by decide +kernel
theorem dX5_ladder_105 : decode cX5_ladder 105 = .ok (.invokevirtual 148, 3) := by decide +kernel
theorem dX5_ladder_108 : decode cX5_ladder 108 = .ok (.ireturn, 1) := by decide +kernel
theorem dX5_ladder_109 : decode cX5_ladder 109 = .ok (.aload_n 3, 1) := by decide +kernel
theorem dX5_ladder_110 : decode cX5_ladder 110 = .ok (.getfield 151, 3) := by decide +kernel
theorem dX5_ladder_113 : decode cX5_ladder 113 = .ok (.ireturn, 1) := by decide +kernel
theorem dX5_ladder_114 : decode cX5_ladder 114 = .ok (.aload_n 3, 1) := by decide +kernel
theorem dX5_ladder_115 : decode cX5_ladder 115 = .ok (.invokevirtual 154, 3) := by decide +kernel
theorem dX5_ladder_118 : decode cX5_ladder 118 = .ok (.ifCond .eq 7, 3) := by decide +kernel
theorem dX5_ladder_121 : decode cX5_ladder 121 = .ok (.iconst 1, 1) := by decide +kernel
theorem dX5_ladder_122 : decode cX5_ladder 122 = .ok (.goto 4, 3) := by decide +kernel
theorem dX5_ladder_125 : decode cX5_ladder 125 = .ok (.iconst 0, 1) := by decide +kernel
theorem dX5_ladder_126 : decode cX5_ladder 126 = .ok (.ireturn, 1) := by decide +kernel
theorem dX5_ladder_127 : decode cX5_ladder 127 = .ok (.new 118, 3) := by decide +kernel
theorem dX5_ladder_130 : decode cX5_ladder 130 = .ok (.dup, 1) := by decide +kernel
theorem dX5_ladder_131 : decode cX5_ladder 131 = .ok (.ldc 157, 2) := by decide +kernel
theorem dX5_ladder_133 : decode cX5_ladder 133 = .ok (.invokespecial 122, 3) := by decide +kernel
theorem dX5_ladder_136 : decode cX5_ladder 136 = .ok (.athrow, 1) := by decide +kernel
set_option maxRecDepth 20000 in
theorem ggX5_person_X5_rigOf : GoodIn wsX5_person wsX5_rigOf := goodIn_ca (goodIn_r _ [7, 8, 9, 10, 11, 32, 33, 34, 35, 36, 37, 38] (by decide +kernel) (by decide +kernel)) (goodIn_sub (fun _ h => List.mem_cons_of_mem _ (List.mem_append_right _ h)) (by decide +kernel))
set_option maxRecDepth 20000 in
theorem gX5_person_X5_rigOf : GoodIn wsX5_person (wsV RX5 37 RX5 yX5_rigOf wsX5_rigOf) := goodIn_app (goodIn_of _ (by decide +kernel)) ggX5_person_X5_rigOf
set_option maxRecDepth 20000 in
theorem ggX5_person_X5_demandPerson : GoodIn wsX5_person wsX5_demandPerson := goodIn_ca (goodIn_r _ [14, 8, 9, 15, 16, 17, 18, 19, 20, 39, 40, 41, 42, 43, 44, 45, 46, 47, 48] (by decide +kernel) (by decide +kernel)) (goodIn_sub (fun _ h => List.mem_cons_of_mem _ (List.mem_append_right _ h)) (by decide +kernel))
set_option maxRecDepth 20000 in
theorem gX5_person_X5_demandPerson : GoodIn wsX5_person (va_wsS RX5 90 yX5_demandPerson wsX5_demandPerson) := goodIn_app (goodIn_of _ (by decide +kernel)) ggX5_person_X5_demandPerson
set_option maxRecDepth 20000 in
theorem ggX5_person_X2_weightOf : GoodIn wsX5_person wsX2_weightOf := goodIn_r _ [24, 25, 26, 16, 17, 18, 19, 20, 39, 40, 41, 42, 43, 44, 45, 46, 47, 48] (by decide +kernel) (by decide +kernel)
set_option maxRecDepth 20000 in
theorem gX5_person_X2_weightOf : GoodIn wsX5_person (wsV RX5 159 RX2 yX2_weightOf wsX2_weightOf) := goodIn_app (goodIn_of _ (by decide +kernel)) ggX5_person_X2_weightOf
set_option maxRecDepth 20000 in
theorem ggX5_person_X2_stepOf : GoodIn wsX5_person wsX2_stepOf := goodIn_r _ [30, 31, 26, 16, 17, 18, 19, 20, 39, 40, 41, 42, 43, 44, 45, 46, 47, 48] (by decide +kernel) (by decide +kernel)
set_option maxRecDepth 20000 in
theorem gX5_person_X2_stepOf : GoodIn wsX5_person (wsV RX5 163 RX2 yX2_stepOf wsX2_stepOf) := goodIn_app (goodIn_of _ (by decide +kernel)) ggX5_person_X2_stepOf
theorem dX5_person_0 : decode cX5_person 0 = .ok (.aload_n 0, 1) := by decide +kernel
theorem dX5_person_1 : decode cX5_person 1 = .ok (.iload_n 1, 1) := by decide +kernel
theorem dX5_person_2 : decode cX5_person 2 = .ok (.invokevirtual 37, 3) := by decide +kernel
theorem dX5_person_5 : decode cX5_person 5 = .ok (.astore 4, 2) := by decide +kernel
theorem dX5_person_7 : decode cX5_person 7 = .ok (.aload 4, 2) := by decide +kernel
theorem dX5_person_9 : decode cX5_person 9 = .ok (.iload_n 2, 1) := by decide +kernel
theorem dX5_person_10 : decode cX5_person 10 = .ok (.invokestatic 90, 3) := by decide +kernel
theorem dX5_person_13 : decode cX5_person 13 = .ok (.iload_n 3, 1) := by decide +kernel
theorem dX5_person_14 : decode cX5_person 14 = .ok (.lookupswitch 40 #[(0, 26), (1, 33)], 26) := by decide +kernel
theorem dX5_person_40 : decode cX5_person 40 = .ok (.aload 4, 2) := by decide +kernel
theorem dX5_person_42 : decode cX5_person 42 = .ok (.iload_n 2, 1) := by decide +kernel
theorem dX5_person_43 : decode cX5_person 43 = .ok (.invokevirtual 159, 3) := by decide +kernel
theorem dX5_person_46 : decode cX5_person 46 = .ok (.ireturn, 1) := by decide +kernel
theorem dX5_person_47 : decode cX5_person 47 = .ok (.aload 4, 2) := by decide +kernel
theorem dX5_person_49 : decode cX5_person 49 = .ok (.iload_n 2, 1) := by decide +kernel
theorem dX5_person_50 : decode cX5_person 50 = .ok (.invokevirtual 163, 3) := by decide +kernel
theorem dX5_person_53 : decode cX5_person 53 = .ok (.ireturn, 1) := by decide +kernel
theorem dX5_person_54 : decode cX5_person 54 = .ok (.new 118, 3) := by decide +kernel
theorem dX5_person_57 : decode cX5_person 57 = .ok (.dup, 1) := by decide +kernel
theorem dX5_person_58 : decode cX5_person 58 = .ok (.ldc 166, 2) := by decide +kernel
theorem dX5_person_60 : decode cX5_person 60 = .ok (.invokespecial 122, 3) := by decide +kernel
theorem dX5_person_63 : decode cX5_person 63 = .ok (.athrow, 1) := by decide +kernel
set_option maxRecDepth 20000 in
theorem ggX5_force_X5_rigOf : GoodIn wsX5_force wsX5_rigOf := goodIn_ca (goodIn_r _ [5, 6, 7, 8, 9, 86, 87, 88, 89, 90, 91, 92] (by decide +kernel) (by decide +kernel)) (goodIn_sub (fun _ h => List.mem_cons_of_mem _ (List.mem_append_left _ (List.mem_append_right _ h))) (by decide +kernel))
set_option maxRecDepth 20000 in
theorem gX5_force_X5_rigOf : GoodIn wsX5_force (wsV RX5 37 RX5 yX5_rigOf wsX5_rigOf) := goodIn_app (goodIn_of _ (by decide +kernel)) ggX5_force_X5_rigOf
set_option maxRecDepth 20000 in
theorem ggX5_force_X5_demandRange : GoodIn wsX5_force wsX5_demandRange := goodIn_ca (goodIn_r _ [12, 13, 14] (by decide +kernel) (by decide +kernel)) (goodIn_sub (fun _ h => List.mem_cons_of_mem _ (List.mem_append_right _ h)) (by decide +kernel))
set_option maxRecDepth 20000 in
theorem gX5_force_X5_demandRange : GoodIn wsX5_force (va_wsS RX5 41 yX5_demandRange wsX5_demandRange) := goodIn_app (goodIn_of _ (by decide +kernel)) ggX5_force_X5_demandRange
set_option maxRecDepth 20000 in
theorem ggX5_force_X2_forces : GoodIn wsX5_force wsX2_forces := goodIn_r _ [19, 20, 21, 22, 23, 24, 25, 26, 18, 27, 28, 29, 30, 31, 32, 33, 34, 35, 36, 37, 38, 39, 40, 41, 42, 43, 44, 45, 46, 47, 48, 49, 50, 51, 52, 53, 54, 55, 56, 57, 58, 59, 60, 61, 62, 63, 64, 65, 66, 67, 93, 94, 95, 96, 97, 98, 99, 100, 101, 102] (by decide +kernel) (by decide +kernel)
set_option maxRecDepth 20000 in
theorem gX5_force_X2_forces : GoodIn wsX5_force (wsV RX5 168 RX2 yX2_forces wsX2_forces) := goodIn_app (goodIn_of _ (by decide +kernel)) ggX5_force_X2_forces
set_option maxRecDepth 20000 in
theorem ggX5_force_X2_stands : GoodIn wsX5_force wsX2_stands := goodIn_r _ [71, 46, 47, 48, 18, 49, 20, 21, 22, 23, 50, 51, 52, 53, 34, 28, 29, 30, 31, 32, 33, 35, 36, 37, 38, 39, 40, 41, 42, 43, 44, 45, 54, 55, 56, 57, 58, 59, 60, 61, 62, 63, 64, 65, 66, 67, 24, 25, 26, 27, 93, 94, 95, 96, 97, 98, 99, 100, 101, 102] (by decide +kernel) (by decide +kernel)
set_option maxRecDepth 20000 in
theorem gX5_force_X2_stands : GoodIn wsX5_force (wsV RX5 154 RX2 yX2_stands wsX2_stands) := goodIn_app (goodIn_of _ (by decide +kernel)) ggX5_force_X2_stands
set_option maxRecDepth 20000 in
theorem ggX5_force_X2_leastForce : GoodIn wsX5_force wsX2_leastForce := goodIn_r _ [49, 20, 21, 22, 23, 50, 51, 52, 18, 53, 34, 28, 29, 30, 31, 32, 33, 35, 36, 37, 38, 39, 40, 41, 42, 43, 44, 45, 54, 55, 56, 57, 58, 59, 60, 61, 62, 63, 64, 65, 66, 67, 93, 94, 95, 96, 97, 98, 99, 100, 101, 102] (by decide +kernel) (by decide +kernel)
set_option maxRecDepth 20000 in
theorem gX5_force_X2_leastForce : GoodIn wsX5_force (wsV RX5 171 RX2 yX2_leastForce wsX2_leastForce) := goodIn_app (goodIn_of _ (by decide +kernel)) ggX5_force_X2_leastForce
set_option maxRecDepth 20000 in
theorem ggX5_force_X2_greatestForce : GoodIn wsX5_force wsX2_greatestForce := goodIn_r _ [27, 28, 29, 30, 31, 32, 18, 33, 34, 35, 36, 37, 38, 39, 40, 41, 42, 43, 44, 45, 93, 94, 95, 96, 97, 98, 99, 100, 101, 102] (by decide +kernel) (by decide +kernel)
