set_option maxRecDepth 20000 in
theorem ggX5_init_X3_init : GoodIn wsX5_init wsX3_init := goodIn_r _ [22, 23, 2, 3, 24, 25, 26, 27, 17, 18, 28, 29, 30, 31, 32, 33, 34, 35, 36, 37, 38, 39, 40, 41, 70, 71, 72, 84, 85, 86, 87, 88, 89, 90, 91, 92, 93] (by decide +kernel) (by decide +kernel)
set_option maxRecDepth 20000 in
theorem gX5_init_X3_init : GoodIn wsX5_init (wsX3_init) := ggX5_init_X3_init
set_option maxRecDepth 20000 in
theorem ggX5_init_X0_init : GoodIn wsX5_init wsX0_init := goodIn_r _ [44, 45, 2, 3, 46, 47, 48, 49, 5, 6, 50, 21, 22, 23, 24, 25, 26, 27, 17, 18, 28, 29, 30, 31, 32, 33, 34, 35, 36, 37, 38, 39, 40, 41, 77, 78, 79, 70, 71, 72, 84, 85, 86, 87, 88, 89, 90, 91, 92, 93] (by decide +kernel) (by decide +kernel)
set_option maxRecDepth 20000 in
theorem gX5_init_X0_init : GoodIn wsX5_init (wsX0_init) := ggX5_init_X0_init
set_option maxRecDepth 20000 in
theorem ggX5_init_X4_init : GoodIn wsX5_init wsX4_init := goodIn_r _ [52, 53, 2, 3, 39, 54, 55, 56, 57, 58, 59, 60, 61, 62, 63, 64, 65, 66, 67, 68, 69, 80, 81, 82, 83, 94, 95, 96, 97, 98, 99] (by decide +kernel) (by decide +kernel)
set_option maxRecDepth 20000 in
theorem gX5_init_X4_init_n25 : GoodIn wsX5_init (wsX4_init) := ggX5_init_X4_init
set_option maxRecDepth 20000 in
theorem ggX5_init_X2_init : GoodIn wsX5_init wsX2_init := goodIn_r _ [29, 30, 2, 3, 31, 32, 33, 34, 35, 36, 37, 38, 39, 40, 41, 84, 85, 86, 87, 88, 89, 90, 91, 92, 93] (by decide +kernel) (by decide +kernel)
set_option maxRecDepth 20000 in
theorem gX5_init_X2_init_n32 : GoodIn wsX5_init (wsX2_init) := ggX5_init_X2_init
theorem dX5_init_0 : decode cX5_init 0 = .ok (.aload_n 0, 1) := by decide +kernel
theorem dX5_init_1 : decode cX5_init 1 = .ok (.invokespecial 1, 3) := by decide +kernel
theorem dX5_init_4 : decode cX5_init 4 = .ok (.aload_n 0, 1) := by decide +kernel
theorem dX5_init_5 : decode cX5_init 5 = .ok (.new 7, 3) := by decide +kernel
theorem dX5_init_8 : decode cX5_init 8 = .ok (.dup, 1) := by decide +kernel
theorem dX5_init_9 : decode cX5_init 9 = .ok (.invokespecial 9, 3) := by decide +kernel
theorem dX5_init_12 : decode cX5_init 12 = .ok (.putfield 10, 3) := by decide +kernel
theorem dX5_init_15 : decode cX5_init 15 = .ok (.aload_n 0, 1) := by decide +kernel
theorem dX5_init_16 : decode cX5_init 16 = .ok (.new 16, 3) := by decide +kernel
theorem dX5_init_19 : decode cX5_init 19 = .ok (.dup, 1) := by decide +kernel
theorem dX5_init_20 : decode cX5_init 20 = .ok (.invokespecial 18, 3) := by decide +kernel
theorem dX5_init_23 : decode cX5_init 23 = .ok (.putfield 19, 3) := by decide +kernel
theorem dX5_init_26 : decode cX5_init 26 = .ok (.aload_n 0, 1) := by decide +kernel
theorem dX5_init_27 : decode cX5_init 27 = .ok (.new 23, 3) := by decide +kernel
theorem dX5_init_30 : decode cX5_init 30 = .ok (.dup, 1) := by decide +kernel
theorem dX5_init_31 : decode cX5_init 31 = .ok (.invokespecial 25, 3) := by decide +kernel
theorem dX5_init_34 : decode cX5_init 34 = .ok (.putfield 26, 3) := by decide +kernel
theorem dX5_init_37 : decode cX5_init 37 = .ok (.aload_n 0, 1) := by decide +kernel
theorem dX5_init_38 : decode cX5_init 38 = .ok (.new 30, 3) := by decide +kernel
theorem dX5_init_41 : decode cX5_init 41 = .ok (.dup, 1) := by decide +kernel
theorem dX5_init_42 : decode cX5_init 42 = .ok (.invokespecial 32, 3) := by decide +kernel
theorem dX5_init_45 : decode cX5_init 45 = .ok (.putfield 33, 3) := by decide +kernel
theorem dX5_init_48 : decode cX5_init 48 = .ok (.return_, 1) := by decide +kernel
set_option maxRecDepth 20000 in
theorem ggX5_put_X5_rigOf : GoodIn wsX5_put wsX5_rigOf := goodIn_ca (goodIn_r _ [10, 11, 12, 2, 13, 111, 112, 113, 114, 125, 126, 127] (by decide +kernel) (by decide +kernel)) (goodIn_sub (fun _ h => List.mem_cons_of_mem _ (List.mem_append_left _ (List.mem_append_right _ h))) (by decide +kernel))
set_option maxRecDepth 20000 in
theorem gX5_put_X5_rigOf : GoodIn wsX5_put (wsV RX5 37 RX5 yX5_rigOf wsX5_rigOf) := goodIn_app (goodIn_of _ (by decide +kernel)) ggX5_put_X5_rigOf
set_option maxRecDepth 20000 in
theorem ggX5_put_X5_demandRange : GoodIn wsX5_put wsX5_demandRange := goodIn_ca (goodIn_r _ [16, 17, 18] (by decide +kernel) (by decide +kernel)) (goodIn_sub (fun _ h => List.mem_cons_of_mem _ (List.mem_append_right _ h)) (by decide +kernel))
set_option maxRecDepth 20000 in
theorem gX5_put_X5_demandRange : GoodIn wsX5_put (va_wsS RX5 41 yX5_demandRange wsX5_demandRange) := goodIn_app (goodIn_of _ (by decide +kernel)) ggX5_put_X5_demandRange
set_option maxRecDepth 20000 in
theorem ggX5_put_X0_save : GoodIn wsX5_put wsX0_save := goodIn_r _ [23, 24, 25, 26, 27, 28, 29, 30, 31, 32, 33, 34, 35, 36, 37, 38, 39, 40, 41, 42, 43, 44, 45, 46, 47, 48, 49, 50, 51, 52, 53, 128, 129, 130, 125, 126, 127, 115, 116, 117, 118, 119, 120, 121, 122, 123, 124] (by decide +kernel) (by decide +kernel)
set_option maxRecDepth 20000 in
theorem gX5_put_X0_save : GoodIn wsX5_put (wsV RX5 45 RX0 yX0_save wsX0_save) := goodIn_app (goodIn_of _ (by decide +kernel)) ggX5_put_X0_save
set_option maxRecDepth 20000 in
theorem ggX5_put_X3_fallsNow : GoodIn wsX5_put wsX3_fallsNow := goodIn_r _ [57, 58, 59, 60, 61, 42, 62, 63, 64, 65, 66, 67, 68, 29, 69, 70, 71, 72, 73, 48, 45, 44, 74, 75, 76, 77, 78, 79, 80, 81, 46, 53, 52, 82, 83, 84, 85, 86, 87, 88, 89, 49, 90, 91, 92, 93, 47, 94, 95, 96, 97, 98, 99, 100, 101, 102, 103, 104, 34, 105, 37, 106, 107, 108, 109, 110, 51, 115, 116, 117, 118, 119, 120, 121, 122, 123, 124, 125, 126, 127] (by decide +kernel) (by decide +kernel)
set_option maxRecDepth 20000 in
theorem gX5_put_X3_fallsNow : GoodIn wsX5_put (wsV RX5 59 RX3 yX3_fallsNow wsX3_fallsNow) := goodIn_app (goodIn_of _ (by decide +kernel)) ggX5_put_X3_fallsNow
theorem dX5_put_0 : decode cX5_put 0 = .ok (.aload_n 0, 1) := by decide +kernel
theorem dX5_put_1 : decode cX5_put 1 = .ok (.iload_n 1, 1) := by decide +kernel
theorem dX5_put_2 : decode cX5_put 2 = .ok (.invokevirtual 37, 3) := by decide +kernel
theorem dX5_put_5 : decode cX5_put 5 = .ok (.astore 5, 2) := by decide +kernel
theorem dX5_put_7 : decode cX5_put 7 = .ok (.iload_n 2, 1) := by decide +kernel
theorem dX5_put_8 : decode cX5_put 8 = .ok (.bipush 10, 2) := by decide +kernel
theorem dX5_put_10 : decode cX5_put 10 = .ok (.bipush 100, 2) := by decide +kernel
theorem dX5_put_12 : decode cX5_put 12 = .ok (.invokestatic 41, 3) := by decide +kernel
theorem dX5_put_15 : decode cX5_put 15 = .ok (.iload_n 3, 1) := by decide +kernel
theorem dX5_put_16 : decode cX5_put 16 = .ok (.bipush 50, 2) := by decide +kernel
theorem dX5_put_18 : decode cX5_put 18 = .ok (.sipush 300, 3) := by decide +kernel
theorem dX5_put_21 : decode cX5_put 21 = .ok (.invokestatic 41, 3) := by decide +kernel
theorem dX5_put_24 : decode cX5_put 24 = .ok (.iload 4, 2) := by decide +kernel
theorem dX5_put_26 : decode cX5_put 26 = .ok (.iconst 1, 1) := by decide +kernel
theorem dX5_put_27 : decode cX5_put 27 = .ok (.bipush 100, 2) := by decide +kernel
theorem dX5_put_29 : decode cX5_put 29 = .ok (.invokestatic 41, 3) := by decide +kernel
theorem dX5_put_32 : decode cX5_put 32 = .ok (.aload_n 0, 1) := by decide +kernel
theorem dX5_put_33 : decode cX5_put 33 = .ok (.getfield 19, 3) := by decide +kernel
theorem dX5_put_36 : decode cX5_put 36 = .ok (.aload_n 0, 1) := by decide +kernel
theorem dX5_put_37 : decode cX5_put 37 = .ok (.getfield 10, 3) := by decide +kernel
theorem dX5_put_40 : decode cX5_put 40 = .ok (.invokevirtual 45, 3) := by decide +kernel
theorem dX5_put_43 : decode cX5_put 43 = .ok (.aload 5, 2) := by decide +kernel
theorem dX5_put_45 : decode cX5_put 45 = .ok (.iload_n 2, 1) := by decide +kernel
theorem dX5_put_46 : decode cX5_put 46 = .ok (.putfield 49, 3) := by decide +kernel
theorem dX5_put_49 : decode cX5_put 49 = .ok (.aload 5, 2) := by decide +kernel
theorem dX5_put_51 : decode cX5_put 51 = .ok (.iload_n 3, 1) := by decide +kernel
theorem dX5_put_52 : decode cX5_put 52 = .ok (.putfield 53, 3) := by decide +kernel
theorem dX5_put_55 : decode cX5_put 55 = .ok (.aload 5, 2) := by decide +kernel
theorem dX5_put_57 : decode cX5_put 57 = .ok (.iload 4, 2) := by decide +kernel
theorem dX5_put_59 : decode cX5_put 59 = .ok (.putfield 56, 3) := by decide +kernel
theorem dX5_put_62 : decode cX5_put 62 = .ok (.aload_n 0, 1) := by decide +kernel
theorem dX5_put_63 : decode cX5_put 63 = .ok (.getfield 10, 3) := by decide +kernel
theorem dX5_put_66 : decode cX5_put 66 = .ok (.aload 5, 2) := by decide +kernel
theorem dX5_put_68 : decode cX5_put 68 = .ok (.invokevirtual 59, 3) := by decide +kernel
theorem dX5_put_71 : decode cX5_put 71 = .ok (.ifCond .eq 7, 3) := by decide +kernel
theorem dX5_put_74 : decode cX5_put 74 = .ok (.iconst 1, 1) := by decide +kernel
theorem dX5_put_75 : decode cX5_put 75 = .ok (.goto 4, 3) := by decide +kernel
theorem dX5_put_78 : decode cX5_put 78 = .ok (.iconst 0, 1) := by decide +kernel
theorem dX5_put_79 : decode cX5_put 79 = .ok (.ireturn, 1) := by decide +kernel
set_option maxRecDepth 20000 in
theorem ggX5_kinds_X5_rigOf : GoodIn wsX5_kinds wsX5_rigOf := goodIn_ca (goodIn_r _ [9, 10, 11, 2, 12, 110, 111, 112, 113, 124, 125, 126] (by decide +kernel) (by decide +kernel)) (goodIn_sub (fun _ h => List.mem_cons_of_mem _ (List.mem_append_left _ (List.mem_append_right _ h))) (by decide +kernel))
set_option maxRecDepth 20000 in
theorem gX5_kinds_X5_rigOf : GoodIn wsX5_kinds (wsV RX5 37 RX5 yX5_rigOf wsX5_rigOf) := goodIn_app (goodIn_of _ (by decide +kernel)) ggX5_kinds_X5_rigOf
set_option maxRecDepth 20000 in
theorem ggX5_kinds_X5_demandRange : GoodIn wsX5_kinds wsX5_demandRange := goodIn_ca (goodIn_r _ [15, 16, 17] (by decide +kernel) (by decide +kernel)) (goodIn_sub (fun _ h => List.mem_cons_of_mem _ (List.mem_append_right _ h)) (by decide +kernel))
set_option maxRecDepth 20000 in
theorem gX5_kinds_X5_demandRange : GoodIn wsX5_kinds (va_wsS RX5 41 yX5_demandRange wsX5_demandRange) := goodIn_app (goodIn_of _ (by decide +kernel)) ggX5_kinds_X5_demandRange
set_option maxRecDepth 20000 in
theorem ggX5_kinds_X0_save : GoodIn wsX5_kinds wsX0_save := goodIn_r _ [22, 23, 24, 25, 26, 27, 28, 29, 30, 31, 32, 33, 34, 35, 36, 37, 38, 39, 40, 41, 42, 43, 44, 45, 46, 47, 48, 49, 50, 51, 52, 127, 128, 129, 124, 125, 126, 114, 115, 116, 117, 118, 119, 120, 121, 122, 123] (by decide +kernel) (by decide +kernel)
set_option maxRecDepth 20000 in
theorem gX5_kinds_X0_save : GoodIn wsX5_kinds (wsV RX5 45 RX0 yX0_save wsX0_save) := goodIn_app (goodIn_of _ (by decide +kernel)) ggX5_kinds_X0_save
set_option maxRecDepth 20000 in
theorem ggX5_kinds_X3_fallsNow : GoodIn wsX5_kinds wsX3_fallsNow := goodIn_r _ [56, 57, 58, 59, 60, 41, 61, 62, 63, 64, 65, 66, 67, 28, 68, 69, 70, 71, 72, 47, 44, 43, 73, 74, 75, 76, 77, 78, 79, 80, 45, 52, 51, 81, 82, 83, 84, 85, 86, 87, 88, 48, 89, 90, 91, 92, 46, 93, 94, 95, 96, 97, 98, 99, 100, 101, 102, 103, 33, 104, 36, 105, 106, 107, 108, 109, 50, 114, 115, 116, 117, 118, 119, 120, 121, 122, 123, 124, 125, 126] (by decide +kernel) (by decide +kernel)
set_option maxRecDepth 20000 in
theorem gX5_kinds_X3_fallsNow : GoodIn wsX5_kinds (wsV RX5 59 RX3 yX3_fallsNow wsX3_fallsNow) := goodIn_app (goodIn_of _ (by decide +kernel)) ggX5_kinds_X3_fallsNow
theorem dX5_kinds_0 : decode cX5_kinds 0 = .ok (.aload_n 0, 1) := by decide +kernel
theorem dX5_kinds_1 : decode cX5_kinds 1 = .ok (.iload_n 1, 1) := by decide +kernel
theorem dX5_kinds_2 : decode cX5_kinds 2 = .ok (.invokevirtual 37, 3) := by decide +kernel
theorem dX5_kinds_5 : decode cX5_kinds 5 = .ok (.astore 4, 2) := by decide +kernel
theorem dX5_kinds_7 : decode cX5_kinds 7 = .ok (.iload_n 2, 1) := by decide +kernel
theorem dX5_kinds_8 : decode cX5_kinds 8 = .ok (.iconst 0, 1) := by decide +kernel
theorem dX5_kinds_9 : decode cX5_kinds 9 = .ok (.iconst 3, 1) := by decide +kernel
theorem dX5_kinds_10 : decode cX5_kinds 10 = .ok (.invokestatic 41, 3) := by decide +kernel
theorem dX5_kinds_13 : decode cX5_kinds 13 = .ok (.iload_n 3, 1) := by decide +kernel
theorem dX5_kinds_14 : decode cX5_kinds 14 = .ok (.iconst 0, 1) := by decide +kernel
theorem dX5_kinds_15 : decode cX5_kinds 15 = .ok (.iconst 3, 1) := by decide +kernel
theorem dX5_kinds_16 : decode cX5_kinds 16 = .ok (.invokestatic 41, 3) := by decide +kernel
theorem dX5_kinds_19 : decode cX5_kinds 19 = .ok (.aload_n 0, 1) := by decide +kernel
theorem dX5_kinds_20 : decode cX5_kinds 20 = .ok (.getfield 19, 3) := by decide +kernel
theorem dX5_kinds_23 : decode cX5_kinds 23 = .ok (.aload_n 0, 1) := by decide +kernel
theorem dX5_kinds_24 : decode cX5_kinds 24 = .ok (.getfield 10, 3) := by decide +kernel
theorem dX5_kinds_27 : decode cX5_kinds 27 = .ok (.invokevirtual 45, 3) := by decide +kernel
theorem dX5_kinds_30 : decode cX5_kinds 30 = .ok (.aload 4, 2) := by decide +kernel
theorem dX5_kinds_32 : decode cX5_kinds 32 = .ok (.iload_n 2, 1) := by decide +kernel
theorem dX5_kinds_33 : decode cX5_kinds 33 = .ok (.putfield 63, 3) := by decide +kernel
theorem dX5_kinds_36 : decode cX5_kinds 36 = .ok (.aload 4, 2) := by decide +kernel
theorem dX5_kinds_38 : decode cX5_kinds 38 = .ok (.iload_n 3, 1) := by decide +kernel
theorem dX5_kinds_39 : decode cX5_kinds 39 = .ok (.putfield 66, 3) := by decide +kernel
theorem dX5_kinds_42 : decode cX5_kinds 42 = .ok (.aload_n 0, 1) := by decide +kernel
theorem dX5_kinds_43 : decode cX5_kinds 43 = .ok (.getfield 10, 3) := by decide +kernel
theorem dX5_kinds_46 : decode cX5_kinds 46 = .ok (.aload 4, 2) := by decide +kernel
theorem dX5_kinds_48 : decode cX5_kinds 48 = .ok (.invokevirtual 59, 3) := by decide +kernel
theorem dX5_kinds_51 : decode cX5_kinds 51 = .ok (.ifCond .eq 7, 3) := by decide +kernel
theorem dX5_kinds_54 : decode cX5_kinds 54 = .ok (.iconst 1, 1) := by decide +kernel
theorem dX5_kinds_55 : decode cX5_kinds 55 = .ok (.goto 4, 3) := by decide +kernel
theorem dX5_kinds_58 : decode cX5_kinds 58 = .ok (.iconst 0, 1) := by decide +kernel
theorem dX5_kinds_59 : decode cX5_kinds 59 = .ok (.ireturn, 1) := by decide +kernel
set_option maxRecDepth 20000 in
theorem ggX5_rope_X5_rigOf : GoodIn wsX5_rope wsX5_rigOf := goodIn_ca (goodIn_r _ [8, 9, 10, 2, 11, 109, 110, 111, 112, 123, 124, 125] (by decide +kernel) (by decide +kernel)) (goodIn_sub (fun _ h => List.mem_cons_of_mem _ (List.mem_append_left _ (List.mem_append_right _ h))) (by decide +kernel))
set_option maxRecDepth 20000 in
theorem gX5_rope_X5_rigOf : GoodIn wsX5_rope (wsV RX5 37 RX5 yX5_rigOf wsX5_rigOf) := goodIn_app (goodIn_of _ (by decide +kernel)) ggX5_rope_X5_rigOf
set_option maxRecDepth 20000 in
theorem ggX5_rope_X5_demandRange : GoodIn wsX5_rope wsX5_demandRange := goodIn_ca (goodIn_r _ [14, 15, 16] (by decide +kernel) (by decide +kernel)) (goodIn_sub (fun _ h => List.mem_cons_of_mem _ (List.mem_append_right _ h)) (by decide +kernel))
set_option maxRecDepth 20000 in
theorem gX5_rope_X5_demandRange : GoodIn wsX5_rope (va_wsS RX5 41 yX5_demandRange wsX5_demandRange) := goodIn_app (goodIn_of _ (by decide +kernel)) ggX5_rope_X5_demandRange
set_option maxRecDepth 20000 in
theorem ggX5_rope_X0_save : GoodIn wsX5_rope wsX0_save := goodIn_r _ [21, 22, 23, 24, 25, 26, 27, 28, 29, 30, 31, 32, 33, 34, 35, 36, 37, 38, 39, 40, 41, 42, 43, 44, 45, 46, 47, 48, 49, 50, 51, 126, 127, 128, 123, 124, 125, 113, 114, 115, 116, 117, 118, 119, 120, 121, 122] (by decide +kernel) (by decide +kernel)
set_option maxRecDepth 20000 in
theorem gX5_rope_X0_save : GoodIn wsX5_rope (wsV RX5 45 RX0 yX0_save wsX0_save) := goodIn_app (goodIn_of _ (by decide +kernel)) ggX5_rope_X0_save
set_option maxRecDepth 20000 in
theorem ggX5_rope_X3_fallsNow : GoodIn wsX5_rope wsX3_fallsNow := goodIn_r _ [55, 56, 57, 58, 59, 40, 60, 61, 62, 63, 64, 65, 66, 27, 67, 68, 69, 70, 71, 46, 43, 42, 72, 73, 74, 75, 76, 77, 78, 79, 44, 51, 50, 80, 81, 82, 83, 84, 85, 86, 87, 47, 88, 89, 90, 91, 45, 92, 93, 94, 95, 96, 97, 98, 99, 100, 101, 102, 32, 103, 35, 104, 105, 106, 107, 108, 49, 113, 114, 115, 116, 117, 118, 119, 120, 121, 122, 123, 124, 125] (by decide +kernel) (by decide +kernel)
set_option maxRecDepth 20000 in
theorem gX5_rope_X3_fallsNow : GoodIn wsX5_rope (wsV RX5 59 RX3 yX3_fallsNow wsX3_fallsNow) := goodIn_app (goodIn_of _ (by decide +kernel)) ggX5_rope_X3_fallsNow
theorem dX5_rope_0 : decode cX5_rope 0 = .ok (.aload_n 0, 1) := by decide +kernel
theorem dX5_rope_1 : decode cX5_rope 1 = .ok (.iload_n 1, 1) := by decide +kernel
theorem dX5_rope_2 : decode cX5_rope 2 = .ok (.invokevirtual 37, 3) := by decide +kernel
theorem dX5_rope_5 : decode cX5_rope 5 = .ok (.astore_n 3, 1) := by decide +kernel
theorem dX5_rope_6 : decode cX5_rope 6 = .ok (.iload_n 2, 1) := by decide +kernel
theorem dX5_rope_7 : decode cX5_rope 7 = .ok (.iconst 0, 1) := by decide +kernel
theorem dX5_rope_8 : decode cX5_rope 8 = .ok (.sipush 200, 3) := by decide +kernel
theorem dX5_rope_11 : decode cX5_rope 11 = .ok (.invokestatic 41, 3) := by decide +kernel
theorem dX5_rope_14 : decode cX5_rope 14 = .ok (.aload_n 0, 1) := by decide +kernel
theorem dX5_rope_15 : decode cX5_rope 15 = .ok (.getfield 19, 3) := by decide +kernel
theorem dX5_rope_18 : decode cX5_rope 18 = .ok (.aload_n 0, 1) := by decide +kernel
theorem dX5_rope_19 : decode cX5_rope 19 = .ok (.getfield 10, 3) := by decide +kernel
theorem dX5_rope_22 : decode cX5_rope 22 = .ok (.invokevirtual 45, 3) := by decide +kernel
theorem dX5_rope_25 : decode cX5_rope 25 = .ok (.aload_n 3, 1) := by decide +kernel
theorem dX5_rope_26 : decode cX5_rope 26 = .ok (.iload_n 2, 1) := by decide +kernel
theorem dX5_rope_27 : decode cX5_rope 27 = .ok (.putfield 69, 3) := by decide +kernel
theorem dX5_rope_30 : decode cX5_rope 30 = .ok (.aload_n 0, 1) := by decide +kernel
theorem dX5_rope_31 : decode cX5_rope 31 = .ok (.getfield 10, 3) := by decide +kernel
theorem dX5_rope_34 : decode cX5_rope 34 = .ok (.aload_n 3, 1) := by decide +kernel
theorem dX5_rope_35 : decode cX5_rope 35 = .ok (.invokevirtual 59, 3) := by decide +kernel
theorem dX5_rope_38 : decode cX5_rope 38 = .ok (.ifCond .eq 7, 3) := by decide +kernel
theorem dX5_rope_41 : decode cX5_rope 41 = .ok (.iconst 1, 1) := by decide +kernel
theorem dX5_rope_42 : decode cX5_rope 42 = .ok (.goto 4, 3) := by decide +kernel
theorem dX5_rope_45 : decode cX5_rope 45 = .ok (.iconst 0, 1) := by decide +kernel
theorem dX5_rope_46 : decode cX5_rope 46 = .ok (.ireturn, 1) := by decide +kernel
set_option maxRecDepth 20000 in
theorem ggX5_on_X5_rigOf : GoodIn wsX5_on wsX5_rigOf := goodIn_ca (goodIn_r _ [10, 11, 12, 4, 13, 119, 120, 121, 122, 133, 134, 135] (by decide +kernel) (by decide +kernel)) (goodIn_sub (fun _ h => List.mem_cons_of_mem _ (List.mem_append_left _ (List.mem_append_right _ h))) (by decide +kernel))
set_option maxRecDepth 20000 in
theorem gX5_on_X5_rigOf : GoodIn wsX5_on (wsV RX5 37 RX5 yX5_rigOf wsX5_rigOf) := goodIn_app (goodIn_of _ (by decide +kernel)) ggX5_on_X5_rigOf
set_option maxRecDepth 20000 in
theorem ggX5_on_X5_demandRange : GoodIn wsX5_on wsX5_demandRange := goodIn_ca (goodIn_r _ [16, 17, 18] (by decide +kernel) (by decide +kernel)) (goodIn_sub (fun _ h => List.mem_cons_of_mem _ (List.mem_append_right _ h)) (by decide +kernel))
set_option maxRecDepth 20000 in
theorem gX5_on_X5_demandRange : GoodIn wsX5_on (va_wsS RX5 41 yX5_demandRange wsX5_demandRange) := goodIn_app (goodIn_of _ (by decide +kernel)) ggX5_on_X5_demandRange
set_option maxRecDepth 20000 in
theorem ggX5_on_X2_isFull : GoodIn wsX5_on wsX2_isFull := goodIn_r _ [23, 24, 123, 124, 125, 126, 127, 128, 129, 130, 131, 132] (by decide +kernel) (by decide +kernel)
set_option maxRecDepth 20000 in
theorem gX5_on_X2_isFull : GoodIn wsX5_on (wsV RX5 72 RX2 yX2_isFull wsX2_isFull) := goodIn_app (goodIn_of _ (by decide +kernel)) ggX5_on_X2_isFull
set_option maxRecDepth 20000 in
theorem ggX5_on_X0_save : GoodIn wsX5_on wsX0_save := goodIn_r _ [29, 30, 31, 32, 33, 34, 35, 36, 37, 38, 39, 40, 41, 42, 43, 44, 45, 46, 47, 22, 48, 49, 50, 51, 52, 53, 54, 55, 24, 56, 57, 136, 137, 138, 133, 134, 135, 123, 124, 125, 126, 127, 128, 129, 130, 131, 132] (by decide +kernel) (by decide +kernel)
set_option maxRecDepth 20000 in
theorem gX5_on_X0_save : GoodIn wsX5_on (wsV RX5 45 RX0 yX0_save wsX0_save) := goodIn_app (goodIn_of _ (by decide +kernel)) ggX5_on_X0_save
set_option maxRecDepth 20000 in
theorem ggX5_on_X2_add : GoodIn wsX5_on wsX2_add := goodIn_r _ [61, 24, 56, 57, 123, 124, 125, 126, 127, 128, 129, 130, 131, 132] (by decide +kernel) (by decide +kernel)
set_option maxRecDepth 20000 in
theorem gX5_on_X2_add : GoodIn wsX5_on (wsV RX5 83 RX2 yX2_add wsX2_add) := goodIn_app (goodIn_of _ (by decide +kernel)) ggX5_on_X2_add
set_option maxRecDepth 20000 in
theorem ggX5_on_X3_fallsNow : GoodIn wsX5_on wsX3_fallsNow := goodIn_r _ [65, 66, 67, 68, 69, 22, 70, 71, 72, 73, 74, 75, 76, 35, 77, 78, 79, 80, 81, 53, 50, 49, 82, 83, 84, 85, 86, 87, 88, 89, 51, 57, 56, 90, 91, 92, 93, 94, 95, 96, 97, 54, 98, 99, 100, 101, 52, 102, 103, 104, 105, 106, 107, 108, 109, 110, 111, 112, 40, 113, 43, 114, 115, 116, 117, 118, 24, 123, 124, 125, 126, 127, 128, 129, 130, 131, 132, 133, 134, 135] (by decide +kernel) (by decide +kernel)
set_option maxRecDepth 20000 in
theorem gX5_on_X3_fallsNow : GoodIn wsX5_on (wsV RX5 59 RX3 yX3_fallsNow wsX3_fallsNow) := goodIn_app (goodIn_of _ (by decide +kernel)) ggX5_on_X3_fallsNow
theorem dX5_on_0 : decode cX5_on 0 = .ok (.aload_n 0, 1) := by decide +kernel
theorem dX5_on_1 : decode cX5_on 1 = .ok (.iload_n 1, 1) := by decide +kernel
theorem dX5_on_2 : decode cX5_on 2 = .ok (.invokevirtual 37, 3) := by decide +kernel
theorem dX5_on_5 : decode cX5_on 5 = .ok (.astore_n 3, 1) := by decide +kernel
theorem dX5_on_6 : decode cX5_on 6 = .ok (.iload_n 2, 1) := by decide +kernel
theorem dX5_on_7 : decode cX5_on 7 = .ok (.bipush 20, 2) := by decide +kernel
theorem dX5_on_9 : decode cX5_on 9 = .ok (.sipush 150, 3) := by decide +kernel
theorem dX5_on_12 : decode cX5_on 12 = .ok (.invokestatic 41, 3) := by decide +kernel
theorem dX5_on_15 : decode cX5_on 15 = .ok (.aload_n 3, 1) := by decide +kernel
theorem dX5_on_16 : decode cX5_on 16 = .ok (.invokevirtual 72, 3) := by decide +kernel
theorem dX5_on_19 : decode cX5_on 19 = .ok (.ifCond .eq 13, 3) := by decide +kernel
theorem dX5_on_22 : decode cX5_on 22 = .ok (.new 76, 3) := by decide +kernel
theorem dX5_on_25 : decode cX5_on 25 = .ok (.dup, 1) := by decide +kernel
theorem dX5_on_26 : decode cX5_on 26 = .ok (.ldc 78, 2) := by decide +kernel
theorem dX5_on_28 : decode cX5_on 28 = .ok (.invokespecial 80, 3) := by decide +kernel
theorem dX5_on_31 : decode cX5_on 31 = .ok (.athrow, 1) := by decide +kernel
theorem dX5_on_32 : decode cX5_on 32 = .ok (.aload_n 0, 1) := by decide +kernel
theorem dX5_on_33 : decode cX5_on 33 = .ok (.getfield 19, 3) := by decide +kernel
theorem dX5_on_36 : decode cX5_on 36 = .ok (.aload_n 0, 1) := by decide +kernel
theorem dX5_on_37 : decode cX5_on 37 = .ok (.getfield 10, 3) := by decide +kernel
theorem dX5_on_40 : decode cX5_on 40 = .ok (.invokevirtual 45, 3) := by decide +kernel
theorem dX5_on_43 : decode cX5_on 43 = .ok (.aload_n 3, 1) := by decide +kernel
theorem dX5_on_44 : decode cX5_on 44 = .ok (.iload_n 2, 1) := by decide +kernel
theorem dX5_on_45 : decode cX5_on 45 = .ok (.invokevirtual 83, 3) := by decide +kernel
theorem dX5_on_48 : decode cX5_on 48 = .ok (.aload_n 0, 1) := by decide +kernel
theorem dX5_on_49 : decode cX5_on 49 = .ok (.getfield 10, 3) := by decide +kernel
theorem dX5_on_52 : decode cX5_on 52 = .ok (.aload_n 3, 1) := by decide +kernel
theorem dX5_on_53 : decode cX5_on 53 = .ok (.invokevirtual 59, 3) := by decide +kernel
theorem dX5_on_56 : decode cX5_on 56 = .ok (.pop, 1) := by decide +kernel
theorem dX5_on_57 : decode cX5_on 57 = .ok (.aload_n 3, 1) := by decide +kernel
theorem dX5_on_58 : decode cX5_on 58 = .ok (.getfield 87, 3) := by decide +kernel
theorem dX5_on_61 : decode cX5_on 61 = .ok (.ireturn, 1) := by decide +kernel
set_option maxRecDepth 20000 in
theorem ggX5_off_X5_rigOf : GoodIn wsX5_off wsX5_rigOf := goodIn_ca (goodIn_r _ [8, 9, 10, 2, 11, 116, 117, 118, 119, 130, 131, 132] (by decide +kernel) (by decide +kernel)) (goodIn_sub (fun _ h => List.mem_cons_of_mem _ (List.mem_append_right _ h)) (by decide +kernel))
set_option maxRecDepth 20000 in
theorem gX5_off_X5_rigOf : GoodIn wsX5_off (wsV RX5 37 RX5 yX5_rigOf wsX5_rigOf) := goodIn_app (goodIn_of _ (by decide +kernel)) ggX5_off_X5_rigOf
set_option maxRecDepth 20000 in
theorem ggX5_off_X5_demandPerson : GoodIn wsX5_off wsX5_demandPerson := goodIn_ca (goodIn_r _ [14, 9, 10, 15, 16, 17, 18, 19, 20, 120, 121, 122, 123, 124, 125, 126, 127, 128, 129] (by decide +kernel) (by decide +kernel)) (goodIn_sub (fun _ h => List.mem_cons_of_mem _ (List.mem_append_right _ h)) (by decide +kernel))
set_option maxRecDepth 20000 in
theorem gX5_off_X5_demandPerson : GoodIn wsX5_off (va_wsS RX5 90 yX5_demandPerson wsX5_demandPerson) := goodIn_app (goodIn_of _ (by decide +kernel)) ggX5_off_X5_demandPerson
set_option maxRecDepth 20000 in
theorem ggX5_off_X0_save : GoodIn wsX5_off wsX0_save := goodIn_r _ [25, 26, 27, 28, 29, 30, 31, 32, 33, 34, 35, 36, 37, 38, 39, 40, 41, 42, 43, 18, 44, 45, 46, 47, 48, 49, 50, 51, 20, 52, 53, 133, 134, 135, 130, 131, 132, 120, 121, 122, 123, 124, 125, 126, 127, 128, 129] (by decide +kernel) (by decide +kernel)
set_option maxRecDepth 20000 in
theorem gX5_off_X0_save : GoodIn wsX5_off (wsV RX5 45 RX0 yX0_save wsX0_save) := goodIn_app (goodIn_of _ (by decide +kernel)) ggX5_off_X0_save
set_option maxRecDepth 20000 in
theorem ggX5_off_X2_remove : GoodIn wsX5_off wsX2_remove := goodIn_r _ [57, 52, 53, 20, 58, 16, 17, 18, 19, 120, 121, 122, 123, 124, 125, 126, 127, 128, 129] (by decide +kernel) (by decide +kernel)
set_option maxRecDepth 20000 in
theorem gX5_off_X2_remove : GoodIn wsX5_off (wsV RX5 94 RX2 yX2_remove wsX2_remove) := goodIn_app (goodIn_of _ (by decide +kernel)) ggX5_off_X2_remove
set_option maxRecDepth 20000 in
theorem ggX5_off_X3_fallsNow : GoodIn wsX5_off wsX3_fallsNow := goodIn_r _ [62, 63, 64, 65, 66, 18, 67, 68, 69, 70, 71, 72, 73, 31, 74, 75, 76, 77, 78, 49, 46, 45, 79, 80, 81, 82, 83, 84, 85, 86, 47, 53, 52, 87, 88, 89, 90, 91, 92, 93, 94, 50, 95, 96, 97, 98, 48, 99, 100, 101, 102, 103, 104, 105, 106, 107, 108, 109, 36, 110, 39, 111, 112, 113, 114, 115, 20, 120, 121, 122, 123, 124, 125, 126, 127, 128, 129, 130, 131, 132] (by decide +kernel) (by decide +kernel)
set_option maxRecDepth 20000 in
theorem gX5_off_X3_fallsNow : GoodIn wsX5_off (wsV RX5 59 RX3 yX3_fallsNow wsX3_fallsNow) := goodIn_app (goodIn_of _ (by decide +kernel)) ggX5_off_X3_fallsNow
theorem dX5_off_0 : decode cX5_off 0 = .ok (.aload_n 0, 1) := by decide +kernel
theorem dX5_off_1 : decode cX5_off 1 = .ok (.iload_n 1, 1) := by decide +kernel
theorem dX5_off_2 : decode cX5_off 2 = .ok (.invokevirtual 37, 3) := by decide +kernel
theorem dX5_off_5 : decode cX5_off 5 = .ok (.astore_n 3, 1) := by decide +kernel
theorem dX5_off_6 : decode cX5_off 6 = .ok (.aload_n 3, 1) := by decide +kernel
theorem dX5_off_7 : decode cX5_off 7 = .ok (.iload_n 2, 1) := by decide +kernel
theorem dX5_off_8 : decode cX5_off 8 = .ok (.invokestatic 90, 3) := by decide +kernel
theorem dX5_off_11 : decode cX5_off 11 = .ok (.aload_n 0, 1) := by decide +kernel
theorem dX5_off_12 : decode cX5_off 12 = .ok (.getfield 19, 3) := by decide +kernel
theorem dX5_off_15 : decode cX5_off 15 = .ok (.aload_n 0, 1) := by decide +kernel
theorem dX5_off_16 : decode cX5_off 16 = .ok (.getfield 10, 3) := by decide +kernel
theorem dX5_off_19 : decode cX5_off 19 = .ok (.invokevirtual 45, 3) := by decide +kernel
theorem dX5_off_22 : decode cX5_off 22 = .ok (.aload_n 3, 1) := by decide +kernel
theorem dX5_off_23 : decode cX5_off 23 = .ok (.iload_n 2, 1) := by decide +kernel
theorem dX5_off_24 : decode cX5_off 24 = .ok (.invokevirtual 94, 3) := by decide +kernel
theorem dX5_off_27 : decode cX5_off 27 = .ok (.aload_n 0, 1) := by decide +kernel
theorem dX5_off_28 : decode cX5_off 28 = .ok (.getfield 10, 3) := by decide +kernel
theorem dX5_off_31 : decode cX5_off 31 = .ok (.aload_n 3, 1) := by decide +kernel
theorem dX5_off_32 : decode cX5_off 32 = .ok (.invokevirtual 59, 3) := by decide +kernel
theorem dX5_off_35 : decode cX5_off 35 = .ok (.pop, 1) := by decide +kernel
theorem dX5_off_36 : decode cX5_off 36 = .ok (.aload_n 3, 1) := by decide +kernel
theorem dX5_off_37 : decode cX5_off 37 = .ok (.getfield 87, 3) := by decide +kernel
theorem dX5_off_40 : decode cX5_off 40 = .ok (.ireturn, 1) := by decide +kernel
set_option maxRecDepth 20000 in
theorem ggX5_climb_X5_rigOf : GoodIn wsX5_climb wsX5_rigOf := goodIn_ca (goodIn_r _ [7, 8, 9, 2, 10, 127, 128, 129, 130, 131, 132, 133] (by decide +kernel) (by decide +kernel)) (goodIn_sub (fun _ h => List.mem_cons_of_mem _ (List.mem_append_left _ (List.mem_append_right _ h))) (by decide +kernel))
set_option maxRecDepth 20000 in
theorem gX5_climb_X5_rigOf : GoodIn wsX5_climb (wsV RX5 37 RX5 yX5_rigOf wsX5_rigOf) := goodIn_app (goodIn_of _ (by decide +kernel)) ggX5_climb_X5_rigOf
set_option maxRecDepth 20000 in
theorem ggX5_climb_X5_demandPerson : GoodIn wsX5_climb wsX5_demandPerson := goodIn_ca (goodIn_r _ [13, 8, 9, 14, 15, 16, 17, 18, 19, 134, 135, 136, 137, 138, 139, 140, 141, 142, 143] (by decide +kernel) (by decide +kernel)) (goodIn_sub (fun _ h => List.mem_cons_of_mem _ (List.mem_append_left _ (List.mem_append_right _ h))) (by decide +kernel))
set_option maxRecDepth 20000 in
theorem gX5_climb_X5_demandPerson : GoodIn wsX5_climb (va_wsS RX5 90 yX5_demandPerson wsX5_demandPerson) := goodIn_app (goodIn_of _ (by decide +kernel)) ggX5_climb_X5_demandPerson
set_option maxRecDepth 20000 in
theorem ggX5_climb_X5_demandRange : GoodIn wsX5_climb wsX5_demandRange := goodIn_ca (goodIn_r _ [22, 23, 24] (by decide +kernel) (by decide +kernel)) (goodIn_sub (fun _ h => List.mem_cons_of_mem _ (List.mem_append_right _ h)) (by decide +kernel))
set_option maxRecDepth 20000 in
theorem gX5_climb_X5_demandRange : GoodIn wsX5_climb (va_wsS RX5 41 yX5_demandRange wsX5_demandRange) := goodIn_app (goodIn_of _ (by decide +kernel)) ggX5_climb_X5_demandRange
set_option maxRecDepth 20000 in
theorem ggX5_climb_X0_save : GoodIn wsX5_climb wsX0_save := goodIn_r _ [29, 30, 31, 32, 33, 34, 35, 36, 37, 38, 39, 40, 41, 42, 43, 44, 45, 46, 47, 17, 48, 49, 50, 51, 52, 53, 54, 55, 19, 56, 57, 144, 145, 146, 131, 132, 133, 134, 135, 136, 137, 138, 139, 140, 141, 142, 143] (by decide +kernel) (by decide +kernel)
set_option maxRecDepth 20000 in
theorem gX5_climb_X0_save : GoodIn wsX5_climb (wsV RX5 45 RX0 yX0_save wsX0_save) := goodIn_app (goodIn_of _ (by decide +kernel)) ggX5_climb_X0_save
set_option maxRecDepth 20000 in
theorem ggX5_climb_X3_walk : GoodIn wsX5_climb wsX3_walk := goodIn_r _ [61, 62, 63, 35, 64, 44, 65, 66, 67, 17, 68, 57, 69, 15, 16, 18, 19, 70, 71, 72, 73, 74, 75, 76, 77, 78, 79, 80, 81, 82, 83, 84, 85, 86, 87, 88, 53, 50, 49, 89, 90, 91, 92, 93, 94, 95, 96, 51, 56, 97, 98, 99, 100, 101, 102, 103, 104, 54, 105, 106, 107, 108, 52, 109, 110, 111, 112, 113, 114, 115, 116, 117, 118, 119, 40, 120, 43, 121, 122, 123, 124, 125, 126, 131, 132, 133, 134, 135, 136, 137, 138, 139, 140, 141, 142, 143] (by decide +kernel) (by decide +kernel)
set_option maxRecDepth 20000 in
theorem gX5_climb_X3_walk : GoodIn wsX5_climb (wsV RX5 97 RX3 yX3_walk wsX3_walk) := goodIn_app (goodIn_of _ (by decide +kernel)) ggX5_climb_X3_walk
theorem dX5_climb_0 : decode cX5_climb 0 = .ok (.aload_n 0, 1) := by decide +kernel
theorem dX5_climb_1 : decode cX5_climb 1 = .ok (.iload_n 1, 1) := by decide +kernel
theorem dX5_climb_2 : decode cX5_climb 2 = .ok (.invokevirtual 37, 3) := by decide +kernel
theorem dX5_climb_5 : decode cX5_climb 5 = .ok (.astore 4, 2) := by decide +kernel
theorem dX5_climb_7 : decode cX5_climb 7 = .ok (.aload 4, 2) := by decide +kernel
theorem dX5_climb_9 : decode cX5_climb 9 = .ok (.iload_n 2, 1) := by decide +kernel
theorem dX5_climb_10 : decode cX5_climb 10 = .ok (.invokestatic 90, 3) := by decide +kernel
theorem dX5_climb_13 : decode cX5_climb 13 = .ok (.iload_n 3, 1) := by decide +kernel
theorem dX5_climb_14 : decode cX5_climb 14 = .ok (.iconst 0, 1) := by decide +kernel
theorem dX5_climb_15 : decode cX5_climb 15 = .ok (.bipush 10, 2) := by decide +kernel
theorem dX5_climb_17 : decode cX5_climb 17 = .ok (.invokestatic 41, 3) := by decide +kernel
theorem dX5_climb_20 : decode cX5_climb 20 = .ok (.aload_n 0, 1) := by decide +kernel
theorem dX5_climb_21 : decode cX5_climb 21 = .ok (.getfield 19, 3) := by decide +kernel
theorem dX5_climb_24 : decode cX5_climb 24 = .ok (.aload_n 0, 1) := by decide +kernel
theorem dX5_climb_25 : decode cX5_climb 25 = .ok (.getfield 10, 3) := by decide +kernel
theorem dX5_climb_28 : decode cX5_climb 28 = .ok (.invokevirtual 45, 3) := by decide +kernel
theorem dX5_climb_31 : decode cX5_climb 31 = .ok (.aload_n 0, 1) := by decide +kernel
theorem dX5_climb_32 : decode cX5_climb 32 = .ok (.getfield 10, 3) := by decide +kernel
theorem dX5_climb_35 : decode cX5_climb 35 = .ok (.aload 4, 2) := by decide +kernel
theorem dX5_climb_37 : decode cX5_climb 37 = .ok (.iload_n 2, 1) := by decide +kernel
theorem dX5_climb_38 : decode cX5_climb 38 = .ok (.iload_n 3, 1) := by decide +kernel
theorem dX5_climb_39 : decode cX5_climb 39 = .ok (.invokevirtual 97, 3) := by decide +kernel
theorem dX5_climb_42 : decode cX5_climb 42 = .ok (.ireturn, 1) := by decide +kernel
set_option maxRecDepth 20000 in
theorem ggX5_append_X5_demandRange : GoodIn wsX5_append wsX5_demandRange := goodIn_ca (goodIn_r _ [8, 9, 10] (by decide +kernel) (by decide +kernel)) (goodIn_sub (fun _ h => List.mem_cons_of_mem _ (List.mem_append_right _ h)) (by decide +kernel))
set_option maxRecDepth 20000 in
theorem gX5_append_X5_demandRange : GoodIn wsX5_append (va_wsS RX5 41 yX5_demandRange wsX5_demandRange) := goodIn_app (goodIn_of _ (by decide +kernel)) ggX5_append_X5_demandRange
set_option maxRecDepth 20000 in
theorem ggX5_append_X4_isFull : GoodIn wsX5_append wsX4_isFull := goodIn_r _ [15, 16, 26, 27, 28, 29] (by decide +kernel) (by decide +kernel)
set_option maxRecDepth 20000 in
theorem gX5_append_X4_isFull : GoodIn wsX5_append (wsV RX5 101 RX4 yX4_isFull wsX4_isFull) := goodIn_app (goodIn_of _ (by decide +kernel)) ggX5_append_X4_isFull
set_option maxRecDepth 20000 in
theorem ggX5_append_X4_add : GoodIn wsX5_append wsX4_add := goodIn_r _ [20, 16, 21, 26, 27, 28, 29] (by decide +kernel) (by decide +kernel)
set_option maxRecDepth 20000 in
theorem gX5_append_X4_add : GoodIn wsX5_append (wsV RX5 104 RX4 yX4_add wsX4_add) := goodIn_app (goodIn_of _ (by decide +kernel)) ggX5_append_X4_add
theorem dX5_append_0 : decode cX5_append 0 = .ok (.iload_n 1, 1) := by decide +kernel
theorem dX5_append_1 : decode cX5_append 1 = .ok (.bipush 33, 2) := by decide +kernel
theorem dX5_append_3 : decode cX5_append 3 = .ok (.bipush 126, 2) := by decide +kernel
theorem dX5_append_5 : decode cX5_append 5 = .ok (.invokestatic 41, 3) := by decide +kernel
theorem dX5_append_8 : decode cX5_append 8 = .ok (.aload_n 0, 1) := by decide +kernel
theorem dX5_append_9 : decode cX5_append 9 = .ok (.getfield 26, 3) := by decide +kernel
theorem dX5_append_12 : decode cX5_append 12 = .ok (.invokevirtual 101, 3) := by decide +kernel
theorem dX5_append_15 : decode cX5_append 15 = .ok (.ifCond .eq 13, 3) := by decide +kernel
theorem dX5_append_18 : decode cX5_append 18 = .ok (.new 76, 3) := by decide +kernel
theorem dX5_append_21 : decode cX5_append 21 = .ok (.dup, 1) := by decide +kernel
theorem dX5_append_22 : decode cX5_append 22 = .ok (.ldc 102, 2) := by decide +kernel
theorem dX5_append_24 : decode cX5_append 24 = .ok (.invokespecial 80, 3) := by decide +kernel
theorem dX5_append_27 : decode cX5_append 27 = .ok (.athrow, 1) := by decide +kernel
theorem dX5_append_28 : decode cX5_append 28 = .ok (.aload_n 0, 1) := by decide +kernel
theorem dX5_append_29 : decode cX5_append 29 = .ok (.getfield 26, 3) := by decide +kernel
theorem dX5_append_32 : decode cX5_append 32 = .ok (.iload_n 1, 1) := by decide +kernel
theorem dX5_append_33 : decode cX5_append 33 = .ok (.invokevirtual 104, 3) := by decide +kernel
theorem dX5_append_36 : decode cX5_append 36 = .ok (.aload_n 0, 1) := by decide +kernel
theorem dX5_append_37 : decode cX5_append 37 = .ok (.getfield 26, 3) := by decide +kernel
theorem dX5_append_40 : decode cX5_append 40 = .ok (.getfield 105, 3) := by decide +kernel
theorem dX5_append_43 : decode cX5_append 43 = .ok (.ireturn, 1) := by decide +kernel
set_option maxRecDepth 20000 in
theorem ggX5_clearBuffer_X4_clear : GoodIn wsX5_clearBuffer wsX4_clear := goodIn_r _ [7, 8, 13, 14, 15, 16] (by decide +kernel) (by decide +kernel)
set_option maxRecDepth 20000 in
theorem gX5_clearBuffer_X4_clear : GoodIn wsX5_clearBuffer (wsV RX5 108 RX4 yX4_clear wsX4_clear) := goodIn_app (goodIn_of _ (by decide +kernel)) ggX5_clearBuffer_X4_clear
theorem dX5_clearBuffer_0 : decode cX5_clearBuffer 0 = .ok (.aload_n 0, 1) := by decide +kernel
theorem dX5_clearBuffer_1 : decode cX5_clearBuffer 1 = .ok (.getfield 26, 3) := by decide +kernel
theorem dX5_clearBuffer_4 : decode cX5_clearBuffer 4 = .ok (.getfield 105, 3) := by decide +kernel
theorem dX5_clearBuffer_7 : decode cX5_clearBuffer 7 = .ok (.istore_n 1, 1) := by decide +kernel
theorem dX5_clearBuffer_8 : decode cX5_clearBuffer 8 = .ok (.aload_n 0, 1) := by decide +kernel
theorem dX5_clearBuffer_9 : decode cX5_clearBuffer 9 = .ok (.getfield 26, 3) := by decide +kernel
theorem dX5_clearBuffer_12 : decode cX5_clearBuffer 12 = .ok (.invokevirtual 108, 3) := by decide +kernel
theorem dX5_clearBuffer_15 : decode cX5_clearBuffer 15 = .ok (.iload_n 1, 1) := by decide +kernel
theorem dX5_clearBuffer_16 : decode cX5_clearBuffer 16 = .ok (.ireturn, 1) := by decide +kernel
set_option maxRecDepth 20000 in
theorem ggX5_firstError_X4_firstFault : GoodIn wsX5_firstError wsX4_firstFault := goodIn_r _ [6, 7, 8, 9, 10, 11, 12, 13, 14, 15, 16, 17, 18, 5, 19, 20, 21, 22, 23, 24, 25, 26, 27, 28, 29, 30, 31, 32, 33, 34, 35, 36, 37, 38, 39, 40, 41, 42, 43, 44, 45, 46, 47, 48, 49, 50, 51, 52, 53, 54, 55, 56, 57, 62, 63, 64, 65, 66, 67, 68, 69, 70, 71] (by decide +kernel) (by decide +kernel)
set_option maxRecDepth 20000 in
theorem gX5_firstError_X4_firstFault : GoodIn wsX5_firstError (wsV RX5 111 RX4 yX4_firstFault wsX4_firstFault) := goodIn_app (goodIn_of _ (by decide +kernel)) ggX5_firstError_X4_firstFault
theorem dX5_firstError_0 : decode cX5_firstError 0 = .ok (.aload_n 0, 1) := by decide +kernel
theorem dX5_firstError_1 : decode cX5_firstError 1 = .ok (.getfield 26, 3) := by decide +kernel
theorem dX5_firstError_4 : decode cX5_firstError 4 = .ok (.invokevirtual 111, 3) := by decide +kernel
theorem dX5_firstError_7 : decode cX5_firstError 7 = .ok (.ireturn, 1) := by decide +kernel
set_option maxRecDepth 20000 in
theorem ggX5_play_X4_isWhole : GoodIn wsX5_play wsX4_isWhole := goodIn_r _ [11, 12, 13, 14, 15, 16, 10, 17, 18, 19, 20, 21, 22, 23, 24, 25, 26, 27, 28, 29, 30, 31, 32, 33, 34, 35, 36, 37, 38, 39, 40, 41, 42, 43, 44, 45, 46, 47, 48, 49, 50, 51, 52, 53, 54, 55, 56, 57, 58, 59, 60, 61, 62, 63, 64, 65, 66, 67, 225, 226, 227, 228, 229, 230, 231, 232, 233, 234] (by decide +kernel) (by decide +kernel)
set_option maxRecDepth 20000 in
theorem gX5_play_X4_isWhole : GoodIn wsX5_play (wsV RX5 115 RX4 yX4_isWhole wsX4_isWhole) := goodIn_app (goodIn_of _ (by decide +kernel)) ggX5_play_X4_isWhole
set_option maxRecDepth 20000 in
theorem ggX5_play_X0_save : GoodIn wsX5_play wsX0_save := goodIn_r _ [72, 73, 74, 75, 76, 77, 78, 79, 80, 81, 82, 83, 84, 85, 86, 87, 88, 89, 90, 91, 92, 93, 94, 95, 96, 97, 98, 99, 100, 101, 102, 235, 236, 237, 238, 239, 240, 241, 242, 243, 244, 245, 246, 247, 248, 249, 250] (by decide +kernel) (by decide +kernel)
set_option maxRecDepth 20000 in
theorem gX5_play_X0_save : GoodIn wsX5_play (wsV RX5 45 RX0 yX0_save wsX0_save) := goodIn_app (goodIn_of _ (by decide +kernel)) ggX5_play_X0_save
set_option maxRecDepth 20000 in
theorem ggX5_play_X4_rewind : GoodIn wsX5_play wsX4_rewind := goodIn_r _ [106, 107, 225, 226, 227, 228] (by decide +kernel) (by decide +kernel)
set_option maxRecDepth 20000 in
theorem gX5_play_X4_rewind : GoodIn wsX5_play (wsV RX5 123 RX4 yX4_rewind wsX4_rewind) := goodIn_app (goodIn_of _ (by decide +kernel)) ggX5_play_X4_rewind
set_option maxRecDepth 20000 in
theorem ggX5_play_X4_nextPart : GoodIn wsX5_play wsX4_nextPart := goodIn_r _ [111, 107, 12, 13, 18, 19, 20, 21, 22, 23, 24, 25, 26, 27, 10, 28, 29, 30, 31, 32, 33, 34, 35, 36, 37, 38, 39, 40, 41, 42, 43, 44, 45, 46, 47, 48, 49, 50, 51, 52, 53, 54, 55, 56, 57, 58, 59, 60, 61, 62, 63, 64, 65, 66, 225, 226, 227, 228, 229, 230, 231, 232, 233, 234] (by decide +kernel) (by decide +kernel)
set_option maxRecDepth 20000 in
theorem gX5_play_X4_nextPart : GoodIn wsX5_play (wsV RX5 126 RX4 yX4_nextPart wsX4_nextPart) := goodIn_app (goodIn_of _ (by decide +kernel)) ggX5_play_X4_nextPart
set_option maxRecDepth 20000 in
theorem ggX5_play_X5_playPart : GoodIn wsX5_play wsX5_playPart := goodIn_ca (goodIn_r _ [116, 117, 118, 119, 5, 120, 121, 122, 123, 124, 115, 125, 126, 127, 128, 129, 130, 131, 83, 132, 133, 134, 78, 135, 87, 136, 137, 138, 91, 139, 102, 140, 141, 142, 143, 100, 144, 145, 146, 147, 148, 149, 150, 151, 152, 153, 154, 155, 156, 157, 158, 159, 160, 161, 162, 97, 94, 93, 163, 164, 165, 166, 167, 168, 169, 170, 95, 101, 171, 172, 173, 174, 175, 176, 177, 178, 98, 179, 180, 181, 182, 96, 183, 184, 185, 186, 187, 188, 189, 190, 191, 192, 193, 194, 86, 195, 196, 197, 198, 199, 200, 201, 202, 203, 204, 205, 206, 207, 208, 209, 210, 211, 212, 213, 214, 215, 216, 229, 230, 231, 232, 233, 234, 241, 242, 243, 244, 245, 246, 247, 248, 249, 250, 221, 222, 223, 224, 238, 239, 240] (by decide +kernel) (by decide +kernel)) (goodIn_sub (fun _ h => List.mem_cons_of_mem _ (List.mem_append_right _ h)) (by decide +kernel))
set_option maxRecDepth 20000 in
theorem gX5_play_X5_playPart : GoodIn wsX5_play (wsV RX5 133 RX5 yX5_playPart wsX5_playPart) := goodIn_app (goodIn_of _ (by decide +kernel)) ggX5_play_X5_playPart
set_option maxRecDepth 20000 in
theorem ggX5_play_X4_clear : GoodIn wsX5_play wsX4_clear := goodIn_r _ [220, 12, 225, 226, 227, 228] (by decide +kernel) (by decide +kernel)
set_option maxRecDepth 20000 in
theorem gX5_play_X4_clear : GoodIn wsX5_play (wsV RX5 108 RX4 yX4_clear wsX4_clear) := goodIn_app (goodIn_of _ (by decide +kernel)) ggX5_play_X4_clear
theorem dX5_play_0 : decode cX5_play 0 = .ok (.aload_n 0, 1) := by decide +kernel
theorem dX5_play_1 : decode cX5_play 1 = .ok (.getfield 26, 3) := by decide +kernel
theorem dX5_play_4 : decode cX5_play 4 = .ok (.invokevirtual 115, 3) := by decide +kernel
theorem dX5_play_7 : decode cX5_play 7 = .ok (.ifCond .ne 13, 3) := by decide +kernel
theorem dX5_play_10 : decode cX5_play 10 = .ok (.new 118, 3) := by decide +kernel
theorem dX5_play_13 : decode cX5_play 13 = .ok (.dup, 1) := by decide +kernel
theorem dX5_play_14 : decode cX5_play 14 = .ok (.ldc 120, 2) := by decide +kernel
theorem dX5_play_16 : decode cX5_play 16 = .ok (.invokespecial 122, 3) := by decide +kernel
theorem dX5_play_19 : decode cX5_play 19 = .ok (.athrow, 1) := by decide +kernel
theorem dX5_play_20 : decode cX5_play 20 = .ok (.aload_n 0, 1) := by decide +kernel
theorem dX5_play_21 : decode cX5_play 21 = .ok (.getfield 19, 3) := by decide +kernel
theorem dX5_play_24 : decode cX5_play 24 = .ok (.aload_n 0, 1) := by decide +kernel
theorem dX5_play_25 : decode cX5_play 25 = .ok (.getfield 10, 3) := by decide +kernel
theorem dX5_play_28 : decode cX5_play 28 = .ok (.invokevirtual 45, 3) := by decide +kernel
theorem dX5_play_31 : decode cX5_play 31 = .ok (.aload_n 0, 1) := by decide +kernel
theorem dX5_play_32 : decode cX5_play 32 = .ok (.getfield 26, 3) := by decide +kernel
theorem dX5_play_35 : decode cX5_play 35 = .ok (.invokevirtual 123, 3) := by decide +kernel
theorem dX5_play_38 : decode cX5_play 38 = .ok (.iconst 0, 1) := by decide +kernel
theorem dX5_play_39 : decode cX5_play 39 = .ok (.istore_n 1, 1) := by decide +kernel
theorem dX5_play_40 : decode cX5_play 40 = .ok (.iconst 0, 1) := by decide +kernel
theorem dX5_play_41 : decode cX5_play 41 = .ok (.istore_n 2, 1) := by decide +kernel
theorem dX5_play_42 : decode cX5_play 42 = .ok (.iload_n 2, 1) := by decide +kernel
theorem dX5_play_43 : decode cX5_play 43 = .ok (.bipush 60, 2) := by decide +kernel
theorem dX5_play_45 : decode cX5_play 45 = .ok (.if_icmp .ge 36, 3) := by decide +kernel
theorem dX5_play_48 : decode cX5_play 48 = .ok (.aload_n 0, 1) := by decide +kernel
theorem dX5_play_49 : decode cX5_play 49 = .ok (.getfield 26, 3) := by decide +kernel
theorem dX5_play_52 : decode cX5_play 52 = .ok (.invokevirtual 126, 3) := by decide +kernel
theorem dX5_play_55 : decode cX5_play 55 = .ok (.ifCond .eq 26, 3) := by decide +kernel
theorem dX5_play_58 : decode cX5_play 58 = .ok (.aload_n 0, 1) := by decide +kernel
theorem dX5_play_59 : decode cX5_play 59 = .ok (.aload_n 0, 1) := by decide +kernel
theorem dX5_play_60 : decode cX5_play 60 = .ok (.getfield 26, 3) := by decide +kernel
theorem dX5_play_63 : decode cX5_play 63 = .ok (.getfield 129, 3) := by decide +kernel
theorem dX5_play_66 : decode cX5_play 66 = .ok (.invokevirtual 133, 3) := by decide +kernel
theorem dX5_play_69 : decode cX5_play 69 = .ok (.ifCond .eq 12, 3) := by decide +kernel
theorem dX5_play_72 : decode cX5_play 72 = .ok (.iinc 1 1, 3) := by decide +kernel
theorem dX5_play_75 : decode cX5_play 75 = .ok (.iinc 2 1, 3) := by decide +kernel
theorem dX5_play_78 : decode cX5_play 78 = .ok (.goto (-36), 3) := by decide +kernel
theorem dX5_play_81 : decode cX5_play 81 = .ok (.aload_n 0, 1) := by decide +kernel
theorem dX5_play_82 : decode cX5_play 82 = .ok (.getfield 26, 3) := by decide +kernel
theorem dX5_play_85 : decode cX5_play 85 = .ok (.invokevirtual 108, 3) := by decide +kernel
theorem dX5_play_88 : decode cX5_play 88 = .ok (.iload_n 1, 1) := by decide +kernel
theorem dX5_play_89 : decode cX5_play 89 = .ok (.ireturn, 1) := by decide +kernel
set_option maxRecDepth 20000 in
theorem ggX5_undo_X0_restoreTo : GoodIn wsX5_undo wsX0_restoreTo := goodIn_r _ [10, 11, 12, 13, 14, 15, 16, 17, 18, 19, 20, 21, 22, 23, 24, 25, 26, 27, 28, 29, 30, 31, 32, 33, 34, 35, 36, 41, 42, 43, 44, 45, 46, 47, 48, 49, 50, 51, 52, 53, 54, 55, 56] (by decide +kernel) (by decide +kernel)
set_option maxRecDepth 20000 in
theorem gX5_undo_X0_restoreTo : GoodIn wsX5_undo (wsV RX5 142 RX0 yX0_restoreTo wsX0_restoreTo) := goodIn_app (goodIn_of _ (by decide +kernel)) ggX5_undo_X0_restoreTo
theorem dX5_undo_0 : decode cX5_undo 0 = .ok (.aload_n 0, 1) := by decide +kernel
theorem dX5_undo_1 : decode cX5_undo 1 = .ok (.getfield 19, 3) := by decide +kernel
theorem dX5_undo_4 : decode cX5_undo 4 = .ok (.getfield 137, 3) := by decide +kernel
theorem dX5_undo_7 : decode cX5_undo 7 = .ok (.ifCond .ne 13, 3) := by decide +kernel
theorem dX5_undo_10 : decode cX5_undo 10 = .ok (.new 76, 3) := by decide +kernel
theorem dX5_undo_13 : decode cX5_undo 13 = .ok (.dup, 1) := by decide +kernel
theorem dX5_undo_14 : decode cX5_undo 14 = .ok (.ldc 140, 2) := by decide +kernel
theorem dX5_undo_16 : decode cX5_undo 16 = .ok (.invokespecial 80, 3) := by decide +kernel
theorem dX5_undo_19 : decode cX5_undo 19 = .ok (.athrow, 1) := by decide +kernel
theorem dX5_undo_20 : decode cX5_undo 20 = .ok (.aload_n 0, 1) := by decide +kernel
theorem dX5_undo_21 : decode cX5_undo 21 = .ok (.getfield 19, 3) := by decide +kernel
theorem dX5_undo_24 : decode cX5_undo 24 = .ok (.aload_n 0, 1) := by decide +kernel
theorem dX5_undo_25 : decode cX5_undo 25 = .ok (.getfield 10, 3) := by decide +kernel
theorem dX5_undo_28 : decode cX5_undo 28 = .ok (.invokevirtual 142, 3) := by decide +kernel
theorem dX5_undo_31 : decode cX5_undo 31 = .ok (.aload_n 0, 1) := by decide +kernel
theorem dX5_undo_32 : decode cX5_undo 32 = .ok (.getfield 19, 3) := by decide +kernel
theorem dX5_undo_35 : decode cX5_undo 35 = .ok (.getfield 137, 3) := by decide +kernel
theorem dX5_undo_38 : decode cX5_undo 38 = .ok (.ireturn, 1) := by decide +kernel
set_option maxRecDepth 20000 in
theorem ggX5_ladder_X5_rigOf : GoodIn wsX5_ladder wsX5_rigOf := goodIn_ca (goodIn_r _ [15, 16, 17, 18, 19, 85, 86, 87, 88, 89, 90, 91] (by decide +kernel) (by decide +kernel)) (goodIn_sub (fun _ h => List.mem_cons_of_mem _ (List.mem_append_right _ h)) (by decide +kernel))
set_option maxRecDepth 20000 in
theorem gX5_ladder_X5_rigOf : GoodIn wsX5_ladder (wsV RX5 37 RX5 yX5_rigOf wsX5_rigOf) := goodIn_app (goodIn_of _ (by decide +kernel)) ggX5_ladder_X5_rigOf
set_option maxRecDepth 20000 in
theorem ggX5_ladder_X2_load : GoodIn wsX5_ladder wsX2_load := goodIn_r _ [24, 25, 26, 75, 76, 77, 78, 79, 80, 81, 82, 83, 84] (by decide +kernel) (by decide +kernel)
set_option maxRecDepth 20000 in
theorem gX5_ladder_X2_load : GoodIn wsX5_ladder (wsV RX5 145 RX2 yX2_load wsX2_load) := goodIn_app (goodIn_of _ (by decide +kernel)) ggX5_ladder_X2_load
set_option maxRecDepth 20000 in
theorem ggX5_ladder_X2_moment : GoodIn wsX5_ladder wsX2_moment := goodIn_r _ [30, 25, 31, 26, 32, 75, 76, 77, 78, 79, 80, 81, 82, 83, 84] (by decide +kernel) (by decide +kernel)
set_option maxRecDepth 20000 in
theorem gX5_ladder_X2_moment : GoodIn wsX5_ladder (wsV RX5 148 RX2 yX2_moment wsX2_moment) := goodIn_app (goodIn_of _ (by decide +kernel)) ggX5_ladder_X2_moment
set_option maxRecDepth 20000 in
theorem ggX5_ladder_X2_stands : GoodIn wsX5_ladder wsX2_stands := goodIn_r _ [36, 37, 38, 39, 23, 40, 41, 42, 43, 44, 45, 46, 47, 48, 49, 50, 32, 51, 52, 53, 54, 55, 28, 29, 30, 25, 31, 26, 56, 57, 58, 59, 60, 61, 62, 63, 64, 65, 66, 67, 68, 69, 70, 21, 22, 24, 71, 72, 73, 74, 75, 76, 77, 78, 79, 80, 81, 82, 83, 84] (by decide +kernel) (by decide +kernel)
set_option maxRecDepth 20000 in
theorem gX5_ladder_X2_stands : GoodIn wsX5_ladder (wsV RX5 154 RX2 yX2_stands wsX2_stands) := goodIn_app (goodIn_of _ (by decide +kernel)) ggX5_ladder_X2_stands
theorem dX5_ladder_0 : decode cX5_ladder 0 = .ok (.aload_n 0, 1) := by decide +kernel
theorem dX5_ladder_1 : decode cX5_ladder 1 = .ok (.iload_n 1, 1) := by decide +kernel
theorem dX5_ladder_2 : decode cX5_ladder 2 = .ok (.invokevirtual 37, 3) := by decide +kernel
theorem dX5_ladder_5 : decode cX5_ladder 5 = .ok (.astore_n 3, 1) := by decide +kernel
theorem dX5_ladder_6 : decode cX5_ladder 6 = .ok (.iload_n 2, 1) := by decide +kernel
theorem dX5_ladder_7 : decode cX5_ladder 7 = .ok (.tableswitch 120 0 10 #[57, 62, 67, 72, 77, 82, 87, 92, 97, 102, 107], 57) := by decide +kernel
theorem dX5_ladder_64 : decode cX5_ladder 64 = .ok (.aload_n 3, 1) := by decide +kernel
theorem dX5_ladder_65 : decode cX5_ladder 65 = .ok (.getfield 49, 3) := by decide +kernel
theorem dX5_ladder_68 : decode cX5_ladder 68 = .ok (.ireturn, 1) := by decide +kernel
theorem dX5_ladder_69 : decode cX5_ladder 69 = .ok (.aload_n 3, 1) := by decide +kernel
theorem dX5_ladder_70 : decode cX5_ladder 70 = .ok (.getfield 53, 3) := by decide +kernel
theorem dX5_ladder_73 : decode cX5_ladder 73 = .ok (.ireturn, 1) := by decide +kernel
theorem dX5_ladder_74 : decode cX5_ladder 74 = .ok (.aload_n 3, 1) := by decide +kernel
theorem dX5_ladder_75 : decode cX5_ladder 75 = .ok (.getfield 56, 3) := by decide +kernel
theorem dX5_ladder_78 : decode cX5_ladder 78 = .ok (.ireturn, 1) := by decide +kernel
theorem dX5_ladder_79 : decode cX5_ladder 79 = .ok (.aload_n 3, 1) := by decide +kernel
theorem dX5_ladder_80 : decode cX5_ladder 80 = .ok (.getfield 63, 3) := by decide +kernel
theorem dX5_ladder_83 : decode cX5_ladder 83 = .ok (.ireturn, 1) := by decide +kernel
theorem dX5_ladder_84 : decode cX5_ladder 84 = .ok (.aload_n 3, 1) := by decide +kernel
theorem dX5_ladder_85 : decode cX5_ladder 85 = .ok (.getfield 66, 3) := by decide +kernel
theorem dX5_ladder_88 : decode cX5_ladder 88 = .ok (.ireturn, 1) := by decide +kernel
theorem dX5_ladder_89 : decode cX5_ladder 89 = .ok (.aload_n 3, 1) := by decide +kernel
theorem dX5_ladder_90 : decode cX5_ladder 90 = .ok (.getfield 69, 3) := by decide +kernel
theorem dX5_ladder_93 : decode cX5_ladder 93 = .ok (.ireturn, 1) := by decide +kernel
theorem dX5_ladder_94 : decode cX5_ladder 94 = .ok (.aload_n 3, 1) := by decide +kernel
theorem dX5_ladder_95 : decode cX5_ladder 95 = .ok (.getfield 87, 3) := by decide +kernel
theorem dX5_ladder_98 : decode cX5_ladder 98 = .ok (.ireturn, 1) := by decide +kernel
theorem dX5_ladder_99 : decode cX5_ladder 99 = .ok (.aload_n 3, 1) := by decide +kernel
theorem dX5_ladder_100 : decode cX5_ladder 100 = .ok (.invokevirtual 145, 3) := by decide +kernel
theorem dX5_ladder_103 : decode cX5_ladder 103 = .ok (.ireturn, 1) := by decide +kernel
theorem dX5_ladder_104 : decode cX5_ladder 104 = .ok (.aload_n 3, 1) := by decide +kernel
theorem dX5_ladder_105 : decode cX5_ladder 105 = .ok (.invokevirtual 148, 3) := by decide +kernel
theorem dX5_ladder_108 : decode cX5_ladder 108 = .ok (.ireturn, 1) := by decide +kernel
theorem dX5_ladder_109 : decode cX5_ladder 109 = .ok (.aload_n 3, 1) := by decide +kernel
theorem dX5_ladder_110 : decode cX5_ladder 110 = .ok (.getfield 151, 3) := by decide +kernel
theorem dX5_ladder_113 : decode cX5_ladder 113 = .ok (.ireturn, 1) := by decide +kernel
theorem dX5_ladder_114 : decode cX5_ladder 114 = .ok (.aload_n 3, 1) := by decide +kernel
theorem dX5_ladder_115 : decode cX5_ladder 115 = .ok (.invokevirtual 154, 3) := by decide +kernel
theorem dX5_ladder_118 : decode cX5_ladder 118 = .ok (.ifCond .eq 7, 3) := by decide +kernel
theorem dX5_ladder_121 : decode cX5_ladder 121 = .ok (.iconst 1, 1) := by decide +kernel
theorem dX5_ladder_122 : decode cX5_ladder 122 = .ok (.goto 4, 3) := by decide +kernel
theorem dX5_ladder_125 : decode cX5_ladder 125 = .ok (.iconst 0, 1) := by decide +kernel
theorem dX5_ladder_126 : decode cX5_ladder 126 = .ok (.ireturn, 1) := by decide +kernel
theorem dX5_ladder_127 : decode cX5_ladder 127 = .ok (.new 118, 3) := by decide +kernel
theorem dX5_ladder_130 : decode cX5_ladder 130 = .ok (.dup, 1) := by decide +kernel
theorem dX5_ladder_131 : decode cX5_ladder 131 = .ok (.ldc 157, 2) := by decide +kernel
theorem dX5_ladder_133 : decode cX5_ladder 133 = .ok (.invokespecial 122, 3) := by decide +kernel
theorem dX5_ladder_136 : decode cX5_ladder 136 = .ok (.athrow, 1) := by decide +kernel
set_option maxRecDepth 20000 in
theorem ggX5_person_X5_rigOf : GoodIn wsX5_person wsX5_rigOf := goodIn_ca (goodIn_r _ [7, 8, 9, 10, 11, 32, 33, 34, 35, 36, 37, 38] (by decide +kernel) (by decide +kernel)) (goodIn_sub (fun _ h => List.mem_cons_of_mem _ (List.mem_append_right _ h)) (by decide +kernel))
set_option maxRecDepth 20000 in
theorem gX5_person_X5_rigOf : GoodIn wsX5_person (wsV RX5 37 RX5 yX5_rigOf wsX5_rigOf) := goodIn_app (goodIn_of _ (by decide +kernel)) ggX5_person_X5_rigOf
set_option maxRecDepth 20000 in
theorem ggX5_person_X5_demandPerson : GoodIn wsX5_person wsX5_demandPerson := goodIn_ca (goodIn_r _ [14, 8, 9, 15, 16, 17, 18, 19, 20, 39, 40, 41, 42, 43, 44, 45, 46, 47, 48] (by decide +kernel) (by decide +kernel)) (goodIn_sub (fun _ h => List.mem_cons_of_mem _ (List.mem_append_right _ h)) (by decide +kernel))
set_option maxRecDepth 20000 in
theorem gX5_person_X5_demandPerson : GoodIn wsX5_person (va_wsS RX5 90 yX5_demandPerson wsX5_demandPerson) := goodIn_app (goodIn_of _ (by decide +kernel)) ggX5_person_X5_demandPerson
set_option maxRecDepth 20000 in
theorem ggX5_person_X2_weightOf : GoodIn wsX5_person wsX2_weightOf := goodIn_r _ [24, 25, 26, 16, 17, 18, 19, 20, 39, 40, 41, 42, 43, 44, 45, 46, 47, 48] (by decide +kernel) (by decide +kernel)
set_option maxRecDepth 20000 in
theorem gX5_person_X2_weightOf : GoodIn wsX5_person (wsV RX5 159 RX2 yX2_weightOf wsX2_weightOf) := goodIn_app (goodIn_of _ (by decide +kernel)) ggX5_person_X2_weightOf
set_option maxRecDepth 20000 in
theorem ggX5_person_X2_stepOf : GoodIn wsX5_person wsX2_stepOf := goodIn_r _ [30, 31, 26, 16, 17, 18, 19, 20, 39, 40, 41, 42, 43, 44, 45, 46, 47, 48] (by decide +kernel) (by decide +kernel)
set_option maxRecDepth 20000 in
theorem gX5_person_X2_stepOf : GoodIn wsX5_person (wsV RX5 163 RX2 yX2_stepOf wsX2_stepOf) := goodIn_app (goodIn_of _ (by decide +kernel)) ggX5_person_X2_stepOf
theorem dX5_person_0 : decode cX5_person 0 = .ok (.aload_n 0, 1) := by decide +kernel
theorem dX5_person_1 : decode cX5_person 1 = .ok (.iload_n 1, 1) := by decide +kernel
theorem dX5_person_2 : decode cX5_person 2 = .ok (.invokevirtual 37, 3) := by decide +kernel
theorem dX5_person_5 : decode cX5_person 5 = .ok (.astore 4, 2) := by decide +kernel
theorem dX5_person_7 : decode cX5_person 7 = .ok (.aload 4, 2) := by decide +kernel
theorem dX5_person_9 : decode cX5_person 9 = .ok (.iload_n 2, 1) := by decide +kernel
theorem dX5_person_10 : decode cX5_person 10 = .ok (.invokestatic 90, 3) := by decide +kernel
theorem dX5_person_13 : decode cX5_person 13 = .ok (.iload_n 3, 1) := by decide +kernel
theorem dX5_person_14 : decode cX5_person 14 = .ok (.lookupswitch 40 #[(0, 26), (1, 33)], 26) := by decide +kernel
theorem dX5_person_40 : decode cX5_person 40 = .ok (.aload 4, 2) := by decide +kernel
theorem dX5_person_42 : decode cX5_person 42 = .ok (.iload_n 2, 1) := by decide +kernel
theorem dX5_person_43 : decode cX5_person 43 = .ok (.invokevirtual 159, 3) := by decide +kernel
theorem dX5_person_46 : decode cX5_person 46 = .ok (.ireturn, 1) := by decide +kernel
theorem dX5_person_47 : decode cX5_person 47 = .ok (.aload 4, 2) := by decide +kernel
theorem dX5_person_49 : decode cX5_person 49 = .ok (.iload_n 2, 1) := by decide +kernel
theorem dX5_person_50 : decode cX5_person 50 = .ok (.invokevirtual 163, 3) := by decide +kernel
theorem dX5_person_53 : decode cX5_person 53 = .ok (.ireturn, 1) := by decide +kernel
theorem dX5_person_54 : decode cX5_person 54 = .ok (.new 118, 3) := by decide +kernel
theorem dX5_person_57 : decode cX5_person 57 = .ok (.dup, 1) := by decide +kernel
theorem dX5_person_58 : decode cX5_person 58 = .ok (.ldc 166, 2) := by decide +kernel
theorem dX5_person_60 : decode cX5_person 60 = .ok (.invokespecial 122, 3) := by decide +kernel
theorem dX5_person_63 : decode cX5_person 63 = .ok (.athrow, 1) := by decide +kernel
set_option maxRecDepth 20000 in
theorem ggX5_force_X5_rigOf : GoodIn wsX5_force wsX5_rigOf := goodIn_ca (goodIn_r _ [5, 6, 7, 8, 9, 86, 87, 88, 89, 90, 91, 92] (by decide +kernel) (by decide +kernel)) (goodIn_sub (fun _ h => List.mem_cons_of_mem _ (List.mem_append_left _ (List.mem_append_right _ h))) (by decide +kernel))
set_option maxRecDepth 20000 in
theorem gX5_force_X5_rigOf : GoodIn wsX5_force (wsV RX5 37 RX5 yX5_rigOf wsX5_rigOf) := goodIn_app (goodIn_of _ (by decide +kernel)) ggX5_force_X5_rigOf
set_option maxRecDepth 20000 in
theorem ggX5_force_X5_demandRange : GoodIn wsX5_force wsX5_demandRange := goodIn_ca (goodIn_r _ [12, 13, 14] (by decide +kernel) (by decide +kernel)) (goodIn_sub (fun _ h => List.mem_cons_of_mem _ (List.mem_append_right _ h)) (by decide +kernel))
set_option maxRecDepth 20000 in
theorem gX5_force_X5_demandRange : GoodIn wsX5_force (va_wsS RX5 41 yX5_demandRange wsX5_demandRange) := goodIn_app (goodIn_of _ (by decide +kernel)) ggX5_force_X5_demandRange
set_option maxRecDepth 20000 in
theorem ggX5_force_X2_forces : GoodIn wsX5_force wsX2_forces := goodIn_r _ [19, 20, 21, 22, 23, 24, 25, 26, 18, 27, 28, 29, 30, 31, 32, 33, 34, 35, 36, 37, 38, 39, 40, 41, 42, 43, 44, 45, 46, 47, 48, 49, 50, 51, 52, 53, 54, 55, 56, 57, 58, 59, 60, 61, 62, 63, 64, 65, 66, 67, 93, 94, 95, 96, 97, 98, 99, 100, 101, 102] (by decide +kernel) (by decide +kernel)
set_option maxRecDepth 20000 in
theorem gX5_force_X2_forces : GoodIn wsX5_force (wsV RX5 168 RX2 yX2_forces wsX2_forces) := goodIn_app (goodIn_of _ (by decide +kernel)) ggX5_force_X2_forces
set_option maxRecDepth 20000 in
theorem ggX5_force_X2_stands : GoodIn wsX5_force wsX2_stands := goodIn_r _ [71, 46, 47, 48, 18, 49, 20, 21, 22, 23, 50, 51, 52, 53, 34, 28, 29, 30, 31, 32, 33, 35, 36, 37, 38, 39, 40, 41, 42, 43, 44, 45, 54, 55, 56, 57, 58, 59, 60, 61, 62, 63, 64, 65, 66, 67, 24, 25, 26, 27, 93, 94, 95, 96, 97, 98, 99, 100, 101, 102] (by decide +kernel) (by decide +kernel)
set_option maxRecDepth 20000 in
theorem gX5_force_X2_stands : GoodIn wsX5_force (wsV RX5 154 RX2 yX2_stands wsX2_stands) := goodIn_app (goodIn_of _ (by decide +kernel)) ggX5_force_X2_stands
set_option maxRecDepth 20000 in
theorem ggX5_force_X2_leastForce : GoodIn wsX5_force wsX2_leastForce := goodIn_r _ [49, 20, 21, 22, 23, 50, 51, 52, 18, 53, 34, 28, 29, 30, 31, 32, 33, 35, 36, 37, 38, 39, 40, 41, 42, 43, 44, 45, 54, 55, 56, 57, 58, 59, 60, 61, 62, 63, 64, 65, 66, 67, 93, 94, 95, 96, 97, 98, 99, 100, 101, 102] (by decide +kernel) (by decide +kernel)
set_option maxRecDepth 20000 in
theorem gX5_force_X2_leastForce : GoodIn wsX5_force (wsV RX5 171 RX2 yX2_leastForce wsX2_leastForce) := goodIn_app (goodIn_of _ (by decide +kernel)) ggX5_force_X2_leastForce
set_option maxRecDepth 20000 in
theorem ggX5_force_X2_greatestForce : GoodIn wsX5_force wsX2_greatestForce := goodIn_r _ [27, 28, 29, 30, 31, 32, 18, 33, 34, 35, 36, 37, 38, 39, 40, 41, 42, 43, 44, 45, 93, 94, 95, 96, 97, 98, 99, 100, 101, 102] (by decide +kernel) (by decide +kernel)
set_option maxRecDepth 20000 in
theorem gX5_force_X2_greatestForce : GoodIn wsX5_force (wsV RX5 174 RX2 yX2_greatestForce wsX2_greatestForce) := goodIn_app (goodIn_of _ (by decide +kernel)) ggX5_force_X2_greatestForce
set_option maxRecDepth 20000 in
theorem ggX5_force_X2_nearestForce : GoodIn wsX5_force wsX2_nearestForce := goodIn_r _ [77, 78, 79, 22, 80, 20, 21, 23, 46, 47, 48, 18, 49, 50, 51, 52, 53, 34, 28, 29, 30, 31, 32, 33, 35, 36, 37, 38, 39, 40, 41, 42, 43, 44, 45, 54, 55, 56, 57, 58, 59, 60, 61, 62, 63, 64, 65, 66, 67, 24, 25, 26, 27, 93, 94, 95, 96, 97, 98, 99, 100, 101, 102] (by decide +kernel) (by decide +kernel)
set_option maxRecDepth 20000 in
theorem gX5_force_X2_nearestForce : GoodIn wsX5_force (wsV RX5 177 RX2 yX2_nearestForce wsX2_nearestForce) := goodIn_app (goodIn_of _ (by decide +kernel)) ggX5_force_X2_nearestForce
set_option maxRecDepth 20000 in
theorem ggX5_force_X2_push : GoodIn wsX5_force wsX2_push := goodIn_r _ [84, 29, 35, 36, 37, 18, 38, 39, 40, 41, 93, 94, 95, 96, 97, 98, 99, 100, 101, 102] (by decide +kernel) (by decide +kernel)
set_option maxRecDepth 20000 in
theorem gX5_force_X2_push : GoodIn wsX5_force (wsV RX5 180 RX2 yX2_push wsX2_push) := goodIn_app (goodIn_of _ (by decide +kernel)) ggX5_force_X2_push
set_option maxRecDepth 20000 in
theorem ggX5_force_X2_load : GoodIn wsX5_force wsX2_load := goodIn_r _ [67, 39, 41, 93, 94, 95, 96, 97, 98, 99, 100, 101, 102] (by decide +kernel) (by decide +kernel)
set_option maxRecDepth 20000 in
theorem gX5_force_X2_load : GoodIn wsX5_force (wsV RX5 145 RX2 yX2_load wsX2_load) := goodIn_app (goodIn_of _ (by decide +kernel)) ggX5_force_X2_load
theorem dX5_force_0 : decode cX5_force 0 = .ok (.aload_n 0, 1) := by decide +kernel
theorem dX5_force_1 : decode cX5_force 1 = .ok (.iload_n 1, 1) := by decide +kernel
theorem dX5_force_2 : decode cX5_force 2 = .ok (.invokevirtual 37, 3) := by decide +kernel
theorem dX5_force_5 : decode cX5_force 5 = .ok (.astore_n 3, 1) := by decide +kernel
theorem dX5_force_6 : decode cX5_force 6 = .ok (.iload_n 2, 1) := by decide +kernel
theorem dX5_force_7 : decode cX5_force 7 = .ok (.iconst 0, 1) := by decide +kernel
theorem dX5_force_8 : decode cX5_force 8 = .ok (.iconst 5, 1) := by decide +kernel
theorem dX5_force_9 : decode cX5_force 9 = .ok (.invokestatic 41, 3) := by decide +kernel
theorem dX5_force_12 : decode cX5_force 12 = .ok (.iload_n 2, 1) := by decide +kernel
theorem dX5_force_13 : decode cX5_force 13 = .ok (.iconst 2, 1) := by decide +kernel
theorem dX5_force_14 : decode cX5_force 14 = .ok (.if_icmp .ne 8, 3) := by decide +kernel
theorem dX5_force_17 : decode cX5_force 17 = .ok (.aload_n 3, 1) := by decide +kernel
theorem dX5_force_18 : decode cX5_force 18 = .ok (.invokevirtual 168, 3) := by decide +kernel
theorem dX5_force_21 : decode cX5_force 21 = .ok (.ireturn, 1) := by decide +kernel
theorem dX5_force_22 : decode cX5_force 22 = .ok (.aload_n 3, 1) := by decide +kernel
theorem dX5_force_23 : decode cX5_force 23 = .ok (.invokevirtual 154, 3) := by decide +kernel
theorem dX5_force_26 : decode cX5_force 26 = .ok (.ifCond .ne 5, 3) := by decide +kernel
theorem dX5_force_29 : decode cX5_force 29 = .ok (.iconst (-1), 1) := by decide +kernel
theorem dX5_force_30 : decode cX5_force 30 = .ok (.ireturn, 1) := by decide +kernel
theorem dX5_force_31 : decode cX5_force 31 = .ok (.iload_n 2, 1) := by decide +kernel
theorem dX5_force_32 : decode cX5_force 32 = .ok (.tableswitch 72 0 4 #[36, 45, 72, 54, 63], 36) := by decide +kernel
theorem dX5_force_68 : decode cX5_force 68 = .ok (.aload_n 3, 1) := by decide +kernel
theorem dX5_force_69 : decode cX5_force 69 = .ok (.invokevirtual 171, 3) := by decide +kernel
theorem dX5_force_72 : decode cX5_force 72 = .ok (.sipush 1000, 3) := by decide +kernel
theorem dX5_force_75 : decode cX5_force 75 = .ok (.iadd, 1) := by decide +kernel
theorem dX5_force_76 : decode cX5_force 76 = .ok (.ireturn, 1) := by decide +kernel
theorem dX5_force_77 : decode cX5_force 77 = .ok (.aload_n 3, 1) := by decide +kernel
theorem dX5_force_78 : decode cX5_force 78 = .ok (.invokevirtual 174, 3) := by decide +kernel
theorem dX5_force_81 : decode cX5_force 81 = .ok (.sipush 1000, 3) := by decide +kernel
theorem dX5_force_84 : decode cX5_force 84 = .ok (.iadd, 1) := by decide +kernel
theorem dX5_force_85 : decode cX5_force 85 = .ok (.ireturn, 1) := by decide +kernel
theorem dX5_force_86 : decode cX5_force 86 = .ok (.aload_n 3, 1) := by decide +kernel
theorem dX5_force_87 : decode cX5_force 87 = .ok (.invokevirtual 177, 3) := by decide +kernel
theorem dX5_force_90 : decode cX5_force 90 = .ok (.sipush 1000, 3) := by decide +kernel
theorem dX5_force_93 : decode cX5_force 93 = .ok (.iadd, 1) := by decide +kernel
theorem dX5_force_94 : decode cX5_force 94 = .ok (.ireturn, 1) := by decide +kernel
theorem dX5_force_95 : decode cX5_force 95 = .ok (.aload_n 3, 1) := by decide +kernel
theorem dX5_force_96 : decode cX5_force 96 = .ok (.aload_n 3, 1) := by decide +kernel
theorem dX5_force_97 : decode cX5_force 97 = .ok (.invokevirtual 177, 3) := by decide +kernel
theorem dX5_force_100 : decode cX5_force 100 = .ok (.invokevirtual 180, 3) := by decide +kernel
theorem dX5_force_103 : decode cX5_force 103 = .ok (.ireturn, 1) := by decide +kernel
theorem dX5_force_104 : decode cX5_force 104 = .ok (.aload_n 3, 1) := by decide +kernel
theorem dX5_force_105 : decode cX5_force 105 = .ok (.invokevirtual 145, 3) := by decide +kernel
theorem dX5_force_108 : decode cX5_force 108 = .ok (.aload_n 3, 1) := by decide +kernel
theorem dX5_force_109 : decode cX5_force 109 = .ok (.invokevirtual 177, 3) := by decide +kernel
theorem dX5_force_112 : decode cX5_force 112 = .ok (.isub, 1) := by decide +kernel
theorem dX5_force_113 : decode cX5_force 113 = .ok (.ireturn, 1) := by decide +kernel
set_option maxRecDepth 20000 in
theorem ggX5_held_X5_rigOf : GoodIn wsX5_held wsX5_rigOf := goodIn_ca (goodIn_r _ [5, 6, 7, 8, 9, 52, 53, 54, 55, 56, 57, 58] (by decide +kernel) (by decide +kernel)) (goodIn_sub (fun _ h => List.mem_cons_of_mem _ (List.mem_append_left _ (List.mem_append_right _ h))) (by decide +kernel))
set_option maxRecDepth 20000 in
theorem gX5_held_X5_rigOf : GoodIn wsX5_held (wsV RX5 37 RX5 yX5_rigOf wsX5_rigOf) := goodIn_app (goodIn_of _ (by decide +kernel)) ggX5_held_X5_rigOf
set_option maxRecDepth 20000 in
theorem ggX5_held_X5_demandRange : GoodIn wsX5_held wsX5_demandRange := goodIn_ca (goodIn_r _ [12, 13, 14] (by decide +kernel) (by decide +kernel)) (goodIn_sub (fun _ h => List.mem_cons_of_mem _ (List.mem_append_right _ h)) (by decide +kernel))
set_option maxRecDepth 20000 in
theorem gX5_held_X5_demandRange : GoodIn wsX5_held (va_wsS RX5 41 yX5_demandRange wsX5_demandRange) := goodIn_app (goodIn_of _ (by decide +kernel)) ggX5_held_X5_demandRange
set_option maxRecDepth 20000 in
theorem ggX5_held_X2_whatGivesWay : GoodIn wsX5_held wsX2_whatGivesWay := goodIn_r _ [19, 20, 21, 22, 23, 24, 25, 26, 27, 28, 29, 18, 30, 31, 32, 33, 34, 35, 36, 37, 38, 39, 40, 41, 42, 43, 44, 45, 46, 47, 48, 49, 50, 51, 59, 60, 61, 62, 63, 64, 65, 66, 67, 68] (by decide +kernel) (by decide +kernel)
set_option maxRecDepth 20000 in
theorem gX5_held_X2_whatGivesWay : GoodIn wsX5_held (wsV RX5 183 RX2 yX2_whatGivesWay wsX2_whatGivesWay) := goodIn_app (goodIn_of _ (by decide +kernel)) ggX5_held_X2_whatGivesWay
theorem dX5_held_0 : decode cX5_held 0 = .ok (.aload_n 0, 1) := by decide +kernel
theorem dX5_held_1 : decode cX5_held 1 = .ok (.iload_n 1, 1) := by decide +kernel
theorem dX5_held_2 : decode cX5_held 2 = .ok (.invokevirtual 37, 3) := by decide +kernel
theorem dX5_held_5 : decode cX5_held 5 = .ok (.astore_n 3, 1) := by decide +kernel
theorem dX5_held_6 : decode cX5_held 6 = .ok (.iload_n 2, 1) := by decide +kernel
theorem dX5_held_7 : decode cX5_held 7 = .ok (.sipush (-1000), 3) := by decide +kernel
theorem dX5_held_10 : decode cX5_held 10 = .ok (.sipush 1000, 3) := by decide +kernel
theorem dX5_held_13 : decode cX5_held 13 = .ok (.invokestatic 41, 3) := by decide +kernel
theorem dX5_held_16 : decode cX5_held 16 = .ok (.aload_n 3, 1) := by decide +kernel
theorem dX5_held_17 : decode cX5_held 17 = .ok (.iload_n 2, 1) := by decide +kernel
theorem dX5_held_18 : decode cX5_held 18 = .ok (.invokevirtual 183, 3) := by decide +kernel
theorem dX5_held_21 : decode cX5_held 21 = .ok (.ireturn, 1) := by decide +kernel
set_option maxRecDepth 20000 in
theorem ggX5_count_X3_standing : GoodIn wsX5_count wsX3_standing := goodIn_r _ [12, 13, 14, 15, 16, 17, 18, 19, 20, 21, 22, 23, 24, 25, 26, 27, 28, 29, 30, 31, 32, 33, 34, 35, 36, 37, 38, 39, 40, 41, 42, 43, 44, 45, 46, 47, 48, 49, 50, 51, 52, 53, 54, 55, 56, 57, 58, 59, 60, 61, 62, 63, 64, 65, 66, 81, 82, 83, 87, 88, 89, 90, 91, 92, 93, 94, 95, 96] (by decide +kernel) (by decide +kernel)
set_option maxRecDepth 20000 in
theorem gX5_count_X3_standing : GoodIn wsX5_count (wsV RX5 186 RX3 yX3_standing wsX3_standing) := goodIn_app (goodIn_of _ (by decide +kernel)) ggX5_count_X3_standing
set_option maxRecDepth 20000 in
theorem ggX5_count_X3_people : GoodIn wsX5_count wsX3_people := goodIn_r _ [70, 13, 71, 81, 82, 83, 87, 88, 89, 90, 91, 92, 93, 94, 95, 96] (by decide +kernel) (by decide +kernel)
set_option maxRecDepth 20000 in
theorem gX5_count_X3_people : GoodIn wsX5_count (wsV RX5 189 RX3 yX3_people wsX3_people) := goodIn_app (goodIn_of _ (by decide +kernel)) ggX5_count_X3_people
set_option maxRecDepth 20000 in
theorem ggX5_count_X3_falls : GoodIn wsX5_count wsX3_falls := goodIn_r _ [75, 13, 76, 81, 82, 83, 87, 88, 89, 90, 91, 92, 93, 94, 95, 96] (by decide +kernel) (by decide +kernel)
set_option maxRecDepth 20000 in
theorem gX5_count_X3_falls : GoodIn wsX5_count (wsV RX5 191 RX3 yX3_falls wsX3_falls) := goodIn_app (goodIn_of _ (by decide +kernel)) ggX5_count_X3_falls
theorem dX5_count_0 : decode cX5_count 0 = .ok (.iload_n 1, 1) := by decide +kernel
theorem dX5_count_1 : decode cX5_count 1 = .ok (.tableswitch 87 0 5 #[39, 47, 55, 63, 71, 79], 39) := by decide +kernel
theorem dX5_count_40 : decode cX5_count 40 = .ok (.aload_n 0, 1) := by decide +kernel
theorem dX5_count_41 : decode cX5_count 41 = .ok (.getfield 10, 3) := by decide +kernel
theorem dX5_count_44 : decode cX5_count 44 = .ok (.invokevirtual 186, 3) := by decide +kernel
theorem dX5_count_47 : decode cX5_count 47 = .ok (.ireturn, 1) := by decide +kernel
theorem dX5_count_48 : decode cX5_count 48 = .ok (.aload_n 0, 1) := by decide +kernel
theorem dX5_count_49 : decode cX5_count 49 = .ok (.getfield 10, 3) := by decide +kernel
theorem dX5_count_52 : decode cX5_count 52 = .ok (.invokevirtual 189, 3) := by decide +kernel
theorem dX5_count_55 : decode cX5_count 55 = .ok (.ireturn, 1) := by decide +kernel
theorem dX5_count_56 : decode cX5_count 56 = .ok (.aload_n 0, 1) := by decide +kernel
theorem dX5_count_57 : decode cX5_count 57 = .ok (.getfield 10, 3) := by decide +kernel
theorem dX5_count_60 : decode cX5_count 60 = .ok (.invokevirtual 191, 3) := by decide +kernel
theorem dX5_count_63 : decode cX5_count 63 = .ok (.ireturn, 1) := by decide +kernel
theorem dX5_count_64 : decode cX5_count 64 = .ok (.aload_n 0, 1) := by decide +kernel
theorem dX5_count_65 : decode cX5_count 65 = .ok (.getfield 10, 3) := by decide +kernel
theorem dX5_count_68 : decode cX5_count 68 = .ok (.getfield 193, 3) := by decide +kernel
theorem dX5_count_71 : decode cX5_count 71 = .ok (.ireturn, 1) := by decide +kernel
theorem dX5_count_72 : decode cX5_count 72 = .ok (.aload_n 0, 1) := by decide +kernel
theorem dX5_count_73 : decode cX5_count 73 = .ok (.getfield 10, 3) := by decide +kernel
theorem dX5_count_76 : decode cX5_count 76 = .ok (.getfield 196, 3) := by decide +kernel
theorem dX5_count_79 : decode cX5_count 79 = .ok (.ireturn, 1) := by decide +kernel
theorem dX5_count_80 : decode cX5_count 80 = .ok (.aload_n 0, 1) := by decide +kernel
theorem dX5_count_81 : decode cX5_count 81 = .ok (.getfield 19, 3) := by decide +kernel
theorem dX5_count_84 : decode cX5_count 84 = .ok (.getfield 137, 3) := by decide +kernel
theorem dX5_count_87 : decode cX5_count 87 = .ok (.ireturn, 1) := by decide +kernel
theorem dX5_count_88 : decode cX5_count 88 = .ok (.new 118, 3) := by decide +kernel
theorem dX5_count_91 : decode cX5_count 91 = .ok (.dup, 1) := by decide +kernel
theorem dX5_count_92 : decode cX5_count 92 = .ok (.ldc 199, 2) := by decide +kernel
theorem dX5_count_94 : decode cX5_count 94 = .ok (.invokespecial 122, 3) := by decide +kernel
theorem dX5_count_97 : decode cX5_count 97 = .ok (.athrow, 1) := by decide +kernel
set_option maxRecDepth 20000 in
theorem ggX5_highest_X5_rigOf : GoodIn wsX5_highest wsX5_rigOf := goodIn_ca (goodIn_r _ [6, 7, 8, 9, 10, 86, 87, 88, 89, 90, 91, 92] (by decide +kernel) (by decide +kernel)) (goodIn_sub (fun _ h => List.mem_cons_of_mem _ (List.mem_append_right _ h)) (by decide +kernel))
set_option maxRecDepth 20000 in
theorem gX5_highest_X5_rigOf : GoodIn wsX5_highest (wsV RX5 37 RX5 yX5_rigOf wsX5_rigOf) := goodIn_app (goodIn_of _ (by decide +kernel)) ggX5_highest_X5_rigOf
