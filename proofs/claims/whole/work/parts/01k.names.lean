set_option maxRecDepth 20000 in
theorem ggL_put_X5_put : GoodIn wsL_put wsX5_put := goodIn_ca (goodIn_ca (goodIn_r _ [7, 8, 9, 10, 11, 12, 13, 14, 15, 6, 16, 17, 18, 19, 20, 21, 22, 23, 24, 25, 26, 27, 28, 29, 30, 31, 32, 33, 34, 35, 36, 37, 38, 39, 40, 41, 42, 43, 44, 45, 46, 47, 48, 49, 50, 51, 52, 53, 54, 55, 56, 57, 58, 59, 60, 61, 62, 63, 64, 65, 66, 67, 68, 69, 70, 71, 72, 73, 74, 75, 76, 77, 78, 79, 80, 81, 82, 83, 84, 85, 86, 87, 88, 89, 90, 91, 92, 93, 94, 95, 96, 97, 98, 99, 100, 101, 102, 103, 104, 105, 106, 107, 108, 109, 110, 111, 112, 113, 114, 115, 116, 117, 118, 119, 120, 121, 122, 123, 124, 125, 126, 127, 128, 129, 130, 131, 132, 133, 134, 135, 136] (by decide +kernel) (by decide +kernel)) (goodIn_sub (fun _ h => List.mem_cons_of_mem _ (List.mem_append_left _ (List.mem_append_right _ h))) (by decide +kernel))) (goodIn_sub (fun _ h => List.mem_cons_of_mem _ (List.mem_append_right _ h)) (by decide +kernel))
set_option maxRecDepth 20000 in
theorem gL_put_X5_put : GoodIn wsL_put (wsV RL 7 RX5 yX5_put wsX5_put) := goodIn_app (goodIn_of _ (by decide +kernel)) ggL_put_X5_put
theorem dL_put_0 : decode cL_put 0 = .ok (.aload 5, 2) := by decide +kernel
theorem dL_put_2 : decode cL_put 2 = .ok (.iconst 0, 1) := by decide +kernel
theorem dL_put_3 : decode cL_put 3 = .ok (.aload_n 0, 1) := by decide +kernel
theorem dL_put_4 : decode cL_put 4 = .ok (.iload_n 1, 1) := by decide +kernel
theorem dL_put_5 : decode cL_put 5 = .ok (.iload_n 2, 1) := by decide +kernel
theorem dL_put_6 : decode cL_put 6 = .ok (.iload_n 3, 1) := by decide +kernel
theorem dL_put_7 : decode cL_put 7 = .ok (.iload 4, 2) := by decide +kernel
theorem dL_put_9 : decode cL_put 9 = .ok (.invokevirtual 7, 3) := by decide +kernel
theorem dL_put_12 : decode cL_put 12 = .ok (.i2l, 1) := by decide +kernel
theorem dL_put_13 : decode cL_put 13 = .ok (.lastore, 1) := by decide +kernel
theorem dL_put_14 : decode cL_put 14 = .ok (.goto 11, 3) := by decide +kernel
theorem dL_put_17 : decode cL_put 17 = .ok (.astore 6, 2) := by decide +kernel
theorem dL_put_19 : decode cL_put 19 = .ok (.iconst 1, 1) := by decide +kernel
theorem dL_put_20 : decode cL_put 20 = .ok (.ireturn, 1) := by decide +kernel
theorem dL_put_21 : decode cL_put 21 = .ok (.astore 6, 2) := by decide +kernel
theorem dL_put_23 : decode cL_put 23 = .ok (.iconst 2, 1) := by decide +kernel
theorem dL_put_24 : decode cL_put 24 = .ok (.ireturn, 1) := by decide +kernel
theorem dL_put_25 : decode cL_put 25 = .ok (.iconst 0, 1) := by decide +kernel
theorem dL_put_26 : decode cL_put 26 = .ok (.ireturn, 1) := by decide +kernel
set_option maxRecDepth 20000 in
theorem ggL_kinds_X5_kinds : GoodIn wsL_kinds wsX5_kinds := goodIn_ca (goodIn_ca (goodIn_r _ [7, 8, 9, 10, 11, 12, 13, 14, 6, 15, 16, 17, 18, 19, 20, 21, 22, 23, 24, 25, 26, 27, 28, 29, 30, 31, 32, 33, 34, 35, 36, 37, 38, 39, 40, 41, 42, 43, 44, 45, 46, 47, 48, 49, 50, 51, 52, 53, 54, 55, 56, 57, 58, 59, 60, 61, 62, 63, 64, 65, 66, 67, 68, 69, 70, 71, 72, 73, 74, 75, 76, 77, 78, 79, 80, 81, 82, 83, 84, 85, 86, 87, 88, 89, 90, 91, 92, 93, 94, 95, 96, 97, 98, 99, 100, 101, 102, 103, 104, 105, 106, 107, 108, 109, 110, 111, 112, 113, 114, 115, 116, 117, 118, 119, 120, 121, 122, 123, 124, 125, 126, 127, 128, 129, 130, 131, 132, 133, 134, 135] (by decide +kernel) (by decide +kernel)) (goodIn_sub (fun _ h => List.mem_cons_of_mem _ (List.mem_append_left _ (List.mem_append_right _ h))) (by decide +kernel))) (goodIn_sub (fun _ h => List.mem_cons_of_mem _ (List.mem_append_right _ h)) (by decide +kernel))
set_option maxRecDepth 20000 in
theorem gL_kinds_X5_kinds : GoodIn wsL_kinds (wsV RL 17 RX5 yX5_kinds wsX5_kinds) := goodIn_app (goodIn_of _ (by decide +kernel)) ggL_kinds_X5_kinds
theorem dL_kinds_0 : decode cL_kinds 0 = .ok (.aload 4, 2) := by decide +kernel
theorem dL_kinds_2 : decode cL_kinds 2 = .ok (.iconst 0, 1) := by decide +kernel
theorem dL_kinds_3 : decode cL_kinds 3 = .ok (.aload_n 0, 1) := by decide +kernel
theorem dL_kinds_4 : decode cL_kinds 4 = .ok (.iload_n 1, 1) := by decide +kernel
theorem dL_kinds_5 : decode cL_kinds 5 = .ok (.iload_n 2, 1) := by decide +kernel
theorem dL_kinds_6 : decode cL_kinds 6 = .ok (.iload_n 3, 1) := by decide +kernel
theorem dL_kinds_7 : decode cL_kinds 7 = .ok (.invokevirtual 17, 3) := by decide +kernel
theorem dL_kinds_10 : decode cL_kinds 10 = .ok (.i2l, 1) := by decide +kernel
theorem dL_kinds_11 : decode cL_kinds 11 = .ok (.lastore, 1) := by decide +kernel
theorem dL_kinds_12 : decode cL_kinds 12 = .ok (.goto 11, 3) := by decide +kernel
theorem dL_kinds_15 : decode cL_kinds 15 = .ok (.astore 5, 2) := by decide +kernel
theorem dL_kinds_17 : decode cL_kinds 17 = .ok (.iconst 1, 1) := by decide +kernel
theorem dL_kinds_18 : decode cL_kinds 18 = .ok (.ireturn, 1) := by decide +kernel
theorem dL_kinds_19 : decode cL_kinds 19 = .ok (.astore 5, 2) := by decide +kernel
theorem dL_kinds_21 : decode cL_kinds 21 = .ok (.iconst 2, 1) := by decide +kernel
theorem dL_kinds_22 : decode cL_kinds 22 = .ok (.ireturn, 1) := by decide +kernel
theorem dL_kinds_23 : decode cL_kinds 23 = .ok (.iconst 0, 1) := by decide +kernel
theorem dL_kinds_24 : decode cL_kinds 24 = .ok (.ireturn, 1) := by decide +kernel
set_option maxRecDepth 20000 in
theorem ggL_rope_X5_rope : GoodIn wsL_rope wsX5_rope := goodIn_ca (goodIn_ca (goodIn_r _ [7, 8, 9, 10, 11, 12, 13, 6, 14, 15, 16, 17, 18, 19, 20, 21, 22, 23, 24, 25, 26, 27, 28, 29, 30, 31, 32, 33, 34, 35, 36, 37, 38, 39, 40, 41, 42, 43, 44, 45, 46, 47, 48, 49, 50, 51, 52, 53, 54, 55, 56, 57, 58, 59, 60, 61, 62, 63, 64, 65, 66, 67, 68, 69, 70, 71, 72, 73, 74, 75, 76, 77, 78, 79, 80, 81, 82, 83, 84, 85, 86, 87, 88, 89, 90, 91, 92, 93, 94, 95, 96, 97, 98, 99, 100, 101, 102, 103, 104, 105, 106, 107, 108, 109, 110, 111, 112, 113, 114, 115, 116, 117, 118, 119, 120, 121, 122, 123, 124, 125, 126, 127, 128, 129, 130, 131, 132, 133, 134] (by decide +kernel) (by decide +kernel)) (goodIn_sub (fun _ h => List.mem_cons_of_mem _ (List.mem_append_left _ (List.mem_append_right _ h))) (by decide +kernel))) (goodIn_sub (fun _ h => List.mem_cons_of_mem _ (List.mem_append_right _ h)) (by decide +kernel))
set_option maxRecDepth 20000 in
theorem gL_rope_X5_rope : GoodIn wsL_rope (wsV RL 21 RX5 yX5_rope wsX5_rope) := goodIn_app (goodIn_of _ (by decide +kernel)) ggL_rope_X5_rope
theorem dL_rope_0 : decode cL_rope 0 = .ok (.aload_n 3, 1) := by decide +kernel
theorem dL_rope_1 : decode cL_rope 1 = .ok (.iconst 0, 1) := by decide +kernel
theorem dL_rope_2 : decode cL_rope 2 = .ok (.aload_n 0, 1) := by decide +kernel
theorem dL_rope_3 : decode cL_rope 3 = .ok (.iload_n 1, 1) := by decide +kernel
theorem dL_rope_4 : decode cL_rope 4 = .ok (.iload_n 2, 1) := by decide +kernel
theorem dL_rope_5 : decode cL_rope 5 = .ok (.invokevirtual 21, 3) := by decide +kernel
theorem dL_rope_8 : decode cL_rope 8 = .ok (.i2l, 1) := by decide +kernel
theorem dL_rope_9 : decode cL_rope 9 = .ok (.lastore, 1) := by decide +kernel
theorem dL_rope_10 : decode cL_rope 10 = .ok (.goto 11, 3) := by decide +kernel
theorem dL_rope_13 : decode cL_rope 13 = .ok (.astore 4, 2) := by decide +kernel
theorem dL_rope_15 : decode cL_rope 15 = .ok (.iconst 1, 1) := by decide +kernel
theorem dL_rope_16 : decode cL_rope 16 = .ok (.ireturn, 1) := by decide +kernel
theorem dL_rope_17 : decode cL_rope 17 = .ok (.astore 4, 2) := by decide +kernel
theorem dL_rope_19 : decode cL_rope 19 = .ok (.iconst 2, 1) := by decide +kernel
theorem dL_rope_20 : decode cL_rope 20 = .ok (.ireturn, 1) := by decide +kernel
theorem dL_rope_21 : decode cL_rope 21 = .ok (.iconst 0, 1) := by decide +kernel
theorem dL_rope_22 : decode cL_rope 22 = .ok (.ireturn, 1) := by decide +kernel
set_option maxRecDepth 20000 in
theorem ggL_on_X5_on : GoodIn wsL_on wsX5_on := goodIn_ca (goodIn_ca (goodIn_ca (goodIn_r _ [8, 9, 10, 11, 12, 13, 14, 15, 16, 7, 17, 18, 19, 20, 21, 22, 23, 24, 25, 26, 27, 28, 29, 30, 31, 32, 33, 34, 35, 36, 37, 38, 39, 40, 41, 42, 43, 44, 45, 46, 47, 48, 49, 50, 51, 52, 53, 54, 55, 56, 57, 58, 59, 60, 61, 62, 63, 64, 65, 66, 67, 68, 69, 70, 71, 72, 73, 74, 75, 76, 77, 78, 79, 80, 81, 82, 83, 84, 85, 86, 87, 88, 89, 90, 91, 92, 93, 94, 95, 96, 97, 98, 99, 100, 101, 102, 103, 104, 105, 106, 107, 108, 109, 110, 111, 112, 113, 114, 115, 116, 117, 118, 119, 120, 121, 122, 123, 124, 125, 126, 127, 128, 129, 130, 131, 132, 133, 134, 135, 136, 137, 138, 139, 140, 141, 142, 143, 144, 145] (by decide +kernel) (by decide +kernel)) (goodIn_sub (fun _ h => List.mem_cons_of_mem _ (List.mem_append_left _ (List.mem_append_left _ (List.mem_append_right _ h)))) (by decide +kernel))) (goodIn_sub (fun _ h => List.mem_cons_of_mem _ (List.mem_append_left _ (List.mem_append_right _ h))) (by decide +kernel))) (goodIn_sub (fun _ h => List.mem_cons_of_mem _ (List.mem_append_right _ h)) (by decide +kernel))
set_option maxRecDepth 20000 in
theorem gL_on_X5_on : GoodIn wsL_on (wsV RL 25 RX5 yX5_on wsX5_on) := goodIn_app (goodIn_of _ (by decide +kernel)) ggL_on_X5_on
theorem dL_on_0 : decode cL_on 0 = .ok (.aload_n 3, 1) := by decide +kernel
theorem dL_on_1 : decode cL_on 1 = .ok (.iconst 0, 1) := by decide +kernel
theorem dL_on_2 : decode cL_on 2 = .ok (.aload_n 0, 1) := by decide +kernel
theorem dL_on_3 : decode cL_on 3 = .ok (.iload_n 1, 1) := by decide +kernel
theorem dL_on_4 : decode cL_on 4 = .ok (.iload_n 2, 1) := by decide +kernel
theorem dL_on_5 : decode cL_on 5 = .ok (.invokevirtual 25, 3) := by decide +kernel
theorem dL_on_8 : decode cL_on 8 = .ok (.i2l, 1) := by decide +kernel
theorem dL_on_9 : decode cL_on 9 = .ok (.lastore, 1) := by decide +kernel
theorem dL_on_10 : decode cL_on 10 = .ok (.goto 15, 3) := by decide +kernel
theorem dL_on_13 : decode cL_on 13 = .ok (.astore 4, 2) := by decide +kernel
theorem dL_on_15 : decode cL_on 15 = .ok (.iconst 1, 1) := by decide +kernel
theorem dL_on_16 : decode cL_on 16 = .ok (.ireturn, 1) := by decide +kernel
theorem dL_on_17 : decode cL_on 17 = .ok (.astore 4, 2) := by decide +kernel
theorem dL_on_19 : decode cL_on 19 = .ok (.iconst 2, 1) := by decide +kernel
theorem dL_on_20 : decode cL_on 20 = .ok (.ireturn, 1) := by decide +kernel
theorem dL_on_21 : decode cL_on 21 = .ok (.astore 4, 2) := by decide +kernel
theorem dL_on_23 : decode cL_on 23 = .ok (.iconst 3, 1) := by decide +kernel
theorem dL_on_24 : decode cL_on 24 = .ok (.ireturn, 1) := by decide +kernel
theorem dL_on_25 : decode cL_on 25 = .ok (.iconst 0, 1) := by decide +kernel
theorem dL_on_26 : decode cL_on 26 = .ok (.ireturn, 1) := by decide +kernel
set_option maxRecDepth 20000 in
theorem ggL_off_X5_off : GoodIn wsL_off wsX5_off := goodIn_ca (goodIn_r _ [6, 7, 8, 9, 10, 11, 12, 5, 13, 14, 15, 16, 17, 18, 19, 20, 21, 22, 23, 24, 25, 26, 27, 28, 29, 30, 31, 32, 33, 34, 35, 36, 37, 38, 39, 40, 41, 42, 43, 44, 45, 46, 47, 48, 49, 50, 51, 52, 53, 54, 55, 56, 57, 58, 59, 60, 61, 62, 63, 64, 65, 66, 67, 68, 69, 70, 71, 72, 73, 74, 75, 76, 77, 78, 79, 80, 81, 82, 83, 84, 85, 86, 87, 88, 89, 90, 91, 92, 93, 94, 95, 96, 97, 98, 99, 100, 101, 102, 103, 104, 105, 106, 107, 108, 109, 110, 111, 112, 113, 114, 115, 116, 117, 118, 119, 120, 121, 122, 123, 124, 125, 126, 127, 128, 129, 130, 131, 132, 133, 134, 135, 136, 137, 138, 139, 140] (by decide +kernel) (by decide +kernel)) (goodIn_sub (fun _ h => List.mem_cons_of_mem _ (List.mem_append_right _ h)) (by decide +kernel))
set_option maxRecDepth 20000 in
theorem gL_off_X5_off : GoodIn wsL_off (wsV RL 30 RX5 yX5_off wsX5_off) := goodIn_app (goodIn_of _ (by decide +kernel)) ggL_off_X5_off
theorem dL_off_0 : decode cL_off 0 = .ok (.aload_n 3, 1) := by decide +kernel
theorem dL_off_1 : decode cL_off 1 = .ok (.iconst 0, 1) := by decide +kernel
theorem dL_off_2 : decode cL_off 2 = .ok (.aload_n 0, 1) := by decide +kernel
theorem dL_off_3 : decode cL_off 3 = .ok (.iload_n 1, 1) := by decide +kernel
theorem dL_off_4 : decode cL_off 4 = .ok (.iload_n 2, 1) := by decide +kernel
theorem dL_off_5 : decode cL_off 5 = .ok (.invokevirtual 30, 3) := by decide +kernel
theorem dL_off_8 : decode cL_off 8 = .ok (.i2l, 1) := by decide +kernel
theorem dL_off_9 : decode cL_off 9 = .ok (.lastore, 1) := by decide +kernel
theorem dL_off_10 : decode cL_off 10 = .ok (.goto 7, 3) := by decide +kernel
theorem dL_off_13 : decode cL_off 13 = .ok (.astore 4, 2) := by decide +kernel
theorem dL_off_15 : decode cL_off 15 = .ok (.iconst 1, 1) := by decide +kernel
theorem dL_off_16 : decode cL_off 16 = .ok (.ireturn, 1) := by decide +kernel
theorem dL_off_17 : decode cL_off 17 = .ok (.iconst 0, 1) := by decide +kernel
theorem dL_off_18 : decode cL_off 18 = .ok (.ireturn, 1) := by decide +kernel
set_option maxRecDepth 20000 in
theorem ggL_climb_X5_climb : GoodIn wsL_climb wsX5_climb := goodIn_ca (goodIn_ca (goodIn_r _ [7, 8, 9, 10, 11, 12, 6, 13, 14, 15, 16, 17, 18, 19, 20, 21, 22, 23, 24, 25, 26, 27, 28, 29, 30, 31, 32, 33, 34, 35, 36, 37, 38, 39, 40, 41, 42, 43, 44, 45, 46, 47, 48, 49, 50, 51, 52, 53, 54, 55, 56, 57, 58, 59, 60, 61, 62, 63, 64, 65, 66, 67, 68, 69, 70, 71, 72, 73, 74, 75, 76, 77, 78, 79, 80, 81, 82, 83, 84, 85, 86, 87, 88, 89, 90, 91, 92, 93, 94, 95, 96, 97, 98, 99, 100, 101, 102, 103, 104, 105, 106, 107, 108, 109, 110, 111, 112, 113, 114, 115, 116, 117, 118, 119, 120, 121, 122, 123, 124, 125, 126, 127, 128, 129, 130, 131, 132, 133, 134, 135, 136, 137, 138, 139, 140, 141, 142, 143, 144, 145, 146, 147, 148, 149, 150, 151, 152] (by decide +kernel) (by decide +kernel)) (goodIn_sub (fun _ h => List.mem_cons_of_mem _ (List.mem_append_left _ (List.mem_append_right _ h))) (by decide +kernel))) (goodIn_sub (fun _ h => List.mem_cons_of_mem _ (List.mem_append_right _ h)) (by decide +kernel))
set_option maxRecDepth 20000 in
theorem gL_climb_X5_climb : GoodIn wsL_climb (wsV RL 33 RX5 yX5_climb wsX5_climb) := goodIn_app (goodIn_of _ (by decide +kernel)) ggL_climb_X5_climb
theorem dL_climb_0 : decode cL_climb 0 = .ok (.aload 4, 2) := by decide +kernel
theorem dL_climb_2 : decode cL_climb 2 = .ok (.iconst 0, 1) := by decide +kernel
theorem dL_climb_3 : decode cL_climb 3 = .ok (.aload_n 0, 1) := by decide +kernel
theorem dL_climb_4 : decode cL_climb 4 = .ok (.iload_n 1, 1) := by decide +kernel
theorem dL_climb_5 : decode cL_climb 5 = .ok (.iload_n 2, 1) := by decide +kernel
theorem dL_climb_6 : decode cL_climb 6 = .ok (.iload_n 3, 1) := by decide +kernel
theorem dL_climb_7 : decode cL_climb 7 = .ok (.invokevirtual 33, 3) := by decide +kernel
theorem dL_climb_10 : decode cL_climb 10 = .ok (.i2l, 1) := by decide +kernel
theorem dL_climb_11 : decode cL_climb 11 = .ok (.lastore, 1) := by decide +kernel
theorem dL_climb_12 : decode cL_climb 12 = .ok (.goto 11, 3) := by decide +kernel
theorem dL_climb_15 : decode cL_climb 15 = .ok (.astore 5, 2) := by decide +kernel
theorem dL_climb_17 : decode cL_climb 17 = .ok (.iconst 1, 1) := by decide +kernel
theorem dL_climb_18 : decode cL_climb 18 = .ok (.ireturn, 1) := by decide +kernel
theorem dL_climb_19 : decode cL_climb 19 = .ok (.astore 5, 2) := by decide +kernel
theorem dL_climb_21 : decode cL_climb 21 = .ok (.iconst 2, 1) := by decide +kernel
theorem dL_climb_22 : decode cL_climb 22 = .ok (.ireturn, 1) := by decide +kernel
theorem dL_climb_23 : decode cL_climb 23 = .ok (.iconst 0, 1) := by decide +kernel
theorem dL_climb_24 : decode cL_climb 24 = .ok (.ireturn, 1) := by decide +kernel
set_option maxRecDepth 20000 in
theorem ggL_append_X5_append : GoodIn wsL_append wsX5_append := goodIn_ca (goodIn_ca (goodIn_r _ [7, 8, 9, 10, 11, 12, 13, 6, 14, 15, 16, 17, 18, 19, 20, 21, 22, 23, 24, 25, 26, 27, 28, 29, 30, 31, 32, 33, 34, 35] (by decide +kernel) (by decide +kernel)) (goodIn_sub (fun _ h => List.mem_cons_of_mem _ (List.mem_append_left _ (List.mem_append_right _ h))) (by decide +kernel))) (goodIn_sub (fun _ h => List.mem_cons_of_mem _ (List.mem_append_right _ h)) (by decide +kernel))
set_option maxRecDepth 20000 in
theorem gL_append_X5_append : GoodIn wsL_append (wsV RL 36 RX5 yX5_append wsX5_append) := goodIn_app (goodIn_of _ (by decide +kernel)) ggL_append_X5_append
theorem dL_append_0 : decode cL_append 0 = .ok (.aload_n 2, 1) := by decide +kernel
theorem dL_append_1 : decode cL_append 1 = .ok (.iconst 0, 1) := by decide +kernel
theorem dL_append_2 : decode cL_append 2 = .ok (.aload_n 0, 1) := by decide +kernel
theorem dL_append_3 : decode cL_append 3 = .ok (.iload_n 1, 1) := by decide +kernel
theorem dL_append_4 : decode cL_append 4 = .ok (.invokevirtual 36, 3) := by decide +kernel
theorem dL_append_7 : decode cL_append 7 = .ok (.i2l, 1) := by decide +kernel
theorem dL_append_8 : decode cL_append 8 = .ok (.lastore, 1) := by decide +kernel
theorem dL_append_9 : decode cL_append 9 = .ok (.goto 9, 3) := by decide +kernel
theorem dL_append_12 : decode cL_append 12 = .ok (.astore_n 3, 1) := by decide +kernel
theorem dL_append_13 : decode cL_append 13 = .ok (.iconst 1, 1) := by decide +kernel
theorem dL_append_14 : decode cL_append 14 = .ok (.ireturn, 1) := by decide +kernel
theorem dL_append_15 : decode cL_append 15 = .ok (.astore_n 3, 1) := by decide +kernel
theorem dL_append_16 : decode cL_append 16 = .ok (.iconst 2, 1) := by decide +kernel
theorem dL_append_17 : decode cL_append 17 = .ok (.ireturn, 1) := by decide +kernel
theorem dL_append_18 : decode cL_append 18 = .ok (.iconst 0, 1) := by decide +kernel
theorem dL_append_19 : decode cL_append 19 = .ok (.ireturn, 1) := by decide +kernel
set_option maxRecDepth 20000 in
theorem ggL_play_X5_play : GoodIn wsL_play wsX5_play := goodIn_ca (goodIn_ca (goodIn_r _ [6, 7, 8, 9, 10, 11, 12, 13, 14, 15, 16, 17, 18, 19, 20, 21, 22, 23, 24, 25, 26, 27, 28, 29, 30, 31, 32, 33, 34, 35, 36, 37, 38, 39, 40, 41, 42, 43, 44, 45, 46, 47, 48, 49, 50, 51, 52, 53, 54, 55, 56, 57, 58, 59, 60, 61, 62, 63, 64, 65, 66, 67, 68, 69, 70, 71, 72, 73, 74, 75, 76, 77, 78, 79, 80, 81, 82, 83, 84, 85, 86, 87, 88, 89, 90, 91, 92, 93, 94, 95, 96, 97, 98, 99, 100, 101, 102, 103, 104, 105, 106, 107, 108, 109, 110, 111, 112, 113, 114, 115, 116, 117, 118, 119, 120, 5, 121, 122, 123, 124, 125, 126, 127, 128, 129, 130, 131, 132, 133, 134, 135, 136, 137, 138, 139, 140, 141, 142, 143, 144, 145, 146, 147, 148, 149, 150, 151, 152, 153, 154, 155, 156, 157, 158, 159, 160, 161, 162, 163, 164, 165, 166, 167, 168, 169, 170, 171, 172, 173, 174, 175, 176, 177, 178, 179, 180, 181, 182, 183, 184, 185, 186, 187, 188, 189, 190, 191, 192, 193, 194, 195, 196, 197, 198, 199, 200, 201, 202, 203, 204, 205, 206, 207, 208, 209, 210, 211, 212, 213, 214, 215, 216, 217, 218, 219, 220, 221, 222, 223, 224, 225, 226, 227, 228, 229, 230, 231, 232, 233, 234, 235, 236, 237, 238, 239, 240, 241, 242, 243, 244, 245, 246, 247, 248, 249, 250, 251, 252, 253, 254, 255] (by decide +kernel) (by decide +kernel)) (goodIn_sub (fun _ h => List.mem_cons_of_mem _ (List.mem_append_left _ (List.mem_append_right _ h))) (by decide +kernel))) (goodIn_sub (fun _ h => List.mem_cons_of_mem _ (List.mem_append_right _ h)) (by decide +kernel))
set_option maxRecDepth 20000 in
theorem gL_play_X5_play : GoodIn wsL_play (wsV RL 40 RX5 yX5_play wsX5_play) := goodIn_app (goodIn_of _ (by decide +kernel)) ggL_play_X5_play
theorem dL_play_0 : decode cL_play 0 = .ok (.aload_n 1, 1) := by decide +kernel
theorem dL_play_1 : decode cL_play 1 = .ok (.iconst 0, 1) := by decide +kernel
theorem dL_play_2 : decode cL_play 2 = .ok (.aload_n 0, 1) := by decide +kernel
theorem dL_play_3 : decode cL_play 3 = .ok (.invokevirtual 40, 3) := by decide +kernel
theorem dL_play_6 : decode cL_play 6 = .ok (.i2l, 1) := by decide +kernel
theorem dL_play_7 : decode cL_play 7 = .ok (.lastore, 1) := by decide +kernel
theorem dL_play_8 : decode cL_play 8 = .ok (.goto 6, 3) := by decide +kernel
theorem dL_play_11 : decode cL_play 11 = .ok (.astore_n 2, 1) := by decide +kernel
theorem dL_play_12 : decode cL_play 12 = .ok (.iconst 1, 1) := by decide +kernel
theorem dL_play_13 : decode cL_play 13 = .ok (.ireturn, 1) := by decide +kernel
theorem dL_play_14 : decode cL_play 14 = .ok (.iconst 0, 1) := by decide +kernel
theorem dL_play_15 : decode cL_play 15 = .ok (.ireturn, 1) := by decide +kernel
set_option maxRecDepth 20000 in
theorem ggL_undo_X5_undo : GoodIn wsL_undo wsX5_undo := goodIn_ca (goodIn_r _ [6, 7, 8, 9, 10, 11, 12, 13, 14, 15, 16, 17, 18, 19, 20, 21, 22, 23, 24, 25, 26, 27, 28, 29, 30, 31, 32, 33, 34, 35, 36, 37, 38, 39, 40, 41, 42, 43, 44, 45, 46, 47, 48, 49, 50, 51, 52, 53, 54, 55, 56, 57, 58, 59, 60, 61, 62] (by decide +kernel) (by decide +kernel)) (goodIn_sub (fun _ h => List.mem_cons_of_mem _ (List.mem_append_right _ h)) (by decide +kernel))
set_option maxRecDepth 20000 in
theorem gL_undo_X5_undo : GoodIn wsL_undo (wsV RL 44 RX5 yX5_undo wsX5_undo) := goodIn_app (goodIn_of _ (by decide +kernel)) ggL_undo_X5_undo
theorem dL_undo_0 : decode cL_undo 0 = .ok (.aload_n 1, 1) := by decide +kernel
theorem dL_undo_1 : decode cL_undo 1 = .ok (.iconst 0, 1) := by decide +kernel
theorem dL_undo_2 : decode cL_undo 2 = .ok (.aload_n 0, 1) := by decide +kernel
theorem dL_undo_3 : decode cL_undo 3 = .ok (.invokevirtual 44, 3) := by decide +kernel
theorem dL_undo_6 : decode cL_undo 6 = .ok (.i2l, 1) := by decide +kernel
theorem dL_undo_7 : decode cL_undo 7 = .ok (.lastore, 1) := by decide +kernel
theorem dL_undo_8 : decode cL_undo 8 = .ok (.goto 6, 3) := by decide +kernel
theorem dL_undo_11 : decode cL_undo 11 = .ok (.astore_n 2, 1) := by decide +kernel
theorem dL_undo_12 : decode cL_undo 12 = .ok (.iconst 1, 1) := by decide +kernel
theorem dL_undo_13 : decode cL_undo 13 = .ok (.ireturn, 1) := by decide +kernel
theorem dL_undo_14 : decode cL_undo 14 = .ok (.iconst 0, 1) := by decide +kernel
theorem dL_undo_15 : decode cL_undo 15 = .ok (.ireturn, 1) := by decide +kernel
set_option maxRecDepth 20000 in
theorem ggL_ladder_X5_ladder : GoodIn wsL_ladder wsX5_ladder := goodIn_ca (goodIn_ca (goodIn_r _ [7, 8, 9, 10, 11, 12, 13, 14, 15, 16, 17, 18, 19, 20, 6, 21, 22, 23, 24, 25, 26, 27, 28, 29, 30, 31, 32, 33, 34, 35, 36, 37, 38, 39, 40, 41, 42, 43, 44, 45, 46, 47, 48, 49, 50, 51, 52, 53, 54, 55, 56, 57, 58, 59, 60, 61, 62, 63, 64, 65, 66, 67, 68, 69, 70, 71, 72, 73, 74, 75, 76, 77, 78, 79, 80, 81, 82, 83, 84, 85, 86, 87, 88, 89, 90, 91, 92, 93, 94, 95, 96, 97] (by decide +kernel) (by decide +kernel)) (goodIn_sub (fun _ h => List.mem_cons_of_mem _ (List.mem_append_left _ (List.mem_append_right _ h))) (by decide +kernel))) (goodIn_sub (fun _ h => List.mem_cons_of_mem _ (List.mem_append_right _ h)) (by decide +kernel))
set_option maxRecDepth 20000 in
theorem gL_ladder_X5_ladder : GoodIn wsL_ladder (wsV RL 47 RX5 yX5_ladder wsX5_ladder) := goodIn_app (goodIn_of _ (by decide +kernel)) ggL_ladder_X5_ladder
theorem dL_ladder_0 : decode cL_ladder 0 = .ok (.aload_n 3, 1) := by decide +kernel
theorem dL_ladder_1 : decode cL_ladder 1 = .ok (.iconst 0, 1) := by decide +kernel
theorem dL_ladder_2 : decode cL_ladder 2 = .ok (.aload_n 0, 1) := by decide +kernel
theorem dL_ladder_3 : decode cL_ladder 3 = .ok (.iload_n 1, 1) := by decide +kernel
theorem dL_ladder_4 : decode cL_ladder 4 = .ok (.iload_n 2, 1) := by decide +kernel
theorem dL_ladder_5 : decode cL_ladder 5 = .ok (.invokevirtual 47, 3) := by decide +kernel
theorem dL_ladder_8 : decode cL_ladder 8 = .ok (.i2l, 1) := by decide +kernel
theorem dL_ladder_9 : decode cL_ladder 9 = .ok (.lastore, 1) := by decide +kernel
theorem dL_ladder_10 : decode cL_ladder 10 = .ok (.goto 11, 3) := by decide +kernel
theorem dL_ladder_13 : decode cL_ladder 13 = .ok (.astore 4, 2) := by decide +kernel
theorem dL_ladder_15 : decode cL_ladder 15 = .ok (.iconst 1, 1) := by decide +kernel
theorem dL_ladder_16 : decode cL_ladder 16 = .ok (.ireturn, 1) := by decide +kernel
theorem dL_ladder_17 : decode cL_ladder 17 = .ok (.astore 4, 2) := by decide +kernel
theorem dL_ladder_19 : decode cL_ladder 19 = .ok (.iconst 2, 1) := by decide +kernel
theorem dL_ladder_20 : decode cL_ladder 20 = .ok (.ireturn, 1) := by decide +kernel
theorem dL_ladder_21 : decode cL_ladder 21 = .ok (.iconst 0, 1) := by decide +kernel
theorem dL_ladder_22 : decode cL_ladder 22 = .ok (.ireturn, 1) := by decide +kernel
set_option maxRecDepth 20000 in
theorem ggL_person_X5_person : GoodIn wsL_person wsX5_person := goodIn_ca (goodIn_ca (goodIn_r _ [7, 8, 9, 10, 11, 12, 6, 13, 14, 15, 16, 17, 18, 19, 20, 21, 22, 23, 24, 25, 26, 27, 28, 29, 30, 31, 32, 33, 34, 35, 36, 37, 38, 39, 40, 41, 42, 43, 44, 45, 46, 47, 48, 49, 50, 51, 52, 53, 54] (by decide +kernel) (by decide +kernel)) (goodIn_sub (fun _ h => List.mem_cons_of_mem _ (List.mem_append_left _ (List.mem_append_right _ h))) (by decide +kernel))) (goodIn_sub (fun _ h => List.mem_cons_of_mem _ (List.mem_append_right _ h)) (by decide +kernel))
set_option maxRecDepth 20000 in
theorem gL_person_X5_person : GoodIn wsL_person (wsV RL 50 RX5 yX5_person wsX5_person) := goodIn_app (goodIn_of _ (by decide +kernel)) ggL_person_X5_person
theorem dL_person_0 : decode cL_person 0 = .ok (.aload 4, 2) := by decide +kernel
theorem dL_person_2 : decode cL_person 2 = .ok (.iconst 0, 1) := by decide +kernel
theorem dL_person_3 : decode cL_person 3 = .ok (.aload_n 0, 1) := by decide +kernel
theorem dL_person_4 : decode cL_person 4 = .ok (.iload_n 1, 1) := by decide +kernel
theorem dL_person_5 : decode cL_person 5 = .ok (.iload_n 2, 1) := by decide +kernel
theorem dL_person_6 : decode cL_person 6 = .ok (.iload_n 3, 1) := by decide +kernel
theorem dL_person_7 : decode cL_person 7 = .ok (.invokevirtual 50, 3) := by decide +kernel
theorem dL_person_10 : decode cL_person 10 = .ok (.i2l, 1) := by decide +kernel
theorem dL_person_11 : decode cL_person 11 = .ok (.lastore, 1) := by decide +kernel
theorem dL_person_12 : decode cL_person 12 = .ok (.goto 11, 3) := by decide +kernel
theorem dL_person_15 : decode cL_person 15 = .ok (.astore 5, 2) := by decide +kernel
theorem dL_person_17 : decode cL_person 17 = .ok (.iconst 1, 1) := by decide +kernel
theorem dL_person_18 : decode cL_person 18 = .ok (.ireturn, 1) := by decide +kernel
theorem dL_person_19 : decode cL_person 19 = .ok (.astore 5, 2) := by decide +kernel
theorem dL_person_21 : decode cL_person 21 = .ok (.iconst 2, 1) := by decide +kernel
theorem dL_person_22 : decode cL_person 22 = .ok (.ireturn, 1) := by decide +kernel
theorem dL_person_23 : decode cL_person 23 = .ok (.iconst 0, 1) := by decide +kernel
theorem dL_person_24 : decode cL_person 24 = .ok (.ireturn, 1) := by decide +kernel
set_option maxRecDepth 20000 in
theorem ggL_force_X5_force : GoodIn wsL_force wsX5_force := goodIn_ca (goodIn_ca (goodIn_r _ [7, 8, 9, 10, 6, 11, 12, 13, 14, 15, 16, 17, 18, 19, 20, 21, 22, 23, 24, 25, 26, 27, 28, 29, 30, 31, 32, 33, 34, 35, 36, 37, 38, 39, 40, 41, 42, 43, 44, 45, 46, 47, 48, 49, 50, 51, 52, 53, 54, 55, 56, 57, 58, 59, 60, 61, 62, 63, 64, 65, 66, 67, 68, 69, 70, 71, 72, 73, 74, 75, 76, 77, 78, 79, 80, 81, 82, 83, 84, 85, 86, 87, 88, 89, 90, 91, 92, 93, 94, 95, 96, 97, 98, 99, 100, 101, 102, 103, 104, 105, 106, 107, 108] (by decide +kernel) (by decide +kernel)) (goodIn_sub (fun _ h => List.mem_cons_of_mem _ (List.mem_append_left _ (List.mem_append_right _ h))) (by decide +kernel))) (goodIn_sub (fun _ h => List.mem_cons_of_mem _ (List.mem_append_right _ h)) (by decide +kernel))
set_option maxRecDepth 20000 in
theorem gL_force_X5_force : GoodIn wsL_force (wsV RL 53 RX5 yX5_force wsX5_force) := goodIn_app (goodIn_of _ (by decide +kernel)) ggL_force_X5_force
theorem dL_force_0 : decode cL_force 0 = .ok (.aload_n 3, 1) := by decide +kernel
theorem dL_force_1 : decode cL_force 1 = .ok (.iconst 0, 1) := by decide +kernel
theorem dL_force_2 : decode cL_force 2 = .ok (.aload_n 0, 1) := by decide +kernel
theorem dL_force_3 : decode cL_force 3 = .ok (.iload_n 1, 1) := by decide +kernel
theorem dL_force_4 : decode cL_force 4 = .ok (.iload_n 2, 1) := by decide +kernel
theorem dL_force_5 : decode cL_force 5 = .ok (.invokevirtual 53, 3) := by decide +kernel
theorem dL_force_8 : decode cL_force 8 = .ok (.i2l, 1) := by decide +kernel
theorem dL_force_9 : decode cL_force 9 = .ok (.lastore, 1) := by decide +kernel
theorem dL_force_10 : decode cL_force 10 = .ok (.goto 11, 3) := by decide +kernel
theorem dL_force_13 : decode cL_force 13 = .ok (.astore 4, 2) := by decide +kernel
theorem dL_force_15 : decode cL_force 15 = .ok (.iconst 1, 1) := by decide +kernel
theorem dL_force_16 : decode cL_force 16 = .ok (.ireturn, 1) := by decide +kernel
theorem dL_force_17 : decode cL_force 17 = .ok (.astore 4, 2) := by decide +kernel
theorem dL_force_19 : decode cL_force 19 = .ok (.iconst 2, 1) := by decide +kernel
theorem dL_force_20 : decode cL_force 20 = .ok (.ireturn, 1) := by decide +kernel
theorem dL_force_21 : decode cL_force 21 = .ok (.iconst 0, 1) := by decide +kernel
theorem dL_force_22 : decode cL_force 22 = .ok (.ireturn, 1) := by decide +kernel
set_option maxRecDepth 20000 in
theorem ggL_held_X5_held : GoodIn wsL_held wsX5_held := goodIn_ca (goodIn_ca (goodIn_r _ [7, 8, 9, 10, 6, 11, 12, 13, 14, 15, 16, 17, 18, 19, 20, 21, 22, 23, 24, 25, 26, 27, 28, 29, 30, 31, 32, 33, 34, 35, 36, 37, 38, 39, 40, 41, 42, 43, 44, 45, 46, 47, 48, 49, 50, 51, 52, 53, 54, 55, 56, 57, 58, 59, 60, 61, 62, 63, 64, 65, 66, 67, 68, 69, 70, 71, 72, 73, 74] (by decide +kernel) (by decide +kernel)) (goodIn_sub (fun _ h => List.mem_cons_of_mem _ (List.mem_append_left _ (List.mem_append_right _ h))) (by decide +kernel))) (goodIn_sub (fun _ h => List.mem_cons_of_mem _ (List.mem_append_right _ h)) (by decide +kernel))
set_option maxRecDepth 20000 in
theorem gL_held_X5_held : GoodIn wsL_held (wsV RL 56 RX5 yX5_held wsX5_held) := goodIn_app (goodIn_of _ (by decide +kernel)) ggL_held_X5_held
theorem dL_held_0 : decode cL_held 0 = .ok (.aload_n 3, 1) := by decide +kernel
theorem dL_held_1 : decode cL_held 1 = .ok (.iconst 0, 1) := by decide +kernel
theorem dL_held_2 : decode cL_held 2 = .ok (.aload_n 0, 1) := by decide +kernel
theorem dL_held_3 : decode cL_held 3 = .ok (.iload_n 1, 1) := by decide +kernel
theorem dL_held_4 : decode cL_held 4 = .ok (.iload_n 2, 1) := by decide +kernel
theorem dL_held_5 : decode cL_held 5 = .ok (.invokevirtual 56, 3) := by decide +kernel
theorem dL_held_8 : decode cL_held 8 = .ok (.i2l, 1) := by decide +kernel
theorem dL_held_9 : decode cL_held 9 = .ok (.lastore, 1) := by decide +kernel
theorem dL_held_10 : decode cL_held 10 = .ok (.goto 11, 3) := by decide +kernel
theorem dL_held_13 : decode cL_held 13 = .ok (.astore 4, 2) := by decide +kernel
theorem dL_held_15 : decode cL_held 15 = .ok (.iconst 1, 1) := by decide +kernel
theorem dL_held_16 : decode cL_held 16 = .ok (.ireturn, 1) := by decide +kernel
theorem dL_held_17 : decode cL_held 17 = .ok (.astore 4, 2) := by decide +kernel
theorem dL_held_19 : decode cL_held 19 = .ok (.iconst 2, 1) := by decide +kernel
theorem dL_held_20 : decode cL_held 20 = .ok (.ireturn, 1) := by decide +kernel
theorem dL_held_21 : decode cL_held 21 = .ok (.iconst 0, 1) := by decide +kernel
theorem dL_held_22 : decode cL_held 22 = .ok (.ireturn, 1) := by decide +kernel
set_option maxRecDepth 20000 in
theorem ggL_count_X5_count : GoodIn wsL_count wsX5_count := goodIn_ca (goodIn_r _ [6, 7, 8, 9, 10, 11, 12, 13, 14, 15, 16, 17, 18, 19, 20, 21, 22, 23, 24, 25, 26, 27, 28, 29, 30, 31, 32, 33, 34, 35, 36, 37, 38, 39, 40, 41, 42, 43, 44, 45, 46, 47, 48, 49, 50, 51, 52, 53, 54, 55, 56, 57, 58, 59, 60, 61, 62, 63, 64, 65, 66, 67, 68, 69, 70, 71, 72, 73, 74, 75, 76, 77, 78, 79, 80, 81, 82, 83, 84, 85, 86, 87, 88, 89, 90, 91, 92, 93, 94, 95, 96, 97, 98, 99, 100, 101, 102] (by decide +kernel) (by decide +kernel)) (goodIn_sub (fun _ h => List.mem_cons_of_mem _ (List.mem_append_right _ h)) (by decide +kernel))
set_option maxRecDepth 20000 in
theorem gL_count_X5_count : GoodIn wsL_count (wsV RL 59 RX5 yX5_count wsX5_count) := goodIn_app (goodIn_of _ (by decide +kernel)) ggL_count_X5_count
theorem dL_count_0 : decode cL_count 0 = .ok (.aload_n 2, 1) := by decide +kernel
theorem dL_count_1 : decode cL_count 1 = .ok (.iconst 0, 1) := by decide +kernel
theorem dL_count_2 : decode cL_count 2 = .ok (.aload_n 0, 1) := by decide +kernel
theorem dL_count_3 : decode cL_count 3 = .ok (.iload_n 1, 1) := by decide +kernel
theorem dL_count_4 : decode cL_count 4 = .ok (.invokevirtual 59, 3) := by decide +kernel
theorem dL_count_7 : decode cL_count 7 = .ok (.i2l, 1) := by decide +kernel
theorem dL_count_8 : decode cL_count 8 = .ok (.lastore, 1) := by decide +kernel
theorem dL_count_9 : decode cL_count 9 = .ok (.goto 6, 3) := by decide +kernel
theorem dL_count_12 : decode cL_count 12 = .ok (.astore_n 3, 1) := by decide +kernel
theorem dL_count_13 : decode cL_count 13 = .ok (.iconst 1, 1) := by decide +kernel
theorem dL_count_14 : decode cL_count 14 = .ok (.ireturn, 1) := by decide +kernel
theorem dL_count_15 : decode cL_count 15 = .ok (.iconst 0, 1) := by decide +kernel
theorem dL_count_16 : decode cL_count 16 = .ok (.ireturn, 1) := by decide +kernel
set_option maxRecDepth 20000 in
theorem ggL_highest_X5_highest : GoodIn wsL_highest wsX5_highest := goodIn_ca (goodIn_r _ [6, 7, 8, 9, 10, 5, 11, 12, 13, 14, 15, 16, 17, 18, 19, 20, 21, 22, 23, 24, 25, 26, 27, 28, 29, 30, 31, 32, 33, 34, 35, 36, 37, 38, 39, 40, 41, 42, 43, 44, 45, 46, 47, 48, 49, 50, 51, 52, 53, 54, 55, 56, 57, 58, 59, 60, 61, 62, 63, 64, 65, 66, 67, 68, 69, 70, 71, 72, 73, 74, 75, 76, 77, 78, 79, 80, 81, 82, 83, 84, 85, 86, 87, 88, 89, 90, 91, 92, 93, 94, 95, 96, 97, 98, 99, 100, 101, 102, 103, 104, 105, 106, 107] (by decide +kernel) (by decide +kernel)) (goodIn_sub (fun _ h => List.mem_cons_of_mem _ (List.mem_append_right _ h)) (by decide +kernel))
set_option maxRecDepth 20000 in
theorem gL_highest_X5_highest : GoodIn wsL_highest (wsV RL 62 RX5 yX5_highest wsX5_highest) := goodIn_app (goodIn_of _ (by decide +kernel)) ggL_highest_X5_highest
theorem dL_highest_0 : decode cL_highest 0 = .ok (.aload_n 3, 1) := by decide +kernel
theorem dL_highest_1 : decode cL_highest 1 = .ok (.iconst 0, 1) := by decide +kernel
theorem dL_highest_2 : decode cL_highest 2 = .ok (.aload_n 0, 1) := by decide +kernel
theorem dL_highest_3 : decode cL_highest 3 = .ok (.iload_n 1, 1) := by decide +kernel
theorem dL_highest_4 : decode cL_highest 4 = .ok (.iload_n 2, 1) := by decide +kernel
theorem dL_highest_5 : decode cL_highest 5 = .ok (.invokevirtual 62, 3) := by decide +kernel
theorem dL_highest_8 : decode cL_highest 8 = .ok (.i2l, 1) := by decide +kernel
theorem dL_highest_9 : decode cL_highest 9 = .ok (.lastore, 1) := by decide +kernel
theorem dL_highest_10 : decode cL_highest 10 = .ok (.goto 7, 3) := by decide +kernel
theorem dL_highest_13 : decode cL_highest 13 = .ok (.astore 4, 2) := by decide +kernel
theorem dL_highest_15 : decode cL_highest 15 = .ok (.iconst 1, 1) := by decide +kernel
theorem dL_highest_16 : decode cL_highest 16 = .ok (.ireturn, 1) := by decide +kernel
theorem dL_highest_17 : decode cL_highest 17 = .ok (.iconst 0, 1) := by decide +kernel
theorem dL_highest_18 : decode cL_highest 18 = .ok (.ireturn, 1) := by decide +kernel
set_option maxRecDepth 20000 in
theorem ggL_neededRope_X5_neededRope : GoodIn wsL_neededRope wsX5_neededRope := goodIn_ca (goodIn_r _ [6, 7, 8, 9, 10, 11, 5, 12, 13, 14, 15, 16, 17, 18, 19, 20, 21, 22, 23, 24, 25, 26, 27, 28, 29, 30, 31, 32, 33, 34, 35, 36, 37, 38, 39, 40, 41, 42, 43, 44, 45, 46, 47, 48, 49, 50, 51, 52, 53, 54, 55, 56, 57, 58, 59, 60, 61, 62, 63, 64, 65, 66, 67, 68, 69, 70, 71, 72, 73, 74, 75, 76, 77, 78, 79, 80, 81, 82, 83, 84, 85, 86, 87, 88, 89, 90, 91, 92] (by decide +kernel) (by decide +kernel)) (goodIn_sub (fun _ h => List.mem_cons_of_mem _ (List.mem_append_right _ h)) (by decide +kernel))
set_option maxRecDepth 20000 in
theorem gL_neededRope_X5_neededRope : GoodIn wsL_neededRope (wsV RL 65 RX5 yX5_neededRope wsX5_neededRope) := goodIn_app (goodIn_of _ (by decide +kernel)) ggL_neededRope_X5_neededRope
theorem dL_neededRope_0 : decode cL_neededRope 0 = .ok (.aload_n 2, 1) := by decide +kernel
theorem dL_neededRope_1 : decode cL_neededRope 1 = .ok (.iconst 0, 1) := by decide +kernel
theorem dL_neededRope_2 : decode cL_neededRope 2 = .ok (.aload_n 0, 1) := by decide +kernel
theorem dL_neededRope_3 : decode cL_neededRope 3 = .ok (.iload_n 1, 1) := by decide +kernel
theorem dL_neededRope_4 : decode cL_neededRope 4 = .ok (.invokevirtual 65, 3) := by decide +kernel
theorem dL_neededRope_7 : decode cL_neededRope 7 = .ok (.i2l, 1) := by decide +kernel
theorem dL_neededRope_8 : decode cL_neededRope 8 = .ok (.lastore, 1) := by decide +kernel
theorem dL_neededRope_9 : decode cL_neededRope 9 = .ok (.goto 6, 3) := by decide +kernel
theorem dL_neededRope_12 : decode cL_neededRope 12 = .ok (.astore_n 3, 1) := by decide +kernel
theorem dL_neededRope_13 : decode cL_neededRope 13 = .ok (.iconst 1, 1) := by decide +kernel
theorem dL_neededRope_14 : decode cL_neededRope 14 = .ok (.ireturn, 1) := by decide +kernel
theorem dL_neededRope_15 : decode cL_neededRope 15 = .ok (.iconst 0, 1) := by decide +kernel
theorem dL_neededRope_16 : decode cL_neededRope 16 = .ok (.ireturn, 1) := by decide +kernel
set_option maxRecDepth 20000 in
theorem ggL_bestBase_X5_bestBase : GoodIn wsL_bestBase wsX5_bestBase := goodIn_ca (goodIn_r _ [6, 7, 8, 9, 10, 11, 5, 12, 13, 14, 15, 16, 17, 18, 19, 20, 21, 22, 23, 24, 25, 26, 27, 28, 29, 30, 31, 32, 33, 34, 35, 36, 37, 38, 39, 40, 41, 42, 43, 44, 45, 46, 47, 48, 49, 50, 51, 52, 53, 54, 55, 56, 57, 58, 59, 60, 61, 62, 63, 64, 65, 66, 67, 68, 69, 70, 71, 72, 73, 74, 75, 76, 77, 78, 79, 80, 81, 82, 83, 84, 85, 86, 87, 88, 89, 90, 91, 92] (by decide +kernel) (by decide +kernel)) (goodIn_sub (fun _ h => List.mem_cons_of_mem _ (List.mem_append_right _ h)) (by decide +kernel))
set_option maxRecDepth 20000 in
theorem gL_bestBase_X5_bestBase : GoodIn wsL_bestBase (wsV RL 68 RX5 yX5_bestBase wsX5_bestBase) := goodIn_app (goodIn_of _ (by decide +kernel)) ggL_bestBase_X5_bestBase
theorem dL_bestBase_0 : decode cL_bestBase 0 = .ok (.aload_n 2, 1) := by decide +kernel
theorem dL_bestBase_1 : decode cL_bestBase 1 = .ok (.iconst 0, 1) := by decide +kernel
theorem dL_bestBase_2 : decode cL_bestBase 2 = .ok (.aload_n 0, 1) := by decide +kernel
theorem dL_bestBase_3 : decode cL_bestBase 3 = .ok (.iload_n 1, 1) := by decide +kernel
theorem dL_bestBase_4 : decode cL_bestBase 4 = .ok (.invokevirtual 68, 3) := by decide +kernel
theorem dL_bestBase_7 : decode cL_bestBase 7 = .ok (.i2l, 1) := by decide +kernel
theorem dL_bestBase_8 : decode cL_bestBase 8 = .ok (.lastore, 1) := by decide +kernel
theorem dL_bestBase_9 : decode cL_bestBase 9 = .ok (.goto 6, 3) := by decide +kernel
theorem dL_bestBase_12 : decode cL_bestBase 12 = .ok (.astore_n 3, 1) := by decide +kernel
theorem dL_bestBase_13 : decode cL_bestBase 13 = .ok (.iconst 1, 1) := by decide +kernel
theorem dL_bestBase_14 : decode cL_bestBase 14 = .ok (.ireturn, 1) := by decide +kernel
theorem dL_bestBase_15 : decode cL_bestBase 15 = .ok (.iconst 0, 1) := by decide +kernel
theorem dL_bestBase_16 : decode cL_bestBase 16 = .ok (.ireturn, 1) := by decide +kernel
set_option maxRecDepth 20000 in
theorem ggL_riskiest_X5_riskiest : GoodIn wsL_riskiest wsX5_riskiest := goodIn_ca (goodIn_r _ [6, 7, 8, 9, 10, 11, 5, 12, 13, 14, 15, 16, 17, 18, 19, 20, 21, 22, 23, 24, 25, 26, 27, 28, 29, 30, 31, 32, 33, 34, 35, 36, 37, 38, 39, 40, 41, 42, 43, 44, 45, 46, 47, 48, 49, 50, 51, 52, 53, 54, 55, 56, 57, 58, 59, 60, 61, 62, 63, 64, 65, 66, 67, 68, 69, 70, 71, 72, 73, 74, 75, 76, 77, 78, 79, 80, 81, 82, 83, 84, 85, 86, 87, 88, 89, 90, 91, 92, 93, 94, 95, 96, 97, 98, 99, 100] (by decide +kernel) (by decide +kernel)) (goodIn_sub (fun _ h => List.mem_cons_of_mem _ (List.mem_append_right _ h)) (by decide +kernel))
set_option maxRecDepth 20000 in
theorem gL_riskiest_X5_riskiest : GoodIn wsL_riskiest (wsV RL 71 RX5 yX5_riskiest wsX5_riskiest) := goodIn_app (goodIn_of _ (by decide +kernel)) ggL_riskiest_X5_riskiest
theorem dL_riskiest_0 : decode cL_riskiest 0 = .ok (.aload_n 2, 1) := by decide +kernel
theorem dL_riskiest_1 : decode cL_riskiest 1 = .ok (.iconst 0, 1) := by decide +kernel
theorem dL_riskiest_2 : decode cL_riskiest 2 = .ok (.aload_n 0, 1) := by decide +kernel
theorem dL_riskiest_3 : decode cL_riskiest 3 = .ok (.iload_n 1, 1) := by decide +kernel
theorem dL_riskiest_4 : decode cL_riskiest 4 = .ok (.invokevirtual 71, 3) := by decide +kernel
theorem dL_riskiest_7 : decode cL_riskiest 7 = .ok (.i2l, 1) := by decide +kernel
theorem dL_riskiest_8 : decode cL_riskiest 8 = .ok (.lastore, 1) := by decide +kernel
theorem dL_riskiest_9 : decode cL_riskiest 9 = .ok (.goto 6, 3) := by decide +kernel
theorem dL_riskiest_12 : decode cL_riskiest 12 = .ok (.astore_n 3, 1) := by decide +kernel
theorem dL_riskiest_13 : decode cL_riskiest 13 = .ok (.iconst 1, 1) := by decide +kernel
theorem dL_riskiest_14 : decode cL_riskiest 14 = .ok (.ireturn, 1) := by decide +kernel
theorem dL_riskiest_15 : decode cL_riskiest 15 = .ok (.iconst 0, 1) := by decide +kernel
theorem dL_riskiest_16 : decode cL_riskiest 16 = .ok (.ireturn, 1) := by decide +kernel
set_option maxRecDepth 20000 in
theorem ggL_walls_X5_walls : GoodIn wsL_walls wsX5_walls := goodIn_ca (goodIn_r _ [6, 7, 8, 9, 10, 11, 5, 12, 13, 14, 15, 16, 17, 18, 19, 20, 21, 22, 23, 24, 25, 26, 27, 28, 29, 30, 31, 32, 33, 34, 35, 36, 37, 38, 39, 40, 41, 42, 43, 44, 45, 46, 47, 48, 49, 50, 51, 52, 53, 54, 55, 56, 57, 58, 59, 60, 61, 62, 63, 64, 65, 66, 67, 68, 69, 70, 71, 72, 73, 74, 75, 76, 77, 78, 79, 80, 81, 82, 83, 84, 85, 86, 87, 88, 89, 90, 91, 92] (by decide +kernel) (by decide +kernel)) (goodIn_sub (fun _ h => List.mem_cons_of_mem _ (List.mem_append_right _ h)) (by decide +kernel))
set_option maxRecDepth 20000 in
theorem gL_walls_X5_walls : GoodIn wsL_walls (wsV RL 74 RX5 yX5_walls wsX5_walls) := goodIn_app (goodIn_of _ (by decide +kernel)) ggL_walls_X5_walls
theorem dL_walls_0 : decode cL_walls 0 = .ok (.aload_n 2, 1) := by decide +kernel
theorem dL_walls_1 : decode cL_walls 1 = .ok (.iconst 0, 1) := by decide +kernel
theorem dL_walls_2 : decode cL_walls 2 = .ok (.aload_n 0, 1) := by decide +kernel
theorem dL_walls_3 : decode cL_walls 3 = .ok (.iload_n 1, 1) := by decide +kernel
theorem dL_walls_4 : decode cL_walls 4 = .ok (.invokevirtual 74, 3) := by decide +kernel
theorem dL_walls_7 : decode cL_walls 7 = .ok (.i2l, 1) := by decide +kernel
theorem dL_walls_8 : decode cL_walls 8 = .ok (.lastore, 1) := by decide +kernel
theorem dL_walls_9 : decode cL_walls 9 = .ok (.goto 6, 3) := by decide +kernel
theorem dL_walls_12 : decode cL_walls 12 = .ok (.astore_n 3, 1) := by decide +kernel
theorem dL_walls_13 : decode cL_walls 13 = .ok (.iconst 1, 1) := by decide +kernel
theorem dL_walls_14 : decode cL_walls 14 = .ok (.ireturn, 1) := by decide +kernel
theorem dL_walls_15 : decode cL_walls 15 = .ok (.iconst 0, 1) := by decide +kernel
theorem dL_walls_16 : decode cL_walls 16 = .ok (.ireturn, 1) := by decide +kernel
set_option maxRecDepth 20000 in
theorem ggL_law_X5_init : GoodIn wsL_law wsX5_init := goodIn_r _ [9, 10, 11, 12, 13, 14, 15, 16, 17, 18, 19, 20, 21, 22, 23, 24, 25, 26, 27, 28, 29, 30, 31, 32, 33, 34, 35, 36, 37, 38, 39, 40, 41, 42, 43, 44, 45, 46, 47, 48, 49, 50, 51, 52, 53, 54, 55, 56, 57, 58, 59, 60, 61, 62, 63, 64, 65, 66, 67, 68, 69, 70, 71, 72, 73, 74, 75, 76, 77, 78, 817, 818, 819, 797, 798, 799, 800, 820, 821, 822, 823, 824, 825, 826, 827, 828, 829, 830, 831, 832, 833, 834, 835, 836, 837, 838, 839, 840, 841, 842] (by decide +kernel) (by decide +kernel)
set_option maxRecDepth 20000 in
theorem gL_law_X5_init : GoodIn wsL_law (wsX5_init) := ggL_law_X5_init
set_option maxRecDepth 20000 in
theorem ggL_law_X6_init : GoodIn wsL_law wsX6_init := goodIn_r _ [81, 82, 11, 12, 48, 83, 84, 85, 86, 87, 5, 88, 801, 802, 803, 804, 805, 806, 807, 808, 809, 810, 811, 812, 813, 814, 815, 816] (by decide +kernel) (by decide +kernel)
set_option maxRecDepth 20000 in
theorem gL_law_X6_init : GoodIn wsL_law (wsX6_init) := ggL_law_X6_init
set_option maxRecDepth 20000 in
theorem ggL_law_L_put : GoodIn wsL_law wsL_put := goodIn_ca (goodIn_ca (goodIn_r _ [92, 93, 94, 95, 96, 97, 2, 98, 20, 16, 99, 100, 101, 102, 103, 104, 105, 106, 107, 108, 109, 110, 111, 112, 113, 114, 115, 116, 19, 117, 57, 56, 58, 118, 119, 120, 121, 122, 123, 124, 15, 125, 34, 35, 36, 126, 127, 128, 27, 129, 40, 41, 42, 43, 44, 45, 46, 47, 49, 50, 130, 131, 132, 133, 134, 135, 136, 137, 138, 139, 140, 141, 142, 143, 144, 145, 146, 147, 148, 149, 150, 151, 152, 153, 154, 155, 156, 157, 158, 159, 160, 161, 162, 163, 164, 165, 166, 167, 168, 169, 170, 171, 172, 173, 174, 175, 176, 177, 178, 179, 180, 181, 182, 183, 184, 185, 186, 797, 798, 799, 800, 827, 828, 829, 830, 831, 832, 833, 834, 835, 836, 817, 818, 819, 820, 821, 822] (by decide +kernel) (by decide +kernel)) (goodIn_sub (fun _ h => List.mem_append_left _ (List.mem_append_left _ (List.mem_append_right _ h))) (by decide +kernel))) (goodIn_sub (fun _ h => List.mem_append_left _ (List.mem_append_right _ h)) (by decide +kernel))
set_option maxRecDepth 20000 in
theorem gL_law_L_put : GoodIn wsL_law (va_wsS RL 81 yL_put wsL_put) := goodIn_app (goodIn_of _ (by decide +kernel)) ggL_law_L_put
set_option maxRecDepth 20000 in
theorem ggL_law_X6_put : GoodIn wsL_law wsX6_put := goodIn_r _ [190, 83, 191, 192, 5, 193, 194, 195, 196, 197, 198, 199, 200, 201, 202, 203, 204, 205, 206, 84, 86, 87, 88, 207, 208, 209, 210, 211, 212, 213, 214, 215, 216, 217, 218, 219, 220, 221, 222, 223, 224, 225, 226, 227, 228, 229, 230, 231, 232, 233, 234, 235, 236, 237, 238, 239, 240, 241, 242, 243, 801, 802, 803, 804, 805, 806, 807, 808, 809, 810, 811, 812, 813, 814, 815, 816] (by decide +kernel) (by decide +kernel)
set_option maxRecDepth 20000 in
theorem gL_law_X6_put : GoodIn wsL_law (wsV RL 86 RX6 yX6_put wsX6_put) := goodIn_app (goodIn_of _ (by decide +kernel)) ggL_law_X6_put
set_option maxRecDepth 20000 in
theorem ggL_law_X6_thrown : GoodIn wsL_law wsX6_thrown := goodIn_r _ [247, 201, 801, 802, 803, 804, 805, 806, 807, 808, 809, 810, 811, 812, 813, 814, 815, 816] (by decide +kernel) (by decide +kernel)
set_option maxRecDepth 20000 in
theorem gL_law_X6_thrown : GoodIn wsL_law (wsV RL 87 RX6 yX6_thrown wsX6_thrown) := goodIn_app (goodIn_of _ (by decide +kernel)) ggL_law_X6_thrown
set_option maxRecDepth 20000 in
theorem ggL_law_L_kinds : GoodIn wsL_law wsL_kinds := goodIn_ca (goodIn_ca (goodIn_r _ [250, 93, 94, 251, 252, 253, 2, 254, 20, 16, 255, 256, 102, 103, 104, 105, 106, 107, 108, 109, 110, 111, 112, 113, 114, 115, 116, 19, 117, 57, 56, 58, 118, 119, 120, 121, 122, 123, 124, 15, 125, 34, 35, 36, 126, 127, 128, 27, 129, 40, 41, 42, 43, 44, 45, 46, 47, 49, 50, 130, 131, 132, 133, 134, 135, 136, 137, 138, 139, 140, 141, 142, 143, 144, 145, 146, 147, 148, 149, 150, 151, 152, 153, 154, 155, 156, 157, 158, 159, 160, 161, 162, 163, 164, 165, 166, 167, 168, 169, 170, 171, 172, 173, 174, 175, 176, 177, 178, 179, 180, 181, 182, 183, 184, 185, 186, 797, 798, 799, 800, 827, 828, 829, 830, 831, 832, 833, 834, 835, 836, 817, 818, 819, 820, 821, 822] (by decide +kernel) (by decide +kernel)) (goodIn_sub (fun _ h => List.mem_append_left _ (List.mem_append_left _ (List.mem_append_right _ h))) (by decide +kernel))) (goodIn_sub (fun _ h => List.mem_append_left _ (List.mem_append_right _ h)) (by decide +kernel))
set_option maxRecDepth 20000 in
theorem gL_law_L_kinds : GoodIn wsL_law (va_wsS RL 90 yL_kinds wsL_kinds) := goodIn_app (goodIn_of _ (by decide +kernel)) ggL_law_L_kinds
set_option maxRecDepth 20000 in
theorem ggL_law_X6_kinds : GoodIn wsL_law wsX6_kinds := goodIn_r _ [260, 83, 194, 195, 5, 196, 191, 192, 193, 197, 198, 199, 200, 201, 202, 203, 204, 205, 206, 84, 86, 87, 88, 207, 208, 209, 210, 211, 212, 213, 214, 215, 216, 217, 218, 219, 220, 221, 222, 223, 224, 225, 226, 227, 228, 229, 230, 231, 232, 233, 234, 235, 236, 237, 238, 239, 240, 241, 242, 243, 801, 802, 803, 804, 805, 806, 807, 808, 809, 810, 811, 812, 813, 814, 815, 816] (by decide +kernel) (by decide +kernel)
set_option maxRecDepth 20000 in
theorem gL_law_X6_kinds : GoodIn wsL_law (wsV RL 93 RX6 yX6_kinds wsX6_kinds) := goodIn_app (goodIn_of _ (by decide +kernel)) ggL_law_X6_kinds
set_option maxRecDepth 20000 in
theorem ggL_law_L_rope : GoodIn wsL_law wsL_rope := goodIn_ca (goodIn_ca (goodIn_r _ [263, 93, 94, 264, 265, 266, 2, 267, 20, 16, 268, 102, 103, 104, 105, 106, 107, 108, 109, 110, 111, 112, 113, 114, 115, 116, 19, 117, 57, 56, 58, 118, 119, 120, 121, 122, 123, 124, 15, 125, 34, 35, 36, 126, 127, 128, 27, 129, 40, 41, 42, 43, 44, 45, 46, 47, 49, 50, 130, 131, 132, 133, 134, 135, 136, 137, 138, 139, 140, 141, 142, 143, 144, 145, 146, 147, 148, 149, 150, 151, 152, 153, 154, 155, 156, 157, 158, 159, 160, 161, 162, 163, 164, 165, 166, 167, 168, 169, 170, 171, 172, 173, 174, 175, 176, 177, 178, 179, 180, 181, 182, 183, 184, 185, 186, 797, 798, 799, 800, 827, 828, 829, 830, 831, 832, 833, 834, 835, 836, 817, 818, 819, 820, 821, 822] (by decide +kernel) (by decide +kernel)) (goodIn_sub (fun _ h => List.mem_append_left _ (List.mem_append_left _ (List.mem_append_right _ h))) (by decide +kernel))) (goodIn_sub (fun _ h => List.mem_append_left _ (List.mem_append_right _ h)) (by decide +kernel))
set_option maxRecDepth 20000 in
theorem gL_law_L_rope : GoodIn wsL_law (va_wsS RL 94 yL_rope wsL_rope) := goodIn_app (goodIn_of _ (by decide +kernel)) ggL_law_L_rope
set_option maxRecDepth 20000 in
theorem ggL_law_X6_rope : GoodIn wsL_law wsX6_rope := goodIn_r _ [272, 83, 194, 195, 5, 196, 191, 192, 193, 197, 198, 199, 200, 201, 202, 203, 204, 205, 206, 84, 86, 87, 88, 207, 208, 209, 210, 211, 212, 213, 214, 215, 216, 217, 218, 219, 220, 221, 222, 223, 224, 225, 226, 227, 228, 229, 230, 231, 232, 233, 234, 235, 236, 237, 238, 239, 240, 241, 242, 243, 801, 802, 803, 804, 805, 806, 807, 808, 809, 810, 811, 812, 813, 814, 815, 816] (by decide +kernel) (by decide +kernel)
set_option maxRecDepth 20000 in
theorem gL_law_X6_rope : GoodIn wsL_law (wsV RL 97 RX6 yX6_rope wsX6_rope) := goodIn_app (goodIn_of _ (by decide +kernel)) ggL_law_X6_rope
set_option maxRecDepth 20000 in
theorem ggL_law_L_on : GoodIn wsL_law wsL_on := goodIn_ca (goodIn_ca (goodIn_ca (goodIn_r _ [275, 93, 94, 276, 277, 278, 279, 2, 280, 281, 282, 20, 16, 283, 102, 103, 104, 105, 106, 107, 108, 109, 110, 111, 112, 113, 284, 285, 286, 27, 287, 47, 114, 115, 116, 19, 117, 57, 56, 58, 118, 119, 120, 121, 122, 123, 124, 15, 125, 34, 35, 36, 126, 127, 128, 129, 40, 41, 42, 43, 44, 45, 46, 49, 50, 288, 289, 290, 291, 130, 131, 132, 133, 134, 135, 136, 137, 138, 139, 140, 141, 142, 143, 144, 145, 146, 147, 148, 149, 150, 151, 152, 153, 154, 155, 156, 157, 158, 159, 160, 161, 162, 163, 164, 165, 166, 167, 168, 169, 170, 171, 172, 173, 174, 175, 176, 177, 178, 179, 180, 181, 182, 183, 184, 185, 186, 797, 798, 799, 800, 827, 828, 829, 830, 831, 832, 833, 834, 835, 836, 817, 818, 819, 820, 821, 822] (by decide +kernel) (by decide +kernel)) (goodIn_sub (fun _ h => List.mem_append_right _ h) (by decide +kernel))) (goodIn_sub (fun _ h => List.mem_append_left _ (List.mem_append_left _ (List.mem_append_right _ h))) (by decide +kernel))) (goodIn_sub (fun _ h => List.mem_append_left _ (List.mem_append_right _ h)) (by decide +kernel))
set_option maxRecDepth 20000 in
theorem gL_law_L_on : GoodIn wsL_law (va_wsS RL 98 yL_on wsL_on) := goodIn_app (goodIn_of _ (by decide +kernel)) ggL_law_L_on
set_option maxRecDepth 20000 in
theorem ggL_law_X6_on : GoodIn wsL_law wsX6_on := goodIn_r _ [295, 83, 194, 195, 5, 196, 191, 192, 193, 86, 87, 88, 197, 198, 199, 200, 201, 202, 203, 204, 205, 206, 84, 296, 297, 298, 299, 227, 228, 229, 207, 208, 209, 210, 211, 212, 213, 214, 215, 216, 217, 218, 219, 220, 221, 222, 223, 224, 225, 226, 230, 231, 232, 233, 234, 235, 236, 237, 238, 239, 240, 241, 242, 243, 801, 802, 803, 804, 805, 806, 807, 808, 809, 810, 811, 812, 813, 814, 815, 816] (by decide +kernel) (by decide +kernel)
set_option maxRecDepth 20000 in
theorem gL_law_X6_on : GoodIn wsL_law (wsV RL 100 RX6 yX6_on wsX6_on) := goodIn_app (goodIn_of _ (by decide +kernel)) ggL_law_X6_on
set_option maxRecDepth 20000 in
theorem ggL_law_L_off : GoodIn wsL_law wsL_off := goodIn_ca (goodIn_r _ [302, 93, 303, 304, 305, 2, 306, 20, 16, 283, 102, 103, 104, 105, 106, 107, 108, 307, 308, 309, 310, 311, 312, 27, 313, 47, 114, 115, 116, 19, 117, 57, 56, 58, 118, 119, 120, 121, 122, 123, 124, 15, 125, 34, 35, 36, 126, 127, 128, 129, 40, 41, 42, 43, 44, 45, 46, 49, 50, 314, 315, 316, 317, 318, 130, 131, 132, 133, 134, 135, 136, 137, 138, 139, 140, 141, 142, 143, 144, 145, 146, 147, 148, 149, 150, 151, 152, 153, 154, 155, 156, 157, 158, 159, 160, 161, 162, 163, 164, 165, 166, 167, 168, 169, 170, 171, 172, 173, 174, 175, 176, 177, 178, 179, 180, 181, 182, 183, 184, 185, 186, 797, 798, 799, 800, 827, 828, 829, 830, 831, 832, 833, 834, 835, 836, 817, 818, 819, 820, 821, 822] (by decide +kernel) (by decide +kernel)) (goodIn_sub (fun _ h => List.mem_append_left _ (List.mem_append_left _ (List.mem_append_right _ h))) (by decide +kernel))
set_option maxRecDepth 20000 in
theorem gL_law_L_off : GoodIn wsL_law (va_wsS RL 101 yL_off wsL_off) := goodIn_app (goodIn_of _ (by decide +kernel)) ggL_law_L_off
set_option maxRecDepth 20000 in
theorem ggL_law_X6_off : GoodIn wsL_law wsX6_off := goodIn_r _ [322, 323, 324, 325, 5, 326, 83, 194, 195, 196, 191, 192, 193, 86, 87, 88, 197, 198, 199, 200, 201, 202, 203, 204, 205, 206, 84, 327, 328, 329, 330, 331, 332, 333, 334, 227, 228, 229, 207, 208, 209, 210, 211, 212, 213, 214, 215, 216, 217, 218, 219, 220, 221, 222, 223, 224, 225, 226, 230, 231, 232, 233, 234, 235, 236, 237, 238, 239, 240, 241, 242, 243, 801, 802, 803, 804, 805, 806, 807, 808, 809, 810, 811, 812, 813, 814, 815, 816] (by decide +kernel) (by decide +kernel)
set_option maxRecDepth 20000 in
theorem gL_law_X6_off : GoodIn wsL_law (wsV RL 103 RX6 yX6_off wsX6_off) := goodIn_app (goodIn_of _ (by decide +kernel)) ggL_law_X6_off
set_option maxRecDepth 20000 in
theorem ggL_law_L_climb : GoodIn wsL_law wsL_climb := goodIn_ca (goodIn_ca (goodIn_r _ [337, 93, 94, 338, 339, 340, 2, 341, 20, 16, 102, 103, 104, 105, 106, 107, 108, 307, 308, 309, 310, 311, 312, 27, 313, 47, 109, 110, 111, 112, 113, 114, 115, 116, 19, 117, 57, 56, 58, 118, 119, 120, 121, 122, 123, 124, 15, 125, 34, 35, 36, 126, 127, 128, 129, 40, 41, 42, 43, 44, 45, 46, 49, 50, 342, 343, 344, 345, 346, 347, 348, 349, 350, 351, 352, 318, 353, 354, 355, 356, 135, 136, 137, 138, 139, 140, 141, 142, 143, 144, 145, 146, 147, 148, 149, 150, 151, 152, 153, 154, 155, 156, 157, 158, 159, 160, 161, 162, 163, 164, 165, 166, 167, 168, 169, 170, 171, 172, 173, 174, 175, 176, 177, 178, 179, 180, 181, 134, 182, 183, 184, 185, 186, 797, 798, 799, 800, 817, 818, 819, 827, 828, 829, 830, 831, 832, 833, 834, 835, 836, 820, 821, 822] (by decide +kernel) (by decide +kernel)) (goodIn_sub (fun _ h => List.mem_append_left _ (List.mem_append_left _ (List.mem_append_right _ h))) (by decide +kernel))) (goodIn_sub (fun _ h => List.mem_append_left _ (List.mem_append_right _ h)) (by decide +kernel))
set_option maxRecDepth 20000 in
theorem gL_law_L_climb : GoodIn wsL_law (va_wsS RL 104 yL_climb wsL_climb) := goodIn_app (goodIn_of _ (by decide +kernel)) ggL_law_L_climb
set_option maxRecDepth 20000 in
theorem ggL_law_X6_climb : GoodIn wsL_law wsX6_climb := goodIn_r _ [360, 323, 324, 325, 5, 326, 83, 194, 195, 196, 191, 192, 193, 86, 87, 88, 197, 198, 199, 200, 201, 202, 203, 204, 205, 206, 84, 361, 362, 363, 364, 227, 228, 229, 207, 208, 209, 210, 211, 212, 213, 214, 215, 216, 217, 218, 219, 220, 221, 222, 223, 224, 225, 226, 230, 231, 232, 233, 234, 235, 236, 237, 238, 239, 240, 241, 242, 243, 801, 802, 803, 804, 805, 806, 807, 808, 809, 810, 811, 812, 813, 814, 815, 816] (by decide +kernel) (by decide +kernel)
set_option maxRecDepth 20000 in
theorem gL_law_X6_climb : GoodIn wsL_law (wsV RL 106 RX6 yX6_climb wsX6_climb) := goodIn_app (goodIn_of _ (by decide +kernel)) ggL_law_X6_climb
set_option maxRecDepth 20000 in
theorem ggL_law_L_append : GoodIn wsL_law wsL_append := goodIn_ca (goodIn_ca (goodIn_r _ [367, 94, 276, 368, 369, 370, 2, 371, 281, 282, 24, 372, 109, 110, 111, 112, 113, 373, 374, 375, 23, 376, 64, 377, 378, 379, 380, 63, 797, 798, 799, 800, 823, 824, 825, 826] (by decide +kernel) (by decide +kernel)) (goodIn_sub (fun _ h => List.mem_append_right _ h) (by decide +kernel))) (goodIn_sub (fun _ h => List.mem_append_left _ (List.mem_append_right _ h)) (by decide +kernel))
set_option maxRecDepth 20000 in
theorem gL_law_L_append : GoodIn wsL_law (va_wsS RL 107 yL_append wsL_append) := goodIn_app (goodIn_of _ (by decide +kernel)) ggL_law_L_append
set_option maxRecDepth 20000 in
theorem ggL_law_X6_append : GoodIn wsL_law wsX6_append := goodIn_r _ [384, 385, 85, 191, 192, 5, 193, 197, 198, 199, 200, 201, 801, 802, 803, 804, 805, 806, 807, 808, 809, 810, 811, 812, 813, 814, 815, 816] (by decide +kernel) (by decide +kernel)
set_option maxRecDepth 20000 in
theorem gL_law_X6_append : GoodIn wsL_law (wsV RL 110 RX6 yX6_append wsX6_append) := goodIn_app (goodIn_of _ (by decide +kernel)) ggL_law_X6_append
set_option maxRecDepth 20000 in
theorem ggL_law_X5_clearBuffer : GoodIn wsL_law wsX5_clearBuffer := goodIn_r _ [389, 24, 372, 390, 391, 392, 23, 393, 64, 797, 798, 799, 800, 823, 824, 825, 826] (by decide +kernel) (by decide +kernel)
set_option maxRecDepth 20000 in
theorem gL_law_X5_clearBuffer : GoodIn wsL_law (wsV RL 111 RX5 yX5_clearBuffer wsX5_clearBuffer) := goodIn_app (goodIn_of _ (by decide +kernel)) ggL_law_X5_clearBuffer
set_option maxRecDepth 20000 in
theorem ggL_law_X6_clearBuffer : GoodIn wsL_law wsX6_clearBuffer := goodIn_r _ [397, 201, 385, 801, 802, 803, 804, 805, 806, 807, 808, 809, 810, 811, 812, 813, 814, 815, 816] (by decide +kernel) (by decide +kernel)
set_option maxRecDepth 20000 in
theorem gL_law_X6_clearBuffer : GoodIn wsL_law (wsV RL 114 RX6 yX6_clearBuffer wsX6_clearBuffer) := goodIn_app (goodIn_of _ (by decide +kernel)) ggL_law_X6_clearBuffer
set_option maxRecDepth 20000 in
theorem ggL_law_X5_firstError : GoodIn wsL_law wsX5_firstError := goodIn_r _ [401, 24, 402, 403, 404, 23, 405, 69, 64, 406, 407, 408, 68, 409, 73, 78, 410, 411, 412, 413, 63, 414, 415, 416, 417, 418, 419, 420, 421, 76, 422, 423, 424, 425, 77, 426, 427, 428, 429, 74, 75, 430, 431, 432, 433, 434, 435, 436, 437, 438, 439, 440, 441, 442, 443, 444, 445, 446, 797, 798, 799, 800, 823, 824, 825, 826, 837, 838, 839, 840, 841, 842] (by decide +kernel) (by decide +kernel)
set_option maxRecDepth 20000 in
theorem gL_law_X5_firstError : GoodIn wsL_law (wsV RL 115 RX5 yX5_firstError wsX5_firstError) := goodIn_app (goodIn_of _ (by decide +kernel)) ggL_law_X5_firstError
set_option maxRecDepth 20000 in
theorem ggL_law_X6_firstError : GoodIn wsL_law wsX6_firstError := goodIn_r _ [450, 201, 451, 452, 385, 453, 454, 455, 5, 456, 457, 458, 459, 460, 461, 85, 462, 463, 464, 465, 466, 191, 192, 193, 467, 468, 469, 470, 471, 472, 473, 474, 475, 476, 477, 478, 479, 480, 481, 482, 83, 86, 87, 88, 361, 362, 363, 364, 227, 228, 229, 207, 208, 209, 210, 211, 212, 213, 214, 215, 216, 217, 218, 219, 220, 221, 222, 223, 224, 225, 226, 230, 231, 232, 233, 234, 235, 236, 237, 238, 239, 240, 241, 242, 243, 296, 297, 298, 299, 327, 328, 329, 330, 331, 332, 333, 334, 801, 802, 803, 804, 805, 806, 807, 808, 809, 810, 811, 812, 813, 814, 815, 816] (by decide +kernel) (by decide +kernel)
set_option maxRecDepth 20000 in
theorem gL_law_X6_firstError : GoodIn wsL_law (wsV RL 118 RX6 yX6_firstError wsX6_firstError) := goodIn_app (goodIn_of _ (by decide +kernel)) ggL_law_X6_firstError
set_option maxRecDepth 20000 in
theorem ggL_law_L_play : GoodIn wsL_law wsL_play := goodIn_ca (goodIn_ca (goodIn_r _ [485, 94, 486, 487, 488, 2, 489, 112, 113, 24, 20, 16, 490, 491, 492, 493, 23, 494, 64, 69, 495, 403, 404, 405, 406, 407, 408, 68, 409, 73, 78, 410, 411, 412, 413, 63, 414, 415, 416, 417, 418, 419, 420, 421, 76, 422, 423, 424, 425, 77, 426, 427, 428, 429, 74, 75, 430, 431, 432, 433, 434, 435, 436, 437, 438, 439, 440, 441, 442, 443, 444, 445, 446, 496, 114, 115, 116, 19, 117, 57, 56, 58, 118, 119, 120, 121, 122, 123, 124, 15, 125, 34, 35, 36, 126, 127, 128, 27, 129, 40, 41, 42, 43, 44, 45, 46, 47, 49, 50, 497, 498, 499, 500, 65, 501, 502, 503, 504, 505, 506, 507, 508, 509, 510, 283, 511, 268, 102, 103, 104, 105, 106, 107, 108, 342, 343, 344, 345, 346, 347, 348, 349, 350, 351, 352, 318, 311, 312, 313, 353, 354, 355, 356, 135, 136, 137, 138, 139, 140, 141, 142, 143, 144, 145, 146, 147, 148, 149, 150, 151, 152, 153, 154, 155, 156, 157, 158, 159, 160, 161, 162, 163, 164, 165, 166, 167, 168, 169, 170, 171, 172, 173, 174, 175, 176, 177, 178, 179, 180, 181, 134, 182, 183, 184, 185, 186, 284, 285, 286, 287, 288, 289, 290, 291, 314, 315, 316, 317, 130, 131, 132, 133, 390, 391, 392, 393, 797, 798, 799, 800, 823, 824, 825, 826, 837, 838, 839, 840, 841, 842, 820, 821, 822, 817, 818, 819, 827, 828, 829, 830, 831, 832, 833, 834, 835, 836] (by decide +kernel) (by decide +kernel)) (goodIn_sub (fun _ h => List.mem_append_left _ (List.mem_append_right _ h)) (by decide +kernel))) (goodIn_sub (fun _ h => List.mem_append_left _ (List.mem_append_left _ (List.mem_append_right _ h))) (by decide +kernel))
set_option maxRecDepth 20000 in
theorem gL_law_L_play : GoodIn wsL_law (va_wsS RL 119 yL_play wsL_play) := goodIn_app (goodIn_of _ (by decide +kernel)) ggL_law_L_play
set_option maxRecDepth 20000 in
theorem ggL_law_X6_play : GoodIn wsL_law wsX6_play := goodIn_r _ [515, 451, 385, 453, 454, 455, 5, 456, 452, 457, 458, 459, 460, 461, 85, 462, 463, 464, 465, 466, 191, 192, 193, 467, 468, 469, 470, 471, 472, 473, 474, 475, 476, 477, 478, 479, 480, 481, 482, 83, 86, 87, 88, 361, 362, 363, 364, 227, 228, 229, 207, 208, 209, 210, 211, 212, 213, 214, 215, 216, 217, 218, 219, 220, 221, 222, 223, 224, 225, 226, 230, 231, 232, 233, 234, 235, 236, 237, 238, 239, 240, 241, 242, 243, 296, 297, 298, 299, 327, 328, 329, 330, 331, 332, 333, 334, 197, 198, 199, 200, 201, 202, 203, 204, 205, 206, 84, 801, 802, 803, 804, 805, 806, 807, 808, 809, 810, 811, 812, 813, 814, 815, 816] (by decide +kernel) (by decide +kernel)
set_option maxRecDepth 20000 in
theorem gL_law_X6_play : GoodIn wsL_law (wsV RL 122 RX6 yX6_play wsX6_play) := goodIn_app (goodIn_of _ (by decide +kernel)) ggL_law_X6_play
set_option maxRecDepth 20000 in
theorem ggL_law_L_undo : GoodIn wsL_law wsL_undo := goodIn_ca (goodIn_r _ [518, 276, 519, 520, 521, 2, 522, 281, 282, 20, 523, 16, 524, 525, 526, 19, 527, 57, 58, 56, 122, 123, 124, 15, 125, 34, 35, 36, 126, 127, 128, 27, 129, 40, 41, 42, 43, 44, 45, 46, 47, 49, 50, 797, 798, 799, 800, 820, 821, 822, 817, 818, 819, 827, 828, 829, 830, 831, 832, 833, 834, 835, 836] (by decide +kernel) (by decide +kernel)) (goodIn_sub (fun _ h => List.mem_append_right _ h) (by decide +kernel))
set_option maxRecDepth 20000 in
theorem gL_law_L_undo : GoodIn wsL_law (va_wsS RL 123 yL_undo wsL_undo) := goodIn_app (goodIn_of _ (by decide +kernel)) ggL_law_L_undo
set_option maxRecDepth 20000 in
theorem ggL_law_X6_undo : GoodIn wsL_law wsX6_undo := goodIn_r _ [531, 206, 83, 84, 197, 198, 199, 5, 200, 201, 801, 802, 803, 804, 805, 806, 807, 808, 809, 810, 811, 812, 813, 814, 815, 816] (by decide +kernel) (by decide +kernel)
set_option maxRecDepth 20000 in
theorem gL_law_X6_undo : GoodIn wsL_law (wsV RL 125 RX6 yX6_undo wsX6_undo) := goodIn_app (goodIn_of _ (by decide +kernel)) ggL_law_X6_undo
set_option maxRecDepth 20000 in
theorem ggL_law_L_ladder : GoodIn wsL_law wsL_ladder := goodIn_ca (goodIn_ca (goodIn_r _ [534, 93, 94, 535, 536, 537, 2, 538, 112, 113, 99, 100, 101, 255, 256, 268, 283, 539, 102, 103, 104, 105, 106, 107, 16, 108, 540, 171, 172, 27, 173, 42, 49, 541, 155, 156, 157, 50, 40, 542, 136, 137, 138, 139, 140, 141, 142, 143, 144, 120, 145, 146, 147, 148, 149, 44, 41, 150, 151, 152, 153, 154, 158, 159, 160, 161, 162, 163, 164, 165, 45, 166, 167, 168, 169, 43, 170, 174, 175, 176, 177, 827, 828, 829, 830, 831, 832, 833, 834, 835, 836, 797, 798, 799, 800, 817, 818, 819] (by decide +kernel) (by decide +kernel)) (goodIn_sub (fun _ h => List.mem_append_left _ (List.mem_append_right _ h)) (by decide +kernel))) (goodIn_sub (fun _ h => List.mem_append_left _ (List.mem_append_left _ (List.mem_append_right _ h))) (by decide +kernel))
set_option maxRecDepth 20000 in
theorem gL_law_L_ladder : GoodIn wsL_law (va_wsS RL 126 yL_ladder wsL_ladder) := goodIn_app (goodIn_of _ (by decide +kernel)) ggL_law_L_ladder
set_option maxRecDepth 20000 in
theorem ggL_law_X6_ladder : GoodIn wsL_law wsX6_ladder := goodIn_r _ [546, 194, 195, 5, 196, 191, 192, 193, 197, 198, 199, 200, 201, 547, 548, 549, 550, 83, 223, 224, 225, 226, 86, 87, 88, 227, 228, 229, 230, 231, 232, 233, 211, 212, 213, 214, 215, 216, 217, 218, 219, 220, 221, 222, 234, 235, 236, 237, 238, 239, 240, 241, 242, 243, 801, 802, 803, 804, 805, 806, 807, 808, 809, 810, 811, 812, 813, 814, 815, 816] (by decide +kernel) (by decide +kernel)
set_option maxRecDepth 20000 in
theorem gL_law_X6_ladder : GoodIn wsL_law (wsV RL 128 RX6 yX6_ladder wsX6_ladder) := goodIn_app (goodIn_of _ (by decide +kernel)) ggL_law_X6_ladder
set_option maxRecDepth 20000 in
theorem ggL_law_L_person : GoodIn wsL_law wsL_person := goodIn_ca (goodIn_ca (goodIn_r _ [553, 93, 94, 554, 555, 556, 2, 557, 112, 113, 102, 103, 104, 105, 106, 107, 16, 108, 307, 308, 309, 310, 311, 312, 27, 313, 47, 558, 559, 560, 561, 49, 318, 562, 350, 351, 352, 50, 797, 798, 799, 800, 817, 818, 819, 827, 828, 829, 830, 831, 832, 833, 834, 835, 836] (by decide +kernel) (by decide +kernel)) (goodIn_sub (fun _ h => List.mem_append_left _ (List.mem_append_right _ h)) (by decide +kernel))) (goodIn_sub (fun _ h => List.mem_append_left _ (List.mem_append_left _ (List.mem_append_right _ h))) (by decide +kernel))
set_option maxRecDepth 20000 in
theorem gL_law_L_person : GoodIn wsL_law (va_wsS RL 129 yL_person wsL_person) := goodIn_app (goodIn_of _ (by decide +kernel)) ggL_law_L_person
set_option maxRecDepth 20000 in
theorem ggL_law_X6_person : GoodIn wsL_law wsX6_person := goodIn_r _ [566, 83, 323, 324, 325, 5, 326, 194, 195, 196, 191, 192, 193, 86, 87, 88, 197, 198, 199, 200, 201, 227, 228, 229, 801, 802, 803, 804, 805, 806, 807, 808, 809, 810, 811, 812, 813, 814, 815, 816] (by decide +kernel) (by decide +kernel)
set_option maxRecDepth 20000 in
theorem gL_law_X6_person : GoodIn wsL_law (wsV RL 131 RX6 yX6_person wsX6_person) := goodIn_app (goodIn_of _ (by decide +kernel)) ggL_law_X6_person
set_option maxRecDepth 20000 in
theorem ggL_law_L_force : GoodIn wsL_law wsL_force := goodIn_ca (goodIn_ca (goodIn_r _ [569, 93, 94, 570, 571, 572, 2, 573, 102, 103, 104, 105, 106, 107, 16, 108, 109, 110, 111, 112, 113, 574, 575, 576, 27, 577, 143, 144, 120, 145, 174, 175, 176, 177, 41, 40, 150, 151, 152, 153, 44, 154, 155, 156, 157, 42, 50, 49, 158, 159, 160, 161, 139, 140, 141, 142, 146, 147, 148, 149, 162, 163, 164, 165, 45, 166, 167, 168, 169, 43, 170, 171, 172, 173, 542, 136, 137, 138, 578, 579, 580, 581, 582, 583, 584, 119, 121, 585, 586, 587, 588, 540, 797, 798, 799, 800, 817, 818, 819, 827, 828, 829, 830, 831, 832, 833, 834, 835, 836] (by decide +kernel) (by decide +kernel)) (goodIn_sub (fun _ h => List.mem_append_left _ (List.mem_append_left _ (List.mem_append_right _ h))) (by decide +kernel))) (goodIn_sub (fun _ h => List.mem_append_left _ (List.mem_append_right _ h)) (by decide +kernel))
set_option maxRecDepth 20000 in
theorem gL_law_L_force : GoodIn wsL_law (va_wsS RL 132 yL_force wsL_force) := goodIn_app (goodIn_of _ (by decide +kernel)) ggL_law_L_force
set_option maxRecDepth 20000 in
theorem ggL_law_X6_force : GoodIn wsL_law wsX6_force := goodIn_r _ [592, 194, 195, 5, 196, 191, 192, 193, 197, 198, 199, 200, 201, 593, 594, 595, 596, 220, 221, 222, 215, 216, 217, 218, 83, 219, 223, 224, 225, 226, 86, 87, 88, 227, 228, 229, 230, 231, 232, 233, 234, 235, 236, 237, 238, 239, 240, 241, 242, 243, 597, 598, 599, 600, 801, 802, 803, 804, 805, 806, 807, 808, 809, 810, 811, 812, 813, 814, 815, 816] (by decide +kernel) (by decide +kernel)
set_option maxRecDepth 20000 in
theorem gL_law_X6_force : GoodIn wsL_law (wsV RL 134 RX6 yX6_force wsX6_force) := goodIn_app (goodIn_of _ (by decide +kernel)) ggL_law_X6_force
set_option maxRecDepth 20000 in
theorem ggL_law_L_held : GoodIn wsL_law wsL_held := goodIn_ca (goodIn_ca (goodIn_r _ [603, 93, 94, 604, 605, 606, 2, 607, 102, 103, 104, 105, 106, 107, 16, 108, 109, 110, 111, 112, 113, 608, 609, 610, 27, 611, 41, 612, 347, 120, 348, 44, 45, 613, 586, 587, 588, 40, 154, 155, 156, 157, 42, 50, 49, 170, 171, 172, 173, 150, 151, 152, 153, 166, 167, 168, 169, 43, 797, 798, 799, 800, 817, 818, 819, 827, 828, 829, 830, 831, 832, 833, 834, 835, 836] (by decide +kernel) (by decide +kernel)) (goodIn_sub (fun _ h => List.mem_append_left _ (List.mem_append_left _ (List.mem_append_right _ h))) (by decide +kernel))) (goodIn_sub (fun _ h => List.mem_append_left _ (List.mem_append_right _ h)) (by decide +kernel))
set_option maxRecDepth 20000 in
theorem gL_law_L_held : GoodIn wsL_law (va_wsS RL 135 yL_held wsL_held) := goodIn_app (goodIn_of _ (by decide +kernel)) ggL_law_L_held
set_option maxRecDepth 20000 in
theorem ggL_law_X6_held : GoodIn wsL_law wsX6_held := goodIn_r _ [617, 194, 195, 5, 196, 191, 192, 193, 197, 198, 199, 200, 201, 618, 619, 620, 621, 223, 224, 225, 226, 83, 86, 87, 88, 227, 228, 229, 597, 598, 599, 600, 230, 231, 232, 233, 234, 235, 236, 237, 238, 239, 240, 241, 242, 243, 801, 802, 803, 804, 805, 806, 807, 808, 809, 810, 811, 812, 813, 814, 815, 816] (by decide +kernel) (by decide +kernel)
set_option maxRecDepth 20000 in
theorem gL_law_X6_held : GoodIn wsL_law (wsV RL 137 RX6 yX6_held wsX6_held) := goodIn_app (goodIn_of _ (by decide +kernel)) ggL_law_X6_held
set_option maxRecDepth 20000 in
theorem ggL_law_L_count : GoodIn wsL_law wsL_count := goodIn_ca (goodIn_r _ [624, 94, 625, 626, 627, 2, 628, 112, 113, 16, 629, 630, 20, 523, 631, 632, 633, 15, 634, 34, 135, 136, 137, 27, 138, 139, 140, 141, 142, 143, 144, 120, 145, 146, 147, 148, 149, 44, 41, 40, 150, 151, 152, 153, 154, 155, 156, 157, 42, 50, 49, 158, 159, 160, 161, 162, 163, 164, 165, 45, 166, 167, 168, 169, 43, 170, 171, 172, 173, 174, 175, 176, 177, 635, 636, 637, 638, 134, 639, 640, 641, 642, 182, 797, 798, 799, 800, 817, 818, 819, 820, 821, 822, 827, 828, 829, 830, 831, 832, 833, 834, 835, 836] (by decide +kernel) (by decide +kernel)) (goodIn_sub (fun _ h => List.mem_append_left _ (List.mem_append_right _ h)) (by decide +kernel))
set_option maxRecDepth 20000 in
theorem gL_law_L_count : GoodIn wsL_law (va_wsS RL 138 yL_count wsL_count) := goodIn_app (goodIn_of _ (by decide +kernel)) ggL_law_L_count
set_option maxRecDepth 20000 in
theorem ggL_law_X6_count : GoodIn wsL_law wsX6_count := goodIn_r _ [646, 191, 192, 5, 193, 197, 198, 199, 200, 201, 647, 648, 649, 650, 83, 206, 651, 652, 653, 654, 547, 548, 549, 550, 223, 224, 225, 226, 86, 87, 88, 227, 228, 229, 230, 231, 232, 233, 211, 212, 213, 214, 215, 216, 217, 218, 219, 220, 221, 222, 234, 235, 236, 237, 238, 239, 240, 241, 242, 243, 801, 802, 803, 804, 805, 806, 807, 808, 809, 810, 811, 812, 813, 814, 815, 816] (by decide +kernel) (by decide +kernel)
set_option maxRecDepth 20000 in
theorem gL_law_X6_count : GoodIn wsL_law (wsV RL 140 RX6 yX6_count wsX6_count) := goodIn_app (goodIn_of _ (by decide +kernel)) ggL_law_X6_count
set_option maxRecDepth 20000 in
theorem ggL_law_L_highest : GoodIn wsL_law wsL_highest := goodIn_ca (goodIn_r _ [657, 93, 658, 659, 660, 2, 661, 28, 102, 103, 104, 105, 106, 107, 16, 108, 307, 308, 309, 310, 311, 312, 27, 313, 47, 662, 127, 128, 129, 40, 41, 42, 43, 44, 45, 46, 49, 50, 562, 350, 351, 352, 318, 663, 354, 355, 356, 542, 136, 137, 138, 139, 140, 141, 142, 143, 144, 120, 145, 146, 147, 148, 149, 150, 151, 152, 153, 154, 155, 156, 157, 158, 159, 160, 161, 162, 163, 164, 165, 166, 167, 168, 169, 170, 171, 172, 173, 174, 175, 176, 177, 797, 798, 799, 800, 817, 818, 819, 827, 828, 829, 830, 831, 832, 833, 834, 835, 836] (by decide +kernel) (by decide +kernel)) (goodIn_sub (fun _ h => List.mem_append_left _ (List.mem_append_left _ (List.mem_append_right _ h))) (by decide +kernel))
set_option maxRecDepth 20000 in
theorem gL_law_L_highest : GoodIn wsL_law (va_wsS RL 141 yL_highest wsL_highest) := goodIn_app (goodIn_of _ (by decide +kernel)) ggL_law_L_highest
set_option maxRecDepth 20000 in
theorem ggL_law_X6_highest : GoodIn wsL_law wsX6_highest := goodIn_r _ [667, 323, 324, 325, 5, 326, 83, 194, 195, 196, 191, 192, 193, 86, 87, 88, 197, 198, 199, 200, 201, 668, 669, 670, 671, 227, 228, 229, 211, 212, 213, 214, 215, 216, 217, 218, 219, 220, 221, 222, 223, 224, 225, 226, 230, 231, 232, 233, 234, 235, 236, 237, 238, 239, 240, 241, 242, 243, 801, 802, 803, 804, 805, 806, 807, 808, 809, 810, 811, 812, 813, 814, 815, 816] (by decide +kernel) (by decide +kernel)
set_option maxRecDepth 20000 in
theorem gL_law_X6_highest : GoodIn wsL_law (wsV RL 143 RX6 yX6_highest wsX6_highest) := goodIn_app (goodIn_of _ (by decide +kernel)) ggL_law_X6_highest
set_option maxRecDepth 20000 in
theorem ggL_law_L_neededRope : GoodIn wsL_law wsL_neededRope := goodIn_ca (goodIn_r _ [674, 93, 675, 676, 677, 2, 678, 28, 268, 102, 103, 104, 105, 106, 107, 16, 108, 662, 127, 128, 27, 129, 40, 41, 42, 43, 44, 45, 46, 47, 49, 50, 542, 136, 137, 138, 139, 140, 141, 142, 143, 144, 120, 145, 146, 147, 148, 149, 150, 151, 152, 153, 154, 155, 156, 157, 158, 159, 160, 161, 162, 163, 164, 165, 166, 167, 168, 169, 170, 171, 172, 173, 174, 175, 176, 177, 797, 798, 799, 800, 827, 828, 829, 830, 831, 832, 833, 834, 835, 836, 817, 818, 819] (by decide +kernel) (by decide +kernel)) (goodIn_sub (fun _ h => List.mem_append_left _ (List.mem_append_left _ (List.mem_append_right _ h))) (by decide +kernel))
set_option maxRecDepth 20000 in
theorem gL_law_L_neededRope : GoodIn wsL_law (va_wsS RL 144 yL_neededRope wsL_neededRope) := goodIn_app (goodIn_of _ (by decide +kernel)) ggL_law_L_neededRope
set_option maxRecDepth 20000 in
theorem ggL_law_X6_neededRope : GoodIn wsL_law wsX6_neededRope := goodIn_r _ [682, 194, 195, 5, 196, 191, 192, 193, 197, 198, 199, 200, 201, 683, 684, 685, 686, 83, 86, 87, 88, 211, 212, 213, 214, 215, 216, 217, 218, 219, 220, 221, 222, 223, 224, 225, 226, 227, 228, 229, 230, 231, 232, 233, 234, 235, 236, 237, 238, 239, 240, 241, 242, 243, 801, 802, 803, 804, 805, 806, 807, 808, 809, 810, 811, 812, 813, 814, 815, 816] (by decide +kernel) (by decide +kernel)
set_option maxRecDepth 20000 in
theorem gL_law_X6_neededRope : GoodIn wsL_law (wsV RL 146 RX6 yX6_neededRope wsX6_neededRope) := goodIn_app (goodIn_of _ (by decide +kernel)) ggL_law_X6_neededRope
set_option maxRecDepth 20000 in
theorem ggL_law_L_bestBase : GoodIn wsL_law wsL_bestBase := goodIn_ca (goodIn_r _ [689, 93, 690, 691, 692, 2, 693, 28, 99, 102, 103, 104, 105, 106, 107, 16, 108, 662, 127, 128, 27, 129, 40, 41, 42, 43, 44, 45, 46, 47, 49, 50, 574, 575, 576, 577, 143, 144, 120, 145, 174, 175, 176, 177, 150, 151, 152, 153, 154, 155, 156, 157, 158, 159, 160, 161, 139, 140, 141, 142, 146, 147, 148, 149, 162, 163, 164, 165, 166, 167, 168, 169, 170, 171, 172, 173, 797, 798, 799, 800, 827, 828, 829, 830, 831, 832, 833, 834, 835, 836, 817, 818, 819] (by decide +kernel) (by decide +kernel)) (goodIn_sub (fun _ h => List.mem_append_left _ (List.mem_append_left _ (List.mem_append_right _ h))) (by decide +kernel))
set_option maxRecDepth 20000 in
theorem gL_law_L_bestBase : GoodIn wsL_law (va_wsS RL 147 yL_bestBase wsL_bestBase) := goodIn_app (goodIn_of _ (by decide +kernel)) ggL_law_L_bestBase
set_option maxRecDepth 20000 in
theorem ggL_law_X6_bestBase : GoodIn wsL_law wsX6_bestBase := goodIn_r _ [697, 194, 195, 5, 196, 191, 192, 193, 197, 198, 199, 200, 201, 698, 699, 700, 701, 83, 86, 87, 88, 215, 216, 217, 218, 219, 220, 221, 222, 223, 224, 225, 226, 227, 228, 229, 230, 231, 232, 233, 234, 235, 236, 237, 238, 239, 240, 241, 242, 243, 801, 802, 803, 804, 805, 806, 807, 808, 809, 810, 811, 812, 813, 814, 815, 816] (by decide +kernel) (by decide +kernel)
set_option maxRecDepth 20000 in
theorem gL_law_X6_bestBase : GoodIn wsL_law (wsV RL 149 RX6 yX6_bestBase wsX6_bestBase) := goodIn_app (goodIn_of _ (by decide +kernel)) ggL_law_X6_bestBase
set_option maxRecDepth 20000 in
theorem ggL_law_L_riskiest : GoodIn wsL_law wsL_riskiest := goodIn_ca (goodIn_r _ [704, 93, 705, 706, 707, 2, 708, 283, 28, 102, 103, 104, 105, 106, 107, 16, 108, 662, 127, 128, 27, 129, 40, 41, 42, 43, 44, 45, 46, 47, 49, 50, 314, 315, 316, 317, 318, 311, 312, 313, 574, 575, 576, 577, 143, 144, 120, 145, 174, 175, 176, 177, 150, 151, 152, 153, 154, 155, 156, 157, 158, 159, 160, 161, 139, 140, 141, 142, 146, 147, 148, 149, 162, 163, 164, 165, 166, 167, 168, 169, 170, 171, 172, 173, 827, 828, 829, 830, 831, 832, 833, 834, 835, 836, 797, 798, 799, 800, 817, 818, 819] (by decide +kernel) (by decide +kernel)) (goodIn_sub (fun _ h => List.mem_append_left _ (List.mem_append_left _ (List.mem_append_right _ h))) (by decide +kernel))
set_option maxRecDepth 20000 in
theorem gL_law_L_riskiest : GoodIn wsL_law (va_wsS RL 150 yL_riskiest wsL_riskiest) := goodIn_app (goodIn_of _ (by decide +kernel)) ggL_law_L_riskiest
set_option maxRecDepth 20000 in
theorem ggL_law_X6_riskiest : GoodIn wsL_law wsX6_riskiest := goodIn_r _ [712, 194, 195, 5, 196, 191, 192, 193, 197, 198, 199, 200, 201, 713, 714, 715, 716, 83, 86, 87, 88, 227, 228, 229, 215, 216, 217, 218, 219, 220, 221, 222, 223, 224, 225, 226, 230, 231, 232, 233, 234, 235, 236, 237, 238, 239, 240, 241, 242, 243, 801, 802, 803, 804, 805, 806, 807, 808, 809, 810, 811, 812, 813, 814, 815, 816] (by decide +kernel) (by decide +kernel)
set_option maxRecDepth 20000 in
theorem gL_law_X6_riskiest : GoodIn wsL_law (wsV RL 152 RX6 yX6_riskiest wsX6_riskiest) := goodIn_app (goodIn_of _ (by decide +kernel)) ggL_law_X6_riskiest
set_option maxRecDepth 20000 in
theorem ggL_law_L_walls : GoodIn wsL_law wsL_walls := goodIn_ca (goodIn_r _ [719, 93, 720, 721, 722, 2, 723, 28, 256, 102, 103, 104, 105, 106, 107, 16, 108, 662, 127, 128, 27, 129, 40, 41, 42, 43, 44, 45, 46, 47, 49, 50, 542, 136, 137, 138, 139, 140, 141, 142, 143, 144, 120, 145, 146, 147, 148, 149, 150, 151, 152, 153, 154, 155, 156, 157, 158, 159, 160, 161, 162, 163, 164, 165, 166, 167, 168, 169, 170, 171, 172, 173, 174, 175, 176, 177, 797, 798, 799, 800, 827, 828, 829, 830, 831, 832, 833, 834, 835, 836, 817, 818, 819] (by decide +kernel) (by decide +kernel)) (goodIn_sub (fun _ h => List.mem_append_left _ (List.mem_append_left _ (List.mem_append_right _ h))) (by decide +kernel))
set_option maxRecDepth 20000 in
theorem gL_law_L_walls : GoodIn wsL_law (va_wsS RL 153 yL_walls wsL_walls) := goodIn_app (goodIn_of _ (by decide +kernel)) ggL_law_L_walls
set_option maxRecDepth 20000 in
theorem ggL_law_X6_walls : GoodIn wsL_law wsX6_walls := goodIn_r _ [727, 194, 195, 5, 196, 191, 192, 193, 197, 198, 199, 200, 201, 728, 729, 730, 731, 83, 86, 87, 88, 211, 212, 213, 214, 215, 216, 217, 218, 219, 220, 221, 222, 223, 224, 225, 226, 227, 228, 229, 230, 231, 232, 233, 234, 235, 236, 237, 238, 239, 240, 241, 242, 243, 801, 802, 803, 804, 805, 806, 807, 808, 809, 810, 811, 812, 813, 814, 815, 816] (by decide +kernel) (by decide +kernel)
set_option maxRecDepth 20000 in
theorem gL_law_X6_walls : GoodIn wsL_law (wsV RL 155 RX6 yX6_walls wsX6_walls) := goodIn_app (goodIn_of _ (by decide +kernel)) ggL_law_X6_walls
set_option maxRecDepth 20000 in
theorem ggL_law_X5_safety : GoodIn wsL_law wsX5_safety := goodIn_r _ [735, 16, 629, 635, 636, 637, 15, 638, 34, 134, 797, 798, 799, 800, 817, 818, 819, 827, 828, 829, 830, 831, 832, 833, 834, 835, 836] (by decide +kernel) (by decide +kernel)
set_option maxRecDepth 20000 in
theorem gL_law_X5_safety : GoodIn wsL_law (wsV RL 156 RX5 yX5_safety wsX5_safety) := goodIn_app (goodIn_of _ (by decide +kernel)) ggL_law_X5_safety
set_option maxRecDepth 20000 in
theorem ggL_law_X6_safety : GoodIn wsL_law wsX6_safety := goodIn_r _ [739, 201, 740, 741, 742, 5, 743, 83, 651, 652, 653, 654, 547, 548, 549, 550, 223, 224, 225, 226, 86, 87, 88, 227, 228, 229, 230, 231, 232, 233, 211, 212, 213, 214, 215, 216, 217, 218, 219, 220, 221, 222, 234, 235, 236, 237, 238, 239, 240, 241, 242, 243, 801, 802, 803, 804, 805, 806, 807, 808, 809, 810, 811, 812, 813, 814, 815, 816] (by decide +kernel) (by decide +kernel)
set_option maxRecDepth 20000 in
theorem gL_law_X6_safety : GoodIn wsL_law (wsV RL 160 RX6 yX6_safety wsX6_safety) := goodIn_app (goodIn_of _ (by decide +kernel)) ggL_law_X6_safety
set_option maxRecDepth 20000 in
theorem ggL_law_X5_digest : GoodIn wsL_law wsX5_digest := goodIn_ca (goodIn_ca (goodIn_r _ [747, 748, 24, 372, 749, 626, 627, 2, 628, 112, 113, 16, 629, 630, 20, 523, 631, 632, 633, 15, 634, 34, 135, 136, 137, 27, 138, 139, 140, 141, 142, 143, 144, 120, 145, 146, 147, 148, 149, 44, 41, 40, 150, 151, 152, 153, 154, 155, 156, 157, 42, 50, 49, 158, 159, 160, 161, 162, 163, 164, 165, 45, 166, 167, 168, 169, 43, 170, 171, 172, 173, 174, 175, 176, 177, 635, 636, 637, 638, 134, 639, 640, 641, 642, 182, 750, 751, 752, 753, 754, 755, 756, 757, 758, 536, 537, 538, 99, 100, 101, 255, 256, 268, 283, 539, 102, 103, 104, 105, 106, 107, 108, 540, 541, 542, 759, 571, 572, 573, 109, 110, 111, 574, 575, 576, 577, 578, 579, 580, 581, 582, 583, 584, 119, 121, 585, 586, 587, 588, 760, 555, 556, 557, 307, 308, 309, 310, 311, 312, 313, 47, 558, 559, 560, 561, 318, 562, 350, 351, 352, 761, 659, 660, 661, 28, 662, 127, 128, 129, 46, 663, 354, 355, 356, 762, 676, 677, 678, 763, 691, 692, 693, 764, 706, 707, 708, 314, 315, 316, 317, 765, 721, 722, 723, 766, 605, 606, 607, 608, 609, 610, 611, 612, 347, 348, 613, 767, 733, 734, 735, 768, 769, 770, 771, 772, 773, 774, 411, 412, 23, 413, 64, 63, 797, 798, 799, 800, 823, 824, 825, 826, 817, 818, 819, 820, 821, 822, 827, 828, 829, 830, 831, 832, 833, 834, 835, 836] (by decide +kernel) (by decide +kernel)) (goodIn_sub (fun _ h => List.mem_append_left _ (List.mem_append_right _ h)) (by decide +kernel))) (goodIn_sub (fun _ h => List.mem_append_left _ (List.mem_append_left _ (List.mem_append_right _ h))) (by decide +kernel))
set_option maxRecDepth 20000 in
theorem gL_law_X5_digest : GoodIn wsL_law (wsV RL 161 RX5 yX5_digest wsX5_digest) := goodIn_app (goodIn_of _ (by decide +kernel)) ggL_law_X5_digest
set_option maxRecDepth 20000 in
theorem ggL_law_X6_digest : GoodIn wsL_law wsX6_digest := goodIn_r _ [778, 201, 779, 780, 385, 85, 647, 648, 649, 5, 650, 83, 206, 651, 652, 653, 654, 547, 548, 549, 550, 223, 224, 225, 226, 86, 87, 88, 227, 228, 229, 230, 231, 232, 233, 211, 212, 213, 214, 215, 216, 217, 218, 219, 220, 221, 222, 234, 235, 236, 237, 238, 239, 240, 241, 242, 243, 781, 782, 783, 784, 785, 786, 787, 788, 789, 593, 594, 595, 596, 597, 598, 599, 600, 668, 669, 670, 671, 683, 684, 685, 686, 698, 699, 700, 701, 713, 714, 715, 716, 728, 729, 730, 731, 618, 619, 620, 621, 740, 741, 742, 743, 790, 791, 792, 793, 794, 795, 796, 801, 802, 803, 804, 805, 806, 807, 808, 809, 810, 811, 812, 813, 814, 815, 816] (by decide +kernel) (by decide +kernel)
set_option maxRecDepth 20000 in
theorem gL_law_X6_digest : GoodIn wsL_law (wsV RL 165 RX6 yX6_digest wsX6_digest) := goodIn_app (goodIn_of _ (by decide +kernel)) ggL_law_X6_digest
theorem dL_law_0 : decode cL_law 0 = .ok (.new 8, 3) := by decide +kernel
theorem dL_law_3 : decode cL_law 3 = .ok (.dup, 1) := by decide +kernel
theorem dL_law_4 : decode cL_law 4 = .ok (.invokespecial 77, 3) := by decide +kernel
theorem dL_law_7 : decode cL_law 7 = .ok (.astore_n 1, 1) := by decide +kernel
theorem dL_law_8 : decode cL_law 8 = .ok (.new 78, 3) := by decide +kernel
