theorem dL_cell_0 : decode cL_cell 0 = .ok (.iload_n 1, 1) := by decide +kernel
theorem dL_cell_1 : decode cL_cell 1 = .ok (.aload_n 0, 1) := by decide +kernel
theorem dL_cell_2 : decode cL_cell 2 = .ok (.arraylength, 1) := by decide +kernel
theorem dL_cell_3 : decode cL_cell 3 = .ok (.if_icmp .ge 9, 3) := by decide +kernel
theorem dL_cell_6 : decode cL_cell 6 = .ok (.aload_n 0, 1) := by decide +kernel
theorem dL_cell_7 : decode cL_cell 7 = .ok (.iload_n 1, 1) := by decide +kernel
theorem dL_cell_8 : decode cL_cell 8 = .ok (.iaload, 1) := by decide +kernel
theorem dL_cell_9 : decode cL_cell 9 = .ok (.goto 16, 3) := by decide +kernel
theorem dL_cell_12 : decode cL_cell 12 = .ok (.sipush 7919, 3) := by decide +kernel
theorem dL_cell_15 : decode cL_cell 15 = .ok (.iload_n 1, 1) := by decide +kernel
theorem dL_cell_16 : decode cL_cell 16 = .ok (.bipush 7, 2) := by decide +kernel
theorem dL_cell_18 : decode cL_cell 18 = .ok (.iadd, 1) := by decide +kernel
theorem dL_cell_19 : decode cL_cell 19 = .ok (.imul, 1) := by decide +kernel
theorem dL_cell_20 : decode cL_cell 20 = .ok (.iload_n 1, 1) := by decide +kernel
theorem dL_cell_21 : decode cL_cell 21 = .ok (.bipush 97, 2) := by decide +kernel
theorem dL_cell_23 : decode cL_cell 23 = .ok (.iadd, 1) := by decide +kernel
theorem dL_cell_24 : decode cL_cell 24 = .ok (.imul, 1) := by decide +kernel
theorem dL_cell_25 : decode cL_cell 25 = .ok (.ireturn, 1) := by decide +kernel
theorem dL_low_0 : decode cL_low 0 = .ok (.iload_n 0, 1) := by decide +kernel
theorem dL_low_1 : decode cL_low 1 = .ok (.ldc 7, 2) := by decide +kernel
theorem dL_low_3 : decode cL_low 3 = .ok (.iand, 1) := by decide +kernel
theorem dL_low_4 : decode cL_low 4 = .ok (.iload_n 1, 1) := by decide +kernel
theorem dL_low_5 : decode cL_low 5 = .ok (.irem, 1) := by decide +kernel
theorem dL_low_6 : decode cL_low 6 = .ok (.ireturn, 1) := by decide +kernel
set_option maxRecDepth 20000 in
theorem ggL_changes_X5_put : GoodIn wsL_changes wsX5_put := goodIn_ca (goodIn_ca (goodIn_r _ [8, 9, 10, 11, 12, 13, 14, 15, 16, 7, 17, 18, 19, 20, 21, 22, 23, 24, 25, 26, 27, 28, 29, 30, 31, 32, 33, 34, 35, 36, 37, 38, 39, 40, 41, 42, 43, 44, 45, 46, 47, 48, 49, 50, 51, 52, 53, 54, 55, 56, 57, 58, 59, 60, 61, 62, 63, 64, 65, 66, 67, 68, 69, 70, 71, 72, 73, 74, 75, 76, 77, 78, 79, 80, 81, 82, 83, 84, 85, 86, 87, 88, 89, 90, 91, 92, 93, 94, 95, 96, 97, 98, 99, 100, 101, 102, 103, 104, 105, 106, 107, 108, 109, 110, 111, 112, 113, 114, 115, 116, 117, 179, 180, 181, 182, 183, 184, 185, 186, 187, 188, 189, 190, 191, 192, 193, 194, 195, 196, 197, 198] (by decide +kernel) (by decide +kernel)) (goodIn_sub (fun _ h => List.mem_cons_of_mem _ (List.mem_append_left _ (List.mem_append_left _ (List.mem_append_right _ h)))) (by decide +kernel))) (goodIn_sub (fun _ h => List.mem_cons_of_mem _ (List.mem_append_left _ (List.mem_append_right _ h))) (by decide +kernel))
set_option maxRecDepth 20000 in
theorem gL_changes_X5_put : GoodIn wsL_changes (wsV RL 8 RX5 yX5_put wsX5_put) := goodIn_app (goodIn_of _ (by decide +kernel)) ggL_changes_X5_put
set_option maxRecDepth 20000 in
theorem ggL_changes_X5_kinds : GoodIn wsL_changes wsX5_kinds := goodIn_ca (goodIn_ca (goodIn_r _ [121, 9, 10, 122, 123, 14, 15, 16, 7, 17, 18, 19, 20, 21, 22, 23, 24, 25, 26, 27, 28, 29, 30, 31, 32, 33, 34, 35, 36, 37, 38, 39, 40, 41, 42, 43, 44, 45, 46, 47, 48, 49, 50, 51, 52, 53, 54, 55, 56, 57, 58, 59, 60, 61, 62, 63, 64, 65, 66, 67, 68, 69, 70, 71, 72, 73, 74, 75, 76, 77, 78, 79, 80, 81, 82, 83, 84, 85, 86, 87, 88, 89, 90, 91, 92, 93, 94, 95, 96, 97, 98, 99, 100, 101, 102, 103, 104, 105, 106, 107, 108, 109, 110, 111, 112, 113, 114, 115, 116, 117, 179, 180, 181, 182, 183, 184, 185, 186, 187, 188, 189, 190, 191, 192, 193, 194, 195, 196, 197, 198] (by decide +kernel) (by decide +kernel)) (goodIn_sub (fun _ h => List.mem_cons_of_mem _ (List.mem_append_left _ (List.mem_append_left _ (List.mem_append_right _ h)))) (by decide +kernel))) (goodIn_sub (fun _ h => List.mem_cons_of_mem _ (List.mem_append_left _ (List.mem_append_right _ h))) (by decide +kernel))
set_option maxRecDepth 20000 in
theorem gL_changes_X5_kinds : GoodIn wsL_changes (wsV RL 14 RX5 yX5_kinds wsX5_kinds) := goodIn_app (goodIn_of _ (by decide +kernel)) ggL_changes_X5_kinds
set_option maxRecDepth 20000 in
theorem ggL_changes_X5_rope : GoodIn wsL_changes wsX5_rope := goodIn_ca (goodIn_ca (goodIn_r _ [127, 9, 10, 128, 14, 15, 16, 7, 17, 18, 19, 20, 21, 22, 23, 24, 25, 26, 27, 28, 29, 30, 31, 32, 33, 34, 35, 36, 37, 38, 39, 40, 41, 42, 43, 44, 45, 46, 47, 48, 49, 50, 51, 52, 53, 54, 55, 56, 57, 58, 59, 60, 61, 62, 63, 64, 65, 66, 67, 68, 69, 70, 71, 72, 73, 74, 75, 76, 77, 78, 79, 80, 81, 82, 83, 84, 85, 86, 87, 88, 89, 90, 91, 92, 93, 94, 95, 96, 97, 98, 99, 100, 101, 102, 103, 104, 105, 106, 107, 108, 109, 110, 111, 112, 113, 114, 115, 116, 117, 179, 180, 181, 182, 183, 184, 185, 186, 187, 188, 189, 190, 191, 192, 193, 194, 195, 196, 197, 198] (by decide +kernel) (by decide +kernel)) (goodIn_sub (fun _ h => List.mem_cons_of_mem _ (List.mem_append_left _ (List.mem_append_left _ (List.mem_append_right _ h)))) (by decide +kernel))) (goodIn_sub (fun _ h => List.mem_cons_of_mem _ (List.mem_append_left _ (List.mem_append_right _ h))) (by decide +kernel))
set_option maxRecDepth 20000 in
theorem gL_changes_X5_rope : GoodIn wsL_changes (wsV RL 18 RX5 yX5_rope wsX5_rope) := goodIn_app (goodIn_of _ (by decide +kernel)) ggL_changes_X5_rope
set_option maxRecDepth 20000 in
theorem ggL_changes_X5_on : GoodIn wsL_changes wsX5_on := goodIn_ca (goodIn_ca (goodIn_ca (goodIn_r _ [132, 133, 134, 9, 10, 135, 14, 15, 16, 7, 17, 18, 19, 20, 21, 22, 23, 24, 25, 136, 137, 138, 49, 139, 58, 26, 27, 28, 29, 30, 31, 32, 33, 34, 35, 36, 37, 38, 39, 40, 41, 42, 43, 44, 45, 46, 47, 48, 50, 51, 52, 53, 54, 55, 56, 57, 59, 60, 140, 141, 142, 143, 61, 62, 63, 64, 65, 66, 67, 68, 69, 70, 71, 72, 73, 74, 75, 76, 77, 78, 79, 80, 81, 82, 83, 84, 85, 86, 87, 88, 89, 90, 91, 92, 93, 94, 95, 96, 97, 98, 99, 100, 101, 102, 103, 104, 105, 106, 107, 108, 109, 110, 111, 112, 113, 114, 115, 116, 117, 179, 180, 181, 182, 183, 184, 185, 186, 187, 188, 189, 190, 191, 192, 193, 194, 195, 196, 197, 198] (by decide +kernel) (by decide +kernel)) (goodIn_sub (fun _ h => List.mem_cons_of_mem _ (List.mem_append_right _ h)) (by decide +kernel))) (goodIn_sub (fun _ h => List.mem_cons_of_mem _ (List.mem_append_left _ (List.mem_append_left _ (List.mem_append_right _ h)))) (by decide +kernel))) (goodIn_sub (fun _ h => List.mem_cons_of_mem _ (List.mem_append_left _ (List.mem_append_right _ h))) (by decide +kernel))
set_option maxRecDepth 20000 in
theorem gL_changes_X5_on : GoodIn wsL_changes (wsV RL 22 RX5 yX5_on wsX5_on) := goodIn_app (goodIn_of _ (by decide +kernel)) ggL_changes_X5_on
set_option maxRecDepth 20000 in
theorem ggL_changes_X5_off : GoodIn wsL_changes wsX5_off := goodIn_ca (goodIn_r _ [147, 9, 10, 135, 14, 15, 16, 7, 17, 18, 19, 20, 148, 149, 150, 151, 152, 153, 49, 154, 58, 26, 27, 28, 29, 30, 31, 32, 33, 34, 35, 36, 37, 38, 39, 40, 41, 42, 43, 44, 45, 46, 47, 48, 50, 51, 52, 53, 54, 55, 56, 57, 59, 60, 155, 156, 157, 158, 159, 61, 62, 63, 64, 65, 66, 67, 68, 69, 70, 71, 72, 73, 74, 75, 76, 77, 78, 79, 80, 81, 82, 83, 84, 85, 86, 87, 88, 89, 90, 91, 92, 93, 94, 95, 96, 97, 98, 99, 100, 101, 102, 103, 104, 105, 106, 107, 108, 109, 110, 111, 112, 113, 114, 115, 116, 117, 179, 180, 181, 182, 183, 184, 185, 186, 187, 188, 189, 190, 191, 192, 193, 194, 195, 196, 197, 198] (by decide +kernel) (by decide +kernel)) (goodIn_sub (fun _ h => List.mem_cons_of_mem _ (List.mem_append_left _ (List.mem_append_left _ (List.mem_append_right _ h)))) (by decide +kernel))
set_option maxRecDepth 20000 in
theorem gL_changes_X5_off : GoodIn wsL_changes (wsV RL 25 RX5 yX5_off wsX5_off) := goodIn_app (goodIn_of _ (by decide +kernel)) ggL_changes_X5_off
set_option maxRecDepth 20000 in
theorem ggL_changes_X5_climb : GoodIn wsL_changes wsX5_climb := goodIn_ca (goodIn_ca (goodIn_r _ [163, 9, 10, 14, 15, 16, 7, 17, 18, 19, 20, 148, 149, 150, 151, 152, 153, 49, 154, 58, 21, 22, 23, 24, 25, 26, 27, 28, 29, 30, 31, 32, 33, 34, 35, 36, 37, 38, 39, 40, 41, 42, 43, 44, 45, 46, 47, 48, 50, 51, 52, 53, 54, 55, 56, 57, 59, 60, 164, 165, 166, 167, 168, 169, 170, 171, 172, 173, 174, 159, 175, 176, 177, 178, 66, 67, 68, 69, 70, 71, 72, 73, 74, 75, 76, 77, 78, 79, 80, 81, 82, 83, 84, 85, 86, 87, 88, 89, 90, 91, 92, 93, 94, 95, 96, 97, 98, 99, 100, 101, 102, 103, 104, 105, 106, 107, 108, 109, 110, 111, 112, 65, 113, 114, 115, 116, 117, 179, 180, 181, 182, 193, 194, 195, 183, 184, 185, 186, 187, 188, 189, 190, 191, 192, 196, 197, 198] (by decide +kernel) (by decide +kernel)) (goodIn_sub (fun _ h => List.mem_cons_of_mem _ (List.mem_append_left _ (List.mem_append_left _ (List.mem_append_right _ h)))) (by decide +kernel))) (goodIn_sub (fun _ h => List.mem_cons_of_mem _ (List.mem_append_left _ (List.mem_append_right _ h))) (by decide +kernel))
set_option maxRecDepth 20000 in
theorem gL_changes_X5_climb : GoodIn wsL_changes (wsV RL 28 RX5 yX5_climb wsX5_climb) := goodIn_app (goodIn_of _ (by decide +kernel)) ggL_changes_X5_climb
theorem dL_changes_0 : decode cL_changes 0 = .ok (.aload 5, 2) := by decide +kernel
theorem dL_changes_2 : decode cL_changes 2 = .ok (.iconst 0, 1) := by decide +kernel
theorem dL_changes_3 : decode cL_changes 3 = .ok (.iload_n 1, 1) := by decide +kernel
theorem dL_changes_4 : decode cL_changes 4 = .ok (.ifCond .ne 19, 3) := by decide +kernel
theorem dL_changes_7 : decode cL_changes 7 = .ok (.aload_n 0, 1) := by decide +kernel
theorem dL_changes_8 : decode cL_changes 8 = .ok (.iload_n 2, 1) := by decide +kernel
theorem dL_changes_9 : decode cL_changes 9 = .ok (.iload_n 3, 1) := by decide +kernel
theorem dL_changes_10 : decode cL_changes 10 = .ok (.iload 4, 2) := by decide +kernel
theorem dL_changes_12 : decode cL_changes 12 = .ok (.iconst 5, 1) := by decide +kernel
theorem dL_changes_13 : decode cL_changes 13 = .ok (.iload_n 3, 1) := by decide +kernel
theorem dL_changes_14 : decode cL_changes 14 = .ok (.iconst 2, 1) := by decide +kernel
theorem dL_changes_15 : decode cL_changes 15 = .ok (.idiv, 1) := by decide +kernel
theorem dL_changes_16 : decode cL_changes 16 = .ok (.iadd, 1) := by decide +kernel
theorem dL_changes_17 : decode cL_changes 17 = .ok (.invokevirtual 8, 3) := by decide +kernel
theorem dL_changes_20 : decode cL_changes 20 = .ok (.goto 69, 3) := by decide +kernel
theorem dL_changes_23 : decode cL_changes 23 = .ok (.iload_n 1, 1) := by decide +kernel
theorem dL_changes_24 : decode cL_changes 24 = .ok (.iconst 1, 1) := by decide +kernel
theorem dL_changes_25 : decode cL_changes 25 = .ok (.if_icmp .ne 14, 3) := by decide +kernel
theorem dL_changes_28 : decode cL_changes 28 = .ok (.aload_n 0, 1) := by decide +kernel
theorem dL_changes_29 : decode cL_changes 29 = .ok (.iload_n 2, 1) := by decide +kernel
theorem dL_changes_30 : decode cL_changes 30 = .ok (.iload_n 3, 1) := by decide +kernel
theorem dL_changes_31 : decode cL_changes 31 = .ok (.iload 4, 2) := by decide +kernel
theorem dL_changes_33 : decode cL_changes 33 = .ok (.invokevirtual 14, 3) := by decide +kernel
theorem dL_changes_36 : decode cL_changes 36 = .ok (.goto 53, 3) := by decide +kernel
theorem dL_changes_39 : decode cL_changes 39 = .ok (.iload_n 1, 1) := by decide +kernel
theorem dL_changes_40 : decode cL_changes 40 = .ok (.iconst 2, 1) := by decide +kernel
theorem dL_changes_41 : decode cL_changes 41 = .ok (.if_icmp .ne 12, 3) := by decide +kernel
theorem dL_changes_44 : decode cL_changes 44 = .ok (.aload_n 0, 1) := by decide +kernel
theorem dL_changes_45 : decode cL_changes 45 = .ok (.iload_n 2, 1) := by decide +kernel
theorem dL_changes_46 : decode cL_changes 46 = .ok (.iload_n 3, 1) := by decide +kernel
theorem dL_changes_47 : decode cL_changes 47 = .ok (.invokevirtual 18, 3) := by decide +kernel
theorem dL_changes_50 : decode cL_changes 50 = .ok (.goto 39, 3) := by decide +kernel
theorem dL_changes_53 : decode cL_changes 53 = .ok (.iload_n 1, 1) := by decide +kernel
theorem dL_changes_54 : decode cL_changes 54 = .ok (.iconst 3, 1) := by decide +kernel
theorem dL_changes_55 : decode cL_changes 55 = .ok (.if_icmp .ne 12, 3) := by decide +kernel
theorem dL_changes_58 : decode cL_changes 58 = .ok (.aload_n 0, 1) := by decide +kernel
theorem dL_changes_59 : decode cL_changes 59 = .ok (.iload_n 2, 1) := by decide +kernel
theorem dL_changes_60 : decode cL_changes 60 = .ok (.iload_n 3, 1) := by decide +kernel
theorem dL_changes_61 : decode cL_changes 61 = .ok (.invokevirtual 22, 3) := by decide +kernel
theorem dL_changes_64 : decode cL_changes 64 = .ok (.goto 25, 3) := by decide +kernel
theorem dL_changes_67 : decode cL_changes 67 = .ok (.iload_n 1, 1) := by decide +kernel
theorem dL_changes_68 : decode cL_changes 68 = .ok (.iconst 4, 1) := by decide +kernel
theorem dL_changes_69 : decode cL_changes 69 = .ok (.if_icmp .ne 12, 3) := by decide +kernel
theorem dL_changes_72 : decode cL_changes 72 = .ok (.aload_n 0, 1) := by decide +kernel
theorem dL_changes_73 : decode cL_changes 73 = .ok (.iload_n 2, 1) := by decide +kernel
theorem dL_changes_74 : decode cL_changes 74 = .ok (.iload_n 3, 1) := by decide +kernel
theorem dL_changes_75 : decode cL_changes 75 = .ok (.invokevirtual 25, 3) := by decide +kernel
theorem dL_changes_78 : decode cL_changes 78 = .ok (.goto 11, 3) := by decide +kernel
theorem dL_changes_81 : decode cL_changes 81 = .ok (.aload_n 0, 1) := by decide +kernel
theorem dL_changes_82 : decode cL_changes 82 = .ok (.iload_n 2, 1) := by decide +kernel
theorem dL_changes_83 : decode cL_changes 83 = .ok (.iload 4, 2) := by decide +kernel
theorem dL_changes_85 : decode cL_changes 85 = .ok (.iload_n 3, 1) := by decide +kernel
theorem dL_changes_86 : decode cL_changes 86 = .ok (.invokevirtual 28, 3) := by decide +kernel
theorem dL_changes_89 : decode cL_changes 89 = .ok (.iastore, 1) := by decide +kernel
theorem dL_changes_90 : decode cL_changes 90 = .ok (.goto 15, 3) := by decide +kernel
theorem dL_changes_93 : decode cL_changes 93 = .ok (.astore 6, 2) := by decide +kernel
theorem dL_changes_95 : decode cL_changes 95 = .ok (.iconst 1, 1) := by decide +kernel
theorem dL_changes_96 : decode cL_changes 96 = .ok (.ireturn, 1) := by decide +kernel
theorem dL_changes_97 : decode cL_changes 97 = .ok (.astore 6, 2) := by decide +kernel
theorem dL_changes_99 : decode cL_changes 99 = .ok (.iconst 2, 1) := by decide +kernel
theorem dL_changes_100 : decode cL_changes 100 = .ok (.ireturn, 1) := by decide +kernel
theorem dL_changes_101 : decode cL_changes 101 = .ok (.astore 6, 2) := by decide +kernel
theorem dL_changes_103 : decode cL_changes 103 = .ok (.iconst 3, 1) := by decide +kernel
theorem dL_changes_104 : decode cL_changes 104 = .ok (.ireturn, 1) := by decide +kernel
theorem dL_changes_105 : decode cL_changes 105 = .ok (.iconst 0, 1) := by decide +kernel
theorem dL_changes_106 : decode cL_changes 106 = .ok (.ireturn, 1) := by decide +kernel
set_option maxRecDepth 20000 in
theorem ggL_act_L_low : GoodIn wsL_act wsL_low := goodIn_r _ [4, 5] (by decide +kernel) (by decide +kernel)
set_option maxRecDepth 20000 in
theorem gL_act_L_low : GoodIn wsL_act (va_wsS RL 37 yL_low wsL_low) := goodIn_app (goodIn_of _ (by decide +kernel)) ggL_act_L_low
set_option maxRecDepth 20000 in
theorem ggL_act_L_changes : GoodIn wsL_act wsL_changes := goodIn_ca (goodIn_ca (goodIn_ca (goodIn_r _ [8, 9, 10, 11, 12, 13, 14, 15, 16, 17, 18, 19, 20, 21, 22, 23, 24, 25, 26, 27, 28, 29, 30, 31, 32, 33, 34, 35, 36, 37, 38, 39, 40, 41, 42, 43, 44, 45, 46, 47, 48, 49, 50, 51, 52, 53, 54, 55, 56, 57, 58, 59, 60, 61, 62, 63, 64, 65, 66, 67, 68, 69, 70, 71, 72, 73, 74, 75, 76, 77, 78, 79, 80, 81, 82, 83, 84, 85, 86, 87, 88, 89, 90, 91, 92, 93, 94, 95, 96, 97, 98, 99, 100, 101, 102, 103, 104, 105, 106, 107, 108, 109, 110, 111, 112, 113, 114, 115, 116, 117, 118, 119, 120, 121, 122, 123, 124, 125, 126, 127, 128, 129, 130, 131, 132, 133, 134, 135, 136, 137, 138, 139, 140, 141, 142, 143, 144, 145, 146, 147, 148, 149, 150, 151, 152, 153, 154, 155, 156, 157, 158, 159, 160, 161, 162, 163, 164, 165, 166, 167, 168, 169, 170, 171, 172, 173, 174, 175, 176, 177, 178, 179, 180, 181, 182, 183, 184, 185, 186, 187, 188, 189, 190, 191, 192, 193, 194, 195, 196, 197, 198, 199, 200, 201, 202, 203, 204, 205, 206] (by decide +kernel) (by decide +kernel)) (goodIn_sub (fun _ h => List.mem_cons_of_mem _ (List.mem_append_left _ (List.mem_append_left _ (List.mem_append_right _ h)))) (by decide +kernel))) (goodIn_sub (fun _ h => List.mem_cons_of_mem _ (List.mem_append_left _ (List.mem_append_right _ h))) (by decide +kernel))) (goodIn_sub (fun _ h => List.mem_cons_of_mem _ (List.mem_append_right _ h)) (by decide +kernel))
set_option maxRecDepth 20000 in
theorem gL_act_L_changes : GoodIn wsL_act (va_wsS RL 42 yL_changes wsL_changes) := goodIn_app (goodIn_of _ (by decide +kernel)) ggL_act_L_changes
theorem dL_act_0 : decode cL_act 0 = .ok (.iload_n 1, 1) := by decide +kernel
theorem dL_act_1 : decode cL_act 1 = .ok (.bipush 16, 2) := by decide +kernel
theorem dL_act_3 : decode cL_act 3 = .ok (.invokestatic 37, 3) := by decide +kernel
theorem dL_act_6 : decode cL_act 6 = .ok (.istore_n 3, 1) := by decide +kernel
theorem dL_act_7 : decode cL_act 7 = .ok (.iload_n 1, 1) := by decide +kernel
theorem dL_act_8 : decode cL_act 8 = .ok (.iconst 4, 1) := by decide +kernel
theorem dL_act_9 : decode cL_act 9 = .ok (.ishr, 1) := by decide +kernel
theorem dL_act_10 : decode cL_act 10 = .ok (.istore 4, 2) := by decide +kernel
theorem dL_act_12 : decode cL_act 12 = .ok (.iload 4, 2) := by decide +kernel
theorem dL_act_14 : decode cL_act 14 = .ok (.iload_n 1, 1) := by decide +kernel
theorem dL_act_15 : decode cL_act 15 = .ok (.bipush 23, 2) := by decide +kernel
theorem dL_act_17 : decode cL_act 17 = .ok (.ishr, 1) := by decide +kernel
theorem dL_act_18 : decode cL_act 18 = .ok (.bipush 6, 2) := by decide +kernel
theorem dL_act_20 : decode cL_act 20 = .ok (.invokestatic 37, 3) := by decide +kernel
theorem dL_act_23 : decode cL_act 23 = .ok (.ifCond .ne 7, 3) := by decide +kernel
theorem dL_act_26 : decode cL_act 26 = .ok (.iconst 5, 1) := by decide +kernel
theorem dL_act_27 : decode cL_act 27 = .ok (.goto 4, 3) := by decide +kernel
theorem dL_act_30 : decode cL_act 30 = .ok (.iconst 3, 1) := by decide +kernel
theorem dL_act_31 : decode cL_act 31 = .ok (.invokestatic 37, 3) := by decide +kernel
theorem dL_act_34 : decode cL_act 34 = .ok (.istore 5, 2) := by decide +kernel
theorem dL_act_36 : decode cL_act 36 = .ok (.iload_n 1, 1) := by decide +kernel
theorem dL_act_37 : decode cL_act 37 = .ok (.bipush 20, 2) := by decide +kernel
theorem dL_act_39 : decode cL_act 39 = .ok (.ishr, 1) := by decide +kernel
theorem dL_act_40 : decode cL_act 40 = .ok (.iconst 5, 1) := by decide +kernel
theorem dL_act_41 : decode cL_act 41 = .ok (.invokestatic 37, 3) := by decide +kernel
theorem dL_act_44 : decode cL_act 44 = .ok (.ifCond .le 7, 3) := by decide +kernel
theorem dL_act_47 : decode cL_act 47 = .ok (.iconst 1, 1) := by decide +kernel
theorem dL_act_48 : decode cL_act 48 = .ok (.goto 4, 3) := by decide +kernel
theorem dL_act_51 : decode cL_act 51 = .ok (.iconst 0, 1) := by decide +kernel
theorem dL_act_52 : decode cL_act 52 = .ok (.istore 6, 2) := by decide +kernel
theorem dL_act_54 : decode cL_act 54 = .ok (.iload_n 3, 1) := by decide +kernel
theorem dL_act_55 : decode cL_act 55 = .ok (.iconst 5, 1) := by decide +kernel
theorem dL_act_56 : decode cL_act 56 = .ok (.if_icmp .ge 35, 3) := by decide +kernel
theorem dL_act_59 : decode cL_act 59 = .ok (.aload_n 0, 1) := by decide +kernel
theorem dL_act_60 : decode cL_act 60 = .ok (.iconst 3, 1) := by decide +kernel
theorem dL_act_61 : decode cL_act 61 = .ok (.iload 5, 2) := by decide +kernel
theorem dL_act_63 : decode cL_act 63 = .ok (.iload 6, 2) := by decide +kernel
theorem dL_act_65 : decode cL_act 65 = .ok (.ifCond .eq 8, 3) := by decide +kernel
theorem dL_act_68 : decode cL_act 68 = .ok (.bipush 20, 2) := by decide +kernel
theorem dL_act_70 : decode cL_act 70 = .ok (.goto 4, 3) := by decide +kernel
theorem dL_act_73 : decode cL_act 73 = .ok (.iconst 0, 1) := by decide +kernel
theorem dL_act_74 : decode cL_act 74 = .ok (.iload 4, 2) := by decide +kernel
theorem dL_act_76 : decode cL_act 76 = .ok (.iconst 3, 1) := by decide +kernel
theorem dL_act_77 : decode cL_act 77 = .ok (.ishr, 1) := by decide +kernel
theorem dL_act_78 : decode cL_act 78 = .ok (.sipush 131, 3) := by decide +kernel
theorem dL_act_81 : decode cL_act 81 = .ok (.invokestatic 37, 3) := by decide +kernel
theorem dL_act_84 : decode cL_act 84 = .ok (.iadd, 1) := by decide +kernel
theorem dL_act_85 : decode cL_act 85 = .ok (.iconst 0, 1) := by decide +kernel
theorem dL_act_86 : decode cL_act 86 = .ok (.aload_n 2, 1) := by decide +kernel
theorem dL_act_87 : decode cL_act 87 = .ok (.invokestatic 42, 3) := by decide +kernel
theorem dL_act_90 : decode cL_act 90 = .ok (.ireturn, 1) := by decide +kernel
theorem dL_act_91 : decode cL_act 91 = .ok (.iload_n 3, 1) := by decide +kernel
theorem dL_act_92 : decode cL_act 92 = .ok (.bipush 10, 2) := by decide +kernel
theorem dL_act_94 : decode cL_act 94 = .ok (.if_icmp .ge 39, 3) := by decide +kernel
theorem dL_act_97 : decode cL_act 97 = .ok (.aload_n 0, 1) := by decide +kernel
theorem dL_act_98 : decode cL_act 98 = .ok (.iconst 5, 1) := by decide +kernel
theorem dL_act_99 : decode cL_act 99 = .ok (.iload 5, 2) := by decide +kernel
theorem dL_act_101 : decode cL_act 101 = .ok (.iload 4, 2) := by decide +kernel
theorem dL_act_103 : decode cL_act 103 = .ok (.iconst 3, 1) := by decide +kernel
theorem dL_act_104 : decode cL_act 104 = .ok (.ishr, 1) := by decide +kernel
theorem dL_act_105 : decode cL_act 105 = .ok (.iload 6, 2) := by decide +kernel
theorem dL_act_107 : decode cL_act 107 = .ok (.ifCond .eq 8, 3) := by decide +kernel
theorem dL_act_110 : decode cL_act 110 = .ok (.bipush 11, 2) := by decide +kernel
theorem dL_act_112 : decode cL_act 112 = .ok (.goto 5, 3) := by decide +kernel
theorem dL_act_115 : decode cL_act 115 = .ok (.bipush 13, 2) := by decide +kernel
theorem dL_act_117 : decode cL_act 117 = .ok (.invokestatic 37, 3) := by decide +kernel
theorem dL_act_120 : decode cL_act 120 = .ok (.iload 4, 2) := by decide +kernel
theorem dL_act_122 : decode cL_act 122 = .ok (.iconst 5, 1) := by decide +kernel
theorem dL_act_123 : decode cL_act 123 = .ok (.ishr, 1) := by decide +kernel
theorem dL_act_124 : decode cL_act 124 = .ok (.iconst 3, 1) := by decide +kernel
theorem dL_act_125 : decode cL_act 125 = .ok (.invokestatic 37, 3) := by decide +kernel
theorem dL_act_128 : decode cL_act 128 = .ok (.aload_n 2, 1) := by decide +kernel
theorem dL_act_129 : decode cL_act 129 = .ok (.invokestatic 42, 3) := by decide +kernel
theorem dL_act_132 : decode cL_act 132 = .ok (.ireturn, 1) := by decide +kernel
theorem dL_act_133 : decode cL_act 133 = .ok (.iload_n 3, 1) := by decide +kernel
theorem dL_act_134 : decode cL_act 134 = .ok (.bipush 10, 2) := by decide +kernel
theorem dL_act_136 : decode cL_act 136 = .ok (.if_icmp .ne 21, 3) := by decide +kernel
theorem dL_act_139 : decode cL_act 139 = .ok (.aload_n 0, 1) := by decide +kernel
theorem dL_act_140 : decode cL_act 140 = .ok (.iconst 4, 1) := by decide +kernel
theorem dL_act_141 : decode cL_act 141 = .ok (.iload 5, 2) := by decide +kernel
theorem dL_act_143 : decode cL_act 143 = .ok (.iload 4, 2) := by decide +kernel
theorem dL_act_145 : decode cL_act 145 = .ok (.iconst 3, 1) := by decide +kernel
theorem dL_act_146 : decode cL_act 146 = .ok (.ishr, 1) := by decide +kernel
theorem dL_act_147 : decode cL_act 147 = .ok (.iconst 3, 1) := by decide +kernel
theorem dL_act_148 : decode cL_act 148 = .ok (.invokestatic 37, 3) := by decide +kernel
theorem dL_act_151 : decode cL_act 151 = .ok (.iconst 0, 1) := by decide +kernel
theorem dL_act_152 : decode cL_act 152 = .ok (.aload_n 2, 1) := by decide +kernel
theorem dL_act_153 : decode cL_act 153 = .ok (.invokestatic 42, 3) := by decide +kernel
theorem dL_act_156 : decode cL_act 156 = .ok (.ireturn, 1) := by decide +kernel
theorem dL_act_157 : decode cL_act 157 = .ok (.iload_n 3, 1) := by decide +kernel
theorem dL_act_158 : decode cL_act 158 = .ok (.bipush 13, 2) := by decide +kernel
theorem dL_act_160 : decode cL_act 160 = .ok (.if_icmp .ge 55, 3) := by decide +kernel
theorem dL_act_163 : decode cL_act 163 = .ok (.aload_n 0, 1) := by decide +kernel
theorem dL_act_164 : decode cL_act 164 = .ok (.iconst 0, 1) := by decide +kernel
theorem dL_act_165 : decode cL_act 165 = .ok (.iload 5, 2) := by decide +kernel
theorem dL_act_167 : decode cL_act 167 = .ok (.iload 6, 2) := by decide +kernel
theorem dL_act_169 : decode cL_act 169 = .ok (.ifCond .eq 8, 3) := by decide +kernel
theorem dL_act_172 : decode cL_act 172 = .ok (.bipush 10, 2) := by decide +kernel
theorem dL_act_174 : decode cL_act 174 = .ok (.goto 4, 3) := by decide +kernel
theorem dL_act_177 : decode cL_act 177 = .ok (.iconst 0, 1) := by decide +kernel
theorem dL_act_178 : decode cL_act 178 = .ok (.iload 4, 2) := by decide +kernel
theorem dL_act_180 : decode cL_act 180 = .ok (.iconst 3, 1) := by decide +kernel
theorem dL_act_181 : decode cL_act 181 = .ok (.ishr, 1) := by decide +kernel
theorem dL_act_182 : decode cL_act 182 = .ok (.bipush 91, 2) := by decide +kernel
theorem dL_act_184 : decode cL_act 184 = .ok (.invokestatic 37, 3) := by decide +kernel
theorem dL_act_187 : decode cL_act 187 = .ok (.iadd, 1) := by decide +kernel
theorem dL_act_188 : decode cL_act 188 = .ok (.iload 6, 2) := by decide +kernel
theorem dL_act_190 : decode cL_act 190 = .ok (.ifCond .eq 8, 3) := by decide +kernel
theorem dL_act_193 : decode cL_act 193 = .ok (.bipush 50, 2) := by decide +kernel
theorem dL_act_195 : decode cL_act 195 = .ok (.goto 4, 3) := by decide +kernel
theorem dL_act_198 : decode cL_act 198 = .ok (.iconst 0, 1) := by decide +kernel
theorem dL_act_199 : decode cL_act 199 = .ok (.iload 4, 2) := by decide +kernel
theorem dL_act_201 : decode cL_act 201 = .ok (.iconst 5, 1) := by decide +kernel
theorem dL_act_202 : decode cL_act 202 = .ok (.ishr, 1) := by decide +kernel
theorem dL_act_203 : decode cL_act 203 = .ok (.sipush 251, 3) := by decide +kernel
theorem dL_act_206 : decode cL_act 206 = .ok (.invokestatic 37, 3) := by decide +kernel
theorem dL_act_209 : decode cL_act 209 = .ok (.iadd, 1) := by decide +kernel
theorem dL_act_210 : decode cL_act 210 = .ok (.aload_n 2, 1) := by decide +kernel
theorem dL_act_211 : decode cL_act 211 = .ok (.invokestatic 42, 3) := by decide +kernel
theorem dL_act_214 : decode cL_act 214 = .ok (.ireturn, 1) := by decide +kernel
theorem dL_act_215 : decode cL_act 215 = .ok (.iload_n 3, 1) := by decide +kernel
theorem dL_act_216 : decode cL_act 216 = .ok (.bipush 13, 2) := by decide +kernel
theorem dL_act_218 : decode cL_act 218 = .ok (.if_icmp .ne 39, 3) := by decide +kernel
theorem dL_act_221 : decode cL_act 221 = .ok (.aload_n 0, 1) := by decide +kernel
theorem dL_act_222 : decode cL_act 222 = .ok (.iconst 1, 1) := by decide +kernel
theorem dL_act_223 : decode cL_act 223 = .ok (.iload 5, 2) := by decide +kernel
theorem dL_act_225 : decode cL_act 225 = .ok (.iload 4, 2) := by decide +kernel
theorem dL_act_227 : decode cL_act 227 = .ok (.iconst 3, 1) := by decide +kernel
theorem dL_act_228 : decode cL_act 228 = .ok (.ishr, 1) := by decide +kernel
theorem dL_act_229 : decode cL_act 229 = .ok (.iload 6, 2) := by decide +kernel
theorem dL_act_231 : decode cL_act 231 = .ok (.ifCond .eq 7, 3) := by decide +kernel
theorem dL_act_234 : decode cL_act 234 = .ok (.iconst 4, 1) := by decide +kernel
theorem dL_act_235 : decode cL_act 235 = .ok (.goto 4, 3) := by decide +kernel
theorem dL_act_238 : decode cL_act 238 = .ok (.iconst 5, 1) := by decide +kernel
theorem dL_act_239 : decode cL_act 239 = .ok (.invokestatic 37, 3) := by decide +kernel
theorem dL_act_242 : decode cL_act 242 = .ok (.iload 4, 2) := by decide +kernel
theorem dL_act_244 : decode cL_act 244 = .ok (.iconst 5, 1) := by decide +kernel
theorem dL_act_245 : decode cL_act 245 = .ok (.ishr, 1) := by decide +kernel
theorem dL_act_246 : decode cL_act 246 = .ok (.iconst 4, 1) := by decide +kernel
theorem dL_act_247 : decode cL_act 247 = .ok (.invokestatic 37, 3) := by decide +kernel
theorem dL_act_250 : decode cL_act 250 = .ok (.aload_n 2, 1) := by decide +kernel
theorem dL_act_251 : decode cL_act 251 = .ok (.invokestatic 42, 3) := by decide +kernel
theorem dL_act_254 : decode cL_act 254 = .ok (.goto 32, 3) := by decide +kernel
theorem dL_act_257 : decode cL_act 257 = .ok (.aload_n 0, 1) := by decide +kernel
theorem dL_act_258 : decode cL_act 258 = .ok (.iconst 2, 1) := by decide +kernel
theorem dL_act_259 : decode cL_act 259 = .ok (.iload 5, 2) := by decide +kernel
theorem dL_act_261 : decode cL_act 261 = .ok (.iload 4, 2) := by decide +kernel
theorem dL_act_263 : decode cL_act 263 = .ok (.iconst 3, 1) := by decide +kernel
theorem dL_act_264 : decode cL_act 264 = .ok (.ishr, 1) := by decide +kernel
theorem dL_act_265 : decode cL_act 265 = .ok (.iload 6, 2) := by decide +kernel
theorem dL_act_267 : decode cL_act 267 = .ok (.ifCond .eq 8, 3) := by decide +kernel
theorem dL_act_270 : decode cL_act 270 = .ok (.bipush 60, 2) := by decide +kernel
theorem dL_act_272 : decode cL_act 272 = .ok (.goto 6, 3) := by decide +kernel
theorem dL_act_275 : decode cL_act 275 = .ok (.sipush 220, 3) := by decide +kernel
theorem dL_act_278 : decode cL_act 278 = .ok (.invokestatic 37, 3) := by decide +kernel
theorem dL_act_281 : decode cL_act 281 = .ok (.iconst 0, 1) := by decide +kernel
theorem dL_act_282 : decode cL_act 282 = .ok (.aload_n 2, 1) := by decide +kernel
theorem dL_act_283 : decode cL_act 283 = .ok (.invokestatic 42, 3) := by decide +kernel
theorem dL_act_286 : decode cL_act 286 = .ok (.ireturn, 1) := by decide +kernel
set_option maxRecDepth 20000 in
theorem ggL_areAlike_X5_count : GoodIn wsL_areAlike wsX5_count := goodIn_ca (goodIn_r _ [5, 6, 7, 8, 9, 10, 11, 12, 13, 14, 15, 16, 17, 18, 19, 20, 21, 22, 23, 24, 25, 26, 27, 28, 29, 30, 31, 32, 33, 34, 35, 36, 37, 38, 39, 40, 41, 42, 43, 44, 45, 46, 47, 48, 49, 50, 51, 52, 53, 54, 55, 56, 57, 58, 59, 60, 61, 62, 63, 64, 65, 66, 67, 68, 69, 70, 71, 72, 73, 74, 75, 76, 77, 78, 79, 80, 81, 125, 126, 127, 128, 129, 130, 131, 132, 133, 134, 135, 136, 137, 138, 139, 140, 141, 142, 143, 144] (by decide +kernel) (by decide +kernel)) (goodIn_sub (fun _ h => List.mem_cons_of_mem _ (List.mem_append_left _ (List.mem_append_right _ h))) (by decide +kernel))
set_option maxRecDepth 20000 in
theorem gL_areAlike_X5_count : GoodIn wsL_areAlike (wsV RL 46 RX5 yX5_count wsX5_count) := goodIn_app (goodIn_of _ (by decide +kernel)) ggL_areAlike_X5_count
set_option maxRecDepth 20000 in
theorem ggL_areAlike_X5_ladder : GoodIn wsL_areAlike wsX5_ladder := goodIn_ca (goodIn_ca (goodIn_r _ [85, 6, 7, 86, 87, 88, 89, 90, 91, 92, 93, 94, 95, 96, 4, 97, 98, 99, 8, 100, 101, 65, 66, 22, 67, 47, 49, 102, 44, 45, 46, 48, 38, 103, 20, 21, 23, 24, 25, 26, 27, 28, 29, 30, 31, 32, 33, 34, 35, 36, 37, 39, 40, 41, 42, 43, 50, 51, 52, 53, 54, 55, 56, 57, 58, 59, 60, 61, 62, 63, 64, 68, 69, 70, 71, 135, 136, 137, 138, 139, 140, 141, 142, 143, 144, 125, 126, 127, 128, 129, 130, 131] (by decide +kernel) (by decide +kernel)) (goodIn_sub (fun _ h => List.mem_cons_of_mem _ (List.mem_append_left _ (List.mem_append_right _ h))) (by decide +kernel))) (goodIn_sub (fun _ h => List.mem_cons_of_mem _ (List.mem_append_right _ h)) (by decide +kernel))
set_option maxRecDepth 20000 in
theorem gL_areAlike_X5_ladder : GoodIn wsL_areAlike (wsV RL 50 RX5 yX5_ladder wsX5_ladder) := goodIn_app (goodIn_of _ (by decide +kernel)) ggL_areAlike_X5_ladder
set_option maxRecDepth 20000 in
theorem ggL_areAlike_X5_person : GoodIn wsL_areAlike wsX5_person := goodIn_ca (goodIn_ca (goodIn_r _ [107, 6, 7, 94, 95, 96, 4, 97, 98, 99, 8, 100, 108, 109, 110, 111, 112, 113, 22, 114, 115, 116, 117, 118, 119, 49, 120, 121, 122, 123, 124, 48, 125, 126, 127, 128, 129, 130, 131, 135, 136, 137, 138, 139, 140, 141, 142, 143, 144] (by decide +kernel) (by decide +kernel)) (goodIn_sub (fun _ h => List.mem_cons_of_mem _ (List.mem_append_left _ (List.mem_append_right _ h))) (by decide +kernel))) (goodIn_sub (fun _ h => List.mem_cons_of_mem _ (List.mem_append_right _ h)) (by decide +kernel))
set_option maxRecDepth 20000 in
theorem gL_areAlike_X5_person : GoodIn wsL_areAlike (wsV RL 53 RX5 yX5_person wsX5_person) := goodIn_app (goodIn_of _ (by decide +kernel)) ggL_areAlike_X5_person
theorem dL_areAlike_0 : decode cL_areAlike 0 = .ok (.iconst 1, 1) := by decide +kernel
theorem dL_areAlike_1 : decode cL_areAlike 1 = .ok (.istore_n 2, 1) := by decide +kernel
theorem dL_areAlike_2 : decode cL_areAlike 2 = .ok (.iconst 0, 1) := by decide +kernel
theorem dL_areAlike_3 : decode cL_areAlike 3 = .ok (.istore_n 3, 1) := by decide +kernel
theorem dL_areAlike_4 : decode cL_areAlike 4 = .ok (.iload_n 3, 1) := by decide +kernel
theorem dL_areAlike_5 : decode cL_areAlike 5 = .ok (.iconst 5, 1) := by decide +kernel
theorem dL_areAlike_6 : decode cL_areAlike 6 = .ok (.if_icmp .ge 32, 3) := by decide +kernel
theorem dL_areAlike_9 : decode cL_areAlike 9 = .ok (.iload_n 2, 1) := by decide +kernel
theorem dL_areAlike_10 : decode cL_areAlike 10 = .ok (.ifCond .eq 20, 3) := by decide +kernel
theorem dL_areAlike_13 : decode cL_areAlike 13 = .ok (.aload_n 0, 1) := by decide +kernel
theorem dL_areAlike_14 : decode cL_areAlike 14 = .ok (.iload_n 3, 1) := by decide +kernel
theorem dL_areAlike_15 : decode cL_areAlike 15 = .ok (.invokevirtual 46, 3) := by decide +kernel
theorem dL_areAlike_18 : decode cL_areAlike 18 = .ok (.aload_n 1, 1) := by decide +kernel
theorem dL_areAlike_19 : decode cL_areAlike 19 = .ok (.iload_n 3, 1) := by decide +kernel
theorem dL_areAlike_20 : decode cL_areAlike 20 = .ok (.invokevirtual 46, 3) := by decide +kernel
