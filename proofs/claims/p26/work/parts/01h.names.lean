theorem dL_areAlike_23 : decode cL_areAlike 23 = .ok (.if_icmp .ne 7, 3) := by decide +kernel
theorem dL_areAlike_26 : decode cL_areAlike 26 = .ok (.iconst 1, 1) := by decide +kernel
theorem dL_areAlike_27 : decode cL_areAlike 27 = .ok (.goto 4, 3) := by decide +kernel
theorem dL_areAlike_30 : decode cL_areAlike 30 = .ok (.iconst 0, 1) := by decide +kernel
theorem dL_areAlike_31 : decode cL_areAlike 31 = .ok (.istore_n 2, 1) := by decide +kernel
theorem dL_areAlike_32 : decode cL_areAlike 32 = .ok (.iinc 3 1, 3) := by decide +kernel
theorem dL_areAlike_35 : decode cL_areAlike 35 = .ok (.goto (-31), 3) := by decide +kernel
theorem dL_areAlike_38 : decode cL_areAlike 38 = .ok (.iconst 0, 1) := by decide +kernel
theorem dL_areAlike_39 : decode cL_areAlike 39 = .ok (.istore_n 3, 1) := by decide +kernel
theorem dL_areAlike_40 : decode cL_areAlike 40 = .ok (.iload_n 3, 1) := by decide +kernel
theorem dL_areAlike_41 : decode cL_areAlike 41 = .ok (.iconst 4, 1) := by decide +kernel
theorem dL_areAlike_42 : decode cL_areAlike 42 = .ok (.if_icmp .ge 121, 3) := by decide +kernel
theorem dL_areAlike_45 : decode cL_areAlike 45 = .ok (.iconst 0, 1) := by decide +kernel
theorem dL_areAlike_46 : decode cL_areAlike 46 = .ok (.istore 4, 2) := by decide +kernel
theorem dL_areAlike_48 : decode cL_areAlike 48 = .ok (.iload 4, 2) := by decide +kernel
theorem dL_areAlike_50 : decode cL_areAlike 50 = .ok (.bipush 10, 2) := by decide +kernel
theorem dL_areAlike_52 : decode cL_areAlike 52 = .ok (.if_icmp .ge 36, 3) := by decide +kernel
theorem dL_areAlike_55 : decode cL_areAlike 55 = .ok (.iload_n 2, 1) := by decide +kernel
theorem dL_areAlike_56 : decode cL_areAlike 56 = .ok (.ifCond .eq 24, 3) := by decide +kernel
theorem dL_areAlike_59 : decode cL_areAlike 59 = .ok (.aload_n 0, 1) := by decide +kernel
theorem dL_areAlike_60 : decode cL_areAlike 60 = .ok (.iload_n 3, 1) := by decide +kernel
theorem dL_areAlike_61 : decode cL_areAlike 61 = .ok (.iload 4, 2) := by decide +kernel
theorem dL_areAlike_63 : decode cL_areAlike 63 = .ok (.invokevirtual 50, 3) := by decide +kernel
theorem dL_areAlike_66 : decode cL_areAlike 66 = .ok (.aload_n 1, 1) := by decide +kernel
theorem dL_areAlike_67 : decode cL_areAlike 67 = .ok (.iload_n 3, 1) := by decide +kernel
theorem dL_areAlike_68 : decode cL_areAlike 68 = .ok (.iload 4, 2) := by decide +kernel
theorem dL_areAlike_70 : decode cL_areAlike 70 = .ok (.invokevirtual 50, 3) := by decide +kernel
theorem dL_areAlike_73 : decode cL_areAlike 73 = .ok (.if_icmp .ne 7, 3) := by decide +kernel
theorem dL_areAlike_76 : decode cL_areAlike 76 = .ok (.iconst 1, 1) := by decide +kernel
theorem dL_areAlike_77 : decode cL_areAlike 77 = .ok (.goto 4, 3) := by decide +kernel
theorem dL_areAlike_80 : decode cL_areAlike 80 = .ok (.iconst 0, 1) := by decide +kernel
theorem dL_areAlike_81 : decode cL_areAlike 81 = .ok (.istore_n 2, 1) := by decide +kernel
theorem dL_areAlike_82 : decode cL_areAlike 82 = .ok (.iinc 4 1, 3) := by decide +kernel
theorem dL_areAlike_85 : decode cL_areAlike 85 = .ok (.goto (-37), 3) := by decide +kernel
theorem dL_areAlike_88 : decode cL_areAlike 88 = .ok (.iconst 0, 1) := by decide +kernel
theorem dL_areAlike_89 : decode cL_areAlike 89 = .ok (.istore 4, 2) := by decide +kernel
theorem dL_areAlike_91 : decode cL_areAlike 91 = .ok (.iload 4, 2) := by decide +kernel
theorem dL_areAlike_93 : decode cL_areAlike 93 = .ok (.aload_n 0, 1) := by decide +kernel
theorem dL_areAlike_94 : decode cL_areAlike 94 = .ok (.iload_n 3, 1) := by decide +kernel
theorem dL_areAlike_95 : decode cL_areAlike 95 = .ok (.bipush 6, 2) := by decide +kernel
theorem dL_areAlike_97 : decode cL_areAlike 97 = .ok (.invokevirtual 50, 3) := by decide +kernel
theorem dL_areAlike_100 : decode cL_areAlike 100 = .ok (.if_icmp .ge 57, 3) := by decide +kernel
theorem dL_areAlike_103 : decode cL_areAlike 103 = .ok (.iload_n 2, 1) := by decide +kernel
theorem dL_areAlike_104 : decode cL_areAlike 104 = .ok (.ifCond .eq 45, 3) := by decide +kernel
theorem dL_areAlike_107 : decode cL_areAlike 107 = .ok (.aload_n 0, 1) := by decide +kernel
theorem dL_areAlike_108 : decode cL_areAlike 108 = .ok (.iload_n 3, 1) := by decide +kernel
theorem dL_areAlike_109 : decode cL_areAlike 109 = .ok (.iload 4, 2) := by decide +kernel
theorem dL_areAlike_111 : decode cL_areAlike 111 = .ok (.iconst 0, 1) := by decide +kernel
theorem dL_areAlike_112 : decode cL_areAlike 112 = .ok (.invokevirtual 53, 3) := by decide +kernel
theorem dL_areAlike_115 : decode cL_areAlike 115 = .ok (.aload_n 1, 1) := by decide +kernel
theorem dL_areAlike_116 : decode cL_areAlike 116 = .ok (.iload_n 3, 1) := by decide +kernel
theorem dL_areAlike_117 : decode cL_areAlike 117 = .ok (.iload 4, 2) := by decide +kernel
theorem dL_areAlike_119 : decode cL_areAlike 119 = .ok (.iconst 0, 1) := by decide +kernel
theorem dL_areAlike_120 : decode cL_areAlike 120 = .ok (.invokevirtual 53, 3) := by decide +kernel
theorem dL_areAlike_123 : decode cL_areAlike 123 = .ok (.if_icmp .ne 26, 3) := by decide +kernel
theorem dL_areAlike_126 : decode cL_areAlike 126 = .ok (.aload_n 0, 1) := by decide +kernel
theorem dL_areAlike_127 : decode cL_areAlike 127 = .ok (.iload_n 3, 1) := by decide +kernel
theorem dL_areAlike_128 : decode cL_areAlike 128 = .ok (.iload 4, 2) := by decide +kernel
theorem dL_areAlike_130 : decode cL_areAlike 130 = .ok (.iconst 1, 1) := by decide +kernel
theorem dL_areAlike_131 : decode cL_areAlike 131 = .ok (.invokevirtual 53, 3) := by decide +kernel
theorem dL_areAlike_134 : decode cL_areAlike 134 = .ok (.aload_n 1, 1) := by decide +kernel
theorem dL_areAlike_135 : decode cL_areAlike 135 = .ok (.iload_n 3, 1) := by decide +kernel
theorem dL_areAlike_136 : decode cL_areAlike 136 = .ok (.iload 4, 2) := by decide +kernel
theorem dL_areAlike_138 : decode cL_areAlike 138 = .ok (.iconst 1, 1) := by decide +kernel
theorem dL_areAlike_139 : decode cL_areAlike 139 = .ok (.invokevirtual 53, 3) := by decide +kernel
theorem dL_areAlike_142 : decode cL_areAlike 142 = .ok (.if_icmp .ne 7, 3) := by decide +kernel
theorem dL_areAlike_145 : decode cL_areAlike 145 = .ok (.iconst 1, 1) := by decide +kernel
theorem dL_areAlike_146 : decode cL_areAlike 146 = .ok (.goto 4, 3) := by decide +kernel
theorem dL_areAlike_149 : decode cL_areAlike 149 = .ok (.iconst 0, 1) := by decide +kernel
theorem dL_areAlike_150 : decode cL_areAlike 150 = .ok (.istore_n 2, 1) := by decide +kernel
theorem dL_areAlike_151 : decode cL_areAlike 151 = .ok (.iinc 4 1, 3) := by decide +kernel
theorem dL_areAlike_154 : decode cL_areAlike 154 = .ok (.goto (-63), 3) := by decide +kernel
theorem dL_areAlike_157 : decode cL_areAlike 157 = .ok (.iinc 3 1, 3) := by decide +kernel
theorem dL_areAlike_160 : decode cL_areAlike 160 = .ok (.goto (-120), 3) := by decide +kernel
theorem dL_areAlike_163 : decode cL_areAlike 163 = .ok (.iload_n 2, 1) := by decide +kernel
theorem dL_areAlike_164 : decode cL_areAlike 164 = .ok (.ireturn, 1) := by decide +kernel
set_option maxRecDepth 20000 in
theorem ggL_isLadderSo_X5_force : GoodIn wsL_isLadderSo wsX5_force := goodIn_ca (goodIn_ca (goodIn_r _ [5, 6, 7, 8, 4, 9, 10, 11, 12, 13, 14, 15, 16, 17, 18, 19, 20, 21, 22, 23, 24, 25, 26, 27, 28, 29, 30, 31, 32, 33, 34, 35, 36, 37, 38, 39, 40, 41, 42, 43, 44, 45, 46, 47, 48, 49, 50, 51, 52, 53, 54, 55, 56, 57, 58, 59, 60, 61, 62, 63, 64, 65, 66, 67, 68, 69, 70, 71, 72, 73, 74, 75, 76, 77, 78, 79, 80, 81, 82, 83, 84, 85, 86, 87, 88, 89, 136, 137, 138, 139, 140, 141, 142, 143, 144, 145, 146, 147, 148, 149, 150, 151, 152] (by decide +kernel) (by decide +kernel)) (goodIn_sub (fun _ h => List.mem_cons_of_mem _ (List.mem_append_left _ (List.mem_append_right _ h))) (by decide +kernel))) (goodIn_sub (fun _ h => List.mem_cons_of_mem _ (List.mem_append_right _ h)) (by decide +kernel))
set_option maxRecDepth 20000 in
theorem gL_isLadderSo_X5_force : GoodIn wsL_isLadderSo (wsV RL 56 RX5 yX5_force wsX5_force) := goodIn_app (goodIn_of _ (by decide +kernel)) ggL_isLadderSo_X5_force
set_option maxRecDepth 20000 in
theorem ggL_isLadderSo_X5_ladder : GoodIn wsL_isLadderSo wsX5_ladder := goodIn_ca (goodIn_ca (goodIn_r _ [93, 17, 18, 94, 95, 96, 97, 98, 99, 100, 101, 6, 7, 8, 4, 9, 10, 11, 12, 13, 89, 69, 70, 22, 71, 43, 45, 102, 40, 41, 42, 44, 33, 72, 73, 74, 75, 50, 51, 52, 53, 24, 25, 26, 27, 54, 55, 56, 57, 38, 32, 34, 35, 36, 37, 39, 46, 47, 48, 49, 58, 59, 60, 61, 62, 63, 64, 65, 66, 67, 68, 28, 29, 30, 31, 143, 144, 145, 146, 147, 148, 149, 150, 151, 152, 136, 137, 138, 139, 140, 141, 142] (by decide +kernel) (by decide +kernel)) (goodIn_sub (fun _ h => List.mem_cons_of_mem _ (List.mem_append_right _ h)) (by decide +kernel))) (goodIn_sub (fun _ h => List.mem_cons_of_mem _ (List.mem_append_left _ (List.mem_append_right _ h))) (by decide +kernel))
set_option maxRecDepth 20000 in
theorem gL_isLadderSo_X5_ladder : GoodIn wsL_isLadderSo (wsV RL 50 RX5 yX5_ladder wsX5_ladder) := goodIn_app (goodIn_of _ (by decide +kernel)) ggL_isLadderSo_X5_ladder
set_option maxRecDepth 20000 in
theorem ggL_isLadderSo_X5_person : GoodIn wsL_isLadderSo wsX5_person := goodIn_ca (goodIn_ca (goodIn_r _ [106, 17, 18, 6, 7, 8, 4, 9, 10, 11, 12, 13, 107, 108, 109, 110, 111, 112, 22, 113, 114, 115, 116, 117, 118, 45, 119, 120, 121, 122, 123, 44, 136, 137, 138, 139, 140, 141, 142, 143, 144, 145, 146, 147, 148, 149, 150, 151, 152] (by decide +kernel) (by decide +kernel)) (goodIn_sub (fun _ h => List.mem_cons_of_mem _ (List.mem_append_right _ h)) (by decide +kernel))) (goodIn_sub (fun _ h => List.mem_cons_of_mem _ (List.mem_append_left _ (List.mem_append_right _ h))) (by decide +kernel))
set_option maxRecDepth 20000 in
theorem gL_isLadderSo_X5_person : GoodIn wsL_isLadderSo (wsV RL 53 RX5 yX5_person wsX5_person) := goodIn_app (goodIn_of _ (by decide +kernel)) ggL_isLadderSo_X5_person
set_option maxRecDepth 20000 in
theorem ggL_isLadderSo_X5_held : GoodIn wsL_isLadderSo wsX5_held := goodIn_ca (goodIn_ca (goodIn_r _ [127, 6, 7, 8, 4, 9, 10, 11, 12, 13, 14, 15, 16, 17, 18, 128, 129, 130, 22, 131, 32, 132, 133, 26, 134, 38, 62, 135, 86, 87, 88, 33, 39, 40, 41, 42, 43, 44, 45, 68, 69, 70, 71, 34, 35, 36, 37, 63, 64, 65, 66, 67, 136, 137, 138, 139, 140, 141, 142, 143, 144, 145, 146, 147, 148, 149, 150, 151, 152] (by decide +kernel) (by decide +kernel)) (goodIn_sub (fun _ h => List.mem_cons_of_mem _ (List.mem_append_left _ (List.mem_append_right _ h))) (by decide +kernel))) (goodIn_sub (fun _ h => List.mem_cons_of_mem _ (List.mem_append_right _ h)) (by decide +kernel))
set_option maxRecDepth 20000 in
theorem gL_isLadderSo_X5_held : GoodIn wsL_isLadderSo (wsV RL 59 RX5 yX5_held wsX5_held) := goodIn_app (goodIn_of _ (by decide +kernel)) ggL_isLadderSo_X5_held
theorem dL_isLadderSo_0 : decode cL_isLadderSo 0 = .ok (.aload_n 0, 1) := by decide +kernel
theorem dL_isLadderSo_1 : decode cL_isLadderSo 1 = .ok (.iload_n 1, 1) := by decide +kernel
theorem dL_isLadderSo_2 : decode cL_isLadderSo 2 = .ok (.iconst 2, 1) := by decide +kernel
theorem dL_isLadderSo_3 : decode cL_isLadderSo 3 = .ok (.invokevirtual 56, 3) := by decide +kernel
theorem dL_isLadderSo_6 : decode cL_isLadderSo 6 = .ok (.istore_n 2, 1) := by decide +kernel
theorem dL_isLadderSo_7 : decode cL_isLadderSo 7 = .ok (.aload_n 0, 1) := by decide +kernel
theorem dL_isLadderSo_8 : decode cL_isLadderSo 8 = .ok (.iload_n 1, 1) := by decide +kernel
theorem dL_isLadderSo_9 : decode cL_isLadderSo 9 = .ok (.iconst 2, 1) := by decide +kernel
theorem dL_isLadderSo_10 : decode cL_isLadderSo 10 = .ok (.invokevirtual 50, 3) := by decide +kernel
theorem dL_isLadderSo_13 : decode cL_isLadderSo 13 = .ok (.istore_n 3, 1) := by decide +kernel
theorem dL_isLadderSo_14 : decode cL_isLadderSo 14 = .ok (.iconst 5, 1) := by decide +kernel
theorem dL_isLadderSo_15 : decode cL_isLadderSo 15 = .ok (.aload_n 0, 1) := by decide +kernel
theorem dL_isLadderSo_16 : decode cL_isLadderSo 16 = .ok (.iload_n 1, 1) := by decide +kernel
theorem dL_isLadderSo_17 : decode cL_isLadderSo 17 = .ok (.iconst 2, 1) := by decide +kernel
theorem dL_isLadderSo_18 : decode cL_isLadderSo 18 = .ok (.invokevirtual 50, 3) := by decide +kernel
theorem dL_isLadderSo_21 : decode cL_isLadderSo 21 = .ok (.imul, 1) := by decide +kernel
theorem dL_isLadderSo_22 : decode cL_isLadderSo 22 = .ok (.istore 4, 2) := by decide +kernel
theorem dL_isLadderSo_24 : decode cL_isLadderSo 24 = .ok (.iconst 0, 1) := by decide +kernel
theorem dL_isLadderSo_25 : decode cL_isLadderSo 25 = .ok (.istore 5, 2) := by decide +kernel
theorem dL_isLadderSo_27 : decode cL_isLadderSo 27 = .ok (.iload 5, 2) := by decide +kernel
theorem dL_isLadderSo_29 : decode cL_isLadderSo 29 = .ok (.aload_n 0, 1) := by decide +kernel
theorem dL_isLadderSo_30 : decode cL_isLadderSo 30 = .ok (.iload_n 1, 1) := by decide +kernel
theorem dL_isLadderSo_31 : decode cL_isLadderSo 31 = .ok (.bipush 6, 2) := by decide +kernel
theorem dL_isLadderSo_33 : decode cL_isLadderSo 33 = .ok (.invokevirtual 50, 3) := by decide +kernel
theorem dL_isLadderSo_36 : decode cL_isLadderSo 36 = .ok (.if_icmp .ge 42, 3) := by decide +kernel
theorem dL_isLadderSo_39 : decode cL_isLadderSo 39 = .ok (.iload_n 3, 1) := by decide +kernel
theorem dL_isLadderSo_40 : decode cL_isLadderSo 40 = .ok (.aload_n 0, 1) := by decide +kernel
theorem dL_isLadderSo_41 : decode cL_isLadderSo 41 = .ok (.iload_n 1, 1) := by decide +kernel
theorem dL_isLadderSo_42 : decode cL_isLadderSo 42 = .ok (.iload 5, 2) := by decide +kernel
theorem dL_isLadderSo_44 : decode cL_isLadderSo 44 = .ok (.iconst 0, 1) := by decide +kernel
theorem dL_isLadderSo_45 : decode cL_isLadderSo 45 = .ok (.invokevirtual 53, 3) := by decide +kernel
theorem dL_isLadderSo_48 : decode cL_isLadderSo 48 = .ok (.iadd, 1) := by decide +kernel
theorem dL_isLadderSo_49 : decode cL_isLadderSo 49 = .ok (.istore_n 3, 1) := by decide +kernel
theorem dL_isLadderSo_50 : decode cL_isLadderSo 50 = .ok (.iload 4, 2) := by decide +kernel
theorem dL_isLadderSo_52 : decode cL_isLadderSo 52 = .ok (.aload_n 0, 1) := by decide +kernel
theorem dL_isLadderSo_53 : decode cL_isLadderSo 53 = .ok (.iload_n 1, 1) := by decide +kernel
theorem dL_isLadderSo_54 : decode cL_isLadderSo 54 = .ok (.iload 5, 2) := by decide +kernel
theorem dL_isLadderSo_56 : decode cL_isLadderSo 56 = .ok (.iconst 0, 1) := by decide +kernel
theorem dL_isLadderSo_57 : decode cL_isLadderSo 57 = .ok (.invokevirtual 53, 3) := by decide +kernel
theorem dL_isLadderSo_60 : decode cL_isLadderSo 60 = .ok (.aload_n 0, 1) := by decide +kernel
theorem dL_isLadderSo_61 : decode cL_isLadderSo 61 = .ok (.iload_n 1, 1) := by decide +kernel
theorem dL_isLadderSo_62 : decode cL_isLadderSo 62 = .ok (.iload 5, 2) := by decide +kernel
theorem dL_isLadderSo_64 : decode cL_isLadderSo 64 = .ok (.iconst 1, 1) := by decide +kernel
theorem dL_isLadderSo_65 : decode cL_isLadderSo 65 = .ok (.invokevirtual 53, 3) := by decide +kernel
theorem dL_isLadderSo_68 : decode cL_isLadderSo 68 = .ok (.imul, 1) := by decide +kernel
theorem dL_isLadderSo_69 : decode cL_isLadderSo 69 = .ok (.iadd, 1) := by decide +kernel
theorem dL_isLadderSo_70 : decode cL_isLadderSo 70 = .ok (.istore 4, 2) := by decide +kernel
theorem dL_isLadderSo_72 : decode cL_isLadderSo 72 = .ok (.iinc 5 1, 3) := by decide +kernel
theorem dL_isLadderSo_75 : decode cL_isLadderSo 75 = .ok (.goto (-48), 3) := by decide +kernel
theorem dL_isLadderSo_78 : decode cL_isLadderSo 78 = .ok (.iload_n 3, 1) := by decide +kernel
theorem dL_isLadderSo_79 : decode cL_isLadderSo 79 = .ok (.aload_n 0, 1) := by decide +kernel
theorem dL_isLadderSo_80 : decode cL_isLadderSo 80 = .ok (.iload_n 1, 1) := by decide +kernel
theorem dL_isLadderSo_81 : decode cL_isLadderSo 81 = .ok (.bipush 7, 2) := by decide +kernel
theorem dL_isLadderSo_83 : decode cL_isLadderSo 83 = .ok (.invokevirtual 50, 3) := by decide +kernel
theorem dL_isLadderSo_86 : decode cL_isLadderSo 86 = .ok (.if_icmp .ne 72, 3) := by decide +kernel
theorem dL_isLadderSo_89 : decode cL_isLadderSo 89 = .ok (.iload 4, 2) := by decide +kernel
theorem dL_isLadderSo_91 : decode cL_isLadderSo 91 = .ok (.aload_n 0, 1) := by decide +kernel
theorem dL_isLadderSo_92 : decode cL_isLadderSo 92 = .ok (.iload_n 1, 1) := by decide +kernel
theorem dL_isLadderSo_93 : decode cL_isLadderSo 93 = .ok (.iconst 0, 1) := by decide +kernel
theorem dL_isLadderSo_94 : decode cL_isLadderSo 94 = .ok (.invokevirtual 50, 3) := by decide +kernel
theorem dL_isLadderSo_97 : decode cL_isLadderSo 97 = .ok (.imul, 1) := by decide +kernel
theorem dL_isLadderSo_98 : decode cL_isLadderSo 98 = .ok (.aload_n 0, 1) := by decide +kernel
theorem dL_isLadderSo_99 : decode cL_isLadderSo 99 = .ok (.iload_n 1, 1) := by decide +kernel
theorem dL_isLadderSo_100 : decode cL_isLadderSo 100 = .ok (.bipush 8, 2) := by decide +kernel
theorem dL_isLadderSo_102 : decode cL_isLadderSo 102 = .ok (.invokevirtual 50, 3) := by decide +kernel
theorem dL_isLadderSo_105 : decode cL_isLadderSo 105 = .ok (.if_icmp .ne 53, 3) := by decide +kernel
theorem dL_isLadderSo_108 : decode cL_isLadderSo 108 = .ok (.iload_n 2, 1) := by decide +kernel
theorem dL_isLadderSo_109 : decode cL_isLadderSo 109 = .ok (.ifCond .le 7, 3) := by decide +kernel
theorem dL_isLadderSo_112 : decode cL_isLadderSo 112 = .ok (.iconst 1, 1) := by decide +kernel
theorem dL_isLadderSo_113 : decode cL_isLadderSo 113 = .ok (.goto 4, 3) := by decide +kernel
theorem dL_isLadderSo_116 : decode cL_isLadderSo 116 = .ok (.iconst 0, 1) := by decide +kernel
theorem dL_isLadderSo_117 : decode cL_isLadderSo 117 = .ok (.aload_n 0, 1) := by decide +kernel
theorem dL_isLadderSo_118 : decode cL_isLadderSo 118 = .ok (.iload_n 1, 1) := by decide +kernel
theorem dL_isLadderSo_119 : decode cL_isLadderSo 119 = .ok (.bipush 10, 2) := by decide +kernel
theorem dL_isLadderSo_121 : decode cL_isLadderSo 121 = .ok (.invokevirtual 50, 3) := by decide +kernel
theorem dL_isLadderSo_124 : decode cL_isLadderSo 124 = .ok (.iconst 1, 1) := by decide +kernel
theorem dL_isLadderSo_125 : decode cL_isLadderSo 125 = .ok (.if_icmp .ne 7, 3) := by decide +kernel
theorem dL_isLadderSo_128 : decode cL_isLadderSo 128 = .ok (.iconst 1, 1) := by decide +kernel
theorem dL_isLadderSo_129 : decode cL_isLadderSo 129 = .ok (.goto 4, 3) := by decide +kernel
theorem dL_isLadderSo_132 : decode cL_isLadderSo 132 = .ok (.iconst 0, 1) := by decide +kernel
theorem dL_isLadderSo_133 : decode cL_isLadderSo 133 = .ok (.if_icmp .ne 25, 3) := by decide +kernel
theorem dL_isLadderSo_136 : decode cL_isLadderSo 136 = .ok (.aload_n 0, 1) := by decide +kernel
theorem dL_isLadderSo_137 : decode cL_isLadderSo 137 = .ok (.iload_n 1, 1) := by decide +kernel
theorem dL_isLadderSo_138 : decode cL_isLadderSo 138 = .ok (.bipush 6, 2) := by decide +kernel
theorem dL_isLadderSo_140 : decode cL_isLadderSo 140 = .ok (.invokevirtual 50, 3) := by decide +kernel
theorem dL_isLadderSo_143 : decode cL_isLadderSo 143 = .ok (.ifCond .eq 7, 3) := by decide +kernel
theorem dL_isLadderSo_146 : decode cL_isLadderSo 146 = .ok (.iload_n 2, 1) := by decide +kernel
theorem dL_isLadderSo_147 : decode cL_isLadderSo 147 = .ok (.ifCond .le 11, 3) := by decide +kernel
theorem dL_isLadderSo_150 : decode cL_isLadderSo 150 = .ok (.iload_n 2, 1) := by decide +kernel
theorem dL_isLadderSo_151 : decode cL_isLadderSo 151 = .ok (.ifCond .lt 7, 3) := by decide +kernel
theorem dL_isLadderSo_154 : decode cL_isLadderSo 154 = .ok (.iconst 1, 1) := by decide +kernel
theorem dL_isLadderSo_155 : decode cL_isLadderSo 155 = .ok (.goto 4, 3) := by decide +kernel
theorem dL_isLadderSo_158 : decode cL_isLadderSo 158 = .ok (.iconst 0, 1) := by decide +kernel
theorem dL_isLadderSo_159 : decode cL_isLadderSo 159 = .ok (.istore 5, 2) := by decide +kernel
theorem dL_isLadderSo_161 : decode cL_isLadderSo 161 = .ok (.iconst 0, 1) := by decide +kernel
theorem dL_isLadderSo_162 : decode cL_isLadderSo 162 = .ok (.istore 6, 2) := by decide +kernel
theorem dL_isLadderSo_164 : decode cL_isLadderSo 164 = .ok (.sipush (-1000), 3) := by decide +kernel
theorem dL_isLadderSo_167 : decode cL_isLadderSo 167 = .ok (.istore 7, 2) := by decide +kernel
theorem dL_isLadderSo_169 : decode cL_isLadderSo 169 = .ok (.iload 7, 2) := by decide +kernel
theorem dL_isLadderSo_171 : decode cL_isLadderSo 171 = .ok (.sipush 1000, 3) := by decide +kernel
theorem dL_isLadderSo_174 : decode cL_isLadderSo 174 = .ok (.if_icmp .gt 29, 3) := by decide +kernel
theorem dL_isLadderSo_177 : decode cL_isLadderSo 177 = .ok (.iload 6, 2) := by decide +kernel
theorem dL_isLadderSo_179 : decode cL_isLadderSo 179 = .ok (.aload_n 0, 1) := by decide +kernel
theorem dL_isLadderSo_180 : decode cL_isLadderSo 180 = .ok (.iload_n 1, 1) := by decide +kernel
theorem dL_isLadderSo_181 : decode cL_isLadderSo 181 = .ok (.iload 7, 2) := by decide +kernel
theorem dL_isLadderSo_183 : decode cL_isLadderSo 183 = .ok (.invokevirtual 59, 3) := by decide +kernel
theorem dL_isLadderSo_186 : decode cL_isLadderSo 186 = .ok (.ifCond .ne 7, 3) := by decide +kernel
theorem dL_isLadderSo_189 : decode cL_isLadderSo 189 = .ok (.iconst 1, 1) := by decide +kernel
theorem dL_isLadderSo_190 : decode cL_isLadderSo 190 = .ok (.goto 4, 3) := by decide +kernel
theorem dL_isLadderSo_193 : decode cL_isLadderSo 193 = .ok (.iconst 0, 1) := by decide +kernel
theorem dL_isLadderSo_194 : decode cL_isLadderSo 194 = .ok (.iadd, 1) := by decide +kernel
theorem dL_isLadderSo_195 : decode cL_isLadderSo 195 = .ok (.istore 6, 2) := by decide +kernel
theorem dL_isLadderSo_197 : decode cL_isLadderSo 197 = .ok (.iinc 7 1, 3) := by decide +kernel
theorem dL_isLadderSo_200 : decode cL_isLadderSo 200 = .ok (.goto (-31), 3) := by decide +kernel
theorem dL_isLadderSo_203 : decode cL_isLadderSo 203 = .ok (.iload_n 2, 1) := by decide +kernel
theorem dL_isLadderSo_204 : decode cL_isLadderSo 204 = .ok (.ifCond .ne 49, 3) := by decide +kernel
theorem dL_isLadderSo_207 : decode cL_isLadderSo 207 = .ok (.iload 5, 2) := by decide +kernel
theorem dL_isLadderSo_209 : decode cL_isLadderSo 209 = .ok (.ifCond .eq 42, 3) := by decide +kernel
theorem dL_isLadderSo_212 : decode cL_isLadderSo 212 = .ok (.iload 6, 2) := by decide +kernel
theorem dL_isLadderSo_214 : decode cL_isLadderSo 214 = .ok (.ifCond .ne 37, 3) := by decide +kernel
theorem dL_isLadderSo_217 : decode cL_isLadderSo 217 = .ok (.aload_n 0, 1) := by decide +kernel
theorem dL_isLadderSo_218 : decode cL_isLadderSo 218 = .ok (.iload_n 1, 1) := by decide +kernel
theorem dL_isLadderSo_219 : decode cL_isLadderSo 219 = .ok (.iconst 0, 1) := by decide +kernel
theorem dL_isLadderSo_220 : decode cL_isLadderSo 220 = .ok (.invokevirtual 56, 3) := by decide +kernel
theorem dL_isLadderSo_223 : decode cL_isLadderSo 223 = .ok (.iconst (-1), 1) := by decide +kernel
theorem dL_isLadderSo_224 : decode cL_isLadderSo 224 = .ok (.if_icmp .ne 27, 3) := by decide +kernel
theorem dL_isLadderSo_227 : decode cL_isLadderSo 227 = .ok (.aload_n 0, 1) := by decide +kernel
theorem dL_isLadderSo_228 : decode cL_isLadderSo 228 = .ok (.iload_n 1, 1) := by decide +kernel
theorem dL_isLadderSo_229 : decode cL_isLadderSo 229 = .ok (.iconst 3, 1) := by decide +kernel
theorem dL_isLadderSo_230 : decode cL_isLadderSo 230 = .ok (.invokevirtual 56, 3) := by decide +kernel
theorem dL_isLadderSo_233 : decode cL_isLadderSo 233 = .ok (.iconst (-1), 1) := by decide +kernel
theorem dL_isLadderSo_234 : decode cL_isLadderSo 234 = .ok (.if_icmp .ne 17, 3) := by decide +kernel
theorem dL_isLadderSo_237 : decode cL_isLadderSo 237 = .ok (.aload_n 0, 1) := by decide +kernel
theorem dL_isLadderSo_238 : decode cL_isLadderSo 238 = .ok (.iload_n 1, 1) := by decide +kernel
theorem dL_isLadderSo_239 : decode cL_isLadderSo 239 = .ok (.iconst 5, 1) := by decide +kernel
theorem dL_isLadderSo_240 : decode cL_isLadderSo 240 = .ok (.invokevirtual 56, 3) := by decide +kernel
theorem dL_isLadderSo_243 : decode cL_isLadderSo 243 = .ok (.iconst (-1), 1) := by decide +kernel
theorem dL_isLadderSo_244 : decode cL_isLadderSo 244 = .ok (.if_icmp .ne 7, 3) := by decide +kernel
theorem dL_isLadderSo_247 : decode cL_isLadderSo 247 = .ok (.iconst 1, 1) := by decide +kernel
theorem dL_isLadderSo_248 : decode cL_isLadderSo 248 = .ok (.goto 4, 3) := by decide +kernel
theorem dL_isLadderSo_251 : decode cL_isLadderSo 251 = .ok (.iconst 0, 1) := by decide +kernel
theorem dL_isLadderSo_252 : decode cL_isLadderSo 252 = .ok (.ireturn, 1) := by decide +kernel
theorem dL_isLadderSo_253 : decode cL_isLadderSo 253 = .ok (.aload_n 0, 1) := by decide +kernel
theorem dL_isLadderSo_254 : decode cL_isLadderSo 254 = .ok (.iload_n 1, 1) := by decide +kernel
theorem dL_isLadderSo_255 : decode cL_isLadderSo 255 = .ok (.iconst 0, 1) := by decide +kernel
theorem dL_isLadderSo_256 : decode cL_isLadderSo 256 = .ok (.invokevirtual 56, 3) := by decide +kernel
theorem dL_isLadderSo_259 : decode cL_isLadderSo 259 = .ok (.sipush 1000, 3) := by decide +kernel
theorem dL_isLadderSo_262 : decode cL_isLadderSo 262 = .ok (.isub, 1) := by decide +kernel
theorem dL_isLadderSo_263 : decode cL_isLadderSo 263 = .ok (.istore 7, 2) := by decide +kernel
theorem dL_isLadderSo_265 : decode cL_isLadderSo 265 = .ok (.aload_n 0, 1) := by decide +kernel
theorem dL_isLadderSo_266 : decode cL_isLadderSo 266 = .ok (.iload_n 1, 1) := by decide +kernel
theorem dL_isLadderSo_267 : decode cL_isLadderSo 267 = .ok (.iconst 1, 1) := by decide +kernel
theorem dL_isLadderSo_268 : decode cL_isLadderSo 268 = .ok (.invokevirtual 56, 3) := by decide +kernel
theorem dL_isLadderSo_271 : decode cL_isLadderSo 271 = .ok (.sipush 1000, 3) := by decide +kernel
theorem dL_isLadderSo_274 : decode cL_isLadderSo 274 = .ok (.isub, 1) := by decide +kernel
theorem dL_isLadderSo_275 : decode cL_isLadderSo 275 = .ok (.istore 8, 2) := by decide +kernel
theorem dL_isLadderSo_277 : decode cL_isLadderSo 277 = .ok (.aload_n 0, 1) := by decide +kernel
theorem dL_isLadderSo_278 : decode cL_isLadderSo 278 = .ok (.iload_n 1, 1) := by decide +kernel
theorem dL_isLadderSo_279 : decode cL_isLadderSo 279 = .ok (.iconst 3, 1) := by decide +kernel
theorem dL_isLadderSo_280 : decode cL_isLadderSo 280 = .ok (.invokevirtual 56, 3) := by decide +kernel
theorem dL_isLadderSo_283 : decode cL_isLadderSo 283 = .ok (.sipush 1000, 3) := by decide +kernel
theorem dL_isLadderSo_286 : decode cL_isLadderSo 286 = .ok (.isub, 1) := by decide +kernel
theorem dL_isLadderSo_287 : decode cL_isLadderSo 287 = .ok (.istore 9, 2) := by decide +kernel
theorem dL_isLadderSo_289 : decode cL_isLadderSo 289 = .ok (.iload 5, 2) := by decide +kernel
theorem dL_isLadderSo_291 : decode cL_isLadderSo 291 = .ok (.ifCond .eq 94, 3) := by decide +kernel
theorem dL_isLadderSo_294 : decode cL_isLadderSo 294 = .ok (.iload 6, 2) := by decide +kernel
theorem dL_isLadderSo_296 : decode cL_isLadderSo 296 = .ok (.iload_n 2, 1) := by decide +kernel
theorem dL_isLadderSo_297 : decode cL_isLadderSo 297 = .ok (.if_icmp .ne 88, 3) := by decide +kernel
theorem dL_isLadderSo_300 : decode cL_isLadderSo 300 = .ok (.iload 8, 2) := by decide +kernel
theorem dL_isLadderSo_302 : decode cL_isLadderSo 302 = .ok (.iload 7, 2) := by decide +kernel
theorem dL_isLadderSo_304 : decode cL_isLadderSo 304 = .ok (.isub, 1) := by decide +kernel
theorem dL_isLadderSo_305 : decode cL_isLadderSo 305 = .ok (.iconst 1, 1) := by decide +kernel
theorem dL_isLadderSo_306 : decode cL_isLadderSo 306 = .ok (.iadd, 1) := by decide +kernel
theorem dL_isLadderSo_307 : decode cL_isLadderSo 307 = .ok (.iload_n 2, 1) := by decide +kernel
theorem dL_isLadderSo_308 : decode cL_isLadderSo 308 = .ok (.if_icmp .ne 77, 3) := by decide +kernel
theorem dL_isLadderSo_311 : decode cL_isLadderSo 311 = .ok (.aload_n 0, 1) := by decide +kernel
theorem dL_isLadderSo_312 : decode cL_isLadderSo 312 = .ok (.iload_n 1, 1) := by decide +kernel
theorem dL_isLadderSo_313 : decode cL_isLadderSo 313 = .ok (.iload 7, 2) := by decide +kernel
theorem dL_isLadderSo_315 : decode cL_isLadderSo 315 = .ok (.invokevirtual 59, 3) := by decide +kernel
theorem dL_isLadderSo_318 : decode cL_isLadderSo 318 = .ok (.ifCond .ne 67, 3) := by decide +kernel
theorem dL_isLadderSo_321 : decode cL_isLadderSo 321 = .ok (.aload_n 0, 1) := by decide +kernel
theorem dL_isLadderSo_322 : decode cL_isLadderSo 322 = .ok (.iload_n 1, 1) := by decide +kernel
theorem dL_isLadderSo_323 : decode cL_isLadderSo 323 = .ok (.iload 8, 2) := by decide +kernel
theorem dL_isLadderSo_325 : decode cL_isLadderSo 325 = .ok (.invokevirtual 59, 3) := by decide +kernel
theorem dL_isLadderSo_328 : decode cL_isLadderSo 328 = .ok (.ifCond .ne 57, 3) := by decide +kernel
theorem dL_isLadderSo_331 : decode cL_isLadderSo 331 = .ok (.aload_n 0, 1) := by decide +kernel
theorem dL_isLadderSo_332 : decode cL_isLadderSo 332 = .ok (.iload_n 1, 1) := by decide +kernel
theorem dL_isLadderSo_333 : decode cL_isLadderSo 333 = .ok (.iload 9, 2) := by decide +kernel
theorem dL_isLadderSo_335 : decode cL_isLadderSo 335 = .ok (.invokevirtual 59, 3) := by decide +kernel
theorem dL_isLadderSo_338 : decode cL_isLadderSo 338 = .ok (.ifCond .ne 47, 3) := by decide +kernel
theorem dL_isLadderSo_341 : decode cL_isLadderSo 341 = .ok (.iload 7, 2) := by decide +kernel
theorem dL_isLadderSo_343 : decode cL_isLadderSo 343 = .ok (.sipush (-1000), 3) := by decide +kernel
theorem dL_isLadderSo_346 : decode cL_isLadderSo 346 = .ok (.if_icmp .eq 15, 3) := by decide +kernel
theorem dL_isLadderSo_349 : decode cL_isLadderSo 349 = .ok (.aload_n 0, 1) := by decide +kernel
theorem dL_isLadderSo_350 : decode cL_isLadderSo 350 = .ok (.iload_n 1, 1) := by decide +kernel
theorem dL_isLadderSo_351 : decode cL_isLadderSo 351 = .ok (.iload 7, 2) := by decide +kernel
theorem dL_isLadderSo_353 : decode cL_isLadderSo 353 = .ok (.iconst 1, 1) := by decide +kernel
theorem dL_isLadderSo_354 : decode cL_isLadderSo 354 = .ok (.isub, 1) := by decide +kernel
theorem dL_isLadderSo_355 : decode cL_isLadderSo 355 = .ok (.invokevirtual 59, 3) := by decide +kernel
theorem dL_isLadderSo_358 : decode cL_isLadderSo 358 = .ok (.ifCond .le 27, 3) := by decide +kernel
theorem dL_isLadderSo_361 : decode cL_isLadderSo 361 = .ok (.iload 8, 2) := by decide +kernel
theorem dL_isLadderSo_363 : decode cL_isLadderSo 363 = .ok (.sipush 1000, 3) := by decide +kernel
theorem dL_isLadderSo_366 : decode cL_isLadderSo 366 = .ok (.if_icmp .eq 15, 3) := by decide +kernel
