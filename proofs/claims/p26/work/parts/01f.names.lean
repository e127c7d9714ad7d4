set_option maxRecDepth 20000 in
theorem gX5_force_X2_greatestForce : GoodIn wsX5_force (wsV RX5 174 RX2 yX2_greatestForce wsX2_greatestForce) := goodIn_app (goodIn_of _ (by decide +kernel)) ggX5_force_X2_greatestForce
set_option maxRecDepth 20000 in
theorem ggX5_force_X2_nearestForce : GoodIn wsX5_force wsX2_nearestForce := goodIn_r _ [77, 78, 79, 22, 80, 20, 21, 23, 46, 47, 48, 18, 49, 50, 51, 52, 53, 34, 28, 29, 30, 31, 32, 33, 35, 36, 37, 38, 39, 40, 41, 42, 43, 44, 45, 54, 55, 56, 57, 58, 59, 60, 61, 62, 63, 64, 65, 66, 67, 24, 25, 26, 27, 93, 94, 95, 96, 97, 98, 99, 100, 101, 102] (by decide +kernel) (by decide +kernel)
set_option maxRecDepth 20000 in
theorem gX5_force_X2_nearestForce : GoodIn wsX5_force (wsV RX5 177 RX2 yX2_nearestForce wsX2_nearestForce) := goodIn_app (goodIn_of _ (by decide +kernel)) ggX5_force_X2_nearestForce
set_option maxRecDepth 20000 in
theorem ggX5_force_X2_push : GoodIn wsX5_force wsX2_push := goodIn_r _ [84, 29, 35, 36, 37, 18, 38, 39, 40, 41, 93, 94, 95, 96, 97, 98, 99, 100, 101, 102] (by decide +kernel) (by decide +kernel)
set_option maxRecDepth 20000 in
theorem gX5_force_X2_push : GoodIn wsX5_force (wsV RX5 180 RX2 yX2_push wsX2_push) := goodIn_app (goodIn_of _ (by decide +kernel)) ggX5_force_X2_push
set_option maxRecDepth 20000 in
theorem ggX5_force_X2_load : GoodIn wsX5_force wsX2_load := goodIn_r _ [67, 39, 41, 93, 94, 95, 96, 97, 98, 99, 100, 101, 102] (by decide +kernel) (by decide +kernel)
set_option maxRecDepth 20000 in
theorem gX5_force_X2_load : GoodIn wsX5_force (wsV RX5 145 RX2 yX2_load wsX2_load) := goodIn_app (goodIn_of _ (by decide +kernel)) ggX5_force_X2_load
theorem dX5_force_0 : decode cX5_force 0 = .ok (.aload_n 0, 1) := by decide +kernel
theorem dX5_force_1 : decode cX5_force 1 = .ok (.iload_n 1, 1) := by decide +kernel
theorem dX5_force_2 : decode cX5_force 2 = .ok (.invokevirtual 37, 3) := by decide +kernel
theorem dX5_force_5 : decode cX5_force 5 = .ok (.astore_n 3, 1) := by decide +kernel
theorem dX5_force_6 : decode cX5_force 6 = .ok (.iload_n 2, 1) := by decide +kernel
theorem dX5_force_7 : decode cX5_force 7 = .ok (.iconst 0, 1) := by decide +kernel
theorem dX5_force_8 : decode cX5_force 8 = .ok (.iconst 5, 1) := by decide +kernel
theorem dX5_force_9 : decode cX5_force 9 = .ok (.invokestatic 41, 3) := by decide +kernel
theorem dX5_force_12 : decode cX5_force 12 = .ok (.iload_n 2, 1) := by decide +kernel
theorem dX5_force_13 : decode cX5_force 13 = .ok (.iconst 2, 1) := by decide +kernel
theorem dX5_force_14 : decode cX5_force 14 = .ok (.if_icmp .ne 8, 3) := by decide +kernel
theorem dX5_force_17 : decode cX5_force 17 = .ok (.aload_n 3, 1) := by decide +kernel
theorem dX5_force_18 : decode cX5_force 18 = .ok (.invokevirtual 168, 3) := by decide +kernel
theorem dX5_force_21 : decode cX5_force 21 = .ok (.ireturn, 1) := by decide +kernel
theorem dX5_force_22 : decode cX5_force 22 = .ok (.aload_n 3, 1) := by decide +kernel
theorem dX5_force_23 : decode cX5_force 23 = .ok (.invokevirtual 154, 3) := by decide +kernel
theorem dX5_force_26 : decode cX5_force 26 = .ok (.ifCond .ne 5, 3) := by decide +kernel
theorem dX5_force_29 : decode cX5_force 29 = .ok (.iconst (-1), 1) := by decide +kernel
theorem dX5_force_30 : decode cX5_force 30 = .ok (.ireturn, 1) := by decide +kernel
theorem dX5_force_31 : decode cX5_force 31 = .ok (.iload_n 2, 1) := by decide +kernel
theorem dX5_force_32 : decode cX5_force 32 = .ok (.tableswitch 72 0 4 #[36, 45, 72, 54, 63], 36) := by decide +kernel
theorem dX5_force_68 : decode cX5_force 68 = .ok (.aload_n 3, 1) := by decide +kernel
theorem dX5_force_69 : decode cX5_force 69 = .ok (.invokevirtual 171, 3) := by decide +kernel
theorem dX5_force_72 : decode cX5_force 72 = .ok (.sipush 1000, 3) := by decide +kernel
theorem dX5_force_75 : decode cX5_force 75 = .ok (.iadd, 1) := by decide +kernel
theorem dX5_force_76 : decode cX5_force 76 = .ok (.ireturn, 1) := by decide +kernel
theorem dX5_force_77 : decode cX5_force 77 = .ok (.aload_n 3, 1) := by decide +kernel
theorem dX5_force_78 : decode cX5_force 78 = .ok (.invokevirtual 174, 3) := by decide +kernel
theorem dX5_force_81 : decode cX5_force 81 = .ok (.sipush 1000, 3) := by decide +kernel
theorem dX5_force_84 : decode cX5_force 84 = .ok (.iadd, 1) := by decide +kernel
theorem dX5_force_85 : decode cX5_force 85 = .ok (.ireturn, 1) := by decide +kernel
theorem dX5_force_86 : decode cX5_force 86 = .ok (.aload_n 3, 1) := by decide +kernel
theorem dX5_force_87 : decode cX5_force 87 = .ok (.invokevirtual 177, 3) := by decide +kernel
theorem dX5_force_90 : decode cX5_force 90 = .ok (.sipush 1000, 3) := by decide +kernel
theorem dX5_force_93 : decode cX5_force 93 = .ok (.iadd, 1) := by decide +kernel
theorem dX5_force_94 : decode cX5_force 94 = .ok (.ireturn, 1) := by decide +kernel
theorem dX5_force_95 : decode cX5_force 95 = .ok (.aload_n 3, 1) := by decide +kernel
theorem dX5_force_96 : decode cX5_force 96 = .ok (.aload_n 3, 1) := by decide +kernel
theorem dX5_force_97 : decode cX5_force 97 = .ok (.invokevirtual 177, 3) := by decide +kernel
theorem dX5_force_100 : decode cX5_force 100 = .ok (.invokevirtual 180, 3) := by decide +kernel
theorem dX5_force_103 : decode cX5_force 103 = .ok (.ireturn, 1) := by decide +kernel
theorem dX5_force_104 : decode cX5_force 104 = .ok (.aload_n 3, 1) := by decide +kernel
theorem dX5_force_105 : decode cX5_force 105 = .ok (.invokevirtual 145, 3) := by decide +kernel
theorem dX5_force_108 : decode cX5_force 108 = .ok (.aload_n 3, 1) := by decide +kernel
theorem dX5_force_109 : decode cX5_force 109 = .ok (.invokevirtual 177, 3) := by decide +kernel
theorem dX5_force_112 : decode cX5_force 112 = .ok (.isub, 1) := by decide +kernel
theorem dX5_force_113 : decode cX5_force 113 = .ok (.ireturn, 1) := by decide +kernel
set_option maxRecDepth 20000 in
theorem ggX5_held_X5_rigOf : GoodIn wsX5_held wsX5_rigOf := goodIn_ca (goodIn_r _ [5, 6, 7, 8, 9, 52, 53, 54, 55, 56, 57, 58] (by decide +kernel) (by decide +kernel)) (goodIn_sub (fun _ h => List.mem_cons_of_mem _ (List.mem_append_left _ (List.mem_append_right _ h))) (by decide +kernel))
set_option maxRecDepth 20000 in
theorem gX5_held_X5_rigOf : GoodIn wsX5_held (wsV RX5 37 RX5 yX5_rigOf wsX5_rigOf) := goodIn_app (goodIn_of _ (by decide +kernel)) ggX5_held_X5_rigOf
set_option maxRecDepth 20000 in
theorem ggX5_held_X5_demandRange : GoodIn wsX5_held wsX5_demandRange := goodIn_ca (goodIn_r _ [12, 13, 14] (by decide +kernel) (by decide +kernel)) (goodIn_sub (fun _ h => List.mem_cons_of_mem _ (List.mem_append_right _ h)) (by decide +kernel))
set_option maxRecDepth 20000 in
theorem gX5_held_X5_demandRange : GoodIn wsX5_held (va_wsS RX5 41 yX5_demandRange wsX5_demandRange) := goodIn_app (goodIn_of _ (by decide +kernel)) ggX5_held_X5_demandRange
set_option maxRecDepth 20000 in
theorem ggX5_held_X2_whatGivesWay : GoodIn wsX5_held wsX2_whatGivesWay := goodIn_r _ [19, 20, 21, 22, 23, 24, 25, 26, 27, 28, 29, 18, 30, 31, 32, 33, 34, 35, 36, 37, 38, 39, 40, 41, 42, 43, 44, 45, 46, 47, 48, 49, 50, 51, 59, 60, 61, 62, 63, 64, 65, 66, 67, 68] (by decide +kernel) (by decide +kernel)
set_option maxRecDepth 20000 in
theorem gX5_held_X2_whatGivesWay : GoodIn wsX5_held (wsV RX5 183 RX2 yX2_whatGivesWay wsX2_whatGivesWay) := goodIn_app (goodIn_of _ (by decide +kernel)) ggX5_held_X2_whatGivesWay
theorem dX5_held_0 : decode cX5_held 0 = .ok (.aload_n 0, 1) := by decide +kernel
theorem dX5_held_1 : decode cX5_held 1 = .ok (.iload_n 1, 1) := by decide +kernel
theorem dX5_held_2 : decode cX5_held 2 = .ok (.invokevirtual 37, 3) := by decide +kernel
theorem dX5_held_5 : decode cX5_held 5 = .ok (.astore_n 3, 1) := by decide +kernel
theorem dX5_held_6 : decode cX5_held 6 = .ok (.iload_n 2, 1) := by decide +kernel
theorem dX5_held_7 : decode cX5_held 7 = .ok (.sipush (-1000), 3) := by decide +kernel
theorem dX5_held_10 : decode cX5_held 10 = .ok (.sipush 1000, 3) := by decide +kernel
theorem dX5_held_13 : decode cX5_held 13 = .ok (.invokestatic 41, 3) := by decide +kernel
theorem dX5_held_16 : decode cX5_held 16 = .ok (.aload_n 3, 1) := by decide +kernel
theorem dX5_held_17 : decode cX5_held 17 = .ok (.iload_n 2, 1) := by decide +kernel
theorem dX5_held_18 : decode cX5_held 18 = .ok (.invokevirtual 183, 3) := by decide +kernel
theorem dX5_held_21 : decode cX5_held 21 = .ok (.ireturn, 1) := by decide +kernel
set_option maxRecDepth 20000 in
theorem ggX5_count_X3_standing : GoodIn wsX5_count wsX3_standing := goodIn_r _ [12, 13, 14, 15, 16, 17, 18, 19, 20, 21, 22, 23, 24, 25, 26, 27, 28, 29, 30, 31, 32, 33, 34, 35, 36, 37, 38, 39, 40, 41, 42, 43, 44, 45, 46, 47, 48, 49, 50, 51, 52, 53, 54, 55, 56, 57, 58, 59, 60, 61, 62, 63, 64, 65, 66, 81, 82, 83, 87, 88, 89, 90, 91, 92, 93, 94, 95, 96] (by decide +kernel) (by decide +kernel)
set_option maxRecDepth 20000 in
theorem gX5_count_X3_standing : GoodIn wsX5_count (wsV RX5 186 RX3 yX3_standing wsX3_standing) := goodIn_app (goodIn_of _ (by decide +kernel)) ggX5_count_X3_standing
set_option maxRecDepth 20000 in
theorem ggX5_count_X3_people : GoodIn wsX5_count wsX3_people := goodIn_r _ [70, 13, 71, 81, 82, 83, 87, 88, 89, 90, 91, 92, 93, 94, 95, 96] (by decide +kernel) (by decide +kernel)
set_option maxRecDepth 20000 in
theorem gX5_count_X3_people : GoodIn wsX5_count (wsV RX5 189 RX3 yX3_people wsX3_people) := goodIn_app (goodIn_of _ (by decide +kernel)) ggX5_count_X3_people
set_option maxRecDepth 20000 in
theorem ggX5_count_X3_falls : GoodIn wsX5_count wsX3_falls := goodIn_r _ [75, 13, 76, 81, 82, 83, 87, 88, 89, 90, 91, 92, 93, 94, 95, 96] (by decide +kernel) (by decide +kernel)
set_option maxRecDepth 20000 in
theorem gX5_count_X3_falls : GoodIn wsX5_count (wsV RX5 191 RX3 yX3_falls wsX3_falls) := goodIn_app (goodIn_of _ (by decide +kernel)) ggX5_count_X3_falls
theorem dX5_count_0 : decode cX5_count 0 = .ok (.iload_n 1, 1) := by decide +kernel
theorem dX5_count_1 : decode cX5_count 1 = .ok (.tableswitch 87 0 5 #[39, 47, 55, 63, 71, 79], 39) := by decide +kernel
theorem dX5_count_40 : decode cX5_count 40 = .ok (.aload_n 0, 1) := by decide +kernel
theorem dX5_count_41 : decode cX5_count 41 = .ok (.getfield 10, 3) := by decide +kernel
theorem dX5_count_44 : decode cX5_count 44 = .ok (.invokevirtual 186, 3) := by decide +kernel
theorem dX5_count_47 : decode cX5_count 47 = .ok (.ireturn, 1) := by decide +kernel
theorem dX5_count_48 : decode cX5_count 48 = .ok (.aload_n 0, 1) := by decide +kernel
theorem dX5_count_49 : decode cX5_count 49 = .ok (.getfield 10, 3) := by decide +kernel
theorem dX5_count_52 : decode cX5_count 52 = .ok (.invokevirtual 189, 3) := by decide +kernel
theorem dX5_count_55 : decode cX5_count 55 = .ok (.ireturn, 1) := by decide +kernel
theorem dX5_count_56 : decode cX5_count 56 = .ok (.aload_n 0, 1) := by decide +kernel
theorem dX5_count_57 : decode cX5_count 57 = .ok (.getfield 10, 3) := by decide +kernel
theorem dX5_count_60 : decode cX5_count 60 = .ok (.invokevirtual 191, 3) := by decide +kernel
theorem dX5_count_63 : decode cX5_count 63 = .ok (.ireturn, 1) := by decide +kernel
theorem dX5_count_64 : decode cX5_count 64 = .ok (.aload_n 0, 1) := by decide +kernel
theorem dX5_count_65 : decode cX5_count 65 = .ok (.getfield 10, 3) := by decide +kernel
theorem dX5_count_68 : decode cX5_count 68 = .ok (.getfield 193, 3) := by decide +kernel
theorem dX5_count_71 : decode cX5_count 71 = .ok (.ireturn, 1) := by decide +kernel
theorem dX5_count_72 : decode cX5_count 72 = .ok (.aload_n 0, 1) := by decide +kernel
theorem dX5_count_73 : decode cX5_count 73 = .ok (.getfield 10, 3) := by decide +kernel
theorem dX5_count_76 : decode cX5_count 76 = .ok (.getfield 196, 3) := by decide +kernel
theorem dX5_count_79 : decode cX5_count 79 = .ok (.ireturn, 1) := by decide +kernel
theorem dX5_count_80 : decode cX5_count 80 = .ok (.aload_n 0, 1) := by decide +kernel
theorem dX5_count_81 : decode cX5_count 81 = .ok (.getfield 19, 3) := by decide +kernel
theorem dX5_count_84 : decode cX5_count 84 = .ok (.getfield 137, 3) := by decide +kernel
theorem dX5_count_87 : decode cX5_count 87 = .ok (.ireturn, 1) := by decide +kernel
theorem dX5_count_88 : decode cX5_count 88 = .ok (.new 118, 3) := by decide +kernel
theorem dX5_count_91 : decode cX5_count 91 = .ok (.dup, 1) := by decide +kernel
theorem dX5_count_92 : decode cX5_count 92 = .ok (.ldc 199, 2) := by decide +kernel
theorem dX5_count_94 : decode cX5_count 94 = .ok (.invokespecial 122, 3) := by decide +kernel
theorem dX5_count_97 : decode cX5_count 97 = .ok (.athrow, 1) := by decide +kernel
set_option maxRecDepth 20000 in
theorem ggX5_highest_X5_rigOf : GoodIn wsX5_highest wsX5_rigOf := goodIn_ca (goodIn_r _ [6, 7, 8, 9, 10, 86, 87, 88, 89, 90, 91, 92] (by decide +kernel) (by decide +kernel)) (goodIn_sub (fun _ h => List.mem_cons_of_mem _ (List.mem_append_right _ h)) (by decide +kernel))
set_option maxRecDepth 20000 in
theorem gX5_highest_X5_rigOf : GoodIn wsX5_highest (wsV RX5 37 RX5 yX5_rigOf wsX5_rigOf) := goodIn_app (goodIn_of _ (by decide +kernel)) ggX5_highest_X5_rigOf
set_option maxRecDepth 20000 in
theorem ggX5_highest_X5_demandPerson : GoodIn wsX5_highest wsX5_demandPerson := goodIn_ca (goodIn_r _ [13, 7, 8, 14, 15, 16, 17, 18, 19, 93, 94, 95, 96, 97, 98, 99, 100, 101, 102] (by decide +kernel) (by decide +kernel)) (goodIn_sub (fun _ h => List.mem_cons_of_mem _ (List.mem_append_right _ h)) (by decide +kernel))
set_option maxRecDepth 20000 in
theorem gX5_highest_X5_demandPerson : GoodIn wsX5_highest (va_wsS RX5 90 yX5_demandPerson wsX5_demandPerson) := goodIn_app (goodIn_of _ (by decide +kernel)) ggX5_highest_X5_demandPerson
set_option maxRecDepth 20000 in
theorem ggX5_highest_X2_copyFrom : GoodIn wsX5_highest wsX2_copyFrom := goodIn_r _ [23, 24, 25, 26, 27, 28, 29, 30, 19, 31, 32, 93, 94, 95, 96, 97, 98, 99, 100, 101, 102] (by decide +kernel) (by decide +kernel)
set_option maxRecDepth 20000 in
theorem gX5_highest_X2_copyFrom : GoodIn wsX5_highest (wsV RX5 201 RX2 yX2_copyFrom wsX2_copyFrom) := goodIn_app (goodIn_of _ (by decide +kernel)) ggX5_highest_X2_copyFrom
set_option maxRecDepth 20000 in
theorem ggX5_highest_X2_stepOf : GoodIn wsX5_highest wsX2_stepOf := goodIn_r _ [36, 32, 37, 15, 16, 17, 18, 19, 93, 94, 95, 96, 97, 98, 99, 100, 101, 102] (by decide +kernel) (by decide +kernel)
set_option maxRecDepth 20000 in
theorem gX5_highest_X2_stepOf : GoodIn wsX5_highest (wsV RX5 163 RX2 yX2_stepOf wsX2_stepOf) := goodIn_app (goodIn_of _ (by decide +kernel)) ggX5_highest_X2_stepOf
set_option maxRecDepth 20000 in
theorem ggX5_highest_X2_setStep : GoodIn wsX5_highest wsX2_setStep := goodIn_r _ [41, 32, 37, 15, 16, 17, 18, 19, 93, 94, 95, 96, 97, 98, 99, 100, 101, 102] (by decide +kernel) (by decide +kernel)
set_option maxRecDepth 20000 in
theorem gX5_highest_X2_setStep : GoodIn wsX5_highest (wsV RX5 205 RX2 yX2_setStep wsX2_setStep) := goodIn_app (goodIn_of _ (by decide +kernel)) ggX5_highest_X2_setStep
set_option maxRecDepth 20000 in
theorem ggX5_highest_X2_stands : GoodIn wsX5_highest wsX2_stands := goodIn_r _ [45, 46, 47, 48, 17, 49, 50, 51, 52, 53, 54, 55, 56, 57, 28, 25, 24, 58, 59, 60, 61, 62, 63, 64, 65, 26, 32, 31, 66, 67, 68, 69, 70, 71, 72, 73, 29, 74, 75, 76, 77, 27, 78, 79, 80, 81, 82, 83, 84, 85, 93, 94, 95, 96, 97, 98, 99, 100, 101, 102] (by decide +kernel) (by decide +kernel)
set_option maxRecDepth 20000 in
theorem gX5_highest_X2_stands : GoodIn wsX5_highest (wsV RX5 154 RX2 yX2_stands wsX2_stands) := goodIn_app (goodIn_of _ (by decide +kernel)) ggX5_highest_X2_stands
theorem dX5_highest_0 : decode cX5_highest 0 = .ok (.aload_n 0, 1) := by decide +kernel
theorem dX5_highest_1 : decode cX5_highest 1 = .ok (.iload_n 1, 1) := by decide +kernel
theorem dX5_highest_2 : decode cX5_highest 2 = .ok (.invokevirtual 37, 3) := by decide +kernel
theorem dX5_highest_5 : decode cX5_highest 5 = .ok (.astore_n 3, 1) := by decide +kernel
theorem dX5_highest_6 : decode cX5_highest 6 = .ok (.aload_n 3, 1) := by decide +kernel
theorem dX5_highest_7 : decode cX5_highest 7 = .ok (.iload_n 2, 1) := by decide +kernel
theorem dX5_highest_8 : decode cX5_highest 8 = .ok (.invokestatic 90, 3) := by decide +kernel
theorem dX5_highest_11 : decode cX5_highest 11 = .ok (.aload_n 0, 1) := by decide +kernel
theorem dX5_highest_12 : decode cX5_highest 12 = .ok (.getfield 33, 3) := by decide +kernel
theorem dX5_highest_15 : decode cX5_highest 15 = .ok (.aload_n 3, 1) := by decide +kernel
theorem dX5_highest_16 : decode cX5_highest 16 = .ok (.invokevirtual 201, 3) := by decide +kernel
theorem dX5_highest_19 : decode cX5_highest 19 = .ok (.aload_n 3, 1) := by decide +kernel
theorem dX5_highest_20 : decode cX5_highest 20 = .ok (.iload_n 2, 1) := by decide +kernel
theorem dX5_highest_21 : decode cX5_highest 21 = .ok (.invokevirtual 163, 3) := by decide +kernel
theorem dX5_highest_24 : decode cX5_highest 24 = .ok (.istore 4, 2) := by decide +kernel
theorem dX5_highest_26 : decode cX5_highest 26 = .ok (.iload 4, 2) := by decide +kernel
theorem dX5_highest_28 : decode cX5_highest 28 = .ok (.iconst 1, 1) := by decide +kernel
theorem dX5_highest_29 : decode cX5_highest 29 = .ok (.iadd, 1) := by decide +kernel
theorem dX5_highest_30 : decode cX5_highest 30 = .ok (.istore 5, 2) := by decide +kernel
theorem dX5_highest_32 : decode cX5_highest 32 = .ok (.iload 5, 2) := by decide +kernel
theorem dX5_highest_34 : decode cX5_highest 34 = .ok (.bipush 10, 2) := by decide +kernel
theorem dX5_highest_36 : decode cX5_highest 36 = .ok (.if_icmp .gt 36, 3) := by decide +kernel
theorem dX5_highest_39 : decode cX5_highest 39 = .ok (.aload_n 0, 1) := by decide +kernel
theorem dX5_highest_40 : decode cX5_highest 40 = .ok (.getfield 33, 3) := by decide +kernel
theorem dX5_highest_43 : decode cX5_highest 43 = .ok (.iload_n 2, 1) := by decide +kernel
theorem dX5_highest_44 : decode cX5_highest 44 = .ok (.iload 5, 2) := by decide +kernel
theorem dX5_highest_46 : decode cX5_highest 46 = .ok (.invokevirtual 205, 3) := by decide +kernel
theorem dX5_highest_49 : decode cX5_highest 49 = .ok (.aload_n 0, 1) := by decide +kernel
theorem dX5_highest_50 : decode cX5_highest 50 = .ok (.getfield 33, 3) := by decide +kernel
theorem dX5_highest_53 : decode cX5_highest 53 = .ok (.invokevirtual 154, 3) := by decide +kernel
theorem dX5_highest_56 : decode cX5_highest 56 = .ok (.ifCond .ne 6, 3) := by decide +kernel
theorem dX5_highest_59 : decode cX5_highest 59 = .ok (.iload 4, 2) := by decide +kernel
theorem dX5_highest_61 : decode cX5_highest 61 = .ok (.ireturn, 1) := by decide +kernel
theorem dX5_highest_62 : decode cX5_highest 62 = .ok (.iload 5, 2) := by decide +kernel
theorem dX5_highest_64 : decode cX5_highest 64 = .ok (.istore 4, 2) := by decide +kernel
theorem dX5_highest_66 : decode cX5_highest 66 = .ok (.iinc 5 1, 3) := by decide +kernel
theorem dX5_highest_69 : decode cX5_highest 69 = .ok (.goto (-37), 3) := by decide +kernel
theorem dX5_highest_72 : decode cX5_highest 72 = .ok (.iload 4, 2) := by decide +kernel
theorem dX5_highest_74 : decode cX5_highest 74 = .ok (.ireturn, 1) := by decide +kernel
set_option maxRecDepth 20000 in
theorem ggX5_neededRope_X5_rigOf : GoodIn wsX5_neededRope wsX5_rigOf := goodIn_ca (goodIn_r _ [7, 8, 9, 10, 11, 71, 72, 73, 74, 85, 86, 87] (by decide +kernel) (by decide +kernel)) (goodIn_sub (fun _ h => List.mem_cons_of_mem _ (List.mem_append_right _ h)) (by decide +kernel))
set_option maxRecDepth 20000 in
theorem gX5_neededRope_X5_rigOf : GoodIn wsX5_neededRope (wsV RX5 37 RX5 yX5_rigOf wsX5_rigOf) := goodIn_app (goodIn_of _ (by decide +kernel)) ggX5_neededRope_X5_rigOf
set_option maxRecDepth 20000 in
theorem ggX5_neededRope_X2_copyFrom : GoodIn wsX5_neededRope wsX2_copyFrom := goodIn_r _ [16, 17, 18, 19, 20, 21, 22, 23, 24, 25, 26, 75, 76, 77, 78, 79, 80, 81, 82, 83, 84] (by decide +kernel) (by decide +kernel)
set_option maxRecDepth 20000 in
theorem gX5_neededRope_X2_copyFrom : GoodIn wsX5_neededRope (wsV RX5 201 RX2 yX2_copyFrom wsX2_copyFrom) := goodIn_app (goodIn_of _ (by decide +kernel)) ggX5_neededRope_X2_copyFrom
set_option maxRecDepth 20000 in
theorem ggX5_neededRope_X2_stands : GoodIn wsX5_neededRope wsX2_stands := goodIn_r _ [30, 31, 32, 33, 15, 34, 35, 36, 37, 38, 39, 40, 41, 42, 21, 18, 17, 43, 44, 45, 46, 47, 48, 49, 50, 19, 26, 25, 51, 52, 53, 54, 55, 56, 57, 58, 22, 59, 60, 61, 62, 20, 63, 64, 65, 66, 67, 68, 69, 70, 75, 76, 77, 78, 79, 80, 81, 82, 83, 84] (by decide +kernel) (by decide +kernel)
set_option maxRecDepth 20000 in
theorem gX5_neededRope_X2_stands : GoodIn wsX5_neededRope (wsV RX5 154 RX2 yX2_stands wsX2_stands) := goodIn_app (goodIn_of _ (by decide +kernel)) ggX5_neededRope_X2_stands
theorem dX5_neededRope_0 : decode cX5_neededRope 0 = .ok (.aload_n 0, 1) := by decide +kernel
theorem dX5_neededRope_1 : decode cX5_neededRope 1 = .ok (.getfield 33, 3) := by decide +kernel
theorem dX5_neededRope_4 : decode cX5_neededRope 4 = .ok (.aload_n 0, 1) := by decide +kernel
theorem dX5_neededRope_5 : decode cX5_neededRope 5 = .ok (.iload_n 1, 1) := by decide +kernel
theorem dX5_neededRope_6 : decode cX5_neededRope 6 = .ok (.invokevirtual 37, 3) := by decide +kernel
theorem dX5_neededRope_9 : decode cX5_neededRope 9 = .ok (.invokevirtual 201, 3) := by decide +kernel
theorem dX5_neededRope_12 : decode cX5_neededRope 12 = .ok (.iconst 0, 1) := by decide +kernel
theorem dX5_neededRope_13 : decode cX5_neededRope 13 = .ok (.istore_n 2, 1) := by decide +kernel
theorem dX5_neededRope_14 : decode cX5_neededRope 14 = .ok (.iload_n 2, 1) := by decide +kernel
theorem dX5_neededRope_15 : decode cX5_neededRope 15 = .ok (.sipush 200, 3) := by decide +kernel
theorem dX5_neededRope_18 : decode cX5_neededRope 18 = .ok (.if_icmp .gt 29, 3) := by decide +kernel
theorem dX5_neededRope_21 : decode cX5_neededRope 21 = .ok (.aload_n 0, 1) := by decide +kernel
theorem dX5_neededRope_22 : decode cX5_neededRope 22 = .ok (.getfield 33, 3) := by decide +kernel
theorem dX5_neededRope_25 : decode cX5_neededRope 25 = .ok (.iload_n 2, 1) := by decide +kernel
theorem dX5_neededRope_26 : decode cX5_neededRope 26 = .ok (.putfield 69, 3) := by decide +kernel
theorem dX5_neededRope_29 : decode cX5_neededRope 29 = .ok (.aload_n 0, 1) := by decide +kernel
theorem dX5_neededRope_30 : decode cX5_neededRope 30 = .ok (.getfield 33, 3) := by decide +kernel
theorem dX5_neededRope_33 : decode cX5_neededRope 33 = .ok (.invokevirtual 154, 3) := by decide +kernel
theorem dX5_neededRope_36 : decode cX5_neededRope 36 = .ok (.ifCond .eq 5, 3) := by decide +kernel
theorem dX5_neededRope_39 : decode cX5_neededRope 39 = .ok (.iload_n 2, 1) := by decide +kernel
theorem dX5_neededRope_40 : decode cX5_neededRope 40 = .ok (.ireturn, 1) := by decide +kernel
theorem dX5_neededRope_41 : decode cX5_neededRope 41 = .ok (.iinc 2 1, 3) := by decide +kernel
theorem dX5_neededRope_44 : decode cX5_neededRope 44 = .ok (.goto (-30), 3) := by decide +kernel
theorem dX5_neededRope_47 : decode cX5_neededRope 47 = .ok (.iconst (-1), 1) := by decide +kernel
theorem dX5_neededRope_48 : decode cX5_neededRope 48 = .ok (.ireturn, 1) := by decide +kernel
set_option maxRecDepth 20000 in
theorem ggX5_bestBase_X5_rigOf : GoodIn wsX5_bestBase wsX5_rigOf := goodIn_ca (goodIn_r _ [7, 8, 9, 10, 11, 71, 72, 73, 74, 85, 86, 87] (by decide +kernel) (by decide +kernel)) (goodIn_sub (fun _ h => List.mem_cons_of_mem _ (List.mem_append_right _ h)) (by decide +kernel))
set_option maxRecDepth 20000 in
theorem gX5_bestBase_X5_rigOf : GoodIn wsX5_bestBase (wsV RX5 37 RX5 yX5_rigOf wsX5_rigOf) := goodIn_app (goodIn_of _ (by decide +kernel)) ggX5_bestBase_X5_rigOf
set_option maxRecDepth 20000 in
theorem ggX5_bestBase_X2_copyFrom : GoodIn wsX5_bestBase wsX2_copyFrom := goodIn_r _ [16, 17, 18, 19, 20, 21, 22, 23, 24, 25, 26, 75, 76, 77, 78, 79, 80, 81, 82, 83, 84] (by decide +kernel) (by decide +kernel)
set_option maxRecDepth 20000 in
theorem gX5_bestBase_X2_copyFrom : GoodIn wsX5_bestBase (wsV RX5 201 RX2 yX2_copyFrom wsX2_copyFrom) := goodIn_app (goodIn_of _ (by decide +kernel)) ggX5_bestBase_X2_copyFrom
set_option maxRecDepth 20000 in
theorem ggX5_bestBase_X2_forces : GoodIn wsX5_bestBase wsX2_forces := goodIn_r _ [30, 31, 32, 33, 34, 35, 36, 37, 15, 38, 18, 17, 39, 40, 41, 42, 21, 43, 44, 45, 46, 19, 26, 25, 47, 48, 49, 50, 51, 52, 53, 54, 55, 56, 57, 58, 59, 60, 61, 62, 22, 63, 64, 65, 66, 20, 67, 68, 69, 70, 75, 76, 77, 78, 79, 80, 81, 82, 83, 84] (by decide +kernel) (by decide +kernel)
set_option maxRecDepth 20000 in
theorem gX5_bestBase_X2_forces : GoodIn wsX5_bestBase (wsV RX5 168 RX2 yX2_forces wsX2_forces) := goodIn_app (goodIn_of _ (by decide +kernel)) ggX5_bestBase_X2_forces
theorem dX5_bestBase_0 : decode cX5_bestBase 0 = .ok (.aload_n 0, 1) := by decide +kernel
theorem dX5_bestBase_1 : decode cX5_bestBase 1 = .ok (.getfield 33, 3) := by decide +kernel
theorem dX5_bestBase_4 : decode cX5_bestBase 4 = .ok (.aload_n 0, 1) := by decide +kernel
theorem dX5_bestBase_5 : decode cX5_bestBase 5 = .ok (.iload_n 1, 1) := by decide +kernel
theorem dX5_bestBase_6 : decode cX5_bestBase 6 = .ok (.invokevirtual 37, 3) := by decide +kernel
theorem dX5_bestBase_9 : decode cX5_bestBase 9 = .ok (.invokevirtual 201, 3) := by decide +kernel
theorem dX5_bestBase_12 : decode cX5_bestBase 12 = .ok (.iconst (-1), 1) := by decide +kernel
theorem dX5_bestBase_13 : decode cX5_bestBase 13 = .ok (.istore_n 2, 1) := by decide +kernel
theorem dX5_bestBase_14 : decode cX5_bestBase 14 = .ok (.iconst 0, 1) := by decide +kernel
theorem dX5_bestBase_15 : decode cX5_bestBase 15 = .ok (.istore_n 3, 1) := by decide +kernel
theorem dX5_bestBase_16 : decode cX5_bestBase 16 = .ok (.bipush 10, 2) := by decide +kernel
theorem dX5_bestBase_18 : decode cX5_bestBase 18 = .ok (.istore 4, 2) := by decide +kernel
theorem dX5_bestBase_20 : decode cX5_bestBase 20 = .ok (.iload 4, 2) := by decide +kernel
theorem dX5_bestBase_22 : decode cX5_bestBase 22 = .ok (.bipush 100, 2) := by decide +kernel
theorem dX5_bestBase_24 : decode cX5_bestBase 24 = .ok (.if_icmp .gt 39, 3) := by decide +kernel
theorem dX5_bestBase_27 : decode cX5_bestBase 27 = .ok (.aload_n 0, 1) := by decide +kernel
theorem dX5_bestBase_28 : decode cX5_bestBase 28 = .ok (.getfield 33, 3) := by decide +kernel
theorem dX5_bestBase_31 : decode cX5_bestBase 31 = .ok (.iload 4, 2) := by decide +kernel
theorem dX5_bestBase_33 : decode cX5_bestBase 33 = .ok (.putfield 49, 3) := by decide +kernel
theorem dX5_bestBase_36 : decode cX5_bestBase 36 = .ok (.aload_n 0, 1) := by decide +kernel
theorem dX5_bestBase_37 : decode cX5_bestBase 37 = .ok (.getfield 33, 3) := by decide +kernel
theorem dX5_bestBase_40 : decode cX5_bestBase 40 = .ok (.invokevirtual 168, 3) := by decide +kernel
theorem dX5_bestBase_43 : decode cX5_bestBase 43 = .ok (.istore 5, 2) := by decide +kernel
theorem dX5_bestBase_45 : decode cX5_bestBase 45 = .ok (.iload 5, 2) := by decide +kernel
theorem dX5_bestBase_47 : decode cX5_bestBase 47 = .ok (.iload_n 3, 1) := by decide +kernel
theorem dX5_bestBase_48 : decode cX5_bestBase 48 = .ok (.if_icmp .le 9, 3) := by decide +kernel
theorem dX5_bestBase_51 : decode cX5_bestBase 51 = .ok (.iload 4, 2) := by decide +kernel
theorem dX5_bestBase_53 : decode cX5_bestBase 53 = .ok (.istore_n 2, 1) := by decide +kernel
theorem dX5_bestBase_54 : decode cX5_bestBase 54 = .ok (.iload 5, 2) := by decide +kernel
theorem dX5_bestBase_56 : decode cX5_bestBase 56 = .ok (.istore_n 3, 1) := by decide +kernel
theorem dX5_bestBase_57 : decode cX5_bestBase 57 = .ok (.iinc 4 5, 3) := by decide +kernel
theorem dX5_bestBase_60 : decode cX5_bestBase 60 = .ok (.goto (-40), 3) := by decide +kernel
theorem dX5_bestBase_63 : decode cX5_bestBase 63 = .ok (.iload_n 2, 1) := by decide +kernel
theorem dX5_bestBase_64 : decode cX5_bestBase 64 = .ok (.ireturn, 1) := by decide +kernel
set_option maxRecDepth 20000 in
theorem ggX5_riskiest_X5_rigOf : GoodIn wsX5_riskiest wsX5_rigOf := goodIn_ca (goodIn_r _ [7, 8, 9, 10, 11, 89, 90, 91, 92, 93, 94, 95] (by decide +kernel) (by decide +kernel)) (goodIn_sub (fun _ h => List.mem_cons_of_mem _ (List.mem_append_right _ h)) (by decide +kernel))
set_option maxRecDepth 20000 in
theorem gX5_riskiest_X5_rigOf : GoodIn wsX5_riskiest (wsV RX5 37 RX5 yX5_rigOf wsX5_rigOf) := goodIn_app (goodIn_of _ (by decide +kernel)) ggX5_riskiest_X5_rigOf
set_option maxRecDepth 20000 in
theorem ggX5_riskiest_X2_copyFrom : GoodIn wsX5_riskiest wsX2_copyFrom := goodIn_r _ [16, 17, 18, 19, 20, 21, 22, 23, 24, 25, 26, 79, 80, 81, 82, 83, 84, 85, 86, 87, 88] (by decide +kernel) (by decide +kernel)
set_option maxRecDepth 20000 in
theorem gX5_riskiest_X2_copyFrom : GoodIn wsX5_riskiest (wsV RX5 201 RX2 yX2_copyFrom wsX2_copyFrom) := goodIn_app (goodIn_of _ (by decide +kernel)) ggX5_riskiest_X2_copyFrom
set_option maxRecDepth 20000 in
theorem ggX5_riskiest_X2_remove : GoodIn wsX5_riskiest wsX2_remove := goodIn_r _ [30, 25, 26, 24, 31, 32, 33, 15, 34, 79, 80, 81, 82, 83, 84, 85, 86, 87, 88] (by decide +kernel) (by decide +kernel)
set_option maxRecDepth 20000 in
theorem gX5_riskiest_X2_remove : GoodIn wsX5_riskiest (wsV RX5 94 RX2 yX2_remove wsX2_remove) := goodIn_app (goodIn_of _ (by decide +kernel)) ggX5_riskiest_X2_remove
set_option maxRecDepth 20000 in
theorem ggX5_riskiest_X2_forces : GoodIn wsX5_riskiest wsX2_forces := goodIn_r _ [38, 39, 40, 41, 42, 43, 44, 45, 15, 46, 18, 17, 47, 48, 49, 50, 21, 51, 52, 53, 54, 19, 26, 25, 55, 56, 57, 58, 59, 60, 61, 62, 63, 64, 65, 66, 67, 68, 69, 70, 22, 71, 72, 73, 74, 20, 75, 76, 77, 78, 79, 80, 81, 82, 83, 84, 85, 86, 87, 88] (by decide +kernel) (by decide +kernel)
set_option maxRecDepth 20000 in
theorem gX5_riskiest_X2_forces : GoodIn wsX5_riskiest (wsV RX5 168 RX2 yX2_forces wsX2_forces) := goodIn_app (goodIn_of _ (by decide +kernel)) ggX5_riskiest_X2_forces
theorem dX5_riskiest_0 : decode cX5_riskiest 0 = .ok (.aload_n 0, 1) := by decide +kernel
theorem dX5_riskiest_1 : decode cX5_riskiest 1 = .ok (.iload_n 1, 1) := by decide +kernel
theorem dX5_riskiest_2 : decode cX5_riskiest 2 = .ok (.invokevirtual 37, 3) := by decide +kernel
theorem dX5_riskiest_5 : decode cX5_riskiest 5 = .ok (.astore_n 2, 1) := by decide +kernel
theorem dX5_riskiest_6 : decode cX5_riskiest 6 = .ok (.iconst (-1), 1) := by decide +kernel
theorem dX5_riskiest_7 : decode cX5_riskiest 7 = .ok (.istore_n 3, 1) := by decide +kernel
theorem dX5_riskiest_8 : decode cX5_riskiest 8 = .ok (.iconst 0, 1) := by decide +kernel
theorem dX5_riskiest_9 : decode cX5_riskiest 9 = .ok (.istore 4, 2) := by decide +kernel
theorem dX5_riskiest_11 : decode cX5_riskiest 11 = .ok (.iconst 0, 1) := by decide +kernel
theorem dX5_riskiest_12 : decode cX5_riskiest 12 = .ok (.istore 5, 2) := by decide +kernel
theorem dX5_riskiest_14 : decode cX5_riskiest 14 = .ok (.iload 5, 2) := by decide +kernel
theorem dX5_riskiest_16 : decode cX5_riskiest 16 = .ok (.aload_n 2, 1) := by decide +kernel
theorem dX5_riskiest_17 : decode cX5_riskiest 17 = .ok (.getfield 87, 3) := by decide +kernel
theorem dX5_riskiest_20 : decode cX5_riskiest 20 = .ok (.if_icmp .ge 54, 3) := by decide +kernel
theorem dX5_riskiest_23 : decode cX5_riskiest 23 = .ok (.aload_n 0, 1) := by decide +kernel
theorem dX5_riskiest_24 : decode cX5_riskiest 24 = .ok (.getfield 33, 3) := by decide +kernel
theorem dX5_riskiest_27 : decode cX5_riskiest 27 = .ok (.aload_n 2, 1) := by decide +kernel
theorem dX5_riskiest_28 : decode cX5_riskiest 28 = .ok (.invokevirtual 201, 3) := by decide +kernel
theorem dX5_riskiest_31 : decode cX5_riskiest 31 = .ok (.aload_n 0, 1) := by decide +kernel
theorem dX5_riskiest_32 : decode cX5_riskiest 32 = .ok (.getfield 33, 3) := by decide +kernel
theorem dX5_riskiest_35 : decode cX5_riskiest 35 = .ok (.iload 5, 2) := by decide +kernel
theorem dX5_riskiest_37 : decode cX5_riskiest 37 = .ok (.invokevirtual 94, 3) := by decide +kernel
theorem dX5_riskiest_40 : decode cX5_riskiest 40 = .ok (.aload_n 0, 1) := by decide +kernel
theorem dX5_riskiest_41 : decode cX5_riskiest 41 = .ok (.getfield 33, 3) := by decide +kernel
theorem dX5_riskiest_44 : decode cX5_riskiest 44 = .ok (.invokevirtual 168, 3) := by decide +kernel
theorem dX5_riskiest_47 : decode cX5_riskiest 47 = .ok (.istore 6, 2) := by decide +kernel
theorem dX5_riskiest_49 : decode cX5_riskiest 49 = .ok (.iload_n 3, 1) := by decide +kernel
theorem dX5_riskiest_50 : decode cX5_riskiest 50 = .ok (.iconst (-1), 1) := by decide +kernel
theorem dX5_riskiest_51 : decode cX5_riskiest 51 = .ok (.if_icmp .eq 10, 3) := by decide +kernel
theorem dX5_riskiest_54 : decode cX5_riskiest 54 = .ok (.iload 6, 2) := by decide +kernel
theorem dX5_riskiest_56 : decode cX5_riskiest 56 = .ok (.iload 4, 2) := by decide +kernel
theorem dX5_riskiest_58 : decode cX5_riskiest 58 = .ok (.if_icmp .le 10, 3) := by decide +kernel
theorem dX5_riskiest_61 : decode cX5_riskiest 61 = .ok (.iload 5, 2) := by decide +kernel
theorem dX5_riskiest_63 : decode cX5_riskiest 63 = .ok (.istore_n 3, 1) := by decide +kernel
theorem dX5_riskiest_64 : decode cX5_riskiest 64 = .ok (.iload 6, 2) := by decide +kernel
theorem dX5_riskiest_66 : decode cX5_riskiest 66 = .ok (.istore 4, 2) := by decide +kernel
theorem dX5_riskiest_68 : decode cX5_riskiest 68 = .ok (.iinc 5 1, 3) := by decide +kernel
theorem dX5_riskiest_71 : decode cX5_riskiest 71 = .ok (.goto (-57), 3) := by decide +kernel
theorem dX5_riskiest_74 : decode cX5_riskiest 74 = .ok (.iload_n 3, 1) := by decide +kernel
theorem dX5_riskiest_75 : decode cX5_riskiest 75 = .ok (.ireturn, 1) := by decide +kernel
set_option maxRecDepth 20000 in
theorem ggX5_walls_X5_rigOf : GoodIn wsX5_walls wsX5_rigOf := goodIn_ca (goodIn_r _ [7, 8, 9, 10, 11, 71, 72, 73, 74, 85, 86, 87] (by decide +kernel) (by decide +kernel)) (goodIn_sub (fun _ h => List.mem_cons_of_mem _ (List.mem_append_right _ h)) (by decide +kernel))
set_option maxRecDepth 20000 in
theorem gX5_walls_X5_rigOf : GoodIn wsX5_walls (wsV RX5 37 RX5 yX5_rigOf wsX5_rigOf) := goodIn_app (goodIn_of _ (by decide +kernel)) ggX5_walls_X5_rigOf
set_option maxRecDepth 20000 in
theorem ggX5_walls_X2_copyFrom : GoodIn wsX5_walls wsX2_copyFrom := goodIn_r _ [16, 17, 18, 19, 20, 21, 22, 23, 24, 25, 26, 75, 76, 77, 78, 79, 80, 81, 82, 83, 84] (by decide +kernel) (by decide +kernel)
set_option maxRecDepth 20000 in
theorem gX5_walls_X2_copyFrom : GoodIn wsX5_walls (wsV RX5 201 RX2 yX2_copyFrom wsX2_copyFrom) := goodIn_app (goodIn_of _ (by decide +kernel)) ggX5_walls_X2_copyFrom
set_option maxRecDepth 20000 in
theorem ggX5_walls_X2_stands : GoodIn wsX5_walls wsX2_stands := goodIn_r _ [30, 31, 32, 33, 15, 34, 35, 36, 37, 38, 39, 40, 41, 42, 21, 18, 17, 43, 44, 45, 46, 47, 48, 49, 50, 19, 26, 25, 51, 52, 53, 54, 55, 56, 57, 58, 22, 59, 60, 61, 62, 20, 63, 64, 65, 66, 67, 68, 69, 70, 75, 76, 77, 78, 79, 80, 81, 82, 83, 84] (by decide +kernel) (by decide +kernel)
set_option maxRecDepth 20000 in
theorem gX5_walls_X2_stands : GoodIn wsX5_walls (wsV RX5 154 RX2 yX2_stands wsX2_stands) := goodIn_app (goodIn_of _ (by decide +kernel)) ggX5_walls_X2_stands
theorem dX5_walls_0 : decode cX5_walls 0 = .ok (.aload_n 0, 1) := by decide +kernel
theorem dX5_walls_1 : decode cX5_walls 1 = .ok (.getfield 33, 3) := by decide +kernel
theorem dX5_walls_4 : decode cX5_walls 4 = .ok (.aload_n 0, 1) := by decide +kernel
theorem dX5_walls_5 : decode cX5_walls 5 = .ok (.iload_n 1, 1) := by decide +kernel
theorem dX5_walls_6 : decode cX5_walls 6 = .ok (.invokevirtual 37, 3) := by decide +kernel
theorem dX5_walls_9 : decode cX5_walls 9 = .ok (.invokevirtual 201, 3) := by decide +kernel
theorem dX5_walls_12 : decode cX5_walls 12 = .ok (.iconst 0, 1) := by decide +kernel
theorem dX5_walls_13 : decode cX5_walls 13 = .ok (.istore_n 2, 1) := by decide +kernel
theorem dX5_walls_14 : decode cX5_walls 14 = .ok (.iconst 0, 1) := by decide +kernel
theorem dX5_walls_15 : decode cX5_walls 15 = .ok (.istore_n 3, 1) := by decide +kernel
theorem dX5_walls_16 : decode cX5_walls 16 = .ok (.iload_n 3, 1) := by decide +kernel
theorem dX5_walls_17 : decode cX5_walls 17 = .ok (.iconst 4, 1) := by decide +kernel
theorem dX5_walls_18 : decode cX5_walls 18 = .ok (.if_icmp .ge 33, 3) := by decide +kernel
theorem dX5_walls_21 : decode cX5_walls 21 = .ok (.aload_n 0, 1) := by decide +kernel
theorem dX5_walls_22 : decode cX5_walls 22 = .ok (.getfield 33, 3) := by decide +kernel
theorem dX5_walls_25 : decode cX5_walls 25 = .ok (.iload_n 3, 1) := by decide +kernel
theorem dX5_walls_26 : decode cX5_walls 26 = .ok (.putfield 66, 3) := by decide +kernel
theorem dX5_walls_29 : decode cX5_walls 29 = .ok (.aload_n 0, 1) := by decide +kernel
theorem dX5_walls_30 : decode cX5_walls 30 = .ok (.getfield 33, 3) := by decide +kernel
theorem dX5_walls_33 : decode cX5_walls 33 = .ok (.invokevirtual 154, 3) := by decide +kernel
theorem dX5_walls_36 : decode cX5_walls 36 = .ok (.ifCond .eq 9, 3) := by decide +kernel
theorem dX5_walls_39 : decode cX5_walls 39 = .ok (.iload_n 2, 1) := by decide +kernel
theorem dX5_walls_40 : decode cX5_walls 40 = .ok (.iconst 1, 1) := by decide +kernel
theorem dX5_walls_41 : decode cX5_walls 41 = .ok (.iload_n 3, 1) := by decide +kernel
theorem dX5_walls_42 : decode cX5_walls 42 = .ok (.ishl, 1) := by decide +kernel
theorem dX5_walls_43 : decode cX5_walls 43 = .ok (.ior, 1) := by decide +kernel
theorem dX5_walls_44 : decode cX5_walls 44 = .ok (.istore_n 2, 1) := by decide +kernel
theorem dX5_walls_45 : decode cX5_walls 45 = .ok (.iinc 3 1, 3) := by decide +kernel
theorem dX5_walls_48 : decode cX5_walls 48 = .ok (.goto (-32), 3) := by decide +kernel
theorem dX5_walls_51 : decode cX5_walls 51 = .ok (.iload_n 2, 1) := by decide +kernel
theorem dX5_walls_52 : decode cX5_walls 52 = .ok (.ireturn, 1) := by decide +kernel
set_option maxRecDepth 20000 in
theorem ggX5_safety_X3_people : GoodIn wsX5_safety wsX3_people := goodIn_r _ [7, 8, 9, 14, 15, 16, 17, 18, 19, 20, 21, 22, 23, 24, 25, 26] (by decide +kernel) (by decide +kernel)
set_option maxRecDepth 20000 in
theorem gX5_safety_X3_people : GoodIn wsX5_safety (wsV RX5 189 RX3 yX3_people wsX3_people) := goodIn_app (goodIn_of _ (by decide +kernel)) ggX5_safety_X3_people
theorem dX5_safety_0 : decode cX5_safety 0 = .ok (.aload_n 0, 1) := by decide +kernel
theorem dX5_safety_1 : decode cX5_safety 1 = .ok (.getfield 10, 3) := by decide +kernel
theorem dX5_safety_4 : decode cX5_safety 4 = .ok (.invokevirtual 189, 3) := by decide +kernel
theorem dX5_safety_7 : decode cX5_safety 7 = .ok (.istore_n 1, 1) := by decide +kernel
theorem dX5_safety_8 : decode cX5_safety 8 = .ok (.iload_n 1, 1) := by decide +kernel
theorem dX5_safety_9 : decode cX5_safety 9 = .ok (.aload_n 0, 1) := by decide +kernel
theorem dX5_safety_10 : decode cX5_safety 10 = .ok (.getfield 10, 3) := by decide +kernel
theorem dX5_safety_13 : decode cX5_safety 13 = .ok (.getfield 193, 3) := by decide +kernel
theorem dX5_safety_16 : decode cX5_safety 16 = .ok (.iadd, 1) := by decide +kernel
theorem dX5_safety_17 : decode cX5_safety 17 = .ok (.istore_n 2, 1) := by decide +kernel
theorem dX5_safety_18 : decode cX5_safety 18 = .ok (.iload_n 2, 1) := by decide +kernel
theorem dX5_safety_19 : decode cX5_safety 19 = .ok (.ifCond .ne 7, 3) := by decide +kernel
theorem dX5_safety_22 : decode cX5_safety 22 = .ok (.dconst 1, 1) := by decide +kernel
theorem dX5_safety_23 : decode cX5_safety 23 = .ok (.goto 8, 3) := by decide +kernel
theorem dX5_safety_26 : decode cX5_safety 26 = .ok (.iload_n 1, 1) := by decide +kernel
theorem dX5_safety_27 : decode cX5_safety 27 = .ok (.i2d, 1) := by decide +kernel
theorem dX5_safety_28 : decode cX5_safety 28 = .ok (.iload_n 2, 1) := by decide +kernel
theorem dX5_safety_29 : decode cX5_safety 29 = .ok (.i2d, 1) := by decide +kernel
theorem dX5_safety_30 : decode cX5_safety 30 = .ok (.ddiv, 1) := by decide +kernel
theorem dX5_safety_31 : decode cX5_safety 31 = .ok (.dreturn, 1) := by decide +kernel
theorem dX5_rigOf_0 : decode cX5_rigOf 0 = .ok (.iload_n 1, 1) := by decide +kernel
theorem dX5_rigOf_1 : decode cX5_rigOf 1 = .ok (.ifCond .lt 8, 3) := by decide +kernel
theorem dX5_rigOf_4 : decode cX5_rigOf 4 = .ok (.iload_n 1, 1) := by decide +kernel
theorem dX5_rigOf_5 : decode cX5_rigOf 5 = .ok (.iconst 4, 1) := by decide +kernel
theorem dX5_rigOf_6 : decode cX5_rigOf 6 = .ok (.if_icmp .lt 14, 3) := by decide +kernel
theorem dX5_rigOf_9 : decode cX5_rigOf 9 = .ok (.new 280, 3) := by decide +kernel
theorem dX5_rigOf_12 : decode cX5_rigOf 12 = .ok (.dup, 1) := by decide +kernel
theorem dX5_rigOf_13 : decode cX5_rigOf 13 = .ok (.ldc_w 282, 3) := by decide +kernel
theorem dX5_rigOf_16 : decode cX5_rigOf 16 = .ok (.invokespecial 284, 3) := by decide +kernel
theorem dX5_rigOf_19 : decode cX5_rigOf 19 = .ok (.athrow, 1) := by decide +kernel
theorem dX5_rigOf_20 : decode cX5_rigOf 20 = .ok (.aload_n 0, 1) := by decide +kernel
theorem dX5_rigOf_21 : decode cX5_rigOf 21 = .ok (.getfield 10, 3) := by decide +kernel
theorem dX5_rigOf_24 : decode cX5_rigOf 24 = .ok (.getfield 285, 3) := by decide +kernel
theorem dX5_rigOf_27 : decode cX5_rigOf 27 = .ok (.iload_n 1, 1) := by decide +kernel
theorem dX5_rigOf_28 : decode cX5_rigOf 28 = .ok (.aaload, 1) := by decide +kernel
theorem dX5_rigOf_29 : decode cX5_rigOf 29 = .ok (.areturn, 1) := by decide +kernel
set_option maxRecDepth 20000 in
theorem ggX5_demandPerson_X2_bears : GoodIn wsX5_demandPerson wsX2_bears := goodIn_r _ [7, 8, 9, 10, 11, 12, 13, 14, 15, 16, 17, 18] (by decide +kernel) (by decide +kernel)
set_option maxRecDepth 20000 in
theorem gX5_demandPerson_X2_bears : GoodIn wsX5_demandPerson (wsV RX5 289 RX2 yX2_bears wsX2_bears) := goodIn_app (goodIn_of _ (by decide +kernel)) ggX5_demandPerson_X2_bears
theorem dX5_demandPerson_0 : decode cX5_demandPerson 0 = .ok (.aload_n 0, 1) := by decide +kernel
theorem dX5_demandPerson_1 : decode cX5_demandPerson 1 = .ok (.iload_n 1, 1) := by decide +kernel
theorem dX5_demandPerson_2 : decode cX5_demandPerson 2 = .ok (.invokevirtual 289, 3) := by decide +kernel
theorem dX5_demandPerson_5 : decode cX5_demandPerson 5 = .ok (.ifCond .ne 14, 3) := by decide +kernel
theorem dX5_demandPerson_8 : decode cX5_demandPerson 8 = .ok (.new 280, 3) := by decide +kernel
theorem dX5_demandPerson_11 : decode cX5_demandPerson 11 = .ok (.dup, 1) := by decide +kernel
theorem dX5_demandPerson_12 : decode cX5_demandPerson 12 = .ok (.ldc_w 293, 3) := by decide +kernel
theorem dX5_demandPerson_15 : decode cX5_demandPerson 15 = .ok (.invokespecial 284, 3) := by decide +kernel
theorem dX5_demandPerson_18 : decode cX5_demandPerson 18 = .ok (.athrow, 1) := by decide +kernel
theorem dX5_demandPerson_19 : decode cX5_demandPerson 19 = .ok (.return_, 1) := by decide +kernel
theorem dX5_demandRange_0 : decode cX5_demandRange 0 = .ok (.iload_n 0, 1) := by decide +kernel
theorem dX5_demandRange_1 : decode cX5_demandRange 1 = .ok (.iload_n 1, 1) := by decide +kernel
theorem dX5_demandRange_2 : decode cX5_demandRange 2 = .ok (.if_icmp .lt 8, 3) := by decide +kernel
theorem dX5_demandRange_5 : decode cX5_demandRange 5 = .ok (.iload_n 0, 1) := by decide +kernel
theorem dX5_demandRange_6 : decode cX5_demandRange 6 = .ok (.iload_n 2, 1) := by decide +kernel
theorem dX5_demandRange_7 : decode cX5_demandRange 7 = .ok (.if_icmp .le 14, 3) := by decide +kernel
theorem dX5_demandRange_10 : decode cX5_demandRange 10 = .ok (.new 118, 3) := by decide +kernel
theorem dX5_demandRange_13 : decode cX5_demandRange 13 = .ok (.dup, 1) := by decide +kernel
theorem dX5_demandRange_14 : decode cX5_demandRange 14 = .ok (.ldc_w 295, 3) := by decide +kernel
theorem dX5_demandRange_17 : decode cX5_demandRange 17 = .ok (.invokespecial 122, 3) := by decide +kernel
theorem dX5_demandRange_20 : decode cX5_demandRange 20 = .ok (.athrow, 1) := by decide +kernel
theorem dX5_demandRange_21 : decode cX5_demandRange 21 = .ok (.return_, 1) := by decide +kernel
