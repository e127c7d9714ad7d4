set_option maxRecDepth 20000 in
theorem ggX5_highest_X5_demandPerson : GoodIn wsX5_highest wsX5_demandPerson := goodIn_ca (goodIn_r _ [13, 7, 8, 14, 15, 16, 17, 18, 19, 93, 94, 95, 96, 97, 98, 99, 100, 101, 102] (by decide +kernel) (by decide +kernel)) (goodIn_sub (fun _ h => List.mem_cons_of_mem _ (List.mem_append_right _ h)) (by decide +kernel))
set_option maxRecDepth 20000 in
theorem gX5_highest_X5_demandPerson : GoodIn wsX5_highest (va_wsS RX5 90 yX5_demandPerson wsX5_demandPerson) := goodIn_app (goodIn_of _ (by decide +kernel)) ggX5_highest_X5_demandPerson
set_option maxRecDepth 20000 in
theorem ggX5_highest_X2_copyFrom : GoodIn wsX5_highest wsX2_copyFrom := goodIn_r _ [23, 24, 25, 26, 27, 28, 29, 30, 19, 31, 32, 93, 94, 95, 96, 97, 98, 99, 100, 101, 102] (by decide +kernel) (by decide +kernel)
set_option maxRecDepth 20000 in
theorem gX5_highest_X2_copyFrom : GoodIn wsX5_highest (wsV RX5 201 RX2 yX2_copyFrom wsX2_copyFrom) := goodIn_app (goodIn_of _ (by decide +kernel)) ggX5_highest_X2_copyFrom
set_option maxRecDepth 20000 in
theorem ggX5_highest_X2_stepOf : GoodIn wsX5_highest wsX2_stepOf := goodIn_r _ [36, 32, 37, 15, 16, 17, 18, 19, 93, 94, 95, 96, 97, 98, 99, 100, 101, 102] (by decide +kernel) (by decide +kernel)
set_option maxRecDepth 20000 in
theorem gX5_highest_X2_stepOf : GoodIn wsX5_highest (wsV RX5 163 RX2 yX2_stepOf wsX2_stepOf) := goodIn_app (goodIn_of _ (by decide +kernel)) ggX5_highest_X2_stepOf
set_option maxRecDepth 20000 in
theorem ggX5_highest_X2_setStep : GoodIn wsX5_highest wsX2_setStep := goodIn_r _ [41, 32, 37, 15, 16, 17, 18, 19, 93, 94, 95, 96, 97, 98, 99, 100, 101, 102] (by decide +kernel) (by decide +kernel)
set_option maxRecDepth 20000 in
theorem gX5_highest_X2_setStep : GoodIn wsX5_highest (wsV RX5 205 RX2 yX2_setStep wsX2_setStep) := goodIn_app (goodIn_of _ (by decide +kernel)) ggX5_highest_X2_setStep
set_option maxRecDepth 20000 in
theorem ggX5_highest_X2_stands : GoodIn wsX5_highest wsX2_stands := goodIn_r _ [45, 46, 47, 48, 17, 49, 50, 51, 52, 53, 54, 55, 56, 57, 28, 25, 24, 58, 59, 60, 61, 62, 63, 64, 65, 26, 32, 31, 66, 67, 68, 69, 70, 71, 72, 73, 29, 74, 75, 76, 77, 27, 78, 79, 80, 81, 82, 83, 84, 85, 93, 94, 95, 96, 97, 98, 99, 100, 101, 102] (by decide +kernel) (by decide +kernel)
set_option maxRecDepth 20000 in
theorem gX5_highest_X2_stands : GoodIn wsX5_highest (wsV RX5 154 RX2 yX2_stands wsX2_stands) := goodIn_app (goodIn_of _ (by decide +kernel)) ggX5_highest_X2_stands
theorem dX5_highest_0 : decode cX5_highest 0 = .ok (.aload_n 0, 1) := by decide +kernel
theorem dX5_highest_1 : decode cX5_highest 1 = .ok (.iload_n 1, 1) := by decide +kernel
theorem dX5_highest_2 : decode cX5_highest 2 = .ok (.invokevirtual 37, 3) := by decide +kernel
theorem dX5_highest_5 : decode cX5_highest 5 = .ok (.astore_n 3, 1) := by decide +kernel
theorem dX5_highest_6 : decode cX5_highest 6 = .ok (.aload_n 3, 1) := by decide +kernel
theorem dX5_highest_7 : decode cX5_highest 7 = .ok (.iload_n 2, 1) := by decide +kernel
theorem dX5_highest_8 : decode cX5_highest 8 = .ok (.invokestatic 90, 3) := by decide +kernel
theorem dX5_highest_11 : decode cX5_highest 11 = .ok (.aload_n 0, 1) := by decide +kernel
theorem dX5_highest_12 : decode cX5_highest 12 = .ok (.getfield 33, 3) := by decide +kernel
theorem dX5_highest_15 : decode cX5_highest 15 = .ok (.aload_n 3, 1) := by decide +kernel
theorem dX5_highest_16 : decode cX5_highest 16 = .ok (.invokevirtual 201, 3) := by decide +kernel
theorem dX5_highest_19 : decode cX5_highest 19 = .ok (.aload_n 3, 1) := by decide +kernel
theorem dX5_highest_20 : decode cX5_highest 20 = .ok (.iload_n 2, 1) := by decide +kernel
theorem dX5_highest_21 : decode cX5_highest 21 = .ok (.invokevirtual 163, 3) := by decide +kernel
theorem dX5_highest_24 : decode cX5_highest 24 = .ok (.istore 4, 2) := by decide +kernel
theorem dX5_highest_26 : decode cX5_highest 26 = .ok (.iload 4, 2) := by decide +kernel
theorem dX5_highest_28 : decode cX5_highest 28 = .ok (.iconst 1, 1) := by decide +kernel
theorem dX5_highest_29 : decode cX5_highest 29 = .ok (.iadd, 1) := by decide +kernel
theorem dX5_highest_30 : decode cX5_highest 30 = .ok (.istore 5, 2) := by decide +kernel
theorem dX5_highest_32 : decode cX5_highest 32 = .ok (.iload 5, 2) := by decide +kernel
theorem dX5_highest_34 : decode cX5_highest 34 = .ok (.bipush 10, 2) := by decide +kernel
theorem dX5_highest_36 : decode cX5_highest 36 = .ok (.if_icmp .gt 36, 3) := by decide +kernel
theorem dX5_highest_39 : decode cX5_highest 39 = .ok (.aload_n 0, 1) := by decide +kernel
theorem dX5_highest_40 : decode cX5_highest 40 = .ok (.getfield 33, 3) := by decide +kernel
theorem dX5_highest_43 : decode cX5_highest 43 = .ok (.iload_n 2, 1) := by decide +kernel
theorem dX5_highest_44 : decode cX5_highest 44 = .ok (.iload 5, 2) := by decide +kernel
theorem dX5_highest_46 : decode cX5_highest 46 = .ok (.invokevirtual 205, 3) := by decide +kernel
theorem dX5_highest_49 : decode cX5_highest 49 = .ok (.aload_n 0, 1) := by decide +kernel
theorem dX5_highest_50 : decode cX5_highest 50 = .ok (.getfield 33, 3) := by decide +kernel
theorem dX5_highest_53 : decode cX5_highest 53 = .ok (.invokevirtual 154, 3) := by decide +kernel
theorem dX5_highest_56 : decode cX5_highest 56 = .ok (.ifCond .ne 6, 3) := by decide +kernel
theorem dX5_highest_59 : decode cX5_highest 59 = .ok (.iload 4, 2) := by decide +kernel
theorem dX5_highest_61 : decode cX5_highest 61 = .ok (.ireturn, 1) := by decide +kernel
theorem dX5_highest_62 : decode cX5_highest 62 = .ok (.iload 5, 2) := by decide +kernel
theorem dX5_highest_64 : decode cX5_highest 64 = .ok (.istore 4, 2) := by decide +kernel
theorem dX5_highest_66 : decode cX5_highest 66 = .ok (.iinc 5 1, 3) := by decide +kernel
theorem dX5_highest_69 : decode cX5_highest 69 = .ok (.goto (-37), 3) := by decide +kernel
theorem dX5_highest_72 : decode cX5_highest 72 = .ok (.iload 4, 2) := by decide +kernel
theorem dX5_highest_74 : decode cX5_highest 74 = .ok (.ireturn, 1) := by decide +kernel
set_option maxRecDepth 20000 in
theorem ggX5_neededRope_X5_rigOf : GoodIn wsX5_neededRope wsX5_rigOf := goodIn_ca (goodIn_r _ [7, 8, 9, 10, 11, 71, 72, 73, 74, 85, 86, 87] (by decide +kernel) (by decide +kernel)) (goodIn_sub (fun _ h => List.mem_cons_of_mem _ (List.mem_append_right _ h)) (by decide +kernel))
set_option maxRecDepth 20000 in
theorem gX5_neededRope_X5_rigOf : GoodIn wsX5_neededRope (wsV RX5 37 RX5 yX5_rigOf wsX5_rigOf) := goodIn_app (goodIn_of _ (by decide +kernel)) ggX5_neededRope_X5_rigOf
set_option maxRecDepth 20000 in
theorem ggX5_neededRope_X2_copyFrom : GoodIn wsX5_neededRope wsX2_copyFrom := goodIn_r _ [16, 17, 18, 19, 20, 21, 22, 23, 24, 25, 26, 75, 76, 77, 78, 79, 80, 81, 82, 83, 84] (by decide +kernel) (by decide +kernel)
set_option maxRecDepth 20000 in
theorem gX5_neededRope_X2_copyFrom : GoodIn wsX5_neededRope (wsV RX5 201 RX2 yX2_copyFrom wsX2_copyFrom) := goodIn_app (goodIn_of _ (by decide +kernel)) ggX5_neededRope_X2_copyFrom
set_option maxRecDepth 20000 in
theorem ggX5_neededRope_X2_stands : GoodIn wsX5_neededRope wsX2_stands := goodIn_r _ [30, 31, 32, 33, 15, 34, 35, 36, 37, 38, 39, 40, 41, 42, 21, 18, 17, 43, 44, 45, 46, 47, 48, 49, 50, 19, 26, 25, 51, 52, 53, 54, 55, 56, 57, 58, 22, 59, 60, 61, 62, 20, 63, 64, 65, 66, 67, 68, 69, 70, 75, 76, 77, 78, 79, 80, 81, 82, 83, 84] (by decide +kernel) (by decide +kernel)
set_option maxRecDepth 20000 in
theorem gX5_neededRope_X2_stands : GoodIn wsX5_neededRope (wsV RX5 154 RX2 yX2_stands wsX2_stands) := goodIn_app (goodIn_of _ (by decide +kernel)) ggX5_neededRope_X2_stands
theorem dX5_neededRope_0 : decode cX5_neededRope 0 = .ok (.aload_n 0, 1) := by decide +kernel
theorem dX5_neededRope_1 : decode cX5_neededRope 1 = .ok (.getfield 33, 3) := by decide +kernel
theorem dX5_neededRope_4 : decode cX5_neededRope 4 = .ok (.aload_n 0, 1) := by decide +kernel
theorem dX5_neededRope_5 : decode cX5_neededRope 5 = .ok (.iload_n 1, 1) := by decide +kernel
theorem dX5_neededRope_6 : decode cX5_neededRope 6 = .ok (.invokevirtual 37, 3) := by decide +kernel
theorem dX5_neededRope_9 : decode cX5_neededRope 9 = .ok (.invokevirtual 201, 3) := by decide +kernel
theorem dX5_neededRope_12 : decode cX5_neededRope 12 = .ok (.iconst 0, 1) := by decide +kernel
theorem dX5_neededRope_13 : decode cX5_neededRope 13 = .ok (.istore_n 2, 1) := by decide +kernel
theorem dX5_neededRope_14 : decode cX5_neededRope 14 = .ok (.iload_n 2, 1) := by decide +kernel
theorem dX5_neededRope_15 : decode cX5_neededRope 15 = .ok (.sipush 200, 3) := by decide +kernel
theorem dX5_neededRope_18 : decode cX5_neededRope 18 = .ok (.if_icmp .gt 29, 3) := by decide +kernel
theorem dX5_neededRope_21 : decode cX5_neededRope 21 = .ok (.aload_n 0, 1) := by decide +kernel
theorem dX5_neededRope_22 : decode cX5_neededRope 22 = .ok (.getfield 33, 3) := by decide +kernel
theorem dX5_neededRope_25 : decode cX5_neededRope 25 = .ok (.iload_n 2, 1) := by decide +kernel
theorem dX5_neededRope_26 : decode cX5_neededRope 26 = .ok (.putfield 69, 3) := by decide +kernel
theorem dX5_neededRope_29 : decode cX5_neededRope 29 = .ok (.aload_n 0, 1) := by decide +kernel
theorem dX5_neededRope_30 : decode cX5_neededRope 30 = .ok (.getfield 33, 3) := by decide +kernel
theorem dX5_neededRope_33 : decode cX5_neededRope 33 = .ok (.invokevirtual 154, 3) := by decide +kernel
theorem dX5_neededRope_36 : decode cX5_neededRope 36 = .ok (.ifCond .eq 5, 3) := by decide +kernel
theorem dX5_neededRope_39 : decode cX5_neededRope 39 = .ok (.iload_n 2, 1) := by decide +kernel
theorem dX5_neededRope_40 : decode cX5_neededRope 40 = .ok (.ireturn, 1) := by decide +kernel
theorem dX5_neededRope_41 : decode cX5_neededRope 41 = .ok (.iinc 2 1, 3) := by decide +kernel
theorem dX5_neededRope_44 : decode cX5_neededRope 44 = .ok (.goto (-30), 3) := by decide +kernel
theorem dX5_neededRope_47 : decode cX5_neededRope 47 = .ok (.iconst (-1), 1) := by decide +kernel
theorem dX5_neededRope_48 : decode cX5_neededRope 48 = .ok (.ireturn, 1) := by decide +kernel
set_option maxRecDepth 20000 in
theorem ggX5_bestBase_X5_rigOf : GoodIn wsX5_bestBase wsX5_rigOf := goodIn_ca (goodIn_r _ [7, 8, 9, 10, 11, 71, 72, 73, 74, 85, 86, 87] (by decide +kernel) (by decide +kernel)) (goodIn_sub (fun _ h => List.mem_cons_of_mem _ (List.mem_append_right _ h)) (by decide +kernel))
set_option maxRecDepth 20000 in
theorem gX5_bestBase_X5_rigOf : GoodIn wsX5_bestBase (wsV RX5 37 RX5 yX5_rigOf wsX5_rigOf) := goodIn_app (goodIn_of _ (by decide +kernel)) ggX5_bestBase_X5_rigOf
set_option maxRecDepth 20000 in
theorem ggX5_bestBase_X2_copyFrom : GoodIn wsX5_bestBase wsX2_copyFrom := goodIn_r _ [16, 17, 18, 19, 20, 21, 22, 23, 24, 25, 26, 75, 76, 77, 78, 79, 80, 81, 82, 83, 84] (by decide +kernel) (by decide +kernel)
set_option maxRecDepth 20000 in
theorem gX5_bestBase_X2_copyFrom : GoodIn wsX5_bestBase (wsV RX5 201 RX2 yX2_copyFrom wsX2_copyFrom) := goodIn_app (goodIn_of _ (by decide +kernel)) ggX5_bestBase_X2_copyFrom
set_option maxRecDepth 20000 in
theorem ggX5_bestBase_X2_forces : GoodIn wsX5_bestBase wsX2_forces := goodIn_r _ [30, 31, 32, 33, 34, 35, 36, 37, 15, 38, 18, 17, 39, 40, 41, 42, 21, 43, 44, 45, 46, 19, 26, 25, 47, 48, 49, 50, 51, 52, 53, 54, 55, 56, 57, 58, 59, 60, 61, 62, 22, 63, 64, 65, 66, 20, 67, 68, 69, 70, 75, 76, 77, 78, 79, 80, 81, 82, 83, 84] (by decide +kernel) (by decide +kernel)
set_option maxRecDepth 20000 in
theorem gX5_bestBase_X2_forces : GoodIn wsX5_bestBase (wsV RX5 168 RX2 yX2_forces wsX2_forces) := goodIn_app (goodIn_of _ (by decide +kernel)) ggX5_bestBase_X2_forces
theorem dX5_bestBase_0 : decode cX5_bestBase 0 = .ok (.aload_n 0, 1) := by decide +kernel
theorem dX5_bestBase_1 : decode cX5_bestBase 1 = .ok (.getfield 33, 3) := by decide +kernel
theorem dX5_bestBase_4 : decode cX5_bestBase 4 = .ok (.aload_n 0, 1) := by decide +kernel
theorem dX5_bestBase_5 : decode cX5_bestBase 5 = .ok (.iload_n 1, 1) := by decide +kernel
theorem dX5_bestBase_6 : decode cX5_bestBase 6 = .ok (.invokevirtual 37, 3) := by decide +kernel
theorem dX5_bestBase_9 : decode cX5_bestBase 9 = .ok (.invokevirtual 201, 3) := by decide +kernel
theorem dX5_bestBase_12 : decode cX5_bestBase 12 = .ok (.iconst (-1), 1) := by decide +kernel
theorem dX5_bestBase_13 : decode cX5_bestBase 13 = .ok (.istore_n 2, 1) := by decide +kernel
theorem dX5_bestBase_14 : decode cX5_bestBase 14 = .ok (.iconst 0, 1) := by decide +kernel
theorem dX5_bestBase_15 : decode cX5_bestBase 15 = .ok (.istore_n 3, 1) := by decide +kernel
theorem dX5_bestBase_16 : decode cX5_bestBase 16 = .ok (.bipush 10, 2) := by decide +kernel
theorem dX5_bestBase_18 : decode cX5_bestBase 18 = .ok (.istore 4, 2) := by decide +kernel
theorem dX5_bestBase_20 : decode cX5_bestBase 20 = .ok (.iload 4, 2) := by decide +kernel
theorem dX5_bestBase_22 : decode cX5_bestBase 22 = .ok (.bipush 100, 2) := by decide +kernel
theorem dX5_bestBase_24 : decode cX5_bestBase 24 = .ok (.if_icmp .gt 39, 3) := by decide +kernel
theorem dX5_bestBase_27 : decode cX5_bestBase 27 = .ok (.aload_n 0, 1) := by decide +kernel
theorem dX5_bestBase_28 : decode cX5_bestBase 28 = .ok (.getfield 33, 3) := by decide +kernel
theorem dX5_bestBase_31 : decode cX5_bestBase 31 = .ok (.iload 4, 2) := by decide +kernel
theorem dX5_bestBase_33 : decode cX5_bestBase 33 = .ok (.putfield 49, 3) := by decide +kernel
theorem dX5_bestBase_36 : decode cX5_bestBase 36 = .ok (.aload_n 0, 1) := by decide +kernel
theorem dX5_bestBase_37 : decode cX5_bestBase 37 = .ok (.getfield 33, 3) := by decide +kernel
theorem dX5_bestBase_40 : decode cX5_bestBase 40 = .ok (.invokevirtual 168, 3) := by decide +kernel
theorem dX5_bestBase_43 : decode cX5_bestBase 43 = .ok (.istore 5, 2) := by decide +kernel
theorem dX5_bestBase_45 : decode cX5_bestBase 45 = .ok (.iload 5, 2) := by decide +kernel
theorem dX5_bestBase_47 : decode cX5_bestBase 47 = .ok (.iload_n 3, 1) := by decide +kernel
theorem dX5_bestBase_48 : decode cX5_bestBase 48 = .ok (.if_icmp .le 9, 3) := by decide +kernel
theorem dX5_bestBase_51 : decode cX5_bestBase 51 = .ok (.iload 4, 2) := by decide +kernel
theorem dX5_bestBase_53 : decode cX5_bestBase 53 = .ok (.istore_n 2, 1) := by decide +kernel
theorem dX5_bestBase_54 : decode cX5_bestBase 54 = .ok (.iload 5, 2) := by decide +kernel
theorem dX5_bestBase_56 : decode cX5_bestBase 56 = .ok (.istore_n 3, 1) := by decide +kernel
theorem dX5_bestBase_57 : decode cX5_bestBase 57 = .ok (.iinc 4 5, 3) := by decide +kernel
theorem dX5_bestBase_60 : decode cX5_bestBase 60 = .ok (.goto (-40), 3) := by decide +kernel
theorem dX5_bestBase_63 : decode cX5_bestBase 63 = .ok (.iload_n 2, 1) := by decide +kernel
theorem dX5_bestBase_64 : decode cX5_bestBase 64 = .ok (.ireturn, 1) := by decide +kernel
set_option maxRecDepth 20000 in
theorem ggX5_riskiest_X5_rigOf : GoodIn wsX5_riskiest wsX5_rigOf := goodIn_ca (goodIn_r _ [7, 8, 9, 10, 11, 89, 90, 91, 92, 93, 94, 95] (by decide +kernel) (by decide +kernel)) (goodIn_sub (fun _ h => List.mem_cons_of_mem _ (List.mem_append_right _ h)) (by decide +kernel))
set_option maxRecDepth 20000 in
theorem gX5_riskiest_X5_rigOf : GoodIn wsX5_riskiest (wsV RX5 37 RX5 yX5_rigOf wsX5_rigOf) := goodIn_app (goodIn_of _ (by decide +kernel)) ggX5_riskiest_X5_rigOf
set_option maxRecDepth 20000 in
theorem ggX5_riskiest_X2_copyFrom : GoodIn wsX5_riskiest wsX2_copyFrom := goodIn_r _ [16, 17, 18, 19, 20, 21, 22, 23, 24, 25, 26, 79, 80, 81, 82, 83, 84, 85, 86, 87, 88] (by decide +kernel) (by decide +kernel)
set_option maxRecDepth 20000 in
theorem gX5_riskiest_X2_copyFrom : GoodIn wsX5_riskiest (wsV RX5 201 RX2 yX2_copyFrom wsX2_copyFrom) := goodIn_app (goodIn_of _ (by decide +kernel)) ggX5_riskiest_X2_copyFrom
set_option maxRecDepth 20000 in
theorem ggX5_riskiest_X2_remove : GoodIn wsX5_riskiest wsX2_remove := goodIn_r _ [30, 25, 26, 24, 31, 32, 33, 15, 34, 79, 80, 81, 82, 83, 84, 85, 86, 87, 88] (by decide +kernel) (by decide +kernel)
set_option maxRecDepth 20000 in
theorem gX5_riskiest_X2_remove : GoodIn wsX5_riskiest (wsV RX5 94 RX2 yX2_remove wsX2_remove) := goodIn_app (goodIn_of _ (by decide +kernel)) ggX5_riskiest_X2_remove
set_option maxRecDepth 20000 in
theorem ggX5_riskiest_X2_forces : GoodIn wsX5_riskiest wsX2_forces := goodIn_r _ [38, 39, 40, 41, 42, 43, 44, 45, 15, 46, 18, 17, 47, 48, 49, 50, 21, 51, 52, 53, 54, 19, 26, 25, 55, 56, 57, 58, 59, 60, 61, 62, 63, 64, 65, 66, 67, 68, 69, 70, 22, 71, 72, 73, 74, 20, 75, 76, 77, 78, 79, 80, 81, 82, 83, 84, 85, 86, 87, 88] (by decide +kernel) (by decide +kernel)
set_option maxRecDepth 20000 in
theorem gX5_riskiest_X2_forces : GoodIn wsX5_riskiest (wsV RX5 168 RX2 yX2_forces wsX2_forces) := goodIn_app (goodIn_of _ (by decide +kernel)) ggX5_riskiest_X2_forces
theorem dX5_riskiest_0 : decode cX5_riskiest 0 = .ok (.aload_n 0, 1) := by decide +kernel
theorem dX5_riskiest_1 : decode cX5_riskiest 1 = .ok (.iload_n 1, 1) := by decide +kernel
theorem dX5_riskiest_2 : decode cX5_riskiest 2 = .ok (.invokevirtual 37, 3) := by decide +kernel
theorem dX5_riskiest_5 : decode cX5_riskiest 5 = .ok (.astore_n 2, 1) := by decide +kernel
theorem dX5_riskiest_6 : decode cX5_riskiest 6 = .ok (.iconst (-1), 1) := by decide +kernel
theorem dX5_riskiest_7 : decode cX5_riskiest 7 = .ok (.istore_n 3, 1) := by decide +kernel
theorem dX5_riskiest_8 : decode cX5_riskiest 8 = .ok (.iconst 0, 1) := by decide +kernel
theorem dX5_riskiest_9 : decode cX5_riskiest 9 = .ok (.istore 4, 2) := by decide +kernel
theorem dX5_riskiest_11 : decode cX5_riskiest 11 = .ok (.iconst 0, 1) := by decide +kernel
theorem dX5_riskiest_12 : decode cX5_riskiest 12 = .ok (.istore 5, 2) := by decide +kernel
theorem dX5_riskiest_14 : decode cX5_riskiest 14 = .ok (.iload 5, 2) := by decide +kernel
theorem dX5_riskiest_16 : decode cX5_riskiest 16 = .ok (.aload_n 2, 1) := by decide +kernel
theorem dX5_riskiest_17 : decode cX5_riskiest 17 = .ok (.getfield 87, 3) := by decide +kernel
theorem dX5_riskiest_20 : decode cX5_riskiest 20 = .ok (.if_icmp .ge 54, 3) := by decide +kernel
theorem dX5_riskiest_23 : decode cX5_riskiest 23 = .ok (.aload_n 0, 1) := by decide +kernel
theorem dX5_riskiest_24 : decode cX5_riskiest 24 = .ok (.getfield 33, 3) := by decide +kernel
theorem dX5_riskiest_27 : decode cX5_riskiest 27 = .ok (.aload_n 2, 1) := by decide +kernel
theorem dX5_riskiest_28 : decode cX5_riskiest 28 = .ok (.invokevirtual 201, 3) := by decide +kernel
theorem dX5_riskiest_31 : decode cX5_riskiest 31 = .ok (.aload_n 0, 1) := by decide +kernel
theorem dX5_riskiest_32 : decode cX5_riskiest 32 = .ok (.getfield 33, 3) := by decide +kernel
theorem dX5_riskiest_35 : decode cX5_riskiest 35 = .ok (.iload 5, 2) := by decide +kernel
theorem dX5_riskiest_37 : decode cX5_riskiest 37 = .ok (.invokevirtual 94, 3) := by decide +kernel
theorem dX5_riskiest_40 : decode cX5_riskiest 40 = .ok (.aload_n 0, 1) := by decide +kernel
theorem dX5_riskiest_41 : decode cX5_riskiest 41 = .ok (.getfield 33, 3) := by decide +kernel
theorem dX5_riskiest_44 : decode cX5_riskiest 44 = .ok (.invokevirtual 168, 3) := by decide +kernel
theorem dX5_riskiest_47 : decode cX5_riskiest 47 = .ok (.istore 6, 2) := by decide +kernel
theorem dX5_riskiest_49 : decode cX5_riskiest 49 = .ok (.iload_n 3, 1) := by decide +kernel
theorem dX5_riskiest_50 : decode cX5_riskiest 50 = .ok (.iconst (-1), 1) := by decide +kernel
theorem dX5_riskiest_51 : decode cX5_riskiest 51 = .ok (.if_icmp .eq 10, 3) := by decide +kernel
theorem dX5_riskiest_54 : decode cX5_riskiest 54 = .ok (.iload 6, 2) := by decide +kernel
theorem dX5_riskiest_56 : decode cX5_riskiest 56 = .ok (.iload 4, 2) := by decide +kernel
theorem dX5_riskiest_58 : decode cX5_riskiest 58 = .ok (.if_icmp .le 10, 3) := by decide +kernel
theorem dX5_riskiest_61 : decode cX5_riskiest 61 = .ok (.iload 5, 2) := by decide +kernel
theorem dX5_riskiest_63 : decode cX5_riskiest 63 = .ok (.istore_n 3, 1) := by decide +kernel
theorem dX5_riskiest_64 : decode cX5_riskiest 64 = .ok (.iload 6, 2) := by decide +kernel
theorem dX5_riskiest_66 : decode cX5_riskiest 66 = .ok (.istore 4, 2) := by decide +kernel
theorem dX5_riskiest_68 : decode cX5_riskiest 68 = .ok (.iinc 5 1, 3) := by decide +kernel
theorem dX5_riskiest_71 : decode cX5_riskiest 71 = .ok (.goto (-57), 3) := by decide +kernel
theorem dX5_riskiest_74 : decode cX5_riskiest 74 = .ok (.iload_n 3, 1) := by decide +kernel
theorem dX5_riskiest_75 : decode cX5_riskiest 75 = .ok (.ireturn, 1) := by decide +kernel
set_option maxRecDepth 20000 in
theorem ggX5_walls_X5_rigOf : GoodIn wsX5_walls wsX5_rigOf := goodIn_ca (goodIn_r _ [7, 8, 9, 10, 11, 71, 72, 73, 74, 85, 86, 87] (by decide +kernel) (by decide +kernel)) (goodIn_sub (fun _ h => List.mem_cons_of_mem _ (List.mem_append_right _ h)) (by decide +kernel))
set_option maxRecDepth 20000 in
theorem gX5_walls_X5_rigOf : GoodIn wsX5_walls (wsV RX5 37 RX5 yX5_rigOf wsX5_rigOf) := goodIn_app (goodIn_of _ (by decide +kernel)) ggX5_walls_X5_rigOf
set_option maxRecDepth 20000 in
theorem ggX5_walls_X2_copyFrom : GoodIn wsX5_walls wsX2_copyFrom := goodIn_r _ [16, 17, 18, 19, 20, 21, 22, 23, 24, 25, 26, 75, 76, 77, 78, 79, 80, 81, 82, 83, 84] (by decide +kernel) (by decide +kernel)
set_option maxRecDepth 20000 in
theorem gX5_walls_X2_copyFrom : GoodIn wsX5_walls (wsV RX5 201 RX2 yX2_copyFrom wsX2_copyFrom) := goodIn_app (goodIn_of _ (by decide +kernel)) ggX5_walls_X2_copyFrom
set_option maxRecDepth 20000 in
theorem ggX5_walls_X2_stands : GoodIn wsX5_walls wsX2_stands := goodIn_r _ [30, 31, 32, 33, 15, 34, 35, 36, 37, 38, 39, 40, 41, 42, 21, 18, 17, 43, 44, 45, 46, 47, 48, 49, 50, 19, 26, 25, 51, 52, 53, 54, 55, 56, 57, 58, 22, 59, 60, 61, 62, 20, 63, 64, 65, 66, 67, 68, 69, 70, 75, 76, 77, 78, 79, 80, 81, 82, 83, 84] (by decide +kernel) (by decide +kernel)
set_option maxRecDepth 20000 in
theorem gX5_walls_X2_stands : GoodIn wsX5_walls (wsV RX5 154 RX2 yX2_stands wsX2_stands) := goodIn_app (goodIn_of _ (by decide +kernel)) ggX5_walls_X2_stands
theorem dX5_walls_0 : decode cX5_walls 0 = .ok (.aload_n 0, 1) := by decide +kernel
theorem dX5_walls_1 : decode cX5_walls 1 = .ok (.getfield 33, 3) := by decide +kernel
theorem dX5_walls_4 : decode cX5_walls 4 = .ok (.aload_n 0, 1) := by decide +kernel
theorem dX5_walls_5 : decode cX5_walls 5 = .ok (.iload_n 1, 1) := by decide +kernel
theorem dX5_walls_6 : decode cX5_walls 6 = .ok (.invokevirtual 37, 3) := by decide +kernel
theorem dX5_walls_9 : decode cX5_walls 9 = .ok (.invokevirtual 201, 3) := by decide +kernel
theorem dX5_walls_12 : decode cX5_walls 12 = .ok (.iconst 0, 1) := by decide +kernel
theorem dX5_walls_13 : decode cX5_walls 13 = .ok (.istore_n 2, 1) := by decide +kernel
theorem dX5_walls_14 : decode cX5_walls 14 = .ok (.iconst 0, 1) := by decide +kernel
theorem dX5_walls_15 : decode cX5_walls 15 = .ok (.istore_n 3, 1) := by decide +kernel
theorem dX5_walls_16 : decode cX5_walls 16 = .ok (.iload_n 3, 1) := by decide +kernel
theorem dX5_walls_17 : decode cX5_walls 17 = .ok (.iconst 4, 1) := by decide +kernel
theorem dX5_walls_18 : decode cX5_walls 18 = .ok (.if_icmp .ge 33, 3) := by decide +kernel
theorem dX5_walls_21 : decode cX5_walls 21 = .ok (.aload_n 0, 1) := by decide +kernel
theorem dX5_walls_22 : decode cX5_walls 22 = .ok (.getfield 33, 3) := by decide +kernel
theorem dX5_walls_25 : decode cX5_walls 25 = .ok (.iload_n 3, 1) := by decide +kernel
theorem dX5_walls_26 : decode cX5_walls 26 = .ok (.putfield 66, 3) := by decide +kernel
theorem dX5_walls_29 : decode cX5_walls 29 = .ok (.aload_n 0, 1) := by decide +kernel
theorem dX5_walls_30 : decode cX5_walls 30 = .ok (.getfield 33, 3) := by decide +kernel
theorem dX5_walls_33 : decode cX5_walls 33 = .ok (.invokevirtual 154, 3) := by decide +kernel
theorem dX5_walls_36 : decode cX5_walls 36 = .ok (.ifCond .eq 9, 3) := by decide +kernel
theorem dX5_walls_39 : decode cX5_walls 39 = .ok (.iload_n 2, 1) := by decide +kernel
theorem dX5_walls_40 : decode cX5_walls 40 = .ok (.iconst 1, 1) := by decide +kernel
theorem dX5_walls_41 : decode cX5_walls 41 = .ok (.iload_n 3, 1) := by decide +kernel
theorem dX5_walls_42 : decode cX5_walls 42 = .ok (.ishl, 1) := by decide +kernel
theorem dX5_walls_43 : decode cX5_walls 43 = .ok (.ior, 1) := by decide +kernel
theorem dX5_walls_44 : decode cX5_walls 44 = .ok (.istore_n 2, 1) := by decide +kernel
theorem dX5_walls_45 : decode cX5_walls 45 = .ok (.iinc 3 1, 3) := by decide +kernel
theorem dX5_walls_48 : decode cX5_walls 48 = .ok (.goto (-32), 3) := by decide +kernel
theorem dX5_walls_51 : decode cX5_walls 51 = .ok (.iload_n 2, 1) := by decide +kernel
theorem dX5_walls_52 : decode cX5_walls 52 = .ok (.ireturn, 1) := by decide +kernel
set_option maxRecDepth 20000 in
theorem ggX5_safety_X3_people : GoodIn wsX5_safety wsX3_people := goodIn_r _ [7, 8, 9, 14, 15, 16, 17, 18, 19, 20, 21, 22, 23, 24, 25, 26] (by decide +kernel) (by decide +kernel)
set_option maxRecDepth 20000 in
theorem gX5_safety_X3_people : GoodIn wsX5_safety (wsV RX5 189 RX3 yX3_people wsX3_people) := goodIn_app (goodIn_of _ (by decide +kernel)) ggX5_safety_X3_people
theorem dX5_safety_0 : decode cX5_safety 0 = .ok (.aload_n 0, 1) := by decide +kernel
theorem dX5_safety_1 : decode cX5_safety 1 = .ok (.getfield 10, 3) := by decide +kernel
theorem dX5_safety_4 : decode cX5_safety 4 = .ok (.invokevirtual 189, 3) := by decide +kernel
theorem dX5_safety_7 : decode cX5_safety 7 = .ok (.istore_n 1, 1) := by decide +kernel
theorem dX5_safety_8 : decode cX5_safety 8 = .ok (.iload_n 1, 1) := by decide +kernel
theorem dX5_safety_9 : decode cX5_safety 9 = .ok (.aload_n 0, 1) := by decide +kernel
theorem dX5_safety_10 : decode cX5_safety 10 = .ok (.getfield 10, 3) := by decide +kernel
theorem dX5_safety_13 : decode cX5_safety 13 = .ok (.getfield 193, 3) := by decide +kernel
theorem dX5_safety_16 : decode cX5_safety 16 = .ok (.iadd, 1) := by decide +kernel
theorem dX5_safety_17 : decode cX5_safety 17 = .ok (.istore_n 2, 1) := by decide +kernel
theorem dX5_safety_18 : decode cX5_safety 18 = .ok (.iload_n 2, 1) := by decide +kernel
theorem dX5_safety_19 : decode cX5_safety 19 = .ok (.ifCond .ne 7, 3) := by decide +kernel
theorem dX5_safety_22 : decode cX5_safety 22 = .ok (.dconst 1, 1) := by decide +kernel
theorem dX5_safety_23 : decode cX5_safety 23 = .ok (.goto 8, 3) := by decide +kernel
theorem dX5_safety_26 : decode cX5_safety 26 = .ok (.iload_n 1, 1) := by decide +kernel
theorem dX5_safety_27 : decode cX5_safety 27 = .ok (.i2d, 1) := by decide +kernel
theorem dX5_safety_28 : decode cX5_safety 28 = .ok (.iload_n 2, 1) := by decide +kernel
theorem dX5_safety_29 : decode cX5_safety 29 = .ok (.i2d, 1) := by decide +kernel
theorem dX5_safety_30 : decode cX5_safety 30 = .ok (.ddiv, 1) := by decide +kernel
theorem dX5_safety_31 : decode cX5_safety 31 = .ok (.dreturn, 1) := by decide +kernel
set_option maxRecDepth 20000 in
theorem ggX5_digest_X5_count : GoodIn wsX5_digest wsX5_count := goodIn_ca (goodIn_r _ [8, 9, 10, 11, 12, 13, 14, 15, 16, 17, 18, 19, 20, 21, 22, 23, 24, 25, 26, 27, 28, 29, 30, 31, 32, 33, 34, 35, 36, 37, 38, 39, 40, 41, 42, 43, 44, 45, 46, 47, 48, 49, 50, 51, 52, 53, 54, 55, 56, 57, 58, 59, 60, 61, 62, 63, 64, 65, 66, 67, 68, 69, 70, 71, 72, 73, 74, 75, 76, 77, 78, 79, 80, 81, 82, 83, 84, 223, 224, 225, 226, 231, 232, 233, 234, 235, 236, 237, 238, 239, 240, 241, 242, 243, 244, 245, 246] (by decide +kernel) (by decide +kernel)) (goodIn_sub (fun _ h => List.mem_cons_of_mem _ (List.mem_append_left _ (List.mem_append_right _ h))) (by decide +kernel))
set_option maxRecDepth 20000 in
theorem gX5_digest_X5_count : GoodIn wsX5_digest (wsV RX5 211 RX5 yX5_count wsX5_count) := goodIn_app (goodIn_of _ (by decide +kernel)) ggX5_digest_X5_count
set_option maxRecDepth 20000 in
theorem ggX5_digest_X5_mix : GoodIn wsX5_digest wsX5_mix := goodIn_r _ [87, 88] (by decide +kernel) (by decide +kernel)
set_option maxRecDepth 20000 in
theorem gX5_digest_X5_mix : GoodIn wsX5_digest (va_wsS RX5 214 yX5_mix wsX5_mix) := goodIn_app (goodIn_of _ (by decide +kernel)) ggX5_digest_X5_mix
set_option maxRecDepth 20000 in
theorem ggX5_digest_X5_mixLadder : GoodIn wsX5_digest wsX5_mixLadder := goodIn_ca (goodIn_ca (goodIn_r _ [92, 93, 94, 95, 7, 96, 9, 10, 97, 98, 99, 100, 101, 102, 103, 104, 105, 106, 107, 108, 109, 110, 11, 111, 112, 68, 69, 25, 70, 50, 52, 113, 47, 48, 49, 51, 41, 114, 23, 24, 26, 27, 28, 29, 30, 31, 32, 33, 34, 35, 36, 37, 38, 39, 40, 42, 43, 44, 45, 46, 53, 54, 55, 56, 57, 58, 59, 60, 61, 62, 63, 64, 65, 66, 67, 71, 72, 73, 74, 85, 86, 87, 88, 115, 116, 117, 118, 119, 120, 121, 122, 123, 124, 125, 126, 127, 128, 129, 130, 131, 132, 133, 134, 135, 136, 137, 138, 139, 140, 141, 142, 143, 144, 145, 146, 147, 148, 149, 150, 151, 152, 153, 154, 155, 156, 157, 158, 159, 160, 161, 162, 163, 164, 165, 166, 167, 168, 169, 170, 171, 172, 173, 174, 175, 176, 177, 178, 179, 180, 181, 182, 183, 184, 185, 186, 187, 188, 189, 190, 191, 192, 193, 237, 238, 239, 240, 241, 242, 243, 244, 245, 246, 223, 224, 225, 226, 231, 232, 233] (by decide +kernel) (by decide +kernel)) (goodIn_sub (fun _ h => List.mem_cons_of_mem _ (List.mem_append_left _ (List.mem_append_right _ h))) (by decide +kernel))) (goodIn_sub (fun _ h => List.mem_cons_of_mem _ (List.mem_append_right _ h)) (by decide +kernel))
set_option maxRecDepth 20000 in
theorem gX5_digest_X5_mixLadder : GoodIn wsX5_digest (wsV RX5 218 RX5 yX5_mixLadder wsX5_mixLadder) := goodIn_app (goodIn_of _ (by decide +kernel)) ggX5_digest_X5_mixLadder
set_option maxRecDepth 20000 in
theorem ggX5_digest_X5_held : GoodIn wsX5_digest wsX5_held := goodIn_ca (goodIn_ca (goodIn_r _ [197, 105, 106, 107, 7, 108, 109, 110, 11, 111, 119, 120, 121, 9, 10, 198, 199, 200, 25, 201, 40, 202, 203, 33, 204, 39, 61, 205, 136, 137, 138, 41, 46, 47, 48, 49, 50, 51, 52, 67, 68, 69, 70, 42, 43, 44, 45, 62, 63, 64, 65, 66, 223, 224, 225, 226, 231, 232, 233, 237, 238, 239, 240, 241, 242, 243, 244, 245, 246] (by decide +kernel) (by decide +kernel)) (goodIn_sub (fun _ h => List.mem_cons_of_mem _ (List.mem_append_right _ h)) (by decide +kernel))) (goodIn_sub (fun _ h => List.mem_cons_of_mem _ (List.mem_append_left _ (List.mem_append_right _ h))) (by decide +kernel))
set_option maxRecDepth 20000 in
theorem gX5_digest_X5_held : GoodIn wsX5_digest (wsV RX5 222 RX5 yX5_held wsX5_held) := goodIn_app (goodIn_of _ (by decide +kernel)) ggX5_digest_X5_held
set_option maxRecDepth 20000 in
theorem ggX5_digest_X5_safety : GoodIn wsX5_digest wsX5_safety := goodIn_r _ [209, 11, 12, 75, 76, 77, 19, 78, 21, 79, 223, 224, 225, 226, 231, 232, 233, 237, 238, 239, 240, 241, 242, 243, 244, 245, 246] (by decide +kernel) (by decide +kernel)
set_option maxRecDepth 20000 in
theorem gX5_digest_X5_safety : GoodIn wsX5_digest (wsV RX5 226 RX5 yX5_safety wsX5_safety) := goodIn_app (goodIn_of _ (by decide +kernel)) ggX5_digest_X5_safety
set_option maxRecDepth 20000 in
theorem ggX5_digest_X5_bitsOf : GoodIn wsX5_digest wsX5_bitsOf := goodIn_r _ [212, 213, 214, 215] (by decide +kernel) (by decide +kernel)
set_option maxRecDepth 20000 in
theorem gX5_digest_X5_bitsOf : GoodIn wsX5_digest (va_wsS RX5 230 yX5_bitsOf wsX5_bitsOf) := goodIn_app (goodIn_of _ (by decide +kernel)) ggX5_digest_X5_bitsOf
set_option maxRecDepth 20000 in
theorem ggX5_digest_X4_codeAt : GoodIn wsX5_digest wsX4_codeAt := goodIn_r _ [220, 221, 222, 227, 228, 229, 230] (by decide +kernel) (by decide +kernel)
set_option maxRecDepth 20000 in
theorem gX5_digest_X4_codeAt : GoodIn wsX5_digest (wsV RX5 234 RX4 yX4_codeAt wsX4_codeAt) := goodIn_app (goodIn_of _ (by decide +kernel)) ggX5_digest_X4_codeAt
theorem dX5_digest_0 : decode cX5_digest 0 = .ok (.ldc2_w 209, 3) := by decide +kernel
theorem dX5_digest_3 : decode cX5_digest 3 = .ok (.lstore_n 1, 1) := by decide +kernel
theorem dX5_digest_4 : decode cX5_digest 4 = .ok (.iconst 0, 1) := by decide +kernel
theorem dX5_digest_5 : decode cX5_digest 5 = .ok (.istore_n 3, 1) := by decide +kernel
theorem dX5_digest_6 : decode cX5_digest 6 = .ok (.iload_n 3, 1) := by decide +kernel
theorem dX5_digest_7 : decode cX5_digest 7 = .ok (.iconst 5, 1) := by decide +kernel
theorem dX5_digest_8 : decode cX5_digest 8 = .ok (.if_icmp .gt 20, 3) := by decide +kernel
theorem dX5_digest_11 : decode cX5_digest 11 = .ok (.lload_n 1, 1) := by decide +kernel
theorem dX5_digest_12 : decode cX5_digest 12 = .ok (.aload_n 0, 1) := by decide +kernel
theorem dX5_digest_13 : decode cX5_digest 13 = .ok (.iload_n 3, 1) := by decide +kernel
theorem dX5_digest_14 : decode cX5_digest 14 = .ok (.invokevirtual 211, 3) := by decide +kernel
theorem dX5_digest_17 : decode cX5_digest 17 = .ok (.i2l, 1) := by decide +kernel
theorem dX5_digest_18 : decode cX5_digest 18 = .ok (.invokestatic 214, 3) := by decide +kernel
theorem dX5_digest_21 : decode cX5_digest 21 = .ok (.lstore_n 1, 1) := by decide +kernel
theorem dX5_digest_22 : decode cX5_digest 22 = .ok (.iinc 3 1, 3) := by decide +kernel
theorem dX5_digest_25 : decode cX5_digest 25 = .ok (.goto (-19), 3) := by decide +kernel
theorem dX5_digest_28 : decode cX5_digest 28 = .ok (.iconst 0, 1) := by decide +kernel
theorem dX5_digest_29 : decode cX5_digest 29 = .ok (.istore_n 3, 1) := by decide +kernel
theorem dX5_digest_30 : decode cX5_digest 30 = .ok (.iload_n 3, 1) := by decide +kernel
theorem dX5_digest_31 : decode cX5_digest 31 = .ok (.iconst 4, 1) := by decide +kernel
theorem dX5_digest_32 : decode cX5_digest 32 = .ok (.if_icmp .ge 16, 3) := by decide +kernel
theorem dX5_digest_35 : decode cX5_digest 35 = .ok (.aload_n 0, 1) := by decide +kernel
theorem dX5_digest_36 : decode cX5_digest 36 = .ok (.lload_n 1, 1) := by decide +kernel
theorem dX5_digest_37 : decode cX5_digest 37 = .ok (.iload_n 3, 1) := by decide +kernel
theorem dX5_digest_38 : decode cX5_digest 38 = .ok (.invokevirtual 218, 3) := by decide +kernel
theorem dX5_digest_41 : decode cX5_digest 41 = .ok (.lstore_n 1, 1) := by decide +kernel
theorem dX5_digest_42 : decode cX5_digest 42 = .ok (.iinc 3 1, 3) := by decide +kernel
theorem dX5_digest_45 : decode cX5_digest 45 = .ok (.goto (-15), 3) := by decide +kernel
theorem dX5_digest_48 : decode cX5_digest 48 = .ok (.bipush (-10), 2) := by decide +kernel
theorem dX5_digest_50 : decode cX5_digest 50 = .ok (.istore_n 3, 1) := by decide +kernel
theorem dX5_digest_51 : decode cX5_digest 51 = .ok (.iload_n 3, 1) := by decide +kernel
theorem dX5_digest_52 : decode cX5_digest 52 = .ok (.bipush 10, 2) := by decide +kernel
theorem dX5_digest_54 : decode cX5_digest 54 = .ok (.if_icmp .gt 21, 3) := by decide +kernel
theorem dX5_digest_57 : decode cX5_digest 57 = .ok (.lload_n 1, 1) := by decide +kernel
theorem dX5_digest_58 : decode cX5_digest 58 = .ok (.aload_n 0, 1) := by decide +kernel
theorem dX5_digest_59 : decode cX5_digest 59 = .ok (.iconst 0, 1) := by decide +kernel
theorem dX5_digest_60 : decode cX5_digest 60 = .ok (.iload_n 3, 1) := by decide +kernel
theorem dX5_digest_61 : decode cX5_digest 61 = .ok (.invokevirtual 222, 3) := by decide +kernel
theorem dX5_digest_64 : decode cX5_digest 64 = .ok (.i2l, 1) := by decide +kernel
theorem dX5_digest_65 : decode cX5_digest 65 = .ok (.invokestatic 214, 3) := by decide +kernel
theorem dX5_digest_68 : decode cX5_digest 68 = .ok (.lstore_n 1, 1) := by decide +kernel
theorem dX5_digest_69 : decode cX5_digest 69 = .ok (.iinc 3 10, 3) := by decide +kernel
theorem dX5_digest_72 : decode cX5_digest 72 = .ok (.goto (-21), 3) := by decide +kernel
theorem dX5_digest_75 : decode cX5_digest 75 = .ok (.lload_n 1, 1) := by decide +kernel
theorem dX5_digest_76 : decode cX5_digest 76 = .ok (.aload_n 0, 1) := by decide +kernel
theorem dX5_digest_77 : decode cX5_digest 77 = .ok (.invokevirtual 226, 3) := by decide +kernel
theorem dX5_digest_80 : decode cX5_digest 80 = .ok (.invokestatic 230, 3) := by decide +kernel
theorem dX5_digest_83 : decode cX5_digest 83 = .ok (.invokestatic 214, 3) := by decide +kernel
theorem dX5_digest_86 : decode cX5_digest 86 = .ok (.lstore_n 1, 1) := by decide +kernel
theorem dX5_digest_87 : decode cX5_digest 87 = .ok (.lload_n 1, 1) := by decide +kernel
theorem dX5_digest_88 : decode cX5_digest 88 = .ok (.aload_n 0, 1) := by decide +kernel
theorem dX5_digest_89 : decode cX5_digest 89 = .ok (.getfield 26, 3) := by decide +kernel
theorem dX5_digest_92 : decode cX5_digest 92 = .ok (.getfield 105, 3) := by decide +kernel
theorem dX5_digest_95 : decode cX5_digest 95 = .ok (.i2l, 1) := by decide +kernel
theorem dX5_digest_96 : decode cX5_digest 96 = .ok (.invokestatic 214, 3) := by decide +kernel
theorem dX5_digest_99 : decode cX5_digest 99 = .ok (.lstore_n 1, 1) := by decide +kernel
theorem dX5_digest_100 : decode cX5_digest 100 = .ok (.iconst 0, 1) := by decide +kernel
theorem dX5_digest_101 : decode cX5_digest 101 = .ok (.istore_n 3, 1) := by decide +kernel
theorem dX5_digest_102 : decode cX5_digest 102 = .ok (.iload_n 3, 1) := by decide +kernel
theorem dX5_digest_103 : decode cX5_digest 103 = .ok (.aload_n 0, 1) := by decide +kernel
theorem dX5_digest_104 : decode cX5_digest 104 = .ok (.getfield 26, 3) := by decide +kernel
theorem dX5_digest_107 : decode cX5_digest 107 = .ok (.getfield 105, 3) := by decide +kernel
theorem dX5_digest_110 : decode cX5_digest 110 = .ok (.if_icmp .ge 23, 3) := by decide +kernel
theorem dX5_digest_113 : decode cX5_digest 113 = .ok (.lload_n 1, 1) := by decide +kernel
theorem dX5_digest_114 : decode cX5_digest 114 = .ok (.aload_n 0, 1) := by decide +kernel
theorem dX5_digest_115 : decode cX5_digest 115 = .ok (.getfield 26, 3) := by decide +kernel
theorem dX5_digest_118 : decode cX5_digest 118 = .ok (.iload_n 3, 1) := by decide +kernel
theorem dX5_digest_119 : decode cX5_digest 119 = .ok (.invokevirtual 234, 3) := by decide +kernel
theorem dX5_digest_122 : decode cX5_digest 122 = .ok (.i2l, 1) := by decide +kernel
theorem dX5_digest_123 : decode cX5_digest 123 = .ok (.invokestatic 214, 3) := by decide +kernel
theorem dX5_digest_126 : decode cX5_digest 126 = .ok (.lstore_n 1, 1) := by decide +kernel
theorem dX5_digest_127 : decode cX5_digest 127 = .ok (.iinc 3 1, 3) := by decide +kernel
theorem dX5_digest_130 : decode cX5_digest 130 = .ok (.goto (-28), 3) := by decide +kernel
theorem dX5_digest_133 : decode cX5_digest 133 = .ok (.lload_n 1, 1) := by decide +kernel
theorem dX5_digest_134 : decode cX5_digest 134 = .ok (.lreturn, 1) := by decide +kernel
set_option maxRecDepth 20000 in
theorem ggX5_mixLadder_X5_ladder : GoodIn wsX5_mixLadder wsX5_ladder := goodIn_ca (goodIn_ca (goodIn_r _ [5, 6, 7, 8, 9, 10, 11, 12, 13, 14, 15, 16, 17, 18, 4, 19, 20, 21, 22, 23, 24, 25, 26, 27, 28, 29, 30, 31, 32, 33, 34, 35, 36, 37, 38, 39, 40, 41, 42, 43, 44, 45, 46, 47, 48, 49, 50, 51, 52, 53, 54, 55, 56, 57, 58, 59, 60, 61, 62, 63, 64, 65, 66, 67, 68, 69, 70, 71, 72, 73, 74, 75, 76, 77, 78, 162, 163, 164, 165, 166, 167, 168, 169, 170, 171, 172, 173, 174, 175, 176, 177, 178] (by decide +kernel) (by decide +kernel)) (goodIn_sub (fun _ h => List.mem_cons_of_mem _ (List.mem_append_left _ (List.mem_append_right _ h))) (by decide +kernel))) (goodIn_sub (fun _ h => List.mem_cons_of_mem _ (List.mem_append_right _ h)) (by decide +kernel))
set_option maxRecDepth 20000 in
theorem gX5_mixLadder_X5_ladder : GoodIn wsX5_mixLadder (wsV RX5 237 RX5 yX5_ladder wsX5_ladder) := goodIn_app (goodIn_of _ (by decide +kernel)) ggX5_mixLadder_X5_ladder
set_option maxRecDepth 20000 in
theorem ggX5_mixLadder_X5_mix : GoodIn wsX5_mixLadder wsX5_mix := goodIn_r _ [81, 82] (by decide +kernel) (by decide +kernel)
set_option maxRecDepth 20000 in
theorem gX5_mixLadder_X5_mix : GoodIn wsX5_mixLadder (va_wsS RX5 214 yX5_mix wsX5_mix) := goodIn_app (goodIn_of _ (by decide +kernel)) ggX5_mixLadder_X5_mix
set_option maxRecDepth 20000 in
theorem ggX5_mixLadder_X5_force : GoodIn wsX5_mixLadder wsX5_force := goodIn_ca (goodIn_ca (goodIn_r _ [86, 16, 17, 18, 4, 19, 20, 21, 22, 23, 87, 88, 89, 6, 7, 90, 91, 92, 27, 93, 45, 46, 47, 48, 75, 76, 77, 78, 54, 36, 55, 56, 57, 58, 53, 59, 32, 33, 34, 29, 35, 30, 60, 61, 62, 63, 41, 42, 43, 44, 49, 50, 51, 52, 64, 65, 66, 67, 68, 69, 70, 71, 72, 73, 74, 25, 26, 28, 37, 38, 39, 40, 94, 95, 96, 97, 98, 99, 100, 101, 102, 103, 104, 105, 106, 24, 172, 173, 174, 175, 176, 177, 178, 162, 163, 164, 165, 166, 167, 168, 169, 170, 171] (by decide +kernel) (by decide +kernel)) (goodIn_sub (fun _ h => List.mem_cons_of_mem _ (List.mem_append_right _ h)) (by decide +kernel))) (goodIn_sub (fun _ h => List.mem_cons_of_mem _ (List.mem_append_left _ (List.mem_append_right _ h))) (by decide +kernel))
set_option maxRecDepth 20000 in
theorem gX5_mixLadder_X5_force : GoodIn wsX5_mixLadder (wsV RX5 240 RX5 yX5_force wsX5_force) := goodIn_app (goodIn_of _ (by decide +kernel)) ggX5_mixLadder_X5_force
set_option maxRecDepth 20000 in
theorem ggX5_mixLadder_X5_person : GoodIn wsX5_mixLadder wsX5_person := goodIn_ca (goodIn_ca (goodIn_r _ [110, 6, 7, 16, 17, 18, 4, 19, 20, 21, 22, 23, 111, 112, 113, 114, 115, 116, 27, 117, 118, 119, 120, 121, 122, 30, 123, 124, 125, 126, 127, 35, 172, 173, 174, 175, 176, 177, 178, 162, 163, 164, 165, 166, 167, 168, 169, 170, 171] (by decide +kernel) (by decide +kernel)) (goodIn_sub (fun _ h => List.mem_cons_of_mem _ (List.mem_append_left _ (List.mem_append_right _ h))) (by decide +kernel))) (goodIn_sub (fun _ h => List.mem_cons_of_mem _ (List.mem_append_right _ h)) (by decide +kernel))
set_option maxRecDepth 20000 in
theorem gX5_mixLadder_X5_person : GoodIn wsX5_mixLadder (wsV RX5 243 RX5 yX5_person wsX5_person) := goodIn_app (goodIn_of _ (by decide +kernel)) ggX5_mixLadder_X5_person
set_option maxRecDepth 20000 in
theorem ggX5_mixLadder_X5_highest : GoodIn wsX5_mixLadder wsX5_highest := goodIn_ca (goodIn_r _ [131, 132, 16, 17, 18, 4, 19, 20, 21, 22, 23, 111, 112, 113, 114, 115, 116, 27, 117, 118, 133, 134, 135, 136, 36, 54, 29, 73, 53, 68, 137, 30, 35, 124, 125, 126, 127, 123, 138, 139, 140, 141, 37, 38, 39, 40, 41, 42, 43, 44, 45, 46, 47, 48, 49, 50, 51, 52, 55, 56, 57, 58, 59, 32, 33, 34, 60, 61, 62, 63, 64, 65, 66, 67, 69, 70, 71, 72, 74, 25, 26, 28, 75, 76, 77, 78, 172, 173, 174, 175, 176, 177, 178, 162, 163, 164, 165, 166, 167, 168, 169, 170, 171] (by decide +kernel) (by decide +kernel)) (goodIn_sub (fun _ h => List.mem_cons_of_mem _ (List.mem_append_right _ h)) (by decide +kernel))
set_option maxRecDepth 20000 in
theorem gX5_mixLadder_X5_highest : GoodIn wsX5_mixLadder (wsV RX5 247 RX5 yX5_highest wsX5_highest) := goodIn_app (goodIn_of _ (by decide +kernel)) ggX5_mixLadder_X5_highest
set_option maxRecDepth 20000 in
theorem ggX5_mixLadder_X5_neededRope : GoodIn wsX5_mixLadder wsX5_neededRope := goodIn_ca (goodIn_r _ [145, 132, 13, 16, 17, 18, 4, 19, 20, 21, 22, 23, 133, 134, 135, 27, 136, 36, 54, 29, 73, 53, 68, 137, 118, 30, 35, 37, 38, 39, 40, 41, 42, 43, 44, 45, 46, 47, 48, 49, 50, 51, 52, 55, 56, 57, 58, 59, 32, 33, 34, 60, 61, 62, 63, 64, 65, 66, 67, 69, 70, 71, 72, 74, 25, 26, 28, 75, 76, 77, 78, 172, 173, 174, 175, 162, 163, 164, 165, 166, 167, 168, 169, 170, 171, 176, 177, 178] (by decide +kernel) (by decide +kernel)) (goodIn_sub (fun _ h => List.mem_cons_of_mem _ (List.mem_append_right _ h)) (by decide +kernel))
set_option maxRecDepth 20000 in
theorem gX5_mixLadder_X5_neededRope : GoodIn wsX5_mixLadder (wsV RX5 250 RX5 yX5_neededRope wsX5_neededRope) := goodIn_app (goodIn_of _ (by decide +kernel)) ggX5_mixLadder_X5_neededRope
set_option maxRecDepth 20000 in
theorem ggX5_mixLadder_X5_bestBase : GoodIn wsX5_mixLadder wsX5_bestBase := goodIn_ca (goodIn_r _ [149, 132, 8, 16, 17, 18, 4, 19, 20, 21, 22, 23, 133, 134, 135, 27, 136, 36, 54, 29, 73, 53, 68, 137, 118, 30, 35, 90, 91, 92, 93, 45, 46, 47, 48, 75, 76, 77, 78, 55, 56, 57, 58, 59, 32, 33, 34, 60, 61, 62, 63, 41, 42, 43, 44, 49, 50, 51, 52, 64, 65, 66, 67, 69, 70, 71, 72, 74, 25, 26, 28, 172, 173, 174, 175, 162, 163, 164, 165, 166, 167, 168, 169, 170, 171, 176, 177, 178] (by decide +kernel) (by decide +kernel)) (goodIn_sub (fun _ h => List.mem_cons_of_mem _ (List.mem_append_right _ h)) (by decide +kernel))
set_option maxRecDepth 20000 in
theorem gX5_mixLadder_X5_bestBase : GoodIn wsX5_mixLadder (wsV RX5 253 RX5 yX5_bestBase wsX5_bestBase) := goodIn_app (goodIn_of _ (by decide +kernel)) ggX5_mixLadder_X5_bestBase
set_option maxRecDepth 20000 in
theorem ggX5_mixLadder_X5_riskiest : GoodIn wsX5_mixLadder wsX5_riskiest := goodIn_ca (goodIn_r _ [153, 14, 132, 16, 17, 18, 4, 19, 20, 21, 22, 23, 133, 134, 135, 27, 136, 36, 54, 29, 73, 53, 68, 137, 118, 30, 35, 154, 155, 156, 157, 123, 115, 116, 117, 90, 91, 92, 93, 45, 46, 47, 48, 75, 76, 77, 78, 55, 56, 57, 58, 59, 32, 33, 34, 60, 61, 62, 63, 41, 42, 43, 44, 49, 50, 51, 52, 64, 65, 66, 67, 69, 70, 71, 72, 74, 25, 26, 28, 162, 163, 164, 165, 166, 167, 168, 169, 170, 171, 172, 173, 174, 175, 176, 177, 178] (by decide +kernel) (by decide +kernel)) (goodIn_sub (fun _ h => List.mem_cons_of_mem _ (List.mem_append_right _ h)) (by decide +kernel))
set_option maxRecDepth 20000 in
theorem gX5_mixLadder_X5_riskiest : GoodIn wsX5_mixLadder (wsV RX5 256 RX5 yX5_riskiest wsX5_riskiest) := goodIn_app (goodIn_of _ (by decide +kernel)) ggX5_mixLadder_X5_riskiest
set_option maxRecDepth 20000 in
theorem ggX5_mixLadder_X5_walls : GoodIn wsX5_mixLadder wsX5_walls := goodIn_ca (goodIn_r _ [161, 132, 12, 16, 17, 18, 4, 19, 20, 21, 22, 23, 133, 134, 135, 27, 136, 36, 54, 29, 73, 53, 68, 137, 118, 30, 35, 37, 38, 39, 40, 41, 42, 43, 44, 45, 46, 47, 48, 49, 50, 51, 52, 55, 56, 57, 58, 59, 32, 33, 34, 60, 61, 62, 63, 64, 65, 66, 67, 69, 70, 71, 72, 74, 25, 26, 28, 75, 76, 77, 78, 172, 173, 174, 175, 162, 163, 164, 165, 166, 167, 168, 169, 170, 171, 176, 177, 178] (by decide +kernel) (by decide +kernel)) (goodIn_sub (fun _ h => List.mem_cons_of_mem _ (List.mem_append_right _ h)) (by decide +kernel))
set_option maxRecDepth 20000 in
theorem gX5_mixLadder_X5_walls : GoodIn wsX5_mixLadder (wsV RX5 259 RX5 yX5_walls wsX5_walls) := goodIn_app (goodIn_of _ (by decide +kernel)) ggX5_mixLadder_X5_walls
theorem dX5_mixLadder_0 : decode cX5_mixLadder 0 = .ok (.lload_n 1, 1) := by decide +kernel
theorem dX5_mixLadder_1 : decode cX5_mixLadder 1 = .ok (.lstore 4, 2) := by decide +kernel
theorem dX5_mixLadder_3 : decode cX5_mixLadder 3 = .ok (.iconst 0, 1) := by decide +kernel
theorem dX5_mixLadder_4 : decode cX5_mixLadder 4 = .ok (.istore 6, 2) := by decide +kernel
theorem dX5_mixLadder_6 : decode cX5_mixLadder 6 = .ok (.iload 6, 2) := by decide +kernel
theorem dX5_mixLadder_8 : decode cX5_mixLadder 8 = .ok (.bipush 10, 2) := by decide +kernel
theorem dX5_mixLadder_10 : decode cX5_mixLadder 10 = .ok (.if_icmp .gt 24, 3) := by decide +kernel
theorem dX5_mixLadder_13 : decode cX5_mixLadder 13 = .ok (.lload 4, 2) := by decide +kernel
theorem dX5_mixLadder_15 : decode cX5_mixLadder 15 = .ok (.aload_n 0, 1) := by decide +kernel
theorem dX5_mixLadder_16 : decode cX5_mixLadder 16 = .ok (.iload_n 3, 1) := by decide +kernel
theorem dX5_mixLadder_17 : decode cX5_mixLadder 17 = .ok (.iload 6, 2) := by decide +kernel
theorem dX5_mixLadder_19 : decode cX5_mixLadder 19 = .ok (.invokevirtual 237, 3) := by decide +kernel
theorem dX5_mixLadder_22 : decode cX5_mixLadder 22 = .ok (.i2l, 1) := by decide +kernel
theorem dX5_mixLadder_23 : decode cX5_mixLadder 23 = .ok (.invokestatic 214, 3) := by decide +kernel
theorem dX5_mixLadder_26 : decode cX5_mixLadder 26 = .ok (.lstore 4, 2) := by decide +kernel
theorem dX5_mixLadder_28 : decode cX5_mixLadder 28 = .ok (.iinc 6 1, 3) := by decide +kernel
theorem dX5_mixLadder_31 : decode cX5_mixLadder 31 = .ok (.goto (-25), 3) := by decide +kernel
theorem dX5_mixLadder_34 : decode cX5_mixLadder 34 = .ok (.iconst 0, 1) := by decide +kernel
theorem dX5_mixLadder_35 : decode cX5_mixLadder 35 = .ok (.istore 6, 2) := by decide +kernel
theorem dX5_mixLadder_37 : decode cX5_mixLadder 37 = .ok (.iload 6, 2) := by decide +kernel
theorem dX5_mixLadder_39 : decode cX5_mixLadder 39 = .ok (.iconst 5, 1) := by decide +kernel
theorem dX5_mixLadder_40 : decode cX5_mixLadder 40 = .ok (.if_icmp .gt 24, 3) := by decide +kernel
theorem dX5_mixLadder_43 : decode cX5_mixLadder 43 = .ok (.lload 4, 2) := by decide +kernel
theorem dX5_mixLadder_45 : decode cX5_mixLadder 45 = .ok (.aload_n 0, 1) := by decide +kernel
theorem dX5_mixLadder_46 : decode cX5_mixLadder 46 = .ok (.iload_n 3, 1) := by decide +kernel
theorem dX5_mixLadder_47 : decode cX5_mixLadder 47 = .ok (.iload 6, 2) := by decide +kernel
theorem dX5_mixLadder_49 : decode cX5_mixLadder 49 = .ok (.invokevirtual 240, 3) := by decide +kernel
theorem dX5_mixLadder_52 : decode cX5_mixLadder 52 = .ok (.i2l, 1) := by decide +kernel
theorem dX5_mixLadder_53 : decode cX5_mixLadder 53 = .ok (.invokestatic 214, 3) := by decide +kernel
theorem dX5_mixLadder_56 : decode cX5_mixLadder 56 = .ok (.lstore 4, 2) := by decide +kernel
theorem dX5_mixLadder_58 : decode cX5_mixLadder 58 = .ok (.iinc 6 1, 3) := by decide +kernel
theorem dX5_mixLadder_61 : decode cX5_mixLadder 61 = .ok (.goto (-24), 3) := by decide +kernel
theorem dX5_mixLadder_64 : decode cX5_mixLadder 64 = .ok (.aload_n 0, 1) := by decide +kernel
theorem dX5_mixLadder_65 : decode cX5_mixLadder 65 = .ok (.iload_n 3, 1) := by decide +kernel
theorem dX5_mixLadder_66 : decode cX5_mixLadder 66 = .ok (.bipush 6, 2) := by decide +kernel
theorem dX5_mixLadder_68 : decode cX5_mixLadder 68 = .ok (.invokevirtual 237, 3) := by decide +kernel
theorem dX5_mixLadder_71 : decode cX5_mixLadder 71 = .ok (.istore 6, 2) := by decide +kernel
theorem dX5_mixLadder_73 : decode cX5_mixLadder 73 = .ok (.iconst 0, 1) := by decide +kernel
theorem dX5_mixLadder_74 : decode cX5_mixLadder 74 = .ok (.istore 7, 2) := by decide +kernel
theorem dX5_mixLadder_76 : decode cX5_mixLadder 76 = .ok (.iload 7, 2) := by decide +kernel
theorem dX5_mixLadder_78 : decode cX5_mixLadder 78 = .ok (.iload 6, 2) := by decide +kernel
theorem dX5_mixLadder_80 : decode cX5_mixLadder 80 = .ok (.if_icmp .ge 56, 3) := by decide +kernel
theorem dX5_mixLadder_83 : decode cX5_mixLadder 83 = .ok (.lload 4, 2) := by decide +kernel
theorem dX5_mixLadder_85 : decode cX5_mixLadder 85 = .ok (.aload_n 0, 1) := by decide +kernel
theorem dX5_mixLadder_86 : decode cX5_mixLadder 86 = .ok (.iload_n 3, 1) := by decide +kernel
theorem dX5_mixLadder_87 : decode cX5_mixLadder 87 = .ok (.iload 7, 2) := by decide +kernel
theorem dX5_mixLadder_89 : decode cX5_mixLadder 89 = .ok (.iconst 0, 1) := by decide +kernel
theorem dX5_mixLadder_90 : decode cX5_mixLadder 90 = .ok (.invokevirtual 243, 3) := by decide +kernel
theorem dX5_mixLadder_93 : decode cX5_mixLadder 93 = .ok (.i2l, 1) := by decide +kernel
theorem dX5_mixLadder_94 : decode cX5_mixLadder 94 = .ok (.invokestatic 214, 3) := by decide +kernel
theorem dX5_mixLadder_97 : decode cX5_mixLadder 97 = .ok (.lstore 4, 2) := by decide +kernel
theorem dX5_mixLadder_99 : decode cX5_mixLadder 99 = .ok (.lload 4, 2) := by decide +kernel
theorem dX5_mixLadder_101 : decode cX5_mixLadder 101 = .ok (.aload_n 0, 1) := by decide +kernel
theorem dX5_mixLadder_102 : decode cX5_mixLadder 102 = .ok (.iload_n 3, 1) := by decide +kernel
theorem dX5_mixLadder_103 : decode cX5_mixLadder 103 = .ok (.iload 7, 2) := by decide +kernel
theorem dX5_mixLadder_105 : decode cX5_mixLadder 105 = .ok (.iconst 1, 1) := by decide +kernel
theorem dX5_mixLadder_106 : decode cX5_mixLadder 106 = .ok (.invokevirtual 243, 3) := by decide +kernel
theorem dX5_mixLadder_109 : decode cX5_mixLadder 109 = .ok (.i2l, 1) := by decide +kernel
theorem dX5_mixLadder_110 : decode cX5_mixLadder 110 = .ok (.invokestatic 214, 3) := by decide +kernel
theorem dX5_mixLadder_113 : decode cX5_mixLadder 113 = .ok (.lstore 4, 2) := by decide +kernel
theorem dX5_mixLadder_115 : decode cX5_mixLadder 115 = .ok (.lload 4, 2) := by decide +kernel
theorem dX5_mixLadder_117 : decode cX5_mixLadder 117 = .ok (.aload_n 0, 1) := by decide +kernel
theorem dX5_mixLadder_118 : decode cX5_mixLadder 118 = .ok (.iload_n 3, 1) := by decide +kernel
theorem dX5_mixLadder_119 : decode cX5_mixLadder 119 = .ok (.iload 7, 2) := by decide +kernel
theorem dX5_mixLadder_121 : decode cX5_mixLadder 121 = .ok (.invokevirtual 247, 3) := by decide +kernel
theorem dX5_mixLadder_124 : decode cX5_mixLadder 124 = .ok (.i2l, 1) := by decide +kernel
theorem dX5_mixLadder_125 : decode cX5_mixLadder 125 = .ok (.invokestatic 214, 3) := by decide +kernel
theorem dX5_mixLadder_128 : decode cX5_mixLadder 128 = .ok (.lstore 4, 2) := by decide +kernel
theorem dX5_mixLadder_130 : decode cX5_mixLadder 130 = .ok (.iinc 7 1, 3) := by decide +kernel
theorem dX5_mixLadder_133 : decode cX5_mixLadder 133 = .ok (.goto (-57), 3) := by decide +kernel
theorem dX5_mixLadder_136 : decode cX5_mixLadder 136 = .ok (.lload 4, 2) := by decide +kernel
theorem dX5_mixLadder_138 : decode cX5_mixLadder 138 = .ok (.aload_n 0, 1) := by decide +kernel
theorem dX5_mixLadder_139 : decode cX5_mixLadder 139 = .ok (.iload_n 3, 1) := by decide +kernel
theorem dX5_mixLadder_140 : decode cX5_mixLadder 140 = .ok (.invokevirtual 250, 3) := by decide +kernel
theorem dX5_mixLadder_143 : decode cX5_mixLadder 143 = .ok (.i2l, 1) := by decide +kernel
theorem dX5_mixLadder_144 : decode cX5_mixLadder 144 = .ok (.invokestatic 214, 3) := by decide +kernel
theorem dX5_mixLadder_147 : decode cX5_mixLadder 147 = .ok (.lstore 4, 2) := by decide +kernel
theorem dX5_mixLadder_149 : decode cX5_mixLadder 149 = .ok (.lload 4, 2) := by decide +kernel
theorem dX5_mixLadder_151 : decode cX5_mixLadder 151 = .ok (.aload_n 0, 1) := by decide +kernel
theorem dX5_mixLadder_152 : decode cX5_mixLadder 152 = .ok (.iload_n 3, 1) := by decide +kernel
theorem dX5_mixLadder_153 : decode cX5_mixLadder 153 = .ok (.invokevirtual 253, 3) := by decide +kernel
theorem dX5_mixLadder_156 : decode cX5_mixLadder 156 = .ok (.i2l, 1) := by decide +kernel
theorem dX5_mixLadder_157 : decode cX5_mixLadder 157 = .ok (.invokestatic 214, 3) := by decide +kernel
theorem dX5_mixLadder_160 : decode cX5_mixLadder 160 = .ok (.lstore 4, 2) := by decide +kernel
theorem dX5_mixLadder_162 : decode cX5_mixLadder 162 = .ok (.lload 4, 2) := by decide +kernel
theorem dX5_mixLadder_164 : decode cX5_mixLadder 164 = .ok (.aload_n 0, 1) := by decide +kernel
theorem dX5_mixLadder_165 : decode cX5_mixLadder 165 = .ok (.iload_n 3, 1) := by decide +kernel
theorem dX5_mixLadder_166 : decode cX5_mixLadder 166 = .ok (.invokevirtual 256, 3) := by decide +kernel
theorem dX5_mixLadder_169 : decode cX5_mixLadder 169 = .ok (.i2l, 1) := by decide +kernel
theorem dX5_mixLadder_170 : decode cX5_mixLadder 170 = .ok (.invokestatic 214, 3) := by decide +kernel
theorem dX5_mixLadder_173 : decode cX5_mixLadder 173 = .ok (.lstore 4, 2) := by decide +kernel
theorem dX5_mixLadder_175 : decode cX5_mixLadder 175 = .ok (.lload 4, 2) := by decide +kernel
theorem dX5_mixLadder_177 : decode cX5_mixLadder 177 = .ok (.aload_n 0, 1) := by decide +kernel
theorem dX5_mixLadder_178 : decode cX5_mixLadder 178 = .ok (.iload_n 3, 1) := by decide +kernel
theorem dX5_mixLadder_179 : decode cX5_mixLadder 179 = .ok (.invokevirtual 259, 3) := by decide +kernel
theorem dX5_mixLadder_182 : decode cX5_mixLadder 182 = .ok (.i2l, 1) := by decide +kernel
theorem dX5_mixLadder_183 : decode cX5_mixLadder 183 = .ok (.invokestatic 214, 3) := by decide +kernel
theorem dX5_mixLadder_186 : decode cX5_mixLadder 186 = .ok (.lreturn, 1) := by decide +kernel
theorem dX5_mix_0 : decode cX5_mix 0 = .ok (.ldc2_w 262, 3) := by decide +kernel
theorem dX5_mix_3 : decode cX5_mix 3 = .ok (.lload_n 0, 1) := by decide +kernel
theorem dX5_mix_4 : decode cX5_mix 4 = .ok (.lmul, 1) := by decide +kernel
theorem dX5_mix_5 : decode cX5_mix 5 = .ok (.lload_n 2, 1) := by decide +kernel
theorem dX5_mix_6 : decode cX5_mix 6 = .ok (.ladd, 1) := by decide +kernel
theorem dX5_mix_7 : decode cX5_mix 7 = .ok (.lreturn, 1) := by decide +kernel
theorem dX5_bitsOf_0 : decode cX5_bitsOf 0 = .ok (.dload_n 0, 1) := by decide +kernel
theorem dX5_bitsOf_1 : decode cX5_bitsOf 1 = .ok (.dconst 0, 1) := by decide +kernel
theorem dX5_bitsOf_2 : decode cX5_bitsOf 2 = .ok (.dcmp .g, 1) := by decide +kernel
theorem dX5_bitsOf_3 : decode cX5_bitsOf 3 = .ok (.ifCond .gt 5, 3) := by decide +kernel
theorem dX5_bitsOf_6 : decode cX5_bitsOf 6 = .ok (.lconst 0, 1) := by decide +kernel
theorem dX5_bitsOf_7 : decode cX5_bitsOf 7 = .ok (.lreturn, 1) := by decide +kernel
theorem dX5_bitsOf_8 : decode cX5_bitsOf 8 = .ok (.dload_n 0, 1) := by decide +kernel
theorem dX5_bitsOf_9 : decode cX5_bitsOf 9 = .ok (.dstore_n 2, 1) := by decide +kernel
theorem dX5_bitsOf_10 : decode cX5_bitsOf 10 = .ok (.ldc2_w 264, 3) := by decide +kernel
theorem dX5_bitsOf_13 : decode cX5_bitsOf 13 = .ok (.lstore 4, 2) := by decide +kernel
theorem dX5_bitsOf_15 : decode cX5_bitsOf 15 = .ok (.iconst 0, 1) := by decide +kernel
theorem dX5_bitsOf_16 : decode cX5_bitsOf 16 = .ok (.istore 6, 2) := by decide +kernel
theorem dX5_bitsOf_18 : decode cX5_bitsOf 18 = .ok (.iload 6, 2) := by decide +kernel
theorem dX5_bitsOf_20 : decode cX5_bitsOf 20 = .ok (.sipush 1022, 3) := by decide +kernel
theorem dX5_bitsOf_23 : decode cX5_bitsOf 23 = .ok (.if_icmp .ge 27, 3) := by decide +kernel
theorem dX5_bitsOf_26 : decode cX5_bitsOf 26 = .ok (.dload_n 2, 1) := by decide +kernel
theorem dX5_bitsOf_27 : decode cX5_bitsOf 27 = .ok (.dconst 1, 1) := by decide +kernel
theorem dX5_bitsOf_28 : decode cX5_bitsOf 28 = .ok (.dcmp .g, 1) := by decide +kernel
theorem dX5_bitsOf_29 : decode cX5_bitsOf 29 = .ok (.ifCond .ge 21, 3) := by decide +kernel
theorem dX5_bitsOf_32 : decode cX5_bitsOf 32 = .ok (.dload_n 2, 1) := by decide +kernel
theorem dX5_bitsOf_33 : decode cX5_bitsOf 33 = .ok (.ldc2_w 266, 3) := by decide +kernel
theorem dX5_bitsOf_36 : decode cX5_bitsOf 36 = .ok (.dmul, 1) := by decide +kernel
theorem dX5_bitsOf_37 : decode cX5_bitsOf 37 = .ok (.dstore_n 2, 1) := by decide +kernel
theorem dX5_bitsOf_38 : decode cX5_bitsOf 38 = .ok (.lload 4, 2) := by decide +kernel
theorem dX5_bitsOf_40 : decode cX5_bitsOf 40 = .ok (.lconst 1, 1) := by decide +kernel
theorem dX5_bitsOf_41 : decode cX5_bitsOf 41 = .ok (.lsub, 1) := by decide +kernel
theorem dX5_bitsOf_42 : decode cX5_bitsOf 42 = .ok (.lstore 4, 2) := by decide +kernel
theorem dX5_bitsOf_44 : decode cX5_bitsOf 44 = .ok (.iinc 6 1, 3) := by decide +kernel
theorem dX5_bitsOf_47 : decode cX5_bitsOf 47 = .ok (.goto (-29), 3) := by decide +kernel
theorem dX5_bitsOf_50 : decode cX5_bitsOf 50 = .ok (.dload_n 2, 1) := by decide +kernel
theorem dX5_bitsOf_51 : decode cX5_bitsOf 51 = .ok (.dconst 1, 1) := by decide +kernel
theorem dX5_bitsOf_52 : decode cX5_bitsOf 52 = .ok (.dsub, 1) := by decide +kernel
theorem dX5_bitsOf_53 : decode cX5_bitsOf 53 = .ok (.ldc2_w 268, 3) := by decide +kernel
theorem dX5_bitsOf_56 : decode cX5_bitsOf 56 = .ok (.dmul, 1) := by decide +kernel
theorem dX5_bitsOf_57 : decode cX5_bitsOf 57 = .ok (.d2l, 1) := by decide +kernel
theorem dX5_bitsOf_58 : decode cX5_bitsOf 58 = .ok (.lstore 6, 2) := by decide +kernel
theorem dX5_bitsOf_60 : decode cX5_bitsOf 60 = .ok (.lload 4, 2) := by decide +kernel
theorem dX5_bitsOf_62 : decode cX5_bitsOf 62 = .ok (.bipush 52, 2) := by decide +kernel
theorem dX5_bitsOf_64 : decode cX5_bitsOf 64 = .ok (.lshl, 1) := by decide +kernel
theorem dX5_bitsOf_65 : decode cX5_bitsOf 65 = .ok (.lload 6, 2) := by decide +kernel
theorem dX5_bitsOf_67 : decode cX5_bitsOf 67 = .ok (.ladd, 1) := by decide +kernel
theorem dX5_bitsOf_68 : decode cX5_bitsOf 68 = .ok (.lreturn, 1) := by decide +kernel
set_option maxRecDepth 20000 in
theorem ggX5_playPart_X5_rigOf : GoodIn wsX5_playPart wsX5_rigOf := goodIn_ca (goodIn_r _ [11, 12, 13, 4, 14, 133, 134, 135, 136, 137, 138, 139] (by decide +kernel) (by decide +kernel)) (goodIn_sub (fun _ h => List.mem_cons_of_mem _ (List.mem_append_right _ h)) (by decide +kernel))
set_option maxRecDepth 20000 in
theorem gX5_playPart_X5_rigOf : GoodIn wsX5_playPart (wsV RX5 37 RX5 yX5_rigOf wsX5_rigOf) := goodIn_app (goodIn_of _ (by decide +kernel)) ggX5_playPart_X5_rigOf
set_option maxRecDepth 20000 in
theorem ggX5_playPart_X3_walk : GoodIn wsX5_playPart wsX3_walk := goodIn_r _ [19, 20, 21, 22, 23, 24, 25, 26, 27, 28, 29, 30, 31, 32, 33, 34, 35, 36, 37, 38, 39, 40, 41, 42, 43, 44, 45, 46, 47, 48, 49, 50, 51, 52, 53, 54, 55, 56, 57, 58, 59, 60, 61, 62, 63, 64, 65, 66, 67, 68, 69, 70, 71, 72, 73, 74, 75, 76, 77, 78, 79, 80, 81, 82, 83, 84, 85, 86, 87, 88, 89, 90, 91, 92, 18, 93, 94, 95, 96, 97, 98, 99, 100, 137, 138, 139, 123, 124, 125, 126, 127, 128, 129, 130, 131, 132] (by decide +kernel) (by decide +kernel)
set_option maxRecDepth 20000 in
theorem gX5_playPart_X3_walk : GoodIn wsX5_playPart (wsV RX5 97 RX3 yX3_walk wsX3_walk) := goodIn_app (goodIn_of _ (by decide +kernel)) ggX5_playPart_X3_walk
set_option maxRecDepth 20000 in
theorem ggX5_playPart_X2_isFull : GoodIn wsX5_playPart wsX2_isFull := goodIn_r _ [104, 35, 123, 124, 125, 126, 127, 128, 129, 130, 131, 132] (by decide +kernel) (by decide +kernel)
set_option maxRecDepth 20000 in
theorem gX5_playPart_X2_isFull : GoodIn wsX5_playPart (wsV RX5 72 RX2 yX2_isFull wsX2_isFull) := goodIn_app (goodIn_of _ (by decide +kernel)) ggX5_playPart_X2_isFull
set_option maxRecDepth 20000 in
theorem ggX5_playPart_X2_add : GoodIn wsX5_playPart wsX2_add := goodIn_r _ [108, 35, 67, 30, 123, 124, 125, 126, 127, 128, 129, 130, 131, 132] (by decide +kernel) (by decide +kernel)
set_option maxRecDepth 20000 in
theorem gX5_playPart_X2_add : GoodIn wsX5_playPart (wsV RX5 83 RX2 yX2_add wsX2_add) := goodIn_app (goodIn_of _ (by decide +kernel)) ggX5_playPart_X2_add
set_option maxRecDepth 20000 in
theorem ggX5_playPart_X2_remove : GoodIn wsX5_playPart wsX2_remove := goodIn_r _ [112, 67, 30, 35, 31, 32, 33, 28, 34, 123, 124, 125, 126, 127, 128, 129, 130, 131, 132] (by decide +kernel) (by decide +kernel)
set_option maxRecDepth 20000 in
theorem gX5_playPart_X2_remove : GoodIn wsX5_playPart (wsV RX5 94 RX2 yX2_remove wsX2_remove) := goodIn_app (goodIn_of _ (by decide +kernel)) ggX5_playPart_X2_remove
set_option maxRecDepth 20000 in
theorem ggX5_playPart_X3_fallsNow : GoodIn wsX5_playPart wsX3_fallsNow := goodIn_r _ [116, 95, 40, 41, 42, 28, 43, 44, 45, 46, 47, 48, 49, 22, 50, 51, 52, 53, 54, 55, 56, 57, 58, 59, 60, 61, 62, 63, 64, 65, 66, 30, 67, 68, 69, 70, 71, 72, 73, 74, 75, 76, 77, 78, 79, 80, 81, 82, 83, 84, 85, 86, 87, 88, 89, 90, 91, 92, 18, 93, 94, 96, 97, 98, 99, 100, 35, 123, 124, 125, 126, 127, 128, 129, 130, 131, 132, 137, 138, 139] (by decide +kernel) (by decide +kernel)
set_option maxRecDepth 20000 in
theorem gX5_playPart_X3_fallsNow : GoodIn wsX5_playPart (wsV RX5 59 RX3 yX3_fallsNow wsX3_fallsNow) := goodIn_app (goodIn_of _ (by decide +kernel)) ggX5_playPart_X3_fallsNow
theorem dX5_playPart_0 : decode cX5_playPart 0 = .ok (.aload_n 0, 1) := by decide +kernel
theorem dX5_playPart_1 : decode cX5_playPart 1 = .ok (.aload_n 1, 1) := by decide +kernel
theorem dX5_playPart_2 : decode cX5_playPart 2 = .ok (.getfield 270, 3) := by decide +kernel
theorem dX5_playPart_5 : decode cX5_playPart 5 = .ok (.invokevirtual 37, 3) := by decide +kernel
theorem dX5_playPart_8 : decode cX5_playPart 8 = .ok (.astore_n 2, 1) := by decide +kernel
theorem dX5_playPart_9 : decode cX5_playPart 9 = .ok (.aload_n 1, 1) := by decide +kernel
theorem dX5_playPart_10 : decode cX5_playPart 10 = .ok (.getfield 274, 3) := by decide +kernel
theorem dX5_playPart_13 : decode cX5_playPart 13 = .ok (.lookupswitch 91 #[(111, 60), (114, 80), (117, 35)], 35) := by decide +kernel
theorem dX5_playPart_48 : decode cX5_playPart 48 = .ok (.aload_n 2, 1) := by decide +kernel
theorem dX5_playPart_49 : decode cX5_playPart 49 = .ok (.getfield 87, 3) := by decide +kernel
theorem dX5_playPart_52 : decode cX5_playPart 52 = .ok (.ifCond .ne 5, 3) := by decide +kernel
theorem dX5_playPart_55 : decode cX5_playPart 55 = .ok (.iconst 0, 1) := by decide +kernel
theorem dX5_playPart_56 : decode cX5_playPart 56 = .ok (.ireturn, 1) := by decide +kernel
theorem dX5_playPart_57 : decode cX5_playPart 57 = .ok (.aload_n 0, 1) := by decide +kernel
theorem dX5_playPart_58 : decode cX5_playPart 58 = .ok (.getfield 10, 3) := by decide +kernel
theorem dX5_playPart_61 : decode cX5_playPart 61 = .ok (.aload_n 2, 1) := by decide +kernel
theorem dX5_playPart_62 : decode cX5_playPart 62 = .ok (.iconst 0, 1) := by decide +kernel
theorem dX5_playPart_63 : decode cX5_playPart 63 = .ok (.aload_n 1, 1) := by decide +kernel
theorem dX5_playPart_64 : decode cX5_playPart 64 = .ok (.getfield 277, 3) := by decide +kernel
theorem dX5_playPart_67 : decode cX5_playPart 67 = .ok (.invokevirtual 97, 3) := by decide +kernel
theorem dX5_playPart_70 : decode cX5_playPart 70 = .ok (.pop, 1) := by decide +kernel
theorem dX5_playPart_71 : decode cX5_playPart 71 = .ok (.iconst 1, 1) := by decide +kernel
theorem dX5_playPart_72 : decode cX5_playPart 72 = .ok (.ireturn, 1) := by decide +kernel
theorem dX5_playPart_73 : decode cX5_playPart 73 = .ok (.aload_n 2, 1) := by decide +kernel
theorem dX5_playPart_74 : decode cX5_playPart 74 = .ok (.invokevirtual 72, 3) := by decide +kernel
theorem dX5_playPart_77 : decode cX5_playPart 77 = .ok (.ifCond .eq 5, 3) := by decide +kernel
theorem dX5_playPart_80 : decode cX5_playPart 80 = .ok (.iconst 0, 1) := by decide +kernel
theorem dX5_playPart_81 : decode cX5_playPart 81 = .ok (.ireturn, 1) := by decide +kernel
theorem dX5_playPart_82 : decode cX5_playPart 82 = .ok (.aload_n 2, 1) := by decide +kernel
theorem dX5_playPart_83 : decode cX5_playPart 83 = .ok (.aload_n 1, 1) := by decide +kernel
theorem dX5_playPart_84 : decode cX5_playPart 84 = .ok (.getfield 277, 3) := by decide +kernel
theorem dX5_playPart_87 : decode cX5_playPart 87 = .ok (.invokevirtual 83, 3) := by decide +kernel
theorem dX5_playPart_90 : decode cX5_playPart 90 = .ok (.goto 33, 3) := by decide +kernel
theorem dX5_playPart_93 : decode cX5_playPart 93 = .ok (.aload_n 2, 1) := by decide +kernel
theorem dX5_playPart_94 : decode cX5_playPart 94 = .ok (.aload_n 1, 1) := by decide +kernel
theorem dX5_playPart_95 : decode cX5_playPart 95 = .ok (.getfield 277, 3) := by decide +kernel
theorem dX5_playPart_98 : decode cX5_playPart 98 = .ok (.putfield 69, 3) := by decide +kernel
theorem dX5_playPart_101 : decode cX5_playPart 101 = .ok (.goto 22, 3) := by decide +kernel
theorem dX5_playPart_104 : decode cX5_playPart 104 = .ok (.aload_n 2, 1) := by decide +kernel
theorem dX5_playPart_105 : decode cX5_playPart 105 = .ok (.getfield 87, 3) := by decide +kernel
theorem dX5_playPart_108 : decode cX5_playPart 108 = .ok (.ifCond .ne 5, 3) := by decide +kernel
theorem dX5_playPart_111 : decode cX5_playPart 111 = .ok (.iconst 0, 1) := by decide +kernel
theorem dX5_playPart_112 : decode cX5_playPart 112 = .ok (.ireturn, 1) := by decide +kernel
theorem dX5_playPart_113 : decode cX5_playPart 113 = .ok (.aload_n 2, 1) := by decide +kernel
theorem dX5_playPart_114 : decode cX5_playPart 114 = .ok (.aload_n 2, 1) := by decide +kernel
theorem dX5_playPart_115 : decode cX5_playPart 115 = .ok (.getfield 87, 3) := by decide +kernel
theorem dX5_playPart_118 : decode cX5_playPart 118 = .ok (.iconst 1, 1) := by decide +kernel
theorem dX5_playPart_119 : decode cX5_playPart 119 = .ok (.isub, 1) := by decide +kernel
theorem dX5_playPart_120 : decode cX5_playPart 120 = .ok (.invokevirtual 94, 3) := by decide +kernel
theorem dX5_playPart_123 : decode cX5_playPart 123 = .ok (.aload_n 0, 1) := by decide +kernel
theorem dX5_playPart_124 : decode cX5_playPart 124 = .ok (.getfield 10, 3) := by decide +kernel
theorem dX5_playPart_127 : decode cX5_playPart 127 = .ok (.aload_n 2, 1) := by decide +kernel
theorem dX5_playPart_128 : decode cX5_playPart 128 = .ok (.invokevirtual 59, 3) := by decide +kernel
theorem dX5_playPart_131 : decode cX5_playPart 131 = .ok (.pop, 1) := by decide +kernel
theorem dX5_playPart_132 : decode cX5_playPart 132 = .ok (.iconst 1, 1) := by decide +kernel
theorem dX5_playPart_133 : decode cX5_playPart 133 = .ok (.ireturn, 1) := by decide +kernel
theorem dX5_rigOf_0 : decode cX5_rigOf 0 = .ok (.iload_n 1, 1) := by decide +kernel
theorem dX5_rigOf_1 : decode cX5_rigOf 1 = .ok (.ifCond .lt 8, 3) := by decide +kernel
theorem dX5_rigOf_4 : decode cX5_rigOf 4 = .ok (.iload_n 1, 1) := by decide +kernel
theorem dX5_rigOf_5 : decode cX5_rigOf 5 = .ok (.iconst 4, 1) := by decide +kernel
theorem dX5_rigOf_6 : decode cX5_rigOf 6 = .ok (.if_icmp .lt 14, 3) := by decide +kernel
theorem dX5_rigOf_9 : decode cX5_rigOf 9 = .ok (.new 280, 3) := by decide +kernel
theorem dX5_rigOf_12 : decode cX5_rigOf 12 = .ok (.dup, 1) := by decide +kernel
theorem dX5_rigOf_13 : decode cX5_rigOf 13 = .ok (.ldc_w 282, 3) := by decide +kernel
theorem dX5_rigOf_16 : decode cX5_rigOf 16 = .ok (.invokespecial 284, 3) := by decide +kernel
theorem dX5_rigOf_19 : decode cX5_rigOf 19 = .ok (.athrow, 1) := by decide +kernel
theorem dX5_rigOf_20 : decode cX5_rigOf 20 = .ok (.aload_n 0, 1) := by decide +kernel
theorem dX5_rigOf_21 : decode cX5_rigOf 21 = .ok (.getfield 10, 3) := by decide +kernel
theorem dX5_rigOf_24 : decode cX5_rigOf 24 = .ok (.getfield 285, 3) := by decide +kernel
theorem dX5_rigOf_27 : decode cX5_rigOf 27 = .ok (.iload_n 1, 1) := by decide +kernel
theorem dX5_rigOf_28 : decode cX5_rigOf 28 = .ok (.aaload, 1) := by decide +kernel
theorem dX5_rigOf_29 : decode cX5_rigOf 29 = .ok (.areturn, 1) := by decide +kernel
set_option maxRecDepth 20000 in
theorem ggX5_demandPerson_X2_bears : GoodIn wsX5_demandPerson wsX2_bears := goodIn_r _ [7, 8, 9, 10, 11, 12, 13, 14, 15, 16, 17, 18] (by decide +kernel) (by decide +kernel)
set_option maxRecDepth 20000 in
theorem gX5_demandPerson_X2_bears : GoodIn wsX5_demandPerson (wsV RX5 289 RX2 yX2_bears wsX2_bears) := goodIn_app (goodIn_of _ (by decide +kernel)) ggX5_demandPerson_X2_bears
theorem dX5_demandPerson_0 : decode cX5_demandPerson 0 = .ok (.aload_n 0, 1) := by decide +kernel
theorem dX5_demandPerson_1 : decode cX5_demandPerson 1 = .ok (.iload_n 1, 1) := by decide +kernel
theorem dX5_demandPerson_2 : decode cX5_demandPerson 2 = .ok (.invokevirtual 289, 3) := by decide +kernel
theorem dX5_demandPerson_5 : decode cX5_demandPerson 5 = .ok (.ifCond .ne 14, 3) := by decide +kernel
theorem dX5_demandPerson_8 : decode cX5_demandPerson 8 = .ok (.new 280, 3) := by decide +kernel
theorem dX5_demandPerson_11 : decode cX5_demandPerson 11 = .ok (.dup, 1) := by decide +kernel
theorem dX5_demandPerson_12 : decode cX5_demandPerson 12 = .ok (.ldc_w 293, 3) := by decide +kernel
theorem dX5_demandPerson_15 : decode cX5_demandPerson 15 = .ok (.invokespecial 284, 3) := by decide +kernel
theorem dX5_demandPerson_18 : decode cX5_demandPerson 18 = .ok (.athrow, 1) := by decide +kernel
theorem dX5_demandPerson_19 : decode cX5_demandPerson 19 = .ok (.return_, 1) := by decide +kernel
theorem dX5_demandRange_0 : decode cX5_demandRange 0 = .ok (.iload_n 0, 1) := by decide +kernel
theorem dX5_demandRange_1 : decode cX5_demandRange 1 = .ok (.iload_n 1, 1) := by decide +kernel
theorem dX5_demandRange_2 : decode cX5_demandRange 2 = .ok (.if_icmp .lt 8, 3) := by decide +kernel
theorem dX5_demandRange_5 : decode cX5_demandRange 5 = .ok (.iload_n 0, 1) := by decide +kernel
theorem dX5_demandRange_6 : decode cX5_demandRange 6 = .ok (.iload_n 2, 1) := by decide +kernel
theorem dX5_demandRange_7 : decode cX5_demandRange 7 = .ok (.if_icmp .le 14, 3) := by decide +kernel
theorem dX5_demandRange_10 : decode cX5_demandRange 10 = .ok (.new 118, 3) := by decide +kernel
theorem dX5_demandRange_13 : decode cX5_demandRange 13 = .ok (.dup, 1) := by decide +kernel
theorem dX5_demandRange_14 : decode cX5_demandRange 14 = .ok (.ldc_w 295, 3) := by decide +kernel
theorem dX5_demandRange_17 : decode cX5_demandRange 17 = .ok (.invokespecial 122, 3) := by decide +kernel
theorem dX5_demandRange_20 : decode cX5_demandRange 20 = .ok (.athrow, 1) := by decide +kernel
theorem dX5_demandRange_21 : decode cX5_demandRange 21 = .ok (.return_, 1) := by decide +kernel
