set_option maxRecDepth 20000 in
theorem ggX3_beats_X3_requireRange : GoodIn wsX3_beats wsX3_requireRange := goodIn_ca (goodIn_r _ [6, 7, 8] (by decide +kernel) (by decide +kernel)) (goodIn_sub (fun _ h => List.mem_cons_of_mem _ (List.mem_append_right _ h)) (by decide +kernel))
set_option maxRecDepth 20000 in
theorem gX3_beats_X3_requireRange : GoodIn wsX3_beats (va_wsS RX3 45 yX3_requireRange wsX3_requireRange) := goodIn_app (goodIn_of _ (by decide +kernel)) ggX3_beats_X3_requireRange
set_option maxRecDepth 20000 in
theorem ggX3_beats_X0_remember : GoodIn wsX3_beats wsX0_remember := goodIn_r _ [13, 14, 15, 16, 17, 18, 19, 20, 21, 22, 23, 24, 25, 26, 27, 28, 29, 30, 31, 32, 33, 34, 35, 36, 37, 38, 94, 95, 96, 97, 98, 99, 100, 101, 102, 103, 104, 105, 106, 107, 108, 109] (by decide +kernel) (by decide +kernel)
set_option maxRecDepth 20000 in
theorem gX3_beats_X0_remember : GoodIn wsX3_beats (wsV RX3 178 RX0 yX0_remember wsX0_remember) := goodIn_app (goodIn_of _ (by decide +kernel)) ggX3_beats_X0_remember
set_option maxRecDepth 20000 in
theorem ggX3_beats_X1_passBeats : GoodIn wsX3_beats wsX1_passBeats := goodIn_r _ [42, 22, 24, 43, 44, 45, 20, 46, 26, 34, 47, 5, 48, 49, 50, 51, 52, 23, 53, 54, 55, 56, 57, 58, 59, 33, 60, 61, 62, 63, 64, 65, 66, 67, 68, 69, 70, 31, 32, 71, 72, 73, 74, 97, 98, 99, 100, 101, 102, 103, 104, 105, 106, 107, 108, 109] (by decide +kernel) (by decide +kernel)
set_option maxRecDepth 20000 in
theorem gX3_beats_X1_passBeats : GoodIn wsX3_beats (wsV RX3 189 RX1 yX1_passBeats wsX1_passBeats) := goodIn_app (goodIn_of _ (by decide +kernel)) ggX3_beats_X1_passBeats
set_option maxRecDepth 20000 in
theorem ggX3_beats_X1_countersAtRest : GoodIn wsX3_beats wsX1_countersAtRest := goodIn_r _ [78, 22, 79, 80, 81, 20, 82, 83, 84, 85, 86, 26, 34, 47, 5, 48, 97, 98, 99, 100, 101, 102, 103, 104, 105, 106, 107, 108, 109] (by decide +kernel) (by decide +kernel)
set_option maxRecDepth 20000 in
theorem gX3_beats_X1_countersAtRest : GoodIn wsX3_beats (wsV RX3 92 RX1 yX1_countersAtRest wsX1_countersAtRest) := goodIn_app (goodIn_of _ (by decide +kernel)) ggX3_beats_X1_countersAtRest
theorem dX3_beats_0 : decode cX3_beats 0 = .ok (.iload_n 1, 1) := by decide +kernel
theorem dX3_beats_1 : decode cX3_beats 1 = .ok (.iconst 1, 1) := by decide +kernel
theorem dX3_beats_2 : decode cX3_beats 2 = .ok (.bipush 99, 2) := by decide +kernel
theorem dX3_beats_4 : decode cX3_beats 4 = .ok (.invokestatic 45, 3) := by decide +kernel
theorem dX3_beats_7 : decode cX3_beats 7 = .ok (.aload_n 0, 1) := by decide +kernel
theorem dX3_beats_8 : decode cX3_beats 8 = .ok (.getfield 26, 3) := by decide +kernel
theorem dX3_beats_11 : decode cX3_beats 11 = .ok (.aload_n 0, 1) := by decide +kernel
theorem dX3_beats_12 : decode cX3_beats 12 = .ok (.getfield 19, 3) := by decide +kernel
theorem dX3_beats_15 : decode cX3_beats 15 = .ok (.invokevirtual 178, 3) := by decide +kernel
theorem dX3_beats_18 : decode cX3_beats 18 = .ok (.aload_n 0, 1) := by decide +kernel
theorem dX3_beats_19 : decode cX3_beats 19 = .ok (.getfield 19, 3) := by decide +kernel
theorem dX3_beats_22 : decode cX3_beats 22 = .ok (.iload_n 1, 1) := by decide +kernel
theorem dX3_beats_23 : decode cX3_beats 23 = .ok (.invokevirtual 189, 3) := by decide +kernel
theorem dX3_beats_26 : decode cX3_beats 26 = .ok (.aload_n 0, 1) := by decide +kernel
theorem dX3_beats_27 : decode cX3_beats 27 = .ok (.getfield 19, 3) := by decide +kernel
theorem dX3_beats_30 : decode cX3_beats 30 = .ok (.invokevirtual 92, 3) := by decide +kernel
theorem dX3_beats_33 : decode cX3_beats 33 = .ok (.ireturn, 1) := by decide +kernel
set_option maxRecDepth 20000 in
theorem ggX3_setPace_X3_requireRange : GoodIn wsX3_setPace wsX3_requireRange := goodIn_ca (goodIn_r _ [7, 8, 9] (by decide +kernel) (by decide +kernel)) (goodIn_sub (fun _ h => List.mem_cons_of_mem _ (List.mem_append_right _ h)) (by decide +kernel))
set_option maxRecDepth 20000 in
theorem gX3_setPace_X3_requireRange : GoodIn wsX3_setPace (va_wsS RX3 45 yX3_requireRange wsX3_requireRange) := goodIn_app (goodIn_of _ (by decide +kernel)) ggX3_setPace_X3_requireRange
set_option maxRecDepth 20000 in
theorem ggX3_setPace_X0_remember : GoodIn wsX3_setPace wsX0_remember := goodIn_r _ [14, 15, 16, 17, 18, 19, 20, 21, 22, 23, 24, 25, 26, 27, 28, 29, 30, 31, 32, 33, 34, 35, 36, 37, 38, 39, 60, 61, 62, 47, 48, 49, 50, 51, 52, 53, 54, 55, 56, 57, 58, 59] (by decide +kernel) (by decide +kernel)
set_option maxRecDepth 20000 in
theorem gX3_setPace_X0_remember : GoodIn wsX3_setPace (wsV RX3 178 RX0 yX0_remember wsX0_remember) := goodIn_app (goodIn_of _ (by decide +kernel)) ggX3_setPace_X0_remember
theorem dX3_setPace_0 : decode cX3_setPace 0 = .ok (.iload_n 1, 1) := by decide +kernel
theorem dX3_setPace_1 : decode cX3_setPace 1 = .ok (.iconst 1, 1) := by decide +kernel
theorem dX3_setPace_2 : decode cX3_setPace 2 = .ok (.bipush 9, 2) := by decide +kernel
theorem dX3_setPace_4 : decode cX3_setPace 4 = .ok (.invokestatic 45, 3) := by decide +kernel
theorem dX3_setPace_7 : decode cX3_setPace 7 = .ok (.aload_n 0, 1) := by decide +kernel
theorem dX3_setPace_8 : decode cX3_setPace 8 = .ok (.getfield 26, 3) := by decide +kernel
theorem dX3_setPace_11 : decode cX3_setPace 11 = .ok (.aload_n 0, 1) := by decide +kernel
theorem dX3_setPace_12 : decode cX3_setPace 12 = .ok (.getfield 19, 3) := by decide +kernel
theorem dX3_setPace_15 : decode cX3_setPace 15 = .ok (.invokevirtual 178, 3) := by decide +kernel
theorem dX3_setPace_18 : decode cX3_setPace 18 = .ok (.aload_n 0, 1) := by decide +kernel
theorem dX3_setPace_19 : decode cX3_setPace 19 = .ok (.getfield 19, 3) := by decide +kernel
theorem dX3_setPace_22 : decode cX3_setPace 22 = .ok (.getfield 83, 3) := by decide +kernel
theorem dX3_setPace_25 : decode cX3_setPace 25 = .ok (.istore_n 2, 1) := by decide +kernel
theorem dX3_setPace_26 : decode cX3_setPace 26 = .ok (.aload_n 0, 1) := by decide +kernel
theorem dX3_setPace_27 : decode cX3_setPace 27 = .ok (.getfield 19, 3) := by decide +kernel
theorem dX3_setPace_30 : decode cX3_setPace 30 = .ok (.iload_n 1, 1) := by decide +kernel
theorem dX3_setPace_31 : decode cX3_setPace 31 = .ok (.putfield 83, 3) := by decide +kernel
theorem dX3_setPace_34 : decode cX3_setPace 34 = .ok (.iload_n 2, 1) := by decide +kernel
theorem dX3_setPace_35 : decode cX3_setPace 35 = .ok (.ireturn, 1) := by decide +kernel
set_option maxRecDepth 20000 in
theorem ggX3_link_X1_canLink : GoodIn wsX3_link wsX1_canLink := goodIn_r _ [10, 11, 51, 52, 53, 54, 55, 56, 57, 58, 59, 60, 61, 62, 63] (by decide +kernel) (by decide +kernel)
set_option maxRecDepth 20000 in
theorem gX3_link_X1_canLink : GoodIn wsX3_link (wsV RX3 192 RX1 yX1_canLink wsX1_canLink) := goodIn_app (goodIn_of _ (by decide +kernel)) ggX3_link_X1_canLink
set_option maxRecDepth 20000 in
theorem ggX3_link_X0_remember : GoodIn wsX3_link wsX0_remember := goodIn_r _ [16, 17, 18, 19, 20, 21, 22, 9, 23, 11, 24, 25, 26, 27, 28, 29, 30, 31, 32, 33, 34, 35, 36, 37, 38, 39, 64, 65, 66, 51, 52, 53, 54, 55, 56, 57, 58, 59, 60, 61, 62, 63] (by decide +kernel) (by decide +kernel)
set_option maxRecDepth 20000 in
theorem gX3_link_X0_remember : GoodIn wsX3_link (wsV RX3 178 RX0 yX0_remember wsX0_remember) := goodIn_app (goodIn_of _ (by decide +kernel)) ggX3_link_X0_remember
set_option maxRecDepth 20000 in
theorem ggX3_link_X1_linkedCounters : GoodIn wsX3_link wsX1_linkedCounters := goodIn_r _ [43, 11, 32, 51, 52, 53, 54, 55, 56, 57, 58, 59, 60, 61, 62, 63] (by decide +kernel) (by decide +kernel)
set_option maxRecDepth 20000 in
theorem gX3_link_X1_linkedCounters : GoodIn wsX3_link (wsV RX3 198 RX1 yX1_linkedCounters wsX1_linkedCounters) := goodIn_app (goodIn_of _ (by decide +kernel)) ggX3_link_X1_linkedCounters
theorem dX3_link_0 : decode cX3_link 0 = .ok (.aload_n 0, 1) := by decide +kernel
theorem dX3_link_1 : decode cX3_link 1 = .ok (.getfield 19, 3) := by decide +kernel
theorem dX3_link_4 : decode cX3_link 4 = .ok (.iload_n 1, 1) := by decide +kernel
theorem dX3_link_5 : decode cX3_link 5 = .ok (.invokevirtual 192, 3) := by decide +kernel
theorem dX3_link_8 : decode cX3_link 8 = .ok (.ifCond .ne 13, 3) := by decide +kernel
theorem dX3_link_11 : decode cX3_link 11 = .ok (.new 131, 3) := by decide +kernel
theorem dX3_link_14 : decode cX3_link 14 = .ok (.dup, 1) := by decide +kernel
theorem dX3_link_15 : decode cX3_link 15 = .ok (.ldc 196, 2) := by decide +kernel
theorem dX3_link_17 : decode cX3_link 17 = .ok (.invokespecial 135, 3) := by decide +kernel
theorem dX3_link_20 : decode cX3_link 20 = .ok (.athrow, 1) := by decide +kernel
theorem dX3_link_21 : decode cX3_link 21 = .ok (.aload_n 0, 1) := by decide +kernel
theorem dX3_link_22 : decode cX3_link 22 = .ok (.getfield 26, 3) := by decide +kernel
theorem dX3_link_25 : decode cX3_link 25 = .ok (.aload_n 0, 1) := by decide +kernel
theorem dX3_link_26 : decode cX3_link 26 = .ok (.getfield 19, 3) := by decide +kernel
theorem dX3_link_29 : decode cX3_link 29 = .ok (.invokevirtual 178, 3) := by decide +kernel
theorem dX3_link_32 : decode cX3_link 32 = .ok (.aload_n 0, 1) := by decide +kernel
theorem dX3_link_33 : decode cX3_link 33 = .ok (.getfield 19, 3) := by decide +kernel
theorem dX3_link_36 : decode cX3_link 36 = .ok (.getfield 116, 3) := by decide +kernel
theorem dX3_link_39 : decode cX3_link 39 = .ok (.iload_n 1, 1) := by decide +kernel
theorem dX3_link_40 : decode cX3_link 40 = .ok (.iload_n 2, 1) := by decide +kernel
theorem dX3_link_41 : decode cX3_link 41 = .ok (.bastore, 1) := by decide +kernel
theorem dX3_link_42 : decode cX3_link 42 = .ok (.aload_n 0, 1) := by decide +kernel
theorem dX3_link_43 : decode cX3_link 43 = .ok (.getfield 19, 3) := by decide +kernel
theorem dX3_link_46 : decode cX3_link 46 = .ok (.invokevirtual 198, 3) := by decide +kernel
theorem dX3_link_49 : decode cX3_link 49 = .ok (.ireturn, 1) := by decide +kernel
set_option maxRecDepth 20000 in
theorem ggX3_resize_X3_requireCounter : GoodIn wsX3_resize wsX3_requireCounter := goodIn_ca (goodIn_r _ [8, 9, 10, 2, 11, 12, 13, 14, 15, 16, 56, 57, 58, 59, 60, 61, 62, 63, 64, 65, 66, 67, 68, 69, 70, 71, 72, 73, 74, 75] (by decide +kernel) (by decide +kernel)) (goodIn_sub (fun _ h => List.mem_cons_of_mem _ (List.mem_append_left _ (List.mem_append_right _ h))) (by decide +kernel))
set_option maxRecDepth 20000 in
theorem gX3_resize_X3_requireCounter : GoodIn wsX3_resize (wsV RX3 101 RX3 yX3_requireCounter wsX3_requireCounter) := goodIn_app (goodIn_of _ (by decide +kernel)) ggX3_resize_X3_requireCounter
set_option maxRecDepth 20000 in
theorem ggX3_resize_X3_requireRange : GoodIn wsX3_resize wsX3_requireRange := goodIn_ca (goodIn_r _ [19, 20, 21] (by decide +kernel) (by decide +kernel)) (goodIn_sub (fun _ h => List.mem_cons_of_mem _ (List.mem_append_right _ h)) (by decide +kernel))
set_option maxRecDepth 20000 in
theorem gX3_resize_X3_requireRange : GoodIn wsX3_resize (va_wsS RX3 45 yX3_requireRange wsX3_requireRange) := goodIn_app (goodIn_of _ (by decide +kernel)) ggX3_resize_X3_requireRange
set_option maxRecDepth 20000 in
theorem ggX3_resize_X0_remember : GoodIn wsX3_resize wsX0_remember := goodIn_r _ [26, 27, 28, 29, 30, 31, 32, 14, 33, 16, 34, 35, 36, 37, 38, 39, 40, 41, 42, 43, 44, 45, 46, 47, 48, 49, 76, 77, 78, 63, 64, 65, 66, 67, 68, 69, 70, 71, 72, 73, 74, 75] (by decide +kernel) (by decide +kernel)
set_option maxRecDepth 20000 in
theorem gX3_resize_X0_remember : GoodIn wsX3_resize (wsV RX3 178 RX0 yX0_remember wsX0_remember) := goodIn_app (goodIn_of _ (by decide +kernel)) ggX3_resize_X0_remember
set_option maxRecDepth 20000 in
theorem ggX3_resize_X1_changePlaces : GoodIn wsX3_resize wsX1_changePlaces := goodIn_r _ [53, 37, 44, 45, 54, 7, 55, 63, 64, 65, 66, 67, 68, 69, 70, 71, 72, 73, 74, 75] (by decide +kernel) (by decide +kernel)
set_option maxRecDepth 20000 in
theorem gX3_resize_X1_changePlaces : GoodIn wsX3_resize (wsV RX3 201 RX1 yX1_changePlaces wsX1_changePlaces) := goodIn_app (goodIn_of _ (by decide +kernel)) ggX3_resize_X1_changePlaces
theorem dX3_resize_0 : decode cX3_resize 0 = .ok (.aload_n 0, 1) := by decide +kernel
theorem dX3_resize_1 : decode cX3_resize 1 = .ok (.iload_n 1, 1) := by decide +kernel
theorem dX3_resize_2 : decode cX3_resize 2 = .ok (.invokevirtual 101, 3) := by decide +kernel
theorem dX3_resize_5 : decode cX3_resize 5 = .ok (.iload_n 2, 1) := by decide +kernel
theorem dX3_resize_6 : decode cX3_resize 6 = .ok (.iconst 1, 1) := by decide +kernel
theorem dX3_resize_7 : decode cX3_resize 7 = .ok (.bipush 9, 2) := by decide +kernel
theorem dX3_resize_9 : decode cX3_resize 9 = .ok (.invokestatic 45, 3) := by decide +kernel
theorem dX3_resize_12 : decode cX3_resize 12 = .ok (.aload_n 0, 1) := by decide +kernel
theorem dX3_resize_13 : decode cX3_resize 13 = .ok (.getfield 26, 3) := by decide +kernel
theorem dX3_resize_16 : decode cX3_resize 16 = .ok (.aload_n 0, 1) := by decide +kernel
theorem dX3_resize_17 : decode cX3_resize 17 = .ok (.getfield 19, 3) := by decide +kernel
theorem dX3_resize_20 : decode cX3_resize 20 = .ok (.invokevirtual 178, 3) := by decide +kernel
theorem dX3_resize_23 : decode cX3_resize 23 = .ok (.aload_n 0, 1) := by decide +kernel
theorem dX3_resize_24 : decode cX3_resize 24 = .ok (.getfield 19, 3) := by decide +kernel
theorem dX3_resize_27 : decode cX3_resize 27 = .ok (.getfield 113, 3) := by decide +kernel
theorem dX3_resize_30 : decode cX3_resize 30 = .ok (.iload_n 1, 1) := by decide +kernel
theorem dX3_resize_31 : decode cX3_resize 31 = .ok (.iaload, 1) := by decide +kernel
theorem dX3_resize_32 : decode cX3_resize 32 = .ok (.istore_n 3, 1) := by decide +kernel
theorem dX3_resize_33 : decode cX3_resize 33 = .ok (.aload_n 0, 1) := by decide +kernel
theorem dX3_resize_34 : decode cX3_resize 34 = .ok (.getfield 19, 3) := by decide +kernel
theorem dX3_resize_37 : decode cX3_resize 37 = .ok (.iload_n 1, 1) := by decide +kernel
theorem dX3_resize_38 : decode cX3_resize 38 = .ok (.iload_n 2, 1) := by decide +kernel
theorem dX3_resize_39 : decode cX3_resize 39 = .ok (.invokevirtual 201, 3) := by decide +kernel
theorem dX3_resize_42 : decode cX3_resize 42 = .ok (.iload_n 3, 1) := by decide +kernel
theorem dX3_resize_43 : decode cX3_resize 43 = .ok (.ireturn, 1) := by decide +kernel
set_option maxRecDepth 20000 in
theorem ggX3_pour_X3_requireCounter : GoodIn wsX3_pour wsX3_requireCounter := goodIn_ca (goodIn_r _ [9, 10, 11, 4, 12, 13, 14, 15, 16, 17, 57, 58, 59, 60, 61, 62, 63, 64, 65, 66, 67, 68, 69, 70, 71, 72, 73, 74, 75, 76] (by decide +kernel) (by decide +kernel)) (goodIn_sub (fun _ h => List.mem_cons_of_mem _ (List.mem_append_right _ h)) (by decide +kernel))
set_option maxRecDepth 20000 in
theorem gX3_pour_X3_requireCounter : GoodIn wsX3_pour (wsV RX3 101 RX3 yX3_requireCounter wsX3_requireCounter) := goodIn_app (goodIn_of _ (by decide +kernel)) ggX3_pour_X3_requireCounter
set_option maxRecDepth 20000 in
theorem ggX3_pour_X0_remember : GoodIn wsX3_pour wsX0_remember := goodIn_r _ [22, 23, 24, 25, 26, 27, 28, 15, 29, 17, 30, 31, 32, 33, 34, 35, 36, 37, 38, 39, 40, 41, 42, 43, 44, 45, 77, 78, 79, 64, 65, 66, 67, 68, 69, 70, 71, 72, 73, 74, 75, 76] (by decide +kernel) (by decide +kernel)
set_option maxRecDepth 20000 in
theorem gX3_pour_X0_remember : GoodIn wsX3_pour (wsV RX3 178 RX0 yX0_remember wsX0_remember) := goodIn_app (goodIn_of _ (by decide +kernel)) ggX3_pour_X0_remember
set_option maxRecDepth 20000 in
theorem ggX3_pour_X1_fullReading : GoodIn wsX3_pour wsX1_fullReading := goodIn_r _ [49, 33, 50, 40, 41, 51, 8, 52, 64, 65, 66, 67, 68, 69, 70, 71, 72, 73, 74, 75, 76] (by decide +kernel) (by decide +kernel)
set_option maxRecDepth 20000 in
theorem gX3_pour_X1_fullReading : GoodIn wsX3_pour (wsV RX3 109 RX1 yX1_fullReading wsX1_fullReading) := goodIn_app (goodIn_of _ (by decide +kernel)) ggX3_pour_X1_fullReading
set_option maxRecDepth 20000 in
theorem ggX3_pour_X1_pourInto : GoodIn wsX3_pour wsX1_pourInto := goodIn_r _ [56, 33, 40, 41, 39, 51, 8, 52, 64, 65, 66, 67, 68, 69, 70, 71, 72, 73, 74, 75, 76] (by decide +kernel) (by decide +kernel)
set_option maxRecDepth 20000 in
theorem gX3_pour_X1_pourInto : GoodIn wsX3_pour (wsV RX3 210 RX1 yX1_pourInto wsX1_pourInto) := goodIn_app (goodIn_of _ (by decide +kernel)) ggX3_pour_X1_pourInto
theorem dX3_pour_0 : decode cX3_pour 0 = .ok (.aload_n 0, 1) := by decide +kernel
theorem dX3_pour_1 : decode cX3_pour 1 = .ok (.iload_n 1, 1) := by decide +kernel
theorem dX3_pour_2 : decode cX3_pour 2 = .ok (.invokevirtual 101, 3) := by decide +kernel
theorem dX3_pour_5 : decode cX3_pour 5 = .ok (.aload_n 0, 1) := by decide +kernel
theorem dX3_pour_6 : decode cX3_pour 6 = .ok (.iload_n 2, 1) := by decide +kernel
theorem dX3_pour_7 : decode cX3_pour 7 = .ok (.invokevirtual 101, 3) := by decide +kernel
theorem dX3_pour_10 : decode cX3_pour 10 = .ok (.iload_n 1, 1) := by decide +kernel
theorem dX3_pour_11 : decode cX3_pour 11 = .ok (.iload_n 2, 1) := by decide +kernel
theorem dX3_pour_12 : decode cX3_pour 12 = .ok (.if_icmp .ne 13, 3) := by decide +kernel
theorem dX3_pour_15 : decode cX3_pour 15 = .ok (.new 205, 3) := by decide +kernel
theorem dX3_pour_18 : decode cX3_pour 18 = .ok (.dup, 1) := by decide +kernel
theorem dX3_pour_19 : decode cX3_pour 19 = .ok (.ldc 207, 2) := by decide +kernel
theorem dX3_pour_21 : decode cX3_pour 21 = .ok (.invokespecial 209, 3) := by decide +kernel
theorem dX3_pour_24 : decode cX3_pour 24 = .ok (.athrow, 1) := by decide +kernel
theorem dX3_pour_25 : decode cX3_pour 25 = .ok (.aload_n 0, 1) := by decide +kernel
theorem dX3_pour_26 : decode cX3_pour 26 = .ok (.getfield 26, 3) := by decide +kernel
theorem dX3_pour_29 : decode cX3_pour 29 = .ok (.aload_n 0, 1) := by decide +kernel
theorem dX3_pour_30 : decode cX3_pour 30 = .ok (.getfield 19, 3) := by decide +kernel
theorem dX3_pour_33 : decode cX3_pour 33 = .ok (.invokevirtual 178, 3) := by decide +kernel
theorem dX3_pour_36 : decode cX3_pour 36 = .ok (.aload_n 0, 1) := by decide +kernel
theorem dX3_pour_37 : decode cX3_pour 37 = .ok (.getfield 19, 3) := by decide +kernel
theorem dX3_pour_40 : decode cX3_pour 40 = .ok (.iload_n 2, 1) := by decide +kernel
theorem dX3_pour_41 : decode cX3_pour 41 = .ok (.invokevirtual 109, 3) := by decide +kernel
theorem dX3_pour_44 : decode cX3_pour 44 = .ok (.lstore_n 3, 1) := by decide +kernel
theorem dX3_pour_45 : decode cX3_pour 45 = .ok (.aload_n 0, 1) := by decide +kernel
theorem dX3_pour_46 : decode cX3_pour 46 = .ok (.getfield 19, 3) := by decide +kernel
theorem dX3_pour_49 : decode cX3_pour 49 = .ok (.iload_n 1, 1) := by decide +kernel
theorem dX3_pour_50 : decode cX3_pour 50 = .ok (.iload_n 2, 1) := by decide +kernel
theorem dX3_pour_51 : decode cX3_pour 51 = .ok (.invokevirtual 210, 3) := by decide +kernel
theorem dX3_pour_54 : decode cX3_pour 54 = .ok (.aload_n 0, 1) := by decide +kernel
theorem dX3_pour_55 : decode cX3_pour 55 = .ok (.getfield 19, 3) := by decide +kernel
theorem dX3_pour_58 : decode cX3_pour 58 = .ok (.iload_n 2, 1) := by decide +kernel
theorem dX3_pour_59 : decode cX3_pour 59 = .ok (.invokevirtual 109, 3) := by decide +kernel
theorem dX3_pour_62 : decode cX3_pour 62 = .ok (.lload_n 3, 1) := by decide +kernel
theorem dX3_pour_63 : decode cX3_pour 63 = .ok (.lsub, 1) := by decide +kernel
theorem dX3_pour_64 : decode cX3_pour 64 = .ok (.lreturn, 1) := by decide +kernel
set_option maxRecDepth 20000 in
theorem ggX3_undo_X0_takeBack : GoodIn wsX3_undo wsX0_takeBack := goodIn_r _ [10, 11, 12, 13, 14, 15, 16, 17, 18, 19, 20, 21, 22, 23, 24, 25, 26, 27, 28, 29, 30, 31, 32, 33, 34, 35, 43, 44, 45, 46, 47, 48, 49, 50, 51, 52, 53, 54, 55, 56, 57, 58] (by decide +kernel) (by decide +kernel)
set_option maxRecDepth 20000 in
theorem gX3_undo_X0_takeBack : GoodIn wsX3_undo (wsV RX3 218 RX0 yX0_takeBack wsX0_takeBack) := goodIn_app (goodIn_of _ (by decide +kernel)) ggX3_undo_X0_takeBack
theorem dX3_undo_0 : decode cX3_undo 0 = .ok (.aload_n 0, 1) := by decide +kernel
theorem dX3_undo_1 : decode cX3_undo 1 = .ok (.getfield 26, 3) := by decide +kernel
theorem dX3_undo_4 : decode cX3_undo 4 = .ok (.getfield 213, 3) := by decide +kernel
theorem dX3_undo_7 : decode cX3_undo 7 = .ok (.ifCond .ne 13, 3) := by decide +kernel
theorem dX3_undo_10 : decode cX3_undo 10 = .ok (.new 53, 3) := by decide +kernel
theorem dX3_undo_13 : decode cX3_undo 13 = .ok (.dup, 1) := by decide +kernel
theorem dX3_undo_14 : decode cX3_undo 14 = .ok (.ldc 216, 2) := by decide +kernel
theorem dX3_undo_16 : decode cX3_undo 16 = .ok (.invokespecial 57, 3) := by decide +kernel
theorem dX3_undo_19 : decode cX3_undo 19 = .ok (.athrow, 1) := by decide +kernel
theorem dX3_undo_20 : decode cX3_undo 20 = .ok (.aload_n 0, 1) := by decide +kernel
theorem dX3_undo_21 : decode cX3_undo 21 = .ok (.getfield 26, 3) := by decide +kernel
theorem dX3_undo_24 : decode cX3_undo 24 = .ok (.aload_n 0, 1) := by decide +kernel
theorem dX3_undo_25 : decode cX3_undo 25 = .ok (.getfield 19, 3) := by decide +kernel
theorem dX3_undo_28 : decode cX3_undo 28 = .ok (.invokevirtual 218, 3) := by decide +kernel
theorem dX3_undo_31 : decode cX3_undo 31 = .ok (.aload_n 0, 1) := by decide +kernel
theorem dX3_undo_32 : decode cX3_undo 32 = .ok (.getfield 26, 3) := by decide +kernel
theorem dX3_undo_35 : decode cX3_undo 35 = .ok (.getfield 213, 3) := by decide +kernel
theorem dX3_undo_38 : decode cX3_undo 38 = .ok (.ireturn, 1) := by decide +kernel
set_option maxRecDepth 20000 in
theorem ggX3_settled_X3_requireCounter : GoodIn wsX3_settled wsX3_requireCounter := goodIn_ca (goodIn_r _ [7, 8, 9, 2, 10, 11, 12, 13, 14, 15, 89, 90, 91, 92, 93, 94, 95, 96, 97, 98, 99, 100, 101, 102, 103, 104, 105, 106, 107, 108] (by decide +kernel) (by decide +kernel)) (goodIn_sub (fun _ h => List.mem_cons_of_mem _ (List.mem_append_right _ h)) (by decide +kernel))
set_option maxRecDepth 20000 in
theorem gX3_settled_X3_requireCounter : GoodIn wsX3_settled (wsV RX3 101 RX3 yX3_requireCounter wsX3_requireCounter) := goodIn_app (goodIn_of _ (by decide +kernel)) ggX3_settled_X3_requireCounter
set_option maxRecDepth 20000 in
theorem ggX3_settled_X1_copyFrom : GoodIn wsX3_settled wsX1_copyFrom := goodIn_r _ [19, 15, 20, 21, 22, 23, 24, 25, 26, 27, 28, 29, 30, 31, 32, 33, 34, 35, 96, 97, 98, 99, 100, 101, 102, 103, 104, 105, 106, 107, 108] (by decide +kernel) (by decide +kernel)
set_option maxRecDepth 20000 in
theorem gX3_settled_X1_copyFrom : GoodIn wsX3_settled (wsV RX3 221 RX1 yX1_copyFrom wsX1_copyFrom) := goodIn_app (goodIn_of _ (by decide +kernel)) ggX3_settled_X1_copyFrom
set_option maxRecDepth 20000 in
theorem ggX3_settled_X1_runToRest : GoodIn wsX3_settled wsX1_runToRest := goodIn_r _ [39, 40, 41, 42, 43, 13, 44, 28, 45, 46, 47, 48, 49, 50, 51, 52, 53, 54, 55, 56, 23, 31, 57, 6, 58, 59, 60, 61, 62, 63, 64, 65, 66, 20, 67, 68, 69, 70, 71, 72, 73, 30, 74, 75, 76, 77, 78, 79, 80, 81, 82, 83, 84, 29, 85, 86, 87, 88, 15, 96, 97, 98, 99, 100, 101, 102, 103, 104, 105, 106, 107, 108] (by decide +kernel) (by decide +kernel)
set_option maxRecDepth 20000 in
theorem gX3_settled_X1_runToRest : GoodIn wsX3_settled (wsV RX3 224 RX1 yX1_runToRest wsX1_runToRest) := goodIn_app (goodIn_of _ (by decide +kernel)) ggX3_settled_X1_runToRest
theorem dX3_settled_0 : decode cX3_settled 0 = .ok (.aload_n 0, 1) := by decide +kernel
theorem dX3_settled_1 : decode cX3_settled 1 = .ok (.iload_n 1, 1) := by decide +kernel
theorem dX3_settled_2 : decode cX3_settled 2 = .ok (.invokevirtual 101, 3) := by decide +kernel
theorem dX3_settled_5 : decode cX3_settled 5 = .ok (.aload_n 0, 1) := by decide +kernel
theorem dX3_settled_6 : decode cX3_settled 6 = .ok (.getfield 38, 3) := by decide +kernel
theorem dX3_settled_9 : decode cX3_settled 9 = .ok (.aload_n 0, 1) := by decide +kernel
theorem dX3_settled_10 : decode cX3_settled 10 = .ok (.getfield 19, 3) := by decide +kernel
theorem dX3_settled_13 : decode cX3_settled 13 = .ok (.invokevirtual 221, 3) := by decide +kernel
theorem dX3_settled_16 : decode cX3_settled 16 = .ok (.aload_n 0, 1) := by decide +kernel
theorem dX3_settled_17 : decode cX3_settled 17 = .ok (.getfield 38, 3) := by decide +kernel
theorem dX3_settled_20 : decode cX3_settled 20 = .ok (.iload_n 1, 1) := by decide +kernel
theorem dX3_settled_21 : decode cX3_settled 21 = .ok (.invokevirtual 224, 3) := by decide +kernel
theorem dX3_settled_24 : decode cX3_settled 24 = .ok (.ireturn, 1) := by decide +kernel
set_option maxRecDepth 20000 in
theorem ggX3_shownAtLast_X3_requireCounter : GoodIn wsX3_shownAtLast wsX3_requireCounter := goodIn_ca (goodIn_r _ [7, 8, 9, 2, 10, 11, 12, 13, 14, 15, 93, 94, 95, 96, 97, 98, 99, 100, 101, 102, 103, 104, 105, 106, 107, 108, 109, 110, 111, 112] (by decide +kernel) (by decide +kernel)) (goodIn_sub (fun _ h => List.mem_cons_of_mem _ (List.mem_append_right _ h)) (by decide +kernel))
set_option maxRecDepth 20000 in
theorem gX3_shownAtLast_X3_requireCounter : GoodIn wsX3_shownAtLast (wsV RX3 101 RX3 yX3_requireCounter wsX3_requireCounter) := goodIn_app (goodIn_of _ (by decide +kernel)) ggX3_shownAtLast_X3_requireCounter
set_option maxRecDepth 20000 in
theorem ggX3_shownAtLast_X1_copyFrom : GoodIn wsX3_shownAtLast wsX1_copyFrom := goodIn_r _ [19, 15, 20, 21, 22, 23, 24, 25, 26, 27, 28, 29, 30, 31, 32, 33, 34, 35, 100, 101, 102, 103, 104, 105, 106, 107, 108, 109, 110, 111, 112] (by decide +kernel) (by decide +kernel)
set_option maxRecDepth 20000 in
theorem gX3_shownAtLast_X1_copyFrom : GoodIn wsX3_shownAtLast (wsV RX3 221 RX1 yX1_copyFrom wsX1_copyFrom) := goodIn_app (goodIn_of _ (by decide +kernel)) ggX3_shownAtLast_X1_copyFrom
set_option maxRecDepth 20000 in
theorem ggX3_shownAtLast_X1_runToRest : GoodIn wsX3_shownAtLast wsX1_runToRest := goodIn_r _ [39, 40, 41, 42, 43, 13, 44, 28, 45, 46, 47, 48, 49, 50, 51, 52, 53, 54, 55, 56, 23, 31, 57, 6, 58, 59, 60, 61, 62, 63, 64, 65, 66, 20, 67, 68, 69, 70, 71, 72, 73, 30, 74, 75, 76, 77, 78, 79, 80, 81, 82, 83, 84, 29, 85, 86, 87, 88, 15, 100, 101, 102, 103, 104, 105, 106, 107, 108, 109, 110, 111, 112] (by decide +kernel) (by decide +kernel)
set_option maxRecDepth 20000 in
theorem gX3_shownAtLast_X1_runToRest : GoodIn wsX3_shownAtLast (wsV RX3 224 RX1 yX1_runToRest wsX1_runToRest) := goodIn_app (goodIn_of _ (by decide +kernel)) ggX3_shownAtLast_X1_runToRest
set_option maxRecDepth 20000 in
theorem ggX3_shownAtLast_X1_reading : GoodIn wsX3_shownAtLast wsX1_reading := goodIn_r _ [92, 23, 30, 57, 6, 58, 100, 101, 102, 103, 104, 105, 106, 107, 108, 109, 110, 111, 112] (by decide +kernel) (by decide +kernel)
set_option maxRecDepth 20000 in
theorem gX3_shownAtLast_X1_reading : GoodIn wsX3_shownAtLast (wsV RX3 105 RX1 yX1_reading wsX1_reading) := goodIn_app (goodIn_of _ (by decide +kernel)) ggX3_shownAtLast_X1_reading
theorem dX3_shownAtLast_0 : decode cX3_shownAtLast 0 = .ok (.aload_n 0, 1) := by decide +kernel
theorem dX3_shownAtLast_1 : decode cX3_shownAtLast 1 = .ok (.iload_n 1, 1) := by decide +kernel
theorem dX3_shownAtLast_2 : decode cX3_shownAtLast 2 = .ok (.invokevirtual 101, 3) := by decide +kernel
theorem dX3_shownAtLast_5 : decode cX3_shownAtLast 5 = .ok (.aload_n 0, 1) := by decide +kernel
theorem dX3_shownAtLast_6 : decode cX3_shownAtLast 6 = .ok (.getfield 38, 3) := by decide +kernel
theorem dX3_shownAtLast_9 : decode cX3_shownAtLast 9 = .ok (.aload_n 0, 1) := by decide +kernel
theorem dX3_shownAtLast_10 : decode cX3_shownAtLast 10 = .ok (.getfield 19, 3) := by decide +kernel
theorem dX3_shownAtLast_13 : decode cX3_shownAtLast 13 = .ok (.invokevirtual 221, 3) := by decide +kernel
theorem dX3_shownAtLast_16 : decode cX3_shownAtLast 16 = .ok (.aload_n 0, 1) := by decide +kernel
theorem dX3_shownAtLast_17 : decode cX3_shownAtLast 17 = .ok (.getfield 38, 3) := by decide +kernel
theorem dX3_shownAtLast_20 : decode cX3_shownAtLast 20 = .ok (.iload_n 1, 1) := by decide +kernel
theorem dX3_shownAtLast_21 : decode cX3_shownAtLast 21 = .ok (.invokevirtual 224, 3) := by decide +kernel
theorem dX3_shownAtLast_24 : decode cX3_shownAtLast 24 = .ok (.pop, 1) := by decide +kernel
theorem dX3_shownAtLast_25 : decode cX3_shownAtLast 25 = .ok (.aload_n 0, 1) := by decide +kernel
theorem dX3_shownAtLast_26 : decode cX3_shownAtLast 26 = .ok (.getfield 38, 3) := by decide +kernel
theorem dX3_shownAtLast_29 : decode cX3_shownAtLast 29 = .ok (.iload_n 1, 1) := by decide +kernel
theorem dX3_shownAtLast_30 : decode cX3_shownAtLast 30 = .ok (.invokevirtual 105, 3) := by decide +kernel
theorem dX3_shownAtLast_33 : decode cX3_shownAtLast 33 = .ok (.ireturn, 1) := by decide +kernel
set_option maxRecDepth 20000 in
theorem ggX3_whenShown_X3_requireCounter : GoodIn wsX3_whenShown wsX3_requireCounter := goodIn_ca (goodIn_r _ [7, 8, 9, 2, 10, 11, 12, 13, 14, 15, 98, 99, 100, 101, 102, 103, 104, 105, 106, 107, 108, 109, 110, 111, 112, 113, 114, 115, 116, 117] (by decide +kernel) (by decide +kernel)) (goodIn_sub (fun _ h => List.mem_cons_of_mem _ (List.mem_append_left _ (List.mem_append_right _ h))) (by decide +kernel))
set_option maxRecDepth 20000 in
theorem gX3_whenShown_X3_requireCounter : GoodIn wsX3_whenShown (wsV RX3 101 RX3 yX3_requireCounter wsX3_requireCounter) := goodIn_app (goodIn_of _ (by decide +kernel)) ggX3_whenShown_X3_requireCounter
set_option maxRecDepth 20000 in
theorem ggX3_whenShown_X3_requireRange : GoodIn wsX3_whenShown wsX3_requireRange := goodIn_ca (goodIn_r _ [18, 19, 20] (by decide +kernel) (by decide +kernel)) (goodIn_sub (fun _ h => List.mem_cons_of_mem _ (List.mem_append_right _ h)) (by decide +kernel))
set_option maxRecDepth 20000 in
theorem gX3_whenShown_X3_requireRange : GoodIn wsX3_whenShown (va_wsS RX3 45 yX3_requireRange wsX3_requireRange) := goodIn_app (goodIn_of _ (by decide +kernel)) ggX3_whenShown_X3_requireRange
set_option maxRecDepth 20000 in
theorem ggX3_whenShown_X1_copyFrom : GoodIn wsX3_whenShown wsX1_copyFrom := goodIn_r _ [24, 15, 25, 26, 27, 28, 29, 30, 31, 32, 33, 34, 35, 36, 37, 38, 39, 40, 105, 106, 107, 108, 109, 110, 111, 112, 113, 114, 115, 116, 117] (by decide +kernel) (by decide +kernel)
set_option maxRecDepth 20000 in
theorem gX3_whenShown_X1_copyFrom : GoodIn wsX3_whenShown (wsV RX3 221 RX1 yX1_copyFrom wsX1_copyFrom) := goodIn_app (goodIn_of _ (by decide +kernel)) ggX3_whenShown_X1_copyFrom
set_option maxRecDepth 20000 in
theorem ggX3_whenShown_X1_runToReading : GoodIn wsX3_whenShown wsX1_runToReading := goodIn_r _ [44, 45, 46, 47, 48, 13, 49, 33, 50, 51, 52, 53, 28, 35, 54, 6, 55, 56, 57, 58, 59, 60, 61, 62, 63, 64, 65, 66, 67, 36, 68, 69, 70, 71, 72, 73, 74, 75, 25, 76, 77, 78, 79, 80, 81, 82, 83, 84, 85, 86, 87, 88, 89, 90, 91, 92, 93, 34, 94, 95, 96, 97, 15, 105, 106, 107, 108, 109, 110, 111, 112, 113, 114, 115, 116, 117] (by decide +kernel) (by decide +kernel)
set_option maxRecDepth 20000 in
theorem gX3_whenShown_X1_runToReading : GoodIn wsX3_whenShown (wsV RX3 227 RX1 yX1_runToReading wsX1_runToReading) := goodIn_app (goodIn_of _ (by decide +kernel)) ggX3_whenShown_X1_runToReading
theorem dX3_whenShown_0 : decode cX3_whenShown 0 = .ok (.aload_n 0, 1) := by decide +kernel
theorem dX3_whenShown_1 : decode cX3_whenShown 1 = .ok (.iload_n 1, 1) := by decide +kernel
theorem dX3_whenShown_2 : decode cX3_whenShown 2 = .ok (.invokevirtual 101, 3) := by decide +kernel
theorem dX3_whenShown_5 : decode cX3_whenShown 5 = .ok (.iload_n 2, 1) := by decide +kernel
theorem dX3_whenShown_6 : decode cX3_whenShown 6 = .ok (.iconst 0, 1) := by decide +kernel
theorem dX3_whenShown_7 : decode cX3_whenShown 7 = .ok (.sipush 19682, 3) := by decide +kernel
theorem dX3_whenShown_10 : decode cX3_whenShown 10 = .ok (.invokestatic 45, 3) := by decide +kernel
theorem dX3_whenShown_13 : decode cX3_whenShown 13 = .ok (.aload_n 0, 1) := by decide +kernel
theorem dX3_whenShown_14 : decode cX3_whenShown 14 = .ok (.getfield 38, 3) := by decide +kernel
theorem dX3_whenShown_17 : decode cX3_whenShown 17 = .ok (.aload_n 0, 1) := by decide +kernel
theorem dX3_whenShown_18 : decode cX3_whenShown 18 = .ok (.getfield 19, 3) := by decide +kernel
theorem dX3_whenShown_21 : decode cX3_whenShown 21 = .ok (.invokevirtual 221, 3) := by decide +kernel
theorem dX3_whenShown_24 : decode cX3_whenShown 24 = .ok (.aload_n 0, 1) := by decide +kernel
theorem dX3_whenShown_25 : decode cX3_whenShown 25 = .ok (.getfield 38, 3) := by decide +kernel
theorem dX3_whenShown_28 : decode cX3_whenShown 28 = .ok (.iload_n 1, 1) := by decide +kernel
theorem dX3_whenShown_29 : decode cX3_whenShown 29 = .ok (.iload_n 2, 1) := by decide +kernel
theorem dX3_whenShown_30 : decode cX3_whenShown 30 = .ok (.invokevirtual 227, 3) := by decide +kernel
theorem dX3_whenShown_33 : decode cX3_whenShown 33 = .ok (.ireturn, 1) := by decide +kernel
set_option maxRecDepth 20000 in
theorem ggX3_leastPace_X3_requireRange : GoodIn wsX3_leastPace wsX3_requireRange := goodIn_ca (goodIn_r _ [7, 8, 9] (by decide +kernel) (by decide +kernel)) (goodIn_sub (fun _ h => List.mem_cons_of_mem _ (List.mem_append_right _ h)) (by decide +kernel))
set_option maxRecDepth 20000 in
theorem gX3_leastPace_X3_requireRange : GoodIn wsX3_leastPace (va_wsS RX3 45 yX3_requireRange wsX3_requireRange) := goodIn_app (goodIn_of _ (by decide +kernel)) ggX3_leastPace_X3_requireRange
set_option maxRecDepth 20000 in
theorem ggX3_leastPace_X1_copyFrom : GoodIn wsX3_leastPace wsX1_copyFrom := goodIn_r _ [14, 15, 16, 17, 18, 19, 20, 21, 22, 23, 24, 25, 26, 27, 28, 29, 30, 31, 83, 84, 85, 86, 87, 88, 89, 90, 91, 92, 93, 94, 95] (by decide +kernel) (by decide +kernel)
set_option maxRecDepth 20000 in
theorem gX3_leastPace_X1_copyFrom : GoodIn wsX3_leastPace (wsV RX3 221 RX1 yX1_copyFrom wsX1_copyFrom) := goodIn_app (goodIn_of _ (by decide +kernel)) ggX3_leastPace_X1_copyFrom
set_option maxRecDepth 20000 in
theorem ggX3_leastPace_X1_passBeats : GoodIn wsX3_leastPace wsX1_passBeats := goodIn_r _ [35, 15, 17, 36, 37, 38, 13, 39, 19, 27, 40, 6, 41, 42, 43, 44, 45, 16, 46, 47, 48, 49, 50, 51, 52, 26, 53, 54, 55, 56, 57, 58, 59, 60, 61, 62, 63, 24, 25, 64, 65, 66, 67, 83, 84, 85, 86, 87, 88, 89, 90, 91, 92, 93, 94, 95] (by decide +kernel) (by decide +kernel)
set_option maxRecDepth 20000 in
theorem gX3_leastPace_X1_passBeats : GoodIn wsX3_leastPace (wsV RX3 189 RX1 yX1_passBeats wsX1_passBeats) := goodIn_app (goodIn_of _ (by decide +kernel)) ggX3_leastPace_X1_passBeats
set_option maxRecDepth 20000 in
theorem ggX3_leastPace_X1_waitingInAll : GoodIn wsX3_leastPace wsX1_waitingInAll := goodIn_r _ [71, 15, 72, 73, 74, 13, 75, 19, 27, 40, 6, 41, 83, 84, 85, 86, 87, 88, 89, 90, 91, 92, 93, 94, 95] (by decide +kernel) (by decide +kernel)
set_option maxRecDepth 20000 in
theorem gX3_leastPace_X1_waitingInAll : GoodIn wsX3_leastPace (wsV RX3 95 RX1 yX1_waitingInAll wsX1_waitingInAll) := goodIn_app (goodIn_of _ (by decide +kernel)) ggX3_leastPace_X1_waitingInAll
theorem dX3_leastPace_0 : decode cX3_leastPace 0 = .ok (.iload_n 1, 1) := by decide +kernel
theorem dX3_leastPace_1 : decode cX3_leastPace 1 = .ok (.iconst 0, 1) := by decide +kernel
theorem dX3_leastPace_2 : decode cX3_leastPace 2 = .ok (.bipush 99, 2) := by decide +kernel
theorem dX3_leastPace_4 : decode cX3_leastPace 4 = .ok (.invokestatic 45, 3) := by decide +kernel
theorem dX3_leastPace_7 : decode cX3_leastPace 7 = .ok (.iconst 1, 1) := by decide +kernel
theorem dX3_leastPace_8 : decode cX3_leastPace 8 = .ok (.istore_n 2, 1) := by decide +kernel
theorem dX3_leastPace_9 : decode cX3_leastPace 9 = .ok (.iload_n 2, 1) := by decide +kernel
theorem dX3_leastPace_10 : decode cX3_leastPace 10 = .ok (.bipush 9, 2) := by decide +kernel
theorem dX3_leastPace_12 : decode cX3_leastPace 12 = .ok (.if_icmp .gt 48, 3) := by decide +kernel
theorem dX3_leastPace_15 : decode cX3_leastPace 15 = .ok (.aload_n 0, 1) := by decide +kernel
theorem dX3_leastPace_16 : decode cX3_leastPace 16 = .ok (.getfield 38, 3) := by decide +kernel
theorem dX3_leastPace_19 : decode cX3_leastPace 19 = .ok (.aload_n 0, 1) := by decide +kernel
theorem dX3_leastPace_20 : decode cX3_leastPace 20 = .ok (.getfield 19, 3) := by decide +kernel
theorem dX3_leastPace_23 : decode cX3_leastPace 23 = .ok (.invokevirtual 221, 3) := by decide +kernel
theorem dX3_leastPace_26 : decode cX3_leastPace 26 = .ok (.aload_n 0, 1) := by decide +kernel
theorem dX3_leastPace_27 : decode cX3_leastPace 27 = .ok (.getfield 38, 3) := by decide +kernel
theorem dX3_leastPace_30 : decode cX3_leastPace 30 = .ok (.iload_n 2, 1) := by decide +kernel
theorem dX3_leastPace_31 : decode cX3_leastPace 31 = .ok (.putfield 83, 3) := by decide +kernel
theorem dX3_leastPace_34 : decode cX3_leastPace 34 = .ok (.aload_n 0, 1) := by decide +kernel
theorem dX3_leastPace_35 : decode cX3_leastPace 35 = .ok (.getfield 38, 3) := by decide +kernel
theorem dX3_leastPace_38 : decode cX3_leastPace 38 = .ok (.iload_n 1, 1) := by decide +kernel
theorem dX3_leastPace_39 : decode cX3_leastPace 39 = .ok (.invokevirtual 189, 3) := by decide +kernel
theorem dX3_leastPace_42 : decode cX3_leastPace 42 = .ok (.aload_n 0, 1) := by decide +kernel
theorem dX3_leastPace_43 : decode cX3_leastPace 43 = .ok (.getfield 38, 3) := by decide +kernel
theorem dX3_leastPace_46 : decode cX3_leastPace 46 = .ok (.invokevirtual 95, 3) := by decide +kernel
theorem dX3_leastPace_49 : decode cX3_leastPace 49 = .ok (.ifCond .ne 5, 3) := by decide +kernel
theorem dX3_leastPace_52 : decode cX3_leastPace 52 = .ok (.iload_n 2, 1) := by decide +kernel
theorem dX3_leastPace_53 : decode cX3_leastPace 53 = .ok (.ireturn, 1) := by decide +kernel
theorem dX3_leastPace_54 : decode cX3_leastPace 54 = .ok (.iinc 2 1, 3) := by decide +kernel
theorem dX3_leastPace_57 : decode cX3_leastPace 57 = .ok (.goto (-48), 3) := by decide +kernel
theorem dX3_leastPace_60 : decode cX3_leastPace 60 = .ok (.iconst (-1), 1) := by decide +kernel
theorem dX3_leastPace_61 : decode cX3_leastPace 61 = .ok (.ireturn, 1) := by decide +kernel
set_option maxRecDepth 20000 in
theorem ggX3_slowest_X3_requireCounter : GoodIn wsX3_slowest wsX3_requireCounter := goodIn_ca (goodIn_r _ [8, 9, 10, 1, 11, 12, 13, 14, 15, 16, 100, 101, 102, 103, 104, 105, 106, 107, 108, 109, 110, 111, 112, 113, 114, 115, 116, 117, 118, 119] (by decide +kernel) (by decide +kernel)) (goodIn_sub (fun _ h => List.mem_cons_of_mem _ (List.mem_append_right _ h)) (by decide +kernel))
set_option maxRecDepth 20000 in
theorem gX3_slowest_X3_requireCounter : GoodIn wsX3_slowest (wsV RX3 101 RX3 yX3_requireCounter wsX3_requireCounter) := goodIn_app (goodIn_of _ (by decide +kernel)) ggX3_slowest_X3_requireCounter
set_option maxRecDepth 20000 in
theorem ggX3_slowest_X3_greatestToTry : GoodIn wsX3_slowest wsX3_greatestToTry := goodIn_r _ [19] (by decide +kernel) (by decide +kernel)
set_option maxRecDepth 20000 in
theorem gX3_slowest_X3_greatestToTry : GoodIn wsX3_slowest (va_wsS RX3 230 yX3_greatestToTry wsX3_greatestToTry) := goodIn_app (goodIn_of _ (by decide +kernel)) ggX3_slowest_X3_greatestToTry
set_option maxRecDepth 20000 in
theorem ggX3_slowest_X1_copyFrom : GoodIn wsX3_slowest wsX1_copyFrom := goodIn_r _ [23, 16, 24, 25, 26, 27, 28, 29, 30, 31, 32, 33, 34, 35, 36, 37, 38, 39, 107, 108, 109, 110, 111, 112, 113, 114, 115, 116, 117, 118, 119] (by decide +kernel) (by decide +kernel)
set_option maxRecDepth 20000 in
theorem gX3_slowest_X1_copyFrom : GoodIn wsX3_slowest (wsV RX3 221 RX1 yX1_copyFrom wsX1_copyFrom) := goodIn_app (goodIn_of _ (by decide +kernel)) ggX3_slowest_X1_copyFrom
set_option maxRecDepth 20000 in
theorem ggX3_slowest_X1_putDigits : GoodIn wsX3_slowest wsX1_putDigits := goodIn_r _ [43, 44, 45, 46, 47, 27, 35, 48, 7, 49, 107, 108, 109, 110, 111, 112, 113, 114, 115, 116, 117, 118, 119] (by decide +kernel) (by decide +kernel)
set_option maxRecDepth 20000 in
theorem gX3_slowest_X1_putDigits : GoodIn wsX3_slowest (wsV RX3 181 RX1 yX1_putDigits wsX1_putDigits) := goodIn_app (goodIn_of _ (by decide +kernel)) ggX3_slowest_X1_putDigits
set_option maxRecDepth 20000 in
theorem ggX3_slowest_X1_runToRest : GoodIn wsX3_slowest wsX1_runToRest := goodIn_r _ [53, 54, 55, 56, 57, 14, 58, 32, 59, 60, 61, 62, 63, 64, 65, 66, 67, 68, 69, 70, 27, 35, 48, 7, 49, 71, 72, 73, 74, 75, 76, 77, 78, 24, 79, 80, 46, 81, 82, 83, 84, 34, 85, 86, 87, 88, 89, 90, 91, 92, 93, 94, 95, 33, 96, 97, 98, 99, 16, 107, 108, 109, 110, 111, 112, 113, 114, 115, 116, 117, 118, 119] (by decide +kernel) (by decide +kernel)
set_option maxRecDepth 20000 in
theorem gX3_slowest_X1_runToRest : GoodIn wsX3_slowest (wsV RX3 224 RX1 yX1_runToRest wsX1_runToRest) := goodIn_app (goodIn_of _ (by decide +kernel)) ggX3_slowest_X1_runToRest
theorem dX3_slowest_0 : decode cX3_slowest 0 = .ok (.aload_n 0, 1) := by decide +kernel
theorem dX3_slowest_1 : decode cX3_slowest 1 = .ok (.iload_n 1, 1) := by decide +kernel
theorem dX3_slowest_2 : decode cX3_slowest 2 = .ok (.invokevirtual 101, 3) := by decide +kernel
theorem dX3_slowest_5 : decode cX3_slowest 5 = .ok (.aload_n 0, 1) := by decide +kernel
theorem dX3_slowest_6 : decode cX3_slowest 6 = .ok (.getfield 19, 3) := by decide +kernel
theorem dX3_slowest_9 : decode cX3_slowest 9 = .ok (.getfield 113, 3) := by decide +kernel
theorem dX3_slowest_12 : decode cX3_slowest 12 = .ok (.iload_n 1, 1) := by decide +kernel
theorem dX3_slowest_13 : decode cX3_slowest 13 = .ok (.iaload, 1) := by decide +kernel
theorem dX3_slowest_14 : decode cX3_slowest 14 = .ok (.invokestatic 230, 3) := by decide +kernel
theorem dX3_slowest_17 : decode cX3_slowest 17 = .ok (.istore_n 2, 1) := by decide +kernel
theorem dX3_slowest_18 : decode cX3_slowest 18 = .ok (.iconst (-1), 1) := by decide +kernel
theorem dX3_slowest_19 : decode cX3_slowest 19 = .ok (.istore_n 3, 1) := by decide +kernel
theorem dX3_slowest_20 : decode cX3_slowest 20 = .ok (.iconst (-1), 1) := by decide +kernel
theorem dX3_slowest_21 : decode cX3_slowest 21 = .ok (.istore 4, 2) := by decide +kernel
theorem dX3_slowest_23 : decode cX3_slowest 23 = .ok (.iconst 1, 1) := by decide +kernel
theorem dX3_slowest_24 : decode cX3_slowest 24 = .ok (.istore 5, 2) := by decide +kernel
theorem dX3_slowest_26 : decode cX3_slowest 26 = .ok (.iload 5, 2) := by decide +kernel
theorem dX3_slowest_28 : decode cX3_slowest 28 = .ok (.iload_n 2, 1) := by decide +kernel
theorem dX3_slowest_29 : decode cX3_slowest 29 = .ok (.if_icmp .gt 55, 3) := by decide +kernel
theorem dX3_slowest_32 : decode cX3_slowest 32 = .ok (.aload_n 0, 1) := by decide +kernel
theorem dX3_slowest_33 : decode cX3_slowest 33 = .ok (.getfield 38, 3) := by decide +kernel
theorem dX3_slowest_36 : decode cX3_slowest 36 = .ok (.aload_n 0, 1) := by decide +kernel
theorem dX3_slowest_37 : decode cX3_slowest 37 = .ok (.getfield 19, 3) := by decide +kernel
theorem dX3_slowest_40 : decode cX3_slowest 40 = .ok (.invokevirtual 221, 3) := by decide +kernel
theorem dX3_slowest_43 : decode cX3_slowest 43 = .ok (.aload_n 0, 1) := by decide +kernel
theorem dX3_slowest_44 : decode cX3_slowest 44 = .ok (.getfield 38, 3) := by decide +kernel
theorem dX3_slowest_47 : decode cX3_slowest 47 = .ok (.iload_n 1, 1) := by decide +kernel
theorem dX3_slowest_48 : decode cX3_slowest 48 = .ok (.iload 5, 2) := by decide +kernel
theorem dX3_slowest_50 : decode cX3_slowest 50 = .ok (.invokevirtual 181, 3) := by decide +kernel
theorem dX3_slowest_53 : decode cX3_slowest 53 = .ok (.pop, 1) := by decide +kernel
theorem dX3_slowest_54 : decode cX3_slowest 54 = .ok (.aload_n 0, 1) := by decide +kernel
theorem dX3_slowest_55 : decode cX3_slowest 55 = .ok (.getfield 38, 3) := by decide +kernel
theorem dX3_slowest_58 : decode cX3_slowest 58 = .ok (.iload_n 1, 1) := by decide +kernel
theorem dX3_slowest_59 : decode cX3_slowest 59 = .ok (.invokevirtual 224, 3) := by decide +kernel
theorem dX3_slowest_62 : decode cX3_slowest 62 = .ok (.istore 6, 2) := by decide +kernel
theorem dX3_slowest_64 : decode cX3_slowest 64 = .ok (.iload 6, 2) := by decide +kernel
theorem dX3_slowest_66 : decode cX3_slowest 66 = .ok (.iload 4, 2) := by decide +kernel
theorem dX3_slowest_68 : decode cX3_slowest 68 = .ok (.if_icmp .le 10, 3) := by decide +kernel
theorem dX3_slowest_71 : decode cX3_slowest 71 = .ok (.iload 6, 2) := by decide +kernel
theorem dX3_slowest_73 : decode cX3_slowest 73 = .ok (.istore 4, 2) := by decide +kernel
theorem dX3_slowest_75 : decode cX3_slowest 75 = .ok (.iload 5, 2) := by decide +kernel
theorem dX3_slowest_77 : decode cX3_slowest 77 = .ok (.istore_n 3, 1) := by decide +kernel
theorem dX3_slowest_78 : decode cX3_slowest 78 = .ok (.iinc 5 1, 3) := by decide +kernel
theorem dX3_slowest_81 : decode cX3_slowest 81 = .ok (.goto (-55), 3) := by decide +kernel
theorem dX3_slowest_84 : decode cX3_slowest 84 = .ok (.iload_n 3, 1) := by decide +kernel
theorem dX3_slowest_85 : decode cX3_slowest 85 = .ok (.ireturn, 1) := by decide +kernel
set_option maxRecDepth 20000 in
theorem ggX3_doubles_X3_requireCounter : GoodIn wsX3_doubles wsX3_requireCounter := goodIn_ca (goodIn_r _ [7, 8, 9, 2, 10, 11, 12, 13, 14, 15, 102, 103, 104, 105, 106, 107, 108, 109, 110, 111, 112, 113, 114, 115, 116, 117, 118, 119, 120, 121] (by decide +kernel) (by decide +kernel)) (goodIn_sub (fun _ h => List.mem_cons_of_mem _ (List.mem_append_left _ (List.mem_append_right _ h))) (by decide +kernel))
set_option maxRecDepth 20000 in
theorem gX3_doubles_X3_requireCounter : GoodIn wsX3_doubles (wsV RX3 101 RX3 yX3_requireCounter wsX3_requireCounter) := goodIn_app (goodIn_of _ (by decide +kernel)) ggX3_doubles_X3_requireCounter
set_option maxRecDepth 20000 in
theorem ggX3_doubles_X3_requireRange : GoodIn wsX3_doubles wsX3_requireRange := goodIn_ca (goodIn_r _ [18, 19, 20] (by decide +kernel) (by decide +kernel)) (goodIn_sub (fun _ h => List.mem_cons_of_mem _ (List.mem_append_right _ h)) (by decide +kernel))
set_option maxRecDepth 20000 in
theorem gX3_doubles_X3_requireRange : GoodIn wsX3_doubles (va_wsS RX3 45 yX3_requireRange wsX3_requireRange) := goodIn_app (goodIn_of _ (by decide +kernel)) ggX3_doubles_X3_requireRange
set_option maxRecDepth 20000 in
theorem ggX3_doubles_X1_copyFrom : GoodIn wsX3_doubles wsX1_copyFrom := goodIn_r _ [24, 15, 25, 26, 27, 28, 29, 30, 31, 32, 33, 34, 35, 36, 37, 38, 39, 40, 109, 110, 111, 112, 113, 114, 115, 116, 117, 118, 119, 120, 121] (by decide +kernel) (by decide +kernel)
set_option maxRecDepth 20000 in
theorem gX3_doubles_X1_copyFrom : GoodIn wsX3_doubles (wsV RX3 221 RX1 yX1_copyFrom wsX1_copyFrom) := goodIn_app (goodIn_of _ (by decide +kernel)) ggX3_doubles_X1_copyFrom
set_option maxRecDepth 20000 in
theorem ggX3_doubles_X1_drawFrom : GoodIn wsX3_doubles wsX1_drawFrom := goodIn_r _ [44, 27, 38, 37, 39, 26, 40, 36, 45, 46, 47, 13, 48, 28, 35, 49, 6, 50, 51, 52, 53, 54, 55, 109, 110, 111, 112, 113, 114, 115, 116, 117, 118, 119, 120, 121] (by decide +kernel) (by decide +kernel)
set_option maxRecDepth 20000 in
theorem gX3_doubles_X1_drawFrom : GoodIn wsX3_doubles (wsV RX3 186 RX1 yX1_drawFrom wsX1_drawFrom) := goodIn_app (goodIn_of _ (by decide +kernel)) ggX3_doubles_X1_drawFrom
set_option maxRecDepth 20000 in
theorem ggX3_doubles_X1_passBeats : GoodIn wsX3_doubles wsX1_passBeats := goodIn_r _ [59, 15, 26, 60, 61, 62, 13, 63, 28, 36, 49, 6, 50, 64, 65, 66, 67, 25, 68, 69, 70, 71, 72, 73, 74, 35, 75, 76, 77, 78, 79, 80, 81, 82, 83, 84, 85, 33, 34, 86, 87, 88, 89, 109, 110, 111, 112, 113, 114, 115, 116, 117, 118, 119, 120, 121] (by decide +kernel) (by decide +kernel)
set_option maxRecDepth 20000 in
theorem gX3_doubles_X1_passBeats : GoodIn wsX3_doubles (wsV RX3 189 RX1 yX1_passBeats wsX1_passBeats) := goodIn_app (goodIn_of _ (by decide +kernel)) ggX3_doubles_X1_passBeats
set_option maxRecDepth 20000 in
theorem ggX3_doubles_X1_pairs : GoodIn wsX3_doubles wsX1_pairs := goodIn_r _ [93, 27, 94, 95, 96, 13, 97, 98, 99, 100, 101, 37, 38, 109, 110, 111, 112, 113, 114, 115, 116, 117, 118, 119, 120, 121] (by decide +kernel) (by decide +kernel)
set_option maxRecDepth 20000 in
theorem gX3_doubles_X1_pairs : GoodIn wsX3_doubles (wsV RX3 98 RX1 yX1_pairs wsX1_pairs) := goodIn_app (goodIn_of _ (by decide +kernel)) ggX3_doubles_X1_pairs
theorem dX3_doubles_0 : decode cX3_doubles 0 = .ok (.aload_n 0, 1) := by decide +kernel
theorem dX3_doubles_1 : decode cX3_doubles 1 = .ok (.iload_n 1, 1) := by decide +kernel
theorem dX3_doubles_2 : decode cX3_doubles 2 = .ok (.invokevirtual 101, 3) := by decide +kernel
theorem dX3_doubles_5 : decode cX3_doubles 5 = .ok (.iload_n 2, 1) := by decide +kernel
theorem dX3_doubles_6 : decode cX3_doubles 6 = .ok (.iconst 1, 1) := by decide +kernel
theorem dX3_doubles_7 : decode cX3_doubles 7 = .ok (.bipush 9, 2) := by decide +kernel
theorem dX3_doubles_9 : decode cX3_doubles 9 = .ok (.invokestatic 45, 3) := by decide +kernel
theorem dX3_doubles_12 : decode cX3_doubles 12 = .ok (.aload_n 0, 1) := by decide +kernel
theorem dX3_doubles_13 : decode cX3_doubles 13 = .ok (.getfield 38, 3) := by decide +kernel
theorem dX3_doubles_16 : decode cX3_doubles 16 = .ok (.aload_n 0, 1) := by decide +kernel
theorem dX3_doubles_17 : decode cX3_doubles 17 = .ok (.getfield 19, 3) := by decide +kernel
theorem dX3_doubles_20 : decode cX3_doubles 20 = .ok (.invokevirtual 221, 3) := by decide +kernel
theorem dX3_doubles_23 : decode cX3_doubles 23 = .ok (.iconst 0, 1) := by decide +kernel
theorem dX3_doubles_24 : decode cX3_doubles 24 = .ok (.istore_n 3, 1) := by decide +kernel
theorem dX3_doubles_25 : decode cX3_doubles 25 = .ok (.iload_n 3, 1) := by decide +kernel
theorem dX3_doubles_26 : decode cX3_doubles 26 = .ok (.iload_n 2, 1) := by decide +kernel
theorem dX3_doubles_27 : decode cX3_doubles 27 = .ok (.if_icmp .ge 26, 3) := by decide +kernel
theorem dX3_doubles_30 : decode cX3_doubles 30 = .ok (.aload_n 0, 1) := by decide +kernel
theorem dX3_doubles_31 : decode cX3_doubles 31 = .ok (.getfield 38, 3) := by decide +kernel
theorem dX3_doubles_34 : decode cX3_doubles 34 = .ok (.iload_n 1, 1) := by decide +kernel
theorem dX3_doubles_35 : decode cX3_doubles 35 = .ok (.invokevirtual 186, 3) := by decide +kernel
theorem dX3_doubles_38 : decode cX3_doubles 38 = .ok (.pop, 1) := by decide +kernel
theorem dX3_doubles_39 : decode cX3_doubles 39 = .ok (.aload_n 0, 1) := by decide +kernel
theorem dX3_doubles_40 : decode cX3_doubles 40 = .ok (.getfield 38, 3) := by decide +kernel
theorem dX3_doubles_43 : decode cX3_doubles 43 = .ok (.iconst 1, 1) := by decide +kernel
theorem dX3_doubles_44 : decode cX3_doubles 44 = .ok (.invokevirtual 189, 3) := by decide +kernel
theorem dX3_doubles_47 : decode cX3_doubles 47 = .ok (.iinc 3 1, 3) := by decide +kernel
theorem dX3_doubles_50 : decode cX3_doubles 50 = .ok (.goto (-25), 3) := by decide +kernel
theorem dX3_doubles_53 : decode cX3_doubles 53 = .ok (.aload_n 0, 1) := by decide +kernel
theorem dX3_doubles_54 : decode cX3_doubles 54 = .ok (.getfield 38, 3) := by decide +kernel
theorem dX3_doubles_57 : decode cX3_doubles 57 = .ok (.invokevirtual 98, 3) := by decide +kernel
theorem dX3_doubles_60 : decode cX3_doubles 60 = .ok (.ireturn, 1) := by decide +kernel
set_option maxRecDepth 20000 in
theorem ggX3_runScript_X3_requireRange : GoodIn wsX3_runScript wsX3_requireRange := goodIn_ca (goodIn_r _ [9, 1, 2] (by decide +kernel) (by decide +kernel)) (goodIn_sub (fun _ h => List.mem_cons_of_mem _ (List.mem_append_right _ h)) (by decide +kernel))
set_option maxRecDepth 20000 in
theorem gX3_runScript_X3_requireRange : GoodIn wsX3_runScript (va_wsS RX3 45 yX3_requireRange wsX3_requireRange) := goodIn_app (goodIn_of _ (by decide +kernel)) ggX3_runScript_X3_requireRange
set_option maxRecDepth 20000 in
theorem ggX3_runScript_X3_splitScript : GoodIn wsX3_runScript wsX3_splitScript := goodIn_r _ [13, 5, 14, 139, 140, 141, 142, 143, 144, 145] (by decide +kernel) (by decide +kernel)
set_option maxRecDepth 20000 in
theorem gX3_runScript_X3_splitScript : GoodIn wsX3_runScript (wsV RX3 233 RX3 yX3_splitScript wsX3_splitScript) := goodIn_app (goodIn_of _ (by decide +kernel)) ggX3_runScript_X3_splitScript
set_option maxRecDepth 20000 in
theorem ggX3_runScript_X1_copyFrom : GoodIn wsX3_runScript wsX1_copyFrom := goodIn_r _ [19, 20, 21, 22, 23, 24, 25, 26, 27, 28, 29, 30, 31, 32, 33, 34, 35, 36, 146, 147, 148, 149, 150, 151, 152, 153, 154, 155, 156, 157, 158] (by decide +kernel) (by decide +kernel)
set_option maxRecDepth 20000 in
theorem gX3_runScript_X1_copyFrom : GoodIn wsX3_runScript (wsV RX3 221 RX1 yX1_copyFrom wsX1_copyFrom) := goodIn_app (goodIn_of _ (by decide +kernel)) ggX3_runScript_X1_copyFrom
set_option maxRecDepth 20000 in
theorem ggX3_runScript_X3_obeys : GoodIn wsX3_runScript wsX3_obeys := goodIn_r _ [39, 40, 41, 42, 43, 18, 44, 45, 46, 47, 48, 20, 49, 50, 51, 52, 53, 54, 55, 56, 24, 57, 58, 59, 60, 32, 61, 8, 62, 63, 64, 65, 66, 23, 67, 68, 69, 70, 34, 33, 35, 22, 36, 71, 72, 73, 74, 31, 75, 76, 77, 78, 79, 80, 81, 82, 83, 84, 85, 86, 87, 88, 89, 90, 91, 92, 93, 94, 21, 95, 96, 97, 98, 99, 100, 101, 102, 103, 104, 105, 106, 107, 108, 109, 110, 111, 29, 30, 112, 113, 114, 115, 116, 117, 118, 119, 120, 121, 122, 123, 124, 125, 126, 127, 128, 129, 130, 131, 132, 133, 134, 135, 136, 137, 138, 146, 147, 148, 149, 150, 151, 152, 153, 154, 155, 156, 157, 158] (by decide +kernel) (by decide +kernel)
set_option maxRecDepth 20000 in
theorem gX3_runScript_X3_obeys : GoodIn wsX3_runScript (va_wsS RX3 239 yX3_obeys wsX3_obeys) := goodIn_app (goodIn_of _ (by decide +kernel)) ggX3_runScript_X3_obeys
theorem dX3_runScript_0 : decode cX3_runScript 0 = .ok (.iload_n 1, 1) := by decide +kernel
theorem dX3_runScript_1 : decode cX3_runScript 1 = .ok (.iconst 1, 1) := by decide +kernel
theorem dX3_runScript_2 : decode cX3_runScript 2 = .ok (.iconst 3, 1) := by decide +kernel
theorem dX3_runScript_3 : decode cX3_runScript 3 = .ok (.invokestatic 45, 3) := by decide +kernel
theorem dX3_runScript_6 : decode cX3_runScript 6 = .ok (.lload_n 2, 1) := by decide +kernel
theorem dX3_runScript_7 : decode cX3_runScript 7 = .ok (.lconst 0, 1) := by decide +kernel
theorem dX3_runScript_8 : decode cX3_runScript 8 = .ok (.lcmp, 1) := by decide +kernel
theorem dX3_runScript_9 : decode cX3_runScript 9 = .ok (.ifCond .lt 12, 3) := by decide +kernel
theorem dX3_runScript_12 : decode cX3_runScript 12 = .ok (.aload_n 0, 1) := by decide +kernel
theorem dX3_runScript_13 : decode cX3_runScript 13 = .ok (.iload_n 1, 1) := by decide +kernel
theorem dX3_runScript_14 : decode cX3_runScript 14 = .ok (.lload_n 2, 1) := by decide +kernel
theorem dX3_runScript_15 : decode cX3_runScript 15 = .ok (.invokevirtual 233, 3) := by decide +kernel
theorem dX3_runScript_18 : decode cX3_runScript 18 = .ok (.ifCond .ne 13, 3) := by decide +kernel
theorem dX3_runScript_21 : decode cX3_runScript 21 = .ok (.new 205, 3) := by decide +kernel
theorem dX3_runScript_24 : decode cX3_runScript 24 = .ok (.dup, 1) := by decide +kernel
theorem dX3_runScript_25 : decode cX3_runScript 25 = .ok (.ldc 237, 2) := by decide +kernel
theorem dX3_runScript_27 : decode cX3_runScript 27 = .ok (.invokespecial 209, 3) := by decide +kernel
theorem dX3_runScript_30 : decode cX3_runScript 30 = .ok (.athrow, 1) := by decide +kernel
theorem dX3_runScript_31 : decode cX3_runScript 31 = .ok (.aload_n 0, 1) := by decide +kernel
theorem dX3_runScript_32 : decode cX3_runScript 32 = .ok (.getfield 38, 3) := by decide +kernel
theorem dX3_runScript_35 : decode cX3_runScript 35 = .ok (.aload_n 0, 1) := by decide +kernel
theorem dX3_runScript_36 : decode cX3_runScript 36 = .ok (.getfield 19, 3) := by decide +kernel
theorem dX3_runScript_39 : decode cX3_runScript 39 = .ok (.invokevirtual 221, 3) := by decide +kernel
theorem dX3_runScript_42 : decode cX3_runScript 42 = .ok (.iconst 0, 1) := by decide +kernel
theorem dX3_runScript_43 : decode cX3_runScript 43 = .ok (.istore 4, 2) := by decide +kernel
theorem dX3_runScript_45 : decode cX3_runScript 45 = .ok (.iload 4, 2) := by decide +kernel
theorem dX3_runScript_47 : decode cX3_runScript 47 = .ok (.iload_n 1, 1) := by decide +kernel
theorem dX3_runScript_48 : decode cX3_runScript 48 = .ok (.if_icmp .ge 29, 3) := by decide +kernel
theorem dX3_runScript_51 : decode cX3_runScript 51 = .ok (.aload_n 0, 1) := by decide +kernel
theorem dX3_runScript_52 : decode cX3_runScript 52 = .ok (.getfield 38, 3) := by decide +kernel
theorem dX3_runScript_55 : decode cX3_runScript 55 = .ok (.aload_n 0, 1) := by decide +kernel
theorem dX3_runScript_56 : decode cX3_runScript 56 = .ok (.getfield 41, 3) := by decide +kernel
theorem dX3_runScript_59 : decode cX3_runScript 59 = .ok (.iload 4, 2) := by decide +kernel
theorem dX3_runScript_61 : decode cX3_runScript 61 = .ok (.iaload, 1) := by decide +kernel
theorem dX3_runScript_62 : decode cX3_runScript 62 = .ok (.invokestatic 239, 3) := by decide +kernel
theorem dX3_runScript_65 : decode cX3_runScript 65 = .ok (.ifCond .ne 6, 3) := by decide +kernel
theorem dX3_runScript_68 : decode cX3_runScript 68 = .ok (.iload 4, 2) := by decide +kernel
theorem dX3_runScript_70 : decode cX3_runScript 70 = .ok (.ireturn, 1) := by decide +kernel
theorem dX3_runScript_71 : decode cX3_runScript 71 = .ok (.iinc 4 1, 3) := by decide +kernel
theorem dX3_runScript_74 : decode cX3_runScript 74 = .ok (.goto (-29), 3) := by decide +kernel
theorem dX3_runScript_77 : decode cX3_runScript 77 = .ok (.iconst (-1), 1) := by decide +kernel
theorem dX3_runScript_78 : decode cX3_runScript 78 = .ok (.ireturn, 1) := by decide +kernel
set_option maxRecDepth 20000 in
theorem ggX3_simulate_X3_requireRange : GoodIn wsX3_simulate wsX3_requireRange := goodIn_ca (goodIn_r _ [8, 9, 10] (by decide +kernel) (by decide +kernel)) (goodIn_sub (fun _ h => List.mem_cons_of_mem _ (List.mem_append_right _ h)) (by decide +kernel))
set_option maxRecDepth 20000 in
theorem gX3_simulate_X3_requireRange : GoodIn wsX3_simulate (va_wsS RX3 45 yX3_requireRange wsX3_requireRange) := goodIn_app (goodIn_of _ (by decide +kernel)) ggX3_simulate_X3_requireRange
set_option maxRecDepth 20000 in
theorem ggX3_simulate_X1_copyFrom : GoodIn wsX3_simulate wsX1_copyFrom := goodIn_r _ [15, 16, 17, 18, 19, 20, 21, 22, 23, 24, 25, 26, 27, 28, 29, 30, 31, 32, 144, 145, 146, 147, 148, 149, 150, 151, 152, 153, 154, 155, 156] (by decide +kernel) (by decide +kernel)
set_option maxRecDepth 20000 in
theorem gX3_simulate_X1_copyFrom : GoodIn wsX3_simulate (wsV RX3 221 RX1 yX1_copyFrom wsX1_copyFrom) := goodIn_app (goodIn_of _ (by decide +kernel)) ggX3_simulate_X1_copyFrom
set_option maxRecDepth 20000 in
theorem ggX3_simulate_X1_pairs : GoodIn wsX3_simulate wsX1_pairs := goodIn_r _ [36, 19, 37, 38, 39, 14, 40, 41, 42, 43, 44, 29, 30, 144, 145, 146, 147, 148, 149, 150, 151, 152, 153, 154, 155, 156] (by decide +kernel) (by decide +kernel)
set_option maxRecDepth 20000 in
theorem gX3_simulate_X1_pairs : GoodIn wsX3_simulate (wsV RX3 98 RX1 yX1_pairs wsX1_pairs) := goodIn_app (goodIn_of _ (by decide +kernel)) ggX3_simulate_X1_pairs
set_option maxRecDepth 20000 in
theorem ggX3_simulate_X3_takeTurn : GoodIn wsX3_simulate wsX3_takeTurn := goodIn_r _ [47, 48, 49, 50, 51, 14, 52, 19, 53, 54, 55, 56, 16, 57, 58, 59, 60, 30, 29, 31, 18, 32, 28, 61, 62, 63, 64, 20, 27, 65, 7, 66, 67, 68, 69, 70, 71, 72, 73, 74, 75, 76, 77, 78, 79, 80, 81, 82, 83, 84, 85, 86, 87, 88, 89, 90, 91, 92, 93, 94, 95, 26, 144, 145, 146, 147, 148, 149, 150, 151, 152, 153, 154, 155, 156] (by decide +kernel) (by decide +kernel)
set_option maxRecDepth 20000 in
theorem gX3_simulate_X3_takeTurn : GoodIn wsX3_simulate (va_wsS RX3 247 yX3_takeTurn wsX3_takeTurn) := goodIn_app (goodIn_of _ (by decide +kernel)) ggX3_simulate_X3_takeTurn
set_option maxRecDepth 20000 in
theorem ggX3_simulate_X1_passBeats : GoodIn wsX3_simulate wsX1_passBeats := goodIn_r _ [99, 16, 18, 100, 101, 102, 14, 103, 20, 28, 65, 7, 66, 104, 105, 106, 107, 17, 108, 109, 82, 110, 111, 112, 113, 27, 114, 115, 116, 117, 118, 119, 120, 121, 122, 123, 124, 25, 26, 125, 126, 127, 128, 144, 145, 146, 147, 148, 149, 150, 151, 152, 153, 154, 155, 156] (by decide +kernel) (by decide +kernel)
set_option maxRecDepth 20000 in
theorem gX3_simulate_X1_passBeats : GoodIn wsX3_simulate (wsV RX3 189 RX1 yX1_passBeats wsX1_passBeats) := goodIn_app (goodIn_of _ (by decide +kernel)) ggX3_simulate_X1_passBeats
set_option maxRecDepth 20000 in
theorem ggX3_simulate_X1_waitingInAll : GoodIn wsX3_simulate wsX1_waitingInAll := goodIn_r _ [132, 16, 133, 134, 135, 14, 136, 20, 28, 65, 7, 66, 144, 145, 146, 147, 148, 149, 150, 151, 152, 153, 154, 155, 156] (by decide +kernel) (by decide +kernel)
set_option maxRecDepth 20000 in
theorem gX3_simulate_X1_waitingInAll : GoodIn wsX3_simulate (wsV RX3 95 RX1 yX1_waitingInAll wsX1_waitingInAll) := goodIn_app (goodIn_of _ (by decide +kernel)) ggX3_simulate_X1_waitingInAll
theorem dX3_simulate_0 : decode cX3_simulate 0 = .ok (.iload_n 3, 1) := by decide +kernel
theorem dX3_simulate_1 : decode cX3_simulate 1 = .ok (.iconst 1, 1) := by decide +kernel
theorem dX3_simulate_2 : decode cX3_simulate 2 = .ok (.bipush 99, 2) := by decide +kernel
theorem dX3_simulate_4 : decode cX3_simulate 4 = .ok (.invokestatic 45, 3) := by decide +kernel
theorem dX3_simulate_7 : decode cX3_simulate 7 = .ok (.aload_n 0, 1) := by decide +kernel
theorem dX3_simulate_8 : decode cX3_simulate 8 = .ok (.getfield 38, 3) := by decide +kernel
theorem dX3_simulate_11 : decode cX3_simulate 11 = .ok (.aload_n 0, 1) := by decide +kernel
theorem dX3_simulate_12 : decode cX3_simulate 12 = .ok (.getfield 19, 3) := by decide +kernel
theorem dX3_simulate_15 : decode cX3_simulate 15 = .ok (.invokevirtual 221, 3) := by decide +kernel
theorem dX3_simulate_18 : decode cX3_simulate 18 = .ok (.aload_n 0, 1) := by decide +kernel
theorem dX3_simulate_19 : decode cX3_simulate 19 = .ok (.getfield 38, 3) := by decide +kernel
theorem dX3_simulate_22 : decode cX3_simulate 22 = .ok (.invokevirtual 98, 3) := by decide +kernel
theorem dX3_simulate_25 : decode cX3_simulate 25 = .ok (.istore 4, 2) := by decide +kernel
theorem dX3_simulate_27 : decode cX3_simulate 27 = .ok (.lload_n 1, 1) := by decide +kernel
theorem dX3_simulate_28 : decode cX3_simulate 28 = .ok (.lstore 5, 2) := by decide +kernel
theorem dX3_simulate_30 : decode cX3_simulate 30 = .ok (.iconst 0, 1) := by decide +kernel
theorem dX3_simulate_31 : decode cX3_simulate 31 = .ok (.istore 7, 2) := by decide +kernel
theorem dX3_simulate_33 : decode cX3_simulate 33 = .ok (.iload 7, 2) := by decide +kernel
theorem dX3_simulate_35 : decode cX3_simulate 35 = .ok (.iload_n 3, 1) := by decide +kernel
theorem dX3_simulate_36 : decode cX3_simulate 36 = .ok (.if_icmp .ge 42, 3) := by decide +kernel
theorem dX3_simulate_39 : decode cX3_simulate 39 = .ok (.lload 5, 2) := by decide +kernel
theorem dX3_simulate_41 : decode cX3_simulate 41 = .ok (.ldc2_w 243, 3) := by decide +kernel
theorem dX3_simulate_44 : decode cX3_simulate 44 = .ok (.lmul, 1) := by decide +kernel
theorem dX3_simulate_45 : decode cX3_simulate 45 = .ok (.ldc2_w 245, 3) := by decide +kernel
theorem dX3_simulate_48 : decode cX3_simulate 48 = .ok (.ladd, 1) := by decide +kernel
theorem dX3_simulate_49 : decode cX3_simulate 49 = .ok (.lstore 5, 2) := by decide +kernel
theorem dX3_simulate_51 : decode cX3_simulate 51 = .ok (.aload_n 0, 1) := by decide +kernel
theorem dX3_simulate_52 : decode cX3_simulate 52 = .ok (.getfield 38, 3) := by decide +kernel
theorem dX3_simulate_55 : decode cX3_simulate 55 = .ok (.lload 5, 2) := by decide +kernel
theorem dX3_simulate_57 : decode cX3_simulate 57 = .ok (.bipush 33, 2) := by decide +kernel
theorem dX3_simulate_59 : decode cX3_simulate 59 = .ok (.lushr, 1) := by decide +kernel
theorem dX3_simulate_60 : decode cX3_simulate 60 = .ok (.l2i, 1) := by decide +kernel
theorem dX3_simulate_61 : decode cX3_simulate 61 = .ok (.invokestatic 247, 3) := by decide +kernel
theorem dX3_simulate_64 : decode cX3_simulate 64 = .ok (.aload_n 0, 1) := by decide +kernel
theorem dX3_simulate_65 : decode cX3_simulate 65 = .ok (.getfield 38, 3) := by decide +kernel
theorem dX3_simulate_68 : decode cX3_simulate 68 = .ok (.iconst 1, 1) := by decide +kernel
theorem dX3_simulate_69 : decode cX3_simulate 69 = .ok (.invokevirtual 189, 3) := by decide +kernel
theorem dX3_simulate_72 : decode cX3_simulate 72 = .ok (.iinc 7 1, 3) := by decide +kernel
theorem dX3_simulate_75 : decode cX3_simulate 75 = .ok (.goto (-42), 3) := by decide +kernel
theorem dX3_simulate_78 : decode cX3_simulate 78 = .ok (.sipush 1000, 3) := by decide +kernel
theorem dX3_simulate_81 : decode cX3_simulate 81 = .ok (.aload_n 0, 1) := by decide +kernel
theorem dX3_simulate_82 : decode cX3_simulate 82 = .ok (.getfield 38, 3) := by decide +kernel
theorem dX3_simulate_85 : decode cX3_simulate 85 = .ok (.invokevirtual 98, 3) := by decide +kernel
theorem dX3_simulate_88 : decode cX3_simulate 88 = .ok (.iload 4, 2) := by decide +kernel
theorem dX3_simulate_90 : decode cX3_simulate 90 = .ok (.isub, 1) := by decide +kernel
theorem dX3_simulate_91 : decode cX3_simulate 91 = .ok (.imul, 1) := by decide +kernel
theorem dX3_simulate_92 : decode cX3_simulate 92 = .ok (.aload_n 0, 1) := by decide +kernel
theorem dX3_simulate_93 : decode cX3_simulate 93 = .ok (.getfield 38, 3) := by decide +kernel
theorem dX3_simulate_96 : decode cX3_simulate 96 = .ok (.invokevirtual 95, 3) := by decide +kernel
theorem dX3_simulate_99 : decode cX3_simulate 99 = .ok (.iadd, 1) := by decide +kernel
theorem dX3_simulate_100 : decode cX3_simulate 100 = .ok (.ireturn, 1) := by decide +kernel
set_option maxRecDepth 20000 in
theorem ggX3_save_X3_requireSlot : GoodIn wsX3_save wsX3_requireSlot := goodIn_ca (goodIn_r _ [8, 9, 10] (by decide +kernel) (by decide +kernel)) (goodIn_sub (fun _ h => List.mem_cons_of_mem _ (List.mem_append_right _ h)) (by decide +kernel))
set_option maxRecDepth 20000 in
theorem gX3_save_X3_requireSlot : GoodIn wsX3_save (va_wsS RX3 251 yX3_requireSlot wsX3_requireSlot) := goodIn_app (goodIn_of _ (by decide +kernel)) ggX3_save_X3_requireSlot
set_option maxRecDepth 20000 in
theorem ggX3_save_X1_copyFrom : GoodIn wsX3_save wsX1_copyFrom := goodIn_r _ [15, 16, 17, 18, 19, 20, 21, 22, 23, 24, 25, 26, 27, 28, 29, 30, 31, 32, 40, 41, 42, 43, 44, 45, 46, 47, 48, 49, 50, 51, 52] (by decide +kernel) (by decide +kernel)
set_option maxRecDepth 20000 in
theorem gX3_save_X1_copyFrom : GoodIn wsX3_save (wsV RX3 221 RX1 yX1_copyFrom wsX1_copyFrom) := goodIn_app (goodIn_of _ (by decide +kernel)) ggX3_save_X1_copyFrom
theorem dX3_save_0 : decode cX3_save 0 = .ok (.iload_n 1, 1) := by decide +kernel
theorem dX3_save_1 : decode cX3_save 1 = .ok (.invokestatic 251, 3) := by decide +kernel
theorem dX3_save_4 : decode cX3_save 4 = .ok (.aload_n 0, 1) := by decide +kernel
theorem dX3_save_5 : decode cX3_save 5 = .ok (.getfield 30, 3) := by decide +kernel
theorem dX3_save_8 : decode cX3_save 8 = .ok (.iload_n 1, 1) := by decide +kernel
theorem dX3_save_9 : decode cX3_save 9 = .ok (.aaload, 1) := by decide +kernel
theorem dX3_save_10 : decode cX3_save 10 = .ok (.aload_n 0, 1) := by decide +kernel
theorem dX3_save_11 : decode cX3_save 11 = .ok (.getfield 19, 3) := by decide +kernel
theorem dX3_save_14 : decode cX3_save 14 = .ok (.invokevirtual 221, 3) := by decide +kernel
theorem dX3_save_17 : decode cX3_save 17 = .ok (.aload_n 0, 1) := by decide +kernel
theorem dX3_save_18 : decode cX3_save 18 = .ok (.getfield 34, 3) := by decide +kernel
theorem dX3_save_21 : decode cX3_save 21 = .ok (.iload_n 1, 1) := by decide +kernel
theorem dX3_save_22 : decode cX3_save 22 = .ok (.iconst 1, 1) := by decide +kernel
theorem dX3_save_23 : decode cX3_save 23 = .ok (.bastore, 1) := by decide +kernel
theorem dX3_save_24 : decode cX3_save 24 = .ok (.aload_n 0, 1) := by decide +kernel
theorem dX3_save_25 : decode cX3_save 25 = .ok (.getfield 19, 3) := by decide +kernel
theorem dX3_save_28 : decode cX3_save 28 = .ok (.getfield 86, 3) := by decide +kernel
theorem dX3_save_31 : decode cX3_save 31 = .ok (.ireturn, 1) := by decide +kernel
set_option maxRecDepth 20000 in
theorem ggX3_restore_X3_requireSlot : GoodIn wsX3_restore wsX3_requireSlot := goodIn_ca (goodIn_r _ [11, 12, 13] (by decide +kernel) (by decide +kernel)) (goodIn_sub (fun _ h => List.mem_cons_of_mem _ (List.mem_append_right _ h)) (by decide +kernel))
set_option maxRecDepth 20000 in
theorem gX3_restore_X3_requireSlot : GoodIn wsX3_restore (va_wsS RX3 251 yX3_requireSlot wsX3_requireSlot) := goodIn_app (goodIn_of _ (by decide +kernel)) ggX3_restore_X3_requireSlot
set_option maxRecDepth 20000 in
theorem ggX3_restore_X1_copyFrom : GoodIn wsX3_restore wsX1_copyFrom := goodIn_r _ [18, 19, 20, 21, 22, 23, 24, 25, 26, 27, 28, 29, 30, 31, 32, 33, 34, 35, 49, 50, 51, 52, 53, 54, 55, 56, 57, 58, 59, 60, 61] (by decide +kernel) (by decide +kernel)
set_option maxRecDepth 20000 in
theorem gX3_restore_X1_copyFrom : GoodIn wsX3_restore (wsV RX3 221 RX1 yX1_copyFrom wsX1_copyFrom) := goodIn_app (goodIn_of _ (by decide +kernel)) ggX3_restore_X1_copyFrom
set_option maxRecDepth 20000 in
theorem ggX3_restore_X0_forget : GoodIn wsX3_restore wsX0_forget := goodIn_r _ [40, 41, 62, 63, 64] (by decide +kernel) (by decide +kernel)
set_option maxRecDepth 20000 in
theorem gX3_restore_X0_forget : GoodIn wsX3_restore (wsV RX3 77 RX0 yX0_forget wsX0_forget) := goodIn_app (goodIn_of _ (by decide +kernel)) ggX3_restore_X0_forget
theorem dX3_restore_0 : decode cX3_restore 0 = .ok (.iload_n 1, 1) := by decide +kernel
theorem dX3_restore_1 : decode cX3_restore 1 = .ok (.invokestatic 251, 3) := by decide +kernel
theorem dX3_restore_4 : decode cX3_restore 4 = .ok (.aload_n 0, 1) := by decide +kernel
theorem dX3_restore_5 : decode cX3_restore 5 = .ok (.getfield 34, 3) := by decide +kernel
theorem dX3_restore_8 : decode cX3_restore 8 = .ok (.iload_n 1, 1) := by decide +kernel
theorem dX3_restore_9 : decode cX3_restore 9 = .ok (.baload, 1) := by decide +kernel
theorem dX3_restore_10 : decode cX3_restore 10 = .ok (.ifCond .ne 13, 3) := by decide +kernel
theorem dX3_restore_13 : decode cX3_restore 13 = .ok (.new 53, 3) := by decide +kernel
theorem dX3_restore_16 : decode cX3_restore 16 = .ok (.dup, 1) := by decide +kernel
theorem dX3_restore_17 : decode cX3_restore 17 = .ok (.ldc 254, 2) := by decide +kernel
theorem dX3_restore_19 : decode cX3_restore 19 = .ok (.invokespecial 57, 3) := by decide +kernel
theorem dX3_restore_22 : decode cX3_restore 22 = .ok (.athrow, 1) := by decide +kernel
theorem dX3_restore_23 : decode cX3_restore 23 = .ok (.aload_n 0, 1) := by decide +kernel
theorem dX3_restore_24 : decode cX3_restore 24 = .ok (.getfield 19, 3) := by decide +kernel
theorem dX3_restore_27 : decode cX3_restore 27 = .ok (.aload_n 0, 1) := by decide +kernel
theorem dX3_restore_28 : decode cX3_restore 28 = .ok (.getfield 30, 3) := by decide +kernel
theorem dX3_restore_31 : decode cX3_restore 31 = .ok (.iload_n 1, 1) := by decide +kernel
theorem dX3_restore_32 : decode cX3_restore 32 = .ok (.aaload, 1) := by decide +kernel
theorem dX3_restore_33 : decode cX3_restore 33 = .ok (.invokevirtual 221, 3) := by decide +kernel
theorem dX3_restore_36 : decode cX3_restore 36 = .ok (.aload_n 0, 1) := by decide +kernel
theorem dX3_restore_37 : decode cX3_restore 37 = .ok (.getfield 26, 3) := by decide +kernel
theorem dX3_restore_40 : decode cX3_restore 40 = .ok (.invokevirtual 77, 3) := by decide +kernel
theorem dX3_restore_43 : decode cX3_restore 43 = .ok (.aload_n 0, 1) := by decide +kernel
theorem dX3_restore_44 : decode cX3_restore 44 = .ok (.getfield 19, 3) := by decide +kernel
theorem dX3_restore_47 : decode cX3_restore 47 = .ok (.getfield 86, 3) := by decide +kernel
theorem dX3_restore_50 : decode cX3_restore 50 = .ok (.ireturn, 1) := by decide +kernel
theorem dX3_requireRange_0 : decode cX3_requireRange 0 = .ok (.iload_n 0, 1) := by decide +kernel
theorem dX3_requireRange_1 : decode cX3_requireRange 1 = .ok (.iload_n 1, 1) := by decide +kernel
theorem dX3_requireRange_2 : decode cX3_requireRange 2 = .ok (.if_icmp .lt 8, 3) := by decide +kernel
theorem dX3_requireRange_5 : decode cX3_requireRange 5 = .ok (.iload_n 0, 1) := by decide +kernel
theorem dX3_requireRange_6 : decode cX3_requireRange 6 = .ok (.iload_n 2, 1) := by decide +kernel
theorem dX3_requireRange_7 : decode cX3_requireRange 7 = .ok (.if_icmp .le 14, 3) := by decide +kernel
theorem dX3_requireRange_10 : decode cX3_requireRange 10 = .ok (.new 205, 3) := by decide +kernel
theorem dX3_requireRange_13 : decode cX3_requireRange 13 = .ok (.dup, 1) := by decide +kernel
theorem dX3_requireRange_14 : decode cX3_requireRange 14 = .ok (.ldc_w 256, 3) := by decide +kernel
theorem dX3_requireRange_17 : decode cX3_requireRange 17 = .ok (.invokespecial 209, 3) := by decide +kernel
theorem dX3_requireRange_20 : decode cX3_requireRange 20 = .ok (.athrow, 1) := by decide +kernel
theorem dX3_requireRange_21 : decode cX3_requireRange 21 = .ok (.return_, 1) := by decide +kernel
set_option maxRecDepth 20000 in
theorem ggX3_requireCounter_X1_hasCounter : GoodIn wsX3_requireCounter wsX1_hasCounter := goodIn_r _ [8, 9, 17, 18, 19, 20, 21, 22, 23, 24, 25, 26, 27, 28, 29] (by decide +kernel) (by decide +kernel)
set_option maxRecDepth 20000 in
theorem gX3_requireCounter_X1_hasCounter : GoodIn wsX3_requireCounter (wsV RX3 258 RX1 yX1_hasCounter wsX1_hasCounter) := goodIn_app (goodIn_of _ (by decide +kernel)) ggX3_requireCounter_X1_hasCounter
theorem dX3_requireCounter_0 : decode cX3_requireCounter 0 = .ok (.aload_n 0, 1) := by decide +kernel
theorem dX3_requireCounter_1 : decode cX3_requireCounter 1 = .ok (.getfield 19, 3) := by decide +kernel
theorem dX3_requireCounter_4 : decode cX3_requireCounter 4 = .ok (.iload_n 1, 1) := by decide +kernel
theorem dX3_requireCounter_5 : decode cX3_requireCounter 5 = .ok (.invokevirtual 258, 3) := by decide +kernel
theorem dX3_requireCounter_8 : decode cX3_requireCounter 8 = .ok (.ifCond .ne 14, 3) := by decide +kernel
theorem dX3_requireCounter_11 : decode cX3_requireCounter 11 = .ok (.new 131, 3) := by decide +kernel
theorem dX3_requireCounter_14 : decode cX3_requireCounter 14 = .ok (.dup, 1) := by decide +kernel
theorem dX3_requireCounter_15 : decode cX3_requireCounter 15 = .ok (.ldc_w 261, 3) := by decide +kernel
theorem dX3_requireCounter_18 : decode cX3_requireCounter 18 = .ok (.invokespecial 135, 3) := by decide +kernel
theorem dX3_requireCounter_21 : decode cX3_requireCounter 21 = .ok (.athrow, 1) := by decide +kernel
theorem dX3_requireCounter_22 : decode cX3_requireCounter 22 = .ok (.return_, 1) := by decide +kernel
theorem dX3_requireTicket_0 : decode cX3_requireTicket 0 = .ok (.iload_n 1, 1) := by decide +kernel
theorem dX3_requireTicket_1 : decode cX3_requireTicket 1 = .ok (.ifCond .lt 14, 3) := by decide +kernel
theorem dX3_requireTicket_4 : decode cX3_requireTicket 4 = .ok (.iload_n 1, 1) := by decide +kernel
theorem dX3_requireTicket_5 : decode cX3_requireTicket 5 = .ok (.aload_n 0, 1) := by decide +kernel
theorem dX3_requireTicket_6 : decode cX3_requireTicket 6 = .ok (.getfield 19, 3) := by decide +kernel
theorem dX3_requireTicket_9 : decode cX3_requireTicket 9 = .ok (.getfield 89, 3) := by decide +kernel
theorem dX3_requireTicket_12 : decode cX3_requireTicket 12 = .ok (.if_icmp .lt 14, 3) := by decide +kernel
theorem dX3_requireTicket_15 : decode cX3_requireTicket 15 = .ok (.new 131, 3) := by decide +kernel
theorem dX3_requireTicket_18 : decode cX3_requireTicket 18 = .ok (.dup, 1) := by decide +kernel
theorem dX3_requireTicket_19 : decode cX3_requireTicket 19 = .ok (.ldc_w 263, 3) := by decide +kernel
theorem dX3_requireTicket_22 : decode cX3_requireTicket 22 = .ok (.invokespecial 135, 3) := by decide +kernel
theorem dX3_requireTicket_25 : decode cX3_requireTicket 25 = .ok (.athrow, 1) := by decide +kernel
theorem dX3_requireTicket_26 : decode cX3_requireTicket 26 = .ok (.return_, 1) := by decide +kernel
theorem dX3_requireSlot_0 : decode cX3_requireSlot 0 = .ok (.iload_n 0, 1) := by decide +kernel
theorem dX3_requireSlot_1 : decode cX3_requireSlot 1 = .ok (.ifCond .lt 8, 3) := by decide +kernel
theorem dX3_requireSlot_4 : decode cX3_requireSlot 4 = .ok (.iload_n 0, 1) := by decide +kernel
theorem dX3_requireSlot_5 : decode cX3_requireSlot 5 = .ok (.iconst 2, 1) := by decide +kernel
theorem dX3_requireSlot_6 : decode cX3_requireSlot 6 = .ok (.if_icmp .lt 14, 3) := by decide +kernel
theorem dX3_requireSlot_9 : decode cX3_requireSlot 9 = .ok (.new 131, 3) := by decide +kernel
theorem dX3_requireSlot_12 : decode cX3_requireSlot 12 = .ok (.dup, 1) := by decide +kernel
theorem dX3_requireSlot_13 : decode cX3_requireSlot 13 = .ok (.ldc_w 265, 3) := by decide +kernel
theorem dX3_requireSlot_16 : decode cX3_requireSlot 16 = .ok (.invokespecial 135, 3) := by decide +kernel
theorem dX3_requireSlot_19 : decode cX3_requireSlot 19 = .ok (.athrow, 1) := by decide +kernel
theorem dX3_requireSlot_20 : decode cX3_requireSlot 20 = .ok (.return_, 1) := by decide +kernel
theorem dX3_cellOf_0 : decode cX3_cellOf 0 = .ok (.iload_n 0, 1) := by decide +kernel
theorem dX3_cellOf_1 : decode cX3_cellOf 1 = .ok (.bipush 9, 2) := by decide +kernel
theorem dX3_cellOf_3 : decode cX3_cellOf 3 = .ok (.imul, 1) := by decide +kernel
theorem dX3_cellOf_4 : decode cX3_cellOf 4 = .ok (.iload_n 1, 1) := by decide +kernel
theorem dX3_cellOf_5 : decode cX3_cellOf 5 = .ok (.iadd, 1) := by decide +kernel
theorem dX3_cellOf_6 : decode cX3_cellOf 6 = .ok (.ireturn, 1) := by decide +kernel
theorem dX3_greatestToTry_0 : decode cX3_greatestToTry 0 = .ok (.iload_n 0, 1) := by decide +kernel
theorem dX3_greatestToTry_1 : decode cX3_greatestToTry 1 = .ok (.iconst 1, 1) := by decide +kernel
theorem dX3_greatestToTry_2 : decode cX3_greatestToTry 2 = .ok (.if_icmp .ne 5, 3) := by decide +kernel
theorem dX3_greatestToTry_5 : decode cX3_greatestToTry 5 = .ok (.iconst 2, 1) := by decide +kernel
theorem dX3_greatestToTry_6 : decode cX3_greatestToTry 6 = .ok (.ireturn, 1) := by decide +kernel
theorem dX3_greatestToTry_7 : decode cX3_greatestToTry 7 = .ok (.iload_n 0, 1) := by decide +kernel
theorem dX3_greatestToTry_8 : decode cX3_greatestToTry 8 = .ok (.iconst 2, 1) := by decide +kernel
theorem dX3_greatestToTry_9 : decode cX3_greatestToTry 9 = .ok (.if_icmp .ne 8, 3) := by decide +kernel
theorem dX3_greatestToTry_12 : decode cX3_greatestToTry 12 = .ok (.bipush 8, 2) := by decide +kernel
theorem dX3_greatestToTry_14 : decode cX3_greatestToTry 14 = .ok (.goto 5, 3) := by decide +kernel
theorem dX3_greatestToTry_17 : decode cX3_greatestToTry 17 = .ok (.bipush 26, 2) := by decide +kernel
theorem dX3_greatestToTry_19 : decode cX3_greatestToTry 19 = .ok (.ireturn, 1) := by decide +kernel
theorem dX3_splitScript_0 : decode cX3_splitScript 0 = .ok (.lload_n 2, 1) := by decide +kernel
theorem dX3_splitScript_1 : decode cX3_splitScript 1 = .ok (.lstore 4, 2) := by decide +kernel
theorem dX3_splitScript_3 : decode cX3_splitScript 3 = .ok (.iload_n 1, 1) := by decide +kernel
theorem dX3_splitScript_4 : decode cX3_splitScript 4 = .ok (.iconst 1, 1) := by decide +kernel
theorem dX3_splitScript_5 : decode cX3_splitScript 5 = .ok (.isub, 1) := by decide +kernel
theorem dX3_splitScript_6 : decode cX3_splitScript 6 = .ok (.istore 6, 2) := by decide +kernel
theorem dX3_splitScript_8 : decode cX3_splitScript 8 = .ok (.iload 6, 2) := by decide +kernel
theorem dX3_splitScript_10 : decode cX3_splitScript 10 = .ok (.ifCond .lt 31, 3) := by decide +kernel
theorem dX3_splitScript_13 : decode cX3_splitScript 13 = .ok (.aload_n 0, 1) := by decide +kernel
theorem dX3_splitScript_14 : decode cX3_splitScript 14 = .ok (.getfield 41, 3) := by decide +kernel
theorem dX3_splitScript_17 : decode cX3_splitScript 17 = .ok (.iload 6, 2) := by decide +kernel
theorem dX3_splitScript_19 : decode cX3_splitScript 19 = .ok (.lload 4, 2) := by decide +kernel
theorem dX3_splitScript_21 : decode cX3_splitScript 21 = .ok (.ldc2_w 267, 3) := by decide +kernel
theorem dX3_splitScript_24 : decode cX3_splitScript 24 = .ok (.lrem, 1) := by decide +kernel
theorem dX3_splitScript_25 : decode cX3_splitScript 25 = .ok (.l2i, 1) := by decide +kernel
theorem dX3_splitScript_26 : decode cX3_splitScript 26 = .ok (.iastore, 1) := by decide +kernel
theorem dX3_splitScript_27 : decode cX3_splitScript 27 = .ok (.lload 4, 2) := by decide +kernel
theorem dX3_splitScript_29 : decode cX3_splitScript 29 = .ok (.ldc2_w 267, 3) := by decide +kernel
theorem dX3_splitScript_32 : decode cX3_splitScript 32 = .ok (.ldiv, 1) := by decide +kernel
theorem dX3_splitScript_33 : decode cX3_splitScript 33 = .ok (.lstore 4, 2) := by decide +kernel
theorem dX3_splitScript_35 : decode cX3_splitScript 35 = .ok (.iinc 6 (-1), 3) := by decide +kernel
theorem dX3_splitScript_38 : decode cX3_splitScript 38 = .ok (.goto (-30), 3) := by decide +kernel
theorem dX3_splitScript_41 : decode cX3_splitScript 41 = .ok (.lload 4, 2) := by decide +kernel
theorem dX3_splitScript_43 : decode cX3_splitScript 43 = .ok (.lconst 0, 1) := by decide +kernel
theorem dX3_splitScript_44 : decode cX3_splitScript 44 = .ok (.lcmp, 1) := by decide +kernel
theorem dX3_splitScript_45 : decode cX3_splitScript 45 = .ok (.ifCond .ne 7, 3) := by decide +kernel
theorem dX3_splitScript_48 : decode cX3_splitScript 48 = .ok (.iconst 1, 1) := by decide +kernel
theorem dX3_splitScript_49 : decode cX3_splitScript 49 = .ok (.goto 4, 3) := by decide +kernel
theorem dX3_splitScript_52 : decode cX3_splitScript 52 = .ok (.iconst 0, 1) := by decide +kernel
theorem dX3_splitScript_53 : decode cX3_splitScript 53 = .ok (.ireturn, 1) := by decide +kernel
