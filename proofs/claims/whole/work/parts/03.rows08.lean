set_option maxRecDepth 20000 in
theorem ggX4_whenShown_X4_isCounter : GoodIn wsX4_whenShown wsX4_isCounter := goodIn_r _ [7, 8, 9, 6, 10] (by decide +kernel) (by decide +kernel)
set_option maxRecDepth 20000 in
theorem gX4_whenShown_X4_isCounter : GoodIn wsX4_whenShown (va_wsS RX4 103 yX4_isCounter wsX4_isCounter) := goodIn_app (goodIn_of _ (by decide +kernel)) ggX4_whenShown_X4_isCounter
set_option maxRecDepth 20000 in
theorem ggX4_whenShown_X4_in : GoodIn wsX4_whenShown wsX4_in := goodIn_r _ [10] (by decide +kernel) (by decide +kernel)
set_option maxRecDepth 20000 in
theorem gX4_whenShown_X4_in : GoodIn wsX4_whenShown (va_wsS RX4 47 yX4_in wsX4_in) := goodIn_app (goodIn_of _ (by decide +kernel)) ggX4_whenShown_X4_in
set_option maxRecDepth 20000 in
theorem ggX4_whenShown_X4_refused : GoodIn wsX4_whenShown wsX4_refused := goodIn_r _ [14, 15, 43, 44, 45, 46, 47, 48, 49, 50, 51, 52, 53] (by decide +kernel) (by decide +kernel)
set_option maxRecDepth 20000 in
theorem gX4_whenShown_X4_refused : GoodIn wsX4_whenShown (wsV RX4 76 RX4 yX4_refused wsX4_refused) := goodIn_app (goodIn_of _ (by decide +kernel)) ggX4_whenShown_X4_refused
set_option maxRecDepth 20000 in
theorem ggX4_whenShown_X4_copyLine : GoodIn wsX4_whenShown wsX4_copyLine := goodIn_r _ [18] (by decide +kernel) (by decide +kernel)
set_option maxRecDepth 20000 in
theorem gX4_whenShown_X4_copyLine : GoodIn wsX4_whenShown (va_wsS RX4 126 yX4_copyLine wsX4_copyLine) := goodIn_app (goodIn_of _ (by decide +kernel)) ggX4_whenShown_X4_copyLine
set_option maxRecDepth 20000 in
theorem ggX4_whenShown_X4_shownOn : GoodIn wsX4_whenShown wsX4_shownOn := goodIn_r _ [21, 22, 23, 6, 24] (by decide +kernel) (by decide +kernel)
set_option maxRecDepth 20000 in
theorem gX4_whenShown_X4_shownOn : GoodIn wsX4_whenShown (va_wsS RX4 107 yX4_shownOn wsX4_shownOn) := goodIn_app (goodIn_of _ (by decide +kernel)) ggX4_whenShown_X4_shownOn
set_option maxRecDepth 20000 in
theorem ggX4_whenShown_X4_allSettled : GoodIn wsX4_whenShown wsX4_allSettled := goodIn_r _ [27, 28, 29, 6, 30, 31, 32, 33, 22, 23, 24] (by decide +kernel) (by decide +kernel)
set_option maxRecDepth 20000 in
theorem gX4_whenShown_X4_allSettled : GoodIn wsX4_whenShown (va_wsS RX4 171 yX4_allSettled wsX4_allSettled) := goodIn_app (goodIn_of _ (by decide +kernel)) ggX4_whenShown_X4_allSettled
set_option maxRecDepth 20000 in
theorem ggX4_whenShown_X4_beat : GoodIn wsX4_whenShown wsX4_beat := goodIn_r _ [37, 38, 39, 22, 23, 6, 24, 40, 41, 42, 43, 44, 45, 46, 47, 48, 49, 50, 51, 52, 53] (by decide +kernel) (by decide +kernel)
set_option maxRecDepth 20000 in
theorem gX4_whenShown_X4_beat : GoodIn wsX4_whenShown (wsV RX4 147 RX4 yX4_beat wsX4_beat) := goodIn_app (goodIn_of _ (by decide +kernel)) ggX4_whenShown_X4_beat
theorem dX4_whenShown_0 : decode cX4_whenShown 0 = .ok (.aload_n 0, 1) := by decide +kernel
theorem dX4_whenShown_1 : decode cX4_whenShown 1 = .ok (.aload_n 0, 1) := by decide +kernel
theorem dX4_whenShown_2 : decode cX4_whenShown 2 = .ok (.getfield 13, 3) := by decide +kernel
theorem dX4_whenShown_5 : decode cX4_whenShown 5 = .ok (.iload_n 1, 1) := by decide +kernel
theorem dX4_whenShown_6 : decode cX4_whenShown 6 = .ok (.invokestatic 103, 3) := by decide +kernel
theorem dX4_whenShown_9 : decode cX4_whenShown 9 = .ok (.ifCond .ne 7, 3) := by decide +kernel
theorem dX4_whenShown_12 : decode cX4_whenShown 12 = .ok (.iconst 1, 1) := by decide +kernel
theorem dX4_whenShown_13 : decode cX4_whenShown 13 = .ok (.goto 20, 3) := by decide +kernel
theorem dX4_whenShown_16 : decode cX4_whenShown 16 = .ok (.iload_n 2, 1) := by decide +kernel
theorem dX4_whenShown_17 : decode cX4_whenShown 17 = .ok (.i2l, 1) := by decide +kernel
theorem dX4_whenShown_18 : decode cX4_whenShown 18 = .ok (.lconst 0, 1) := by decide +kernel
theorem dX4_whenShown_19 : decode cX4_whenShown 19 = .ok (.ldc2_w 132, 3) := by decide +kernel
theorem dX4_whenShown_22 : decode cX4_whenShown 22 = .ok (.invokestatic 47, 3) := by decide +kernel
theorem dX4_whenShown_25 : decode cX4_whenShown 25 = .ok (.ifCond .eq 7, 3) := by decide +kernel
theorem dX4_whenShown_28 : decode cX4_whenShown 28 = .ok (.iconst 0, 1) := by decide +kernel
theorem dX4_whenShown_29 : decode cX4_whenShown 29 = .ok (.goto 4, 3) := by decide +kernel
theorem dX4_whenShown_32 : decode cX4_whenShown 32 = .ok (.iconst 2, 1) := by decide +kernel
theorem dX4_whenShown_33 : decode cX4_whenShown 33 = .ok (.invokevirtual 76, 3) := by decide +kernel
theorem dX4_whenShown_36 : decode cX4_whenShown 36 = .ok (.ifCond .eq 5, 3) := by decide +kernel
theorem dX4_whenShown_39 : decode cX4_whenShown 39 = .ok (.iconst 0, 1) := by decide +kernel
theorem dX4_whenShown_40 : decode cX4_whenShown 40 = .ok (.ireturn, 1) := by decide +kernel
theorem dX4_whenShown_41 : decode cX4_whenShown 41 = .ok (.aload_n 0, 1) := by decide +kernel
theorem dX4_whenShown_42 : decode cX4_whenShown 42 = .ok (.getfield 13, 3) := by decide +kernel
theorem dX4_whenShown_45 : decode cX4_whenShown 45 = .ok (.iconst 0, 1) := by decide +kernel
theorem dX4_whenShown_46 : decode cX4_whenShown 46 = .ok (.aload_n 0, 1) := by decide +kernel
theorem dX4_whenShown_47 : decode cX4_whenShown 47 = .ok (.getfield 16, 3) := by decide +kernel
theorem dX4_whenShown_50 : decode cX4_whenShown 50 = .ok (.iconst 0, 1) := by decide +kernel
theorem dX4_whenShown_51 : decode cX4_whenShown 51 = .ok (.invokestatic 126, 3) := by decide +kernel
theorem dX4_whenShown_54 : decode cX4_whenShown 54 = .ok (.iconst 0, 1) := by decide +kernel
theorem dX4_whenShown_55 : decode cX4_whenShown 55 = .ok (.istore_n 3, 1) := by decide +kernel
theorem dX4_whenShown_56 : decode cX4_whenShown 56 = .ok (.aload_n 0, 1) := by decide +kernel
theorem dX4_whenShown_57 : decode cX4_whenShown 57 = .ok (.getfield 16, 3) := by decide +kernel
theorem dX4_whenShown_60 : decode cX4_whenShown 60 = .ok (.iload_n 1, 1) := by decide +kernel
theorem dX4_whenShown_61 : decode cX4_whenShown 61 = .ok (.invokestatic 107, 3) := by decide +kernel
theorem dX4_whenShown_64 : decode cX4_whenShown 64 = .ok (.iload_n 2, 1) := by decide +kernel
theorem dX4_whenShown_65 : decode cX4_whenShown 65 = .ok (.if_icmp .eq 29, 3) := by decide +kernel
theorem dX4_whenShown_68 : decode cX4_whenShown 68 = .ok (.aload_n 0, 1) := by decide +kernel
theorem dX4_whenShown_69 : decode cX4_whenShown 69 = .ok (.getfield 16, 3) := by decide +kernel
theorem dX4_whenShown_72 : decode cX4_whenShown 72 = .ok (.invokestatic 171, 3) := by decide +kernel
theorem dX4_whenShown_75 : decode cX4_whenShown 75 = .ok (.ifCond .eq 5, 3) := by decide +kernel
theorem dX4_whenShown_78 : decode cX4_whenShown 78 = .ok (.iconst (-1), 1) := by decide +kernel
theorem dX4_whenShown_79 : decode cX4_whenShown 79 = .ok (.ireturn, 1) := by decide +kernel
theorem dX4_whenShown_80 : decode cX4_whenShown 80 = .ok (.aload_n 0, 1) := by decide +kernel
theorem dX4_whenShown_81 : decode cX4_whenShown 81 = .ok (.aload_n 0, 1) := by decide +kernel
theorem dX4_whenShown_82 : decode cX4_whenShown 82 = .ok (.getfield 16, 3) := by decide +kernel
theorem dX4_whenShown_85 : decode cX4_whenShown 85 = .ok (.invokevirtual 147, 3) := by decide +kernel
theorem dX4_whenShown_88 : decode cX4_whenShown 88 = .ok (.iinc 3 1, 3) := by decide +kernel
theorem dX4_whenShown_91 : decode cX4_whenShown 91 = .ok (.goto (-35), 3) := by decide +kernel
theorem dX4_whenShown_94 : decode cX4_whenShown 94 = .ok (.iload_n 3, 1) := by decide +kernel
theorem dX4_whenShown_95 : decode cX4_whenShown 95 = .ok (.ireturn, 1) := by decide +kernel
set_option maxRecDepth 20000 in
theorem ggX4_leastPace_X4_in : GoodIn wsX4_leastPace wsX4_in := goodIn_r _ [7] (by decide +kernel) (by decide +kernel)
set_option maxRecDepth 20000 in
theorem gX4_leastPace_X4_in : GoodIn wsX4_leastPace (va_wsS RX4 47 yX4_in wsX4_in) := goodIn_app (goodIn_of _ (by decide +kernel)) ggX4_leastPace_X4_in
set_option maxRecDepth 20000 in
theorem ggX4_leastPace_X4_refused : GoodIn wsX4_leastPace wsX4_refused := goodIn_r _ [11, 12, 41, 42, 43, 44, 45, 46, 47, 48, 49, 50, 51] (by decide +kernel) (by decide +kernel)
set_option maxRecDepth 20000 in
theorem gX4_leastPace_X4_refused : GoodIn wsX4_leastPace (wsV RX4 76 RX4 yX4_refused wsX4_refused) := goodIn_app (goodIn_of _ (by decide +kernel)) ggX4_leastPace_X4_refused
set_option maxRecDepth 20000 in
theorem ggX4_leastPace_X4_copyLine : GoodIn wsX4_leastPace wsX4_copyLine := goodIn_r _ [15] (by decide +kernel) (by decide +kernel)
set_option maxRecDepth 20000 in
theorem gX4_leastPace_X4_copyLine : GoodIn wsX4_leastPace (va_wsS RX4 126 yX4_copyLine wsX4_copyLine) := goodIn_app (goodIn_of _ (by decide +kernel)) ggX4_leastPace_X4_copyLine
set_option maxRecDepth 20000 in
theorem ggX4_leastPace_X4_beatsOn : GoodIn wsX4_leastPace wsX4_beatsOn := goodIn_r _ [19, 20, 21, 22, 6, 23, 24, 25, 26, 27, 28, 29, 30, 31, 32, 33, 34, 35, 36, 37, 41, 42, 43, 44, 45, 46, 47, 48, 49, 50, 51] (by decide +kernel) (by decide +kernel)
set_option maxRecDepth 20000 in
theorem gX4_leastPace_X4_beatsOn : GoodIn wsX4_leastPace (wsV RX4 152 RX4 yX4_beatsOn wsX4_beatsOn) := goodIn_app (goodIn_of _ (by decide +kernel)) ggX4_leastPace_X4_beatsOn
set_option maxRecDepth 20000 in
theorem ggX4_leastPace_X4_allSettled : GoodIn wsX4_leastPace wsX4_allSettled := goodIn_r _ [40, 32, 33, 6, 34, 35, 36, 37, 26, 27, 28] (by decide +kernel) (by decide +kernel)
set_option maxRecDepth 20000 in
theorem gX4_leastPace_X4_allSettled : GoodIn wsX4_leastPace (va_wsS RX4 171 yX4_allSettled wsX4_allSettled) := goodIn_app (goodIn_of _ (by decide +kernel)) ggX4_leastPace_X4_allSettled
theorem dX4_leastPace_0 : decode cX4_leastPace 0 = .ok (.aload_n 0, 1) := by decide +kernel
theorem dX4_leastPace_1 : decode cX4_leastPace 1 = .ok (.iload_n 1, 1) := by decide +kernel
theorem dX4_leastPace_2 : decode cX4_leastPace 2 = .ok (.i2l, 1) := by decide +kernel
theorem dX4_leastPace_3 : decode cX4_leastPace 3 = .ok (.lconst 0, 1) := by decide +kernel
theorem dX4_leastPace_4 : decode cX4_leastPace 4 = .ok (.ldc2_w 150, 3) := by decide +kernel
theorem dX4_leastPace_7 : decode cX4_leastPace 7 = .ok (.invokestatic 47, 3) := by decide +kernel
theorem dX4_leastPace_10 : decode cX4_leastPace 10 = .ok (.ifCond .eq 7, 3) := by decide +kernel
theorem dX4_leastPace_13 : decode cX4_leastPace 13 = .ok (.iconst 0, 1) := by decide +kernel
theorem dX4_leastPace_14 : decode cX4_leastPace 14 = .ok (.goto 4, 3) := by decide +kernel
theorem dX4_leastPace_17 : decode cX4_leastPace 17 = .ok (.iconst 1, 1) := by decide +kernel
theorem dX4_leastPace_18 : decode cX4_leastPace 18 = .ok (.invokevirtual 76, 3) := by decide +kernel
theorem dX4_leastPace_21 : decode cX4_leastPace 21 = .ok (.ifCond .eq 5, 3) := by decide +kernel
theorem dX4_leastPace_24 : decode cX4_leastPace 24 = .ok (.iconst 0, 1) := by decide +kernel
theorem dX4_leastPace_25 : decode cX4_leastPace 25 = .ok (.ireturn, 1) := by decide +kernel
theorem dX4_leastPace_26 : decode cX4_leastPace 26 = .ok (.iconst 1, 1) := by decide +kernel
theorem dX4_leastPace_27 : decode cX4_leastPace 27 = .ok (.istore_n 2, 1) := by decide +kernel
theorem dX4_leastPace_28 : decode cX4_leastPace 28 = .ok (.iload_n 2, 1) := by decide +kernel
theorem dX4_leastPace_29 : decode cX4_leastPace 29 = .ok (.bipush 9, 2) := by decide +kernel
theorem dX4_leastPace_31 : decode cX4_leastPace 31 = .ok (.if_icmp .gt 51, 3) := by decide +kernel
theorem dX4_leastPace_34 : decode cX4_leastPace 34 = .ok (.aload_n 0, 1) := by decide +kernel
theorem dX4_leastPace_35 : decode cX4_leastPace 35 = .ok (.getfield 13, 3) := by decide +kernel
theorem dX4_leastPace_38 : decode cX4_leastPace 38 = .ok (.iconst 0, 1) := by decide +kernel
theorem dX4_leastPace_39 : decode cX4_leastPace 39 = .ok (.aload_n 0, 1) := by decide +kernel
theorem dX4_leastPace_40 : decode cX4_leastPace 40 = .ok (.getfield 16, 3) := by decide +kernel
theorem dX4_leastPace_43 : decode cX4_leastPace 43 = .ok (.iconst 0, 1) := by decide +kernel
theorem dX4_leastPace_44 : decode cX4_leastPace 44 = .ok (.invokestatic 126, 3) := by decide +kernel
theorem dX4_leastPace_47 : decode cX4_leastPace 47 = .ok (.aload_n 0, 1) := by decide +kernel
theorem dX4_leastPace_48 : decode cX4_leastPace 48 = .ok (.getfield 16, 3) := by decide +kernel
theorem dX4_leastPace_51 : decode cX4_leastPace 51 = .ok (.iconst 1, 1) := by decide +kernel
theorem dX4_leastPace_52 : decode cX4_leastPace 52 = .ok (.iload_n 2, 1) := by decide +kernel
theorem dX4_leastPace_53 : decode cX4_leastPace 53 = .ok (.iastore, 1) := by decide +kernel
theorem dX4_leastPace_54 : decode cX4_leastPace 54 = .ok (.aload_n 0, 1) := by decide +kernel
theorem dX4_leastPace_55 : decode cX4_leastPace 55 = .ok (.aload_n 0, 1) := by decide +kernel
theorem dX4_leastPace_56 : decode cX4_leastPace 56 = .ok (.getfield 16, 3) := by decide +kernel
theorem dX4_leastPace_59 : decode cX4_leastPace 59 = .ok (.iload_n 1, 1) := by decide +kernel
theorem dX4_leastPace_60 : decode cX4_leastPace 60 = .ok (.invokevirtual 152, 3) := by decide +kernel
theorem dX4_leastPace_63 : decode cX4_leastPace 63 = .ok (.pop, 1) := by decide +kernel
theorem dX4_leastPace_64 : decode cX4_leastPace 64 = .ok (.aload_n 0, 1) := by decide +kernel
theorem dX4_leastPace_65 : decode cX4_leastPace 65 = .ok (.getfield 16, 3) := by decide +kernel
theorem dX4_leastPace_68 : decode cX4_leastPace 68 = .ok (.invokestatic 171, 3) := by decide +kernel
theorem dX4_leastPace_71 : decode cX4_leastPace 71 = .ok (.ifCond .eq 5, 3) := by decide +kernel
theorem dX4_leastPace_74 : decode cX4_leastPace 74 = .ok (.iload_n 2, 1) := by decide +kernel
theorem dX4_leastPace_75 : decode cX4_leastPace 75 = .ok (.ireturn, 1) := by decide +kernel
theorem dX4_leastPace_76 : decode cX4_leastPace 76 = .ok (.iinc 2 1, 3) := by decide +kernel
theorem dX4_leastPace_79 : decode cX4_leastPace 79 = .ok (.goto (-51), 3) := by decide +kernel
theorem dX4_leastPace_82 : decode cX4_leastPace 82 = .ok (.iconst (-1), 1) := by decide +kernel
theorem dX4_leastPace_83 : decode cX4_leastPace 83 = .ok (.ireturn, 1) := by decide +kernel
set_option maxRecDepth 20000 in
theorem ggX4_slowest_X4_isCounter : GoodIn wsX4_slowest wsX4_isCounter := goodIn_r _ [6, 7, 8, 5, 9] (by decide +kernel) (by decide +kernel)
set_option maxRecDepth 20000 in
theorem gX4_slowest_X4_isCounter : GoodIn wsX4_slowest (va_wsS RX4 103 yX4_isCounter wsX4_isCounter) := goodIn_app (goodIn_of _ (by decide +kernel)) ggX4_slowest_X4_isCounter
set_option maxRecDepth 20000 in
theorem ggX4_slowest_X4_refused : GoodIn wsX4_slowest wsX4_refused := goodIn_r _ [13, 14, 43, 44, 45, 46, 47, 48, 49, 50, 51, 52, 53] (by decide +kernel) (by decide +kernel)
set_option maxRecDepth 20000 in
theorem gX4_slowest_X4_refused : GoodIn wsX4_slowest (wsV RX4 76 RX4 yX4_refused wsX4_refused) := goodIn_app (goodIn_of _ (by decide +kernel)) ggX4_slowest_X4_refused
set_option maxRecDepth 20000 in
theorem ggX4_slowest_X4_at : GoodIn wsX4_slowest wsX4_at := goodIn_r _ [17] (by decide +kernel) (by decide +kernel)
set_option maxRecDepth 20000 in
theorem gX4_slowest_X4_at : GoodIn wsX4_slowest (va_wsS RX4 39 yX4_at wsX4_at) := goodIn_app (goodIn_of _ (by decide +kernel)) ggX4_slowest_X4_at
set_option maxRecDepth 20000 in
theorem ggX4_slowest_X4_copyLine : GoodIn wsX4_slowest wsX4_copyLine := goodIn_r _ [20] (by decide +kernel) (by decide +kernel)
set_option maxRecDepth 20000 in
theorem gX4_slowest_X4_copyLine : GoodIn wsX4_slowest (va_wsS RX4 126 yX4_copyLine wsX4_copyLine) := goodIn_app (goodIn_of _ (by decide +kernel)) ggX4_slowest_X4_copyLine
set_option maxRecDepth 20000 in
theorem ggX4_slowest_X4_addOn : GoodIn wsX4_slowest wsX4_addOn := goodIn_r _ [23, 15, 16, 5, 17] (by decide +kernel) (by decide +kernel)
set_option maxRecDepth 20000 in
theorem gX4_slowest_X4_addOn : GoodIn wsX4_slowest (va_wsS RX4 140 yX4_addOn wsX4_addOn) := goodIn_app (goodIn_of _ (by decide +kernel)) ggX4_slowest_X4_addOn
set_option maxRecDepth 20000 in
theorem ggX4_slowest_X4_settles : GoodIn wsX4_slowest wsX4_settles := goodIn_r _ [27, 28, 29, 5, 30, 15, 16, 17, 31, 32, 33, 34, 35, 36, 37, 38, 39, 40, 41, 42, 43, 44, 45, 46, 47, 48, 49, 50, 51, 52, 53] (by decide +kernel) (by decide +kernel)
set_option maxRecDepth 20000 in
theorem gX4_slowest_X4_settles : GoodIn wsX4_slowest (wsV RX4 168 RX4 yX4_settles wsX4_settles) := goodIn_app (goodIn_of _ (by decide +kernel)) ggX4_slowest_X4_settles
theorem dX4_slowest_0 : decode cX4_slowest 0 = .ok (.aload_n 0, 1) := by decide +kernel
theorem dX4_slowest_1 : decode cX4_slowest 1 = .ok (.aload_n 0, 1) := by decide +kernel
theorem dX4_slowest_2 : decode cX4_slowest 2 = .ok (.getfield 13, 3) := by decide +kernel
theorem dX4_slowest_5 : decode cX4_slowest 5 = .ok (.iload_n 1, 1) := by decide +kernel
theorem dX4_slowest_6 : decode cX4_slowest 6 = .ok (.invokestatic 103, 3) := by decide +kernel
theorem dX4_slowest_9 : decode cX4_slowest 9 = .ok (.ifCond .eq 7, 3) := by decide +kernel
theorem dX4_slowest_12 : decode cX4_slowest 12 = .ok (.iconst 0, 1) := by decide +kernel
theorem dX4_slowest_13 : decode cX4_slowest 13 = .ok (.goto 4, 3) := by decide +kernel
theorem dX4_slowest_16 : decode cX4_slowest 16 = .ok (.iconst 1, 1) := by decide +kernel
theorem dX4_slowest_17 : decode cX4_slowest 17 = .ok (.invokevirtual 76, 3) := by decide +kernel
theorem dX4_slowest_20 : decode cX4_slowest 20 = .ok (.ifCond .eq 5, 3) := by decide +kernel
theorem dX4_slowest_23 : decode cX4_slowest 23 = .ok (.iconst 0, 1) := by decide +kernel
theorem dX4_slowest_24 : decode cX4_slowest 24 = .ok (.ireturn, 1) := by decide +kernel
theorem dX4_slowest_25 : decode cX4_slowest 25 = .ok (.aload_n 0, 1) := by decide +kernel
theorem dX4_slowest_26 : decode cX4_slowest 26 = .ok (.getfield 13, 3) := by decide +kernel
theorem dX4_slowest_29 : decode cX4_slowest 29 = .ok (.iload_n 1, 1) := by decide +kernel
theorem dX4_slowest_30 : decode cX4_slowest 30 = .ok (.invokestatic 39, 3) := by decide +kernel
theorem dX4_slowest_33 : decode cX4_slowest 33 = .ok (.iconst 0, 1) := by decide +kernel
theorem dX4_slowest_34 : decode cX4_slowest 34 = .ok (.iadd, 1) := by decide +kernel
theorem dX4_slowest_35 : decode cX4_slowest 35 = .ok (.iaload, 1) := by decide +kernel
theorem dX4_slowest_36 : decode cX4_slowest 36 = .ok (.iconst 1, 1) := by decide +kernel
theorem dX4_slowest_37 : decode cX4_slowest 37 = .ok (.if_icmp .ne 7, 3) := by decide +kernel
theorem dX4_slowest_40 : decode cX4_slowest 40 = .ok (.iconst 2, 1) := by decide +kernel
theorem dX4_slowest_41 : decode cX4_slowest 41 = .ok (.goto 25, 3) := by decide +kernel
theorem dX4_slowest_44 : decode cX4_slowest 44 = .ok (.aload_n 0, 1) := by decide +kernel
theorem dX4_slowest_45 : decode cX4_slowest 45 = .ok (.getfield 13, 3) := by decide +kernel
theorem dX4_slowest_48 : decode cX4_slowest 48 = .ok (.iload_n 1, 1) := by decide +kernel
theorem dX4_slowest_49 : decode cX4_slowest 49 = .ok (.invokestatic 39, 3) := by decide +kernel
theorem dX4_slowest_52 : decode cX4_slowest 52 = .ok (.iconst 0, 1) := by decide +kernel
theorem dX4_slowest_53 : decode cX4_slowest 53 = .ok (.iadd, 1) := by decide +kernel
theorem dX4_slowest_54 : decode cX4_slowest 54 = .ok (.iaload, 1) := by decide +kernel
theorem dX4_slowest_55 : decode cX4_slowest 55 = .ok (.iconst 2, 1) := by decide +kernel
theorem dX4_slowest_56 : decode cX4_slowest 56 = .ok (.if_icmp .ne 8, 3) := by decide +kernel
theorem dX4_slowest_59 : decode cX4_slowest 59 = .ok (.bipush 8, 2) := by decide +kernel
theorem dX4_slowest_61 : decode cX4_slowest 61 = .ok (.goto 5, 3) := by decide +kernel
theorem dX4_slowest_64 : decode cX4_slowest 64 = .ok (.bipush 26, 2) := by decide +kernel
theorem dX4_slowest_66 : decode cX4_slowest 66 = .ok (.istore_n 2, 1) := by decide +kernel
theorem dX4_slowest_67 : decode cX4_slowest 67 = .ok (.iconst (-1), 1) := by decide +kernel
theorem dX4_slowest_68 : decode cX4_slowest 68 = .ok (.istore_n 3, 1) := by decide +kernel
theorem dX4_slowest_69 : decode cX4_slowest 69 = .ok (.iconst (-1), 1) := by decide +kernel
theorem dX4_slowest_70 : decode cX4_slowest 70 = .ok (.istore 4, 2) := by decide +kernel
theorem dX4_slowest_72 : decode cX4_slowest 72 = .ok (.iconst 1, 1) := by decide +kernel
theorem dX4_slowest_73 : decode cX4_slowest 73 = .ok (.istore 5, 2) := by decide +kernel
theorem dX4_slowest_75 : decode cX4_slowest 75 = .ok (.iload 5, 2) := by decide +kernel
theorem dX4_slowest_77 : decode cX4_slowest 77 = .ok (.iload_n 2, 1) := by decide +kernel
theorem dX4_slowest_78 : decode cX4_slowest 78 = .ok (.if_icmp .gt 74, 3) := by decide +kernel
theorem dX4_slowest_81 : decode cX4_slowest 81 = .ok (.aload_n 0, 1) := by decide +kernel
theorem dX4_slowest_82 : decode cX4_slowest 82 = .ok (.getfield 13, 3) := by decide +kernel
theorem dX4_slowest_85 : decode cX4_slowest 85 = .ok (.iconst 0, 1) := by decide +kernel
theorem dX4_slowest_86 : decode cX4_slowest 86 = .ok (.aload_n 0, 1) := by decide +kernel
theorem dX4_slowest_87 : decode cX4_slowest 87 = .ok (.getfield 16, 3) := by decide +kernel
theorem dX4_slowest_90 : decode cX4_slowest 90 = .ok (.iconst 0, 1) := by decide +kernel
theorem dX4_slowest_91 : decode cX4_slowest 91 = .ok (.invokestatic 126, 3) := by decide +kernel
theorem dX4_slowest_94 : decode cX4_slowest 94 = .ok (.aload_n 0, 1) := by decide +kernel
theorem dX4_slowest_95 : decode cX4_slowest 95 = .ok (.getfield 16, 3) := by decide +kernel
theorem dX4_slowest_98 : decode cX4_slowest 98 = .ok (.iload_n 1, 1) := by decide +kernel
theorem dX4_slowest_99 : decode cX4_slowest 99 = .ok (.iload 5, 2) := by decide +kernel
theorem dX4_slowest_101 : decode cX4_slowest 101 = .ok (.invokestatic 140, 3) := by decide +kernel
theorem dX4_slowest_104 : decode cX4_slowest 104 = .ok (.pop, 1) := by decide +kernel
theorem dX4_slowest_105 : decode cX4_slowest 105 = .ok (.aload_n 0, 1) := by decide +kernel
theorem dX4_slowest_106 : decode cX4_slowest 106 = .ok (.aload_n 0, 1) := by decide +kernel
theorem dX4_slowest_107 : decode cX4_slowest 107 = .ok (.getfield 16, 3) := by decide +kernel
theorem dX4_slowest_110 : decode cX4_slowest 110 = .ok (.iload_n 1, 1) := by decide +kernel
theorem dX4_slowest_111 : decode cX4_slowest 111 = .ok (.invokevirtual 168, 3) := by decide +kernel
theorem dX4_slowest_114 : decode cX4_slowest 114 = .ok (.istore 6, 2) := by decide +kernel
theorem dX4_slowest_116 : decode cX4_slowest 116 = .ok (.iload 6, 2) := by decide +kernel
theorem dX4_slowest_118 : decode cX4_slowest 118 = .ok (.iload 4, 2) := by decide +kernel
theorem dX4_slowest_120 : decode cX4_slowest 120 = .ok (.if_icmp .le 8, 3) := by decide +kernel
theorem dX4_slowest_123 : decode cX4_slowest 123 = .ok (.iload 5, 2) := by decide +kernel
theorem dX4_slowest_125 : decode cX4_slowest 125 = .ok (.goto 4, 3) := by decide +kernel
theorem dX4_slowest_128 : decode cX4_slowest 128 = .ok (.iload_n 3, 1) := by decide +kernel
theorem dX4_slowest_129 : decode cX4_slowest 129 = .ok (.istore_n 3, 1) := by decide +kernel
theorem dX4_slowest_130 : decode cX4_slowest 130 = .ok (.iload 6, 2) := by decide +kernel
theorem dX4_slowest_132 : decode cX4_slowest 132 = .ok (.iload 4, 2) := by decide +kernel
theorem dX4_slowest_134 : decode cX4_slowest 134 = .ok (.if_icmp .le 8, 3) := by decide +kernel
theorem dX4_slowest_137 : decode cX4_slowest 137 = .ok (.iload 6, 2) := by decide +kernel
theorem dX4_slowest_139 : decode cX4_slowest 139 = .ok (.goto 5, 3) := by decide +kernel
theorem dX4_slowest_142 : decode cX4_slowest 142 = .ok (.iload 4, 2) := by decide +kernel
theorem dX4_slowest_144 : decode cX4_slowest 144 = .ok (.istore 4, 2) := by decide +kernel
theorem dX4_slowest_146 : decode cX4_slowest 146 = .ok (.iinc 5 1, 3) := by decide +kernel
theorem dX4_slowest_149 : decode cX4_slowest 149 = .ok (.goto (-74), 3) := by decide +kernel
theorem dX4_slowest_152 : decode cX4_slowest 152 = .ok (.iload_n 3, 1) := by decide +kernel
theorem dX4_slowest_153 : decode cX4_slowest 153 = .ok (.ireturn, 1) := by decide +kernel
set_option maxRecDepth 20000 in
theorem ggX4_doubles_X4_isCounter : GoodIn wsX4_doubles wsX4_isCounter := goodIn_r _ [7, 8, 9, 6, 10] (by decide +kernel) (by decide +kernel)
set_option maxRecDepth 20000 in
theorem gX4_doubles_X4_isCounter : GoodIn wsX4_doubles (va_wsS RX4 103 yX4_isCounter wsX4_isCounter) := goodIn_app (goodIn_of _ (by decide +kernel)) ggX4_doubles_X4_isCounter
set_option maxRecDepth 20000 in
theorem ggX4_doubles_X4_in : GoodIn wsX4_doubles wsX4_in := goodIn_r _ [10] (by decide +kernel) (by decide +kernel)
set_option maxRecDepth 20000 in
theorem gX4_doubles_X4_in : GoodIn wsX4_doubles (va_wsS RX4 47 yX4_in wsX4_in) := goodIn_app (goodIn_of _ (by decide +kernel)) ggX4_doubles_X4_in
set_option maxRecDepth 20000 in
theorem ggX4_doubles_X4_refused : GoodIn wsX4_doubles wsX4_refused := goodIn_r _ [14, 15, 50, 51, 52, 53, 54, 55, 56, 57, 58, 59, 60] (by decide +kernel) (by decide +kernel)
set_option maxRecDepth 20000 in
theorem gX4_doubles_X4_refused : GoodIn wsX4_doubles (wsV RX4 76 RX4 yX4_refused wsX4_refused) := goodIn_app (goodIn_of _ (by decide +kernel)) ggX4_doubles_X4_refused
set_option maxRecDepth 20000 in
theorem ggX4_doubles_X4_copyLine : GoodIn wsX4_doubles wsX4_copyLine := goodIn_r _ [18] (by decide +kernel) (by decide +kernel)
set_option maxRecDepth 20000 in
theorem gX4_doubles_X4_copyLine : GoodIn wsX4_doubles (va_wsS RX4 126 yX4_copyLine wsX4_copyLine) := goodIn_app (goodIn_of _ (by decide +kernel)) ggX4_doubles_X4_copyLine
set_option maxRecDepth 20000 in
theorem ggX4_doubles_X4_drawOn : GoodIn wsX4_doubles wsX4_drawOn := goodIn_r _ [21, 22, 23, 6, 24, 25, 26, 27, 28, 29, 30, 31] (by decide +kernel) (by decide +kernel)
set_option maxRecDepth 20000 in
theorem gX4_doubles_X4_drawOn : GoodIn wsX4_doubles (va_wsS RX4 144 yX4_drawOn wsX4_drawOn) := goodIn_app (goodIn_of _ (by decide +kernel)) ggX4_doubles_X4_drawOn
set_option maxRecDepth 20000 in
theorem ggX4_doubles_X4_beat : GoodIn wsX4_doubles wsX4_beat := goodIn_r _ [35, 36, 37, 25, 26, 6, 27, 38, 39, 40, 50, 51, 52, 53, 54, 55, 56, 57, 58, 59, 60] (by decide +kernel) (by decide +kernel)
set_option maxRecDepth 20000 in
theorem gX4_doubles_X4_beat : GoodIn wsX4_doubles (wsV RX4 147 RX4 yX4_beat wsX4_beat) := goodIn_app (goodIn_of _ (by decide +kernel)) ggX4_doubles_X4_beat
set_option maxRecDepth 20000 in
theorem ggX4_doubles_X4_doublesOn : GoodIn wsX4_doubles wsX4_doublesOn := goodIn_r _ [43, 44, 45, 6, 46, 47, 48, 49] (by decide +kernel) (by decide +kernel)
set_option maxRecDepth 20000 in
theorem gX4_doubles_X4_doublesOn : GoodIn wsX4_doubles (va_wsS RX4 100 yX4_doublesOn wsX4_doublesOn) := goodIn_app (goodIn_of _ (by decide +kernel)) ggX4_doubles_X4_doublesOn
theorem dX4_doubles_0 : decode cX4_doubles 0 = .ok (.aload_n 0, 1) := by decide +kernel
theorem dX4_doubles_1 : decode cX4_doubles 1 = .ok (.aload_n 0, 1) := by decide +kernel
theorem dX4_doubles_2 : decode cX4_doubles 2 = .ok (.getfield 13, 3) := by decide +kernel
theorem dX4_doubles_5 : decode cX4_doubles 5 = .ok (.iload_n 1, 1) := by decide +kernel
theorem dX4_doubles_6 : decode cX4_doubles 6 = .ok (.invokestatic 103, 3) := by decide +kernel
theorem dX4_doubles_9 : decode cX4_doubles 9 = .ok (.ifCond .ne 7, 3) := by decide +kernel
theorem dX4_doubles_12 : decode cX4_doubles 12 = .ok (.iconst 1, 1) := by decide +kernel
theorem dX4_doubles_13 : decode cX4_doubles 13 = .ok (.goto 20, 3) := by decide +kernel
theorem dX4_doubles_16 : decode cX4_doubles 16 = .ok (.iload_n 2, 1) := by decide +kernel
theorem dX4_doubles_17 : decode cX4_doubles 17 = .ok (.i2l, 1) := by decide +kernel
theorem dX4_doubles_18 : decode cX4_doubles 18 = .ok (.lconst 1, 1) := by decide +kernel
theorem dX4_doubles_19 : decode cX4_doubles 19 = .ok (.ldc2_w 155, 3) := by decide +kernel
theorem dX4_doubles_22 : decode cX4_doubles 22 = .ok (.invokestatic 47, 3) := by decide +kernel
theorem dX4_doubles_25 : decode cX4_doubles 25 = .ok (.ifCond .eq 7, 3) := by decide +kernel
theorem dX4_doubles_28 : decode cX4_doubles 28 = .ok (.iconst 0, 1) := by decide +kernel
theorem dX4_doubles_29 : decode cX4_doubles 29 = .ok (.goto 4, 3) := by decide +kernel
theorem dX4_doubles_32 : decode cX4_doubles 32 = .ok (.iconst 2, 1) := by decide +kernel
theorem dX4_doubles_33 : decode cX4_doubles 33 = .ok (.invokevirtual 76, 3) := by decide +kernel
theorem dX4_doubles_36 : decode cX4_doubles 36 = .ok (.ifCond .eq 5, 3) := by decide +kernel
theorem dX4_doubles_39 : decode cX4_doubles 39 = .ok (.iconst 0, 1) := by decide +kernel
theorem dX4_doubles_40 : decode cX4_doubles 40 = .ok (.ireturn, 1) := by decide +kernel
theorem dX4_doubles_41 : decode cX4_doubles 41 = .ok (.aload_n 0, 1) := by decide +kernel
theorem dX4_doubles_42 : decode cX4_doubles 42 = .ok (.getfield 13, 3) := by decide +kernel
theorem dX4_doubles_45 : decode cX4_doubles 45 = .ok (.iconst 0, 1) := by decide +kernel
theorem dX4_doubles_46 : decode cX4_doubles 46 = .ok (.aload_n 0, 1) := by decide +kernel
theorem dX4_doubles_47 : decode cX4_doubles 47 = .ok (.getfield 16, 3) := by decide +kernel
theorem dX4_doubles_50 : decode cX4_doubles 50 = .ok (.iconst 0, 1) := by decide +kernel
theorem dX4_doubles_51 : decode cX4_doubles 51 = .ok (.invokestatic 126, 3) := by decide +kernel
theorem dX4_doubles_54 : decode cX4_doubles 54 = .ok (.iconst 0, 1) := by decide +kernel
theorem dX4_doubles_55 : decode cX4_doubles 55 = .ok (.istore_n 3, 1) := by decide +kernel
theorem dX4_doubles_56 : decode cX4_doubles 56 = .ok (.iload_n 3, 1) := by decide +kernel
theorem dX4_doubles_57 : decode cX4_doubles 57 = .ok (.iload_n 2, 1) := by decide +kernel
theorem dX4_doubles_58 : decode cX4_doubles 58 = .ok (.if_icmp .ge 26, 3) := by decide +kernel
theorem dX4_doubles_61 : decode cX4_doubles 61 = .ok (.aload_n 0, 1) := by decide +kernel
theorem dX4_doubles_62 : decode cX4_doubles 62 = .ok (.getfield 16, 3) := by decide +kernel
theorem dX4_doubles_65 : decode cX4_doubles 65 = .ok (.iload_n 1, 1) := by decide +kernel
theorem dX4_doubles_66 : decode cX4_doubles 66 = .ok (.invokestatic 144, 3) := by decide +kernel
theorem dX4_doubles_69 : decode cX4_doubles 69 = .ok (.pop, 1) := by decide +kernel
theorem dX4_doubles_70 : decode cX4_doubles 70 = .ok (.aload_n 0, 1) := by decide +kernel
theorem dX4_doubles_71 : decode cX4_doubles 71 = .ok (.aload_n 0, 1) := by decide +kernel
theorem dX4_doubles_72 : decode cX4_doubles 72 = .ok (.getfield 16, 3) := by decide +kernel
theorem dX4_doubles_75 : decode cX4_doubles 75 = .ok (.invokevirtual 147, 3) := by decide +kernel
theorem dX4_doubles_78 : decode cX4_doubles 78 = .ok (.iinc 3 1, 3) := by decide +kernel
theorem dX4_doubles_81 : decode cX4_doubles 81 = .ok (.goto (-25), 3) := by decide +kernel
theorem dX4_doubles_84 : decode cX4_doubles 84 = .ok (.aload_n 0, 1) := by decide +kernel
theorem dX4_doubles_85 : decode cX4_doubles 85 = .ok (.getfield 16, 3) := by decide +kernel
theorem dX4_doubles_88 : decode cX4_doubles 88 = .ok (.invokestatic 100, 3) := by decide +kernel
theorem dX4_doubles_91 : decode cX4_doubles 91 = .ok (.ireturn, 1) := by decide +kernel
set_option maxRecDepth 20000 in
theorem ggX4_command_X4_isCounter : GoodIn wsX4_command wsX4_isCounter := goodIn_r _ [7, 8, 9, 6, 10] (by decide +kernel) (by decide +kernel)
set_option maxRecDepth 20000 in
theorem gX4_command_X4_isCounter : GoodIn wsX4_command (va_wsS RX4 103 yX4_isCounter wsX4_isCounter) := goodIn_app (goodIn_of _ (by decide +kernel)) ggX4_command_X4_isCounter
set_option maxRecDepth 20000 in
theorem ggX4_command_X4_fits : GoodIn wsX4_command wsX4_fits := goodIn_r _ [13, 14, 15, 6, 16] (by decide +kernel) (by decide +kernel)
set_option maxRecDepth 20000 in
theorem gX4_command_X4_fits : GoodIn wsX4_command (va_wsS RX4 134 yX4_fits wsX4_fits) := goodIn_app (goodIn_of _ (by decide +kernel)) ggX4_command_X4_fits
set_option maxRecDepth 20000 in
theorem ggX4_command_X4_addOn : GoodIn wsX4_command wsX4_addOn := goodIn_r _ [19, 14, 15, 6, 16] (by decide +kernel) (by decide +kernel)
set_option maxRecDepth 20000 in
theorem gX4_command_X4_addOn : GoodIn wsX4_command (va_wsS RX4 140 yX4_addOn wsX4_addOn) := goodIn_app (goodIn_of _ (by decide +kernel)) ggX4_command_X4_addOn
set_option maxRecDepth 20000 in
theorem ggX4_command_X4_drawOn : GoodIn wsX4_command wsX4_drawOn := goodIn_r _ [22, 23, 24, 6, 25, 14, 15, 16, 26, 27, 28, 29] (by decide +kernel) (by decide +kernel)
set_option maxRecDepth 20000 in
theorem gX4_command_X4_drawOn : GoodIn wsX4_command (va_wsS RX4 144 yX4_drawOn wsX4_drawOn) := goodIn_app (goodIn_of _ (by decide +kernel)) ggX4_command_X4_drawOn
set_option maxRecDepth 20000 in
theorem ggX4_command_X4_in : GoodIn wsX4_command wsX4_in := goodIn_r _ [10] (by decide +kernel) (by decide +kernel)
set_option maxRecDepth 20000 in
theorem gX4_command_X4_in : GoodIn wsX4_command (va_wsS RX4 47 yX4_in wsX4_in) := goodIn_app (goodIn_of _ (by decide +kernel)) ggX4_command_X4_in
set_option maxRecDepth 20000 in
theorem ggX4_command_X4_beatsOn : GoodIn wsX4_command wsX4_beatsOn := goodIn_r _ [33, 34, 35, 36, 6, 37, 38, 39, 14, 15, 16, 40, 41, 42, 43, 44, 45, 46, 47, 48, 52, 53, 54, 55, 56, 57, 58, 59, 60, 61, 62] (by decide +kernel) (by decide +kernel)
set_option maxRecDepth 20000 in
theorem gX4_command_X4_beatsOn : GoodIn wsX4_command (wsV RX4 152 RX4 yX4_beatsOn wsX4_beatsOn) := goodIn_app (goodIn_of _ (by decide +kernel)) ggX4_command_X4_beatsOn
set_option maxRecDepth 20000 in
theorem ggX4_command_X4_linkOn : GoodIn wsX4_command wsX4_linkOn := goodIn_r _ [51, 14, 15, 6, 16] (by decide +kernel) (by decide +kernel)
set_option maxRecDepth 20000 in
theorem gX4_command_X4_linkOn : GoodIn wsX4_command (va_wsS RX4 157 yX4_linkOn wsX4_linkOn) := goodIn_app (goodIn_of _ (by decide +kernel)) ggX4_command_X4_linkOn
set_option maxRecDepth 20000 in
theorem ggX4_command_X4_shownOn : GoodIn wsX4_command wsX4_shownOn := goodIn_r _ [25, 14, 15, 6, 16] (by decide +kernel) (by decide +kernel)
set_option maxRecDepth 20000 in
theorem gX4_command_X4_shownOn : GoodIn wsX4_command (va_wsS RX4 107 yX4_shownOn wsX4_shownOn) := goodIn_app (goodIn_of _ (by decide +kernel)) ggX4_command_X4_shownOn
set_option maxRecDepth 20000 in
theorem ggX4_command_X4_waitsOn : GoodIn wsX4_command wsX4_waitsOn := goodIn_r _ [48, 14, 15, 6, 16] (by decide +kernel) (by decide +kernel)
set_option maxRecDepth 20000 in
theorem gX4_command_X4_waitsOn : GoodIn wsX4_command (va_wsS RX4 53 yX4_waitsOn wsX4_waitsOn) := goodIn_app (goodIn_of _ (by decide +kernel)) ggX4_command_X4_waitsOn
set_option maxRecDepth 20000 in
theorem ggX4_command_X4_worthOn : GoodIn wsX4_command wsX4_worthOn := goodIn_r _ [28, 29, 14, 15, 6, 16] (by decide +kernel) (by decide +kernel)
set_option maxRecDepth 20000 in
theorem gX4_command_X4_worthOn : GoodIn wsX4_command (va_wsS RX4 110 yX4_worthOn wsX4_worthOn) := goodIn_app (goodIn_of _ (by decide +kernel)) ggX4_command_X4_worthOn
theorem dX4_command_0 : decode cX4_command 0 = .ok (.aload_n 0, 1) := by decide +kernel
theorem dX4_command_1 : decode cX4_command 1 = .ok (.getfield 16, 3) := by decide +kernel
theorem dX4_command_4 : decode cX4_command 4 = .ok (.iload_n 2, 1) := by decide +kernel
theorem dX4_command_5 : decode cX4_command 5 = .ok (.invokestatic 103, 3) := by decide +kernel
theorem dX4_command_8 : decode cX4_command 8 = .ok (.istore 4, 2) := by decide +kernel
theorem dX4_command_10 : decode cX4_command 10 = .ok (.iload_n 1, 1) := by decide +kernel
theorem dX4_command_11 : decode cX4_command 11 = .ok (.tableswitch 368 1 9 #[49, 49, 94, 131, 165, 192, 242, 265, 310], 49) := by decide +kernel
theorem dX4_command_60 : decode cX4_command 60 = .ok (.iload 4, 2) := by decide +kernel
theorem dX4_command_62 : decode cX4_command 62 = .ok (.ifCond .eq 41, 3) := by decide +kernel
theorem dX4_command_65 : decode cX4_command 65 = .ok (.aload_n 0, 1) := by decide +kernel
theorem dX4_command_66 : decode cX4_command 66 = .ok (.getfield 16, 3) := by decide +kernel
theorem dX4_command_69 : decode cX4_command 69 = .ok (.iload_n 2, 1) := by decide +kernel
theorem dX4_command_70 : decode cX4_command 70 = .ok (.iload_n 3, 1) := by decide +kernel
theorem dX4_command_71 : decode cX4_command 71 = .ok (.invokestatic 134, 3) := by decide +kernel
theorem dX4_command_74 : decode cX4_command 74 = .ok (.ifCond .eq 29, 3) := by decide +kernel
theorem dX4_command_77 : decode cX4_command 77 = .ok (.aload_n 0, 1) := by decide +kernel
theorem dX4_command_78 : decode cX4_command 78 = .ok (.getfield 16, 3) := by decide +kernel
theorem dX4_command_81 : decode cX4_command 81 = .ok (.iload_n 2, 1) := by decide +kernel
theorem dX4_command_82 : decode cX4_command 82 = .ok (.iload_n 1, 1) := by decide +kernel
theorem dX4_command_83 : decode cX4_command 83 = .ok (.iconst 1, 1) := by decide +kernel
theorem dX4_command_84 : decode cX4_command 84 = .ok (.if_icmp .ne 7, 3) := by decide +kernel
theorem dX4_command_87 : decode cX4_command 87 = .ok (.iload_n 3, 1) := by decide +kernel
theorem dX4_command_88 : decode cX4_command 88 = .ok (.goto 5, 3) := by decide +kernel
theorem dX4_command_91 : decode cX4_command 91 = .ok (.iload_n 3, 1) := by decide +kernel
theorem dX4_command_92 : decode cX4_command 92 = .ok (.ineg, 1) := by decide +kernel
theorem dX4_command_93 : decode cX4_command 93 = .ok (.invokestatic 140, 3) := by decide +kernel
theorem dX4_command_96 : decode cX4_command 96 = .ok (.ifCond .lt 7, 3) := by decide +kernel
theorem dX4_command_99 : decode cX4_command 99 = .ok (.iconst 1, 1) := by decide +kernel
theorem dX4_command_100 : decode cX4_command 100 = .ok (.goto 4, 3) := by decide +kernel
theorem dX4_command_103 : decode cX4_command 103 = .ok (.iconst 0, 1) := by decide +kernel
theorem dX4_command_104 : decode cX4_command 104 = .ok (.ireturn, 1) := by decide +kernel
theorem dX4_command_105 : decode cX4_command 105 = .ok (.iload 4, 2) := by decide +kernel
theorem dX4_command_107 : decode cX4_command 107 = .ok (.ifCond .eq 33, 3) := by decide +kernel
theorem dX4_command_110 : decode cX4_command 110 = .ok (.iload_n 3, 1) := by decide +kernel
theorem dX4_command_111 : decode cX4_command 111 = .ok (.ifCond .ne 29, 3) := by decide +kernel
theorem dX4_command_114 : decode cX4_command 114 = .ok (.aload_n 0, 1) := by decide +kernel
theorem dX4_command_115 : decode cX4_command 115 = .ok (.getfield 16, 3) := by decide +kernel
theorem dX4_command_118 : decode cX4_command 118 = .ok (.iconst 3, 1) := by decide +kernel
theorem dX4_command_119 : decode cX4_command 119 = .ok (.iaload, 1) := by decide +kernel
theorem dX4_command_120 : decode cX4_command 120 = .ok (.bipush 40, 2) := by decide +kernel
theorem dX4_command_122 : decode cX4_command 122 = .ok (.if_icmp .ge 18, 3) := by decide +kernel
theorem dX4_command_125 : decode cX4_command 125 = .ok (.aload_n 0, 1) := by decide +kernel
theorem dX4_command_126 : decode cX4_command 126 = .ok (.getfield 16, 3) := by decide +kernel
theorem dX4_command_129 : decode cX4_command 129 = .ok (.iload_n 2, 1) := by decide +kernel
theorem dX4_command_130 : decode cX4_command 130 = .ok (.invokestatic 144, 3) := by decide +kernel
theorem dX4_command_133 : decode cX4_command 133 = .ok (.ifCond .lt 7, 3) := by decide +kernel
theorem dX4_command_136 : decode cX4_command 136 = .ok (.iconst 1, 1) := by decide +kernel
theorem dX4_command_137 : decode cX4_command 137 = .ok (.goto 4, 3) := by decide +kernel
theorem dX4_command_140 : decode cX4_command 140 = .ok (.iconst 0, 1) := by decide +kernel
theorem dX4_command_141 : decode cX4_command 141 = .ok (.ireturn, 1) := by decide +kernel
theorem dX4_command_142 : decode cX4_command 142 = .ok (.iload_n 2, 1) := by decide +kernel
theorem dX4_command_143 : decode cX4_command 143 = .ok (.ifCond .ne 31, 3) := by decide +kernel
theorem dX4_command_146 : decode cX4_command 146 = .ok (.iload_n 3, 1) := by decide +kernel
theorem dX4_command_147 : decode cX4_command 147 = .ok (.i2l, 1) := by decide +kernel
theorem dX4_command_148 : decode cX4_command 148 = .ok (.lconst 1, 1) := by decide +kernel
theorem dX4_command_149 : decode cX4_command 149 = .ok (.ldc2_w 150, 3) := by decide +kernel
theorem dX4_command_152 : decode cX4_command 152 = .ok (.invokestatic 47, 3) := by decide +kernel
theorem dX4_command_155 : decode cX4_command 155 = .ok (.ifCond .eq 19, 3) := by decide +kernel
theorem dX4_command_158 : decode cX4_command 158 = .ok (.aload_n 0, 1) := by decide +kernel
theorem dX4_command_159 : decode cX4_command 159 = .ok (.aload_n 0, 1) := by decide +kernel
theorem dX4_command_160 : decode cX4_command 160 = .ok (.getfield 16, 3) := by decide +kernel
theorem dX4_command_163 : decode cX4_command 163 = .ok (.iload_n 3, 1) := by decide +kernel
theorem dX4_command_164 : decode cX4_command 164 = .ok (.invokevirtual 152, 3) := by decide +kernel
theorem dX4_command_167 : decode cX4_command 167 = .ok (.ifCond .lt 7, 3) := by decide +kernel
theorem dX4_command_170 : decode cX4_command 170 = .ok (.iconst 1, 1) := by decide +kernel
theorem dX4_command_171 : decode cX4_command 171 = .ok (.goto 4, 3) := by decide +kernel
theorem dX4_command_174 : decode cX4_command 174 = .ok (.iconst 0, 1) := by decide +kernel
theorem dX4_command_175 : decode cX4_command 175 = .ok (.ireturn, 1) := by decide +kernel
theorem dX4_command_176 : decode cX4_command 176 = .ok (.iload_n 2, 1) := by decide +kernel
theorem dX4_command_177 : decode cX4_command 177 = .ok (.ifCond .gt 15, 3) := by decide +kernel
theorem dX4_command_180 : decode cX4_command 180 = .ok (.iload_n 3, 1) := by decide +kernel
theorem dX4_command_181 : decode cX4_command 181 = .ok (.i2l, 1) := by decide +kernel
theorem dX4_command_182 : decode cX4_command 182 = .ok (.lconst 1, 1) := by decide +kernel
theorem dX4_command_183 : decode cX4_command 183 = .ok (.ldc2_w 155, 3) := by decide +kernel
theorem dX4_command_186 : decode cX4_command 186 = .ok (.invokestatic 47, 3) := by decide +kernel
theorem dX4_command_189 : decode cX4_command 189 = .ok (.ifCond .ne 5, 3) := by decide +kernel
theorem dX4_command_192 : decode cX4_command 192 = .ok (.iconst 0, 1) := by decide +kernel
theorem dX4_command_193 : decode cX4_command 193 = .ok (.ireturn, 1) := by decide +kernel
theorem dX4_command_194 : decode cX4_command 194 = .ok (.aload_n 0, 1) := by decide +kernel
theorem dX4_command_195 : decode cX4_command 195 = .ok (.getfield 16, 3) := by decide +kernel
theorem dX4_command_198 : decode cX4_command 198 = .ok (.iconst 1, 1) := by decide +kernel
theorem dX4_command_199 : decode cX4_command 199 = .ok (.iload_n 3, 1) := by decide +kernel
theorem dX4_command_200 : decode cX4_command 200 = .ok (.iastore, 1) := by decide +kernel
theorem dX4_command_201 : decode cX4_command 201 = .ok (.iconst 1, 1) := by decide +kernel
theorem dX4_command_202 : decode cX4_command 202 = .ok (.ireturn, 1) := by decide +kernel
theorem dX4_command_203 : decode cX4_command 203 = .ok (.iload_n 2, 1) := by decide +kernel
theorem dX4_command_204 : decode cX4_command 204 = .ok (.i2l, 1) := by decide +kernel
theorem dX4_command_205 : decode cX4_command 205 = .ok (.lconst 0, 1) := by decide +kernel
theorem dX4_command_206 : decode cX4_command 206 = .ok (.aload_n 0, 1) := by decide +kernel
theorem dX4_command_207 : decode cX4_command 207 = .ok (.getfield 16, 3) := by decide +kernel
theorem dX4_command_210 : decode cX4_command 210 = .ok (.iconst 0, 1) := by decide +kernel
theorem dX4_command_211 : decode cX4_command 211 = .ok (.iaload, 1) := by decide +kernel
theorem dX4_command_212 : decode cX4_command 212 = .ok (.iconst 2, 1) := by decide +kernel
theorem dX4_command_213 : decode cX4_command 213 = .ok (.isub, 1) := by decide +kernel
theorem dX4_command_214 : decode cX4_command 214 = .ok (.i2l, 1) := by decide +kernel
theorem dX4_command_215 : decode cX4_command 215 = .ok (.invokestatic 47, 3) := by decide +kernel
theorem dX4_command_218 : decode cX4_command 218 = .ok (.ifCond .eq 33, 3) := by decide +kernel
theorem dX4_command_221 : decode cX4_command 221 = .ok (.iload_n 3, 1) := by decide +kernel
theorem dX4_command_222 : decode cX4_command 222 = .ok (.iconst 2, 1) := by decide +kernel
theorem dX4_command_223 : decode cX4_command 223 = .ok (.if_icmp .ge 28, 3) := by decide +kernel
theorem dX4_command_226 : decode cX4_command 226 = .ok (.aload_n 0, 1) := by decide +kernel
theorem dX4_command_227 : decode cX4_command 227 = .ok (.getfield 16, 3) := by decide +kernel
theorem dX4_command_230 : decode cX4_command 230 = .ok (.iload_n 2, 1) := by decide +kernel
theorem dX4_command_231 : decode cX4_command 231 = .ok (.iload_n 3, 1) := by decide +kernel
theorem dX4_command_232 : decode cX4_command 232 = .ok (.iconst 1, 1) := by decide +kernel
theorem dX4_command_233 : decode cX4_command 233 = .ok (.if_icmp .ne 7, 3) := by decide +kernel
theorem dX4_command_236 : decode cX4_command 236 = .ok (.iconst 1, 1) := by decide +kernel
theorem dX4_command_237 : decode cX4_command 237 = .ok (.goto 4, 3) := by decide +kernel
theorem dX4_command_240 : decode cX4_command 240 = .ok (.iconst 0, 1) := by decide +kernel
theorem dX4_command_241 : decode cX4_command 241 = .ok (.invokestatic 157, 3) := by decide +kernel
theorem dX4_command_244 : decode cX4_command 244 = .ok (.ifCond .lt 7, 3) := by decide +kernel
theorem dX4_command_247 : decode cX4_command 247 = .ok (.iconst 1, 1) := by decide +kernel
theorem dX4_command_248 : decode cX4_command 248 = .ok (.goto 4, 3) := by decide +kernel
theorem dX4_command_251 : decode cX4_command 251 = .ok (.iconst 0, 1) := by decide +kernel
theorem dX4_command_252 : decode cX4_command 252 = .ok (.ireturn, 1) := by decide +kernel
theorem dX4_command_253 : decode cX4_command 253 = .ok (.iload 4, 2) := by decide +kernel
theorem dX4_command_255 : decode cX4_command 255 = .ok (.ifCond .eq 19, 3) := by decide +kernel
theorem dX4_command_258 : decode cX4_command 258 = .ok (.aload_n 0, 1) := by decide +kernel
theorem dX4_command_259 : decode cX4_command 259 = .ok (.getfield 16, 3) := by decide +kernel
theorem dX4_command_262 : decode cX4_command 262 = .ok (.iload_n 2, 1) := by decide +kernel
theorem dX4_command_263 : decode cX4_command 263 = .ok (.invokestatic 107, 3) := by decide +kernel
theorem dX4_command_266 : decode cX4_command 266 = .ok (.iload_n 3, 1) := by decide +kernel
theorem dX4_command_267 : decode cX4_command 267 = .ok (.if_icmp .ne 7, 3) := by decide +kernel
theorem dX4_command_270 : decode cX4_command 270 = .ok (.iconst 1, 1) := by decide +kernel
theorem dX4_command_271 : decode cX4_command 271 = .ok (.goto 4, 3) := by decide +kernel
theorem dX4_command_274 : decode cX4_command 274 = .ok (.iconst 0, 1) := by decide +kernel
theorem dX4_command_275 : decode cX4_command 275 = .ok (.ireturn, 1) := by decide +kernel
theorem dX4_command_276 : decode cX4_command 276 = .ok (.iload 4, 2) := by decide +kernel
theorem dX4_command_278 : decode cX4_command 278 = .ok (.ifCond .eq 41, 3) := by decide +kernel
theorem dX4_command_281 : decode cX4_command 281 = .ok (.iload_n 3, 1) := by decide +kernel
theorem dX4_command_282 : decode cX4_command 282 = .ok (.iconst 2, 1) := by decide +kernel
theorem dX4_command_283 : decode cX4_command 283 = .ok (.if_icmp .ge 36, 3) := by decide +kernel
theorem dX4_command_286 : decode cX4_command 286 = .ok (.aload_n 0, 1) := by decide +kernel
theorem dX4_command_287 : decode cX4_command 287 = .ok (.getfield 16, 3) := by decide +kernel
theorem dX4_command_290 : decode cX4_command 290 = .ok (.iload_n 2, 1) := by decide +kernel
theorem dX4_command_291 : decode cX4_command 291 = .ok (.invokestatic 53, 3) := by decide +kernel
theorem dX4_command_294 : decode cX4_command 294 = .ok (.ifCond .ne 7, 3) := by decide +kernel
theorem dX4_command_297 : decode cX4_command 297 = .ok (.iconst 1, 1) := by decide +kernel
theorem dX4_command_298 : decode cX4_command 298 = .ok (.goto 4, 3) := by decide +kernel
theorem dX4_command_301 : decode cX4_command 301 = .ok (.iconst 0, 1) := by decide +kernel
theorem dX4_command_302 : decode cX4_command 302 = .ok (.iload_n 3, 1) := by decide +kernel
theorem dX4_command_303 : decode cX4_command 303 = .ok (.iconst 1, 1) := by decide +kernel
theorem dX4_command_304 : decode cX4_command 304 = .ok (.if_icmp .ne 7, 3) := by decide +kernel
theorem dX4_command_307 : decode cX4_command 307 = .ok (.iconst 1, 1) := by decide +kernel
theorem dX4_command_308 : decode cX4_command 308 = .ok (.goto 4, 3) := by decide +kernel
theorem dX4_command_311 : decode cX4_command 311 = .ok (.iconst 0, 1) := by decide +kernel
theorem dX4_command_312 : decode cX4_command 312 = .ok (.if_icmp .ne 7, 3) := by decide +kernel
theorem dX4_command_315 : decode cX4_command 315 = .ok (.iconst 1, 1) := by decide +kernel
theorem dX4_command_316 : decode cX4_command 316 = .ok (.goto 4, 3) := by decide +kernel
theorem dX4_command_319 : decode cX4_command 319 = .ok (.iconst 0, 1) := by decide +kernel
theorem dX4_command_320 : decode cX4_command 320 = .ok (.ireturn, 1) := by decide +kernel
theorem dX4_command_321 : decode cX4_command 321 = .ok (.iload 4, 2) := by decide +kernel
theorem dX4_command_323 : decode cX4_command 323 = .ok (.ifCond .eq 54, 3) := by decide +kernel
theorem dX4_command_326 : decode cX4_command 326 = .ok (.iload_n 3, 1) := by decide +kernel
theorem dX4_command_327 : decode cX4_command 327 = .ok (.sipush 1000, 3) := by decide +kernel
theorem dX4_command_330 : decode cX4_command 330 = .ok (.irem, 1) := by decide +kernel
theorem dX4_command_331 : decode cX4_command 331 = .ok (.ifCond .ne 46, 3) := by decide +kernel
theorem dX4_command_334 : decode cX4_command 334 = .ok (.aload_n 0, 1) := by decide +kernel
theorem dX4_command_335 : decode cX4_command 335 = .ok (.getfield 16, 3) := by decide +kernel
theorem dX4_command_338 : decode cX4_command 338 = .ok (.iload_n 3, 1) := by decide +kernel
theorem dX4_command_339 : decode cX4_command 339 = .ok (.sipush 1000, 3) := by decide +kernel
theorem dX4_command_342 : decode cX4_command 342 = .ok (.idiv, 1) := by decide +kernel
theorem dX4_command_343 : decode cX4_command 343 = .ok (.invokestatic 103, 3) := by decide +kernel
theorem dX4_command_346 : decode cX4_command 346 = .ok (.ifCond .eq 31, 3) := by decide +kernel
theorem dX4_command_349 : decode cX4_command 349 = .ok (.aload_n 0, 1) := by decide +kernel
theorem dX4_command_350 : decode cX4_command 350 = .ok (.getfield 16, 3) := by decide +kernel
theorem dX4_command_353 : decode cX4_command 353 = .ok (.iload_n 2, 1) := by decide +kernel
theorem dX4_command_354 : decode cX4_command 354 = .ok (.invokestatic 110, 3) := by decide +kernel
theorem dX4_command_357 : decode cX4_command 357 = .ok (.aload_n 0, 1) := by decide +kernel
theorem dX4_command_358 : decode cX4_command 358 = .ok (.getfield 16, 3) := by decide +kernel
theorem dX4_command_361 : decode cX4_command 361 = .ok (.iload_n 3, 1) := by decide +kernel
theorem dX4_command_362 : decode cX4_command 362 = .ok (.sipush 1000, 3) := by decide +kernel
theorem dX4_command_365 : decode cX4_command 365 = .ok (.idiv, 1) := by decide +kernel
theorem dX4_command_366 : decode cX4_command 366 = .ok (.invokestatic 110, 3) := by decide +kernel
theorem dX4_command_369 : decode cX4_command 369 = .ok (.lcmp, 1) := by decide +kernel
theorem dX4_command_370 : decode cX4_command 370 = .ok (.ifCond .le 7, 3) := by decide +kernel
theorem dX4_command_373 : decode cX4_command 373 = .ok (.iconst 1, 1) := by decide +kernel
theorem dX4_command_374 : decode cX4_command 374 = .ok (.goto 4, 3) := by decide +kernel
theorem dX4_command_377 : decode cX4_command 377 = .ok (.iconst 0, 1) := by decide +kernel
theorem dX4_command_378 : decode cX4_command 378 = .ok (.ireturn, 1) := by decide +kernel
theorem dX4_command_379 : decode cX4_command 379 = .ok (.iconst 0, 1) := by decide +kernel
theorem dX4_command_380 : decode cX4_command 380 = .ok (.ireturn, 1) := by decide +kernel
set_option maxRecDepth 20000 in
theorem ggX4_runScript_X4_in : GoodIn wsX4_runScript wsX4_in := goodIn_r _ [9] (by decide +kernel) (by decide +kernel)
set_option maxRecDepth 20000 in
theorem gX4_runScript_X4_in : GoodIn wsX4_runScript (va_wsS RX4 47 yX4_in wsX4_in) := goodIn_app (goodIn_of _ (by decide +kernel)) ggX4_runScript_X4_in
set_option maxRecDepth 20000 in
theorem ggX4_runScript_X4_refused : GoodIn wsX4_runScript wsX4_refused := goodIn_r _ [13, 14, 67, 68, 69, 70, 71, 72, 73, 74, 75, 76, 77] (by decide +kernel) (by decide +kernel)
set_option maxRecDepth 20000 in
theorem gX4_runScript_X4_refused : GoodIn wsX4_runScript (wsV RX4 76 RX4 yX4_refused wsX4_refused) := goodIn_app (goodIn_of _ (by decide +kernel)) ggX4_runScript_X4_refused
set_option maxRecDepth 20000 in
theorem ggX4_runScript_X4_copyLine : GoodIn wsX4_runScript wsX4_copyLine := goodIn_r _ [17] (by decide +kernel) (by decide +kernel)
set_option maxRecDepth 20000 in
theorem gX4_runScript_X4_copyLine : GoodIn wsX4_runScript (va_wsS RX4 126 yX4_copyLine wsX4_copyLine) := goodIn_app (goodIn_of _ (by decide +kernel)) ggX4_runScript_X4_copyLine
set_option maxRecDepth 20000 in
theorem ggX4_runScript_X4_command : GoodIn wsX4_runScript wsX4_command := goodIn_r _ [21, 4, 22, 23, 24, 25, 8, 26, 6, 7, 9, 27, 28, 29, 30, 31, 32, 33, 34, 35, 36, 37, 38, 39, 40, 41, 42, 43, 44, 2, 45, 46, 47, 48, 49, 50, 51, 52, 53, 54, 55, 56, 57, 58, 59, 60, 61, 62, 63, 64, 65, 66, 67, 68, 69, 70, 71, 72, 73, 74, 75, 76, 77] (by decide +kernel) (by decide +kernel)
set_option maxRecDepth 20000 in
theorem gX4_runScript_X4_command : GoodIn wsX4_runScript (wsV RX4 178 RX4 yX4_command wsX4_command) := goodIn_app (goodIn_of _ (by decide +kernel)) ggX4_runScript_X4_command
theorem dX4_runScript_0 : decode cX4_runScript 0 = .ok (.lconst 1, 1) := by decide +kernel
theorem dX4_runScript_1 : decode cX4_runScript 1 = .ok (.lstore 4, 2) := by decide +kernel
theorem dX4_runScript_3 : decode cX4_runScript 3 = .ok (.iconst 0, 1) := by decide +kernel
theorem dX4_runScript_4 : decode cX4_runScript 4 = .ok (.istore 6, 2) := by decide +kernel
theorem dX4_runScript_6 : decode cX4_runScript 6 = .ok (.iload 6, 2) := by decide +kernel
theorem dX4_runScript_8 : decode cX4_runScript 8 = .ok (.iload_n 1, 1) := by decide +kernel
theorem dX4_runScript_9 : decode cX4_runScript 9 = .ok (.if_icmp .ge 23, 3) := by decide +kernel
theorem dX4_runScript_12 : decode cX4_runScript 12 = .ok (.iload 6, 2) := by decide +kernel
theorem dX4_runScript_14 : decode cX4_runScript 14 = .ok (.iconst 3, 1) := by decide +kernel
theorem dX4_runScript_15 : decode cX4_runScript 15 = .ok (.if_icmp .ge 17, 3) := by decide +kernel
theorem dX4_runScript_18 : decode cX4_runScript 18 = .ok (.lload 4, 2) := by decide +kernel
theorem dX4_runScript_20 : decode cX4_runScript 20 = .ok (.ldc2_w 175, 3) := by decide +kernel
theorem dX4_runScript_23 : decode cX4_runScript 23 = .ok (.lmul, 1) := by decide +kernel
theorem dX4_runScript_24 : decode cX4_runScript 24 = .ok (.lstore 4, 2) := by decide +kernel
theorem dX4_runScript_26 : decode cX4_runScript 26 = .ok (.iinc 6 1, 3) := by decide +kernel
theorem dX4_runScript_29 : decode cX4_runScript 29 = .ok (.goto (-23), 3) := by decide +kernel
theorem dX4_runScript_32 : decode cX4_runScript 32 = .ok (.aload_n 0, 1) := by decide +kernel
theorem dX4_runScript_33 : decode cX4_runScript 33 = .ok (.iload_n 1, 1) := by decide +kernel
theorem dX4_runScript_34 : decode cX4_runScript 34 = .ok (.i2l, 1) := by decide +kernel
theorem dX4_runScript_35 : decode cX4_runScript 35 = .ok (.lconst 1, 1) := by decide +kernel
theorem dX4_runScript_36 : decode cX4_runScript 36 = .ok (.ldc2_w 51, 3) := by decide +kernel
theorem dX4_runScript_39 : decode cX4_runScript 39 = .ok (.invokestatic 47, 3) := by decide +kernel
theorem dX4_runScript_42 : decode cX4_runScript 42 = .ok (.ifCond .eq 19, 3) := by decide +kernel
theorem dX4_runScript_45 : decode cX4_runScript 45 = .ok (.lload_n 2, 1) := by decide +kernel
theorem dX4_runScript_46 : decode cX4_runScript 46 = .ok (.lconst 0, 1) := by decide +kernel
theorem dX4_runScript_47 : decode cX4_runScript 47 = .ok (.lload 4, 2) := by decide +kernel
theorem dX4_runScript_49 : decode cX4_runScript 49 = .ok (.lconst 1, 1) := by decide +kernel
theorem dX4_runScript_50 : decode cX4_runScript 50 = .ok (.lsub, 1) := by decide +kernel
theorem dX4_runScript_51 : decode cX4_runScript 51 = .ok (.invokestatic 47, 3) := by decide +kernel
theorem dX4_runScript_54 : decode cX4_runScript 54 = .ok (.ifCond .eq 7, 3) := by decide +kernel
theorem dX4_runScript_57 : decode cX4_runScript 57 = .ok (.iconst 0, 1) := by decide +kernel
theorem dX4_runScript_58 : decode cX4_runScript 58 = .ok (.goto 4, 3) := by decide +kernel
theorem dX4_runScript_61 : decode cX4_runScript 61 = .ok (.iconst 1, 1) := by decide +kernel
theorem dX4_runScript_62 : decode cX4_runScript 62 = .ok (.invokevirtual 76, 3) := by decide +kernel
theorem dX4_runScript_65 : decode cX4_runScript 65 = .ok (.ifCond .eq 5, 3) := by decide +kernel
theorem dX4_runScript_68 : decode cX4_runScript 68 = .ok (.iconst 0, 1) := by decide +kernel
theorem dX4_runScript_69 : decode cX4_runScript 69 = .ok (.ireturn, 1) := by decide +kernel
theorem dX4_runScript_70 : decode cX4_runScript 70 = .ok (.aload_n 0, 1) := by decide +kernel
theorem dX4_runScript_71 : decode cX4_runScript 71 = .ok (.getfield 13, 3) := by decide +kernel
theorem dX4_runScript_74 : decode cX4_runScript 74 = .ok (.iconst 0, 1) := by decide +kernel
theorem dX4_runScript_75 : decode cX4_runScript 75 = .ok (.aload_n 0, 1) := by decide +kernel
theorem dX4_runScript_76 : decode cX4_runScript 76 = .ok (.getfield 16, 3) := by decide +kernel
theorem dX4_runScript_79 : decode cX4_runScript 79 = .ok (.iconst 0, 1) := by decide +kernel
theorem dX4_runScript_80 : decode cX4_runScript 80 = .ok (.invokestatic 126, 3) := by decide +kernel
theorem dX4_runScript_83 : decode cX4_runScript 83 = .ok (.iconst 0, 1) := by decide +kernel
theorem dX4_runScript_84 : decode cX4_runScript 84 = .ok (.istore 6, 2) := by decide +kernel
theorem dX4_runScript_86 : decode cX4_runScript 86 = .ok (.iload 6, 2) := by decide +kernel
theorem dX4_runScript_88 : decode cX4_runScript 88 = .ok (.iload_n 1, 1) := by decide +kernel
theorem dX4_runScript_89 : decode cX4_runScript 89 = .ok (.if_icmp .ge 58, 3) := by decide +kernel
theorem dX4_runScript_92 : decode cX4_runScript 92 = .ok (.lload 4, 2) := by decide +kernel
theorem dX4_runScript_94 : decode cX4_runScript 94 = .ok (.ldc2_w 175, 3) := by decide +kernel
theorem dX4_runScript_97 : decode cX4_runScript 97 = .ok (.ldiv, 1) := by decide +kernel
theorem dX4_runScript_98 : decode cX4_runScript 98 = .ok (.lstore 4, 2) := by decide +kernel
theorem dX4_runScript_100 : decode cX4_runScript 100 = .ok (.lload_n 2, 1) := by decide +kernel
theorem dX4_runScript_101 : decode cX4_runScript 101 = .ok (.lload 4, 2) := by decide +kernel
theorem dX4_runScript_103 : decode cX4_runScript 103 = .ok (.ldiv, 1) := by decide +kernel
theorem dX4_runScript_104 : decode cX4_runScript 104 = .ok (.ldc2_w 175, 3) := by decide +kernel
theorem dX4_runScript_107 : decode cX4_runScript 107 = .ok (.lrem, 1) := by decide +kernel
theorem dX4_runScript_108 : decode cX4_runScript 108 = .ok (.l2i, 1) := by decide +kernel
theorem dX4_runScript_109 : decode cX4_runScript 109 = .ok (.istore 7, 2) := by decide +kernel
theorem dX4_runScript_111 : decode cX4_runScript 111 = .ok (.aload_n 0, 1) := by decide +kernel
theorem dX4_runScript_112 : decode cX4_runScript 112 = .ok (.iload 7, 2) := by decide +kernel
theorem dX4_runScript_114 : decode cX4_runScript 114 = .ok (.ldc 177, 2) := by decide +kernel
theorem dX4_runScript_116 : decode cX4_runScript 116 = .ok (.idiv, 1) := by decide +kernel
theorem dX4_runScript_117 : decode cX4_runScript 117 = .ok (.iload 7, 2) := by decide +kernel
theorem dX4_runScript_119 : decode cX4_runScript 119 = .ok (.sipush 10000, 3) := by decide +kernel
theorem dX4_runScript_122 : decode cX4_runScript 122 = .ok (.idiv, 1) := by decide +kernel
theorem dX4_runScript_123 : decode cX4_runScript 123 = .ok (.bipush 10, 2) := by decide +kernel
theorem dX4_runScript_125 : decode cX4_runScript 125 = .ok (.irem, 1) := by decide +kernel
theorem dX4_runScript_126 : decode cX4_runScript 126 = .ok (.iload 7, 2) := by decide +kernel
theorem dX4_runScript_128 : decode cX4_runScript 128 = .ok (.sipush 10000, 3) := by decide +kernel
theorem dX4_runScript_131 : decode cX4_runScript 131 = .ok (.irem, 1) := by decide +kernel
theorem dX4_runScript_132 : decode cX4_runScript 132 = .ok (.invokevirtual 178, 3) := by decide +kernel
theorem dX4_runScript_135 : decode cX4_runScript 135 = .ok (.ifCond .ne 6, 3) := by decide +kernel
theorem dX4_runScript_138 : decode cX4_runScript 138 = .ok (.iload 6, 2) := by decide +kernel
theorem dX4_runScript_140 : decode cX4_runScript 140 = .ok (.ireturn, 1) := by decide +kernel
theorem dX4_runScript_141 : decode cX4_runScript 141 = .ok (.iinc 6 1, 3) := by decide +kernel
theorem dX4_runScript_144 : decode cX4_runScript 144 = .ok (.goto (-58), 3) := by decide +kernel
theorem dX4_runScript_147 : decode cX4_runScript 147 = .ok (.iconst (-1), 1) := by decide +kernel
theorem dX4_runScript_148 : decode cX4_runScript 148 = .ok (.ireturn, 1) := by decide +kernel
set_option maxRecDepth 20000 in
theorem ggX4_turn_X4_drawOn : GoodIn wsX4_turn wsX4_drawOn := goodIn_r _ [5, 6, 7, 4, 8, 9, 10, 11, 12, 13, 14, 15] (by decide +kernel) (by decide +kernel)
set_option maxRecDepth 20000 in
theorem gX4_turn_X4_drawOn : GoodIn wsX4_turn (va_wsS RX4 144 yX4_drawOn wsX4_drawOn) := goodIn_app (goodIn_of _ (by decide +kernel)) ggX4_turn_X4_drawOn
set_option maxRecDepth 20000 in
theorem ggX4_turn_X4_fits : GoodIn wsX4_turn wsX4_fits := goodIn_r _ [18, 9, 10, 4, 11] (by decide +kernel) (by decide +kernel)
set_option maxRecDepth 20000 in
theorem gX4_turn_X4_fits : GoodIn wsX4_turn (va_wsS RX4 134 yX4_fits wsX4_fits) := goodIn_app (goodIn_of _ (by decide +kernel)) ggX4_turn_X4_fits
set_option maxRecDepth 20000 in
theorem ggX4_turn_X4_addOn : GoodIn wsX4_turn wsX4_addOn := goodIn_r _ [21, 9, 10, 4, 11] (by decide +kernel) (by decide +kernel)
set_option maxRecDepth 20000 in
theorem gX4_turn_X4_addOn : GoodIn wsX4_turn (va_wsS RX4 140 yX4_addOn wsX4_addOn) := goodIn_app (goodIn_of _ (by decide +kernel)) ggX4_turn_X4_addOn
set_option maxRecDepth 20000 in
theorem ggX4_turn_X4_pourOn : GoodIn wsX4_turn wsX4_pourOn := goodIn_r _ [24, 12, 13, 4, 14, 15, 9, 10, 11] (by decide +kernel) (by decide +kernel)
set_option maxRecDepth 20000 in
theorem gX4_turn_X4_pourOn : GoodIn wsX4_turn (va_wsS RX4 161 yX4_pourOn wsX4_pourOn) := goodIn_app (goodIn_of _ (by decide +kernel)) ggX4_turn_X4_pourOn
set_option maxRecDepth 20000 in
theorem ggX4_turn_X4_beat : GoodIn wsX4_turn wsX4_beat := goodIn_r _ [28, 29, 30, 9, 10, 4, 11, 31, 32, 33, 34, 35, 36, 37, 38, 39, 40, 41, 42, 43, 44] (by decide +kernel) (by decide +kernel)
set_option maxRecDepth 20000 in
theorem gX4_turn_X4_beat : GoodIn wsX4_turn (wsV RX4 147 RX4 yX4_beat wsX4_beat) := goodIn_app (goodIn_of _ (by decide +kernel)) ggX4_turn_X4_beat
theorem dX4_turn_0 : decode cX4_turn 0 = .ok (.iload_n 1, 1) := by decide +kernel
theorem dX4_turn_1 : decode cX4_turn 1 = .ok (.bipush 8, 2) := by decide +kernel
theorem dX4_turn_3 : decode cX4_turn 3 = .ok (.idiv, 1) := by decide +kernel
theorem dX4_turn_4 : decode cX4_turn 4 = .ok (.aload_n 0, 1) := by decide +kernel
theorem dX4_turn_5 : decode cX4_turn 5 = .ok (.getfield 16, 3) := by decide +kernel
theorem dX4_turn_8 : decode cX4_turn 8 = .ok (.iconst 0, 1) := by decide +kernel
theorem dX4_turn_9 : decode cX4_turn 9 = .ok (.iaload, 1) := by decide +kernel
theorem dX4_turn_10 : decode cX4_turn 10 = .ok (.irem, 1) := by decide +kernel
theorem dX4_turn_11 : decode cX4_turn 11 = .ok (.istore_n 2, 1) := by decide +kernel
theorem dX4_turn_12 : decode cX4_turn 12 = .ok (.iload_n 1, 1) := by decide +kernel
theorem dX4_turn_13 : decode cX4_turn 13 = .ok (.bipush 8, 2) := by decide +kernel
theorem dX4_turn_15 : decode cX4_turn 15 = .ok (.irem, 1) := by decide +kernel
theorem dX4_turn_16 : decode cX4_turn 16 = .ok (.istore_n 3, 1) := by decide +kernel
theorem dX4_turn_17 : decode cX4_turn 17 = .ok (.iload_n 2, 1) := by decide +kernel
theorem dX4_turn_18 : decode cX4_turn 18 = .ok (.iconst 1, 1) := by decide +kernel
theorem dX4_turn_19 : decode cX4_turn 19 = .ok (.iadd, 1) := by decide +kernel
theorem dX4_turn_20 : decode cX4_turn 20 = .ok (.aload_n 0, 1) := by decide +kernel
theorem dX4_turn_21 : decode cX4_turn 21 = .ok (.getfield 16, 3) := by decide +kernel
theorem dX4_turn_24 : decode cX4_turn 24 = .ok (.iconst 0, 1) := by decide +kernel
theorem dX4_turn_25 : decode cX4_turn 25 = .ok (.iaload, 1) := by decide +kernel
theorem dX4_turn_26 : decode cX4_turn 26 = .ok (.irem, 1) := by decide +kernel
theorem dX4_turn_27 : decode cX4_turn 27 = .ok (.istore 4, 2) := by decide +kernel
theorem dX4_turn_29 : decode cX4_turn 29 = .ok (.iload_n 1, 1) := by decide +kernel
theorem dX4_turn_30 : decode cX4_turn 30 = .ok (.bipush 64, 2) := by decide +kernel
theorem dX4_turn_32 : decode cX4_turn 32 = .ok (.idiv, 1) := by decide +kernel
theorem dX4_turn_33 : decode cX4_turn 33 = .ok (.bipush 81, 2) := by decide +kernel
theorem dX4_turn_35 : decode cX4_turn 35 = .ok (.irem, 1) := by decide +kernel
theorem dX4_turn_36 : decode cX4_turn 36 = .ok (.istore 5, 2) := by decide +kernel
theorem dX4_turn_38 : decode cX4_turn 38 = .ok (.iload_n 3, 1) := by decide +kernel
theorem dX4_turn_39 : decode cX4_turn 39 = .ok (.iconst 3, 1) := by decide +kernel
theorem dX4_turn_40 : decode cX4_turn 40 = .ok (.if_icmp .ge 26, 3) := by decide +kernel
theorem dX4_turn_43 : decode cX4_turn 43 = .ok (.aload_n 0, 1) := by decide +kernel
theorem dX4_turn_44 : decode cX4_turn 44 = .ok (.getfield 16, 3) := by decide +kernel
theorem dX4_turn_47 : decode cX4_turn 47 = .ok (.iconst 3, 1) := by decide +kernel
theorem dX4_turn_48 : decode cX4_turn 48 = .ok (.iaload, 1) := by decide +kernel
theorem dX4_turn_49 : decode cX4_turn 49 = .ok (.bipush 40, 2) := by decide +kernel
theorem dX4_turn_51 : decode cX4_turn 51 = .ok (.if_icmp .ge 15, 3) := by decide +kernel
theorem dX4_turn_54 : decode cX4_turn 54 = .ok (.aload_n 0, 1) := by decide +kernel
theorem dX4_turn_55 : decode cX4_turn 55 = .ok (.getfield 16, 3) := by decide +kernel
theorem dX4_turn_58 : decode cX4_turn 58 = .ok (.iload_n 2, 1) := by decide +kernel
theorem dX4_turn_59 : decode cX4_turn 59 = .ok (.invokestatic 144, 3) := by decide +kernel
theorem dX4_turn_62 : decode cX4_turn 62 = .ok (.pop, 1) := by decide +kernel
theorem dX4_turn_63 : decode cX4_turn 63 = .ok (.goto 73, 3) := by decide +kernel
theorem dX4_turn_66 : decode cX4_turn 66 = .ok (.iload_n 3, 1) := by decide +kernel
theorem dX4_turn_67 : decode cX4_turn 67 = .ok (.iconst 3, 1) := by decide +kernel
theorem dX4_turn_68 : decode cX4_turn 68 = .ok (.if_icmp .eq 8, 3) := by decide +kernel
theorem dX4_turn_71 : decode cX4_turn 71 = .ok (.iload_n 3, 1) := by decide +kernel
theorem dX4_turn_72 : decode cX4_turn 72 = .ok (.iconst 4, 1) := by decide +kernel
theorem dX4_turn_73 : decode cX4_turn 73 = .ok (.if_icmp .ne 41, 3) := by decide +kernel
theorem dX4_turn_76 : decode cX4_turn 76 = .ok (.aload_n 0, 1) := by decide +kernel
theorem dX4_turn_77 : decode cX4_turn 77 = .ok (.getfield 16, 3) := by decide +kernel
theorem dX4_turn_80 : decode cX4_turn 80 = .ok (.iload_n 2, 1) := by decide +kernel
theorem dX4_turn_81 : decode cX4_turn 81 = .ok (.iload 5, 2) := by decide +kernel
theorem dX4_turn_83 : decode cX4_turn 83 = .ok (.invokestatic 134, 3) := by decide +kernel
theorem dX4_turn_86 : decode cX4_turn 86 = .ok (.ifCond .eq 28, 3) := by decide +kernel
theorem dX4_turn_89 : decode cX4_turn 89 = .ok (.aload_n 0, 1) := by decide +kernel
theorem dX4_turn_90 : decode cX4_turn 90 = .ok (.getfield 16, 3) := by decide +kernel
theorem dX4_turn_93 : decode cX4_turn 93 = .ok (.iload_n 2, 1) := by decide +kernel
theorem dX4_turn_94 : decode cX4_turn 94 = .ok (.iload_n 3, 1) := by decide +kernel
theorem dX4_turn_95 : decode cX4_turn 95 = .ok (.iconst 3, 1) := by decide +kernel
theorem dX4_turn_96 : decode cX4_turn 96 = .ok (.if_icmp .ne 8, 3) := by decide +kernel
theorem dX4_turn_99 : decode cX4_turn 99 = .ok (.iload 5, 2) := by decide +kernel
theorem dX4_turn_101 : decode cX4_turn 101 = .ok (.goto 6, 3) := by decide +kernel
theorem dX4_turn_104 : decode cX4_turn 104 = .ok (.iload 5, 2) := by decide +kernel
theorem dX4_turn_106 : decode cX4_turn 106 = .ok (.ineg, 1) := by decide +kernel
theorem dX4_turn_107 : decode cX4_turn 107 = .ok (.invokestatic 140, 3) := by decide +kernel
theorem dX4_turn_110 : decode cX4_turn 110 = .ok (.pop, 1) := by decide +kernel
theorem dX4_turn_111 : decode cX4_turn 111 = .ok (.goto 25, 3) := by decide +kernel
theorem dX4_turn_114 : decode cX4_turn 114 = .ok (.iload_n 3, 1) := by decide +kernel
theorem dX4_turn_115 : decode cX4_turn 115 = .ok (.iconst 5, 1) := by decide +kernel
theorem dX4_turn_116 : decode cX4_turn 116 = .ok (.if_icmp .ne 20, 3) := by decide +kernel
theorem dX4_turn_119 : decode cX4_turn 119 = .ok (.iload_n 2, 1) := by decide +kernel
theorem dX4_turn_120 : decode cX4_turn 120 = .ok (.iload 4, 2) := by decide +kernel
theorem dX4_turn_122 : decode cX4_turn 122 = .ok (.if_icmp .eq 14, 3) := by decide +kernel
theorem dX4_turn_125 : decode cX4_turn 125 = .ok (.aload_n 0, 1) := by decide +kernel
theorem dX4_turn_126 : decode cX4_turn 126 = .ok (.getfield 16, 3) := by decide +kernel
theorem dX4_turn_129 : decode cX4_turn 129 = .ok (.iload_n 2, 1) := by decide +kernel
theorem dX4_turn_130 : decode cX4_turn 130 = .ok (.iload 4, 2) := by decide +kernel
theorem dX4_turn_132 : decode cX4_turn 132 = .ok (.invokestatic 161, 3) := by decide +kernel
theorem dX4_turn_135 : decode cX4_turn 135 = .ok (.pop2, 1) := by decide +kernel
theorem dX4_turn_136 : decode cX4_turn 136 = .ok (.aload_n 0, 1) := by decide +kernel
theorem dX4_turn_137 : decode cX4_turn 137 = .ok (.aload_n 0, 1) := by decide +kernel
theorem dX4_turn_138 : decode cX4_turn 138 = .ok (.getfield 16, 3) := by decide +kernel
theorem dX4_turn_141 : decode cX4_turn 141 = .ok (.invokevirtual 147, 3) := by decide +kernel
theorem dX4_turn_144 : decode cX4_turn 144 = .ok (.return_, 1) := by decide +kernel
