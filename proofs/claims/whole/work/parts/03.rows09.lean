set_option maxRecDepth 20000 in
theorem ggX4_simulate_X4_in : GoodIn wsX4_simulate wsX4_in := goodIn_r _ [9] (by decide +kernel) (by decide +kernel)
set_option maxRecDepth 20000 in
theorem gX4_simulate_X4_in : GoodIn wsX4_simulate (va_wsS RX4 47 yX4_in wsX4_in) := goodIn_app (goodIn_of _ (by decide +kernel)) ggX4_simulate_X4_in
set_option maxRecDepth 20000 in
theorem ggX4_simulate_X4_refused : GoodIn wsX4_simulate wsX4_refused := goodIn_r _ [13, 14, 68, 69, 70, 71, 72, 73, 74, 75, 76, 77, 78] (by decide +kernel) (by decide +kernel)
set_option maxRecDepth 20000 in
theorem gX4_simulate_X4_refused : GoodIn wsX4_simulate (wsV RX4 76 RX4 yX4_refused wsX4_refused) := goodIn_app (goodIn_of _ (by decide +kernel)) ggX4_simulate_X4_refused
set_option maxRecDepth 20000 in
theorem ggX4_simulate_X4_copyLine : GoodIn wsX4_simulate wsX4_copyLine := goodIn_r _ [17] (by decide +kernel) (by decide +kernel)
set_option maxRecDepth 20000 in
theorem gX4_simulate_X4_copyLine : GoodIn wsX4_simulate (va_wsS RX4 126 yX4_copyLine wsX4_copyLine) := goodIn_app (goodIn_of _ (by decide +kernel)) ggX4_simulate_X4_copyLine
set_option maxRecDepth 20000 in
theorem ggX4_simulate_X4_turn : GoodIn wsX4_simulate wsX4_turn := goodIn_r _ [21, 3, 22, 23, 8, 24, 25, 26, 27, 28, 29, 30, 31, 32, 33, 34, 35, 36, 37, 38, 39, 40, 41, 42, 43, 44, 45, 46, 47, 48, 49, 50, 51, 52, 68, 69, 70, 71, 72, 73, 74, 75, 76, 77, 78] (by decide +kernel) (by decide +kernel)
set_option maxRecDepth 20000 in
theorem gX4_simulate_X4_turn : GoodIn wsX4_simulate (wsV RX4 186 RX4 yX4_turn wsX4_turn) := goodIn_app (goodIn_of _ (by decide +kernel)) ggX4_simulate_X4_turn
set_option maxRecDepth 20000 in
theorem ggX4_simulate_X4_doublesOn : GoodIn wsX4_simulate wsX4_doublesOn := goodIn_r _ [55, 56, 57, 8, 58, 59, 60, 61] (by decide +kernel) (by decide +kernel)
set_option maxRecDepth 20000 in
theorem gX4_simulate_X4_doublesOn : GoodIn wsX4_simulate (va_wsS RX4 100 yX4_doublesOn wsX4_doublesOn) := goodIn_app (goodIn_of _ (by decide +kernel)) ggX4_simulate_X4_doublesOn
set_option maxRecDepth 20000 in
theorem ggX4_simulate_X4_waitsInAll : GoodIn wsX4_simulate wsX4_waitsInAll := goodIn_r _ [64, 65, 66, 8, 67, 28, 29, 30] (by decide +kernel) (by decide +kernel)
set_option maxRecDepth 20000 in
theorem gX4_simulate_X4_waitsInAll : GoodIn wsX4_simulate (va_wsS RX4 97 yX4_waitsInAll wsX4_waitsInAll) := goodIn_app (goodIn_of _ (by decide +kernel)) ggX4_simulate_X4_waitsInAll
theorem dX4_simulate_0 : decode cX4_simulate 0 = .ok (.aload_n 0, 1) := by decide +kernel
theorem dX4_simulate_1 : decode cX4_simulate 1 = .ok (.iload_n 3, 1) := by decide +kernel
theorem dX4_simulate_2 : decode cX4_simulate 2 = .ok (.i2l, 1) := by decide +kernel
theorem dX4_simulate_3 : decode cX4_simulate 3 = .ok (.lconst 1, 1) := by decide +kernel
theorem dX4_simulate_4 : decode cX4_simulate 4 = .ok (.ldc2_w 150, 3) := by decide +kernel
theorem dX4_simulate_7 : decode cX4_simulate 7 = .ok (.invokestatic 47, 3) := by decide +kernel
theorem dX4_simulate_10 : decode cX4_simulate 10 = .ok (.ifCond .eq 7, 3) := by decide +kernel
theorem dX4_simulate_13 : decode cX4_simulate 13 = .ok (.iconst 0, 1) := by decide +kernel
theorem dX4_simulate_14 : decode cX4_simulate 14 = .ok (.goto 4, 3) := by decide +kernel
theorem dX4_simulate_17 : decode cX4_simulate 17 = .ok (.iconst 1, 1) := by decide +kernel
theorem dX4_simulate_18 : decode cX4_simulate 18 = .ok (.invokevirtual 76, 3) := by decide +kernel
theorem dX4_simulate_21 : decode cX4_simulate 21 = .ok (.ifCond .eq 5, 3) := by decide +kernel
theorem dX4_simulate_24 : decode cX4_simulate 24 = .ok (.iconst 0, 1) := by decide +kernel
theorem dX4_simulate_25 : decode cX4_simulate 25 = .ok (.ireturn, 1) := by decide +kernel
theorem dX4_simulate_26 : decode cX4_simulate 26 = .ok (.aload_n 0, 1) := by decide +kernel
theorem dX4_simulate_27 : decode cX4_simulate 27 = .ok (.getfield 13, 3) := by decide +kernel
theorem dX4_simulate_30 : decode cX4_simulate 30 = .ok (.iconst 0, 1) := by decide +kernel
theorem dX4_simulate_31 : decode cX4_simulate 31 = .ok (.aload_n 0, 1) := by decide +kernel
theorem dX4_simulate_32 : decode cX4_simulate 32 = .ok (.getfield 16, 3) := by decide +kernel
theorem dX4_simulate_35 : decode cX4_simulate 35 = .ok (.iconst 0, 1) := by decide +kernel
theorem dX4_simulate_36 : decode cX4_simulate 36 = .ok (.invokestatic 126, 3) := by decide +kernel
theorem dX4_simulate_39 : decode cX4_simulate 39 = .ok (.lload_n 1, 1) := by decide +kernel
theorem dX4_simulate_40 : decode cX4_simulate 40 = .ok (.lstore 4, 2) := by decide +kernel
theorem dX4_simulate_42 : decode cX4_simulate 42 = .ok (.iconst 0, 1) := by decide +kernel
theorem dX4_simulate_43 : decode cX4_simulate 43 = .ok (.istore 6, 2) := by decide +kernel
theorem dX4_simulate_45 : decode cX4_simulate 45 = .ok (.iload 6, 2) := by decide +kernel
theorem dX4_simulate_47 : decode cX4_simulate 47 = .ok (.iload_n 3, 1) := by decide +kernel
theorem dX4_simulate_48 : decode cX4_simulate 48 = .ok (.if_icmp .ge 31, 3) := by decide +kernel
theorem dX4_simulate_51 : decode cX4_simulate 51 = .ok (.lload 4, 2) := by decide +kernel
theorem dX4_simulate_53 : decode cX4_simulate 53 = .ok (.ldc2_w 182, 3) := by decide +kernel
theorem dX4_simulate_56 : decode cX4_simulate 56 = .ok (.lmul, 1) := by decide +kernel
theorem dX4_simulate_57 : decode cX4_simulate 57 = .ok (.ldc2_w 184, 3) := by decide +kernel
theorem dX4_simulate_60 : decode cX4_simulate 60 = .ok (.ladd, 1) := by decide +kernel
theorem dX4_simulate_61 : decode cX4_simulate 61 = .ok (.lstore 4, 2) := by decide +kernel
theorem dX4_simulate_63 : decode cX4_simulate 63 = .ok (.aload_n 0, 1) := by decide +kernel
theorem dX4_simulate_64 : decode cX4_simulate 64 = .ok (.lload 4, 2) := by decide +kernel
theorem dX4_simulate_66 : decode cX4_simulate 66 = .ok (.bipush 33, 2) := by decide +kernel
theorem dX4_simulate_68 : decode cX4_simulate 68 = .ok (.lushr, 1) := by decide +kernel
theorem dX4_simulate_69 : decode cX4_simulate 69 = .ok (.l2i, 1) := by decide +kernel
theorem dX4_simulate_70 : decode cX4_simulate 70 = .ok (.invokevirtual 186, 3) := by decide +kernel
theorem dX4_simulate_73 : decode cX4_simulate 73 = .ok (.iinc 6 1, 3) := by decide +kernel
theorem dX4_simulate_76 : decode cX4_simulate 76 = .ok (.goto (-31), 3) := by decide +kernel
theorem dX4_simulate_79 : decode cX4_simulate 79 = .ok (.sipush 1000, 3) := by decide +kernel
theorem dX4_simulate_82 : decode cX4_simulate 82 = .ok (.aload_n 0, 1) := by decide +kernel
theorem dX4_simulate_83 : decode cX4_simulate 83 = .ok (.getfield 16, 3) := by decide +kernel
theorem dX4_simulate_86 : decode cX4_simulate 86 = .ok (.invokestatic 100, 3) := by decide +kernel
theorem dX4_simulate_89 : decode cX4_simulate 89 = .ok (.aload_n 0, 1) := by decide +kernel
theorem dX4_simulate_90 : decode cX4_simulate 90 = .ok (.getfield 13, 3) := by decide +kernel
theorem dX4_simulate_93 : decode cX4_simulate 93 = .ok (.invokestatic 100, 3) := by decide +kernel
theorem dX4_simulate_96 : decode cX4_simulate 96 = .ok (.isub, 1) := by decide +kernel
theorem dX4_simulate_97 : decode cX4_simulate 97 = .ok (.imul, 1) := by decide +kernel
theorem dX4_simulate_98 : decode cX4_simulate 98 = .ok (.aload_n 0, 1) := by decide +kernel
theorem dX4_simulate_99 : decode cX4_simulate 99 = .ok (.getfield 16, 3) := by decide +kernel
theorem dX4_simulate_102 : decode cX4_simulate 102 = .ok (.invokestatic 97, 3) := by decide +kernel
theorem dX4_simulate_105 : decode cX4_simulate 105 = .ok (.iadd, 1) := by decide +kernel
theorem dX4_simulate_106 : decode cX4_simulate 106 = .ok (.ireturn, 1) := by decide +kernel
set_option maxRecDepth 20000 in
theorem ggX4_save_X4_in : GoodIn wsX4_save wsX4_in := goodIn_r _ [7] (by decide +kernel) (by decide +kernel)
set_option maxRecDepth 20000 in
theorem gX4_save_X4_in : GoodIn wsX4_save (va_wsS RX4 47 yX4_in wsX4_in) := goodIn_app (goodIn_of _ (by decide +kernel)) ggX4_save_X4_in
set_option maxRecDepth 20000 in
theorem ggX4_save_X4_refused : GoodIn wsX4_save wsX4_refused := goodIn_r _ [11, 12, 16, 17, 18, 19, 20, 21, 22, 23, 24, 25, 26] (by decide +kernel) (by decide +kernel)
set_option maxRecDepth 20000 in
theorem gX4_save_X4_refused : GoodIn wsX4_save (wsV RX4 76 RX4 yX4_refused wsX4_refused) := goodIn_app (goodIn_of _ (by decide +kernel)) ggX4_save_X4_refused
set_option maxRecDepth 20000 in
theorem ggX4_save_X4_copyLine : GoodIn wsX4_save wsX4_copyLine := goodIn_r _ [15] (by decide +kernel) (by decide +kernel)
set_option maxRecDepth 20000 in
theorem gX4_save_X4_copyLine : GoodIn wsX4_save (va_wsS RX4 126 yX4_copyLine wsX4_copyLine) := goodIn_app (goodIn_of _ (by decide +kernel)) ggX4_save_X4_copyLine
theorem dX4_save_0 : decode cX4_save 0 = .ok (.aload_n 0, 1) := by decide +kernel
theorem dX4_save_1 : decode cX4_save 1 = .ok (.iload_n 1, 1) := by decide +kernel
theorem dX4_save_2 : decode cX4_save 2 = .ok (.i2l, 1) := by decide +kernel
theorem dX4_save_3 : decode cX4_save 3 = .ok (.lconst 0, 1) := by decide +kernel
theorem dX4_save_4 : decode cX4_save 4 = .ok (.lconst 1, 1) := by decide +kernel
theorem dX4_save_5 : decode cX4_save 5 = .ok (.invokestatic 47, 3) := by decide +kernel
theorem dX4_save_8 : decode cX4_save 8 = .ok (.ifCond .eq 7, 3) := by decide +kernel
theorem dX4_save_11 : decode cX4_save 11 = .ok (.iconst 0, 1) := by decide +kernel
theorem dX4_save_12 : decode cX4_save 12 = .ok (.goto 4, 3) := by decide +kernel
theorem dX4_save_15 : decode cX4_save 15 = .ok (.iconst 1, 1) := by decide +kernel
theorem dX4_save_16 : decode cX4_save 16 = .ok (.invokevirtual 76, 3) := by decide +kernel
theorem dX4_save_19 : decode cX4_save 19 = .ok (.ifCond .eq 5, 3) := by decide +kernel
theorem dX4_save_22 : decode cX4_save 22 = .ok (.iconst 0, 1) := by decide +kernel
theorem dX4_save_23 : decode cX4_save 23 = .ok (.ireturn, 1) := by decide +kernel
theorem dX4_save_24 : decode cX4_save 24 = .ok (.aload_n 0, 1) := by decide +kernel
theorem dX4_save_25 : decode cX4_save 25 = .ok (.getfield 13, 3) := by decide +kernel
theorem dX4_save_28 : decode cX4_save 28 = .ok (.iconst 0, 1) := by decide +kernel
theorem dX4_save_29 : decode cX4_save 29 = .ok (.aload_n 0, 1) := by decide +kernel
theorem dX4_save_30 : decode cX4_save 30 = .ok (.getfield 22, 3) := by decide +kernel
theorem dX4_save_33 : decode cX4_save 33 = .ok (.sipush 336, 3) := by decide +kernel
theorem dX4_save_36 : decode cX4_save 36 = .ok (.iload_n 1, 1) := by decide +kernel
theorem dX4_save_37 : decode cX4_save 37 = .ok (.imul, 1) := by decide +kernel
theorem dX4_save_38 : decode cX4_save 38 = .ok (.invokestatic 126, 3) := by decide +kernel
theorem dX4_save_41 : decode cX4_save 41 = .ok (.aload_n 0, 1) := by decide +kernel
theorem dX4_save_42 : decode cX4_save 42 = .ok (.getfield 25, 3) := by decide +kernel
theorem dX4_save_45 : decode cX4_save 45 = .ok (.iload_n 1, 1) := by decide +kernel
theorem dX4_save_46 : decode cX4_save 46 = .ok (.iconst 1, 1) := by decide +kernel
theorem dX4_save_47 : decode cX4_save 47 = .ok (.bastore, 1) := by decide +kernel
theorem dX4_save_48 : decode cX4_save 48 = .ok (.aload_n 0, 1) := by decide +kernel
theorem dX4_save_49 : decode cX4_save 49 = .ok (.getfield 13, 3) := by decide +kernel
theorem dX4_save_52 : decode cX4_save 52 = .ok (.iconst 2, 1) := by decide +kernel
theorem dX4_save_53 : decode cX4_save 53 = .ok (.iaload, 1) := by decide +kernel
theorem dX4_save_54 : decode cX4_save 54 = .ok (.ireturn, 1) := by decide +kernel
set_option maxRecDepth 20000 in
theorem ggX4_restore_X4_in : GoodIn wsX4_restore wsX4_in := goodIn_r _ [8] (by decide +kernel) (by decide +kernel)
set_option maxRecDepth 20000 in
theorem gX4_restore_X4_in : GoodIn wsX4_restore (va_wsS RX4 47 yX4_in wsX4_in) := goodIn_app (goodIn_of _ (by decide +kernel)) ggX4_restore_X4_in
set_option maxRecDepth 20000 in
theorem ggX4_restore_X4_refused : GoodIn wsX4_restore wsX4_refused := goodIn_r _ [12, 13, 17, 18, 19, 20, 21, 22, 23, 24, 25, 26, 27] (by decide +kernel) (by decide +kernel)
set_option maxRecDepth 20000 in
theorem gX4_restore_X4_refused : GoodIn wsX4_restore (wsV RX4 76 RX4 yX4_refused wsX4_refused) := goodIn_app (goodIn_of _ (by decide +kernel)) ggX4_restore_X4_refused
set_option maxRecDepth 20000 in
theorem ggX4_restore_X4_copyLine : GoodIn wsX4_restore wsX4_copyLine := goodIn_r _ [16] (by decide +kernel) (by decide +kernel)
set_option maxRecDepth 20000 in
theorem gX4_restore_X4_copyLine : GoodIn wsX4_restore (va_wsS RX4 126 yX4_copyLine wsX4_copyLine) := goodIn_app (goodIn_of _ (by decide +kernel)) ggX4_restore_X4_copyLine
theorem dX4_restore_0 : decode cX4_restore 0 = .ok (.aload_n 0, 1) := by decide +kernel
theorem dX4_restore_1 : decode cX4_restore 1 = .ok (.iload_n 1, 1) := by decide +kernel
theorem dX4_restore_2 : decode cX4_restore 2 = .ok (.i2l, 1) := by decide +kernel
theorem dX4_restore_3 : decode cX4_restore 3 = .ok (.lconst 0, 1) := by decide +kernel
theorem dX4_restore_4 : decode cX4_restore 4 = .ok (.lconst 1, 1) := by decide +kernel
theorem dX4_restore_5 : decode cX4_restore 5 = .ok (.invokestatic 47, 3) := by decide +kernel
theorem dX4_restore_8 : decode cX4_restore 8 = .ok (.ifCond .ne 7, 3) := by decide +kernel
theorem dX4_restore_11 : decode cX4_restore 11 = .ok (.iconst 1, 1) := by decide +kernel
theorem dX4_restore_12 : decode cX4_restore 12 = .ok (.goto 17, 3) := by decide +kernel
theorem dX4_restore_15 : decode cX4_restore 15 = .ok (.aload_n 0, 1) := by decide +kernel
theorem dX4_restore_16 : decode cX4_restore 16 = .ok (.getfield 25, 3) := by decide +kernel
theorem dX4_restore_19 : decode cX4_restore 19 = .ok (.iload_n 1, 1) := by decide +kernel
theorem dX4_restore_20 : decode cX4_restore 20 = .ok (.baload, 1) := by decide +kernel
theorem dX4_restore_21 : decode cX4_restore 21 = .ok (.ifCond .ne 7, 3) := by decide +kernel
theorem dX4_restore_24 : decode cX4_restore 24 = .ok (.iconst 2, 1) := by decide +kernel
theorem dX4_restore_25 : decode cX4_restore 25 = .ok (.goto 4, 3) := by decide +kernel
theorem dX4_restore_28 : decode cX4_restore 28 = .ok (.iconst 0, 1) := by decide +kernel
theorem dX4_restore_29 : decode cX4_restore 29 = .ok (.invokevirtual 76, 3) := by decide +kernel
theorem dX4_restore_32 : decode cX4_restore 32 = .ok (.ifCond .eq 5, 3) := by decide +kernel
theorem dX4_restore_35 : decode cX4_restore 35 = .ok (.iconst 0, 1) := by decide +kernel
theorem dX4_restore_36 : decode cX4_restore 36 = .ok (.ireturn, 1) := by decide +kernel
theorem dX4_restore_37 : decode cX4_restore 37 = .ok (.aload_n 0, 1) := by decide +kernel
theorem dX4_restore_38 : decode cX4_restore 38 = .ok (.getfield 22, 3) := by decide +kernel
theorem dX4_restore_41 : decode cX4_restore 41 = .ok (.sipush 336, 3) := by decide +kernel
theorem dX4_restore_44 : decode cX4_restore 44 = .ok (.iload_n 1, 1) := by decide +kernel
theorem dX4_restore_45 : decode cX4_restore 45 = .ok (.imul, 1) := by decide +kernel
theorem dX4_restore_46 : decode cX4_restore 46 = .ok (.aload_n 0, 1) := by decide +kernel
theorem dX4_restore_47 : decode cX4_restore 47 = .ok (.getfield 13, 3) := by decide +kernel
theorem dX4_restore_50 : decode cX4_restore 50 = .ok (.iconst 0, 1) := by decide +kernel
theorem dX4_restore_51 : decode cX4_restore 51 = .ok (.invokestatic 126, 3) := by decide +kernel
theorem dX4_restore_54 : decode cX4_restore 54 = .ok (.aload_n 0, 1) := by decide +kernel
theorem dX4_restore_55 : decode cX4_restore 55 = .ok (.iconst 0, 1) := by decide +kernel
theorem dX4_restore_56 : decode cX4_restore 56 = .ok (.putfield 92, 3) := by decide +kernel
theorem dX4_restore_59 : decode cX4_restore 59 = .ok (.aload_n 0, 1) := by decide +kernel
theorem dX4_restore_60 : decode cX4_restore 60 = .ok (.getfield 13, 3) := by decide +kernel
theorem dX4_restore_63 : decode cX4_restore 63 = .ok (.iconst 2, 1) := by decide +kernel
theorem dX4_restore_64 : decode cX4_restore 64 = .ok (.iaload, 1) := by decide +kernel
theorem dX4_restore_65 : decode cX4_restore 65 = .ok (.ireturn, 1) := by decide +kernel
theorem dJ9_floorDiv_7cf53_0 : decode cJ9_floorDiv_7cf53 0 = .ok (.iload_n 0, 1) := by decide +kernel
theorem dJ9_floorDiv_7cf53_1 : decode cJ9_floorDiv_7cf53 1 = .ok (.iload_n 1, 1) := by decide +kernel
theorem dJ9_floorDiv_7cf53_2 : decode cJ9_floorDiv_7cf53 2 = .ok (.idiv, 1) := by decide +kernel
theorem dJ9_floorDiv_7cf53_3 : decode cJ9_floorDiv_7cf53 3 = .ok (.istore_n 2, 1) := by decide +kernel
theorem dJ9_floorDiv_7cf53_4 : decode cJ9_floorDiv_7cf53 4 = .ok (.iload_n 0, 1) := by decide +kernel
theorem dJ9_floorDiv_7cf53_5 : decode cJ9_floorDiv_7cf53 5 = .ok (.iload_n 1, 1) := by decide +kernel
theorem dJ9_floorDiv_7cf53_6 : decode cJ9_floorDiv_7cf53 6 = .ok (.ixor, 1) := by decide +kernel
theorem dJ9_floorDiv_7cf53_7 : decode cJ9_floorDiv_7cf53 7 = .ok (.ifCond .ge 14, 3) := by decide +kernel
theorem dJ9_floorDiv_7cf53_10 : decode cJ9_floorDiv_7cf53 10 = .ok (.iload_n 2, 1) := by decide +kernel
theorem dJ9_floorDiv_7cf53_11 : decode cJ9_floorDiv_7cf53 11 = .ok (.iload_n 1, 1) := by decide +kernel
theorem dJ9_floorDiv_7cf53_12 : decode cJ9_floorDiv_7cf53 12 = .ok (.imul, 1) := by decide +kernel
theorem dJ9_floorDiv_7cf53_13 : decode cJ9_floorDiv_7cf53 13 = .ok (.iload_n 0, 1) := by decide +kernel
theorem dJ9_floorDiv_7cf53_14 : decode cJ9_floorDiv_7cf53 14 = .ok (.if_icmp .eq 7, 3) := by decide +kernel
theorem dJ9_floorDiv_7cf53_17 : decode cJ9_floorDiv_7cf53 17 = .ok (.iload_n 2, 1) := by decide +kernel
theorem dJ9_floorDiv_7cf53_18 : decode cJ9_floorDiv_7cf53 18 = .ok (.iconst 1, 1) := by decide +kernel
theorem dJ9_floorDiv_7cf53_19 : decode cJ9_floorDiv_7cf53 19 = .ok (.isub, 1) := by decide +kernel
theorem dJ9_floorDiv_7cf53_20 : decode cJ9_floorDiv_7cf53 20 = .ok (.ireturn, 1) := by decide +kernel
theorem dJ9_floorDiv_7cf53_21 : decode cJ9_floorDiv_7cf53 21 = .ok (.iload_n 2, 1) := by decide +kernel
theorem dJ9_floorDiv_7cf53_22 : decode cJ9_floorDiv_7cf53 22 = .ok (.ireturn, 1) := by decide +kernel
theorem dJ9_floorMod_7cf53_0 : decode cJ9_floorMod_7cf53 0 = .ok (.iload_n 0, 1) := by decide +kernel
theorem dJ9_floorMod_7cf53_1 : decode cJ9_floorMod_7cf53 1 = .ok (.iload_n 1, 1) := by decide +kernel
theorem dJ9_floorMod_7cf53_2 : decode cJ9_floorMod_7cf53 2 = .ok (.irem, 1) := by decide +kernel
theorem dJ9_floorMod_7cf53_3 : decode cJ9_floorMod_7cf53 3 = .ok (.istore_n 2, 1) := by decide +kernel
theorem dJ9_floorMod_7cf53_4 : decode cJ9_floorMod_7cf53 4 = .ok (.iload_n 0, 1) := by decide +kernel
theorem dJ9_floorMod_7cf53_5 : decode cJ9_floorMod_7cf53 5 = .ok (.iload_n 1, 1) := by decide +kernel
theorem dJ9_floorMod_7cf53_6 : decode cJ9_floorMod_7cf53 6 = .ok (.ixor, 1) := by decide +kernel
theorem dJ9_floorMod_7cf53_7 : decode cJ9_floorMod_7cf53 7 = .ok (.ifCond .ge 11, 3) := by decide +kernel
theorem dJ9_floorMod_7cf53_10 : decode cJ9_floorMod_7cf53 10 = .ok (.iload_n 2, 1) := by decide +kernel
theorem dJ9_floorMod_7cf53_11 : decode cJ9_floorMod_7cf53 11 = .ok (.ifCond .eq 7, 3) := by decide +kernel
theorem dJ9_floorMod_7cf53_14 : decode cJ9_floorMod_7cf53 14 = .ok (.iload_n 2, 1) := by decide +kernel
theorem dJ9_floorMod_7cf53_15 : decode cJ9_floorMod_7cf53 15 = .ok (.iload_n 1, 1) := by decide +kernel
theorem dJ9_floorMod_7cf53_16 : decode cJ9_floorMod_7cf53 16 = .ok (.iadd, 1) := by decide +kernel
theorem dJ9_floorMod_7cf53_17 : decode cJ9_floorMod_7cf53 17 = .ok (.ireturn, 1) := by decide +kernel
theorem dJ9_floorMod_7cf53_18 : decode cJ9_floorMod_7cf53 18 = .ok (.iload_n 2, 1) := by decide +kernel
theorem dJ9_floorMod_7cf53_19 : decode cJ9_floorMod_7cf53 19 = .ok (.ireturn, 1) := by decide +kernel
theorem dJ9_abs_0f7a4_0 : decode cJ9_abs_0f7a4 0 = .ok (.iload_n 0, 1) := by decide +kernel
theorem dJ9_abs_0f7a4_1 : decode cJ9_abs_0f7a4 1 = .ok (.ifCond .ge 8, 3) := by decide +kernel
theorem dJ9_abs_0f7a4_4 : decode cJ9_abs_0f7a4 4 = .ok (.iload_n 0, 1) := by decide +kernel
theorem dJ9_abs_0f7a4_5 : decode cJ9_abs_0f7a4 5 = .ok (.ineg, 1) := by decide +kernel
theorem dJ9_abs_0f7a4_6 : decode cJ9_abs_0f7a4 6 = .ok (.goto 4, 3) := by decide +kernel
theorem dJ9_abs_0f7a4_9 : decode cJ9_abs_0f7a4 9 = .ok (.iload_n 0, 1) := by decide +kernel
theorem dJ9_abs_0f7a4_10 : decode cJ9_abs_0f7a4 10 = .ok (.ireturn, 1) := by decide +kernel
theorem dJ9_max_7cf53_0 : decode cJ9_max_7cf53 0 = .ok (.iload_n 0, 1) := by decide +kernel
theorem dJ9_max_7cf53_1 : decode cJ9_max_7cf53 1 = .ok (.iload_n 1, 1) := by decide +kernel
theorem dJ9_max_7cf53_2 : decode cJ9_max_7cf53 2 = .ok (.if_icmp .lt 7, 3) := by decide +kernel
theorem dJ9_max_7cf53_5 : decode cJ9_max_7cf53 5 = .ok (.iload_n 0, 1) := by decide +kernel
theorem dJ9_max_7cf53_6 : decode cJ9_max_7cf53 6 = .ok (.goto 4, 3) := by decide +kernel
theorem dJ9_max_7cf53_9 : decode cJ9_max_7cf53 9 = .ok (.iload_n 1, 1) := by decide +kernel
theorem dJ9_max_7cf53_10 : decode cJ9_max_7cf53 10 = .ok (.ireturn, 1) := by decide +kernel
theorem dJ9_min_7cf53_0 : decode cJ9_min_7cf53 0 = .ok (.iload_n 0, 1) := by decide +kernel
theorem dJ9_min_7cf53_1 : decode cJ9_min_7cf53 1 = .ok (.iload_n 1, 1) := by decide +kernel
theorem dJ9_min_7cf53_2 : decode cJ9_min_7cf53 2 = .ok (.if_icmp .gt 7, 3) := by decide +kernel
theorem dJ9_min_7cf53_5 : decode cJ9_min_7cf53 5 = .ok (.iload_n 0, 1) := by decide +kernel
theorem dJ9_min_7cf53_6 : decode cJ9_min_7cf53 6 = .ok (.goto 4, 3) := by decide +kernel
theorem dJ9_min_7cf53_9 : decode cJ9_min_7cf53 9 = .ok (.iload_n 1, 1) := by decide +kernel
theorem dJ9_min_7cf53_10 : decode cJ9_min_7cf53 10 = .ok (.ireturn, 1) := by decide +kernel
set_option maxRecDepth 20000 in
theorem ggL_append_X3_append : GoodIn wsL_append wsX3_append := goodIn_ca (goodIn_ca (goodIn_r _ [7, 8, 9, 10, 11, 12, 13, 6, 14, 15, 16, 17, 18, 19, 20, 21, 22, 23, 24, 25, 26, 27, 28, 29, 30, 31, 32] (by decide +kernel) (by decide +kernel)) (goodIn_sub (fun _ h => List.mem_cons_of_mem _ (List.mem_append_left _ (List.mem_append_right _ h))) (by decide +kernel))) (goodIn_sub (fun _ h => List.mem_cons_of_mem _ (List.mem_append_right _ h)) (by decide +kernel))
set_option maxRecDepth 20000 in
theorem gL_append_X3_append : GoodIn wsL_append (wsV RL 7 RX3 yX3_append wsX3_append) := goodIn_app (goodIn_of _ (by decide +kernel)) ggL_append_X3_append
theorem dL_append_0 : decode cL_append 0 = .ok (.aload_n 2, 1) := by decide +kernel
theorem dL_append_1 : decode cL_append 1 = .ok (.iconst 0, 1) := by decide +kernel
theorem dL_append_2 : decode cL_append 2 = .ok (.aload_n 0, 1) := by decide +kernel
theorem dL_append_3 : decode cL_append 3 = .ok (.iload_n 1, 1) := by decide +kernel
theorem dL_append_4 : decode cL_append 4 = .ok (.invokevirtual 7, 3) := by decide +kernel
theorem dL_append_7 : decode cL_append 7 = .ok (.i2l, 1) := by decide +kernel
theorem dL_append_8 : decode cL_append 8 = .ok (.lastore, 1) := by decide +kernel
theorem dL_append_9 : decode cL_append 9 = .ok (.goto 9, 3) := by decide +kernel
theorem dL_append_12 : decode cL_append 12 = .ok (.astore_n 3, 1) := by decide +kernel
theorem dL_append_13 : decode cL_append 13 = .ok (.iconst 1, 1) := by decide +kernel
theorem dL_append_14 : decode cL_append 14 = .ok (.ireturn, 1) := by decide +kernel
theorem dL_append_15 : decode cL_append 15 = .ok (.astore_n 3, 1) := by decide +kernel
theorem dL_append_16 : decode cL_append 16 = .ok (.iconst 2, 1) := by decide +kernel
theorem dL_append_17 : decode cL_append 17 = .ok (.ireturn, 1) := by decide +kernel
theorem dL_append_18 : decode cL_append 18 = .ok (.iconst 0, 1) := by decide +kernel
theorem dL_append_19 : decode cL_append 19 = .ok (.ireturn, 1) := by decide +kernel
set_option maxRecDepth 20000 in
theorem ggL_load_X3_load : GoodIn wsL_load wsX3_load := goodIn_ca (goodIn_r _ [6, 7, 8, 9, 10, 11, 12, 13, 14, 15, 16, 17, 18, 19, 20, 21, 22, 23, 24, 25, 26, 27, 28, 29, 30, 31, 32, 33, 34, 35, 36, 37, 38, 39, 40, 41, 42, 43, 44, 45, 46, 47, 48, 49, 50, 51, 52, 53, 54, 55, 56, 57, 58, 59, 60, 5, 61, 62, 63, 64, 65, 66, 67, 68, 69, 70, 71, 72, 73, 74, 75, 76, 77, 78, 79, 80, 81, 82, 83, 84, 85, 86, 87, 88, 89, 90, 91, 92] (by decide +kernel) (by decide +kernel)) (goodIn_sub (fun _ h => List.mem_cons_of_mem _ (List.mem_append_right _ h)) (by decide +kernel))
set_option maxRecDepth 20000 in
theorem gL_load_X3_load : GoodIn wsL_load (wsV RL 17 RX3 yX3_load wsX3_load) := goodIn_app (goodIn_of _ (by decide +kernel)) ggL_load_X3_load
theorem dL_load_0 : decode cL_load 0 = .ok (.aload_n 1, 1) := by decide +kernel
theorem dL_load_1 : decode cL_load 1 = .ok (.iconst 0, 1) := by decide +kernel
theorem dL_load_2 : decode cL_load 2 = .ok (.aload_n 0, 1) := by decide +kernel
theorem dL_load_3 : decode cL_load 3 = .ok (.invokevirtual 17, 3) := by decide +kernel
theorem dL_load_6 : decode cL_load 6 = .ok (.i2l, 1) := by decide +kernel
theorem dL_load_7 : decode cL_load 7 = .ok (.lastore, 1) := by decide +kernel
theorem dL_load_8 : decode cL_load 8 = .ok (.goto 6, 3) := by decide +kernel
theorem dL_load_11 : decode cL_load 11 = .ok (.astore_n 2, 1) := by decide +kernel
theorem dL_load_12 : decode cL_load 12 = .ok (.iconst 1, 1) := by decide +kernel
theorem dL_load_13 : decode cL_load 13 = .ok (.ireturn, 1) := by decide +kernel
theorem dL_load_14 : decode cL_load 14 = .ok (.iconst 0, 1) := by decide +kernel
theorem dL_load_15 : decode cL_load 15 = .ok (.ireturn, 1) := by decide +kernel
set_option maxRecDepth 20000 in
theorem ggL_about_X3_about : GoodIn wsL_about wsX3_about := goodIn_ca (goodIn_r _ [6, 7, 8, 9, 10, 11, 12, 13, 5, 14, 15, 16, 17, 18, 19, 20, 21, 22, 23, 24, 25, 26, 27, 28, 29, 30, 31, 32, 33, 34, 35, 36, 37, 38, 39, 40, 41, 42, 43, 44, 45, 46, 47, 48, 49, 50, 51, 52, 53, 54, 55, 56, 57, 58, 59, 60, 61, 62, 63, 64, 65, 66, 67, 68, 69, 70, 71, 72, 73] (by decide +kernel) (by decide +kernel)) (goodIn_sub (fun _ h => List.mem_cons_of_mem _ (List.mem_append_right _ h)) (by decide +kernel))
set_option maxRecDepth 20000 in
theorem gL_about_X3_about : GoodIn wsL_about (wsV RL 21 RX3 yX3_about wsX3_about) := goodIn_app (goodIn_of _ (by decide +kernel)) ggL_about_X3_about
theorem dL_about_0 : decode cL_about 0 = .ok (.aload_n 2, 1) := by decide +kernel
theorem dL_about_1 : decode cL_about 1 = .ok (.iconst 0, 1) := by decide +kernel
theorem dL_about_2 : decode cL_about 2 = .ok (.aload_n 0, 1) := by decide +kernel
theorem dL_about_3 : decode cL_about 3 = .ok (.iload_n 1, 1) := by decide +kernel
theorem dL_about_4 : decode cL_about 4 = .ok (.invokevirtual 21, 3) := by decide +kernel
theorem dL_about_7 : decode cL_about 7 = .ok (.i2l, 1) := by decide +kernel
theorem dL_about_8 : decode cL_about 8 = .ok (.lastore, 1) := by decide +kernel
theorem dL_about_9 : decode cL_about 9 = .ok (.goto 6, 3) := by decide +kernel
theorem dL_about_12 : decode cL_about 12 = .ok (.astore_n 3, 1) := by decide +kernel
theorem dL_about_13 : decode cL_about 13 = .ok (.iconst 1, 1) := by decide +kernel
theorem dL_about_14 : decode cL_about 14 = .ok (.ireturn, 1) := by decide +kernel
theorem dL_about_15 : decode cL_about 15 = .ok (.iconst 0, 1) := by decide +kernel
theorem dL_about_16 : decode cL_about 16 = .ok (.ireturn, 1) := by decide +kernel
set_option maxRecDepth 20000 in
theorem ggL_shown_X3_shown : GoodIn wsL_shown wsX3_shown := goodIn_ca (goodIn_r _ [6, 7, 8, 9, 10, 5, 11, 12, 13, 14, 15, 16, 17, 18, 19, 20, 21, 22, 23, 24, 25, 26, 27, 28, 29, 30, 31, 32, 33, 34, 35, 36, 37, 38, 39, 40, 41, 42, 43, 44, 45, 46, 47] (by decide +kernel) (by decide +kernel)) (goodIn_sub (fun _ h => List.mem_cons_of_mem _ (List.mem_append_right _ h)) (by decide +kernel))
set_option maxRecDepth 20000 in
theorem gL_shown_X3_shown : GoodIn wsL_shown (wsV RL 24 RX3 yX3_shown wsX3_shown) := goodIn_app (goodIn_of _ (by decide +kernel)) ggL_shown_X3_shown
theorem dL_shown_0 : decode cL_shown 0 = .ok (.aload_n 2, 1) := by decide +kernel
theorem dL_shown_1 : decode cL_shown 1 = .ok (.iconst 0, 1) := by decide +kernel
theorem dL_shown_2 : decode cL_shown 2 = .ok (.aload_n 0, 1) := by decide +kernel
theorem dL_shown_3 : decode cL_shown 3 = .ok (.iload_n 1, 1) := by decide +kernel
theorem dL_shown_4 : decode cL_shown 4 = .ok (.invokevirtual 24, 3) := by decide +kernel
theorem dL_shown_7 : decode cL_shown 7 = .ok (.i2l, 1) := by decide +kernel
theorem dL_shown_8 : decode cL_shown 8 = .ok (.lastore, 1) := by decide +kernel
theorem dL_shown_9 : decode cL_shown 9 = .ok (.goto 6, 3) := by decide +kernel
theorem dL_shown_12 : decode cL_shown 12 = .ok (.astore_n 3, 1) := by decide +kernel
theorem dL_shown_13 : decode cL_shown 13 = .ok (.iconst 1, 1) := by decide +kernel
theorem dL_shown_14 : decode cL_shown 14 = .ok (.ireturn, 1) := by decide +kernel
theorem dL_shown_15 : decode cL_shown 15 = .ok (.iconst 0, 1) := by decide +kernel
theorem dL_shown_16 : decode cL_shown 16 = .ok (.ireturn, 1) := by decide +kernel
set_option maxRecDepth 20000 in
theorem ggL_worth_X3_worth : GoodIn wsL_worth wsX3_worth := goodIn_ca (goodIn_r _ [6, 7, 8, 9, 10, 5, 11, 12, 13, 14, 15, 16, 17, 18, 19, 20, 21, 22, 23, 24, 25, 26, 27, 28, 29, 30, 31, 32, 33, 34, 35, 36, 37, 38, 39, 40, 41, 42, 43, 44, 45, 46, 47, 48, 49] (by decide +kernel) (by decide +kernel)) (goodIn_sub (fun _ h => List.mem_cons_of_mem _ (List.mem_append_right _ h)) (by decide +kernel))
set_option maxRecDepth 20000 in
theorem gL_worth_X3_worth : GoodIn wsL_worth (wsV RL 29 RX3 yX3_worth wsX3_worth) := goodIn_app (goodIn_of _ (by decide +kernel)) ggL_worth_X3_worth
theorem dL_worth_0 : decode cL_worth 0 = .ok (.aload_n 2, 1) := by decide +kernel
theorem dL_worth_1 : decode cL_worth 1 = .ok (.iconst 0, 1) := by decide +kernel
theorem dL_worth_2 : decode cL_worth 2 = .ok (.aload_n 0, 1) := by decide +kernel
theorem dL_worth_3 : decode cL_worth 3 = .ok (.iload_n 1, 1) := by decide +kernel
theorem dL_worth_4 : decode cL_worth 4 = .ok (.invokevirtual 29, 3) := by decide +kernel
theorem dL_worth_7 : decode cL_worth 7 = .ok (.lastore, 1) := by decide +kernel
theorem dL_worth_8 : decode cL_worth 8 = .ok (.goto 6, 3) := by decide +kernel
theorem dL_worth_11 : decode cL_worth 11 = .ok (.astore_n 3, 1) := by decide +kernel
theorem dL_worth_12 : decode cL_worth 12 = .ok (.iconst 1, 1) := by decide +kernel
theorem dL_worth_13 : decode cL_worth 13 = .ok (.ireturn, 1) := by decide +kernel
theorem dL_worth_14 : decode cL_worth 14 = .ok (.iconst 0, 1) := by decide +kernel
theorem dL_worth_15 : decode cL_worth 15 = .ok (.ireturn, 1) := by decide +kernel
set_option maxRecDepth 20000 in
theorem ggL_counter_X3_counter : GoodIn wsL_counter wsX3_counter := goodIn_ca (goodIn_ca (goodIn_r _ [7, 8, 9, 10, 11, 12, 13, 14, 6, 15, 16, 17, 18, 19, 20, 21, 22, 23, 24, 25, 26, 27, 28, 29, 30, 31, 32, 33, 34, 35, 36, 37, 38, 39, 40, 41, 42, 43, 44, 45, 46, 47, 48, 49, 50, 51, 52, 53, 54, 55, 56, 57, 58, 59, 60, 61, 62, 63, 64, 65, 66, 67] (by decide +kernel) (by decide +kernel)) (goodIn_sub (fun _ h => List.mem_cons_of_mem _ (List.mem_append_left _ (List.mem_append_right _ h))) (by decide +kernel))) (goodIn_sub (fun _ h => List.mem_cons_of_mem _ (List.mem_append_right _ h)) (by decide +kernel))
set_option maxRecDepth 20000 in
theorem gL_counter_X3_counter : GoodIn wsL_counter (wsV RL 33 RX3 yX3_counter wsX3_counter) := goodIn_app (goodIn_of _ (by decide +kernel)) ggL_counter_X3_counter
theorem dL_counter_0 : decode cL_counter 0 = .ok (.aload_n 3, 1) := by decide +kernel
theorem dL_counter_1 : decode cL_counter 1 = .ok (.iconst 0, 1) := by decide +kernel
theorem dL_counter_2 : decode cL_counter 2 = .ok (.aload_n 0, 1) := by decide +kernel
theorem dL_counter_3 : decode cL_counter 3 = .ok (.iload_n 1, 1) := by decide +kernel
theorem dL_counter_4 : decode cL_counter 4 = .ok (.iload_n 2, 1) := by decide +kernel
theorem dL_counter_5 : decode cL_counter 5 = .ok (.invokevirtual 33, 3) := by decide +kernel
theorem dL_counter_8 : decode cL_counter 8 = .ok (.i2l, 1) := by decide +kernel
theorem dL_counter_9 : decode cL_counter 9 = .ok (.lastore, 1) := by decide +kernel
theorem dL_counter_10 : decode cL_counter 10 = .ok (.goto 11, 3) := by decide +kernel
theorem dL_counter_13 : decode cL_counter 13 = .ok (.astore 4, 2) := by decide +kernel
theorem dL_counter_15 : decode cL_counter 15 = .ok (.iconst 1, 1) := by decide +kernel
theorem dL_counter_16 : decode cL_counter 16 = .ok (.ireturn, 1) := by decide +kernel
theorem dL_counter_17 : decode cL_counter 17 = .ok (.astore 4, 2) := by decide +kernel
theorem dL_counter_19 : decode cL_counter 19 = .ok (.iconst 2, 1) := by decide +kernel
theorem dL_counter_20 : decode cL_counter 20 = .ok (.ireturn, 1) := by decide +kernel
theorem dL_counter_21 : decode cL_counter 21 = .ok (.iconst 0, 1) := by decide +kernel
theorem dL_counter_22 : decode cL_counter 22 = .ok (.ireturn, 1) := by decide +kernel
set_option maxRecDepth 20000 in
theorem ggL_place_X3_place : GoodIn wsL_place wsX3_place := goodIn_ca (goodIn_ca (goodIn_r _ [7, 8, 9, 10, 11, 12, 13, 14, 15, 16, 6, 17, 18, 19, 20, 21, 22, 23, 24, 25, 26, 27, 28, 29, 30, 31, 32, 33, 34, 35, 36, 37, 38, 39, 40, 41, 42, 43, 44, 45, 46, 47, 48, 49, 50, 51] (by decide +kernel) (by decide +kernel)) (goodIn_sub (fun _ h => List.mem_cons_of_mem _ (List.mem_append_left _ (List.mem_append_right _ h))) (by decide +kernel))) (goodIn_sub (fun _ h => List.mem_cons_of_mem _ (List.mem_append_right _ h)) (by decide +kernel))
set_option maxRecDepth 20000 in
theorem gL_place_X3_place : GoodIn wsL_place (wsV RL 37 RX3 yX3_place wsX3_place) := goodIn_app (goodIn_of _ (by decide +kernel)) ggL_place_X3_place
theorem dL_place_0 : decode cL_place 0 = .ok (.aload 4, 2) := by decide +kernel
theorem dL_place_2 : decode cL_place 2 = .ok (.iconst 0, 1) := by decide +kernel
theorem dL_place_3 : decode cL_place 3 = .ok (.aload_n 0, 1) := by decide +kernel
theorem dL_place_4 : decode cL_place 4 = .ok (.iload_n 1, 1) := by decide +kernel
theorem dL_place_5 : decode cL_place 5 = .ok (.iload_n 2, 1) := by decide +kernel
theorem dL_place_6 : decode cL_place 6 = .ok (.iload_n 3, 1) := by decide +kernel
theorem dL_place_7 : decode cL_place 7 = .ok (.invokevirtual 37, 3) := by decide +kernel
theorem dL_place_10 : decode cL_place 10 = .ok (.i2l, 1) := by decide +kernel
theorem dL_place_11 : decode cL_place 11 = .ok (.lastore, 1) := by decide +kernel
theorem dL_place_12 : decode cL_place 12 = .ok (.goto 11, 3) := by decide +kernel
theorem dL_place_15 : decode cL_place 15 = .ok (.astore 5, 2) := by decide +kernel
theorem dL_place_17 : decode cL_place 17 = .ok (.iconst 1, 1) := by decide +kernel
theorem dL_place_18 : decode cL_place 18 = .ok (.ireturn, 1) := by decide +kernel
theorem dL_place_19 : decode cL_place 19 = .ok (.astore 5, 2) := by decide +kernel
theorem dL_place_21 : decode cL_place 21 = .ok (.iconst 2, 1) := by decide +kernel
theorem dL_place_22 : decode cL_place 22 = .ok (.ireturn, 1) := by decide +kernel
theorem dL_place_23 : decode cL_place 23 = .ok (.iconst 0, 1) := by decide +kernel
theorem dL_place_24 : decode cL_place 24 = .ok (.ireturn, 1) := by decide +kernel
set_option maxRecDepth 20000 in
theorem ggL_ticket_X3_ticket : GoodIn wsL_ticket wsX3_ticket := goodIn_ca (goodIn_ca (goodIn_r _ [7, 8, 9, 10, 11, 12, 13, 14, 15, 6, 16, 17, 18, 19, 20, 21, 22, 23, 24, 25, 26, 27, 28, 29, 30, 31, 32, 33, 34, 35, 36, 37, 38, 39, 40, 41, 42, 43, 44, 45, 46, 47, 48, 49, 50, 51, 52, 53, 54, 55, 56] (by decide +kernel) (by decide +kernel)) (goodIn_sub (fun _ h => List.mem_cons_of_mem _ (List.mem_append_left _ (List.mem_append_right _ h))) (by decide +kernel))) (goodIn_sub (fun _ h => List.mem_cons_of_mem _ (List.mem_append_right _ h)) (by decide +kernel))
set_option maxRecDepth 20000 in
theorem gL_ticket_X3_ticket : GoodIn wsL_ticket (wsV RL 41 RX3 yX3_ticket wsX3_ticket) := goodIn_app (goodIn_of _ (by decide +kernel)) ggL_ticket_X3_ticket
theorem dL_ticket_0 : decode cL_ticket 0 = .ok (.aload_n 3, 1) := by decide +kernel
theorem dL_ticket_1 : decode cL_ticket 1 = .ok (.iconst 0, 1) := by decide +kernel
theorem dL_ticket_2 : decode cL_ticket 2 = .ok (.aload_n 0, 1) := by decide +kernel
theorem dL_ticket_3 : decode cL_ticket 3 = .ok (.iload_n 1, 1) := by decide +kernel
theorem dL_ticket_4 : decode cL_ticket 4 = .ok (.iload_n 2, 1) := by decide +kernel
theorem dL_ticket_5 : decode cL_ticket 5 = .ok (.invokevirtual 41, 3) := by decide +kernel
theorem dL_ticket_8 : decode cL_ticket 8 = .ok (.lastore, 1) := by decide +kernel
theorem dL_ticket_9 : decode cL_ticket 9 = .ok (.goto 11, 3) := by decide +kernel
theorem dL_ticket_12 : decode cL_ticket 12 = .ok (.astore 4, 2) := by decide +kernel
theorem dL_ticket_14 : decode cL_ticket 14 = .ok (.iconst 1, 1) := by decide +kernel
theorem dL_ticket_15 : decode cL_ticket 15 = .ok (.ireturn, 1) := by decide +kernel
theorem dL_ticket_16 : decode cL_ticket 16 = .ok (.astore 4, 2) := by decide +kernel
theorem dL_ticket_18 : decode cL_ticket 18 = .ok (.iconst 2, 1) := by decide +kernel
theorem dL_ticket_19 : decode cL_ticket 19 = .ok (.ireturn, 1) := by decide +kernel
theorem dL_ticket_20 : decode cL_ticket 20 = .ok (.iconst 0, 1) := by decide +kernel
theorem dL_ticket_21 : decode cL_ticket 21 = .ok (.ireturn, 1) := by decide +kernel
set_option maxRecDepth 20000 in
theorem ggL_sorted_X3_sorted : GoodIn wsL_sorted wsX3_sorted := goodIn_ca (goodIn_r _ [6, 7, 8, 9, 10, 11, 5, 12, 13, 14, 15, 16, 17, 18, 19, 20, 21, 22, 23, 24, 25, 26, 27, 28, 29, 30, 31, 32, 33, 34, 35, 36, 37, 38, 39, 40, 41, 42, 43, 44, 45, 46] (by decide +kernel) (by decide +kernel)) (goodIn_sub (fun _ h => List.mem_cons_of_mem _ (List.mem_append_right _ h)) (by decide +kernel))
set_option maxRecDepth 20000 in
theorem gL_sorted_X3_sorted : GoodIn wsL_sorted (wsV RL 45 RX3 yX3_sorted wsX3_sorted) := goodIn_app (goodIn_of _ (by decide +kernel)) ggL_sorted_X3_sorted
theorem dL_sorted_0 : decode cL_sorted 0 = .ok (.aload_n 2, 1) := by decide +kernel
theorem dL_sorted_1 : decode cL_sorted 1 = .ok (.iconst 0, 1) := by decide +kernel
theorem dL_sorted_2 : decode cL_sorted 2 = .ok (.aload_n 0, 1) := by decide +kernel
theorem dL_sorted_3 : decode cL_sorted 3 = .ok (.iload_n 1, 1) := by decide +kernel
theorem dL_sorted_4 : decode cL_sorted 4 = .ok (.invokevirtual 45, 3) := by decide +kernel
theorem dL_sorted_7 : decode cL_sorted 7 = .ok (.i2l, 1) := by decide +kernel
theorem dL_sorted_8 : decode cL_sorted 8 = .ok (.lastore, 1) := by decide +kernel
theorem dL_sorted_9 : decode cL_sorted 9 = .ok (.goto 6, 3) := by decide +kernel
theorem dL_sorted_12 : decode cL_sorted 12 = .ok (.astore_n 3, 1) := by decide +kernel
theorem dL_sorted_13 : decode cL_sorted 13 = .ok (.iconst 1, 1) := by decide +kernel
theorem dL_sorted_14 : decode cL_sorted 14 = .ok (.ireturn, 1) := by decide +kernel
theorem dL_sorted_15 : decode cL_sorted 15 = .ok (.iconst 0, 1) := by decide +kernel
theorem dL_sorted_16 : decode cL_sorted 16 = .ok (.ireturn, 1) := by decide +kernel
set_option maxRecDepth 20000 in
theorem ggL_ranked_X3_ranked : GoodIn wsL_ranked wsX3_ranked := goodIn_ca (goodIn_r _ [6, 7, 8, 9, 10, 11, 5, 12, 13, 14, 15, 16, 17, 18, 19, 20, 21, 22, 23, 24, 25, 26, 27, 28, 29, 30, 31, 32, 33, 34, 35, 36, 37, 38, 39, 40, 41, 42, 43, 44, 45, 46, 47, 48, 49, 50, 51, 52, 53, 54, 55, 56, 57, 58] (by decide +kernel) (by decide +kernel)) (goodIn_sub (fun _ h => List.mem_cons_of_mem _ (List.mem_append_right _ h)) (by decide +kernel))
set_option maxRecDepth 20000 in
theorem gL_ranked_X3_ranked : GoodIn wsL_ranked (wsV RL 48 RX3 yX3_ranked wsX3_ranked) := goodIn_app (goodIn_of _ (by decide +kernel)) ggL_ranked_X3_ranked
theorem dL_ranked_0 : decode cL_ranked 0 = .ok (.aload_n 3, 1) := by decide +kernel
theorem dL_ranked_1 : decode cL_ranked 1 = .ok (.iconst 0, 1) := by decide +kernel
theorem dL_ranked_2 : decode cL_ranked 2 = .ok (.aload_n 0, 1) := by decide +kernel
theorem dL_ranked_3 : decode cL_ranked 3 = .ok (.iload_n 1, 1) := by decide +kernel
theorem dL_ranked_4 : decode cL_ranked 4 = .ok (.iload_n 2, 1) := by decide +kernel
theorem dL_ranked_5 : decode cL_ranked 5 = .ok (.invokevirtual 48, 3) := by decide +kernel
theorem dL_ranked_8 : decode cL_ranked 8 = .ok (.i2l, 1) := by decide +kernel
theorem dL_ranked_9 : decode cL_ranked 9 = .ok (.lastore, 1) := by decide +kernel
theorem dL_ranked_10 : decode cL_ranked 10 = .ok (.goto 7, 3) := by decide +kernel
theorem dL_ranked_13 : decode cL_ranked 13 = .ok (.astore 4, 2) := by decide +kernel
theorem dL_ranked_15 : decode cL_ranked 15 = .ok (.iconst 1, 1) := by decide +kernel
theorem dL_ranked_16 : decode cL_ranked 16 = .ok (.ireturn, 1) := by decide +kernel
theorem dL_ranked_17 : decode cL_ranked 17 = .ok (.iconst 0, 1) := by decide +kernel
theorem dL_ranked_18 : decode cL_ranked 18 = .ok (.ireturn, 1) := by decide +kernel
set_option maxRecDepth 20000 in
theorem ggL_add_X3_add : GoodIn wsL_add wsX3_add := goodIn_ca (goodIn_ca (goodIn_ca (goodIn_r _ [8, 9, 10, 11, 12, 13, 14, 15, 7, 16, 17, 18, 19, 20, 21, 22, 23, 24, 25, 26, 27, 28, 29, 30, 31, 32, 33, 34, 35, 36, 37, 38, 39, 40, 41, 42, 43, 44, 45, 46, 47, 48, 49, 50, 51, 52, 53, 54, 55, 56, 57, 58, 59, 60, 61, 62, 63, 64, 65, 66, 67, 68, 69, 70, 71, 72, 73, 74, 75, 76, 77, 78, 79, 80, 81, 82, 83, 84, 85, 86, 87, 88, 89, 90, 91, 92, 93, 94] (by decide +kernel) (by decide +kernel)) (goodIn_sub (fun _ h => List.mem_cons_of_mem _ (List.mem_append_left _ (List.mem_append_left _ (List.mem_append_right _ h)))) (by decide +kernel))) (goodIn_sub (fun _ h => List.mem_cons_of_mem _ (List.mem_append_left _ (List.mem_append_right _ h))) (by decide +kernel))) (goodIn_sub (fun _ h => List.mem_cons_of_mem _ (List.mem_append_right _ h)) (by decide +kernel))
set_option maxRecDepth 20000 in
theorem gL_add_X3_add : GoodIn wsL_add (wsV RL 52 RX3 yX3_add wsX3_add) := goodIn_app (goodIn_of _ (by decide +kernel)) ggL_add_X3_add
theorem dL_add_0 : decode cL_add 0 = .ok (.aload_n 3, 1) := by decide +kernel
theorem dL_add_1 : decode cL_add 1 = .ok (.iconst 0, 1) := by decide +kernel
theorem dL_add_2 : decode cL_add 2 = .ok (.aload_n 0, 1) := by decide +kernel
theorem dL_add_3 : decode cL_add 3 = .ok (.iload_n 1, 1) := by decide +kernel
theorem dL_add_4 : decode cL_add 4 = .ok (.iload_n 2, 1) := by decide +kernel
theorem dL_add_5 : decode cL_add 5 = .ok (.invokevirtual 52, 3) := by decide +kernel
theorem dL_add_8 : decode cL_add 8 = .ok (.i2l, 1) := by decide +kernel
theorem dL_add_9 : decode cL_add 9 = .ok (.lastore, 1) := by decide +kernel
theorem dL_add_10 : decode cL_add 10 = .ok (.goto 15, 3) := by decide +kernel
theorem dL_add_13 : decode cL_add 13 = .ok (.astore 4, 2) := by decide +kernel
theorem dL_add_15 : decode cL_add 15 = .ok (.iconst 1, 1) := by decide +kernel
theorem dL_add_16 : decode cL_add 16 = .ok (.ireturn, 1) := by decide +kernel
theorem dL_add_17 : decode cL_add 17 = .ok (.astore 4, 2) := by decide +kernel
theorem dL_add_19 : decode cL_add 19 = .ok (.iconst 2, 1) := by decide +kernel
theorem dL_add_20 : decode cL_add 20 = .ok (.ireturn, 1) := by decide +kernel
theorem dL_add_21 : decode cL_add 21 = .ok (.astore 4, 2) := by decide +kernel
theorem dL_add_23 : decode cL_add 23 = .ok (.iconst 3, 1) := by decide +kernel
theorem dL_add_24 : decode cL_add 24 = .ok (.ireturn, 1) := by decide +kernel
theorem dL_add_25 : decode cL_add 25 = .ok (.iconst 0, 1) := by decide +kernel
theorem dL_add_26 : decode cL_add 26 = .ok (.ireturn, 1) := by decide +kernel
set_option maxRecDepth 20000 in
theorem ggL_draw_X3_draw : GoodIn wsL_draw wsX3_draw := goodIn_ca (goodIn_ca (goodIn_r _ [7, 8, 9, 10, 11, 12, 13, 14, 15, 6, 16, 17, 18, 19, 20, 21, 22, 23, 24, 25, 26, 27, 28, 29, 30, 31, 32, 33, 34, 35, 36, 37, 38, 39, 40, 41, 42, 43, 44, 45, 46, 47, 48, 49, 50, 51, 52, 53, 54, 55, 56, 57, 58, 59, 60, 61, 62, 63, 64, 65, 66, 67, 68, 69, 70, 71, 72, 73, 74, 75, 76, 77, 78, 79, 80, 81, 82, 83, 84, 85, 86, 87, 88, 89, 90] (by decide +kernel) (by decide +kernel)) (goodIn_sub (fun _ h => List.mem_cons_of_mem _ (List.mem_append_left _ (List.mem_append_right _ h))) (by decide +kernel))) (goodIn_sub (fun _ h => List.mem_cons_of_mem _ (List.mem_append_right _ h)) (by decide +kernel))
set_option maxRecDepth 20000 in
theorem gL_draw_X3_draw : GoodIn wsL_draw (wsV RL 55 RX3 yX3_draw wsX3_draw) := goodIn_app (goodIn_of _ (by decide +kernel)) ggL_draw_X3_draw
theorem dL_draw_0 : decode cL_draw 0 = .ok (.aload_n 2, 1) := by decide +kernel
theorem dL_draw_1 : decode cL_draw 1 = .ok (.iconst 0, 1) := by decide +kernel
theorem dL_draw_2 : decode cL_draw 2 = .ok (.aload_n 0, 1) := by decide +kernel
theorem dL_draw_3 : decode cL_draw 3 = .ok (.iload_n 1, 1) := by decide +kernel
theorem dL_draw_4 : decode cL_draw 4 = .ok (.invokevirtual 55, 3) := by decide +kernel
theorem dL_draw_7 : decode cL_draw 7 = .ok (.i2l, 1) := by decide +kernel
theorem dL_draw_8 : decode cL_draw 8 = .ok (.lastore, 1) := by decide +kernel
theorem dL_draw_9 : decode cL_draw 9 = .ok (.goto 9, 3) := by decide +kernel
theorem dL_draw_12 : decode cL_draw 12 = .ok (.astore_n 3, 1) := by decide +kernel
theorem dL_draw_13 : decode cL_draw 13 = .ok (.iconst 1, 1) := by decide +kernel
theorem dL_draw_14 : decode cL_draw 14 = .ok (.ireturn, 1) := by decide +kernel
theorem dL_draw_15 : decode cL_draw 15 = .ok (.astore_n 3, 1) := by decide +kernel
theorem dL_draw_16 : decode cL_draw 16 = .ok (.iconst 2, 1) := by decide +kernel
theorem dL_draw_17 : decode cL_draw 17 = .ok (.ireturn, 1) := by decide +kernel
theorem dL_draw_18 : decode cL_draw 18 = .ok (.iconst 0, 1) := by decide +kernel
theorem dL_draw_19 : decode cL_draw 19 = .ok (.ireturn, 1) := by decide +kernel
set_option maxRecDepth 20000 in
theorem ggL_beats_X3_beats : GoodIn wsL_beats wsX3_beats := goodIn_ca (goodIn_r _ [6, 7, 8, 9, 10, 5, 11, 12, 13, 14, 15, 16, 17, 18, 19, 20, 21, 22, 23, 24, 25, 26, 27, 28, 29, 30, 31, 32, 33, 34, 35, 36, 37, 38, 39, 40, 41, 42, 43, 44, 45, 46, 47, 48, 49, 50, 51, 52, 53, 54, 55, 56, 57, 58, 59, 60, 61, 62, 63, 64, 65, 66, 67, 68, 69, 70, 71, 72, 73, 74, 75, 76, 77, 78, 79, 80, 81, 82, 83, 84, 85, 86, 87, 88, 89, 90, 91, 92, 93, 94, 95, 96, 97, 98, 99, 100, 101, 102, 103, 104, 105, 106, 107, 108, 109, 110, 111, 112, 113, 114] (by decide +kernel) (by decide +kernel)) (goodIn_sub (fun _ h => List.mem_cons_of_mem _ (List.mem_append_right _ h)) (by decide +kernel))
set_option maxRecDepth 20000 in
theorem gL_beats_X3_beats : GoodIn wsL_beats (wsV RL 58 RX3 yX3_beats wsX3_beats) := goodIn_app (goodIn_of _ (by decide +kernel)) ggL_beats_X3_beats
theorem dL_beats_0 : decode cL_beats 0 = .ok (.aload_n 2, 1) := by decide +kernel
theorem dL_beats_1 : decode cL_beats 1 = .ok (.iconst 0, 1) := by decide +kernel
theorem dL_beats_2 : decode cL_beats 2 = .ok (.aload_n 0, 1) := by decide +kernel
theorem dL_beats_3 : decode cL_beats 3 = .ok (.iload_n 1, 1) := by decide +kernel
theorem dL_beats_4 : decode cL_beats 4 = .ok (.invokevirtual 58, 3) := by decide +kernel
theorem dL_beats_7 : decode cL_beats 7 = .ok (.i2l, 1) := by decide +kernel
theorem dL_beats_8 : decode cL_beats 8 = .ok (.lastore, 1) := by decide +kernel
theorem dL_beats_9 : decode cL_beats 9 = .ok (.goto 6, 3) := by decide +kernel
theorem dL_beats_12 : decode cL_beats 12 = .ok (.astore_n 3, 1) := by decide +kernel
theorem dL_beats_13 : decode cL_beats 13 = .ok (.iconst 1, 1) := by decide +kernel
theorem dL_beats_14 : decode cL_beats 14 = .ok (.ireturn, 1) := by decide +kernel
theorem dL_beats_15 : decode cL_beats 15 = .ok (.iconst 0, 1) := by decide +kernel
theorem dL_beats_16 : decode cL_beats 16 = .ok (.ireturn, 1) := by decide +kernel
set_option maxRecDepth 20000 in
theorem ggL_setPace_X3_setPace : GoodIn wsL_setPace wsX3_setPace := goodIn_ca (goodIn_r _ [6, 7, 8, 9, 10, 11, 5, 12, 13, 14, 15, 16, 17, 18, 19, 20, 21, 22, 23, 24, 25, 26, 27, 28, 29, 30, 31, 32, 33, 34, 35, 36, 37, 38, 39, 40, 41, 42, 43, 44, 45, 46, 47, 48, 49, 50, 51, 52, 53, 54, 55, 56, 57, 58, 59, 60, 61, 62, 63, 64, 65, 66, 67] (by decide +kernel) (by decide +kernel)) (goodIn_sub (fun _ h => List.mem_cons_of_mem _ (List.mem_append_right _ h)) (by decide +kernel))
set_option maxRecDepth 20000 in
theorem gL_setPace_X3_setPace : GoodIn wsL_setPace (wsV RL 61 RX3 yX3_setPace wsX3_setPace) := goodIn_app (goodIn_of _ (by decide +kernel)) ggL_setPace_X3_setPace
theorem dL_setPace_0 : decode cL_setPace 0 = .ok (.aload_n 2, 1) := by decide +kernel
theorem dL_setPace_1 : decode cL_setPace 1 = .ok (.iconst 0, 1) := by decide +kernel
theorem dL_setPace_2 : decode cL_setPace 2 = .ok (.aload_n 0, 1) := by decide +kernel
theorem dL_setPace_3 : decode cL_setPace 3 = .ok (.iload_n 1, 1) := by decide +kernel
theorem dL_setPace_4 : decode cL_setPace 4 = .ok (.invokevirtual 61, 3) := by decide +kernel
theorem dL_setPace_7 : decode cL_setPace 7 = .ok (.i2l, 1) := by decide +kernel
theorem dL_setPace_8 : decode cL_setPace 8 = .ok (.lastore, 1) := by decide +kernel
theorem dL_setPace_9 : decode cL_setPace 9 = .ok (.goto 6, 3) := by decide +kernel
theorem dL_setPace_12 : decode cL_setPace 12 = .ok (.astore_n 3, 1) := by decide +kernel
theorem dL_setPace_13 : decode cL_setPace 13 = .ok (.iconst 1, 1) := by decide +kernel
theorem dL_setPace_14 : decode cL_setPace 14 = .ok (.ireturn, 1) := by decide +kernel
theorem dL_setPace_15 : decode cL_setPace 15 = .ok (.iconst 0, 1) := by decide +kernel
theorem dL_setPace_16 : decode cL_setPace 16 = .ok (.ireturn, 1) := by decide +kernel
set_option maxRecDepth 20000 in
theorem ggL_link_X3_link : GoodIn wsL_link wsX3_link := goodIn_ca (goodIn_r _ [6, 7, 8, 9, 10, 11, 12, 13, 14, 15, 16, 17, 18, 19, 20, 21, 22, 23, 24, 25, 26, 27, 28, 29, 30, 31, 32, 33, 34, 35, 36, 37, 38, 39, 40, 41, 42, 43, 44, 45, 46, 47, 48, 49, 50, 51, 52, 53, 54, 55, 56, 57, 58, 59, 60, 61, 62, 63, 64, 65, 66, 67, 68, 69, 70, 71, 72] (by decide +kernel) (by decide +kernel)) (goodIn_sub (fun _ h => List.mem_cons_of_mem _ (List.mem_append_right _ h)) (by decide +kernel))
set_option maxRecDepth 20000 in
theorem gL_link_X3_link : GoodIn wsL_link (wsV RL 64 RX3 yX3_link wsX3_link) := goodIn_app (goodIn_of _ (by decide +kernel)) ggL_link_X3_link
theorem dL_link_0 : decode cL_link 0 = .ok (.aload_n 3, 1) := by decide +kernel
theorem dL_link_1 : decode cL_link 1 = .ok (.iconst 0, 1) := by decide +kernel
theorem dL_link_2 : decode cL_link 2 = .ok (.aload_n 0, 1) := by decide +kernel
theorem dL_link_3 : decode cL_link 3 = .ok (.iload_n 1, 1) := by decide +kernel
theorem dL_link_4 : decode cL_link 4 = .ok (.iload_n 2, 1) := by decide +kernel
theorem dL_link_5 : decode cL_link 5 = .ok (.invokevirtual 64, 3) := by decide +kernel
theorem dL_link_8 : decode cL_link 8 = .ok (.i2l, 1) := by decide +kernel
theorem dL_link_9 : decode cL_link 9 = .ok (.lastore, 1) := by decide +kernel
theorem dL_link_10 : decode cL_link 10 = .ok (.goto 7, 3) := by decide +kernel
theorem dL_link_13 : decode cL_link 13 = .ok (.astore 4, 2) := by decide +kernel
theorem dL_link_15 : decode cL_link 15 = .ok (.iconst 1, 1) := by decide +kernel
theorem dL_link_16 : decode cL_link 16 = .ok (.ireturn, 1) := by decide +kernel
theorem dL_link_17 : decode cL_link 17 = .ok (.iconst 0, 1) := by decide +kernel
theorem dL_link_18 : decode cL_link 18 = .ok (.ireturn, 1) := by decide +kernel
set_option maxRecDepth 20000 in
theorem ggL_resize_X3_resize : GoodIn wsL_resize wsX3_resize := goodIn_ca (goodIn_ca (goodIn_r _ [7, 8, 9, 10, 11, 12, 13, 6, 14, 15, 16, 17, 18, 19, 20, 21, 22, 23, 24, 25, 26, 27, 28, 29, 30, 31, 32, 33, 34, 35, 36, 37, 38, 39, 40, 41, 42, 43, 44, 45, 46, 47, 48, 49, 50, 51, 52, 53, 54, 55, 56, 57, 58, 59, 60, 61, 62, 63, 64, 65, 66, 67, 68, 69, 70, 71, 72, 73, 74, 75, 76, 77, 78, 79, 80, 81, 82, 83, 84] (by decide +kernel) (by decide +kernel)) (goodIn_sub (fun _ h => List.mem_cons_of_mem _ (List.mem_append_left _ (List.mem_append_right _ h))) (by decide +kernel))) (goodIn_sub (fun _ h => List.mem_cons_of_mem _ (List.mem_append_right _ h)) (by decide +kernel))
set_option maxRecDepth 20000 in
theorem gL_resize_X3_resize : GoodIn wsL_resize (wsV RL 67 RX3 yX3_resize wsX3_resize) := goodIn_app (goodIn_of _ (by decide +kernel)) ggL_resize_X3_resize
theorem dL_resize_0 : decode cL_resize 0 = .ok (.aload_n 3, 1) := by decide +kernel
theorem dL_resize_1 : decode cL_resize 1 = .ok (.iconst 0, 1) := by decide +kernel
theorem dL_resize_2 : decode cL_resize 2 = .ok (.aload_n 0, 1) := by decide +kernel
theorem dL_resize_3 : decode cL_resize 3 = .ok (.iload_n 1, 1) := by decide +kernel
theorem dL_resize_4 : decode cL_resize 4 = .ok (.iload_n 2, 1) := by decide +kernel
theorem dL_resize_5 : decode cL_resize 5 = .ok (.invokevirtual 67, 3) := by decide +kernel
theorem dL_resize_8 : decode cL_resize 8 = .ok (.i2l, 1) := by decide +kernel
theorem dL_resize_9 : decode cL_resize 9 = .ok (.lastore, 1) := by decide +kernel
theorem dL_resize_10 : decode cL_resize 10 = .ok (.goto 11, 3) := by decide +kernel
theorem dL_resize_13 : decode cL_resize 13 = .ok (.astore 4, 2) := by decide +kernel
theorem dL_resize_15 : decode cL_resize 15 = .ok (.iconst 1, 1) := by decide +kernel
theorem dL_resize_16 : decode cL_resize 16 = .ok (.ireturn, 1) := by decide +kernel
theorem dL_resize_17 : decode cL_resize 17 = .ok (.astore 4, 2) := by decide +kernel
theorem dL_resize_19 : decode cL_resize 19 = .ok (.iconst 2, 1) := by decide +kernel
theorem dL_resize_20 : decode cL_resize 20 = .ok (.ireturn, 1) := by decide +kernel
theorem dL_resize_21 : decode cL_resize 21 = .ok (.iconst 0, 1) := by decide +kernel
theorem dL_resize_22 : decode cL_resize 22 = .ok (.ireturn, 1) := by decide +kernel
set_option maxRecDepth 20000 in
theorem ggL_pour_X3_pour : GoodIn wsL_pour wsX3_pour := goodIn_ca (goodIn_ca (goodIn_r _ [7, 8, 9, 10, 11, 12, 13, 14, 6, 15, 16, 17, 18, 19, 20, 21, 22, 23, 24, 25, 26, 27, 28, 29, 30, 31, 32, 33, 34, 35, 36, 37, 38, 39, 40, 41, 42, 43, 44, 45, 46, 47, 48, 49, 50, 51, 52, 53, 54, 55, 56, 57, 58, 59, 60, 61, 62, 63, 64, 65, 66, 67, 68, 69, 70, 71, 72, 73, 74, 75, 76, 77, 78, 79, 80, 81, 82, 83, 84, 85] (by decide +kernel) (by decide +kernel)) (goodIn_sub (fun _ h => List.mem_cons_of_mem _ (List.mem_append_left _ (List.mem_append_right _ h))) (by decide +kernel))) (goodIn_sub (fun _ h => List.mem_cons_of_mem _ (List.mem_append_right _ h)) (by decide +kernel))
set_option maxRecDepth 20000 in
theorem gL_pour_X3_pour : GoodIn wsL_pour (wsV RL 70 RX3 yX3_pour wsX3_pour) := goodIn_app (goodIn_of _ (by decide +kernel)) ggL_pour_X3_pour
theorem dL_pour_0 : decode cL_pour 0 = .ok (.aload_n 3, 1) := by decide +kernel
theorem dL_pour_1 : decode cL_pour 1 = .ok (.iconst 0, 1) := by decide +kernel
theorem dL_pour_2 : decode cL_pour 2 = .ok (.aload_n 0, 1) := by decide +kernel
theorem dL_pour_3 : decode cL_pour 3 = .ok (.iload_n 1, 1) := by decide +kernel
theorem dL_pour_4 : decode cL_pour 4 = .ok (.iload_n 2, 1) := by decide +kernel
theorem dL_pour_5 : decode cL_pour 5 = .ok (.invokevirtual 70, 3) := by decide +kernel
theorem dL_pour_8 : decode cL_pour 8 = .ok (.lastore, 1) := by decide +kernel
theorem dL_pour_9 : decode cL_pour 9 = .ok (.goto 11, 3) := by decide +kernel
theorem dL_pour_12 : decode cL_pour 12 = .ok (.astore 4, 2) := by decide +kernel
theorem dL_pour_14 : decode cL_pour 14 = .ok (.iconst 1, 1) := by decide +kernel
theorem dL_pour_15 : decode cL_pour 15 = .ok (.ireturn, 1) := by decide +kernel
theorem dL_pour_16 : decode cL_pour 16 = .ok (.astore 4, 2) := by decide +kernel
theorem dL_pour_18 : decode cL_pour 18 = .ok (.iconst 2, 1) := by decide +kernel
theorem dL_pour_19 : decode cL_pour 19 = .ok (.ireturn, 1) := by decide +kernel
theorem dL_pour_20 : decode cL_pour 20 = .ok (.iconst 0, 1) := by decide +kernel
theorem dL_pour_21 : decode cL_pour 21 = .ok (.ireturn, 1) := by decide +kernel
set_option maxRecDepth 20000 in
theorem ggL_undo_X3_undo : GoodIn wsL_undo wsX3_undo := goodIn_ca (goodIn_r _ [6, 7, 8, 9, 10, 11, 12, 13, 14, 15, 16, 17, 18, 19, 20, 21, 22, 23, 24, 25, 26, 27, 28, 29, 30, 31, 32, 33, 34, 35, 36, 37, 38, 39, 40, 41, 42, 43, 44, 45, 46, 47, 48, 49, 50, 51, 52, 53, 54, 55, 56, 57, 58, 59, 60, 61, 62, 63, 64] (by decide +kernel) (by decide +kernel)) (goodIn_sub (fun _ h => List.mem_cons_of_mem _ (List.mem_append_right _ h)) (by decide +kernel))
set_option maxRecDepth 20000 in
theorem gL_undo_X3_undo : GoodIn wsL_undo (wsV RL 73 RX3 yX3_undo wsX3_undo) := goodIn_app (goodIn_of _ (by decide +kernel)) ggL_undo_X3_undo
theorem dL_undo_0 : decode cL_undo 0 = .ok (.aload_n 1, 1) := by decide +kernel
theorem dL_undo_1 : decode cL_undo 1 = .ok (.iconst 0, 1) := by decide +kernel
theorem dL_undo_2 : decode cL_undo 2 = .ok (.aload_n 0, 1) := by decide +kernel
theorem dL_undo_3 : decode cL_undo 3 = .ok (.invokevirtual 73, 3) := by decide +kernel
theorem dL_undo_6 : decode cL_undo 6 = .ok (.i2l, 1) := by decide +kernel
theorem dL_undo_7 : decode cL_undo 7 = .ok (.lastore, 1) := by decide +kernel
theorem dL_undo_8 : decode cL_undo 8 = .ok (.goto 6, 3) := by decide +kernel
theorem dL_undo_11 : decode cL_undo 11 = .ok (.astore_n 2, 1) := by decide +kernel
theorem dL_undo_12 : decode cL_undo 12 = .ok (.iconst 1, 1) := by decide +kernel
theorem dL_undo_13 : decode cL_undo 13 = .ok (.ireturn, 1) := by decide +kernel
theorem dL_undo_14 : decode cL_undo 14 = .ok (.iconst 0, 1) := by decide +kernel
theorem dL_undo_15 : decode cL_undo 15 = .ok (.ireturn, 1) := by decide +kernel
set_option maxRecDepth 20000 in
theorem ggL_settled_X3_settled : GoodIn wsL_settled wsX3_settled := goodIn_ca (goodIn_r _ [6, 7, 8, 9, 10, 11, 5, 12, 13, 14, 15, 16, 17, 18, 19, 20, 21, 22, 23, 24, 25, 26, 27, 28, 29, 30, 31, 32, 33, 34, 35, 36, 37, 38, 39, 40, 41, 42, 43, 44, 45, 46, 47, 48, 49, 50, 51, 52, 53, 54, 55, 56, 57, 58, 59, 60, 61, 62, 63, 64, 65, 66, 67, 68, 69, 70, 71, 72, 73, 74, 75, 76, 77, 78, 79, 80, 81, 82, 83, 84, 85, 86, 87, 88, 89, 90, 91, 92, 93, 94, 95, 96, 97, 98, 99, 100, 101, 102, 103, 104, 105, 106, 107, 108, 109, 110, 111, 112, 113] (by decide +kernel) (by decide +kernel)) (goodIn_sub (fun _ h => List.mem_cons_of_mem _ (List.mem_append_right _ h)) (by decide +kernel))
set_option maxRecDepth 20000 in
theorem gL_settled_X3_settled : GoodIn wsL_settled (wsV RL 76 RX3 yX3_settled wsX3_settled) := goodIn_app (goodIn_of _ (by decide +kernel)) ggL_settled_X3_settled
theorem dL_settled_0 : decode cL_settled 0 = .ok (.aload_n 2, 1) := by decide +kernel
theorem dL_settled_1 : decode cL_settled 1 = .ok (.iconst 0, 1) := by decide +kernel
theorem dL_settled_2 : decode cL_settled 2 = .ok (.aload_n 0, 1) := by decide +kernel
theorem dL_settled_3 : decode cL_settled 3 = .ok (.iload_n 1, 1) := by decide +kernel
theorem dL_settled_4 : decode cL_settled 4 = .ok (.invokevirtual 76, 3) := by decide +kernel
theorem dL_settled_7 : decode cL_settled 7 = .ok (.i2l, 1) := by decide +kernel
theorem dL_settled_8 : decode cL_settled 8 = .ok (.lastore, 1) := by decide +kernel
theorem dL_settled_9 : decode cL_settled 9 = .ok (.goto 6, 3) := by decide +kernel
theorem dL_settled_12 : decode cL_settled 12 = .ok (.astore_n 3, 1) := by decide +kernel
theorem dL_settled_13 : decode cL_settled 13 = .ok (.iconst 1, 1) := by decide +kernel
theorem dL_settled_14 : decode cL_settled 14 = .ok (.ireturn, 1) := by decide +kernel
theorem dL_settled_15 : decode cL_settled 15 = .ok (.iconst 0, 1) := by decide +kernel
theorem dL_settled_16 : decode cL_settled 16 = .ok (.ireturn, 1) := by decide +kernel
set_option maxRecDepth 20000 in
theorem ggL_shownAtLast_X3_shownAtLast : GoodIn wsL_shownAtLast wsX3_shownAtLast := goodIn_ca (goodIn_r _ [6, 7, 8, 9, 10, 11, 5, 12, 13, 14, 15, 16, 17, 18, 19, 20, 21, 22, 23, 24, 25, 26, 27, 28, 29, 30, 31, 32, 33, 34, 35, 36, 37, 38, 39, 40, 41, 42, 43, 44, 45, 46, 47, 48, 49, 50, 51, 52, 53, 54, 55, 56, 57, 58, 59, 60, 61, 62, 63, 64, 65, 66, 67, 68, 69, 70, 71, 72, 73, 74, 75, 76, 77, 78, 79, 80, 81, 82, 83, 84, 85, 86, 87, 88, 89, 90, 91, 92, 93, 94, 95, 96, 97, 98, 99, 100, 101, 102, 103, 104, 105, 106, 107, 108, 109, 110, 111, 112, 113, 114, 115, 116, 117] (by decide +kernel) (by decide +kernel)) (goodIn_sub (fun _ h => List.mem_cons_of_mem _ (List.mem_append_right _ h)) (by decide +kernel))
set_option maxRecDepth 20000 in
theorem gL_shownAtLast_X3_shownAtLast : GoodIn wsL_shownAtLast (wsV RL 79 RX3 yX3_shownAtLast wsX3_shownAtLast) := goodIn_app (goodIn_of _ (by decide +kernel)) ggL_shownAtLast_X3_shownAtLast
theorem dL_shownAtLast_0 : decode cL_shownAtLast 0 = .ok (.aload_n 2, 1) := by decide +kernel
theorem dL_shownAtLast_1 : decode cL_shownAtLast 1 = .ok (.iconst 0, 1) := by decide +kernel
theorem dL_shownAtLast_2 : decode cL_shownAtLast 2 = .ok (.aload_n 0, 1) := by decide +kernel
theorem dL_shownAtLast_3 : decode cL_shownAtLast 3 = .ok (.iload_n 1, 1) := by decide +kernel
theorem dL_shownAtLast_4 : decode cL_shownAtLast 4 = .ok (.invokevirtual 79, 3) := by decide +kernel
theorem dL_shownAtLast_7 : decode cL_shownAtLast 7 = .ok (.i2l, 1) := by decide +kernel
theorem dL_shownAtLast_8 : decode cL_shownAtLast 8 = .ok (.lastore, 1) := by decide +kernel
theorem dL_shownAtLast_9 : decode cL_shownAtLast 9 = .ok (.goto 6, 3) := by decide +kernel
theorem dL_shownAtLast_12 : decode cL_shownAtLast 12 = .ok (.astore_n 3, 1) := by decide +kernel
theorem dL_shownAtLast_13 : decode cL_shownAtLast 13 = .ok (.iconst 1, 1) := by decide +kernel
theorem dL_shownAtLast_14 : decode cL_shownAtLast 14 = .ok (.ireturn, 1) := by decide +kernel
theorem dL_shownAtLast_15 : decode cL_shownAtLast 15 = .ok (.iconst 0, 1) := by decide +kernel
theorem dL_shownAtLast_16 : decode cL_shownAtLast 16 = .ok (.ireturn, 1) := by decide +kernel
set_option maxRecDepth 20000 in
theorem ggL_whenShown_X3_whenShown : GoodIn wsL_whenShown wsX3_whenShown := goodIn_ca (goodIn_ca (goodIn_r _ [7, 8, 9, 10, 11, 12, 6, 13, 14, 15, 16, 17, 18, 19, 20, 21, 22, 23, 24, 25, 26, 27, 28, 29, 30, 31, 32, 33, 34, 35, 36, 37, 38, 39, 40, 41, 42, 43, 44, 45, 46, 47, 48, 49, 50, 51, 52, 53, 54, 55, 56, 57, 58, 59, 60, 61, 62, 63, 64, 65, 66, 67, 68, 69, 70, 71, 72, 73, 74, 75, 76, 77, 78, 79, 80, 81, 82, 83, 84, 85, 86, 87, 88, 89, 90, 91, 92, 93, 94, 95, 96, 97, 98, 99, 100, 101, 102, 103, 104, 105, 106, 107, 108, 109, 110, 111, 112, 113, 114, 115, 116, 117, 118, 119, 120, 121, 122, 123] (by decide +kernel) (by decide +kernel)) (goodIn_sub (fun _ h => List.mem_cons_of_mem _ (List.mem_append_left _ (List.mem_append_right _ h))) (by decide +kernel))) (goodIn_sub (fun _ h => List.mem_cons_of_mem _ (List.mem_append_right _ h)) (by decide +kernel))
set_option maxRecDepth 20000 in
theorem gL_whenShown_X3_whenShown : GoodIn wsL_whenShown (wsV RL 82 RX3 yX3_whenShown wsX3_whenShown) := goodIn_app (goodIn_of _ (by decide +kernel)) ggL_whenShown_X3_whenShown
theorem dL_whenShown_0 : decode cL_whenShown 0 = .ok (.aload_n 3, 1) := by decide +kernel
theorem dL_whenShown_1 : decode cL_whenShown 1 = .ok (.iconst 0, 1) := by decide +kernel
theorem dL_whenShown_2 : decode cL_whenShown 2 = .ok (.aload_n 0, 1) := by decide +kernel
theorem dL_whenShown_3 : decode cL_whenShown 3 = .ok (.iload_n 1, 1) := by decide +kernel
theorem dL_whenShown_4 : decode cL_whenShown 4 = .ok (.iload_n 2, 1) := by decide +kernel
theorem dL_whenShown_5 : decode cL_whenShown 5 = .ok (.invokevirtual 82, 3) := by decide +kernel
theorem dL_whenShown_8 : decode cL_whenShown 8 = .ok (.i2l, 1) := by decide +kernel
theorem dL_whenShown_9 : decode cL_whenShown 9 = .ok (.lastore, 1) := by decide +kernel
theorem dL_whenShown_10 : decode cL_whenShown 10 = .ok (.goto 11, 3) := by decide +kernel
theorem dL_whenShown_13 : decode cL_whenShown 13 = .ok (.astore 4, 2) := by decide +kernel
theorem dL_whenShown_15 : decode cL_whenShown 15 = .ok (.iconst 1, 1) := by decide +kernel
theorem dL_whenShown_16 : decode cL_whenShown 16 = .ok (.ireturn, 1) := by decide +kernel
theorem dL_whenShown_17 : decode cL_whenShown 17 = .ok (.astore 4, 2) := by decide +kernel
theorem dL_whenShown_19 : decode cL_whenShown 19 = .ok (.iconst 2, 1) := by decide +kernel
theorem dL_whenShown_20 : decode cL_whenShown 20 = .ok (.ireturn, 1) := by decide +kernel
theorem dL_whenShown_21 : decode cL_whenShown 21 = .ok (.iconst 0, 1) := by decide +kernel
theorem dL_whenShown_22 : decode cL_whenShown 22 = .ok (.ireturn, 1) := by decide +kernel
set_option maxRecDepth 20000 in
theorem ggL_leastPace_X3_leastPace : GoodIn wsL_leastPace wsX3_leastPace := goodIn_ca (goodIn_r _ [6, 7, 8, 9, 10, 11, 5, 12, 13, 14, 15, 16, 17, 18, 19, 20, 21, 22, 23, 24, 25, 26, 27, 28, 29, 30, 31, 32, 33, 34, 35, 36, 37, 38, 39, 40, 41, 42, 43, 44, 45, 46, 47, 48, 49, 50, 51, 52, 53, 54, 55, 56, 57, 58, 59, 60, 61, 62, 63, 64, 65, 66, 67, 68, 69, 70, 71, 72, 73, 74, 75, 76, 77, 78, 79, 80, 81, 82, 83, 84, 85, 86, 87, 88, 89, 90, 91, 92, 93, 94, 95, 96, 97, 98, 99, 100] (by decide +kernel) (by decide +kernel)) (goodIn_sub (fun _ h => List.mem_cons_of_mem _ (List.mem_append_right _ h)) (by decide +kernel))
set_option maxRecDepth 20000 in
theorem gL_leastPace_X3_leastPace : GoodIn wsL_leastPace (wsV RL 85 RX3 yX3_leastPace wsX3_leastPace) := goodIn_app (goodIn_of _ (by decide +kernel)) ggL_leastPace_X3_leastPace
theorem dL_leastPace_0 : decode cL_leastPace 0 = .ok (.aload_n 2, 1) := by decide +kernel
theorem dL_leastPace_1 : decode cL_leastPace 1 = .ok (.iconst 0, 1) := by decide +kernel
theorem dL_leastPace_2 : decode cL_leastPace 2 = .ok (.aload_n 0, 1) := by decide +kernel
theorem dL_leastPace_3 : decode cL_leastPace 3 = .ok (.iload_n 1, 1) := by decide +kernel
theorem dL_leastPace_4 : decode cL_leastPace 4 = .ok (.invokevirtual 85, 3) := by decide +kernel
theorem dL_leastPace_7 : decode cL_leastPace 7 = .ok (.i2l, 1) := by decide +kernel
theorem dL_leastPace_8 : decode cL_leastPace 8 = .ok (.lastore, 1) := by decide +kernel
theorem dL_leastPace_9 : decode cL_leastPace 9 = .ok (.goto 6, 3) := by decide +kernel
theorem dL_leastPace_12 : decode cL_leastPace 12 = .ok (.astore_n 3, 1) := by decide +kernel
theorem dL_leastPace_13 : decode cL_leastPace 13 = .ok (.iconst 1, 1) := by decide +kernel
theorem dL_leastPace_14 : decode cL_leastPace 14 = .ok (.ireturn, 1) := by decide +kernel
theorem dL_leastPace_15 : decode cL_leastPace 15 = .ok (.iconst 0, 1) := by decide +kernel
theorem dL_leastPace_16 : decode cL_leastPace 16 = .ok (.ireturn, 1) := by decide +kernel
set_option maxRecDepth 20000 in
theorem ggL_slowest_X3_slowest : GoodIn wsL_slowest wsX3_slowest := goodIn_ca (goodIn_r _ [6, 7, 8, 9, 10, 11, 12, 5, 13, 14, 15, 16, 17, 18, 19, 20, 21, 22, 23, 24, 25, 26, 27, 28, 29, 30, 31, 32, 33, 34, 35, 36, 37, 38, 39, 40, 41, 42, 43, 44, 45, 46, 47, 48, 49, 50, 51, 52, 53, 54, 55, 56, 57, 58, 59, 60, 61, 62, 63, 64, 65, 66, 67, 68, 69, 70, 71, 72, 73, 74, 75, 76, 77, 78, 79, 80, 81, 82, 83, 84, 85, 86, 87, 88, 89, 90, 91, 92, 93, 94, 95, 96, 97, 98, 99, 100, 101, 102, 103, 104, 105, 106, 107, 108, 109, 110, 111, 112, 113, 114, 115, 116, 117, 118, 119, 120, 121, 122, 123, 124] (by decide +kernel) (by decide +kernel)) (goodIn_sub (fun _ h => List.mem_cons_of_mem _ (List.mem_append_right _ h)) (by decide +kernel))
set_option maxRecDepth 20000 in
theorem gL_slowest_X3_slowest : GoodIn wsL_slowest (wsV RL 88 RX3 yX3_slowest wsX3_slowest) := goodIn_app (goodIn_of _ (by decide +kernel)) ggL_slowest_X3_slowest
theorem dL_slowest_0 : decode cL_slowest 0 = .ok (.aload_n 2, 1) := by decide +kernel
theorem dL_slowest_1 : decode cL_slowest 1 = .ok (.iconst 0, 1) := by decide +kernel
theorem dL_slowest_2 : decode cL_slowest 2 = .ok (.aload_n 0, 1) := by decide +kernel
theorem dL_slowest_3 : decode cL_slowest 3 = .ok (.iload_n 1, 1) := by decide +kernel
theorem dL_slowest_4 : decode cL_slowest 4 = .ok (.invokevirtual 88, 3) := by decide +kernel
theorem dL_slowest_7 : decode cL_slowest 7 = .ok (.i2l, 1) := by decide +kernel
theorem dL_slowest_8 : decode cL_slowest 8 = .ok (.lastore, 1) := by decide +kernel
theorem dL_slowest_9 : decode cL_slowest 9 = .ok (.goto 6, 3) := by decide +kernel
theorem dL_slowest_12 : decode cL_slowest 12 = .ok (.astore_n 3, 1) := by decide +kernel
theorem dL_slowest_13 : decode cL_slowest 13 = .ok (.iconst 1, 1) := by decide +kernel
theorem dL_slowest_14 : decode cL_slowest 14 = .ok (.ireturn, 1) := by decide +kernel
theorem dL_slowest_15 : decode cL_slowest 15 = .ok (.iconst 0, 1) := by decide +kernel
theorem dL_slowest_16 : decode cL_slowest 16 = .ok (.ireturn, 1) := by decide +kernel
set_option maxRecDepth 20000 in
theorem ggL_doubles_X3_doubles : GoodIn wsL_doubles wsX3_doubles := goodIn_ca (goodIn_ca (goodIn_r _ [7, 8, 9, 10, 11, 12, 6, 13, 14, 15, 16, 17, 18, 19, 20, 21, 22, 23, 24, 25, 26, 27, 28, 29, 30, 31, 32, 33, 34, 35, 36, 37, 38, 39, 40, 41, 42, 43, 44, 45, 46, 47, 48, 49, 50, 51, 52, 53, 54, 55, 56, 57, 58, 59, 60, 61, 62, 63, 64, 65, 66, 67, 68, 69, 70, 71, 72, 73, 74, 75, 76, 77, 78, 79, 80, 81, 82, 83, 84, 85, 86, 87, 88, 89, 90, 91, 92, 93, 94, 95, 96, 97, 98, 99, 100, 101, 102, 103, 104, 105, 106, 107, 108, 109, 110, 111, 112, 113, 114, 115, 116, 117, 118, 119, 120, 121, 122, 123, 124, 125, 126, 127] (by decide +kernel) (by decide +kernel)) (goodIn_sub (fun _ h => List.mem_cons_of_mem _ (List.mem_append_left _ (List.mem_append_right _ h))) (by decide +kernel))) (goodIn_sub (fun _ h => List.mem_cons_of_mem _ (List.mem_append_right _ h)) (by decide +kernel))
set_option maxRecDepth 20000 in
theorem gL_doubles_X3_doubles : GoodIn wsL_doubles (wsV RL 91 RX3 yX3_doubles wsX3_doubles) := goodIn_app (goodIn_of _ (by decide +kernel)) ggL_doubles_X3_doubles
theorem dL_doubles_0 : decode cL_doubles 0 = .ok (.aload_n 3, 1) := by decide +kernel
theorem dL_doubles_1 : decode cL_doubles 1 = .ok (.iconst 0, 1) := by decide +kernel
theorem dL_doubles_2 : decode cL_doubles 2 = .ok (.aload_n 0, 1) := by decide +kernel
theorem dL_doubles_3 : decode cL_doubles 3 = .ok (.iload_n 1, 1) := by decide +kernel
theorem dL_doubles_4 : decode cL_doubles 4 = .ok (.iload_n 2, 1) := by decide +kernel
theorem dL_doubles_5 : decode cL_doubles 5 = .ok (.invokevirtual 91, 3) := by decide +kernel
theorem dL_doubles_8 : decode cL_doubles 8 = .ok (.i2l, 1) := by decide +kernel
theorem dL_doubles_9 : decode cL_doubles 9 = .ok (.lastore, 1) := by decide +kernel
theorem dL_doubles_10 : decode cL_doubles 10 = .ok (.goto 11, 3) := by decide +kernel
theorem dL_doubles_13 : decode cL_doubles 13 = .ok (.astore 4, 2) := by decide +kernel
theorem dL_doubles_15 : decode cL_doubles 15 = .ok (.iconst 1, 1) := by decide +kernel
theorem dL_doubles_16 : decode cL_doubles 16 = .ok (.ireturn, 1) := by decide +kernel
theorem dL_doubles_17 : decode cL_doubles 17 = .ok (.astore 4, 2) := by decide +kernel
theorem dL_doubles_19 : decode cL_doubles 19 = .ok (.iconst 2, 1) := by decide +kernel
theorem dL_doubles_20 : decode cL_doubles 20 = .ok (.ireturn, 1) := by decide +kernel
theorem dL_doubles_21 : decode cL_doubles 21 = .ok (.iconst 0, 1) := by decide +kernel
theorem dL_doubles_22 : decode cL_doubles 22 = .ok (.ireturn, 1) := by decide +kernel
set_option maxRecDepth 20000 in
theorem ggL_runScript_X3_runScript : GoodIn wsL_runScript wsX3_runScript := goodIn_ca (goodIn_r _ [6, 7, 8, 9, 10, 11, 12, 13, 5, 14, 15, 16, 17, 18, 19, 20, 21, 22, 23, 24, 25, 26, 27, 28, 29, 30, 31, 32, 33, 34, 35, 36, 37, 38, 39, 40, 41, 42, 43, 44, 45, 46, 47, 48, 49, 50, 51, 52, 53, 54, 55, 56, 57, 58, 59, 60, 61, 62, 63, 64, 65, 66, 67, 68, 69, 70, 71, 72, 73, 74, 75, 76, 77, 78, 79, 80, 81, 82, 83, 84, 85, 86, 87, 88, 89, 90, 91, 92, 93, 94, 95, 96, 97, 98, 99, 100, 101, 102, 103, 104, 105, 106, 107, 108, 109, 110, 111, 112, 113, 114, 115, 116, 117, 118, 119, 120, 121, 122, 123, 124, 125, 126, 127, 128, 129, 130, 131, 132, 133, 134, 135, 136, 137, 138, 139, 140, 141, 142, 143, 144, 145, 146, 147, 148, 149, 150, 151, 152, 153, 154, 155, 156, 157, 158, 159, 160, 161, 162, 163] (by decide +kernel) (by decide +kernel)) (goodIn_sub (fun _ h => List.mem_cons_of_mem _ (List.mem_append_right _ h)) (by decide +kernel))
set_option maxRecDepth 20000 in
theorem gL_runScript_X3_runScript : GoodIn wsL_runScript (wsV RL 94 RX3 yX3_runScript wsX3_runScript) := goodIn_app (goodIn_of _ (by decide +kernel)) ggL_runScript_X3_runScript
theorem dL_runScript_0 : decode cL_runScript 0 = .ok (.aload 4, 2) := by decide +kernel
theorem dL_runScript_2 : decode cL_runScript 2 = .ok (.iconst 0, 1) := by decide +kernel
theorem dL_runScript_3 : decode cL_runScript 3 = .ok (.aload_n 0, 1) := by decide +kernel
theorem dL_runScript_4 : decode cL_runScript 4 = .ok (.iload_n 1, 1) := by decide +kernel
theorem dL_runScript_5 : decode cL_runScript 5 = .ok (.lload_n 2, 1) := by decide +kernel
theorem dL_runScript_6 : decode cL_runScript 6 = .ok (.invokevirtual 94, 3) := by decide +kernel
theorem dL_runScript_9 : decode cL_runScript 9 = .ok (.i2l, 1) := by decide +kernel
theorem dL_runScript_10 : decode cL_runScript 10 = .ok (.lastore, 1) := by decide +kernel
theorem dL_runScript_11 : decode cL_runScript 11 = .ok (.goto 7, 3) := by decide +kernel
theorem dL_runScript_14 : decode cL_runScript 14 = .ok (.astore 5, 2) := by decide +kernel
theorem dL_runScript_16 : decode cL_runScript 16 = .ok (.iconst 1, 1) := by decide +kernel
theorem dL_runScript_17 : decode cL_runScript 17 = .ok (.ireturn, 1) := by decide +kernel
theorem dL_runScript_18 : decode cL_runScript 18 = .ok (.iconst 0, 1) := by decide +kernel
theorem dL_runScript_19 : decode cL_runScript 19 = .ok (.ireturn, 1) := by decide +kernel
set_option maxRecDepth 20000 in
theorem ggL_simulate_X3_simulate : GoodIn wsL_simulate wsX3_simulate := goodIn_ca (goodIn_r _ [6, 7, 8, 9, 10, 11, 12, 5, 13, 14, 15, 16, 17, 18, 19, 20, 21, 22, 23, 24, 25, 26, 27, 28, 29, 30, 31, 32, 33, 34, 35, 36, 37, 38, 39, 40, 41, 42, 43, 44, 45, 46, 47, 48, 49, 50, 51, 52, 53, 54, 55, 56, 57, 58, 59, 60, 61, 62, 63, 64, 65, 66, 67, 68, 69, 70, 71, 72, 73, 74, 75, 76, 77, 78, 79, 80, 81, 82, 83, 84, 85, 86, 87, 88, 89, 90, 91, 92, 93, 94, 95, 96, 97, 98, 99, 100, 101, 102, 103, 104, 105, 106, 107, 108, 109, 110, 111, 112, 113, 114, 115, 116, 117, 118, 119, 120, 121, 122, 123, 124, 125, 126, 127, 128, 129, 130, 131, 132, 133, 134, 135, 136, 137, 138, 139, 140, 141, 142, 143, 144, 145, 146, 147, 148, 149, 150, 151, 152, 153, 154, 155, 156, 157, 158, 159, 160, 161] (by decide +kernel) (by decide +kernel)) (goodIn_sub (fun _ h => List.mem_cons_of_mem _ (List.mem_append_right _ h)) (by decide +kernel))
set_option maxRecDepth 20000 in
theorem gL_simulate_X3_simulate : GoodIn wsL_simulate (wsV RL 98 RX3 yX3_simulate wsX3_simulate) := goodIn_app (goodIn_of _ (by decide +kernel)) ggL_simulate_X3_simulate
theorem dL_simulate_0 : decode cL_simulate 0 = .ok (.aload 4, 2) := by decide +kernel
theorem dL_simulate_2 : decode cL_simulate 2 = .ok (.iconst 0, 1) := by decide +kernel
theorem dL_simulate_3 : decode cL_simulate 3 = .ok (.aload_n 0, 1) := by decide +kernel
theorem dL_simulate_4 : decode cL_simulate 4 = .ok (.lload_n 1, 1) := by decide +kernel
theorem dL_simulate_5 : decode cL_simulate 5 = .ok (.iload_n 3, 1) := by decide +kernel
theorem dL_simulate_6 : decode cL_simulate 6 = .ok (.invokevirtual 98, 3) := by decide +kernel
theorem dL_simulate_9 : decode cL_simulate 9 = .ok (.i2l, 1) := by decide +kernel
theorem dL_simulate_10 : decode cL_simulate 10 = .ok (.lastore, 1) := by decide +kernel
theorem dL_simulate_11 : decode cL_simulate 11 = .ok (.goto 7, 3) := by decide +kernel
theorem dL_simulate_14 : decode cL_simulate 14 = .ok (.astore 5, 2) := by decide +kernel
theorem dL_simulate_16 : decode cL_simulate 16 = .ok (.iconst 1, 1) := by decide +kernel
theorem dL_simulate_17 : decode cL_simulate 17 = .ok (.ireturn, 1) := by decide +kernel
theorem dL_simulate_18 : decode cL_simulate 18 = .ok (.iconst 0, 1) := by decide +kernel
theorem dL_simulate_19 : decode cL_simulate 19 = .ok (.ireturn, 1) := by decide +kernel
