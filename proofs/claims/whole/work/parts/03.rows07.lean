set_option maxRecDepth 20000 in
theorem ggX4_drawOn_X4_shownOn : GoodIn wsX4_drawOn wsX4_shownOn := goodIn_r _ [4, 5, 6, 3, 7] (by decide +kernel) (by decide +kernel)
set_option maxRecDepth 20000 in
theorem gX4_drawOn_X4_shownOn : GoodIn wsX4_drawOn (va_wsS RX4 107 yX4_shownOn wsX4_shownOn) := goodIn_app (goodIn_of _ (by decide +kernel)) ggX4_drawOn_X4_shownOn
set_option maxRecDepth 20000 in
theorem ggX4_drawOn_X4_worthOn : GoodIn wsX4_drawOn wsX4_worthOn := goodIn_r _ [10, 11, 5, 6, 3, 7] (by decide +kernel) (by decide +kernel)
set_option maxRecDepth 20000 in
theorem gX4_drawOn_X4_worthOn : GoodIn wsX4_drawOn (va_wsS RX4 110 yX4_worthOn wsX4_worthOn) := goodIn_app (goodIn_of _ (by decide +kernel)) ggX4_drawOn_X4_worthOn
set_option maxRecDepth 20000 in
theorem ggX4_drawOn_X4_at : GoodIn wsX4_drawOn wsX4_at := goodIn_r _ [7] (by decide +kernel) (by decide +kernel)
set_option maxRecDepth 20000 in
theorem gX4_drawOn_X4_at : GoodIn wsX4_drawOn (va_wsS RX4 39 yX4_at wsX4_at) := goodIn_app (goodIn_of _ (by decide +kernel)) ggX4_drawOn_X4_at
theorem dX4_drawOn_0 : decode cX4_drawOn 0 = .ok (.sipush 136, 3) := by decide +kernel
theorem dX4_drawOn_3 : decode cX4_drawOn 3 = .ok (.iconst 4, 1) := by decide +kernel
theorem dX4_drawOn_4 : decode cX4_drawOn 4 = .ok (.aload_n 0, 1) := by decide +kernel
theorem dX4_drawOn_5 : decode cX4_drawOn 5 = .ok (.iconst 3, 1) := by decide +kernel
theorem dX4_drawOn_6 : decode cX4_drawOn 6 = .ok (.iaload, 1) := by decide +kernel
theorem dX4_drawOn_7 : decode cX4_drawOn 7 = .ok (.imul, 1) := by decide +kernel
theorem dX4_drawOn_8 : decode cX4_drawOn 8 = .ok (.iadd, 1) := by decide +kernel
theorem dX4_drawOn_9 : decode cX4_drawOn 9 = .ok (.istore_n 2, 1) := by decide +kernel
theorem dX4_drawOn_10 : decode cX4_drawOn 10 = .ok (.aload_n 0, 1) := by decide +kernel
theorem dX4_drawOn_11 : decode cX4_drawOn 11 = .ok (.iload_n 1, 1) := by decide +kernel
theorem dX4_drawOn_12 : decode cX4_drawOn 12 = .ok (.invokestatic 107, 3) := by decide +kernel
theorem dX4_drawOn_15 : decode cX4_drawOn 15 = .ok (.istore_n 3, 1) := by decide +kernel
theorem dX4_drawOn_16 : decode cX4_drawOn 16 = .ok (.aload_n 0, 1) := by decide +kernel
theorem dX4_drawOn_17 : decode cX4_drawOn 17 = .ok (.iload_n 2, 1) := by decide +kernel
theorem dX4_drawOn_18 : decode cX4_drawOn 18 = .ok (.iload_n 1, 1) := by decide +kernel
theorem dX4_drawOn_19 : decode cX4_drawOn 19 = .ok (.iastore, 1) := by decide +kernel
theorem dX4_drawOn_20 : decode cX4_drawOn 20 = .ok (.aload_n 0, 1) := by decide +kernel
theorem dX4_drawOn_21 : decode cX4_drawOn 21 = .ok (.iload_n 2, 1) := by decide +kernel
theorem dX4_drawOn_22 : decode cX4_drawOn 22 = .ok (.iconst 1, 1) := by decide +kernel
theorem dX4_drawOn_23 : decode cX4_drawOn 23 = .ok (.iadd, 1) := by decide +kernel
theorem dX4_drawOn_24 : decode cX4_drawOn 24 = .ok (.iload_n 3, 1) := by decide +kernel
theorem dX4_drawOn_25 : decode cX4_drawOn 25 = .ok (.iastore, 1) := by decide +kernel
theorem dX4_drawOn_26 : decode cX4_drawOn 26 = .ok (.aload_n 0, 1) := by decide +kernel
theorem dX4_drawOn_27 : decode cX4_drawOn 27 = .ok (.iload_n 2, 1) := by decide +kernel
theorem dX4_drawOn_28 : decode cX4_drawOn 28 = .ok (.iconst 2, 1) := by decide +kernel
theorem dX4_drawOn_29 : decode cX4_drawOn 29 = .ok (.iadd, 1) := by decide +kernel
theorem dX4_drawOn_30 : decode cX4_drawOn 30 = .ok (.aload_n 0, 1) := by decide +kernel
theorem dX4_drawOn_31 : decode cX4_drawOn 31 = .ok (.iconst 2, 1) := by decide +kernel
theorem dX4_drawOn_32 : decode cX4_drawOn 32 = .ok (.iaload, 1) := by decide +kernel
theorem dX4_drawOn_33 : decode cX4_drawOn 33 = .ok (.iastore, 1) := by decide +kernel
theorem dX4_drawOn_34 : decode cX4_drawOn 34 = .ok (.aload_n 0, 1) := by decide +kernel
theorem dX4_drawOn_35 : decode cX4_drawOn 35 = .ok (.iload_n 2, 1) := by decide +kernel
theorem dX4_drawOn_36 : decode cX4_drawOn 36 = .ok (.iconst 3, 1) := by decide +kernel
theorem dX4_drawOn_37 : decode cX4_drawOn 37 = .ok (.iadd, 1) := by decide +kernel
theorem dX4_drawOn_38 : decode cX4_drawOn 38 = .ok (.aload_n 0, 1) := by decide +kernel
theorem dX4_drawOn_39 : decode cX4_drawOn 39 = .ok (.iload_n 1, 1) := by decide +kernel
theorem dX4_drawOn_40 : decode cX4_drawOn 40 = .ok (.invokestatic 110, 3) := by decide +kernel
theorem dX4_drawOn_43 : decode cX4_drawOn 43 = .ok (.iload_n 3, 1) := by decide +kernel
theorem dX4_drawOn_44 : decode cX4_drawOn 44 = .ok (.i2l, 1) := by decide +kernel
theorem dX4_drawOn_45 : decode cX4_drawOn 45 = .ok (.lsub, 1) := by decide +kernel
theorem dX4_drawOn_46 : decode cX4_drawOn 46 = .ok (.l2i, 1) := by decide +kernel
theorem dX4_drawOn_47 : decode cX4_drawOn 47 = .ok (.iastore, 1) := by decide +kernel
theorem dX4_drawOn_48 : decode cX4_drawOn 48 = .ok (.aload_n 0, 1) := by decide +kernel
theorem dX4_drawOn_49 : decode cX4_drawOn 49 = .ok (.iload_n 1, 1) := by decide +kernel
theorem dX4_drawOn_50 : decode cX4_drawOn 50 = .ok (.invokestatic 39, 3) := by decide +kernel
theorem dX4_drawOn_53 : decode cX4_drawOn 53 = .ok (.iconst 3, 1) := by decide +kernel
theorem dX4_drawOn_54 : decode cX4_drawOn 54 = .ok (.iadd, 1) := by decide +kernel
theorem dX4_drawOn_55 : decode cX4_drawOn 55 = .ok (.dup2, 1) := by decide +kernel
theorem dX4_drawOn_56 : decode cX4_drawOn 56 = .ok (.iaload, 1) := by decide +kernel
theorem dX4_drawOn_57 : decode cX4_drawOn 57 = .ok (.iconst 1, 1) := by decide +kernel
theorem dX4_drawOn_58 : decode cX4_drawOn 58 = .ok (.iadd, 1) := by decide +kernel
theorem dX4_drawOn_59 : decode cX4_drawOn 59 = .ok (.iastore, 1) := by decide +kernel
theorem dX4_drawOn_60 : decode cX4_drawOn 60 = .ok (.aload_n 0, 1) := by decide +kernel
theorem dX4_drawOn_61 : decode cX4_drawOn 61 = .ok (.iload_n 1, 1) := by decide +kernel
theorem dX4_drawOn_62 : decode cX4_drawOn 62 = .ok (.invokestatic 39, 3) := by decide +kernel
theorem dX4_drawOn_65 : decode cX4_drawOn 65 = .ok (.bipush 13, 2) := by decide +kernel
theorem dX4_drawOn_67 : decode cX4_drawOn 67 = .ok (.iadd, 1) := by decide +kernel
theorem dX4_drawOn_68 : decode cX4_drawOn 68 = .ok (.dup2, 1) := by decide +kernel
theorem dX4_drawOn_69 : decode cX4_drawOn 69 = .ok (.iaload, 1) := by decide +kernel
theorem dX4_drawOn_70 : decode cX4_drawOn 70 = .ok (.iconst 1, 1) := by decide +kernel
theorem dX4_drawOn_71 : decode cX4_drawOn 71 = .ok (.iadd, 1) := by decide +kernel
theorem dX4_drawOn_72 : decode cX4_drawOn 72 = .ok (.iastore, 1) := by decide +kernel
theorem dX4_drawOn_73 : decode cX4_drawOn 73 = .ok (.aload_n 0, 1) := by decide +kernel
theorem dX4_drawOn_74 : decode cX4_drawOn 74 = .ok (.iconst 3, 1) := by decide +kernel
theorem dX4_drawOn_75 : decode cX4_drawOn 75 = .ok (.dup2, 1) := by decide +kernel
theorem dX4_drawOn_76 : decode cX4_drawOn 76 = .ok (.iaload, 1) := by decide +kernel
theorem dX4_drawOn_77 : decode cX4_drawOn 77 = .ok (.iconst 1, 1) := by decide +kernel
theorem dX4_drawOn_78 : decode cX4_drawOn 78 = .ok (.iadd, 1) := by decide +kernel
theorem dX4_drawOn_79 : decode cX4_drawOn 79 = .ok (.iastore, 1) := by decide +kernel
theorem dX4_drawOn_80 : decode cX4_drawOn 80 = .ok (.iload_n 3, 1) := by decide +kernel
theorem dX4_drawOn_81 : decode cX4_drawOn 81 = .ok (.ireturn, 1) := by decide +kernel
set_option maxRecDepth 20000 in
theorem ggX4_draw_X4_isCounter : GoodIn wsX4_draw wsX4_isCounter := goodIn_r _ [5, 6, 7, 4, 8] (by decide +kernel) (by decide +kernel)
set_option maxRecDepth 20000 in
theorem gX4_draw_X4_isCounter : GoodIn wsX4_draw (va_wsS RX4 103 yX4_isCounter wsX4_isCounter) := goodIn_app (goodIn_of _ (by decide +kernel)) ggX4_draw_X4_isCounter
set_option maxRecDepth 20000 in
theorem ggX4_draw_X4_refused : GoodIn wsX4_draw wsX4_refused := goodIn_r _ [12, 13, 36, 37, 38, 39, 40, 41, 42, 43, 44, 45, 46] (by decide +kernel) (by decide +kernel)
set_option maxRecDepth 20000 in
theorem gX4_draw_X4_refused : GoodIn wsX4_draw (wsV RX4 76 RX4 yX4_refused wsX4_refused) := goodIn_app (goodIn_of _ (by decide +kernel)) ggX4_draw_X4_refused
set_option maxRecDepth 20000 in
theorem ggX4_draw_X4_remember : GoodIn wsX4_draw wsX4_remember := goodIn_r _ [17, 18, 19, 1, 20, 21, 4, 22, 36, 37, 38, 39, 40, 41, 42, 43, 44, 45, 46] (by decide +kernel) (by decide +kernel)
set_option maxRecDepth 20000 in
theorem gX4_draw_X4_remember : GoodIn wsX4_draw (wsV RX4 137 RX4 yX4_remember wsX4_remember) := goodIn_app (goodIn_of _ (by decide +kernel)) ggX4_draw_X4_remember
set_option maxRecDepth 20000 in
theorem ggX4_draw_X4_drawOn : GoodIn wsX4_draw wsX4_drawOn := goodIn_r _ [25, 26, 27, 4, 28, 29, 30, 31, 32, 33, 34, 35] (by decide +kernel) (by decide +kernel)
set_option maxRecDepth 20000 in
theorem gX4_draw_X4_drawOn : GoodIn wsX4_draw (va_wsS RX4 144 yX4_drawOn wsX4_drawOn) := goodIn_app (goodIn_of _ (by decide +kernel)) ggX4_draw_X4_drawOn
theorem dX4_draw_0 : decode cX4_draw 0 = .ok (.aload_n 0, 1) := by decide +kernel
theorem dX4_draw_1 : decode cX4_draw 1 = .ok (.aload_n 0, 1) := by decide +kernel
theorem dX4_draw_2 : decode cX4_draw 2 = .ok (.getfield 13, 3) := by decide +kernel
theorem dX4_draw_5 : decode cX4_draw 5 = .ok (.iload_n 1, 1) := by decide +kernel
theorem dX4_draw_6 : decode cX4_draw 6 = .ok (.invokestatic 103, 3) := by decide +kernel
theorem dX4_draw_9 : decode cX4_draw 9 = .ok (.ifCond .ne 7, 3) := by decide +kernel
theorem dX4_draw_12 : decode cX4_draw 12 = .ok (.iconst 1, 1) := by decide +kernel
theorem dX4_draw_13 : decode cX4_draw 13 = .ok (.goto 19, 3) := by decide +kernel
theorem dX4_draw_16 : decode cX4_draw 16 = .ok (.aload_n 0, 1) := by decide +kernel
theorem dX4_draw_17 : decode cX4_draw 17 = .ok (.getfield 13, 3) := by decide +kernel
theorem dX4_draw_20 : decode cX4_draw 20 = .ok (.iconst 3, 1) := by decide +kernel
theorem dX4_draw_21 : decode cX4_draw 21 = .ok (.iaload, 1) := by decide +kernel
theorem dX4_draw_22 : decode cX4_draw 22 = .ok (.bipush 40, 2) := by decide +kernel
theorem dX4_draw_24 : decode cX4_draw 24 = .ok (.if_icmp .ge 7, 3) := by decide +kernel
theorem dX4_draw_27 : decode cX4_draw 27 = .ok (.iconst 0, 1) := by decide +kernel
theorem dX4_draw_28 : decode cX4_draw 28 = .ok (.goto 4, 3) := by decide +kernel
theorem dX4_draw_31 : decode cX4_draw 31 = .ok (.iconst 2, 1) := by decide +kernel
theorem dX4_draw_32 : decode cX4_draw 32 = .ok (.invokevirtual 76, 3) := by decide +kernel
theorem dX4_draw_35 : decode cX4_draw 35 = .ok (.ifCond .eq 5, 3) := by decide +kernel
theorem dX4_draw_38 : decode cX4_draw 38 = .ok (.iconst 0, 1) := by decide +kernel
theorem dX4_draw_39 : decode cX4_draw 39 = .ok (.ireturn, 1) := by decide +kernel
theorem dX4_draw_40 : decode cX4_draw 40 = .ok (.aload_n 0, 1) := by decide +kernel
theorem dX4_draw_41 : decode cX4_draw 41 = .ok (.invokevirtual 137, 3) := by decide +kernel
theorem dX4_draw_44 : decode cX4_draw 44 = .ok (.aload_n 0, 1) := by decide +kernel
theorem dX4_draw_45 : decode cX4_draw 45 = .ok (.getfield 13, 3) := by decide +kernel
theorem dX4_draw_48 : decode cX4_draw 48 = .ok (.iload_n 1, 1) := by decide +kernel
theorem dX4_draw_49 : decode cX4_draw 49 = .ok (.invokestatic 144, 3) := by decide +kernel
theorem dX4_draw_52 : decode cX4_draw 52 = .ok (.ireturn, 1) := by decide +kernel
set_option maxRecDepth 20000 in
theorem ggX4_beatsOn_X4_beat : GoodIn wsX4_beatsOn wsX4_beat := goodIn_r _ [5, 6, 7, 8, 9, 4, 10, 11, 12, 13, 20, 21, 22, 23, 24, 25, 26, 27, 28, 29, 30] (by decide +kernel) (by decide +kernel)
set_option maxRecDepth 20000 in
theorem gX4_beatsOn_X4_beat : GoodIn wsX4_beatsOn (wsV RX4 147 RX4 yX4_beat wsX4_beat) := goodIn_app (goodIn_of _ (by decide +kernel)) ggX4_beatsOn_X4_beat
set_option maxRecDepth 20000 in
theorem ggX4_beatsOn_X4_settledOn : GoodIn wsX4_beatsOn wsX4_settledOn := goodIn_r _ [16, 17, 18, 4, 19, 8, 9, 10] (by decide +kernel) (by decide +kernel)
set_option maxRecDepth 20000 in
theorem gX4_beatsOn_X4_settledOn : GoodIn wsX4_beatsOn (va_wsS RX4 57 yX4_settledOn wsX4_settledOn) := goodIn_app (goodIn_of _ (by decide +kernel)) ggX4_beatsOn_X4_settledOn
theorem dX4_beatsOn_0 : decode cX4_beatsOn 0 = .ok (.iconst 0, 1) := by decide +kernel
theorem dX4_beatsOn_1 : decode cX4_beatsOn 1 = .ok (.istore_n 3, 1) := by decide +kernel
theorem dX4_beatsOn_2 : decode cX4_beatsOn 2 = .ok (.iload_n 3, 1) := by decide +kernel
theorem dX4_beatsOn_3 : decode cX4_beatsOn 3 = .ok (.iload_n 2, 1) := by decide +kernel
theorem dX4_beatsOn_4 : decode cX4_beatsOn 4 = .ok (.if_icmp .ge 14, 3) := by decide +kernel
theorem dX4_beatsOn_7 : decode cX4_beatsOn 7 = .ok (.aload_n 0, 1) := by decide +kernel
theorem dX4_beatsOn_8 : decode cX4_beatsOn 8 = .ok (.aload_n 1, 1) := by decide +kernel
theorem dX4_beatsOn_9 : decode cX4_beatsOn 9 = .ok (.invokevirtual 147, 3) := by decide +kernel
theorem dX4_beatsOn_12 : decode cX4_beatsOn 12 = .ok (.iinc 3 1, 3) := by decide +kernel
theorem dX4_beatsOn_15 : decode cX4_beatsOn 15 = .ok (.goto (-13), 3) := by decide +kernel
theorem dX4_beatsOn_18 : decode cX4_beatsOn 18 = .ok (.aload_n 1, 1) := by decide +kernel
theorem dX4_beatsOn_19 : decode cX4_beatsOn 19 = .ok (.invokestatic 57, 3) := by decide +kernel
theorem dX4_beatsOn_22 : decode cX4_beatsOn 22 = .ok (.ireturn, 1) := by decide +kernel
set_option maxRecDepth 20000 in
theorem ggX4_beats_X4_in : GoodIn wsX4_beats wsX4_in := goodIn_r _ [6] (by decide +kernel) (by decide +kernel)
set_option maxRecDepth 20000 in
theorem gX4_beats_X4_in : GoodIn wsX4_beats (va_wsS RX4 47 yX4_in wsX4_in) := goodIn_app (goodIn_of _ (by decide +kernel)) ggX4_beats_X4_in
set_option maxRecDepth 20000 in
theorem ggX4_beats_X4_refused : GoodIn wsX4_beats wsX4_refused := goodIn_r _ [10, 11, 43, 44, 45, 46, 47, 48, 49, 50, 51, 52, 53] (by decide +kernel) (by decide +kernel)
set_option maxRecDepth 20000 in
theorem gX4_beats_X4_refused : GoodIn wsX4_beats (wsV RX4 76 RX4 yX4_refused wsX4_refused) := goodIn_app (goodIn_of _ (by decide +kernel)) ggX4_beats_X4_refused
set_option maxRecDepth 20000 in
theorem ggX4_beats_X4_remember : GoodIn wsX4_beats wsX4_remember := goodIn_r _ [15, 16, 17, 2, 18, 19, 5, 20, 43, 44, 45, 46, 47, 48, 49, 50, 51, 52, 53] (by decide +kernel) (by decide +kernel)
set_option maxRecDepth 20000 in
theorem gX4_beats_X4_remember : GoodIn wsX4_beats (wsV RX4 137 RX4 yX4_remember wsX4_remember) := goodIn_app (goodIn_of _ (by decide +kernel)) ggX4_beats_X4_remember
set_option maxRecDepth 20000 in
theorem ggX4_beats_X4_beatsOn : GoodIn wsX4_beats wsX4_beatsOn := goodIn_r _ [24, 25, 26, 27, 5, 28, 29, 30, 31, 32, 33, 34, 35, 36, 37, 38, 39, 40, 41, 42, 43, 44, 45, 46, 47, 48, 49, 50, 51, 52, 53] (by decide +kernel) (by decide +kernel)
set_option maxRecDepth 20000 in
theorem gX4_beats_X4_beatsOn : GoodIn wsX4_beats (wsV RX4 152 RX4 yX4_beatsOn wsX4_beatsOn) := goodIn_app (goodIn_of _ (by decide +kernel)) ggX4_beats_X4_beatsOn
theorem dX4_beats_0 : decode cX4_beats 0 = .ok (.aload_n 0, 1) := by decide +kernel
theorem dX4_beats_1 : decode cX4_beats 1 = .ok (.iload_n 1, 1) := by decide +kernel
theorem dX4_beats_2 : decode cX4_beats 2 = .ok (.i2l, 1) := by decide +kernel
theorem dX4_beats_3 : decode cX4_beats 3 = .ok (.lconst 1, 1) := by decide +kernel
theorem dX4_beats_4 : decode cX4_beats 4 = .ok (.ldc2_w 150, 3) := by decide +kernel
theorem dX4_beats_7 : decode cX4_beats 7 = .ok (.invokestatic 47, 3) := by decide +kernel
theorem dX4_beats_10 : decode cX4_beats 10 = .ok (.ifCond .eq 7, 3) := by decide +kernel
theorem dX4_beats_13 : decode cX4_beats 13 = .ok (.iconst 0, 1) := by decide +kernel
theorem dX4_beats_14 : decode cX4_beats 14 = .ok (.goto 4, 3) := by decide +kernel
theorem dX4_beats_17 : decode cX4_beats 17 = .ok (.iconst 1, 1) := by decide +kernel
theorem dX4_beats_18 : decode cX4_beats 18 = .ok (.invokevirtual 76, 3) := by decide +kernel
theorem dX4_beats_21 : decode cX4_beats 21 = .ok (.ifCond .eq 5, 3) := by decide +kernel
theorem dX4_beats_24 : decode cX4_beats 24 = .ok (.iconst 0, 1) := by decide +kernel
theorem dX4_beats_25 : decode cX4_beats 25 = .ok (.ireturn, 1) := by decide +kernel
theorem dX4_beats_26 : decode cX4_beats 26 = .ok (.aload_n 0, 1) := by decide +kernel
theorem dX4_beats_27 : decode cX4_beats 27 = .ok (.invokevirtual 137, 3) := by decide +kernel
theorem dX4_beats_30 : decode cX4_beats 30 = .ok (.aload_n 0, 1) := by decide +kernel
theorem dX4_beats_31 : decode cX4_beats 31 = .ok (.aload_n 0, 1) := by decide +kernel
theorem dX4_beats_32 : decode cX4_beats 32 = .ok (.getfield 13, 3) := by decide +kernel
theorem dX4_beats_35 : decode cX4_beats 35 = .ok (.iload_n 1, 1) := by decide +kernel
theorem dX4_beats_36 : decode cX4_beats 36 = .ok (.invokevirtual 152, 3) := by decide +kernel
theorem dX4_beats_39 : decode cX4_beats 39 = .ok (.ireturn, 1) := by decide +kernel
set_option maxRecDepth 20000 in
theorem ggX4_setPace_X4_in : GoodIn wsX4_setPace wsX4_in := goodIn_r _ [6] (by decide +kernel) (by decide +kernel)
set_option maxRecDepth 20000 in
theorem gX4_setPace_X4_in : GoodIn wsX4_setPace (va_wsS RX4 47 yX4_in wsX4_in) := goodIn_app (goodIn_of _ (by decide +kernel)) ggX4_setPace_X4_in
set_option maxRecDepth 20000 in
theorem ggX4_setPace_X4_refused : GoodIn wsX4_setPace wsX4_refused := goodIn_r _ [10, 11, 21, 22, 23, 24, 25, 26, 27, 28, 29, 30, 31] (by decide +kernel) (by decide +kernel)
set_option maxRecDepth 20000 in
theorem gX4_setPace_X4_refused : GoodIn wsX4_setPace (wsV RX4 76 RX4 yX4_refused wsX4_refused) := goodIn_app (goodIn_of _ (by decide +kernel)) ggX4_setPace_X4_refused
set_option maxRecDepth 20000 in
theorem ggX4_setPace_X4_remember : GoodIn wsX4_setPace wsX4_remember := goodIn_r _ [15, 16, 17, 2, 18, 19, 5, 20, 21, 22, 23, 24, 25, 26, 27, 28, 29, 30, 31] (by decide +kernel) (by decide +kernel)
set_option maxRecDepth 20000 in
theorem gX4_setPace_X4_remember : GoodIn wsX4_setPace (wsV RX4 137 RX4 yX4_remember wsX4_remember) := goodIn_app (goodIn_of _ (by decide +kernel)) ggX4_setPace_X4_remember
theorem dX4_setPace_0 : decode cX4_setPace 0 = .ok (.aload_n 0, 1) := by decide +kernel
theorem dX4_setPace_1 : decode cX4_setPace 1 = .ok (.iload_n 1, 1) := by decide +kernel
theorem dX4_setPace_2 : decode cX4_setPace 2 = .ok (.i2l, 1) := by decide +kernel
theorem dX4_setPace_3 : decode cX4_setPace 3 = .ok (.lconst 1, 1) := by decide +kernel
theorem dX4_setPace_4 : decode cX4_setPace 4 = .ok (.ldc2_w 155, 3) := by decide +kernel
theorem dX4_setPace_7 : decode cX4_setPace 7 = .ok (.invokestatic 47, 3) := by decide +kernel
theorem dX4_setPace_10 : decode cX4_setPace 10 = .ok (.ifCond .eq 7, 3) := by decide +kernel
theorem dX4_setPace_13 : decode cX4_setPace 13 = .ok (.iconst 0, 1) := by decide +kernel
theorem dX4_setPace_14 : decode cX4_setPace 14 = .ok (.goto 4, 3) := by decide +kernel
theorem dX4_setPace_17 : decode cX4_setPace 17 = .ok (.iconst 1, 1) := by decide +kernel
theorem dX4_setPace_18 : decode cX4_setPace 18 = .ok (.invokevirtual 76, 3) := by decide +kernel
theorem dX4_setPace_21 : decode cX4_setPace 21 = .ok (.ifCond .eq 5, 3) := by decide +kernel
theorem dX4_setPace_24 : decode cX4_setPace 24 = .ok (.iconst 0, 1) := by decide +kernel
theorem dX4_setPace_25 : decode cX4_setPace 25 = .ok (.ireturn, 1) := by decide +kernel
theorem dX4_setPace_26 : decode cX4_setPace 26 = .ok (.aload_n 0, 1) := by decide +kernel
theorem dX4_setPace_27 : decode cX4_setPace 27 = .ok (.invokevirtual 137, 3) := by decide +kernel
theorem dX4_setPace_30 : decode cX4_setPace 30 = .ok (.aload_n 0, 1) := by decide +kernel
theorem dX4_setPace_31 : decode cX4_setPace 31 = .ok (.getfield 13, 3) := by decide +kernel
theorem dX4_setPace_34 : decode cX4_setPace 34 = .ok (.iconst 1, 1) := by decide +kernel
theorem dX4_setPace_35 : decode cX4_setPace 35 = .ok (.iaload, 1) := by decide +kernel
theorem dX4_setPace_36 : decode cX4_setPace 36 = .ok (.istore_n 2, 1) := by decide +kernel
theorem dX4_setPace_37 : decode cX4_setPace 37 = .ok (.aload_n 0, 1) := by decide +kernel
theorem dX4_setPace_38 : decode cX4_setPace 38 = .ok (.getfield 13, 3) := by decide +kernel
theorem dX4_setPace_41 : decode cX4_setPace 41 = .ok (.iconst 1, 1) := by decide +kernel
theorem dX4_setPace_42 : decode cX4_setPace 42 = .ok (.iload_n 1, 1) := by decide +kernel
theorem dX4_setPace_43 : decode cX4_setPace 43 = .ok (.iastore, 1) := by decide +kernel
theorem dX4_setPace_44 : decode cX4_setPace 44 = .ok (.iload_n 2, 1) := by decide +kernel
theorem dX4_setPace_45 : decode cX4_setPace 45 = .ok (.ireturn, 1) := by decide +kernel
set_option maxRecDepth 20000 in
theorem ggX4_linkOn_X4_at : GoodIn wsX4_linkOn wsX4_at := goodIn_r _ [4] (by decide +kernel) (by decide +kernel)
set_option maxRecDepth 20000 in
theorem gX4_linkOn_X4_at : GoodIn wsX4_linkOn (va_wsS RX4 39 yX4_at wsX4_at) := goodIn_app (goodIn_of _ (by decide +kernel)) ggX4_linkOn_X4_at
theorem dX4_linkOn_0 : decode cX4_linkOn 0 = .ok (.aload_n 0, 1) := by decide +kernel
theorem dX4_linkOn_1 : decode cX4_linkOn 1 = .ok (.iload_n 1, 1) := by decide +kernel
theorem dX4_linkOn_2 : decode cX4_linkOn 2 = .ok (.invokestatic 39, 3) := by decide +kernel
theorem dX4_linkOn_5 : decode cX4_linkOn 5 = .ok (.iconst 1, 1) := by decide +kernel
theorem dX4_linkOn_6 : decode cX4_linkOn 6 = .ok (.iadd, 1) := by decide +kernel
theorem dX4_linkOn_7 : decode cX4_linkOn 7 = .ok (.iload_n 2, 1) := by decide +kernel
theorem dX4_linkOn_8 : decode cX4_linkOn 8 = .ok (.ifCond .eq 7, 3) := by decide +kernel
theorem dX4_linkOn_11 : decode cX4_linkOn 11 = .ok (.iconst 1, 1) := by decide +kernel
theorem dX4_linkOn_12 : decode cX4_linkOn 12 = .ok (.goto 4, 3) := by decide +kernel
theorem dX4_linkOn_15 : decode cX4_linkOn 15 = .ok (.iconst 0, 1) := by decide +kernel
theorem dX4_linkOn_16 : decode cX4_linkOn 16 = .ok (.iastore, 1) := by decide +kernel
theorem dX4_linkOn_17 : decode cX4_linkOn 17 = .ok (.iconst 0, 1) := by decide +kernel
theorem dX4_linkOn_18 : decode cX4_linkOn 18 = .ok (.istore_n 3, 1) := by decide +kernel
theorem dX4_linkOn_19 : decode cX4_linkOn 19 = .ok (.iconst 0, 1) := by decide +kernel
theorem dX4_linkOn_20 : decode cX4_linkOn 20 = .ok (.istore 4, 2) := by decide +kernel
theorem dX4_linkOn_22 : decode cX4_linkOn 22 = .ok (.iload 4, 2) := by decide +kernel
theorem dX4_linkOn_24 : decode cX4_linkOn 24 = .ok (.aload_n 0, 1) := by decide +kernel
theorem dX4_linkOn_25 : decode cX4_linkOn 25 = .ok (.iconst 0, 1) := by decide +kernel
theorem dX4_linkOn_26 : decode cX4_linkOn 26 = .ok (.iaload, 1) := by decide +kernel
theorem dX4_linkOn_27 : decode cX4_linkOn 27 = .ok (.if_icmp .ge 21, 3) := by decide +kernel
theorem dX4_linkOn_30 : decode cX4_linkOn 30 = .ok (.iload_n 3, 1) := by decide +kernel
theorem dX4_linkOn_31 : decode cX4_linkOn 31 = .ok (.aload_n 0, 1) := by decide +kernel
theorem dX4_linkOn_32 : decode cX4_linkOn 32 = .ok (.iload 4, 2) := by decide +kernel
theorem dX4_linkOn_34 : decode cX4_linkOn 34 = .ok (.invokestatic 39, 3) := by decide +kernel
theorem dX4_linkOn_37 : decode cX4_linkOn 37 = .ok (.iconst 1, 1) := by decide +kernel
theorem dX4_linkOn_38 : decode cX4_linkOn 38 = .ok (.iadd, 1) := by decide +kernel
theorem dX4_linkOn_39 : decode cX4_linkOn 39 = .ok (.iaload, 1) := by decide +kernel
theorem dX4_linkOn_40 : decode cX4_linkOn 40 = .ok (.iadd, 1) := by decide +kernel
theorem dX4_linkOn_41 : decode cX4_linkOn 41 = .ok (.istore_n 3, 1) := by decide +kernel
theorem dX4_linkOn_42 : decode cX4_linkOn 42 = .ok (.iinc 4 1, 3) := by decide +kernel
theorem dX4_linkOn_45 : decode cX4_linkOn 45 = .ok (.goto (-23), 3) := by decide +kernel
theorem dX4_linkOn_48 : decode cX4_linkOn 48 = .ok (.iload_n 3, 1) := by decide +kernel
theorem dX4_linkOn_49 : decode cX4_linkOn 49 = .ok (.ireturn, 1) := by decide +kernel
set_option maxRecDepth 20000 in
theorem ggX4_link_X4_in : GoodIn wsX4_link wsX4_in := goodIn_r _ [5] (by decide +kernel) (by decide +kernel)
set_option maxRecDepth 20000 in
theorem gX4_link_X4_in : GoodIn wsX4_link (va_wsS RX4 47 yX4_in wsX4_in) := goodIn_app (goodIn_of _ (by decide +kernel)) ggX4_link_X4_in
set_option maxRecDepth 20000 in
theorem ggX4_link_X4_refused : GoodIn wsX4_link wsX4_refused := goodIn_r _ [9, 10, 26, 27, 28, 29, 30, 31, 32, 33, 34, 35, 36] (by decide +kernel) (by decide +kernel)
set_option maxRecDepth 20000 in
theorem gX4_link_X4_refused : GoodIn wsX4_link (wsV RX4 76 RX4 yX4_refused wsX4_refused) := goodIn_app (goodIn_of _ (by decide +kernel)) ggX4_link_X4_refused
set_option maxRecDepth 20000 in
theorem ggX4_link_X4_remember : GoodIn wsX4_link wsX4_remember := goodIn_r _ [14, 15, 16, 1, 17, 18, 4, 19, 26, 27, 28, 29, 30, 31, 32, 33, 34, 35, 36] (by decide +kernel) (by decide +kernel)
set_option maxRecDepth 20000 in
theorem gX4_link_X4_remember : GoodIn wsX4_link (wsV RX4 137 RX4 yX4_remember wsX4_remember) := goodIn_app (goodIn_of _ (by decide +kernel)) ggX4_link_X4_remember
set_option maxRecDepth 20000 in
theorem ggX4_link_X4_linkOn : GoodIn wsX4_link wsX4_linkOn := goodIn_r _ [22, 23, 24, 4, 25] (by decide +kernel) (by decide +kernel)
set_option maxRecDepth 20000 in
theorem gX4_link_X4_linkOn : GoodIn wsX4_link (va_wsS RX4 157 yX4_linkOn wsX4_linkOn) := goodIn_app (goodIn_of _ (by decide +kernel)) ggX4_link_X4_linkOn
theorem dX4_link_0 : decode cX4_link 0 = .ok (.aload_n 0, 1) := by decide +kernel
theorem dX4_link_1 : decode cX4_link 1 = .ok (.iload_n 1, 1) := by decide +kernel
theorem dX4_link_2 : decode cX4_link 2 = .ok (.i2l, 1) := by decide +kernel
theorem dX4_link_3 : decode cX4_link 3 = .ok (.lconst 0, 1) := by decide +kernel
theorem dX4_link_4 : decode cX4_link 4 = .ok (.aload_n 0, 1) := by decide +kernel
theorem dX4_link_5 : decode cX4_link 5 = .ok (.getfield 13, 3) := by decide +kernel
theorem dX4_link_8 : decode cX4_link 8 = .ok (.iconst 0, 1) := by decide +kernel
theorem dX4_link_9 : decode cX4_link 9 = .ok (.iaload, 1) := by decide +kernel
theorem dX4_link_10 : decode cX4_link 10 = .ok (.iconst 2, 1) := by decide +kernel
theorem dX4_link_11 : decode cX4_link 11 = .ok (.isub, 1) := by decide +kernel
theorem dX4_link_12 : decode cX4_link 12 = .ok (.i2l, 1) := by decide +kernel
theorem dX4_link_13 : decode cX4_link 13 = .ok (.invokestatic 47, 3) := by decide +kernel
theorem dX4_link_16 : decode cX4_link 16 = .ok (.ifCond .eq 7, 3) := by decide +kernel
theorem dX4_link_19 : decode cX4_link 19 = .ok (.iconst 0, 1) := by decide +kernel
theorem dX4_link_20 : decode cX4_link 20 = .ok (.goto 4, 3) := by decide +kernel
theorem dX4_link_23 : decode cX4_link 23 = .ok (.iconst 1, 1) := by decide +kernel
theorem dX4_link_24 : decode cX4_link 24 = .ok (.invokevirtual 76, 3) := by decide +kernel
theorem dX4_link_27 : decode cX4_link 27 = .ok (.ifCond .eq 5, 3) := by decide +kernel
theorem dX4_link_30 : decode cX4_link 30 = .ok (.iconst 0, 1) := by decide +kernel
theorem dX4_link_31 : decode cX4_link 31 = .ok (.ireturn, 1) := by decide +kernel
theorem dX4_link_32 : decode cX4_link 32 = .ok (.aload_n 0, 1) := by decide +kernel
theorem dX4_link_33 : decode cX4_link 33 = .ok (.invokevirtual 137, 3) := by decide +kernel
theorem dX4_link_36 : decode cX4_link 36 = .ok (.aload_n 0, 1) := by decide +kernel
theorem dX4_link_37 : decode cX4_link 37 = .ok (.getfield 13, 3) := by decide +kernel
theorem dX4_link_40 : decode cX4_link 40 = .ok (.iload_n 1, 1) := by decide +kernel
theorem dX4_link_41 : decode cX4_link 41 = .ok (.iload_n 2, 1) := by decide +kernel
theorem dX4_link_42 : decode cX4_link 42 = .ok (.invokestatic 157, 3) := by decide +kernel
theorem dX4_link_45 : decode cX4_link 45 = .ok (.ireturn, 1) := by decide +kernel
set_option maxRecDepth 20000 in
theorem ggX4_resize_X4_isCounter : GoodIn wsX4_resize wsX4_isCounter := goodIn_r _ [6, 7, 8, 5, 9] (by decide +kernel) (by decide +kernel)
set_option maxRecDepth 20000 in
theorem gX4_resize_X4_isCounter : GoodIn wsX4_resize (va_wsS RX4 103 yX4_isCounter wsX4_isCounter) := goodIn_app (goodIn_of _ (by decide +kernel)) ggX4_resize_X4_isCounter
set_option maxRecDepth 20000 in
theorem ggX4_resize_X4_in : GoodIn wsX4_resize wsX4_in := goodIn_r _ [9] (by decide +kernel) (by decide +kernel)
set_option maxRecDepth 20000 in
theorem gX4_resize_X4_in : GoodIn wsX4_resize (va_wsS RX4 47 yX4_in wsX4_in) := goodIn_app (goodIn_of _ (by decide +kernel)) ggX4_resize_X4_in
set_option maxRecDepth 20000 in
theorem ggX4_resize_X4_refused : GoodIn wsX4_resize wsX4_refused := goodIn_r _ [13, 14, 27, 28, 29, 30, 31, 32, 33, 34, 35, 36, 37] (by decide +kernel) (by decide +kernel)
set_option maxRecDepth 20000 in
theorem gX4_resize_X4_refused : GoodIn wsX4_resize (wsV RX4 76 RX4 yX4_refused wsX4_refused) := goodIn_app (goodIn_of _ (by decide +kernel)) ggX4_resize_X4_refused
set_option maxRecDepth 20000 in
theorem ggX4_resize_X4_remember : GoodIn wsX4_resize wsX4_remember := goodIn_r _ [18, 19, 20, 1, 21, 22, 5, 23, 27, 28, 29, 30, 31, 32, 33, 34, 35, 36, 37] (by decide +kernel) (by decide +kernel)
set_option maxRecDepth 20000 in
theorem gX4_resize_X4_remember : GoodIn wsX4_resize (wsV RX4 137 RX4 yX4_remember wsX4_remember) := goodIn_app (goodIn_of _ (by decide +kernel)) ggX4_resize_X4_remember
set_option maxRecDepth 20000 in
theorem ggX4_resize_X4_at : GoodIn wsX4_resize wsX4_at := goodIn_r _ [26] (by decide +kernel) (by decide +kernel)
set_option maxRecDepth 20000 in
theorem gX4_resize_X4_at : GoodIn wsX4_resize (va_wsS RX4 39 yX4_at wsX4_at) := goodIn_app (goodIn_of _ (by decide +kernel)) ggX4_resize_X4_at
theorem dX4_resize_0 : decode cX4_resize 0 = .ok (.aload_n 0, 1) := by decide +kernel
theorem dX4_resize_1 : decode cX4_resize 1 = .ok (.aload_n 0, 1) := by decide +kernel
theorem dX4_resize_2 : decode cX4_resize 2 = .ok (.getfield 13, 3) := by decide +kernel
theorem dX4_resize_5 : decode cX4_resize 5 = .ok (.iload_n 1, 1) := by decide +kernel
theorem dX4_resize_6 : decode cX4_resize 6 = .ok (.invokestatic 103, 3) := by decide +kernel
theorem dX4_resize_9 : decode cX4_resize 9 = .ok (.ifCond .ne 7, 3) := by decide +kernel
theorem dX4_resize_12 : decode cX4_resize 12 = .ok (.iconst 1, 1) := by decide +kernel
theorem dX4_resize_13 : decode cX4_resize 13 = .ok (.goto 20, 3) := by decide +kernel
theorem dX4_resize_16 : decode cX4_resize 16 = .ok (.iload_n 2, 1) := by decide +kernel
theorem dX4_resize_17 : decode cX4_resize 17 = .ok (.i2l, 1) := by decide +kernel
theorem dX4_resize_18 : decode cX4_resize 18 = .ok (.lconst 1, 1) := by decide +kernel
theorem dX4_resize_19 : decode cX4_resize 19 = .ok (.ldc2_w 155, 3) := by decide +kernel
theorem dX4_resize_22 : decode cX4_resize 22 = .ok (.invokestatic 47, 3) := by decide +kernel
theorem dX4_resize_25 : decode cX4_resize 25 = .ok (.ifCond .eq 7, 3) := by decide +kernel
theorem dX4_resize_28 : decode cX4_resize 28 = .ok (.iconst 0, 1) := by decide +kernel
theorem dX4_resize_29 : decode cX4_resize 29 = .ok (.goto 4, 3) := by decide +kernel
theorem dX4_resize_32 : decode cX4_resize 32 = .ok (.iconst 2, 1) := by decide +kernel
theorem dX4_resize_33 : decode cX4_resize 33 = .ok (.invokevirtual 76, 3) := by decide +kernel
theorem dX4_resize_36 : decode cX4_resize 36 = .ok (.ifCond .eq 5, 3) := by decide +kernel
theorem dX4_resize_39 : decode cX4_resize 39 = .ok (.iconst 0, 1) := by decide +kernel
theorem dX4_resize_40 : decode cX4_resize 40 = .ok (.ireturn, 1) := by decide +kernel
theorem dX4_resize_41 : decode cX4_resize 41 = .ok (.aload_n 0, 1) := by decide +kernel
theorem dX4_resize_42 : decode cX4_resize 42 = .ok (.invokevirtual 137, 3) := by decide +kernel
theorem dX4_resize_45 : decode cX4_resize 45 = .ok (.aload_n 0, 1) := by decide +kernel
theorem dX4_resize_46 : decode cX4_resize 46 = .ok (.getfield 13, 3) := by decide +kernel
theorem dX4_resize_49 : decode cX4_resize 49 = .ok (.iload_n 1, 1) := by decide +kernel
theorem dX4_resize_50 : decode cX4_resize 50 = .ok (.invokestatic 39, 3) := by decide +kernel
theorem dX4_resize_53 : decode cX4_resize 53 = .ok (.iconst 0, 1) := by decide +kernel
theorem dX4_resize_54 : decode cX4_resize 54 = .ok (.iadd, 1) := by decide +kernel
theorem dX4_resize_55 : decode cX4_resize 55 = .ok (.iaload, 1) := by decide +kernel
theorem dX4_resize_56 : decode cX4_resize 56 = .ok (.istore_n 3, 1) := by decide +kernel
theorem dX4_resize_57 : decode cX4_resize 57 = .ok (.iload_n 2, 1) := by decide +kernel
theorem dX4_resize_58 : decode cX4_resize 58 = .ok (.istore 4, 2) := by decide +kernel
theorem dX4_resize_60 : decode cX4_resize 60 = .ok (.iload 4, 2) := by decide +kernel
theorem dX4_resize_62 : decode cX4_resize 62 = .ok (.bipush 9, 2) := by decide +kernel
theorem dX4_resize_64 : decode cX4_resize 64 = .ok (.if_icmp .ge 40, 3) := by decide +kernel
theorem dX4_resize_67 : decode cX4_resize 67 = .ok (.aload_n 0, 1) := by decide +kernel
theorem dX4_resize_68 : decode cX4_resize 68 = .ok (.getfield 13, 3) := by decide +kernel
theorem dX4_resize_71 : decode cX4_resize 71 = .ok (.iload_n 1, 1) := by decide +kernel
theorem dX4_resize_72 : decode cX4_resize 72 = .ok (.invokestatic 39, 3) := by decide +kernel
theorem dX4_resize_75 : decode cX4_resize 75 = .ok (.iconst 4, 1) := by decide +kernel
theorem dX4_resize_76 : decode cX4_resize 76 = .ok (.iadd, 1) := by decide +kernel
theorem dX4_resize_77 : decode cX4_resize 77 = .ok (.iload 4, 2) := by decide +kernel
theorem dX4_resize_79 : decode cX4_resize 79 = .ok (.iadd, 1) := by decide +kernel
theorem dX4_resize_80 : decode cX4_resize 80 = .ok (.iconst 0, 1) := by decide +kernel
theorem dX4_resize_81 : decode cX4_resize 81 = .ok (.iastore, 1) := by decide +kernel
theorem dX4_resize_82 : decode cX4_resize 82 = .ok (.aload_n 0, 1) := by decide +kernel
theorem dX4_resize_83 : decode cX4_resize 83 = .ok (.getfield 13, 3) := by decide +kernel
theorem dX4_resize_86 : decode cX4_resize 86 = .ok (.iload_n 1, 1) := by decide +kernel
theorem dX4_resize_87 : decode cX4_resize 87 = .ok (.invokestatic 39, 3) := by decide +kernel
theorem dX4_resize_90 : decode cX4_resize 90 = .ok (.bipush 13, 2) := by decide +kernel
theorem dX4_resize_92 : decode cX4_resize 92 = .ok (.iadd, 1) := by decide +kernel
theorem dX4_resize_93 : decode cX4_resize 93 = .ok (.iload 4, 2) := by decide +kernel
theorem dX4_resize_95 : decode cX4_resize 95 = .ok (.iadd, 1) := by decide +kernel
theorem dX4_resize_96 : decode cX4_resize 96 = .ok (.iconst 0, 1) := by decide +kernel
theorem dX4_resize_97 : decode cX4_resize 97 = .ok (.iastore, 1) := by decide +kernel
theorem dX4_resize_98 : decode cX4_resize 98 = .ok (.iinc 4 1, 3) := by decide +kernel
theorem dX4_resize_101 : decode cX4_resize 101 = .ok (.goto (-41), 3) := by decide +kernel
theorem dX4_resize_104 : decode cX4_resize 104 = .ok (.aload_n 0, 1) := by decide +kernel
theorem dX4_resize_105 : decode cX4_resize 105 = .ok (.getfield 13, 3) := by decide +kernel
theorem dX4_resize_108 : decode cX4_resize 108 = .ok (.iload_n 1, 1) := by decide +kernel
theorem dX4_resize_109 : decode cX4_resize 109 = .ok (.invokestatic 39, 3) := by decide +kernel
theorem dX4_resize_112 : decode cX4_resize 112 = .ok (.iconst 0, 1) := by decide +kernel
theorem dX4_resize_113 : decode cX4_resize 113 = .ok (.iadd, 1) := by decide +kernel
theorem dX4_resize_114 : decode cX4_resize 114 = .ok (.iload_n 2, 1) := by decide +kernel
theorem dX4_resize_115 : decode cX4_resize 115 = .ok (.iastore, 1) := by decide +kernel
theorem dX4_resize_116 : decode cX4_resize 116 = .ok (.iload_n 3, 1) := by decide +kernel
theorem dX4_resize_117 : decode cX4_resize 117 = .ok (.ireturn, 1) := by decide +kernel
set_option maxRecDepth 20000 in
theorem ggX4_pourOn_X4_worthOn : GoodIn wsX4_pourOn wsX4_worthOn := goodIn_r _ [4, 5, 6, 7, 3, 8] (by decide +kernel) (by decide +kernel)
set_option maxRecDepth 20000 in
theorem gX4_pourOn_X4_worthOn : GoodIn wsX4_pourOn (va_wsS RX4 110 yX4_worthOn wsX4_worthOn) := goodIn_app (goodIn_of _ (by decide +kernel)) ggX4_pourOn_X4_worthOn
set_option maxRecDepth 20000 in
theorem ggX4_pourOn_X4_at : GoodIn wsX4_pourOn wsX4_at := goodIn_r _ [8] (by decide +kernel) (by decide +kernel)
set_option maxRecDepth 20000 in
theorem gX4_pourOn_X4_at : GoodIn wsX4_pourOn (va_wsS RX4 39 yX4_at wsX4_at) := goodIn_app (goodIn_of _ (by decide +kernel)) ggX4_pourOn_X4_at
theorem dX4_pourOn_0 : decode cX4_pourOn 0 = .ok (.aload_n 0, 1) := by decide +kernel
theorem dX4_pourOn_1 : decode cX4_pourOn 1 = .ok (.iload_n 2, 1) := by decide +kernel
theorem dX4_pourOn_2 : decode cX4_pourOn 2 = .ok (.invokestatic 110, 3) := by decide +kernel
theorem dX4_pourOn_5 : decode cX4_pourOn 5 = .ok (.lstore_n 3, 1) := by decide +kernel
theorem dX4_pourOn_6 : decode cX4_pourOn 6 = .ok (.iconst 0, 1) := by decide +kernel
theorem dX4_pourOn_7 : decode cX4_pourOn 7 = .ok (.istore 5, 2) := by decide +kernel
theorem dX4_pourOn_9 : decode cX4_pourOn 9 = .ok (.iload 5, 2) := by decide +kernel
theorem dX4_pourOn_11 : decode cX4_pourOn 11 = .ok (.aload_n 0, 1) := by decide +kernel
theorem dX4_pourOn_12 : decode cX4_pourOn 12 = .ok (.iload_n 1, 1) := by decide +kernel
theorem dX4_pourOn_13 : decode cX4_pourOn 13 = .ok (.invokestatic 39, 3) := by decide +kernel
theorem dX4_pourOn_16 : decode cX4_pourOn 16 = .ok (.iconst 0, 1) := by decide +kernel
theorem dX4_pourOn_17 : decode cX4_pourOn 17 = .ok (.iadd, 1) := by decide +kernel
theorem dX4_pourOn_18 : decode cX4_pourOn 18 = .ok (.iaload, 1) := by decide +kernel
theorem dX4_pourOn_19 : decode cX4_pourOn 19 = .ok (.if_icmp .ge 106, 3) := by decide +kernel
theorem dX4_pourOn_22 : decode cX4_pourOn 22 = .ok (.aload_n 0, 1) := by decide +kernel
theorem dX4_pourOn_23 : decode cX4_pourOn 23 = .ok (.iload_n 1, 1) := by decide +kernel
theorem dX4_pourOn_24 : decode cX4_pourOn 24 = .ok (.invokestatic 39, 3) := by decide +kernel
theorem dX4_pourOn_27 : decode cX4_pourOn 27 = .ok (.iconst 4, 1) := by decide +kernel
theorem dX4_pourOn_28 : decode cX4_pourOn 28 = .ok (.iadd, 1) := by decide +kernel
theorem dX4_pourOn_29 : decode cX4_pourOn 29 = .ok (.iload 5, 2) := by decide +kernel
theorem dX4_pourOn_31 : decode cX4_pourOn 31 = .ok (.iadd, 1) := by decide +kernel
theorem dX4_pourOn_32 : decode cX4_pourOn 32 = .ok (.iaload, 1) := by decide +kernel
theorem dX4_pourOn_33 : decode cX4_pourOn 33 = .ok (.aload_n 0, 1) := by decide +kernel
theorem dX4_pourOn_34 : decode cX4_pourOn 34 = .ok (.iload_n 1, 1) := by decide +kernel
theorem dX4_pourOn_35 : decode cX4_pourOn 35 = .ok (.invokestatic 39, 3) := by decide +kernel
theorem dX4_pourOn_38 : decode cX4_pourOn 38 = .ok (.bipush 13, 2) := by decide +kernel
theorem dX4_pourOn_40 : decode cX4_pourOn 40 = .ok (.iadd, 1) := by decide +kernel
theorem dX4_pourOn_41 : decode cX4_pourOn 41 = .ok (.iload 5, 2) := by decide +kernel
theorem dX4_pourOn_43 : decode cX4_pourOn 43 = .ok (.iadd, 1) := by decide +kernel
theorem dX4_pourOn_44 : decode cX4_pourOn 44 = .ok (.iaload, 1) := by decide +kernel
theorem dX4_pourOn_45 : decode cX4_pourOn 45 = .ok (.iadd, 1) := by decide +kernel
theorem dX4_pourOn_46 : decode cX4_pourOn 46 = .ok (.istore 6, 2) := by decide +kernel
theorem dX4_pourOn_48 : decode cX4_pourOn 48 = .ok (.aload_n 0, 1) := by decide +kernel
theorem dX4_pourOn_49 : decode cX4_pourOn 49 = .ok (.iload_n 1, 1) := by decide +kernel
theorem dX4_pourOn_50 : decode cX4_pourOn 50 = .ok (.invokestatic 39, 3) := by decide +kernel
theorem dX4_pourOn_53 : decode cX4_pourOn 53 = .ok (.iconst 4, 1) := by decide +kernel
theorem dX4_pourOn_54 : decode cX4_pourOn 54 = .ok (.iadd, 1) := by decide +kernel
theorem dX4_pourOn_55 : decode cX4_pourOn 55 = .ok (.iload 5, 2) := by decide +kernel
theorem dX4_pourOn_57 : decode cX4_pourOn 57 = .ok (.iadd, 1) := by decide +kernel
theorem dX4_pourOn_58 : decode cX4_pourOn 58 = .ok (.iconst 0, 1) := by decide +kernel
theorem dX4_pourOn_59 : decode cX4_pourOn 59 = .ok (.iastore, 1) := by decide +kernel
theorem dX4_pourOn_60 : decode cX4_pourOn 60 = .ok (.aload_n 0, 1) := by decide +kernel
theorem dX4_pourOn_61 : decode cX4_pourOn 61 = .ok (.iload_n 1, 1) := by decide +kernel
theorem dX4_pourOn_62 : decode cX4_pourOn 62 = .ok (.invokestatic 39, 3) := by decide +kernel
theorem dX4_pourOn_65 : decode cX4_pourOn 65 = .ok (.bipush 13, 2) := by decide +kernel
theorem dX4_pourOn_67 : decode cX4_pourOn 67 = .ok (.iadd, 1) := by decide +kernel
theorem dX4_pourOn_68 : decode cX4_pourOn 68 = .ok (.iload 5, 2) := by decide +kernel
theorem dX4_pourOn_70 : decode cX4_pourOn 70 = .ok (.iadd, 1) := by decide +kernel
theorem dX4_pourOn_71 : decode cX4_pourOn 71 = .ok (.iconst 0, 1) := by decide +kernel
theorem dX4_pourOn_72 : decode cX4_pourOn 72 = .ok (.iastore, 1) := by decide +kernel
theorem dX4_pourOn_73 : decode cX4_pourOn 73 = .ok (.iload 5, 2) := by decide +kernel
theorem dX4_pourOn_75 : decode cX4_pourOn 75 = .ok (.aload_n 0, 1) := by decide +kernel
theorem dX4_pourOn_76 : decode cX4_pourOn 76 = .ok (.iload_n 2, 1) := by decide +kernel
theorem dX4_pourOn_77 : decode cX4_pourOn 77 = .ok (.invokestatic 39, 3) := by decide +kernel
theorem dX4_pourOn_80 : decode cX4_pourOn 80 = .ok (.iconst 0, 1) := by decide +kernel
theorem dX4_pourOn_81 : decode cX4_pourOn 81 = .ok (.iadd, 1) := by decide +kernel
theorem dX4_pourOn_82 : decode cX4_pourOn 82 = .ok (.iaload, 1) := by decide +kernel
theorem dX4_pourOn_83 : decode cX4_pourOn 83 = .ok (.if_icmp .ge 23, 3) := by decide +kernel
theorem dX4_pourOn_86 : decode cX4_pourOn 86 = .ok (.aload_n 0, 1) := by decide +kernel
theorem dX4_pourOn_87 : decode cX4_pourOn 87 = .ok (.iload_n 2, 1) := by decide +kernel
theorem dX4_pourOn_88 : decode cX4_pourOn 88 = .ok (.invokestatic 39, 3) := by decide +kernel
theorem dX4_pourOn_91 : decode cX4_pourOn 91 = .ok (.bipush 13, 2) := by decide +kernel
theorem dX4_pourOn_93 : decode cX4_pourOn 93 = .ok (.iadd, 1) := by decide +kernel
theorem dX4_pourOn_94 : decode cX4_pourOn 94 = .ok (.iload 5, 2) := by decide +kernel
theorem dX4_pourOn_96 : decode cX4_pourOn 96 = .ok (.iadd, 1) := by decide +kernel
theorem dX4_pourOn_97 : decode cX4_pourOn 97 = .ok (.dup2, 1) := by decide +kernel
theorem dX4_pourOn_98 : decode cX4_pourOn 98 = .ok (.iaload, 1) := by decide +kernel
theorem dX4_pourOn_99 : decode cX4_pourOn 99 = .ok (.iload 6, 2) := by decide +kernel
theorem dX4_pourOn_101 : decode cX4_pourOn 101 = .ok (.iadd, 1) := by decide +kernel
theorem dX4_pourOn_102 : decode cX4_pourOn 102 = .ok (.iastore, 1) := by decide +kernel
theorem dX4_pourOn_103 : decode cX4_pourOn 103 = .ok (.goto 16, 3) := by decide +kernel
theorem dX4_pourOn_106 : decode cX4_pourOn 106 = .ok (.aload_n 0, 1) := by decide +kernel
theorem dX4_pourOn_107 : decode cX4_pourOn 107 = .ok (.iload_n 2, 1) := by decide +kernel
theorem dX4_pourOn_108 : decode cX4_pourOn 108 = .ok (.invokestatic 39, 3) := by decide +kernel
theorem dX4_pourOn_111 : decode cX4_pourOn 111 = .ok (.iconst 2, 1) := by decide +kernel
theorem dX4_pourOn_112 : decode cX4_pourOn 112 = .ok (.iadd, 1) := by decide +kernel
theorem dX4_pourOn_113 : decode cX4_pourOn 113 = .ok (.dup2, 1) := by decide +kernel
theorem dX4_pourOn_114 : decode cX4_pourOn 114 = .ok (.iaload, 1) := by decide +kernel
theorem dX4_pourOn_115 : decode cX4_pourOn 115 = .ok (.iload 6, 2) := by decide +kernel
theorem dX4_pourOn_117 : decode cX4_pourOn 117 = .ok (.iadd, 1) := by decide +kernel
theorem dX4_pourOn_118 : decode cX4_pourOn 118 = .ok (.iastore, 1) := by decide +kernel
theorem dX4_pourOn_119 : decode cX4_pourOn 119 = .ok (.iinc 5 1, 3) := by decide +kernel
theorem dX4_pourOn_122 : decode cX4_pourOn 122 = .ok (.goto (-113), 3) := by decide +kernel
theorem dX4_pourOn_125 : decode cX4_pourOn 125 = .ok (.aload_n 0, 1) := by decide +kernel
theorem dX4_pourOn_126 : decode cX4_pourOn 126 = .ok (.iload_n 2, 1) := by decide +kernel
theorem dX4_pourOn_127 : decode cX4_pourOn 127 = .ok (.invokestatic 110, 3) := by decide +kernel
theorem dX4_pourOn_130 : decode cX4_pourOn 130 = .ok (.lload_n 3, 1) := by decide +kernel
theorem dX4_pourOn_131 : decode cX4_pourOn 131 = .ok (.lsub, 1) := by decide +kernel
theorem dX4_pourOn_132 : decode cX4_pourOn 132 = .ok (.lreturn, 1) := by decide +kernel
set_option maxRecDepth 20000 in
theorem ggX4_pour_X4_isCounter : GoodIn wsX4_pour wsX4_isCounter := goodIn_r _ [5, 6, 7, 4, 8] (by decide +kernel) (by decide +kernel)
set_option maxRecDepth 20000 in
theorem gX4_pour_X4_isCounter : GoodIn wsX4_pour (va_wsS RX4 103 yX4_isCounter wsX4_isCounter) := goodIn_app (goodIn_of _ (by decide +kernel)) ggX4_pour_X4_isCounter
set_option maxRecDepth 20000 in
theorem ggX4_pour_X4_refused : GoodIn wsX4_pour wsX4_refused := goodIn_r _ [12, 13, 33, 34, 35, 36, 37, 38, 39, 40, 41, 42, 43] (by decide +kernel) (by decide +kernel)
set_option maxRecDepth 20000 in
theorem gX4_pour_X4_refused : GoodIn wsX4_pour (wsV RX4 76 RX4 yX4_refused wsX4_refused) := goodIn_app (goodIn_of _ (by decide +kernel)) ggX4_pour_X4_refused
set_option maxRecDepth 20000 in
theorem ggX4_pour_X4_remember : GoodIn wsX4_pour wsX4_remember := goodIn_r _ [17, 18, 19, 1, 20, 21, 4, 22, 33, 34, 35, 36, 37, 38, 39, 40, 41, 42, 43] (by decide +kernel) (by decide +kernel)
set_option maxRecDepth 20000 in
theorem gX4_pour_X4_remember : GoodIn wsX4_pour (wsV RX4 137 RX4 yX4_remember wsX4_remember) := goodIn_app (goodIn_of _ (by decide +kernel)) ggX4_pour_X4_remember
set_option maxRecDepth 20000 in
theorem ggX4_pour_X4_pourOn : GoodIn wsX4_pour wsX4_pourOn := goodIn_r _ [25, 26, 27, 4, 28, 29, 30, 31, 32] (by decide +kernel) (by decide +kernel)
set_option maxRecDepth 20000 in
theorem gX4_pour_X4_pourOn : GoodIn wsX4_pour (va_wsS RX4 161 yX4_pourOn wsX4_pourOn) := goodIn_app (goodIn_of _ (by decide +kernel)) ggX4_pour_X4_pourOn
theorem dX4_pour_0 : decode cX4_pour 0 = .ok (.aload_n 0, 1) := by decide +kernel
theorem dX4_pour_1 : decode cX4_pour 1 = .ok (.aload_n 0, 1) := by decide +kernel
theorem dX4_pour_2 : decode cX4_pour 2 = .ok (.getfield 13, 3) := by decide +kernel
theorem dX4_pour_5 : decode cX4_pour 5 = .ok (.iload_n 1, 1) := by decide +kernel
theorem dX4_pour_6 : decode cX4_pour 6 = .ok (.invokestatic 103, 3) := by decide +kernel
theorem dX4_pour_9 : decode cX4_pour 9 = .ok (.ifCond .eq 14, 3) := by decide +kernel
theorem dX4_pour_12 : decode cX4_pour 12 = .ok (.aload_n 0, 1) := by decide +kernel
theorem dX4_pour_13 : decode cX4_pour 13 = .ok (.getfield 13, 3) := by decide +kernel
theorem dX4_pour_16 : decode cX4_pour 16 = .ok (.iload_n 2, 1) := by decide +kernel
theorem dX4_pour_17 : decode cX4_pour 17 = .ok (.invokestatic 103, 3) := by decide +kernel
theorem dX4_pour_20 : decode cX4_pour 20 = .ok (.ifCond .ne 7, 3) := by decide +kernel
theorem dX4_pour_23 : decode cX4_pour 23 = .ok (.iconst 1, 1) := by decide +kernel
theorem dX4_pour_24 : decode cX4_pour 24 = .ok (.goto 13, 3) := by decide +kernel
theorem dX4_pour_27 : decode cX4_pour 27 = .ok (.iload_n 1, 1) := by decide +kernel
theorem dX4_pour_28 : decode cX4_pour 28 = .ok (.iload_n 2, 1) := by decide +kernel
theorem dX4_pour_29 : decode cX4_pour 29 = .ok (.if_icmp .ne 7, 3) := by decide +kernel
theorem dX4_pour_32 : decode cX4_pour 32 = .ok (.iconst 2, 1) := by decide +kernel
theorem dX4_pour_33 : decode cX4_pour 33 = .ok (.goto 4, 3) := by decide +kernel
theorem dX4_pour_36 : decode cX4_pour 36 = .ok (.iconst 0, 1) := by decide +kernel
theorem dX4_pour_37 : decode cX4_pour 37 = .ok (.invokevirtual 76, 3) := by decide +kernel
theorem dX4_pour_40 : decode cX4_pour 40 = .ok (.ifCond .eq 5, 3) := by decide +kernel
theorem dX4_pour_43 : decode cX4_pour 43 = .ok (.lconst 0, 1) := by decide +kernel
theorem dX4_pour_44 : decode cX4_pour 44 = .ok (.lreturn, 1) := by decide +kernel
theorem dX4_pour_45 : decode cX4_pour 45 = .ok (.aload_n 0, 1) := by decide +kernel
theorem dX4_pour_46 : decode cX4_pour 46 = .ok (.invokevirtual 137, 3) := by decide +kernel
theorem dX4_pour_49 : decode cX4_pour 49 = .ok (.aload_n 0, 1) := by decide +kernel
theorem dX4_pour_50 : decode cX4_pour 50 = .ok (.getfield 13, 3) := by decide +kernel
theorem dX4_pour_53 : decode cX4_pour 53 = .ok (.iload_n 1, 1) := by decide +kernel
theorem dX4_pour_54 : decode cX4_pour 54 = .ok (.iload_n 2, 1) := by decide +kernel
theorem dX4_pour_55 : decode cX4_pour 55 = .ok (.invokestatic 161, 3) := by decide +kernel
theorem dX4_pour_58 : decode cX4_pour 58 = .ok (.lreturn, 1) := by decide +kernel
set_option maxRecDepth 20000 in
theorem ggX4_undo_X4_refused : GoodIn wsX4_undo wsX4_refused := goodIn_r _ [8, 9, 13, 14, 15, 16, 17, 18, 19, 20, 21, 22, 23] (by decide +kernel) (by decide +kernel)
set_option maxRecDepth 20000 in
theorem gX4_undo_X4_refused : GoodIn wsX4_undo (wsV RX4 76 RX4 yX4_refused wsX4_refused) := goodIn_app (goodIn_of _ (by decide +kernel)) ggX4_undo_X4_refused
set_option maxRecDepth 20000 in
theorem ggX4_undo_X4_copyLine : GoodIn wsX4_undo wsX4_copyLine := goodIn_r _ [12] (by decide +kernel) (by decide +kernel)
set_option maxRecDepth 20000 in
theorem gX4_undo_X4_copyLine : GoodIn wsX4_undo (va_wsS RX4 126 yX4_copyLine wsX4_copyLine) := goodIn_app (goodIn_of _ (by decide +kernel)) ggX4_undo_X4_copyLine
theorem dX4_undo_0 : decode cX4_undo 0 = .ok (.aload_n 0, 1) := by decide +kernel
theorem dX4_undo_1 : decode cX4_undo 1 = .ok (.aload_n 0, 1) := by decide +kernel
theorem dX4_undo_2 : decode cX4_undo 2 = .ok (.getfield 92, 3) := by decide +kernel
theorem dX4_undo_5 : decode cX4_undo 5 = .ok (.ifCond .ne 7, 3) := by decide +kernel
theorem dX4_undo_8 : decode cX4_undo 8 = .ok (.iconst 1, 1) := by decide +kernel
theorem dX4_undo_9 : decode cX4_undo 9 = .ok (.goto 4, 3) := by decide +kernel
theorem dX4_undo_12 : decode cX4_undo 12 = .ok (.iconst 0, 1) := by decide +kernel
theorem dX4_undo_13 : decode cX4_undo 13 = .ok (.invokevirtual 76, 3) := by decide +kernel
theorem dX4_undo_16 : decode cX4_undo 16 = .ok (.ifCond .eq 5, 3) := by decide +kernel
theorem dX4_undo_19 : decode cX4_undo 19 = .ok (.iconst 0, 1) := by decide +kernel
theorem dX4_undo_20 : decode cX4_undo 20 = .ok (.ireturn, 1) := by decide +kernel
theorem dX4_undo_21 : decode cX4_undo 21 = .ok (.aload_n 0, 1) := by decide +kernel
theorem dX4_undo_22 : decode cX4_undo 22 = .ok (.dup, 1) := by decide +kernel
theorem dX4_undo_23 : decode cX4_undo 23 = .ok (.getfield 92, 3) := by decide +kernel
theorem dX4_undo_26 : decode cX4_undo 26 = .ok (.iconst 1, 1) := by decide +kernel
theorem dX4_undo_27 : decode cX4_undo 27 = .ok (.isub, 1) := by decide +kernel
theorem dX4_undo_28 : decode cX4_undo 28 = .ok (.putfield 92, 3) := by decide +kernel
theorem dX4_undo_31 : decode cX4_undo 31 = .ok (.aload_n 0, 1) := by decide +kernel
theorem dX4_undo_32 : decode cX4_undo 32 = .ok (.getfield 19, 3) := by decide +kernel
theorem dX4_undo_35 : decode cX4_undo 35 = .ok (.sipush 336, 3) := by decide +kernel
theorem dX4_undo_38 : decode cX4_undo 38 = .ok (.aload_n 0, 1) := by decide +kernel
theorem dX4_undo_39 : decode cX4_undo 39 = .ok (.getfield 92, 3) := by decide +kernel
theorem dX4_undo_42 : decode cX4_undo 42 = .ok (.imul, 1) := by decide +kernel
theorem dX4_undo_43 : decode cX4_undo 43 = .ok (.aload_n 0, 1) := by decide +kernel
theorem dX4_undo_44 : decode cX4_undo 44 = .ok (.getfield 13, 3) := by decide +kernel
theorem dX4_undo_47 : decode cX4_undo 47 = .ok (.iconst 0, 1) := by decide +kernel
theorem dX4_undo_48 : decode cX4_undo 48 = .ok (.invokestatic 126, 3) := by decide +kernel
theorem dX4_undo_51 : decode cX4_undo 51 = .ok (.aload_n 0, 1) := by decide +kernel
theorem dX4_undo_52 : decode cX4_undo 52 = .ok (.getfield 92, 3) := by decide +kernel
theorem dX4_undo_55 : decode cX4_undo 55 = .ok (.ireturn, 1) := by decide +kernel
set_option maxRecDepth 20000 in
theorem ggX4_firstOfChain_X4_at : GoodIn wsX4_firstOfChain wsX4_at := goodIn_r _ [4] (by decide +kernel) (by decide +kernel)
set_option maxRecDepth 20000 in
theorem gX4_firstOfChain_X4_at : GoodIn wsX4_firstOfChain (va_wsS RX4 39 yX4_at wsX4_at) := goodIn_app (goodIn_of _ (by decide +kernel)) ggX4_firstOfChain_X4_at
theorem dX4_firstOfChain_0 : decode cX4_firstOfChain 0 = .ok (.iload_n 1, 1) := by decide +kernel
theorem dX4_firstOfChain_1 : decode cX4_firstOfChain 1 = .ok (.istore_n 2, 1) := by decide +kernel
theorem dX4_firstOfChain_2 : decode cX4_firstOfChain 2 = .ok (.iload_n 2, 1) := by decide +kernel
theorem dX4_firstOfChain_3 : decode cX4_firstOfChain 3 = .ok (.ifCond .le 23, 3) := by decide +kernel
theorem dX4_firstOfChain_6 : decode cX4_firstOfChain 6 = .ok (.aload_n 0, 1) := by decide +kernel
theorem dX4_firstOfChain_7 : decode cX4_firstOfChain 7 = .ok (.iload_n 2, 1) := by decide +kernel
theorem dX4_firstOfChain_8 : decode cX4_firstOfChain 8 = .ok (.iconst 1, 1) := by decide +kernel
theorem dX4_firstOfChain_9 : decode cX4_firstOfChain 9 = .ok (.isub, 1) := by decide +kernel
theorem dX4_firstOfChain_10 : decode cX4_firstOfChain 10 = .ok (.invokestatic 39, 3) := by decide +kernel
theorem dX4_firstOfChain_13 : decode cX4_firstOfChain 13 = .ok (.iconst 1, 1) := by decide +kernel
theorem dX4_firstOfChain_14 : decode cX4_firstOfChain 14 = .ok (.iadd, 1) := by decide +kernel
theorem dX4_firstOfChain_15 : decode cX4_firstOfChain 15 = .ok (.iaload, 1) := by decide +kernel
theorem dX4_firstOfChain_16 : decode cX4_firstOfChain 16 = .ok (.iconst 1, 1) := by decide +kernel
theorem dX4_firstOfChain_17 : decode cX4_firstOfChain 17 = .ok (.if_icmp .ne 9, 3) := by decide +kernel
theorem dX4_firstOfChain_20 : decode cX4_firstOfChain 20 = .ok (.iinc 2 (-1), 3) := by decide +kernel
theorem dX4_firstOfChain_23 : decode cX4_firstOfChain 23 = .ok (.goto (-21), 3) := by decide +kernel
theorem dX4_firstOfChain_26 : decode cX4_firstOfChain 26 = .ok (.iload_n 2, 1) := by decide +kernel
theorem dX4_firstOfChain_27 : decode cX4_firstOfChain 27 = .ok (.ireturn, 1) := by decide +kernel
set_option maxRecDepth 20000 in
theorem ggX4_settles_X4_firstOfChain : GoodIn wsX4_settles wsX4_firstOfChain := goodIn_r _ [4, 5, 6, 3, 7] (by decide +kernel) (by decide +kernel)
set_option maxRecDepth 20000 in
theorem gX4_settles_X4_firstOfChain : GoodIn wsX4_settles (va_wsS RX4 165 yX4_firstOfChain wsX4_firstOfChain) := goodIn_app (goodIn_of _ (by decide +kernel)) ggX4_settles_X4_firstOfChain
set_option maxRecDepth 20000 in
theorem ggX4_settles_X4_waitsOn : GoodIn wsX4_settles wsX4_waitsOn := goodIn_r _ [10, 5, 6, 3, 7] (by decide +kernel) (by decide +kernel)
set_option maxRecDepth 20000 in
theorem gX4_settles_X4_waitsOn : GoodIn wsX4_settles (va_wsS RX4 53 yX4_waitsOn wsX4_waitsOn) := goodIn_app (goodIn_of _ (by decide +kernel)) ggX4_settles_X4_waitsOn
set_option maxRecDepth 20000 in
theorem ggX4_settles_X4_beat : GoodIn wsX4_settles wsX4_beat := goodIn_r _ [14, 15, 16, 5, 6, 3, 7, 17, 18, 19, 20, 21, 22, 23, 24, 25, 26, 27, 28, 29, 30] (by decide +kernel) (by decide +kernel)
set_option maxRecDepth 20000 in
theorem gX4_settles_X4_beat : GoodIn wsX4_settles (wsV RX4 147 RX4 yX4_beat wsX4_beat) := goodIn_app (goodIn_of _ (by decide +kernel)) ggX4_settles_X4_beat
theorem dX4_settles_0 : decode cX4_settles 0 = .ok (.iconst 0, 1) := by decide +kernel
theorem dX4_settles_1 : decode cX4_settles 1 = .ok (.istore_n 3, 1) := by decide +kernel
theorem dX4_settles_2 : decode cX4_settles 2 = .ok (.iconst 1, 1) := by decide +kernel
theorem dX4_settles_3 : decode cX4_settles 3 = .ok (.istore 4, 2) := by decide +kernel
theorem dX4_settles_5 : decode cX4_settles 5 = .ok (.iload 4, 2) := by decide +kernel
theorem dX4_settles_7 : decode cX4_settles 7 = .ok (.ifCond .eq 62, 3) := by decide +kernel
theorem dX4_settles_10 : decode cX4_settles 10 = .ok (.iconst 0, 1) := by decide +kernel
theorem dX4_settles_11 : decode cX4_settles 11 = .ok (.istore 4, 2) := by decide +kernel
theorem dX4_settles_13 : decode cX4_settles 13 = .ok (.aload_n 1, 1) := by decide +kernel
theorem dX4_settles_14 : decode cX4_settles 14 = .ok (.iload_n 2, 1) := by decide +kernel
theorem dX4_settles_15 : decode cX4_settles 15 = .ok (.invokestatic 165, 3) := by decide +kernel
theorem dX4_settles_18 : decode cX4_settles 18 = .ok (.istore 5, 2) := by decide +kernel
theorem dX4_settles_20 : decode cX4_settles 20 = .ok (.iload 5, 2) := by decide +kernel
theorem dX4_settles_22 : decode cX4_settles 22 = .ok (.iload_n 2, 1) := by decide +kernel
theorem dX4_settles_23 : decode cX4_settles 23 = .ok (.if_icmp .gt 30, 3) := by decide +kernel
theorem dX4_settles_26 : decode cX4_settles 26 = .ok (.iload 4, 2) := by decide +kernel
theorem dX4_settles_28 : decode cX4_settles 28 = .ok (.ifCond .ne 12, 3) := by decide +kernel
theorem dX4_settles_31 : decode cX4_settles 31 = .ok (.aload_n 1, 1) := by decide +kernel
theorem dX4_settles_32 : decode cX4_settles 32 = .ok (.iload 5, 2) := by decide +kernel
theorem dX4_settles_34 : decode cX4_settles 34 = .ok (.invokestatic 53, 3) := by decide +kernel
theorem dX4_settles_37 : decode cX4_settles 37 = .ok (.ifCond .le 7, 3) := by decide +kernel
theorem dX4_settles_40 : decode cX4_settles 40 = .ok (.iconst 1, 1) := by decide +kernel
theorem dX4_settles_41 : decode cX4_settles 41 = .ok (.goto 4, 3) := by decide +kernel
theorem dX4_settles_44 : decode cX4_settles 44 = .ok (.iconst 0, 1) := by decide +kernel
theorem dX4_settles_45 : decode cX4_settles 45 = .ok (.istore 4, 2) := by decide +kernel
theorem dX4_settles_47 : decode cX4_settles 47 = .ok (.iinc 5 1, 3) := by decide +kernel
theorem dX4_settles_50 : decode cX4_settles 50 = .ok (.goto (-30), 3) := by decide +kernel
theorem dX4_settles_53 : decode cX4_settles 53 = .ok (.iload 4, 2) := by decide +kernel
theorem dX4_settles_55 : decode cX4_settles 55 = .ok (.ifCond .eq (-50), 3) := by decide +kernel
theorem dX4_settles_58 : decode cX4_settles 58 = .ok (.aload_n 0, 1) := by decide +kernel
theorem dX4_settles_59 : decode cX4_settles 59 = .ok (.aload_n 1, 1) := by decide +kernel
theorem dX4_settles_60 : decode cX4_settles 60 = .ok (.invokevirtual 147, 3) := by decide +kernel
theorem dX4_settles_63 : decode cX4_settles 63 = .ok (.iinc 3 1, 3) := by decide +kernel
theorem dX4_settles_66 : decode cX4_settles 66 = .ok (.goto (-61), 3) := by decide +kernel
theorem dX4_settles_69 : decode cX4_settles 69 = .ok (.iload_n 3, 1) := by decide +kernel
theorem dX4_settles_70 : decode cX4_settles 70 = .ok (.ireturn, 1) := by decide +kernel
set_option maxRecDepth 20000 in
theorem ggX4_settled_X4_isCounter : GoodIn wsX4_settled wsX4_isCounter := goodIn_r _ [6, 7, 8, 5, 9] (by decide +kernel) (by decide +kernel)
set_option maxRecDepth 20000 in
theorem gX4_settled_X4_isCounter : GoodIn wsX4_settled (va_wsS RX4 103 yX4_isCounter wsX4_isCounter) := goodIn_app (goodIn_of _ (by decide +kernel)) ggX4_settled_X4_isCounter
set_option maxRecDepth 20000 in
theorem ggX4_settled_X4_refused : GoodIn wsX4_settled wsX4_refused := goodIn_r _ [13, 14, 40, 41, 42, 43, 44, 45, 46, 47, 48, 49, 50] (by decide +kernel) (by decide +kernel)
set_option maxRecDepth 20000 in
theorem gX4_settled_X4_refused : GoodIn wsX4_settled (wsV RX4 76 RX4 yX4_refused wsX4_refused) := goodIn_app (goodIn_of _ (by decide +kernel)) ggX4_settled_X4_refused
set_option maxRecDepth 20000 in
theorem ggX4_settled_X4_copyLine : GoodIn wsX4_settled wsX4_copyLine := goodIn_r _ [17] (by decide +kernel) (by decide +kernel)
set_option maxRecDepth 20000 in
theorem gX4_settled_X4_copyLine : GoodIn wsX4_settled (va_wsS RX4 126 yX4_copyLine wsX4_copyLine) := goodIn_app (goodIn_of _ (by decide +kernel)) ggX4_settled_X4_copyLine
set_option maxRecDepth 20000 in
theorem ggX4_settled_X4_settles : GoodIn wsX4_settled wsX4_settles := goodIn_r _ [21, 22, 23, 5, 24, 25, 26, 27, 28, 29, 30, 31, 32, 33, 34, 35, 36, 37, 38, 39, 40, 41, 42, 43, 44, 45, 46, 47, 48, 49, 50] (by decide +kernel) (by decide +kernel)
set_option maxRecDepth 20000 in
theorem gX4_settled_X4_settles : GoodIn wsX4_settled (wsV RX4 168 RX4 yX4_settles wsX4_settles) := goodIn_app (goodIn_of _ (by decide +kernel)) ggX4_settled_X4_settles
theorem dX4_settled_0 : decode cX4_settled 0 = .ok (.aload_n 0, 1) := by decide +kernel
theorem dX4_settled_1 : decode cX4_settled 1 = .ok (.aload_n 0, 1) := by decide +kernel
theorem dX4_settled_2 : decode cX4_settled 2 = .ok (.getfield 13, 3) := by decide +kernel
theorem dX4_settled_5 : decode cX4_settled 5 = .ok (.iload_n 1, 1) := by decide +kernel
theorem dX4_settled_6 : decode cX4_settled 6 = .ok (.invokestatic 103, 3) := by decide +kernel
theorem dX4_settled_9 : decode cX4_settled 9 = .ok (.ifCond .eq 7, 3) := by decide +kernel
theorem dX4_settled_12 : decode cX4_settled 12 = .ok (.iconst 0, 1) := by decide +kernel
theorem dX4_settled_13 : decode cX4_settled 13 = .ok (.goto 4, 3) := by decide +kernel
theorem dX4_settled_16 : decode cX4_settled 16 = .ok (.iconst 1, 1) := by decide +kernel
theorem dX4_settled_17 : decode cX4_settled 17 = .ok (.invokevirtual 76, 3) := by decide +kernel
theorem dX4_settled_20 : decode cX4_settled 20 = .ok (.ifCond .eq 5, 3) := by decide +kernel
theorem dX4_settled_23 : decode cX4_settled 23 = .ok (.iconst 0, 1) := by decide +kernel
theorem dX4_settled_24 : decode cX4_settled 24 = .ok (.ireturn, 1) := by decide +kernel
theorem dX4_settled_25 : decode cX4_settled 25 = .ok (.aload_n 0, 1) := by decide +kernel
theorem dX4_settled_26 : decode cX4_settled 26 = .ok (.getfield 13, 3) := by decide +kernel
theorem dX4_settled_29 : decode cX4_settled 29 = .ok (.iconst 0, 1) := by decide +kernel
theorem dX4_settled_30 : decode cX4_settled 30 = .ok (.aload_n 0, 1) := by decide +kernel
theorem dX4_settled_31 : decode cX4_settled 31 = .ok (.getfield 16, 3) := by decide +kernel
theorem dX4_settled_34 : decode cX4_settled 34 = .ok (.iconst 0, 1) := by decide +kernel
theorem dX4_settled_35 : decode cX4_settled 35 = .ok (.invokestatic 126, 3) := by decide +kernel
theorem dX4_settled_38 : decode cX4_settled 38 = .ok (.aload_n 0, 1) := by decide +kernel
theorem dX4_settled_39 : decode cX4_settled 39 = .ok (.aload_n 0, 1) := by decide +kernel
theorem dX4_settled_40 : decode cX4_settled 40 = .ok (.getfield 16, 3) := by decide +kernel
theorem dX4_settled_43 : decode cX4_settled 43 = .ok (.iload_n 1, 1) := by decide +kernel
theorem dX4_settled_44 : decode cX4_settled 44 = .ok (.invokevirtual 168, 3) := by decide +kernel
theorem dX4_settled_47 : decode cX4_settled 47 = .ok (.ireturn, 1) := by decide +kernel
set_option maxRecDepth 20000 in
theorem ggX4_shownAtLast_X4_isCounter : GoodIn wsX4_shownAtLast wsX4_isCounter := goodIn_r _ [6, 7, 8, 5, 9] (by decide +kernel) (by decide +kernel)
set_option maxRecDepth 20000 in
theorem gX4_shownAtLast_X4_isCounter : GoodIn wsX4_shownAtLast (va_wsS RX4 103 yX4_isCounter wsX4_isCounter) := goodIn_app (goodIn_of _ (by decide +kernel)) ggX4_shownAtLast_X4_isCounter
set_option maxRecDepth 20000 in
theorem ggX4_shownAtLast_X4_refused : GoodIn wsX4_shownAtLast wsX4_refused := goodIn_r _ [13, 14, 42, 43, 44, 45, 46, 47, 48, 49, 50, 51, 52] (by decide +kernel) (by decide +kernel)
set_option maxRecDepth 20000 in
theorem gX4_shownAtLast_X4_refused : GoodIn wsX4_shownAtLast (wsV RX4 76 RX4 yX4_refused wsX4_refused) := goodIn_app (goodIn_of _ (by decide +kernel)) ggX4_shownAtLast_X4_refused
set_option maxRecDepth 20000 in
theorem ggX4_shownAtLast_X4_copyLine : GoodIn wsX4_shownAtLast wsX4_copyLine := goodIn_r _ [17] (by decide +kernel) (by decide +kernel)
set_option maxRecDepth 20000 in
theorem gX4_shownAtLast_X4_copyLine : GoodIn wsX4_shownAtLast (va_wsS RX4 126 yX4_copyLine wsX4_copyLine) := goodIn_app (goodIn_of _ (by decide +kernel)) ggX4_shownAtLast_X4_copyLine
set_option maxRecDepth 20000 in
theorem ggX4_shownAtLast_X4_allSettled : GoodIn wsX4_shownAtLast wsX4_allSettled := goodIn_r _ [20, 21, 22, 5, 23, 24, 25, 26, 27, 28, 29] (by decide +kernel) (by decide +kernel)
set_option maxRecDepth 20000 in
theorem gX4_shownAtLast_X4_allSettled : GoodIn wsX4_shownAtLast (va_wsS RX4 171 yX4_allSettled wsX4_allSettled) := goodIn_app (goodIn_of _ (by decide +kernel)) ggX4_shownAtLast_X4_allSettled
set_option maxRecDepth 20000 in
theorem ggX4_shownAtLast_X4_beat : GoodIn wsX4_shownAtLast wsX4_beat := goodIn_r _ [33, 34, 35, 27, 28, 5, 29, 36, 37, 38, 42, 43, 44, 45, 46, 47, 48, 49, 50, 51, 52] (by decide +kernel) (by decide +kernel)
set_option maxRecDepth 20000 in
theorem gX4_shownAtLast_X4_beat : GoodIn wsX4_shownAtLast (wsV RX4 147 RX4 yX4_beat wsX4_beat) := goodIn_app (goodIn_of _ (by decide +kernel)) ggX4_shownAtLast_X4_beat
set_option maxRecDepth 20000 in
theorem ggX4_shownAtLast_X4_shownOn : GoodIn wsX4_shownAtLast wsX4_shownOn := goodIn_r _ [41, 27, 28, 5, 29] (by decide +kernel) (by decide +kernel)
set_option maxRecDepth 20000 in
theorem gX4_shownAtLast_X4_shownOn : GoodIn wsX4_shownAtLast (va_wsS RX4 107 yX4_shownOn wsX4_shownOn) := goodIn_app (goodIn_of _ (by decide +kernel)) ggX4_shownAtLast_X4_shownOn
theorem dX4_shownAtLast_0 : decode cX4_shownAtLast 0 = .ok (.aload_n 0, 1) := by decide +kernel
theorem dX4_shownAtLast_1 : decode cX4_shownAtLast 1 = .ok (.aload_n 0, 1) := by decide +kernel
theorem dX4_shownAtLast_2 : decode cX4_shownAtLast 2 = .ok (.getfield 13, 3) := by decide +kernel
theorem dX4_shownAtLast_5 : decode cX4_shownAtLast 5 = .ok (.iload_n 1, 1) := by decide +kernel
theorem dX4_shownAtLast_6 : decode cX4_shownAtLast 6 = .ok (.invokestatic 103, 3) := by decide +kernel
theorem dX4_shownAtLast_9 : decode cX4_shownAtLast 9 = .ok (.ifCond .eq 7, 3) := by decide +kernel
theorem dX4_shownAtLast_12 : decode cX4_shownAtLast 12 = .ok (.iconst 0, 1) := by decide +kernel
theorem dX4_shownAtLast_13 : decode cX4_shownAtLast 13 = .ok (.goto 4, 3) := by decide +kernel
theorem dX4_shownAtLast_16 : decode cX4_shownAtLast 16 = .ok (.iconst 1, 1) := by decide +kernel
theorem dX4_shownAtLast_17 : decode cX4_shownAtLast 17 = .ok (.invokevirtual 76, 3) := by decide +kernel
theorem dX4_shownAtLast_20 : decode cX4_shownAtLast 20 = .ok (.ifCond .eq 5, 3) := by decide +kernel
theorem dX4_shownAtLast_23 : decode cX4_shownAtLast 23 = .ok (.iconst 0, 1) := by decide +kernel
theorem dX4_shownAtLast_24 : decode cX4_shownAtLast 24 = .ok (.ireturn, 1) := by decide +kernel
theorem dX4_shownAtLast_25 : decode cX4_shownAtLast 25 = .ok (.aload_n 0, 1) := by decide +kernel
theorem dX4_shownAtLast_26 : decode cX4_shownAtLast 26 = .ok (.getfield 13, 3) := by decide +kernel
theorem dX4_shownAtLast_29 : decode cX4_shownAtLast 29 = .ok (.iconst 0, 1) := by decide +kernel
theorem dX4_shownAtLast_30 : decode cX4_shownAtLast 30 = .ok (.aload_n 0, 1) := by decide +kernel
theorem dX4_shownAtLast_31 : decode cX4_shownAtLast 31 = .ok (.getfield 16, 3) := by decide +kernel
theorem dX4_shownAtLast_34 : decode cX4_shownAtLast 34 = .ok (.iconst 0, 1) := by decide +kernel
theorem dX4_shownAtLast_35 : decode cX4_shownAtLast 35 = .ok (.invokestatic 126, 3) := by decide +kernel
theorem dX4_shownAtLast_38 : decode cX4_shownAtLast 38 = .ok (.aload_n 0, 1) := by decide +kernel
theorem dX4_shownAtLast_39 : decode cX4_shownAtLast 39 = .ok (.getfield 16, 3) := by decide +kernel
theorem dX4_shownAtLast_42 : decode cX4_shownAtLast 42 = .ok (.invokestatic 171, 3) := by decide +kernel
theorem dX4_shownAtLast_45 : decode cX4_shownAtLast 45 = .ok (.ifCond .ne 14, 3) := by decide +kernel
theorem dX4_shownAtLast_48 : decode cX4_shownAtLast 48 = .ok (.aload_n 0, 1) := by decide +kernel
theorem dX4_shownAtLast_49 : decode cX4_shownAtLast 49 = .ok (.aload_n 0, 1) := by decide +kernel
theorem dX4_shownAtLast_50 : decode cX4_shownAtLast 50 = .ok (.getfield 16, 3) := by decide +kernel
theorem dX4_shownAtLast_53 : decode cX4_shownAtLast 53 = .ok (.invokevirtual 147, 3) := by decide +kernel
theorem dX4_shownAtLast_56 : decode cX4_shownAtLast 56 = .ok (.goto (-18), 3) := by decide +kernel
theorem dX4_shownAtLast_59 : decode cX4_shownAtLast 59 = .ok (.aload_n 0, 1) := by decide +kernel
theorem dX4_shownAtLast_60 : decode cX4_shownAtLast 60 = .ok (.getfield 16, 3) := by decide +kernel
theorem dX4_shownAtLast_63 : decode cX4_shownAtLast 63 = .ok (.iload_n 1, 1) := by decide +kernel
theorem dX4_shownAtLast_64 : decode cX4_shownAtLast 64 = .ok (.invokestatic 107, 3) := by decide +kernel
theorem dX4_shownAtLast_67 : decode cX4_shownAtLast 67 = .ok (.ireturn, 1) := by decide +kernel
