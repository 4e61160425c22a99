set_option maxRecDepth 20000 in
theorem ggX4_worth_X4_isCounter : GoodIn wsX4_worth wsX4_isCounter := goodIn_r _ [5, 6, 7, 4, 8] (by decide +kernel) (by decide +kernel)
set_option maxRecDepth 20000 in
theorem gX4_worth_X4_isCounter : GoodIn wsX4_worth (va_wsS RX4 103 yX4_isCounter wsX4_isCounter) := goodIn_app (goodIn_of _ (by decide +kernel)) ggX4_worth_X4_isCounter
set_option maxRecDepth 20000 in
theorem ggX4_worth_X4_refused : GoodIn wsX4_worth wsX4_refused := goodIn_r _ [12, 13, 21, 22, 23, 24, 25, 26, 27, 28, 29, 30, 31] (by decide +kernel) (by decide +kernel)
set_option maxRecDepth 20000 in
theorem gX4_worth_X4_refused : GoodIn wsX4_worth (wsV RX4 76 RX4 yX4_refused wsX4_refused) := goodIn_app (goodIn_of _ (by decide +kernel)) ggX4_worth_X4_refused
set_option maxRecDepth 20000 in
theorem ggX4_worth_X4_worthOn : GoodIn wsX4_worth wsX4_worthOn := goodIn_r _ [16, 17, 18, 19, 4, 20] (by decide +kernel) (by decide +kernel)
set_option maxRecDepth 20000 in
theorem gX4_worth_X4_worthOn : GoodIn wsX4_worth (va_wsS RX4 110 yX4_worthOn wsX4_worthOn) := goodIn_app (goodIn_of _ (by decide +kernel)) ggX4_worth_X4_worthOn
theorem dX4_worth_0 : decode cX4_worth 0 = .ok (.aload_n 0, 1) := by decide +kernel
theorem dX4_worth_1 : decode cX4_worth 1 = .ok (.aload_n 0, 1) := by decide +kernel
theorem dX4_worth_2 : decode cX4_worth 2 = .ok (.getfield 13, 3) := by decide +kernel
theorem dX4_worth_5 : decode cX4_worth 5 = .ok (.iload_n 1, 1) := by decide +kernel
theorem dX4_worth_6 : decode cX4_worth 6 = .ok (.invokestatic 103, 3) := by decide +kernel
theorem dX4_worth_9 : decode cX4_worth 9 = .ok (.ifCond .eq 7, 3) := by decide +kernel
theorem dX4_worth_12 : decode cX4_worth 12 = .ok (.iconst 0, 1) := by decide +kernel
theorem dX4_worth_13 : decode cX4_worth 13 = .ok (.goto 4, 3) := by decide +kernel
theorem dX4_worth_16 : decode cX4_worth 16 = .ok (.iconst 1, 1) := by decide +kernel
theorem dX4_worth_17 : decode cX4_worth 17 = .ok (.invokevirtual 76, 3) := by decide +kernel
theorem dX4_worth_20 : decode cX4_worth 20 = .ok (.ifCond .eq 5, 3) := by decide +kernel
theorem dX4_worth_23 : decode cX4_worth 23 = .ok (.lconst 0, 1) := by decide +kernel
theorem dX4_worth_24 : decode cX4_worth 24 = .ok (.lreturn, 1) := by decide +kernel
theorem dX4_worth_25 : decode cX4_worth 25 = .ok (.aload_n 0, 1) := by decide +kernel
theorem dX4_worth_26 : decode cX4_worth 26 = .ok (.getfield 13, 3) := by decide +kernel
theorem dX4_worth_29 : decode cX4_worth 29 = .ok (.iload_n 1, 1) := by decide +kernel
theorem dX4_worth_30 : decode cX4_worth 30 = .ok (.invokestatic 110, 3) := by decide +kernel
theorem dX4_worth_33 : decode cX4_worth 33 = .ok (.lreturn, 1) := by decide +kernel
set_option maxRecDepth 20000 in
theorem ggX4_counter_X4_isCounter : GoodIn wsX4_counter wsX4_isCounter := goodIn_r _ [6, 7, 8, 5, 9] (by decide +kernel) (by decide +kernel)
set_option maxRecDepth 20000 in
theorem gX4_counter_X4_isCounter : GoodIn wsX4_counter (va_wsS RX4 103 yX4_isCounter wsX4_isCounter) := goodIn_app (goodIn_of _ (by decide +kernel)) ggX4_counter_X4_isCounter
set_option maxRecDepth 20000 in
theorem ggX4_counter_X4_in : GoodIn wsX4_counter wsX4_in := goodIn_r _ [9] (by decide +kernel) (by decide +kernel)
set_option maxRecDepth 20000 in
theorem gX4_counter_X4_in : GoodIn wsX4_counter (va_wsS RX4 47 yX4_in wsX4_in) := goodIn_app (goodIn_of _ (by decide +kernel)) ggX4_counter_X4_in
set_option maxRecDepth 20000 in
theorem ggX4_counter_X4_refused : GoodIn wsX4_counter wsX4_refused := goodIn_r _ [13, 14, 21, 22, 23, 24, 25, 26, 27, 28, 29, 30, 31] (by decide +kernel) (by decide +kernel)
set_option maxRecDepth 20000 in
theorem gX4_counter_X4_refused : GoodIn wsX4_counter (wsV RX4 76 RX4 yX4_refused wsX4_refused) := goodIn_app (goodIn_of _ (by decide +kernel)) ggX4_counter_X4_refused
set_option maxRecDepth 20000 in
theorem ggX4_counter_X4_waitsOn : GoodIn wsX4_counter wsX4_waitsOn := goodIn_r _ [17, 18, 19, 5, 20] (by decide +kernel) (by decide +kernel)
set_option maxRecDepth 20000 in
theorem gX4_counter_X4_waitsOn : GoodIn wsX4_counter (va_wsS RX4 53 yX4_waitsOn wsX4_waitsOn) := goodIn_app (goodIn_of _ (by decide +kernel)) ggX4_counter_X4_waitsOn
set_option maxRecDepth 20000 in
theorem ggX4_counter_X4_at : GoodIn wsX4_counter wsX4_at := goodIn_r _ [20] (by decide +kernel) (by decide +kernel)
set_option maxRecDepth 20000 in
theorem gX4_counter_X4_at : GoodIn wsX4_counter (va_wsS RX4 39 yX4_at wsX4_at) := goodIn_app (goodIn_of _ (by decide +kernel)) ggX4_counter_X4_at
theorem dX4_counter_0 : decode cX4_counter 0 = .ok (.aload_n 0, 1) := by decide +kernel
theorem dX4_counter_1 : decode cX4_counter 1 = .ok (.aload_n 0, 1) := by decide +kernel
theorem dX4_counter_2 : decode cX4_counter 2 = .ok (.getfield 13, 3) := by decide +kernel
theorem dX4_counter_5 : decode cX4_counter 5 = .ok (.iload_n 1, 1) := by decide +kernel
theorem dX4_counter_6 : decode cX4_counter 6 = .ok (.invokestatic 103, 3) := by decide +kernel
theorem dX4_counter_9 : decode cX4_counter 9 = .ok (.ifCond .ne 7, 3) := by decide +kernel
theorem dX4_counter_12 : decode cX4_counter 12 = .ok (.iconst 1, 1) := by decide +kernel
theorem dX4_counter_13 : decode cX4_counter 13 = .ok (.goto 20, 3) := by decide +kernel
theorem dX4_counter_16 : decode cX4_counter 16 = .ok (.iload_n 2, 1) := by decide +kernel
theorem dX4_counter_17 : decode cX4_counter 17 = .ok (.i2l, 1) := by decide +kernel
theorem dX4_counter_18 : decode cX4_counter 18 = .ok (.lconst 0, 1) := by decide +kernel
theorem dX4_counter_19 : decode cX4_counter 19 = .ok (.ldc2_w 114, 3) := by decide +kernel
theorem dX4_counter_22 : decode cX4_counter 22 = .ok (.invokestatic 47, 3) := by decide +kernel
theorem dX4_counter_25 : decode cX4_counter 25 = .ok (.ifCond .eq 7, 3) := by decide +kernel
theorem dX4_counter_28 : decode cX4_counter 28 = .ok (.iconst 0, 1) := by decide +kernel
theorem dX4_counter_29 : decode cX4_counter 29 = .ok (.goto 4, 3) := by decide +kernel
theorem dX4_counter_32 : decode cX4_counter 32 = .ok (.iconst 2, 1) := by decide +kernel
theorem dX4_counter_33 : decode cX4_counter 33 = .ok (.invokevirtual 76, 3) := by decide +kernel
theorem dX4_counter_36 : decode cX4_counter 36 = .ok (.ifCond .eq 5, 3) := by decide +kernel
theorem dX4_counter_39 : decode cX4_counter 39 = .ok (.iconst 0, 1) := by decide +kernel
theorem dX4_counter_40 : decode cX4_counter 40 = .ok (.ireturn, 1) := by decide +kernel
theorem dX4_counter_41 : decode cX4_counter 41 = .ok (.iload_n 2, 1) := by decide +kernel
theorem dX4_counter_42 : decode cX4_counter 42 = .ok (.iconst 4, 1) := by decide +kernel
theorem dX4_counter_43 : decode cX4_counter 43 = .ok (.if_icmp .ne 12, 3) := by decide +kernel
theorem dX4_counter_46 : decode cX4_counter 46 = .ok (.aload_n 0, 1) := by decide +kernel
theorem dX4_counter_47 : decode cX4_counter 47 = .ok (.getfield 13, 3) := by decide +kernel
theorem dX4_counter_50 : decode cX4_counter 50 = .ok (.iload_n 1, 1) := by decide +kernel
theorem dX4_counter_51 : decode cX4_counter 51 = .ok (.invokestatic 53, 3) := by decide +kernel
theorem dX4_counter_54 : decode cX4_counter 54 = .ok (.ireturn, 1) := by decide +kernel
theorem dX4_counter_55 : decode cX4_counter 55 = .ok (.iconst 0, 1) := by decide +kernel
theorem dX4_counter_56 : decode cX4_counter 56 = .ok (.istore_n 3, 1) := by decide +kernel
theorem dX4_counter_57 : decode cX4_counter 57 = .ok (.iconst 0, 1) := by decide +kernel
theorem dX4_counter_58 : decode cX4_counter 58 = .ok (.istore 4, 2) := by decide +kernel
theorem dX4_counter_60 : decode cX4_counter 60 = .ok (.iload 4, 2) := by decide +kernel
theorem dX4_counter_62 : decode cX4_counter 62 = .ok (.aload_n 0, 1) := by decide +kernel
theorem dX4_counter_63 : decode cX4_counter 63 = .ok (.getfield 13, 3) := by decide +kernel
theorem dX4_counter_66 : decode cX4_counter 66 = .ok (.iload_n 1, 1) := by decide +kernel
theorem dX4_counter_67 : decode cX4_counter 67 = .ok (.invokestatic 39, 3) := by decide +kernel
theorem dX4_counter_70 : decode cX4_counter 70 = .ok (.iconst 0, 1) := by decide +kernel
theorem dX4_counter_71 : decode cX4_counter 71 = .ok (.iadd, 1) := by decide +kernel
theorem dX4_counter_72 : decode cX4_counter 72 = .ok (.iaload, 1) := by decide +kernel
theorem dX4_counter_73 : decode cX4_counter 73 = .ok (.if_icmp .ge 26, 3) := by decide +kernel
theorem dX4_counter_76 : decode cX4_counter 76 = .ok (.iload_n 3, 1) := by decide +kernel
theorem dX4_counter_77 : decode cX4_counter 77 = .ok (.aload_n 0, 1) := by decide +kernel
theorem dX4_counter_78 : decode cX4_counter 78 = .ok (.getfield 13, 3) := by decide +kernel
theorem dX4_counter_81 : decode cX4_counter 81 = .ok (.iload_n 1, 1) := by decide +kernel
theorem dX4_counter_82 : decode cX4_counter 82 = .ok (.invokestatic 39, 3) := by decide +kernel
theorem dX4_counter_85 : decode cX4_counter 85 = .ok (.iconst 4, 1) := by decide +kernel
theorem dX4_counter_86 : decode cX4_counter 86 = .ok (.iadd, 1) := by decide +kernel
theorem dX4_counter_87 : decode cX4_counter 87 = .ok (.iload 4, 2) := by decide +kernel
theorem dX4_counter_89 : decode cX4_counter 89 = .ok (.iadd, 1) := by decide +kernel
theorem dX4_counter_90 : decode cX4_counter 90 = .ok (.iaload, 1) := by decide +kernel
theorem dX4_counter_91 : decode cX4_counter 91 = .ok (.iadd, 1) := by decide +kernel
theorem dX4_counter_92 : decode cX4_counter 92 = .ok (.istore_n 3, 1) := by decide +kernel
theorem dX4_counter_93 : decode cX4_counter 93 = .ok (.iinc 4 1, 3) := by decide +kernel
theorem dX4_counter_96 : decode cX4_counter 96 = .ok (.goto (-36), 3) := by decide +kernel
theorem dX4_counter_99 : decode cX4_counter 99 = .ok (.iload_n 2, 1) := by decide +kernel
theorem dX4_counter_100 : decode cX4_counter 100 = .ok (.iconst 5, 1) := by decide +kernel
theorem dX4_counter_101 : decode cX4_counter 101 = .ok (.if_icmp .ne 7, 3) := by decide +kernel
theorem dX4_counter_104 : decode cX4_counter 104 = .ok (.iload_n 3, 1) := by decide +kernel
theorem dX4_counter_105 : decode cX4_counter 105 = .ok (.goto 14, 3) := by decide +kernel
theorem dX4_counter_108 : decode cX4_counter 108 = .ok (.aload_n 0, 1) := by decide +kernel
theorem dX4_counter_109 : decode cX4_counter 109 = .ok (.getfield 13, 3) := by decide +kernel
theorem dX4_counter_112 : decode cX4_counter 112 = .ok (.iload_n 1, 1) := by decide +kernel
theorem dX4_counter_113 : decode cX4_counter 113 = .ok (.invokestatic 39, 3) := by decide +kernel
theorem dX4_counter_116 : decode cX4_counter 116 = .ok (.iload_n 2, 1) := by decide +kernel
theorem dX4_counter_117 : decode cX4_counter 117 = .ok (.iadd, 1) := by decide +kernel
theorem dX4_counter_118 : decode cX4_counter 118 = .ok (.iaload, 1) := by decide +kernel
theorem dX4_counter_119 : decode cX4_counter 119 = .ok (.ireturn, 1) := by decide +kernel
set_option maxRecDepth 20000 in
theorem ggX4_place_X4_isCounter : GoodIn wsX4_place wsX4_isCounter := goodIn_r _ [5, 6, 7, 4, 8] (by decide +kernel) (by decide +kernel)
set_option maxRecDepth 20000 in
theorem gX4_place_X4_isCounter : GoodIn wsX4_place (va_wsS RX4 103 yX4_isCounter wsX4_isCounter) := goodIn_app (goodIn_of _ (by decide +kernel)) ggX4_place_X4_isCounter
set_option maxRecDepth 20000 in
theorem ggX4_place_X4_at : GoodIn wsX4_place wsX4_at := goodIn_r _ [11] (by decide +kernel) (by decide +kernel)
set_option maxRecDepth 20000 in
theorem gX4_place_X4_at : GoodIn wsX4_place (va_wsS RX4 39 yX4_at wsX4_at) := goodIn_app (goodIn_of _ (by decide +kernel)) ggX4_place_X4_at
set_option maxRecDepth 20000 in
theorem ggX4_place_X4_in : GoodIn wsX4_place wsX4_in := goodIn_r _ [8] (by decide +kernel) (by decide +kernel)
set_option maxRecDepth 20000 in
theorem gX4_place_X4_in : GoodIn wsX4_place (va_wsS RX4 47 yX4_in wsX4_in) := goodIn_app (goodIn_of _ (by decide +kernel)) ggX4_place_X4_in
set_option maxRecDepth 20000 in
theorem ggX4_place_X4_refused : GoodIn wsX4_place wsX4_refused := goodIn_r _ [15, 16, 17, 18, 19, 20, 21, 22, 23, 24, 25, 26, 27] (by decide +kernel) (by decide +kernel)
set_option maxRecDepth 20000 in
theorem gX4_place_X4_refused : GoodIn wsX4_place (wsV RX4 76 RX4 yX4_refused wsX4_refused) := goodIn_app (goodIn_of _ (by decide +kernel)) ggX4_place_X4_refused
theorem dX4_place_0 : decode cX4_place 0 = .ok (.aload_n 0, 1) := by decide +kernel
theorem dX4_place_1 : decode cX4_place 1 = .ok (.aload_n 0, 1) := by decide +kernel
theorem dX4_place_2 : decode cX4_place 2 = .ok (.getfield 13, 3) := by decide +kernel
theorem dX4_place_5 : decode cX4_place 5 = .ok (.iload_n 1, 1) := by decide +kernel
theorem dX4_place_6 : decode cX4_place 6 = .ok (.invokestatic 103, 3) := by decide +kernel
theorem dX4_place_9 : decode cX4_place 9 = .ok (.ifCond .eq 26, 3) := by decide +kernel
theorem dX4_place_12 : decode cX4_place 12 = .ok (.iload_n 2, 1) := by decide +kernel
theorem dX4_place_13 : decode cX4_place 13 = .ok (.i2l, 1) := by decide +kernel
theorem dX4_place_14 : decode cX4_place 14 = .ok (.lconst 0, 1) := by decide +kernel
theorem dX4_place_15 : decode cX4_place 15 = .ok (.aload_n 0, 1) := by decide +kernel
theorem dX4_place_16 : decode cX4_place 16 = .ok (.getfield 13, 3) := by decide +kernel
theorem dX4_place_19 : decode cX4_place 19 = .ok (.iload_n 1, 1) := by decide +kernel
theorem dX4_place_20 : decode cX4_place 20 = .ok (.invokestatic 39, 3) := by decide +kernel
theorem dX4_place_23 : decode cX4_place 23 = .ok (.iconst 0, 1) := by decide +kernel
theorem dX4_place_24 : decode cX4_place 24 = .ok (.iadd, 1) := by decide +kernel
theorem dX4_place_25 : decode cX4_place 25 = .ok (.iaload, 1) := by decide +kernel
theorem dX4_place_26 : decode cX4_place 26 = .ok (.iconst 1, 1) := by decide +kernel
theorem dX4_place_27 : decode cX4_place 27 = .ok (.isub, 1) := by decide +kernel
theorem dX4_place_28 : decode cX4_place 28 = .ok (.i2l, 1) := by decide +kernel
theorem dX4_place_29 : decode cX4_place 29 = .ok (.invokestatic 47, 3) := by decide +kernel
theorem dX4_place_32 : decode cX4_place 32 = .ok (.ifCond .ne 7, 3) := by decide +kernel
theorem dX4_place_35 : decode cX4_place 35 = .ok (.iconst 1, 1) := by decide +kernel
theorem dX4_place_36 : decode cX4_place 36 = .ok (.goto 18, 3) := by decide +kernel
theorem dX4_place_39 : decode cX4_place 39 = .ok (.iload_n 3, 1) := by decide +kernel
theorem dX4_place_40 : decode cX4_place 40 = .ok (.i2l, 1) := by decide +kernel
theorem dX4_place_41 : decode cX4_place 41 = .ok (.lconst 0, 1) := by decide +kernel
theorem dX4_place_42 : decode cX4_place 42 = .ok (.lconst 1, 1) := by decide +kernel
theorem dX4_place_43 : decode cX4_place 43 = .ok (.invokestatic 47, 3) := by decide +kernel
theorem dX4_place_46 : decode cX4_place 46 = .ok (.ifCond .eq 7, 3) := by decide +kernel
theorem dX4_place_49 : decode cX4_place 49 = .ok (.iconst 0, 1) := by decide +kernel
theorem dX4_place_50 : decode cX4_place 50 = .ok (.goto 4, 3) := by decide +kernel
theorem dX4_place_53 : decode cX4_place 53 = .ok (.iconst 2, 1) := by decide +kernel
theorem dX4_place_54 : decode cX4_place 54 = .ok (.invokevirtual 76, 3) := by decide +kernel
theorem dX4_place_57 : decode cX4_place 57 = .ok (.ifCond .eq 5, 3) := by decide +kernel
theorem dX4_place_60 : decode cX4_place 60 = .ok (.iconst 0, 1) := by decide +kernel
theorem dX4_place_61 : decode cX4_place 61 = .ok (.ireturn, 1) := by decide +kernel
theorem dX4_place_62 : decode cX4_place 62 = .ok (.aload_n 0, 1) := by decide +kernel
theorem dX4_place_63 : decode cX4_place 63 = .ok (.getfield 13, 3) := by decide +kernel
theorem dX4_place_66 : decode cX4_place 66 = .ok (.iload_n 1, 1) := by decide +kernel
theorem dX4_place_67 : decode cX4_place 67 = .ok (.invokestatic 39, 3) := by decide +kernel
theorem dX4_place_70 : decode cX4_place 70 = .ok (.iload_n 3, 1) := by decide +kernel
theorem dX4_place_71 : decode cX4_place 71 = .ok (.ifCond .ne 7, 3) := by decide +kernel
theorem dX4_place_74 : decode cX4_place 74 = .ok (.iconst 4, 1) := by decide +kernel
theorem dX4_place_75 : decode cX4_place 75 = .ok (.goto 5, 3) := by decide +kernel
theorem dX4_place_78 : decode cX4_place 78 = .ok (.bipush 13, 2) := by decide +kernel
theorem dX4_place_80 : decode cX4_place 80 = .ok (.iadd, 1) := by decide +kernel
theorem dX4_place_81 : decode cX4_place 81 = .ok (.iload_n 2, 1) := by decide +kernel
theorem dX4_place_82 : decode cX4_place 82 = .ok (.iadd, 1) := by decide +kernel
theorem dX4_place_83 : decode cX4_place 83 = .ok (.iaload, 1) := by decide +kernel
theorem dX4_place_84 : decode cX4_place 84 = .ok (.ireturn, 1) := by decide +kernel
set_option maxRecDepth 20000 in
theorem ggX4_ticket_X4_in : GoodIn wsX4_ticket wsX4_in := goodIn_r _ [6] (by decide +kernel) (by decide +kernel)
set_option maxRecDepth 20000 in
theorem gX4_ticket_X4_in : GoodIn wsX4_ticket (va_wsS RX4 47 yX4_in wsX4_in) := goodIn_app (goodIn_of _ (by decide +kernel)) ggX4_ticket_X4_in
set_option maxRecDepth 20000 in
theorem ggX4_ticket_X4_refused : GoodIn wsX4_ticket wsX4_refused := goodIn_r _ [10, 11, 18, 19, 20, 21, 22, 23, 24, 25, 26, 27, 28] (by decide +kernel) (by decide +kernel)
set_option maxRecDepth 20000 in
theorem gX4_ticket_X4_refused : GoodIn wsX4_ticket (wsV RX4 76 RX4 yX4_refused wsX4_refused) := goodIn_app (goodIn_of _ (by decide +kernel)) ggX4_ticket_X4_refused
set_option maxRecDepth 20000 in
theorem ggX4_ticket_X4_doublesOf : GoodIn wsX4_ticket wsX4_doublesOf := goodIn_r _ [14, 15, 16, 5, 17] (by decide +kernel) (by decide +kernel)
set_option maxRecDepth 20000 in
theorem gX4_ticket_X4_doublesOf : GoodIn wsX4_ticket (va_wsS RX4 65 yX4_doublesOf wsX4_doublesOf) := goodIn_app (goodIn_of _ (by decide +kernel)) ggX4_ticket_X4_doublesOf
theorem dX4_ticket_0 : decode cX4_ticket 0 = .ok (.aload_n 0, 1) := by decide +kernel
theorem dX4_ticket_1 : decode cX4_ticket 1 = .ok (.iload_n 1, 1) := by decide +kernel
theorem dX4_ticket_2 : decode cX4_ticket 2 = .ok (.i2l, 1) := by decide +kernel
theorem dX4_ticket_3 : decode cX4_ticket 3 = .ok (.lconst 0, 1) := by decide +kernel
theorem dX4_ticket_4 : decode cX4_ticket 4 = .ok (.aload_n 0, 1) := by decide +kernel
theorem dX4_ticket_5 : decode cX4_ticket 5 = .ok (.getfield 13, 3) := by decide +kernel
theorem dX4_ticket_8 : decode cX4_ticket 8 = .ok (.iconst 3, 1) := by decide +kernel
theorem dX4_ticket_9 : decode cX4_ticket 9 = .ok (.iaload, 1) := by decide +kernel
theorem dX4_ticket_10 : decode cX4_ticket 10 = .ok (.iconst 1, 1) := by decide +kernel
theorem dX4_ticket_11 : decode cX4_ticket 11 = .ok (.isub, 1) := by decide +kernel
theorem dX4_ticket_12 : decode cX4_ticket 12 = .ok (.i2l, 1) := by decide +kernel
theorem dX4_ticket_13 : decode cX4_ticket 13 = .ok (.invokestatic 47, 3) := by decide +kernel
theorem dX4_ticket_16 : decode cX4_ticket 16 = .ok (.ifCond .ne 7, 3) := by decide +kernel
theorem dX4_ticket_19 : decode cX4_ticket 19 = .ok (.iconst 1, 1) := by decide +kernel
theorem dX4_ticket_20 : decode cX4_ticket 20 = .ok (.goto 20, 3) := by decide +kernel
theorem dX4_ticket_23 : decode cX4_ticket 23 = .ok (.iload_n 2, 1) := by decide +kernel
theorem dX4_ticket_24 : decode cX4_ticket 24 = .ok (.i2l, 1) := by decide +kernel
theorem dX4_ticket_25 : decode cX4_ticket 25 = .ok (.lconst 0, 1) := by decide +kernel
theorem dX4_ticket_26 : decode cX4_ticket 26 = .ok (.ldc2_w 116, 3) := by decide +kernel
theorem dX4_ticket_29 : decode cX4_ticket 29 = .ok (.invokestatic 47, 3) := by decide +kernel
theorem dX4_ticket_32 : decode cX4_ticket 32 = .ok (.ifCond .eq 7, 3) := by decide +kernel
theorem dX4_ticket_35 : decode cX4_ticket 35 = .ok (.iconst 0, 1) := by decide +kernel
theorem dX4_ticket_36 : decode cX4_ticket 36 = .ok (.goto 4, 3) := by decide +kernel
theorem dX4_ticket_39 : decode cX4_ticket 39 = .ok (.iconst 2, 1) := by decide +kernel
theorem dX4_ticket_40 : decode cX4_ticket 40 = .ok (.invokevirtual 76, 3) := by decide +kernel
theorem dX4_ticket_43 : decode cX4_ticket 43 = .ok (.ifCond .eq 5, 3) := by decide +kernel
theorem dX4_ticket_46 : decode cX4_ticket 46 = .ok (.lconst 0, 1) := by decide +kernel
theorem dX4_ticket_47 : decode cX4_ticket 47 = .ok (.lreturn, 1) := by decide +kernel
theorem dX4_ticket_48 : decode cX4_ticket 48 = .ok (.sipush 136, 3) := by decide +kernel
theorem dX4_ticket_51 : decode cX4_ticket 51 = .ok (.iconst 4, 1) := by decide +kernel
theorem dX4_ticket_52 : decode cX4_ticket 52 = .ok (.iload_n 1, 1) := by decide +kernel
theorem dX4_ticket_53 : decode cX4_ticket 53 = .ok (.imul, 1) := by decide +kernel
theorem dX4_ticket_54 : decode cX4_ticket 54 = .ok (.iadd, 1) := by decide +kernel
theorem dX4_ticket_55 : decode cX4_ticket 55 = .ok (.istore_n 3, 1) := by decide +kernel
theorem dX4_ticket_56 : decode cX4_ticket 56 = .ok (.iload_n 2, 1) := by decide +kernel
theorem dX4_ticket_57 : decode cX4_ticket 57 = .ok (.iconst 3, 1) := by decide +kernel
theorem dX4_ticket_58 : decode cX4_ticket 58 = .ok (.if_icmp .ge 15, 3) := by decide +kernel
theorem dX4_ticket_61 : decode cX4_ticket 61 = .ok (.aload_n 0, 1) := by decide +kernel
theorem dX4_ticket_62 : decode cX4_ticket 62 = .ok (.getfield 13, 3) := by decide +kernel
theorem dX4_ticket_65 : decode cX4_ticket 65 = .ok (.iload_n 3, 1) := by decide +kernel
theorem dX4_ticket_66 : decode cX4_ticket 66 = .ok (.iload_n 2, 1) := by decide +kernel
theorem dX4_ticket_67 : decode cX4_ticket 67 = .ok (.iadd, 1) := by decide +kernel
theorem dX4_ticket_68 : decode cX4_ticket 68 = .ok (.iaload, 1) := by decide +kernel
theorem dX4_ticket_69 : decode cX4_ticket 69 = .ok (.i2l, 1) := by decide +kernel
theorem dX4_ticket_70 : decode cX4_ticket 70 = .ok (.goto 29, 3) := by decide +kernel
theorem dX4_ticket_73 : decode cX4_ticket 73 = .ok (.iload_n 2, 1) := by decide +kernel
theorem dX4_ticket_74 : decode cX4_ticket 74 = .ok (.iconst 3, 1) := by decide +kernel
theorem dX4_ticket_75 : decode cX4_ticket 75 = .ok (.if_icmp .ne 15, 3) := by decide +kernel
theorem dX4_ticket_78 : decode cX4_ticket 78 = .ok (.aload_n 0, 1) := by decide +kernel
theorem dX4_ticket_79 : decode cX4_ticket 79 = .ok (.getfield 13, 3) := by decide +kernel
theorem dX4_ticket_82 : decode cX4_ticket 82 = .ok (.iload_n 1, 1) := by decide +kernel
theorem dX4_ticket_83 : decode cX4_ticket 83 = .ok (.invokestatic 65, 3) := by decide +kernel
theorem dX4_ticket_86 : decode cX4_ticket 86 = .ok (.i2l, 1) := by decide +kernel
theorem dX4_ticket_87 : decode cX4_ticket 87 = .ok (.goto 12, 3) := by decide +kernel
theorem dX4_ticket_90 : decode cX4_ticket 90 = .ok (.aload_n 0, 1) := by decide +kernel
theorem dX4_ticket_91 : decode cX4_ticket 91 = .ok (.getfield 13, 3) := by decide +kernel
theorem dX4_ticket_94 : decode cX4_ticket 94 = .ok (.iload_n 3, 1) := by decide +kernel
theorem dX4_ticket_95 : decode cX4_ticket 95 = .ok (.iconst 3, 1) := by decide +kernel
theorem dX4_ticket_96 : decode cX4_ticket 96 = .ok (.iadd, 1) := by decide +kernel
theorem dX4_ticket_97 : decode cX4_ticket 97 = .ok (.iaload, 1) := by decide +kernel
theorem dX4_ticket_98 : decode cX4_ticket 98 = .ok (.i2l, 1) := by decide +kernel
theorem dX4_ticket_99 : decode cX4_ticket 99 = .ok (.lreturn, 1) := by decide +kernel
theorem dX4_isAhead_0 : decode cX4_isAhead 0 = .ok (.sipush 136, 3) := by decide +kernel
theorem dX4_isAhead_3 : decode cX4_isAhead 3 = .ok (.iconst 4, 1) := by decide +kernel
theorem dX4_isAhead_4 : decode cX4_isAhead 4 = .ok (.iload_n 1, 1) := by decide +kernel
theorem dX4_isAhead_5 : decode cX4_isAhead 5 = .ok (.imul, 1) := by decide +kernel
theorem dX4_isAhead_6 : decode cX4_isAhead 6 = .ok (.iadd, 1) := by decide +kernel
theorem dX4_isAhead_7 : decode cX4_isAhead 7 = .ok (.istore_n 3, 1) := by decide +kernel
theorem dX4_isAhead_8 : decode cX4_isAhead 8 = .ok (.sipush 136, 3) := by decide +kernel
theorem dX4_isAhead_11 : decode cX4_isAhead 11 = .ok (.iconst 4, 1) := by decide +kernel
theorem dX4_isAhead_12 : decode cX4_isAhead 12 = .ok (.iload_n 2, 1) := by decide +kernel
theorem dX4_isAhead_13 : decode cX4_isAhead 13 = .ok (.imul, 1) := by decide +kernel
theorem dX4_isAhead_14 : decode cX4_isAhead 14 = .ok (.iadd, 1) := by decide +kernel
theorem dX4_isAhead_15 : decode cX4_isAhead 15 = .ok (.istore 4, 2) := by decide +kernel
theorem dX4_isAhead_17 : decode cX4_isAhead 17 = .ok (.aload_n 0, 1) := by decide +kernel
theorem dX4_isAhead_18 : decode cX4_isAhead 18 = .ok (.getfield 13, 3) := by decide +kernel
theorem dX4_isAhead_21 : decode cX4_isAhead 21 = .ok (.iload_n 3, 1) := by decide +kernel
theorem dX4_isAhead_22 : decode cX4_isAhead 22 = .ok (.iconst 1, 1) := by decide +kernel
theorem dX4_isAhead_23 : decode cX4_isAhead 23 = .ok (.iadd, 1) := by decide +kernel
theorem dX4_isAhead_24 : decode cX4_isAhead 24 = .ok (.iaload, 1) := by decide +kernel
theorem dX4_isAhead_25 : decode cX4_isAhead 25 = .ok (.aload_n 0, 1) := by decide +kernel
theorem dX4_isAhead_26 : decode cX4_isAhead 26 = .ok (.getfield 13, 3) := by decide +kernel
theorem dX4_isAhead_29 : decode cX4_isAhead 29 = .ok (.iload 4, 2) := by decide +kernel
theorem dX4_isAhead_31 : decode cX4_isAhead 31 = .ok (.iconst 1, 1) := by decide +kernel
theorem dX4_isAhead_32 : decode cX4_isAhead 32 = .ok (.iadd, 1) := by decide +kernel
theorem dX4_isAhead_33 : decode cX4_isAhead 33 = .ok (.iaload, 1) := by decide +kernel
theorem dX4_isAhead_34 : decode cX4_isAhead 34 = .ok (.if_icmp .eq 31, 3) := by decide +kernel
theorem dX4_isAhead_37 : decode cX4_isAhead 37 = .ok (.aload_n 0, 1) := by decide +kernel
theorem dX4_isAhead_38 : decode cX4_isAhead 38 = .ok (.getfield 13, 3) := by decide +kernel
theorem dX4_isAhead_41 : decode cX4_isAhead 41 = .ok (.iload_n 3, 1) := by decide +kernel
theorem dX4_isAhead_42 : decode cX4_isAhead 42 = .ok (.iconst 1, 1) := by decide +kernel
theorem dX4_isAhead_43 : decode cX4_isAhead 43 = .ok (.iadd, 1) := by decide +kernel
theorem dX4_isAhead_44 : decode cX4_isAhead 44 = .ok (.iaload, 1) := by decide +kernel
theorem dX4_isAhead_45 : decode cX4_isAhead 45 = .ok (.aload_n 0, 1) := by decide +kernel
theorem dX4_isAhead_46 : decode cX4_isAhead 46 = .ok (.getfield 13, 3) := by decide +kernel
theorem dX4_isAhead_49 : decode cX4_isAhead 49 = .ok (.iload 4, 2) := by decide +kernel
theorem dX4_isAhead_51 : decode cX4_isAhead 51 = .ok (.iconst 1, 1) := by decide +kernel
theorem dX4_isAhead_52 : decode cX4_isAhead 52 = .ok (.iadd, 1) := by decide +kernel
theorem dX4_isAhead_53 : decode cX4_isAhead 53 = .ok (.iaload, 1) := by decide +kernel
theorem dX4_isAhead_54 : decode cX4_isAhead 54 = .ok (.if_icmp .ge 7, 3) := by decide +kernel
theorem dX4_isAhead_57 : decode cX4_isAhead 57 = .ok (.iconst 1, 1) := by decide +kernel
theorem dX4_isAhead_58 : decode cX4_isAhead 58 = .ok (.goto 57, 3) := by decide +kernel
theorem dX4_isAhead_61 : decode cX4_isAhead 61 = .ok (.iconst 0, 1) := by decide +kernel
theorem dX4_isAhead_62 : decode cX4_isAhead 62 = .ok (.goto 53, 3) := by decide +kernel
theorem dX4_isAhead_65 : decode cX4_isAhead 65 = .ok (.aload_n 0, 1) := by decide +kernel
theorem dX4_isAhead_66 : decode cX4_isAhead 66 = .ok (.getfield 13, 3) := by decide +kernel
theorem dX4_isAhead_69 : decode cX4_isAhead 69 = .ok (.iload_n 3, 1) := by decide +kernel
theorem dX4_isAhead_70 : decode cX4_isAhead 70 = .ok (.iaload, 1) := by decide +kernel
theorem dX4_isAhead_71 : decode cX4_isAhead 71 = .ok (.aload_n 0, 1) := by decide +kernel
theorem dX4_isAhead_72 : decode cX4_isAhead 72 = .ok (.getfield 13, 3) := by decide +kernel
theorem dX4_isAhead_75 : decode cX4_isAhead 75 = .ok (.iload 4, 2) := by decide +kernel
theorem dX4_isAhead_77 : decode cX4_isAhead 77 = .ok (.iaload, 1) := by decide +kernel
theorem dX4_isAhead_78 : decode cX4_isAhead 78 = .ok (.if_icmp .eq 27, 3) := by decide +kernel
theorem dX4_isAhead_81 : decode cX4_isAhead 81 = .ok (.aload_n 0, 1) := by decide +kernel
theorem dX4_isAhead_82 : decode cX4_isAhead 82 = .ok (.getfield 13, 3) := by decide +kernel
theorem dX4_isAhead_85 : decode cX4_isAhead 85 = .ok (.iload_n 3, 1) := by decide +kernel
theorem dX4_isAhead_86 : decode cX4_isAhead 86 = .ok (.iaload, 1) := by decide +kernel
theorem dX4_isAhead_87 : decode cX4_isAhead 87 = .ok (.aload_n 0, 1) := by decide +kernel
theorem dX4_isAhead_88 : decode cX4_isAhead 88 = .ok (.getfield 13, 3) := by decide +kernel
theorem dX4_isAhead_91 : decode cX4_isAhead 91 = .ok (.iload 4, 2) := by decide +kernel
theorem dX4_isAhead_93 : decode cX4_isAhead 93 = .ok (.iaload, 1) := by decide +kernel
theorem dX4_isAhead_94 : decode cX4_isAhead 94 = .ok (.if_icmp .ge 7, 3) := by decide +kernel
theorem dX4_isAhead_97 : decode cX4_isAhead 97 = .ok (.iconst 1, 1) := by decide +kernel
theorem dX4_isAhead_98 : decode cX4_isAhead 98 = .ok (.goto 17, 3) := by decide +kernel
theorem dX4_isAhead_101 : decode cX4_isAhead 101 = .ok (.iconst 0, 1) := by decide +kernel
theorem dX4_isAhead_102 : decode cX4_isAhead 102 = .ok (.goto 13, 3) := by decide +kernel
theorem dX4_isAhead_105 : decode cX4_isAhead 105 = .ok (.iload_n 1, 1) := by decide +kernel
theorem dX4_isAhead_106 : decode cX4_isAhead 106 = .ok (.iload_n 2, 1) := by decide +kernel
theorem dX4_isAhead_107 : decode cX4_isAhead 107 = .ok (.if_icmp .ge 7, 3) := by decide +kernel
theorem dX4_isAhead_110 : decode cX4_isAhead 110 = .ok (.iconst 1, 1) := by decide +kernel
theorem dX4_isAhead_111 : decode cX4_isAhead 111 = .ok (.goto 4, 3) := by decide +kernel
theorem dX4_isAhead_114 : decode cX4_isAhead 114 = .ok (.iconst 0, 1) := by decide +kernel
theorem dX4_isAhead_115 : decode cX4_isAhead 115 = .ok (.ireturn, 1) := by decide +kernel
set_option maxRecDepth 20000 in
theorem ggX4_sorted_X4_in : GoodIn wsX4_sorted wsX4_in := goodIn_r _ [5] (by decide +kernel) (by decide +kernel)
set_option maxRecDepth 20000 in
theorem gX4_sorted_X4_in : GoodIn wsX4_sorted (va_wsS RX4 47 yX4_in wsX4_in) := goodIn_app (goodIn_of _ (by decide +kernel)) ggX4_sorted_X4_in
set_option maxRecDepth 20000 in
theorem ggX4_sorted_X4_refused : GoodIn wsX4_sorted wsX4_refused := goodIn_r _ [9, 10, 15, 16, 17, 18, 19, 20, 21, 22, 23, 24, 25] (by decide +kernel) (by decide +kernel)
set_option maxRecDepth 20000 in
theorem gX4_sorted_X4_refused : GoodIn wsX4_sorted (wsV RX4 76 RX4 yX4_refused wsX4_refused) := goodIn_app (goodIn_of _ (by decide +kernel)) ggX4_sorted_X4_refused
set_option maxRecDepth 20000 in
theorem ggX4_sorted_X4_isAhead : GoodIn wsX4_sorted wsX4_isAhead := goodIn_r _ [14, 1, 15, 16, 17, 18, 19, 20, 21, 22, 23, 24, 25] (by decide +kernel) (by decide +kernel)
set_option maxRecDepth 20000 in
theorem gX4_sorted_X4_isAhead : GoodIn wsX4_sorted (wsV RX4 118 RX4 yX4_isAhead wsX4_isAhead) := goodIn_app (goodIn_of _ (by decide +kernel)) ggX4_sorted_X4_isAhead
theorem dX4_sorted_0 : decode cX4_sorted 0 = .ok (.aload_n 0, 1) := by decide +kernel
theorem dX4_sorted_1 : decode cX4_sorted 1 = .ok (.iload_n 1, 1) := by decide +kernel
theorem dX4_sorted_2 : decode cX4_sorted 2 = .ok (.i2l, 1) := by decide +kernel
theorem dX4_sorted_3 : decode cX4_sorted 3 = .ok (.lconst 0, 1) := by decide +kernel
theorem dX4_sorted_4 : decode cX4_sorted 4 = .ok (.aload_n 0, 1) := by decide +kernel
theorem dX4_sorted_5 : decode cX4_sorted 5 = .ok (.getfield 13, 3) := by decide +kernel
theorem dX4_sorted_8 : decode cX4_sorted 8 = .ok (.iconst 3, 1) := by decide +kernel
theorem dX4_sorted_9 : decode cX4_sorted 9 = .ok (.iaload, 1) := by decide +kernel
theorem dX4_sorted_10 : decode cX4_sorted 10 = .ok (.iconst 1, 1) := by decide +kernel
theorem dX4_sorted_11 : decode cX4_sorted 11 = .ok (.isub, 1) := by decide +kernel
theorem dX4_sorted_12 : decode cX4_sorted 12 = .ok (.i2l, 1) := by decide +kernel
theorem dX4_sorted_13 : decode cX4_sorted 13 = .ok (.invokestatic 47, 3) := by decide +kernel
theorem dX4_sorted_16 : decode cX4_sorted 16 = .ok (.ifCond .eq 7, 3) := by decide +kernel
theorem dX4_sorted_19 : decode cX4_sorted 19 = .ok (.iconst 0, 1) := by decide +kernel
theorem dX4_sorted_20 : decode cX4_sorted 20 = .ok (.goto 4, 3) := by decide +kernel
theorem dX4_sorted_23 : decode cX4_sorted 23 = .ok (.iconst 1, 1) := by decide +kernel
theorem dX4_sorted_24 : decode cX4_sorted 24 = .ok (.invokevirtual 76, 3) := by decide +kernel
theorem dX4_sorted_27 : decode cX4_sorted 27 = .ok (.ifCond .eq 5, 3) := by decide +kernel
theorem dX4_sorted_30 : decode cX4_sorted 30 = .ok (.iconst 0, 1) := by decide +kernel
theorem dX4_sorted_31 : decode cX4_sorted 31 = .ok (.ireturn, 1) := by decide +kernel
theorem dX4_sorted_32 : decode cX4_sorted 32 = .ok (.iconst (-1), 1) := by decide +kernel
theorem dX4_sorted_33 : decode cX4_sorted 33 = .ok (.istore_n 2, 1) := by decide +kernel
theorem dX4_sorted_34 : decode cX4_sorted 34 = .ok (.iconst 0, 1) := by decide +kernel
theorem dX4_sorted_35 : decode cX4_sorted 35 = .ok (.istore_n 3, 1) := by decide +kernel
theorem dX4_sorted_36 : decode cX4_sorted 36 = .ok (.iload_n 3, 1) := by decide +kernel
theorem dX4_sorted_37 : decode cX4_sorted 37 = .ok (.aload_n 0, 1) := by decide +kernel
theorem dX4_sorted_38 : decode cX4_sorted 38 = .ok (.getfield 13, 3) := by decide +kernel
theorem dX4_sorted_41 : decode cX4_sorted 41 = .ok (.iconst 3, 1) := by decide +kernel
theorem dX4_sorted_42 : decode cX4_sorted 42 = .ok (.iaload, 1) := by decide +kernel
theorem dX4_sorted_43 : decode cX4_sorted 43 = .ok (.if_icmp .ge 64, 3) := by decide +kernel
theorem dX4_sorted_46 : decode cX4_sorted 46 = .ok (.iconst 0, 1) := by decide +kernel
theorem dX4_sorted_47 : decode cX4_sorted 47 = .ok (.istore 4, 2) := by decide +kernel
theorem dX4_sorted_49 : decode cX4_sorted 49 = .ok (.iconst 0, 1) := by decide +kernel
theorem dX4_sorted_50 : decode cX4_sorted 50 = .ok (.istore 5, 2) := by decide +kernel
theorem dX4_sorted_52 : decode cX4_sorted 52 = .ok (.iload 5, 2) := by decide +kernel
theorem dX4_sorted_54 : decode cX4_sorted 54 = .ok (.aload_n 0, 1) := by decide +kernel
theorem dX4_sorted_55 : decode cX4_sorted 55 = .ok (.getfield 13, 3) := by decide +kernel
theorem dX4_sorted_58 : decode cX4_sorted 58 = .ok (.iconst 3, 1) := by decide +kernel
theorem dX4_sorted_59 : decode cX4_sorted 59 = .ok (.iaload, 1) := by decide +kernel
theorem dX4_sorted_60 : decode cX4_sorted 60 = .ok (.if_icmp .ge 29, 3) := by decide +kernel
theorem dX4_sorted_63 : decode cX4_sorted 63 = .ok (.iload 4, 2) := by decide +kernel
theorem dX4_sorted_65 : decode cX4_sorted 65 = .ok (.aload_n 0, 1) := by decide +kernel
theorem dX4_sorted_66 : decode cX4_sorted 66 = .ok (.iload 5, 2) := by decide +kernel
theorem dX4_sorted_68 : decode cX4_sorted 68 = .ok (.iload_n 3, 1) := by decide +kernel
theorem dX4_sorted_69 : decode cX4_sorted 69 = .ok (.invokevirtual 118, 3) := by decide +kernel
theorem dX4_sorted_72 : decode cX4_sorted 72 = .ok (.ifCond .eq 7, 3) := by decide +kernel
theorem dX4_sorted_75 : decode cX4_sorted 75 = .ok (.iconst 1, 1) := by decide +kernel
theorem dX4_sorted_76 : decode cX4_sorted 76 = .ok (.goto 4, 3) := by decide +kernel
theorem dX4_sorted_79 : decode cX4_sorted 79 = .ok (.iconst 0, 1) := by decide +kernel
theorem dX4_sorted_80 : decode cX4_sorted 80 = .ok (.iadd, 1) := by decide +kernel
theorem dX4_sorted_81 : decode cX4_sorted 81 = .ok (.istore 4, 2) := by decide +kernel
theorem dX4_sorted_83 : decode cX4_sorted 83 = .ok (.iinc 5 1, 3) := by decide +kernel
theorem dX4_sorted_86 : decode cX4_sorted 86 = .ok (.goto (-34), 3) := by decide +kernel
theorem dX4_sorted_89 : decode cX4_sorted 89 = .ok (.iload 4, 2) := by decide +kernel
theorem dX4_sorted_91 : decode cX4_sorted 91 = .ok (.iload_n 1, 1) := by decide +kernel
theorem dX4_sorted_92 : decode cX4_sorted 92 = .ok (.if_icmp .ne 7, 3) := by decide +kernel
theorem dX4_sorted_95 : decode cX4_sorted 95 = .ok (.iload_n 3, 1) := by decide +kernel
theorem dX4_sorted_96 : decode cX4_sorted 96 = .ok (.goto 4, 3) := by decide +kernel
theorem dX4_sorted_99 : decode cX4_sorted 99 = .ok (.iload_n 2, 1) := by decide +kernel
theorem dX4_sorted_100 : decode cX4_sorted 100 = .ok (.istore_n 2, 1) := by decide +kernel
theorem dX4_sorted_101 : decode cX4_sorted 101 = .ok (.iinc 3 1, 3) := by decide +kernel
theorem dX4_sorted_104 : decode cX4_sorted 104 = .ok (.goto (-68), 3) := by decide +kernel
theorem dX4_sorted_107 : decode cX4_sorted 107 = .ok (.iload_n 2, 1) := by decide +kernel
theorem dX4_sorted_108 : decode cX4_sorted 108 = .ok (.ireturn, 1) := by decide +kernel
set_option maxRecDepth 20000 in
theorem ggX4_reading_X4_worthOn : GoodIn wsX4_reading wsX4_worthOn := goodIn_r _ [4, 5, 6, 7, 3, 8] (by decide +kernel) (by decide +kernel)
set_option maxRecDepth 20000 in
theorem gX4_reading_X4_worthOn : GoodIn wsX4_reading (va_wsS RX4 110 yX4_worthOn wsX4_worthOn) := goodIn_app (goodIn_of _ (by decide +kernel)) ggX4_reading_X4_worthOn
set_option maxRecDepth 20000 in
theorem ggX4_reading_X4_shownOn : GoodIn wsX4_reading wsX4_shownOn := goodIn_r _ [11, 6, 7, 3, 8] (by decide +kernel) (by decide +kernel)
set_option maxRecDepth 20000 in
theorem gX4_reading_X4_shownOn : GoodIn wsX4_reading (va_wsS RX4 107 yX4_shownOn wsX4_shownOn) := goodIn_app (goodIn_of _ (by decide +kernel)) ggX4_reading_X4_shownOn
theorem dX4_reading_0 : decode cX4_reading 0 = .ok (.iload_n 2, 1) := by decide +kernel
theorem dX4_reading_1 : decode cX4_reading 1 = .ok (.ifCond .eq 11, 3) := by decide +kernel
theorem dX4_reading_4 : decode cX4_reading 4 = .ok (.aload_n 0, 1) := by decide +kernel
theorem dX4_reading_5 : decode cX4_reading 5 = .ok (.iload_n 1, 1) := by decide +kernel
theorem dX4_reading_6 : decode cX4_reading 6 = .ok (.invokestatic 110, 3) := by decide +kernel
theorem dX4_reading_9 : decode cX4_reading 9 = .ok (.goto 9, 3) := by decide +kernel
theorem dX4_reading_12 : decode cX4_reading 12 = .ok (.aload_n 0, 1) := by decide +kernel
theorem dX4_reading_13 : decode cX4_reading 13 = .ok (.iload_n 1, 1) := by decide +kernel
theorem dX4_reading_14 : decode cX4_reading 14 = .ok (.invokestatic 107, 3) := by decide +kernel
theorem dX4_reading_17 : decode cX4_reading 17 = .ok (.i2l, 1) := by decide +kernel
theorem dX4_reading_18 : decode cX4_reading 18 = .ok (.lreturn, 1) := by decide +kernel
set_option maxRecDepth 20000 in
theorem ggX4_ranked_X4_isCounter : GoodIn wsX4_ranked wsX4_isCounter := goodIn_r _ [5, 6, 7, 4, 8] (by decide +kernel) (by decide +kernel)
set_option maxRecDepth 20000 in
theorem gX4_ranked_X4_isCounter : GoodIn wsX4_ranked (va_wsS RX4 103 yX4_isCounter wsX4_isCounter) := goodIn_app (goodIn_of _ (by decide +kernel)) ggX4_ranked_X4_isCounter
set_option maxRecDepth 20000 in
theorem ggX4_ranked_X4_refused : GoodIn wsX4_ranked wsX4_refused := goodIn_r _ [12, 13, 27, 28, 29, 30, 31, 32, 33, 34, 35, 36, 37] (by decide +kernel) (by decide +kernel)
set_option maxRecDepth 20000 in
theorem gX4_ranked_X4_refused : GoodIn wsX4_ranked (wsV RX4 76 RX4 yX4_refused wsX4_refused) := goodIn_app (goodIn_of _ (by decide +kernel)) ggX4_ranked_X4_refused
set_option maxRecDepth 20000 in
theorem ggX4_ranked_X4_reading : GoodIn wsX4_ranked wsX4_reading := goodIn_r _ [16, 17, 18, 4, 19, 20, 21, 22, 23, 24, 25, 26] (by decide +kernel) (by decide +kernel)
set_option maxRecDepth 20000 in
theorem gX4_ranked_X4_reading : GoodIn wsX4_ranked (va_wsS RX4 122 yX4_reading wsX4_reading) := goodIn_app (goodIn_of _ (by decide +kernel)) ggX4_ranked_X4_reading
theorem dX4_ranked_0 : decode cX4_ranked 0 = .ok (.aload_n 0, 1) := by decide +kernel
theorem dX4_ranked_1 : decode cX4_ranked 1 = .ok (.aload_n 0, 1) := by decide +kernel
theorem dX4_ranked_2 : decode cX4_ranked 2 = .ok (.getfield 13, 3) := by decide +kernel
theorem dX4_ranked_5 : decode cX4_ranked 5 = .ok (.iload_n 1, 1) := by decide +kernel
theorem dX4_ranked_6 : decode cX4_ranked 6 = .ok (.invokestatic 103, 3) := by decide +kernel
theorem dX4_ranked_9 : decode cX4_ranked 9 = .ok (.ifCond .eq 7, 3) := by decide +kernel
theorem dX4_ranked_12 : decode cX4_ranked 12 = .ok (.iconst 0, 1) := by decide +kernel
theorem dX4_ranked_13 : decode cX4_ranked 13 = .ok (.goto 4, 3) := by decide +kernel
theorem dX4_ranked_16 : decode cX4_ranked 16 = .ok (.iconst 1, 1) := by decide +kernel
theorem dX4_ranked_17 : decode cX4_ranked 17 = .ok (.invokevirtual 76, 3) := by decide +kernel
theorem dX4_ranked_20 : decode cX4_ranked 20 = .ok (.ifCond .eq 5, 3) := by decide +kernel
theorem dX4_ranked_23 : decode cX4_ranked 23 = .ok (.iconst 0, 1) := by decide +kernel
theorem dX4_ranked_24 : decode cX4_ranked 24 = .ok (.ireturn, 1) := by decide +kernel
theorem dX4_ranked_25 : decode cX4_ranked 25 = .ok (.iconst (-1), 1) := by decide +kernel
theorem dX4_ranked_26 : decode cX4_ranked 26 = .ok (.istore_n 3, 1) := by decide +kernel
theorem dX4_ranked_27 : decode cX4_ranked 27 = .ok (.iconst 0, 1) := by decide +kernel
theorem dX4_ranked_28 : decode cX4_ranked 28 = .ok (.istore 4, 2) := by decide +kernel
theorem dX4_ranked_30 : decode cX4_ranked 30 = .ok (.iload 4, 2) := by decide +kernel
theorem dX4_ranked_32 : decode cX4_ranked 32 = .ok (.aload_n 0, 1) := by decide +kernel
theorem dX4_ranked_33 : decode cX4_ranked 33 = .ok (.getfield 13, 3) := by decide +kernel
theorem dX4_ranked_36 : decode cX4_ranked 36 = .ok (.iconst 0, 1) := by decide +kernel
theorem dX4_ranked_37 : decode cX4_ranked 37 = .ok (.iaload, 1) := by decide +kernel
theorem dX4_ranked_38 : decode cX4_ranked 38 = .ok (.if_icmp .ge 99, 3) := by decide +kernel
theorem dX4_ranked_41 : decode cX4_ranked 41 = .ok (.iconst 0, 1) := by decide +kernel
theorem dX4_ranked_42 : decode cX4_ranked 42 = .ok (.istore 5, 2) := by decide +kernel
theorem dX4_ranked_44 : decode cX4_ranked 44 = .ok (.iconst 0, 1) := by decide +kernel
theorem dX4_ranked_45 : decode cX4_ranked 45 = .ok (.istore 6, 2) := by decide +kernel
theorem dX4_ranked_47 : decode cX4_ranked 47 = .ok (.iload 6, 2) := by decide +kernel
theorem dX4_ranked_49 : decode cX4_ranked 49 = .ok (.aload_n 0, 1) := by decide +kernel
theorem dX4_ranked_50 : decode cX4_ranked 50 = .ok (.getfield 13, 3) := by decide +kernel
theorem dX4_ranked_53 : decode cX4_ranked 53 = .ok (.iconst 0, 1) := by decide +kernel
theorem dX4_ranked_54 : decode cX4_ranked 54 = .ok (.iaload, 1) := by decide +kernel
theorem dX4_ranked_55 : decode cX4_ranked 55 = .ok (.if_icmp .ge 63, 3) := by decide +kernel
theorem dX4_ranked_58 : decode cX4_ranked 58 = .ok (.aload_n 0, 1) := by decide +kernel
theorem dX4_ranked_59 : decode cX4_ranked 59 = .ok (.getfield 13, 3) := by decide +kernel
theorem dX4_ranked_62 : decode cX4_ranked 62 = .ok (.iload 6, 2) := by decide +kernel
theorem dX4_ranked_64 : decode cX4_ranked 64 = .ok (.iload_n 2, 1) := by decide +kernel
theorem dX4_ranked_65 : decode cX4_ranked 65 = .ok (.invokestatic 122, 3) := by decide +kernel
theorem dX4_ranked_68 : decode cX4_ranked 68 = .ok (.aload_n 0, 1) := by decide +kernel
theorem dX4_ranked_69 : decode cX4_ranked 69 = .ok (.getfield 13, 3) := by decide +kernel
theorem dX4_ranked_72 : decode cX4_ranked 72 = .ok (.iload 4, 2) := by decide +kernel
theorem dX4_ranked_74 : decode cX4_ranked 74 = .ok (.iload_n 2, 1) := by decide +kernel
theorem dX4_ranked_75 : decode cX4_ranked 75 = .ok (.invokestatic 122, 3) := by decide +kernel
theorem dX4_ranked_78 : decode cX4_ranked 78 = .ok (.lsub, 1) := by decide +kernel
theorem dX4_ranked_79 : decode cX4_ranked 79 = .ok (.lstore 7, 2) := by decide +kernel
theorem dX4_ranked_81 : decode cX4_ranked 81 = .ok (.iload 5, 2) := by decide +kernel
theorem dX4_ranked_83 : decode cX4_ranked 83 = .ok (.lload 7, 2) := by decide +kernel
theorem dX4_ranked_85 : decode cX4_ranked 85 = .ok (.lconst 0, 1) := by decide +kernel
theorem dX4_ranked_86 : decode cX4_ranked 86 = .ok (.lcmp, 1) := by decide +kernel
theorem dX4_ranked_87 : decode cX4_ranked 87 = .ok (.ifCond .gt 17, 3) := by decide +kernel
theorem dX4_ranked_90 : decode cX4_ranked 90 = .ok (.lload 7, 2) := by decide +kernel
theorem dX4_ranked_92 : decode cX4_ranked 92 = .ok (.lconst 0, 1) := by decide +kernel
theorem dX4_ranked_93 : decode cX4_ranked 93 = .ok (.lcmp, 1) := by decide +kernel
theorem dX4_ranked_94 : decode cX4_ranked 94 = .ok (.ifCond .ne 14, 3) := by decide +kernel
theorem dX4_ranked_97 : decode cX4_ranked 97 = .ok (.iload 6, 2) := by decide +kernel
theorem dX4_ranked_99 : decode cX4_ranked 99 = .ok (.iload 4, 2) := by decide +kernel
theorem dX4_ranked_101 : decode cX4_ranked 101 = .ok (.if_icmp .ge 7, 3) := by decide +kernel
theorem dX4_ranked_104 : decode cX4_ranked 104 = .ok (.iconst 1, 1) := by decide +kernel
theorem dX4_ranked_105 : decode cX4_ranked 105 = .ok (.goto 4, 3) := by decide +kernel
theorem dX4_ranked_108 : decode cX4_ranked 108 = .ok (.iconst 0, 1) := by decide +kernel
theorem dX4_ranked_109 : decode cX4_ranked 109 = .ok (.iadd, 1) := by decide +kernel
theorem dX4_ranked_110 : decode cX4_ranked 110 = .ok (.istore 5, 2) := by decide +kernel
theorem dX4_ranked_112 : decode cX4_ranked 112 = .ok (.iinc 6 1, 3) := by decide +kernel
theorem dX4_ranked_115 : decode cX4_ranked 115 = .ok (.goto (-68), 3) := by decide +kernel
theorem dX4_ranked_118 : decode cX4_ranked 118 = .ok (.iload 5, 2) := by decide +kernel
theorem dX4_ranked_120 : decode cX4_ranked 120 = .ok (.iload_n 1, 1) := by decide +kernel
theorem dX4_ranked_121 : decode cX4_ranked 121 = .ok (.if_icmp .ne 8, 3) := by decide +kernel
theorem dX4_ranked_124 : decode cX4_ranked 124 = .ok (.iload 4, 2) := by decide +kernel
theorem dX4_ranked_126 : decode cX4_ranked 126 = .ok (.goto 4, 3) := by decide +kernel
theorem dX4_ranked_129 : decode cX4_ranked 129 = .ok (.iload_n 3, 1) := by decide +kernel
theorem dX4_ranked_130 : decode cX4_ranked 130 = .ok (.istore_n 3, 1) := by decide +kernel
theorem dX4_ranked_131 : decode cX4_ranked 131 = .ok (.iinc 4 1, 3) := by decide +kernel
theorem dX4_ranked_134 : decode cX4_ranked 134 = .ok (.goto (-104), 3) := by decide +kernel
theorem dX4_ranked_137 : decode cX4_ranked 137 = .ok (.iload_n 3, 1) := by decide +kernel
theorem dX4_ranked_138 : decode cX4_ranked 138 = .ok (.ireturn, 1) := by decide +kernel
set_option maxRecDepth 20000 in
theorem ggX4_remember_X4_copyLine : GoodIn wsX4_remember wsX4_copyLine := goodIn_r _ [7] (by decide +kernel) (by decide +kernel)
set_option maxRecDepth 20000 in
theorem gX4_remember_X4_copyLine : GoodIn wsX4_remember (va_wsS RX4 126 yX4_copyLine wsX4_copyLine) := goodIn_app (goodIn_of _ (by decide +kernel)) ggX4_remember_X4_copyLine
theorem dX4_remember_0 : decode cX4_remember 0 = .ok (.aload_n 0, 1) := by decide +kernel
theorem dX4_remember_1 : decode cX4_remember 1 = .ok (.getfield 92, 3) := by decide +kernel
theorem dX4_remember_4 : decode cX4_remember 4 = .ok (.bipush 14, 2) := by decide +kernel
theorem dX4_remember_6 : decode cX4_remember 6 = .ok (.if_icmp .ne 44, 3) := by decide +kernel
theorem dX4_remember_9 : decode cX4_remember 9 = .ok (.iconst 0, 1) := by decide +kernel
theorem dX4_remember_10 : decode cX4_remember 10 = .ok (.istore_n 1, 1) := by decide +kernel
theorem dX4_remember_11 : decode cX4_remember 11 = .ok (.iload_n 1, 1) := by decide +kernel
theorem dX4_remember_12 : decode cX4_remember 12 = .ok (.sipush 4368, 3) := by decide +kernel
theorem dX4_remember_15 : decode cX4_remember 15 = .ok (.if_icmp .ge 25, 3) := by decide +kernel
theorem dX4_remember_18 : decode cX4_remember 18 = .ok (.aload_n 0, 1) := by decide +kernel
theorem dX4_remember_19 : decode cX4_remember 19 = .ok (.getfield 19, 3) := by decide +kernel
theorem dX4_remember_22 : decode cX4_remember 22 = .ok (.iload_n 1, 1) := by decide +kernel
theorem dX4_remember_23 : decode cX4_remember 23 = .ok (.aload_n 0, 1) := by decide +kernel
theorem dX4_remember_24 : decode cX4_remember 24 = .ok (.getfield 19, 3) := by decide +kernel
theorem dX4_remember_27 : decode cX4_remember 27 = .ok (.iload_n 1, 1) := by decide +kernel
theorem dX4_remember_28 : decode cX4_remember 28 = .ok (.sipush 336, 3) := by decide +kernel
theorem dX4_remember_31 : decode cX4_remember 31 = .ok (.iadd, 1) := by decide +kernel
theorem dX4_remember_32 : decode cX4_remember 32 = .ok (.iaload, 1) := by decide +kernel
theorem dX4_remember_33 : decode cX4_remember 33 = .ok (.iastore, 1) := by decide +kernel
theorem dX4_remember_34 : decode cX4_remember 34 = .ok (.iinc 1 1, 3) := by decide +kernel
theorem dX4_remember_37 : decode cX4_remember 37 = .ok (.goto (-26), 3) := by decide +kernel
theorem dX4_remember_40 : decode cX4_remember 40 = .ok (.aload_n 0, 1) := by decide +kernel
theorem dX4_remember_41 : decode cX4_remember 41 = .ok (.dup, 1) := by decide +kernel
theorem dX4_remember_42 : decode cX4_remember 42 = .ok (.getfield 92, 3) := by decide +kernel
theorem dX4_remember_45 : decode cX4_remember 45 = .ok (.iconst 1, 1) := by decide +kernel
theorem dX4_remember_46 : decode cX4_remember 46 = .ok (.isub, 1) := by decide +kernel
theorem dX4_remember_47 : decode cX4_remember 47 = .ok (.putfield 92, 3) := by decide +kernel
theorem dX4_remember_50 : decode cX4_remember 50 = .ok (.aload_n 0, 1) := by decide +kernel
theorem dX4_remember_51 : decode cX4_remember 51 = .ok (.getfield 13, 3) := by decide +kernel
theorem dX4_remember_54 : decode cX4_remember 54 = .ok (.iconst 0, 1) := by decide +kernel
theorem dX4_remember_55 : decode cX4_remember 55 = .ok (.aload_n 0, 1) := by decide +kernel
theorem dX4_remember_56 : decode cX4_remember 56 = .ok (.getfield 19, 3) := by decide +kernel
theorem dX4_remember_59 : decode cX4_remember 59 = .ok (.sipush 336, 3) := by decide +kernel
theorem dX4_remember_62 : decode cX4_remember 62 = .ok (.aload_n 0, 1) := by decide +kernel
theorem dX4_remember_63 : decode cX4_remember 63 = .ok (.getfield 92, 3) := by decide +kernel
theorem dX4_remember_66 : decode cX4_remember 66 = .ok (.imul, 1) := by decide +kernel
theorem dX4_remember_67 : decode cX4_remember 67 = .ok (.invokestatic 126, 3) := by decide +kernel
theorem dX4_remember_70 : decode cX4_remember 70 = .ok (.aload_n 0, 1) := by decide +kernel
theorem dX4_remember_71 : decode cX4_remember 71 = .ok (.dup, 1) := by decide +kernel
theorem dX4_remember_72 : decode cX4_remember 72 = .ok (.getfield 92, 3) := by decide +kernel
theorem dX4_remember_75 : decode cX4_remember 75 = .ok (.iconst 1, 1) := by decide +kernel
theorem dX4_remember_76 : decode cX4_remember 76 = .ok (.iadd, 1) := by decide +kernel
theorem dX4_remember_77 : decode cX4_remember 77 = .ok (.putfield 92, 3) := by decide +kernel
theorem dX4_remember_80 : decode cX4_remember 80 = .ok (.return_, 1) := by decide +kernel
set_option maxRecDepth 20000 in
theorem ggX4_fits_X4_at : GoodIn wsX4_fits wsX4_at := goodIn_r _ [4] (by decide +kernel) (by decide +kernel)
set_option maxRecDepth 20000 in
theorem gX4_fits_X4_at : GoodIn wsX4_fits (va_wsS RX4 39 yX4_at wsX4_at) := goodIn_app (goodIn_of _ (by decide +kernel)) ggX4_fits_X4_at
theorem dX4_fits_0 : decode cX4_fits 0 = .ok (.iload_n 2, 1) := by decide +kernel
theorem dX4_fits_1 : decode cX4_fits 1 = .ok (.ifCond .ge 8, 3) := by decide +kernel
theorem dX4_fits_4 : decode cX4_fits 4 = .ok (.iload_n 2, 1) := by decide +kernel
theorem dX4_fits_5 : decode cX4_fits 5 = .ok (.ineg, 1) := by decide +kernel
theorem dX4_fits_6 : decode cX4_fits 6 = .ok (.goto 4, 3) := by decide +kernel
theorem dX4_fits_9 : decode cX4_fits 9 = .ok (.iload_n 2, 1) := by decide +kernel
theorem dX4_fits_10 : decode cX4_fits 10 = .ok (.istore_n 3, 1) := by decide +kernel
theorem dX4_fits_11 : decode cX4_fits 11 = .ok (.iconst 0, 1) := by decide +kernel
theorem dX4_fits_12 : decode cX4_fits 12 = .ok (.istore 4, 2) := by decide +kernel
theorem dX4_fits_14 : decode cX4_fits 14 = .ok (.iload 4, 2) := by decide +kernel
theorem dX4_fits_16 : decode cX4_fits 16 = .ok (.aload_n 0, 1) := by decide +kernel
theorem dX4_fits_17 : decode cX4_fits 17 = .ok (.iload_n 1, 1) := by decide +kernel
theorem dX4_fits_18 : decode cX4_fits 18 = .ok (.invokestatic 39, 3) := by decide +kernel
theorem dX4_fits_21 : decode cX4_fits 21 = .ok (.iconst 0, 1) := by decide +kernel
theorem dX4_fits_22 : decode cX4_fits 22 = .ok (.iadd, 1) := by decide +kernel
theorem dX4_fits_23 : decode cX4_fits 23 = .ok (.iaload, 1) := by decide +kernel
theorem dX4_fits_24 : decode cX4_fits 24 = .ok (.if_icmp .ge 13, 3) := by decide +kernel
theorem dX4_fits_27 : decode cX4_fits 27 = .ok (.iload_n 3, 1) := by decide +kernel
theorem dX4_fits_28 : decode cX4_fits 28 = .ok (.iconst 3, 1) := by decide +kernel
theorem dX4_fits_29 : decode cX4_fits 29 = .ok (.idiv, 1) := by decide +kernel
theorem dX4_fits_30 : decode cX4_fits 30 = .ok (.istore_n 3, 1) := by decide +kernel
theorem dX4_fits_31 : decode cX4_fits 31 = .ok (.iinc 4 1, 3) := by decide +kernel
theorem dX4_fits_34 : decode cX4_fits 34 = .ok (.goto (-20), 3) := by decide +kernel
theorem dX4_fits_37 : decode cX4_fits 37 = .ok (.iload_n 3, 1) := by decide +kernel
theorem dX4_fits_38 : decode cX4_fits 38 = .ok (.ifCond .ne 7, 3) := by decide +kernel
theorem dX4_fits_41 : decode cX4_fits 41 = .ok (.iconst 1, 1) := by decide +kernel
theorem dX4_fits_42 : decode cX4_fits 42 = .ok (.goto 4, 3) := by decide +kernel
theorem dX4_fits_45 : decode cX4_fits 45 = .ok (.iconst 0, 1) := by decide +kernel
theorem dX4_fits_46 : decode cX4_fits 46 = .ok (.ireturn, 1) := by decide +kernel
set_option maxRecDepth 20000 in
theorem ggX4_addOn_X4_at : GoodIn wsX4_addOn wsX4_at := goodIn_r _ [4] (by decide +kernel) (by decide +kernel)
set_option maxRecDepth 20000 in
theorem gX4_addOn_X4_at : GoodIn wsX4_addOn (va_wsS RX4 39 yX4_at wsX4_at) := goodIn_app (goodIn_of _ (by decide +kernel)) ggX4_addOn_X4_at
theorem dX4_addOn_0 : decode cX4_addOn 0 = .ok (.iload_n 2, 1) := by decide +kernel
theorem dX4_addOn_1 : decode cX4_addOn 1 = .ok (.ifCond .ge 8, 3) := by decide +kernel
theorem dX4_addOn_4 : decode cX4_addOn 4 = .ok (.iload_n 2, 1) := by decide +kernel
theorem dX4_addOn_5 : decode cX4_addOn 5 = .ok (.ineg, 1) := by decide +kernel
theorem dX4_addOn_6 : decode cX4_addOn 6 = .ok (.goto 4, 3) := by decide +kernel
theorem dX4_addOn_9 : decode cX4_addOn 9 = .ok (.iload_n 2, 1) := by decide +kernel
theorem dX4_addOn_10 : decode cX4_addOn 10 = .ok (.istore_n 3, 1) := by decide +kernel
theorem dX4_addOn_11 : decode cX4_addOn 11 = .ok (.iconst 0, 1) := by decide +kernel
theorem dX4_addOn_12 : decode cX4_addOn 12 = .ok (.istore 4, 2) := by decide +kernel
theorem dX4_addOn_14 : decode cX4_addOn 14 = .ok (.iconst 0, 1) := by decide +kernel
theorem dX4_addOn_15 : decode cX4_addOn 15 = .ok (.istore 5, 2) := by decide +kernel
theorem dX4_addOn_17 : decode cX4_addOn 17 = .ok (.iload 5, 2) := by decide +kernel
theorem dX4_addOn_19 : decode cX4_addOn 19 = .ok (.aload_n 0, 1) := by decide +kernel
theorem dX4_addOn_20 : decode cX4_addOn 20 = .ok (.iload_n 1, 1) := by decide +kernel
theorem dX4_addOn_21 : decode cX4_addOn 21 = .ok (.invokestatic 39, 3) := by decide +kernel
theorem dX4_addOn_24 : decode cX4_addOn 24 = .ok (.iconst 0, 1) := by decide +kernel
theorem dX4_addOn_25 : decode cX4_addOn 25 = .ok (.iadd, 1) := by decide +kernel
theorem dX4_addOn_26 : decode cX4_addOn 26 = .ok (.iaload, 1) := by decide +kernel
theorem dX4_addOn_27 : decode cX4_addOn 27 = .ok (.if_icmp .ge 50, 3) := by decide +kernel
theorem dX4_addOn_30 : decode cX4_addOn 30 = .ok (.aload_n 0, 1) := by decide +kernel
theorem dX4_addOn_31 : decode cX4_addOn 31 = .ok (.iload_n 1, 1) := by decide +kernel
theorem dX4_addOn_32 : decode cX4_addOn 32 = .ok (.invokestatic 39, 3) := by decide +kernel
theorem dX4_addOn_35 : decode cX4_addOn 35 = .ok (.bipush 13, 2) := by decide +kernel
theorem dX4_addOn_37 : decode cX4_addOn 37 = .ok (.iadd, 1) := by decide +kernel
theorem dX4_addOn_38 : decode cX4_addOn 38 = .ok (.iload 5, 2) := by decide +kernel
theorem dX4_addOn_40 : decode cX4_addOn 40 = .ok (.iadd, 1) := by decide +kernel
theorem dX4_addOn_41 : decode cX4_addOn 41 = .ok (.dup2, 1) := by decide +kernel
theorem dX4_addOn_42 : decode cX4_addOn 42 = .ok (.iaload, 1) := by decide +kernel
theorem dX4_addOn_43 : decode cX4_addOn 43 = .ok (.iload_n 2, 1) := by decide +kernel
theorem dX4_addOn_44 : decode cX4_addOn 44 = .ok (.ifCond .ge 10, 3) := by decide +kernel
theorem dX4_addOn_47 : decode cX4_addOn 47 = .ok (.iload_n 3, 1) := by decide +kernel
theorem dX4_addOn_48 : decode cX4_addOn 48 = .ok (.iconst 3, 1) := by decide +kernel
theorem dX4_addOn_49 : decode cX4_addOn 49 = .ok (.irem, 1) := by decide +kernel
theorem dX4_addOn_50 : decode cX4_addOn 50 = .ok (.ineg, 1) := by decide +kernel
theorem dX4_addOn_51 : decode cX4_addOn 51 = .ok (.goto 6, 3) := by decide +kernel
theorem dX4_addOn_54 : decode cX4_addOn 54 = .ok (.iload_n 3, 1) := by decide +kernel
theorem dX4_addOn_55 : decode cX4_addOn 55 = .ok (.iconst 3, 1) := by decide +kernel
theorem dX4_addOn_56 : decode cX4_addOn 56 = .ok (.irem, 1) := by decide +kernel
theorem dX4_addOn_57 : decode cX4_addOn 57 = .ok (.iadd, 1) := by decide +kernel
theorem dX4_addOn_58 : decode cX4_addOn 58 = .ok (.iastore, 1) := by decide +kernel
theorem dX4_addOn_59 : decode cX4_addOn 59 = .ok (.iload 4, 2) := by decide +kernel
theorem dX4_addOn_61 : decode cX4_addOn 61 = .ok (.iload_n 3, 1) := by decide +kernel
theorem dX4_addOn_62 : decode cX4_addOn 62 = .ok (.iconst 3, 1) := by decide +kernel
theorem dX4_addOn_63 : decode cX4_addOn 63 = .ok (.irem, 1) := by decide +kernel
theorem dX4_addOn_64 : decode cX4_addOn 64 = .ok (.iadd, 1) := by decide +kernel
theorem dX4_addOn_65 : decode cX4_addOn 65 = .ok (.istore 4, 2) := by decide +kernel
theorem dX4_addOn_67 : decode cX4_addOn 67 = .ok (.iload_n 3, 1) := by decide +kernel
theorem dX4_addOn_68 : decode cX4_addOn 68 = .ok (.iconst 3, 1) := by decide +kernel
theorem dX4_addOn_69 : decode cX4_addOn 69 = .ok (.idiv, 1) := by decide +kernel
theorem dX4_addOn_70 : decode cX4_addOn 70 = .ok (.istore_n 3, 1) := by decide +kernel
theorem dX4_addOn_71 : decode cX4_addOn 71 = .ok (.iinc 5 1, 3) := by decide +kernel
theorem dX4_addOn_74 : decode cX4_addOn 74 = .ok (.goto (-57), 3) := by decide +kernel
theorem dX4_addOn_77 : decode cX4_addOn 77 = .ok (.iload 4, 2) := by decide +kernel
theorem dX4_addOn_79 : decode cX4_addOn 79 = .ok (.ireturn, 1) := by decide +kernel
set_option maxRecDepth 20000 in
theorem ggX4_add_X4_isCounter : GoodIn wsX4_add wsX4_isCounter := goodIn_r _ [7, 8, 9, 6, 10] (by decide +kernel) (by decide +kernel)
set_option maxRecDepth 20000 in
theorem gX4_add_X4_isCounter : GoodIn wsX4_add (va_wsS RX4 103 yX4_isCounter wsX4_isCounter) := goodIn_app (goodIn_of _ (by decide +kernel)) ggX4_add_X4_isCounter
set_option maxRecDepth 20000 in
theorem ggX4_add_X4_in : GoodIn wsX4_add wsX4_in := goodIn_r _ [10] (by decide +kernel) (by decide +kernel)
set_option maxRecDepth 20000 in
theorem gX4_add_X4_in : GoodIn wsX4_add (va_wsS RX4 47 yX4_in wsX4_in) := goodIn_app (goodIn_of _ (by decide +kernel)) ggX4_add_X4_in
set_option maxRecDepth 20000 in
theorem ggX4_add_X4_fits : GoodIn wsX4_add wsX4_fits := goodIn_r _ [13, 14, 15, 6, 16] (by decide +kernel) (by decide +kernel)
set_option maxRecDepth 20000 in
theorem gX4_add_X4_fits : GoodIn wsX4_add (va_wsS RX4 134 yX4_fits wsX4_fits) := goodIn_app (goodIn_of _ (by decide +kernel)) ggX4_add_X4_fits
set_option maxRecDepth 20000 in
theorem ggX4_add_X4_refused : GoodIn wsX4_add wsX4_refused := goodIn_r _ [20, 21, 34, 35, 36, 37, 38, 39, 40, 41, 42, 43, 44] (by decide +kernel) (by decide +kernel)
set_option maxRecDepth 20000 in
theorem gX4_add_X4_refused : GoodIn wsX4_add (wsV RX4 76 RX4 yX4_refused wsX4_refused) := goodIn_app (goodIn_of _ (by decide +kernel)) ggX4_add_X4_refused
set_option maxRecDepth 20000 in
theorem ggX4_add_X4_remember : GoodIn wsX4_add wsX4_remember := goodIn_r _ [25, 26, 27, 1, 28, 29, 6, 30, 34, 35, 36, 37, 38, 39, 40, 41, 42, 43, 44] (by decide +kernel) (by decide +kernel)
set_option maxRecDepth 20000 in
theorem gX4_add_X4_remember : GoodIn wsX4_add (wsV RX4 137 RX4 yX4_remember wsX4_remember) := goodIn_app (goodIn_of _ (by decide +kernel)) ggX4_add_X4_remember
set_option maxRecDepth 20000 in
theorem ggX4_add_X4_addOn : GoodIn wsX4_add wsX4_addOn := goodIn_r _ [33, 14, 15, 6, 16] (by decide +kernel) (by decide +kernel)
set_option maxRecDepth 20000 in
theorem gX4_add_X4_addOn : GoodIn wsX4_add (va_wsS RX4 140 yX4_addOn wsX4_addOn) := goodIn_app (goodIn_of _ (by decide +kernel)) ggX4_add_X4_addOn
theorem dX4_add_0 : decode cX4_add 0 = .ok (.aload_n 0, 1) := by decide +kernel
theorem dX4_add_1 : decode cX4_add 1 = .ok (.aload_n 0, 1) := by decide +kernel
theorem dX4_add_2 : decode cX4_add 2 = .ok (.getfield 13, 3) := by decide +kernel
theorem dX4_add_5 : decode cX4_add 5 = .ok (.iload_n 1, 1) := by decide +kernel
theorem dX4_add_6 : decode cX4_add 6 = .ok (.invokestatic 103, 3) := by decide +kernel
theorem dX4_add_9 : decode cX4_add 9 = .ok (.ifCond .ne 7, 3) := by decide +kernel
theorem dX4_add_12 : decode cX4_add 12 = .ok (.iconst 1, 1) := by decide +kernel
theorem dX4_add_13 : decode cX4_add 13 = .ok (.goto 38, 3) := by decide +kernel
theorem dX4_add_16 : decode cX4_add 16 = .ok (.iload_n 2, 1) := by decide +kernel
theorem dX4_add_17 : decode cX4_add 17 = .ok (.i2l, 1) := by decide +kernel
theorem dX4_add_18 : decode cX4_add 18 = .ok (.ldc2_w 130, 3) := by decide +kernel
theorem dX4_add_21 : decode cX4_add 21 = .ok (.ldc2_w 132, 3) := by decide +kernel
theorem dX4_add_24 : decode cX4_add 24 = .ok (.invokestatic 47, 3) := by decide +kernel
theorem dX4_add_27 : decode cX4_add 27 = .ok (.ifCond .ne 7, 3) := by decide +kernel
theorem dX4_add_30 : decode cX4_add 30 = .ok (.iconst 2, 1) := by decide +kernel
theorem dX4_add_31 : decode cX4_add 31 = .ok (.goto 20, 3) := by decide +kernel
theorem dX4_add_34 : decode cX4_add 34 = .ok (.aload_n 0, 1) := by decide +kernel
theorem dX4_add_35 : decode cX4_add 35 = .ok (.getfield 13, 3) := by decide +kernel
theorem dX4_add_38 : decode cX4_add 38 = .ok (.iload_n 1, 1) := by decide +kernel
theorem dX4_add_39 : decode cX4_add 39 = .ok (.iload_n 2, 1) := by decide +kernel
theorem dX4_add_40 : decode cX4_add 40 = .ok (.invokestatic 134, 3) := by decide +kernel
theorem dX4_add_43 : decode cX4_add 43 = .ok (.ifCond .eq 7, 3) := by decide +kernel
theorem dX4_add_46 : decode cX4_add 46 = .ok (.iconst 0, 1) := by decide +kernel
theorem dX4_add_47 : decode cX4_add 47 = .ok (.goto 4, 3) := by decide +kernel
theorem dX4_add_50 : decode cX4_add 50 = .ok (.iconst 3, 1) := by decide +kernel
theorem dX4_add_51 : decode cX4_add 51 = .ok (.invokevirtual 76, 3) := by decide +kernel
theorem dX4_add_54 : decode cX4_add 54 = .ok (.ifCond .eq 5, 3) := by decide +kernel
theorem dX4_add_57 : decode cX4_add 57 = .ok (.iconst 0, 1) := by decide +kernel
theorem dX4_add_58 : decode cX4_add 58 = .ok (.ireturn, 1) := by decide +kernel
theorem dX4_add_59 : decode cX4_add 59 = .ok (.aload_n 0, 1) := by decide +kernel
theorem dX4_add_60 : decode cX4_add 60 = .ok (.invokevirtual 137, 3) := by decide +kernel
theorem dX4_add_63 : decode cX4_add 63 = .ok (.aload_n 0, 1) := by decide +kernel
theorem dX4_add_64 : decode cX4_add 64 = .ok (.getfield 13, 3) := by decide +kernel
theorem dX4_add_67 : decode cX4_add 67 = .ok (.iload_n 1, 1) := by decide +kernel
theorem dX4_add_68 : decode cX4_add 68 = .ok (.iload_n 2, 1) := by decide +kernel
theorem dX4_add_69 : decode cX4_add 69 = .ok (.invokestatic 140, 3) := by decide +kernel
theorem dX4_add_72 : decode cX4_add 72 = .ok (.ireturn, 1) := by decide +kernel
