set_option maxRecDepth 20000 in
theorem ggX2_writeInto_X2_countersInText : GoodIn wsX2_writeInto wsX2_countersInText := goodIn_r _ [9, 2, 3, 10, 11, 8, 12, 41, 42] (by decide +kernel) (by decide +kernel)
set_option maxRecDepth 20000 in
theorem gX2_writeInto_X2_countersInText : GoodIn wsX2_writeInto (wsV RX2 29 RX2 yX2_countersInText wsX2_countersInText) := goodIn_app (goodIn_of _ (by decide +kernel)) ggX2_writeInto_X2_countersInText
set_option maxRecDepth 20000 in
theorem ggX2_writeInto_X2_isDigit : GoodIn wsX2_writeInto wsX2_isDigit := goodIn_r _ [15] (by decide +kernel) (by decide +kernel)
set_option maxRecDepth 20000 in
theorem gX2_writeInto_X2_isDigit : GoodIn wsX2_writeInto (va_wsS RX2 19 yX2_isDigit wsX2_isDigit) := goodIn_app (goodIn_of _ (by decide +kernel)) ggX2_writeInto_X2_isDigit
set_option maxRecDepth 20000 in
theorem ggX2_writeInto_X2_writeDigit : GoodIn wsX2_writeInto wsX2_writeDigit := goodIn_r _ [18, 19, 20, 21, 22, 23, 24, 28, 29, 30, 31, 32, 33, 34, 35, 36, 37, 38, 39, 40] (by decide +kernel) (by decide +kernel)
set_option maxRecDepth 20000 in
theorem gX2_writeInto_X2_writeDigit : GoodIn wsX2_writeInto (va_wsS RX2 38 yX2_writeDigit wsX2_writeDigit) := goodIn_app (goodIn_of _ (by decide +kernel)) ggX2_writeInto_X2_writeDigit
set_option maxRecDepth 20000 in
theorem ggX2_writeInto_X2_isMark : GoodIn wsX2_writeInto wsX2_isMark := goodIn_r _ [27] (by decide +kernel) (by decide +kernel)
set_option maxRecDepth 20000 in
theorem gX2_writeInto_X2_isMark : GoodIn wsX2_writeInto (va_wsS RX2 23 yX2_isMark wsX2_isMark) := goodIn_app (goodIn_of _ (by decide +kernel)) ggX2_writeInto_X2_isMark
theorem dX2_writeInto_0 : decode cX2_writeInto 0 = .ok (.aload_n 1, 1) := by decide +kernel
theorem dX2_writeInto_1 : decode cX2_writeInto 1 = .ok (.aload_n 0, 1) := by decide +kernel
theorem dX2_writeInto_2 : decode cX2_writeInto 2 = .ok (.invokevirtual 29, 3) := by decide +kernel
theorem dX2_writeInto_5 : decode cX2_writeInto 5 = .ok (.putfield 33, 3) := by decide +kernel
theorem dX2_writeInto_8 : decode cX2_writeInto 8 = .ok (.aload_n 1, 1) := by decide +kernel
theorem dX2_writeInto_9 : decode cX2_writeInto 9 = .ok (.getfield 33, 3) := by decide +kernel
theorem dX2_writeInto_12 : decode cX2_writeInto 12 = .ok (.iconst 1, 1) := by decide +kernel
theorem dX2_writeInto_13 : decode cX2_writeInto 13 = .ok (.isub, 1) := by decide +kernel
theorem dX2_writeInto_14 : decode cX2_writeInto 14 = .ok (.istore_n 2, 1) := by decide +kernel
theorem dX2_writeInto_15 : decode cX2_writeInto 15 = .ok (.iconst 0, 1) := by decide +kernel
theorem dX2_writeInto_16 : decode cX2_writeInto 16 = .ok (.istore_n 3, 1) := by decide +kernel
theorem dX2_writeInto_17 : decode cX2_writeInto 17 = .ok (.aload_n 0, 1) := by decide +kernel
theorem dX2_writeInto_18 : decode cX2_writeInto 18 = .ok (.getfield 15, 3) := by decide +kernel
theorem dX2_writeInto_21 : decode cX2_writeInto 21 = .ok (.iconst 1, 1) := by decide +kernel
theorem dX2_writeInto_22 : decode cX2_writeInto 22 = .ok (.isub, 1) := by decide +kernel
theorem dX2_writeInto_23 : decode cX2_writeInto 23 = .ok (.istore 4, 2) := by decide +kernel
theorem dX2_writeInto_25 : decode cX2_writeInto 25 = .ok (.iload 4, 2) := by decide +kernel
theorem dX2_writeInto_27 : decode cX2_writeInto 27 = .ok (.ifCond .lt 97, 3) := by decide +kernel
theorem dX2_writeInto_30 : decode cX2_writeInto 30 = .ok (.iload_n 2, 1) := by decide +kernel
theorem dX2_writeInto_31 : decode cX2_writeInto 31 = .ok (.ifCond .lt 93, 3) := by decide +kernel
theorem dX2_writeInto_34 : decode cX2_writeInto 34 = .ok (.aload_n 0, 1) := by decide +kernel
theorem dX2_writeInto_35 : decode cX2_writeInto 35 = .ok (.getfield 9, 3) := by decide +kernel
theorem dX2_writeInto_38 : decode cX2_writeInto 38 = .ok (.iload 4, 2) := by decide +kernel
theorem dX2_writeInto_40 : decode cX2_writeInto 40 = .ok (.caload, 1) := by decide +kernel
theorem dX2_writeInto_41 : decode cX2_writeInto 41 = .ok (.istore 5, 2) := by decide +kernel
theorem dX2_writeInto_43 : decode cX2_writeInto 43 = .ok (.iload 5, 2) := by decide +kernel
theorem dX2_writeInto_45 : decode cX2_writeInto 45 = .ok (.invokestatic 19, 3) := by decide +kernel
theorem dX2_writeInto_48 : decode cX2_writeInto 48 = .ok (.ifCond .eq 19, 3) := by decide +kernel
theorem dX2_writeInto_51 : decode cX2_writeInto 51 = .ok (.aload_n 1, 1) := by decide +kernel
theorem dX2_writeInto_52 : decode cX2_writeInto 52 = .ok (.iload_n 2, 1) := by decide +kernel
theorem dX2_writeInto_53 : decode cX2_writeInto 53 = .ok (.iload 5, 2) := by decide +kernel
theorem dX2_writeInto_55 : decode cX2_writeInto 55 = .ok (.bipush 48, 2) := by decide +kernel
theorem dX2_writeInto_57 : decode cX2_writeInto 57 = .ok (.isub, 1) := by decide +kernel
theorem dX2_writeInto_58 : decode cX2_writeInto 58 = .ok (.iload_n 3, 1) := by decide +kernel
theorem dX2_writeInto_59 : decode cX2_writeInto 59 = .ok (.invokestatic 38, 3) := by decide +kernel
theorem dX2_writeInto_62 : decode cX2_writeInto 62 = .ok (.iconst 0, 1) := by decide +kernel
theorem dX2_writeInto_63 : decode cX2_writeInto 63 = .ok (.istore_n 3, 1) := by decide +kernel
theorem dX2_writeInto_64 : decode cX2_writeInto 64 = .ok (.goto 54, 3) := by decide +kernel
theorem dX2_writeInto_67 : decode cX2_writeInto 67 = .ok (.iload 5, 2) := by decide +kernel
theorem dX2_writeInto_69 : decode cX2_writeInto 69 = .ok (.invokestatic 23, 3) := by decide +kernel
theorem dX2_writeInto_72 : decode cX2_writeInto 72 = .ok (.ifCond .eq 21, 3) := by decide +kernel
theorem dX2_writeInto_75 : decode cX2_writeInto 75 = .ok (.iload_n 3, 1) := by decide +kernel
theorem dX2_writeInto_76 : decode cX2_writeInto 76 = .ok (.iload 5, 2) := by decide +kernel
theorem dX2_writeInto_78 : decode cX2_writeInto 78 = .ok (.bipush 43, 2) := by decide +kernel
theorem dX2_writeInto_80 : decode cX2_writeInto 80 = .ok (.if_icmp .ne 7, 3) := by decide +kernel
theorem dX2_writeInto_83 : decode cX2_writeInto 83 = .ok (.iconst 1, 1) := by decide +kernel
theorem dX2_writeInto_84 : decode cX2_writeInto 84 = .ok (.goto 4, 3) := by decide +kernel
theorem dX2_writeInto_87 : decode cX2_writeInto 87 = .ok (.iconst (-1), 1) := by decide +kernel
theorem dX2_writeInto_88 : decode cX2_writeInto 88 = .ok (.iadd, 1) := by decide +kernel
theorem dX2_writeInto_89 : decode cX2_writeInto 89 = .ok (.istore_n 3, 1) := by decide +kernel
theorem dX2_writeInto_90 : decode cX2_writeInto 90 = .ok (.goto 28, 3) := by decide +kernel
theorem dX2_writeInto_93 : decode cX2_writeInto 93 = .ok (.iinc 2 (-1), 3) := by decide +kernel
theorem dX2_writeInto_96 : decode cX2_writeInto 96 = .ok (.iload_n 2, 1) := by decide +kernel
theorem dX2_writeInto_97 : decode cX2_writeInto 97 = .ok (.ifCond .lt 21, 3) := by decide +kernel
theorem dX2_writeInto_100 : decode cX2_writeInto 100 = .ok (.aload_n 1, 1) := by decide +kernel
theorem dX2_writeInto_101 : decode cX2_writeInto 101 = .ok (.getfield 42, 3) := by decide +kernel
theorem dX2_writeInto_104 : decode cX2_writeInto 104 = .ok (.iload_n 2, 1) := by decide +kernel
theorem dX2_writeInto_105 : decode cX2_writeInto 105 = .ok (.iload 5, 2) := by decide +kernel
theorem dX2_writeInto_107 : decode cX2_writeInto 107 = .ok (.bipush 62, 2) := by decide +kernel
theorem dX2_writeInto_109 : decode cX2_writeInto 109 = .ok (.if_icmp .ne 7, 3) := by decide +kernel
theorem dX2_writeInto_112 : decode cX2_writeInto 112 = .ok (.iconst 1, 1) := by decide +kernel
theorem dX2_writeInto_113 : decode cX2_writeInto 113 = .ok (.goto 4, 3) := by decide +kernel
theorem dX2_writeInto_116 : decode cX2_writeInto 116 = .ok (.iconst 0, 1) := by decide +kernel
theorem dX2_writeInto_117 : decode cX2_writeInto 117 = .ok (.bastore, 1) := by decide +kernel
theorem dX2_writeInto_118 : decode cX2_writeInto 118 = .ok (.iinc 4 (-1), 3) := by decide +kernel
theorem dX2_writeInto_121 : decode cX2_writeInto 121 = .ok (.goto (-96), 3) := by decide +kernel
theorem dX2_writeInto_124 : decode cX2_writeInto 124 = .ok (.return_, 1) := by decide +kernel
set_option maxRecDepth 20000 in
theorem ggX2_writeDigit_X3_cellOf : GoodIn wsX2_writeDigit wsX3_cellOf := goodIn_r _ [6] (by decide +kernel) (by decide +kernel)
set_option maxRecDepth 20000 in
theorem gX2_writeDigit_X3_cellOf_n53 : GoodIn wsX2_writeDigit (wsX3_cellOf) := ggX2_writeDigit_X3_cellOf
theorem dX2_writeDigit_0 : decode cX2_writeDigit 0 = .ok (.aload_n 0, 1) := by decide +kernel
theorem dX2_writeDigit_1 : decode cX2_writeDigit 1 = .ok (.getfield 46, 3) := by decide +kernel
theorem dX2_writeDigit_4 : decode cX2_writeDigit 4 = .ok (.iload_n 1, 1) := by decide +kernel
theorem dX2_writeDigit_5 : decode cX2_writeDigit 5 = .ok (.iaload, 1) := by decide +kernel
theorem dX2_writeDigit_6 : decode cX2_writeDigit 6 = .ok (.istore 4, 2) := by decide +kernel
theorem dX2_writeDigit_8 : decode cX2_writeDigit 8 = .ok (.iload 4, 2) := by decide +kernel
theorem dX2_writeDigit_10 : decode cX2_writeDigit 10 = .ok (.bipush 9, 2) := by decide +kernel
theorem dX2_writeDigit_12 : decode cX2_writeDigit 12 = .ok (.if_icmp .ge 37, 3) := by decide +kernel
theorem dX2_writeDigit_15 : decode cX2_writeDigit 15 = .ok (.aload_n 0, 1) := by decide +kernel
theorem dX2_writeDigit_16 : decode cX2_writeDigit 16 = .ok (.getfield 50, 3) := by decide +kernel
theorem dX2_writeDigit_19 : decode cX2_writeDigit 19 = .ok (.iload_n 1, 1) := by decide +kernel
theorem dX2_writeDigit_20 : decode cX2_writeDigit 20 = .ok (.iload 4, 2) := by decide +kernel
theorem dX2_writeDigit_22 : decode cX2_writeDigit 22 = .ok (.invokestatic 53, 3) := by decide +kernel
theorem dX2_writeDigit_25 : decode cX2_writeDigit 25 = .ok (.iload_n 2, 1) := by decide +kernel
theorem dX2_writeDigit_26 : decode cX2_writeDigit 26 = .ok (.iastore, 1) := by decide +kernel
theorem dX2_writeDigit_27 : decode cX2_writeDigit 27 = .ok (.aload_n 0, 1) := by decide +kernel
theorem dX2_writeDigit_28 : decode cX2_writeDigit 28 = .ok (.getfield 57, 3) := by decide +kernel
theorem dX2_writeDigit_31 : decode cX2_writeDigit 31 = .ok (.iload_n 1, 1) := by decide +kernel
theorem dX2_writeDigit_32 : decode cX2_writeDigit 32 = .ok (.iload 4, 2) := by decide +kernel
theorem dX2_writeDigit_34 : decode cX2_writeDigit 34 = .ok (.invokestatic 53, 3) := by decide +kernel
theorem dX2_writeDigit_37 : decode cX2_writeDigit 37 = .ok (.iload_n 3, 1) := by decide +kernel
theorem dX2_writeDigit_38 : decode cX2_writeDigit 38 = .ok (.iastore, 1) := by decide +kernel
theorem dX2_writeDigit_39 : decode cX2_writeDigit 39 = .ok (.aload_n 0, 1) := by decide +kernel
theorem dX2_writeDigit_40 : decode cX2_writeDigit 40 = .ok (.getfield 46, 3) := by decide +kernel
theorem dX2_writeDigit_43 : decode cX2_writeDigit 43 = .ok (.iload_n 1, 1) := by decide +kernel
theorem dX2_writeDigit_44 : decode cX2_writeDigit 44 = .ok (.iload 4, 2) := by decide +kernel
theorem dX2_writeDigit_46 : decode cX2_writeDigit 46 = .ok (.iconst 1, 1) := by decide +kernel
theorem dX2_writeDigit_47 : decode cX2_writeDigit 47 = .ok (.iadd, 1) := by decide +kernel
theorem dX2_writeDigit_48 : decode cX2_writeDigit 48 = .ok (.iastore, 1) := by decide +kernel
theorem dX2_writeDigit_49 : decode cX2_writeDigit 49 = .ok (.return_, 1) := by decide +kernel
set_option maxRecDepth 20000 in
theorem ggX2_countersInText_X2_isBetween : GoodIn wsX2_countersInText wsX2_isBetween := goodIn_r _ [6] (by decide +kernel) (by decide +kernel)
set_option maxRecDepth 20000 in
theorem gX2_countersInText_X2_isBetween : GoodIn wsX2_countersInText (va_wsS RX2 26 yX2_isBetween wsX2_isBetween) := goodIn_app (goodIn_of _ (by decide +kernel)) ggX2_countersInText_X2_isBetween
theorem dX2_countersInText_0 : decode cX2_countersInText 0 = .ok (.iconst 1, 1) := by decide +kernel
theorem dX2_countersInText_1 : decode cX2_countersInText 1 = .ok (.istore_n 1, 1) := by decide +kernel
theorem dX2_countersInText_2 : decode cX2_countersInText 2 = .ok (.iconst 0, 1) := by decide +kernel
theorem dX2_countersInText_3 : decode cX2_countersInText 3 = .ok (.istore_n 2, 1) := by decide +kernel
theorem dX2_countersInText_4 : decode cX2_countersInText 4 = .ok (.iload_n 2, 1) := by decide +kernel
theorem dX2_countersInText_5 : decode cX2_countersInText 5 = .ok (.aload_n 0, 1) := by decide +kernel
theorem dX2_countersInText_6 : decode cX2_countersInText 6 = .ok (.getfield 15, 3) := by decide +kernel
theorem dX2_countersInText_9 : decode cX2_countersInText 9 = .ok (.if_icmp .ge 24, 3) := by decide +kernel
theorem dX2_countersInText_12 : decode cX2_countersInText 12 = .ok (.aload_n 0, 1) := by decide +kernel
theorem dX2_countersInText_13 : decode cX2_countersInText 13 = .ok (.getfield 9, 3) := by decide +kernel
theorem dX2_countersInText_16 : decode cX2_countersInText 16 = .ok (.iload_n 2, 1) := by decide +kernel
theorem dX2_countersInText_17 : decode cX2_countersInText 17 = .ok (.caload, 1) := by decide +kernel
theorem dX2_countersInText_18 : decode cX2_countersInText 18 = .ok (.invokestatic 26, 3) := by decide +kernel
theorem dX2_countersInText_21 : decode cX2_countersInText 21 = .ok (.ifCond .eq 6, 3) := by decide +kernel
theorem dX2_countersInText_24 : decode cX2_countersInText 24 = .ok (.iinc 1 1, 3) := by decide +kernel
theorem dX2_countersInText_27 : decode cX2_countersInText 27 = .ok (.iinc 2 1, 3) := by decide +kernel
theorem dX2_countersInText_30 : decode cX2_countersInText 30 = .ok (.goto (-26), 3) := by decide +kernel
theorem dX2_countersInText_33 : decode cX2_countersInText 33 = .ok (.iload_n 1, 1) := by decide +kernel
theorem dX2_countersInText_34 : decode cX2_countersInText 34 = .ok (.ireturn, 1) := by decide +kernel
theorem dX2_isDigit_0 : decode cX2_isDigit 0 = .ok (.iload_n 0, 1) := by decide +kernel
theorem dX2_isDigit_1 : decode cX2_isDigit 1 = .ok (.bipush 48, 2) := by decide +kernel
theorem dX2_isDigit_3 : decode cX2_isDigit 3 = .ok (.if_icmp .lt 13, 3) := by decide +kernel
theorem dX2_isDigit_6 : decode cX2_isDigit 6 = .ok (.iload_n 0, 1) := by decide +kernel
theorem dX2_isDigit_7 : decode cX2_isDigit 7 = .ok (.bipush 50, 2) := by decide +kernel
theorem dX2_isDigit_9 : decode cX2_isDigit 9 = .ok (.if_icmp .gt 7, 3) := by decide +kernel
theorem dX2_isDigit_12 : decode cX2_isDigit 12 = .ok (.iconst 1, 1) := by decide +kernel
theorem dX2_isDigit_13 : decode cX2_isDigit 13 = .ok (.goto 4, 3) := by decide +kernel
theorem dX2_isDigit_16 : decode cX2_isDigit 16 = .ok (.iconst 0, 1) := by decide +kernel
theorem dX2_isDigit_17 : decode cX2_isDigit 17 = .ok (.ireturn, 1) := by decide +kernel
theorem dX2_isMark_0 : decode cX2_isMark 0 = .ok (.iload_n 0, 1) := by decide +kernel
theorem dX2_isMark_1 : decode cX2_isMark 1 = .ok (.bipush 43, 2) := by decide +kernel
theorem dX2_isMark_3 : decode cX2_isMark 3 = .ok (.if_icmp .eq 9, 3) := by decide +kernel
theorem dX2_isMark_6 : decode cX2_isMark 6 = .ok (.iload_n 0, 1) := by decide +kernel
theorem dX2_isMark_7 : decode cX2_isMark 7 = .ok (.bipush 45, 2) := by decide +kernel
theorem dX2_isMark_9 : decode cX2_isMark 9 = .ok (.if_icmp .ne 7, 3) := by decide +kernel
theorem dX2_isMark_12 : decode cX2_isMark 12 = .ok (.iconst 1, 1) := by decide +kernel
theorem dX2_isMark_13 : decode cX2_isMark 13 = .ok (.goto 4, 3) := by decide +kernel
theorem dX2_isMark_16 : decode cX2_isMark 16 = .ok (.iconst 0, 1) := by decide +kernel
theorem dX2_isMark_17 : decode cX2_isMark 17 = .ok (.ireturn, 1) := by decide +kernel
theorem dX2_isBetween_0 : decode cX2_isBetween 0 = .ok (.iload_n 0, 1) := by decide +kernel
theorem dX2_isBetween_1 : decode cX2_isBetween 1 = .ok (.bipush 47, 2) := by decide +kernel
theorem dX2_isBetween_3 : decode cX2_isBetween 3 = .ok (.if_icmp .eq 9, 3) := by decide +kernel
theorem dX2_isBetween_6 : decode cX2_isBetween 6 = .ok (.iload_n 0, 1) := by decide +kernel
theorem dX2_isBetween_7 : decode cX2_isBetween 7 = .ok (.bipush 62, 2) := by decide +kernel
theorem dX2_isBetween_9 : decode cX2_isBetween 9 = .ok (.if_icmp .ne 7, 3) := by decide +kernel
theorem dX2_isBetween_12 : decode cX2_isBetween 12 = .ok (.iconst 1, 1) := by decide +kernel
theorem dX2_isBetween_13 : decode cX2_isBetween 13 = .ok (.goto 4, 3) := by decide +kernel
theorem dX2_isBetween_16 : decode cX2_isBetween 16 = .ok (.iconst 0, 1) := by decide +kernel
theorem dX2_isBetween_17 : decode cX2_isBetween 17 = .ok (.ireturn, 1) := by decide +kernel
set_option maxRecDepth 20000 in
theorem ggX3_init_X2_init : GoodIn wsX3_init wsX2_init := goodIn_r _ [23, 24, 2, 3, 25, 26, 50, 51] (by decide +kernel) (by decide +kernel)
set_option maxRecDepth 20000 in
theorem gX3_init_X2_init_n11 : GoodIn wsX3_init (wsX2_init) := ggX3_init_X2_init
set_option maxRecDepth 20000 in
theorem ggX3_init_X1_init : GoodIn wsX3_init wsX1_init := goodIn_r _ [29, 30, 2, 3, 20, 31, 17, 32, 33, 34, 35, 36, 37, 38, 39, 40, 41, 42, 59, 60, 61, 62, 63, 64, 65, 66, 67, 68, 69, 70, 71] (by decide +kernel) (by decide +kernel)
set_option maxRecDepth 20000 in
theorem gX3_init_X1_init : GoodIn wsX3_init (wsX1_init) := ggX3_init_X1_init
set_option maxRecDepth 20000 in
theorem ggX3_init_X0_init : GoodIn wsX3_init wsX0_init := goodIn_r _ [45, 46, 2, 3, 47, 48, 9, 10, 49, 28, 29, 30, 20, 31, 17, 32, 33, 34, 35, 36, 37, 38, 39, 40, 41, 42, 72, 73, 74, 59, 60, 61, 62, 63, 64, 65, 66, 67, 68, 69, 70, 71] (by decide +kernel) (by decide +kernel)
set_option maxRecDepth 20000 in
theorem gX3_init_X0_init : GoodIn wsX3_init (wsX0_init) := ggX3_init_X0_init
theorem dX3_init_0 : decode cX3_init 0 = .ok (.aload_n 0, 1) := by decide +kernel
theorem dX3_init_1 : decode cX3_init 1 = .ok (.invokespecial 3, 3) := by decide +kernel
theorem dX3_init_4 : decode cX3_init 4 = .ok (.aload_n 0, 1) := by decide +kernel
theorem dX3_init_5 : decode cX3_init 5 = .ok (.new 9, 3) := by decide +kernel
theorem dX3_init_8 : decode cX3_init 8 = .ok (.dup, 1) := by decide +kernel
theorem dX3_init_9 : decode cX3_init 9 = .ok (.invokespecial 11, 3) := by decide +kernel
theorem dX3_init_12 : decode cX3_init 12 = .ok (.putfield 12, 3) := by decide +kernel
theorem dX3_init_15 : decode cX3_init 15 = .ok (.aload_n 0, 1) := by decide +kernel
theorem dX3_init_16 : decode cX3_init 16 = .ok (.new 16, 3) := by decide +kernel
theorem dX3_init_19 : decode cX3_init 19 = .ok (.dup, 1) := by decide +kernel
theorem dX3_init_20 : decode cX3_init 20 = .ok (.invokespecial 18, 3) := by decide +kernel
theorem dX3_init_23 : decode cX3_init 23 = .ok (.putfield 19, 3) := by decide +kernel
theorem dX3_init_26 : decode cX3_init 26 = .ok (.aload_n 0, 1) := by decide +kernel
theorem dX3_init_27 : decode cX3_init 27 = .ok (.new 23, 3) := by decide +kernel
theorem dX3_init_30 : decode cX3_init 30 = .ok (.dup, 1) := by decide +kernel
theorem dX3_init_31 : decode cX3_init 31 = .ok (.invokespecial 25, 3) := by decide +kernel
theorem dX3_init_34 : decode cX3_init 34 = .ok (.putfield 26, 3) := by decide +kernel
theorem dX3_init_37 : decode cX3_init 37 = .ok (.aload_n 0, 1) := by decide +kernel
theorem dX3_init_38 : decode cX3_init 38 = .ok (.iconst 2, 1) := by decide +kernel
theorem dX3_init_39 : decode cX3_init 39 = .ok (.anewarray 16, 3) := by decide +kernel
theorem dX3_init_42 : decode cX3_init 42 = .ok (.putfield 30, 3) := by decide +kernel
theorem dX3_init_45 : decode cX3_init 45 = .ok (.aload_n 0, 1) := by decide +kernel
theorem dX3_init_46 : decode cX3_init 46 = .ok (.iconst 2, 1) := by decide +kernel
theorem dX3_init_47 : decode cX3_init 47 = .ok (.newarray .boolean, 2) := by decide +kernel
theorem dX3_init_49 : decode cX3_init 49 = .ok (.putfield 34, 3) := by decide +kernel
theorem dX3_init_52 : decode cX3_init 52 = .ok (.aload_n 0, 1) := by decide +kernel
theorem dX3_init_53 : decode cX3_init 53 = .ok (.new 16, 3) := by decide +kernel
theorem dX3_init_56 : decode cX3_init 56 = .ok (.dup, 1) := by decide +kernel
theorem dX3_init_57 : decode cX3_init 57 = .ok (.invokespecial 18, 3) := by decide +kernel
theorem dX3_init_60 : decode cX3_init 60 = .ok (.putfield 38, 3) := by decide +kernel
theorem dX3_init_63 : decode cX3_init 63 = .ok (.aload_n 0, 1) := by decide +kernel
theorem dX3_init_64 : decode cX3_init 64 = .ok (.iconst 3, 1) := by decide +kernel
theorem dX3_init_65 : decode cX3_init 65 = .ok (.newarray .int, 2) := by decide +kernel
theorem dX3_init_67 : decode cX3_init 67 = .ok (.putfield 41, 3) := by decide +kernel
theorem dX3_init_70 : decode cX3_init 70 = .ok (.iconst 0, 1) := by decide +kernel
theorem dX3_init_71 : decode cX3_init 71 = .ok (.istore_n 1, 1) := by decide +kernel
theorem dX3_init_72 : decode cX3_init 72 = .ok (.iload_n 1, 1) := by decide +kernel
theorem dX3_init_73 : decode cX3_init 73 = .ok (.iconst 2, 1) := by decide +kernel
theorem dX3_init_74 : decode cX3_init 74 = .ok (.if_icmp .ge 22, 3) := by decide +kernel
theorem dX3_init_77 : decode cX3_init 77 = .ok (.aload_n 0, 1) := by decide +kernel
theorem dX3_init_78 : decode cX3_init 78 = .ok (.getfield 30, 3) := by decide +kernel
theorem dX3_init_81 : decode cX3_init 81 = .ok (.iload_n 1, 1) := by decide +kernel
theorem dX3_init_82 : decode cX3_init 82 = .ok (.new 16, 3) := by decide +kernel
theorem dX3_init_85 : decode cX3_init 85 = .ok (.dup, 1) := by decide +kernel
theorem dX3_init_86 : decode cX3_init 86 = .ok (.invokespecial 18, 3) := by decide +kernel
theorem dX3_init_89 : decode cX3_init 89 = .ok (.aastore, 1) := by decide +kernel
theorem dX3_init_90 : decode cX3_init 90 = .ok (.iinc 1 1, 3) := by decide +kernel
theorem dX3_init_93 : decode cX3_init 93 = .ok (.goto (-21), 3) := by decide +kernel
theorem dX3_init_96 : decode cX3_init 96 = .ok (.return_, 1) := by decide +kernel
set_option maxRecDepth 20000 in
theorem ggX3_append_X3_requireRange : GoodIn wsX3_append wsX3_requireRange := goodIn_ca (goodIn_r _ [8, 9, 10] (by decide +kernel) (by decide +kernel)) (goodIn_sub (fun _ h => List.mem_cons_of_mem _ (List.mem_append_right _ h)) (by decide +kernel))
set_option maxRecDepth 20000 in
theorem gX3_append_X3_requireRange : GoodIn wsX3_append (va_wsS RX3 45 yX3_requireRange wsX3_requireRange) := goodIn_app (goodIn_of _ (by decide +kernel)) ggX3_append_X3_requireRange
set_option maxRecDepth 20000 in
theorem ggX3_append_X2_put : GoodIn wsX3_append wsX2_put := goodIn_r _ [15, 16, 17, 25, 26] (by decide +kernel) (by decide +kernel)
set_option maxRecDepth 20000 in
theorem gX3_append_X2_put : GoodIn wsX3_append (wsV RX3 60 RX2 yX2_put wsX2_put) := goodIn_app (goodIn_of _ (by decide +kernel)) ggX3_append_X2_put
theorem dX3_append_0 : decode cX3_append 0 = .ok (.iload_n 1, 1) := by decide +kernel
theorem dX3_append_1 : decode cX3_append 1 = .ok (.iconst 0, 1) := by decide +kernel
theorem dX3_append_2 : decode cX3_append 2 = .ok (.sipush 255, 3) := by decide +kernel
theorem dX3_append_5 : decode cX3_append 5 = .ok (.invokestatic 45, 3) := by decide +kernel
theorem dX3_append_8 : decode cX3_append 8 = .ok (.aload_n 0, 1) := by decide +kernel
theorem dX3_append_9 : decode cX3_append 9 = .ok (.getfield 12, 3) := by decide +kernel
theorem dX3_append_12 : decode cX3_append 12 = .ok (.getfield 49, 3) := by decide +kernel
theorem dX3_append_15 : decode cX3_append 15 = .ok (.bipush 100, 2) := by decide +kernel
theorem dX3_append_17 : decode cX3_append 17 = .ok (.if_icmp .lt 13, 3) := by decide +kernel
theorem dX3_append_20 : decode cX3_append 20 = .ok (.new 53, 3) := by decide +kernel
theorem dX3_append_23 : decode cX3_append 23 = .ok (.dup, 1) := by decide +kernel
theorem dX3_append_24 : decode cX3_append 24 = .ok (.ldc 55, 2) := by decide +kernel
theorem dX3_append_26 : decode cX3_append 26 = .ok (.invokespecial 57, 3) := by decide +kernel
theorem dX3_append_29 : decode cX3_append 29 = .ok (.athrow, 1) := by decide +kernel
theorem dX3_append_30 : decode cX3_append 30 = .ok (.aload_n 0, 1) := by decide +kernel
theorem dX3_append_31 : decode cX3_append 31 = .ok (.getfield 12, 3) := by decide +kernel
theorem dX3_append_34 : decode cX3_append 34 = .ok (.iload_n 1, 1) := by decide +kernel
theorem dX3_append_35 : decode cX3_append 35 = .ok (.i2c, 1) := by decide +kernel
theorem dX3_append_36 : decode cX3_append 36 = .ok (.invokevirtual 60, 3) := by decide +kernel
theorem dX3_append_39 : decode cX3_append 39 = .ok (.aload_n 0, 1) := by decide +kernel
theorem dX3_append_40 : decode cX3_append 40 = .ok (.getfield 12, 3) := by decide +kernel
theorem dX3_append_43 : decode cX3_append 43 = .ok (.getfield 49, 3) := by decide +kernel
theorem dX3_append_46 : decode cX3_append 46 = .ok (.ireturn, 1) := by decide +kernel
theorem dX3_clearText_0 : decode cX3_clearText 0 = .ok (.aload_n 0, 1) := by decide +kernel
theorem dX3_clearText_1 : decode cX3_clearText 1 = .ok (.getfield 12, 3) := by decide +kernel
theorem dX3_clearText_4 : decode cX3_clearText 4 = .ok (.getfield 49, 3) := by decide +kernel
theorem dX3_clearText_7 : decode cX3_clearText 7 = .ok (.istore_n 1, 1) := by decide +kernel
theorem dX3_clearText_8 : decode cX3_clearText 8 = .ok (.aload_n 0, 1) := by decide +kernel
theorem dX3_clearText_9 : decode cX3_clearText 9 = .ok (.getfield 12, 3) := by decide +kernel
theorem dX3_clearText_12 : decode cX3_clearText 12 = .ok (.iconst 0, 1) := by decide +kernel
theorem dX3_clearText_13 : decode cX3_clearText 13 = .ok (.putfield 49, 3) := by decide +kernel
theorem dX3_clearText_16 : decode cX3_clearText 16 = .ok (.iload_n 1, 1) := by decide +kernel
theorem dX3_clearText_17 : decode cX3_clearText 17 = .ok (.ireturn, 1) := by decide +kernel
set_option maxRecDepth 20000 in
theorem ggX3_errorPosition_X2_firstWrong : GoodIn wsX3_errorPosition wsX2_firstWrong := goodIn_r _ [6, 7, 8, 9, 10, 5, 11, 12, 13, 14, 15, 16, 17, 25, 26] (by decide +kernel) (by decide +kernel)
set_option maxRecDepth 20000 in
theorem gX3_errorPosition_X2_firstWrong : GoodIn wsX3_errorPosition (wsV RX3 64 RX2 yX2_firstWrong wsX2_firstWrong) := goodIn_app (goodIn_of _ (by decide +kernel)) ggX3_errorPosition_X2_firstWrong
theorem dX3_errorPosition_0 : decode cX3_errorPosition 0 = .ok (.aload_n 0, 1) := by decide +kernel
theorem dX3_errorPosition_1 : decode cX3_errorPosition 1 = .ok (.getfield 12, 3) := by decide +kernel
theorem dX3_errorPosition_4 : decode cX3_errorPosition 4 = .ok (.invokevirtual 64, 3) := by decide +kernel
theorem dX3_errorPosition_7 : decode cX3_errorPosition 7 = .ok (.ireturn, 1) := by decide +kernel
set_option maxRecDepth 20000 in
theorem ggX3_load_X2_firstWrong : GoodIn wsX3_load wsX2_firstWrong := goodIn_r _ [12, 13, 14, 15, 16, 11, 17, 18, 19, 20, 21, 22, 23, 83, 84] (by decide +kernel) (by decide +kernel)
set_option maxRecDepth 20000 in
theorem gX3_load_X2_firstWrong : GoodIn wsX3_load (wsV RX3 64 RX2 yX2_firstWrong wsX2_firstWrong) := goodIn_app (goodIn_of _ (by decide +kernel)) ggX3_load_X2_firstWrong
set_option maxRecDepth 20000 in
theorem ggX3_load_X1_clear : GoodIn wsX3_load wsX1_clear := goodIn_r _ [28, 29, 30, 31, 32, 33, 34, 35, 36, 37, 70, 71, 72, 73, 74, 75, 76, 77, 78, 79, 80, 81, 82] (by decide +kernel) (by decide +kernel)
set_option maxRecDepth 20000 in
theorem gX3_load_X1_clear : GoodIn wsX3_load (wsV RX3 70 RX1 yX1_clear wsX1_clear) := goodIn_app (goodIn_of _ (by decide +kernel)) ggX3_load_X1_clear
set_option maxRecDepth 20000 in
theorem ggX3_load_X2_writeInto : GoodIn wsX3_load wsX2_writeInto := goodIn_r _ [41, 42, 13, 14, 43, 44, 45, 46, 11, 47, 21, 22, 23, 15, 16, 17, 48, 49, 50, 51, 52, 53, 54, 55, 56, 18, 19, 20, 70, 71, 72, 73, 74, 75, 76, 77, 78, 79, 80, 81, 82, 83, 84] (by decide +kernel) (by decide +kernel)
set_option maxRecDepth 20000 in
theorem gX3_load_X2_writeInto : GoodIn wsX3_load (wsV RX3 73 RX2 yX2_writeInto wsX2_writeInto) := goodIn_app (goodIn_of _ (by decide +kernel)) ggX3_load_X2_writeInto
set_option maxRecDepth 20000 in
theorem ggX3_load_X0_forget : GoodIn wsX3_load wsX0_forget := goodIn_r _ [61, 62, 85, 86, 87] (by decide +kernel) (by decide +kernel)
set_option maxRecDepth 20000 in
theorem gX3_load_X0_forget : GoodIn wsX3_load (wsV RX3 77 RX0 yX0_forget wsX0_forget) := goodIn_app (goodIn_of _ (by decide +kernel)) ggX3_load_X0_forget
theorem dX3_load_0 : decode cX3_load 0 = .ok (.aload_n 0, 1) := by decide +kernel
theorem dX3_load_1 : decode cX3_load 1 = .ok (.getfield 12, 3) := by decide +kernel
theorem dX3_load_4 : decode cX3_load 4 = .ok (.invokevirtual 64, 3) := by decide +kernel
theorem dX3_load_7 : decode cX3_load 7 = .ok (.iconst (-1), 1) := by decide +kernel
theorem dX3_load_8 : decode cX3_load 8 = .ok (.if_icmp .eq 13, 3) := by decide +kernel
theorem dX3_load_11 : decode cX3_load 11 = .ok (.new 53, 3) := by decide +kernel
theorem dX3_load_14 : decode cX3_load 14 = .ok (.dup, 1) := by decide +kernel
theorem dX3_load_15 : decode cX3_load 15 = .ok (.ldc 68, 2) := by decide +kernel
theorem dX3_load_17 : decode cX3_load 17 = .ok (.invokespecial 57, 3) := by decide +kernel
theorem dX3_load_20 : decode cX3_load 20 = .ok (.athrow, 1) := by decide +kernel
theorem dX3_load_21 : decode cX3_load 21 = .ok (.aload_n 0, 1) := by decide +kernel
theorem dX3_load_22 : decode cX3_load 22 = .ok (.getfield 19, 3) := by decide +kernel
theorem dX3_load_25 : decode cX3_load 25 = .ok (.invokevirtual 70, 3) := by decide +kernel
theorem dX3_load_28 : decode cX3_load 28 = .ok (.aload_n 0, 1) := by decide +kernel
theorem dX3_load_29 : decode cX3_load 29 = .ok (.getfield 12, 3) := by decide +kernel
theorem dX3_load_32 : decode cX3_load 32 = .ok (.aload_n 0, 1) := by decide +kernel
theorem dX3_load_33 : decode cX3_load 33 = .ok (.getfield 19, 3) := by decide +kernel
theorem dX3_load_36 : decode cX3_load 36 = .ok (.invokevirtual 73, 3) := by decide +kernel
theorem dX3_load_39 : decode cX3_load 39 = .ok (.aload_n 0, 1) := by decide +kernel
theorem dX3_load_40 : decode cX3_load 40 = .ok (.getfield 26, 3) := by decide +kernel
theorem dX3_load_43 : decode cX3_load 43 = .ok (.invokevirtual 77, 3) := by decide +kernel
theorem dX3_load_46 : decode cX3_load 46 = .ok (.iconst 0, 1) := by decide +kernel
theorem dX3_load_47 : decode cX3_load 47 = .ok (.istore_n 1, 1) := by decide +kernel
theorem dX3_load_48 : decode cX3_load 48 = .ok (.iload_n 1, 1) := by decide +kernel
theorem dX3_load_49 : decode cX3_load 49 = .ok (.iconst 2, 1) := by decide +kernel
theorem dX3_load_50 : decode cX3_load 50 = .ok (.if_icmp .ge 16, 3) := by decide +kernel
theorem dX3_load_53 : decode cX3_load 53 = .ok (.aload_n 0, 1) := by decide +kernel
theorem dX3_load_54 : decode cX3_load 54 = .ok (.getfield 34, 3) := by decide +kernel
theorem dX3_load_57 : decode cX3_load 57 = .ok (.iload_n 1, 1) := by decide +kernel
theorem dX3_load_58 : decode cX3_load 58 = .ok (.iconst 0, 1) := by decide +kernel
theorem dX3_load_59 : decode cX3_load 59 = .ok (.bastore, 1) := by decide +kernel
theorem dX3_load_60 : decode cX3_load 60 = .ok (.iinc 1 1, 3) := by decide +kernel
theorem dX3_load_63 : decode cX3_load 63 = .ok (.goto (-15), 3) := by decide +kernel
theorem dX3_load_66 : decode cX3_load 66 = .ok (.aload_n 0, 1) := by decide +kernel
theorem dX3_load_67 : decode cX3_load 67 = .ok (.getfield 19, 3) := by decide +kernel
theorem dX3_load_70 : decode cX3_load 70 = .ok (.getfield 80, 3) := by decide +kernel
theorem dX3_load_73 : decode cX3_load 73 = .ok (.ireturn, 1) := by decide +kernel
set_option maxRecDepth 20000 in
theorem ggX3_about_X3_requireRange : GoodIn wsX3_about wsX3_requireRange := goodIn_ca (goodIn_r _ [9, 10, 11] (by decide +kernel) (by decide +kernel)) (goodIn_sub (fun _ h => List.mem_cons_of_mem _ (List.mem_append_right _ h)) (by decide +kernel))
set_option maxRecDepth 20000 in
theorem gX3_about_X3_requireRange : GoodIn wsX3_about (va_wsS RX3 45 yX3_requireRange wsX3_requireRange) := goodIn_app (goodIn_of _ (by decide +kernel)) ggX3_about_X3_requireRange
set_option maxRecDepth 20000 in
theorem ggX3_about_X1_countersAtRest : GoodIn wsX3_about wsX1_countersAtRest := goodIn_r _ [16, 17, 18, 19, 20, 15, 21, 22, 23, 24, 25, 26, 27, 28, 8, 29, 56, 57, 58, 59, 60, 61, 62, 63, 64, 65, 66, 67, 68] (by decide +kernel) (by decide +kernel)
set_option maxRecDepth 20000 in
theorem gX3_about_X1_countersAtRest : GoodIn wsX3_about (wsV RX3 92 RX1 yX1_countersAtRest wsX1_countersAtRest) := goodIn_app (goodIn_of _ (by decide +kernel)) ggX3_about_X1_countersAtRest
set_option maxRecDepth 20000 in
theorem ggX3_about_X1_waitingInAll : GoodIn wsX3_about wsX1_waitingInAll := goodIn_r _ [33, 17, 22, 23, 24, 15, 25, 26, 27, 28, 8, 29, 56, 57, 58, 59, 60, 61, 62, 63, 64, 65, 66, 67, 68] (by decide +kernel) (by decide +kernel)
set_option maxRecDepth 20000 in
theorem gX3_about_X1_waitingInAll : GoodIn wsX3_about (wsV RX3 95 RX1 yX1_waitingInAll wsX1_waitingInAll) := goodIn_app (goodIn_of _ (by decide +kernel)) ggX3_about_X1_waitingInAll
set_option maxRecDepth 20000 in
theorem ggX3_about_X1_pairs : GoodIn wsX3_about wsX1_pairs := goodIn_r _ [37, 38, 39, 40, 41, 15, 42, 43, 44, 45, 46, 47, 48, 56, 57, 58, 59, 60, 61, 62, 63, 64, 65, 66, 67, 68] (by decide +kernel) (by decide +kernel)
set_option maxRecDepth 20000 in
theorem gX3_about_X1_pairs : GoodIn wsX3_about (wsV RX3 98 RX1 yX1_pairs wsX1_pairs) := goodIn_app (goodIn_of _ (by decide +kernel)) ggX3_about_X1_pairs
theorem dX3_about_0 : decode cX3_about 0 = .ok (.iload_n 1, 1) := by decide +kernel
theorem dX3_about_1 : decode cX3_about 1 = .ok (.iconst 0, 1) := by decide +kernel
theorem dX3_about_2 : decode cX3_about 2 = .ok (.bipush 6, 2) := by decide +kernel
theorem dX3_about_4 : decode cX3_about 4 = .ok (.invokestatic 45, 3) := by decide +kernel
theorem dX3_about_7 : decode cX3_about 7 = .ok (.iload_n 1, 1) := by decide +kernel
theorem dX3_about_8 : decode cX3_about 8 = .ok (.tableswitch 88 0 5 #[40, 48, 56, 64, 72, 80], 40) := by decide +kernel
theorem dX3_about_48 : decode cX3_about 48 = .ok (.aload_n 0, 1) := by decide +kernel
theorem dX3_about_49 : decode cX3_about 49 = .ok (.getfield 19, 3) := by decide +kernel
theorem dX3_about_52 : decode cX3_about 52 = .ok (.getfield 80, 3) := by decide +kernel
theorem dX3_about_55 : decode cX3_about 55 = .ok (.ireturn, 1) := by decide +kernel
theorem dX3_about_56 : decode cX3_about 56 = .ok (.aload_n 0, 1) := by decide +kernel
theorem dX3_about_57 : decode cX3_about 57 = .ok (.getfield 19, 3) := by decide +kernel
theorem dX3_about_60 : decode cX3_about 60 = .ok (.getfield 83, 3) := by decide +kernel
theorem dX3_about_63 : decode cX3_about 63 = .ok (.ireturn, 1) := by decide +kernel
theorem dX3_about_64 : decode cX3_about 64 = .ok (.aload_n 0, 1) := by decide +kernel
theorem dX3_about_65 : decode cX3_about 65 = .ok (.getfield 19, 3) := by decide +kernel
theorem dX3_about_68 : decode cX3_about 68 = .ok (.getfield 86, 3) := by decide +kernel
theorem dX3_about_71 : decode cX3_about 71 = .ok (.ireturn, 1) := by decide +kernel
theorem dX3_about_72 : decode cX3_about 72 = .ok (.aload_n 0, 1) := by decide +kernel
theorem dX3_about_73 : decode cX3_about 73 = .ok (.getfield 19, 3) := by decide +kernel
theorem dX3_about_76 : decode cX3_about 76 = .ok (.getfield 89, 3) := by decide +kernel
theorem dX3_about_79 : decode cX3_about 79 = .ok (.ireturn, 1) := by decide +kernel
theorem dX3_about_80 : decode cX3_about 80 = .ok (.aload_n 0, 1) := by decide +kernel
theorem dX3_about_81 : decode cX3_about 81 = .ok (.getfield 19, 3) := by decide +kernel
theorem dX3_about_84 : decode cX3_about 84 = .ok (.invokevirtual 92, 3) := by decide +kernel
theorem dX3_about_87 : decode cX3_about 87 = .ok (.ireturn, 1) := by decide +kernel
theorem dX3_about_88 : decode cX3_about 88 = .ok (.aload_n 0, 1) := by decide +kernel
theorem dX3_about_89 : decode cX3_about 89 = .ok (.getfield 19, 3) := by decide +kernel
theorem dX3_about_92 : decode cX3_about 92 = .ok (.invokevirtual 95, 3) := by decide +kernel
theorem dX3_about_95 : decode cX3_about 95 = .ok (.ireturn, 1) := by decide +kernel
theorem dX3_about_96 : decode cX3_about 96 = .ok (.aload_n 0, 1) := by decide +kernel
theorem dX3_about_97 : decode cX3_about 97 = .ok (.getfield 19, 3) := by decide +kernel
theorem dX3_about_100 : decode cX3_about 100 = .ok (.invokevirtual 98, 3) := by decide +kernel
theorem dX3_about_103 : decode cX3_about 103 = .ok (.ireturn, 1) := by decide +kernel
set_option maxRecDepth 20000 in
theorem ggX3_shown_X3_requireCounter : GoodIn wsX3_shown wsX3_requireCounter := goodIn_ca (goodIn_r _ [6, 7, 8, 1, 9, 10, 11, 12, 13, 14, 23, 24, 25, 26, 27, 28, 29, 30, 31, 32, 33, 34, 35, 36, 37, 38, 39, 40, 41, 42] (by decide +kernel) (by decide +kernel)) (goodIn_sub (fun _ h => List.mem_cons_of_mem _ (List.mem_append_right _ h)) (by decide +kernel))
set_option maxRecDepth 20000 in
theorem gX3_shown_X3_requireCounter : GoodIn wsX3_shown (wsV RX3 101 RX3 yX3_requireCounter wsX3_requireCounter) := goodIn_app (goodIn_of _ (by decide +kernel)) ggX3_shown_X3_requireCounter
set_option maxRecDepth 20000 in
theorem ggX3_shown_X1_reading : GoodIn wsX3_shown wsX1_reading := goodIn_r _ [18, 19, 20, 21, 5, 22, 30, 31, 32, 33, 34, 35, 36, 37, 38, 39, 40, 41, 42] (by decide +kernel) (by decide +kernel)
set_option maxRecDepth 20000 in
theorem gX3_shown_X1_reading : GoodIn wsX3_shown (wsV RX3 105 RX1 yX1_reading wsX1_reading) := goodIn_app (goodIn_of _ (by decide +kernel)) ggX3_shown_X1_reading
theorem dX3_shown_0 : decode cX3_shown 0 = .ok (.aload_n 0, 1) := by decide +kernel
theorem dX3_shown_1 : decode cX3_shown 1 = .ok (.iload_n 1, 1) := by decide +kernel
theorem dX3_shown_2 : decode cX3_shown 2 = .ok (.invokevirtual 101, 3) := by decide +kernel
theorem dX3_shown_5 : decode cX3_shown 5 = .ok (.aload_n 0, 1) := by decide +kernel
theorem dX3_shown_6 : decode cX3_shown 6 = .ok (.getfield 19, 3) := by decide +kernel
theorem dX3_shown_9 : decode cX3_shown 9 = .ok (.iload_n 1, 1) := by decide +kernel
theorem dX3_shown_10 : decode cX3_shown 10 = .ok (.invokevirtual 105, 3) := by decide +kernel
theorem dX3_shown_13 : decode cX3_shown 13 = .ok (.ireturn, 1) := by decide +kernel
set_option maxRecDepth 20000 in
theorem ggX3_worth_X3_requireCounter : GoodIn wsX3_worth wsX3_requireCounter := goodIn_ca (goodIn_r _ [6, 7, 8, 1, 9, 10, 11, 12, 13, 14, 25, 26, 27, 28, 29, 30, 31, 32, 33, 34, 35, 36, 37, 38, 39, 40, 41, 42, 43, 44] (by decide +kernel) (by decide +kernel)) (goodIn_sub (fun _ h => List.mem_cons_of_mem _ (List.mem_append_right _ h)) (by decide +kernel))
set_option maxRecDepth 20000 in
theorem gX3_worth_X3_requireCounter : GoodIn wsX3_worth (wsV RX3 101 RX3 yX3_requireCounter wsX3_requireCounter) := goodIn_app (goodIn_of _ (by decide +kernel)) ggX3_worth_X3_requireCounter
set_option maxRecDepth 20000 in
theorem ggX3_worth_X1_fullReading : GoodIn wsX3_worth wsX1_fullReading := goodIn_r _ [18, 19, 20, 21, 22, 23, 5, 24, 32, 33, 34, 35, 36, 37, 38, 39, 40, 41, 42, 43, 44] (by decide +kernel) (by decide +kernel)
set_option maxRecDepth 20000 in
theorem gX3_worth_X1_fullReading : GoodIn wsX3_worth (wsV RX3 109 RX1 yX1_fullReading wsX1_fullReading) := goodIn_app (goodIn_of _ (by decide +kernel)) ggX3_worth_X1_fullReading
theorem dX3_worth_0 : decode cX3_worth 0 = .ok (.aload_n 0, 1) := by decide +kernel
theorem dX3_worth_1 : decode cX3_worth 1 = .ok (.iload_n 1, 1) := by decide +kernel
theorem dX3_worth_2 : decode cX3_worth 2 = .ok (.invokevirtual 101, 3) := by decide +kernel
theorem dX3_worth_5 : decode cX3_worth 5 = .ok (.aload_n 0, 1) := by decide +kernel
theorem dX3_worth_6 : decode cX3_worth 6 = .ok (.getfield 19, 3) := by decide +kernel
theorem dX3_worth_9 : decode cX3_worth 9 = .ok (.iload_n 1, 1) := by decide +kernel
theorem dX3_worth_10 : decode cX3_worth 10 = .ok (.invokevirtual 109, 3) := by decide +kernel
theorem dX3_worth_13 : decode cX3_worth 13 = .ok (.lreturn, 1) := by decide +kernel
set_option maxRecDepth 20000 in
theorem ggX3_counter_X3_requireCounter : GoodIn wsX3_counter wsX3_requireCounter := goodIn_ca (goodIn_r _ [9, 10, 11, 1, 12, 13, 14, 15, 16, 17, 42, 43, 44, 45, 46, 47, 48, 49, 50, 51, 52, 53, 54, 55, 56, 57, 58, 59, 60, 61] (by decide +kernel) (by decide +kernel)) (goodIn_sub (fun _ h => List.mem_cons_of_mem _ (List.mem_append_left _ (List.mem_append_right _ h))) (by decide +kernel))
set_option maxRecDepth 20000 in
theorem gX3_counter_X3_requireCounter : GoodIn wsX3_counter (wsV RX3 101 RX3 yX3_requireCounter wsX3_requireCounter) := goodIn_app (goodIn_of _ (by decide +kernel)) ggX3_counter_X3_requireCounter
set_option maxRecDepth 20000 in
theorem ggX3_counter_X3_requireRange : GoodIn wsX3_counter wsX3_requireRange := goodIn_ca (goodIn_r _ [20, 21, 22] (by decide +kernel) (by decide +kernel)) (goodIn_sub (fun _ h => List.mem_cons_of_mem _ (List.mem_append_right _ h)) (by decide +kernel))
set_option maxRecDepth 20000 in
theorem gX3_counter_X3_requireRange : GoodIn wsX3_counter (va_wsS RX3 45 yX3_requireRange wsX3_requireRange) := goodIn_app (goodIn_of _ (by decide +kernel)) ggX3_counter_X3_requireRange
set_option maxRecDepth 20000 in
theorem ggX3_counter_X1_ticketsOf : GoodIn wsX3_counter wsX1_ticketsOf := goodIn_r _ [26, 27, 28, 49, 50, 51, 52, 53, 54, 55, 56, 57, 58, 59, 60, 61] (by decide +kernel) (by decide +kernel)
set_option maxRecDepth 20000 in
theorem gX3_counter_X1_ticketsOf : GoodIn wsX3_counter (wsV RX3 122 RX1 yX1_ticketsOf wsX1_ticketsOf) := goodIn_app (goodIn_of _ (by decide +kernel)) ggX3_counter_X1_ticketsOf
set_option maxRecDepth 20000 in
theorem ggX3_counter_X1_waitingAt : GoodIn wsX3_counter wsX1_waitingAt := goodIn_r _ [32, 33, 34, 35, 8, 36, 49, 50, 51, 52, 53, 54, 55, 56, 57, 58, 59, 60, 61] (by decide +kernel) (by decide +kernel)
set_option maxRecDepth 20000 in
theorem gX3_counter_X1_waitingAt : GoodIn wsX3_counter (wsV RX3 125 RX1 yX1_waitingAt wsX1_waitingAt) := goodIn_app (goodIn_of _ (by decide +kernel)) ggX3_counter_X1_waitingAt
set_option maxRecDepth 20000 in
theorem ggX3_counter_X1_digitSum : GoodIn wsX3_counter wsX1_digitSum := goodIn_r _ [40, 33, 41, 35, 8, 36, 49, 50, 51, 52, 53, 54, 55, 56, 57, 58, 59, 60, 61] (by decide +kernel) (by decide +kernel)
set_option maxRecDepth 20000 in
theorem gX3_counter_X1_digitSum : GoodIn wsX3_counter (wsV RX3 128 RX1 yX1_digitSum wsX1_digitSum) := goodIn_app (goodIn_of _ (by decide +kernel)) ggX3_counter_X1_digitSum
theorem dX3_counter_0 : decode cX3_counter 0 = .ok (.aload_n 0, 1) := by decide +kernel
theorem dX3_counter_1 : decode cX3_counter 1 = .ok (.iload_n 1, 1) := by decide +kernel
theorem dX3_counter_2 : decode cX3_counter 2 = .ok (.invokevirtual 101, 3) := by decide +kernel
theorem dX3_counter_5 : decode cX3_counter 5 = .ok (.iload_n 2, 1) := by decide +kernel
theorem dX3_counter_6 : decode cX3_counter 6 = .ok (.iconst 0, 1) := by decide +kernel
theorem dX3_counter_7 : decode cX3_counter 7 = .ok (.iconst 5, 1) := by decide +kernel
theorem dX3_counter_8 : decode cX3_counter 8 = .ok (.invokestatic 45, 3) := by decide +kernel
theorem dX3_counter_11 : decode cX3_counter 11 = .ok (.iload_n 2, 1) := by decide +kernel
theorem dX3_counter_12 : decode cX3_counter 12 = .ok (.tableswitch 92 0 4 #[36, 46, 64, 74, 83], 36) := by decide +kernel
theorem dX3_counter_48 : decode cX3_counter 48 = .ok (.aload_n 0, 1) := by decide +kernel
theorem dX3_counter_49 : decode cX3_counter 49 = .ok (.getfield 19, 3) := by decide +kernel
theorem dX3_counter_52 : decode cX3_counter 52 = .ok (.getfield 113, 3) := by decide +kernel
theorem dX3_counter_55 : decode cX3_counter 55 = .ok (.iload_n 1, 1) := by decide +kernel
theorem dX3_counter_56 : decode cX3_counter 56 = .ok (.iaload, 1) := by decide +kernel
theorem dX3_counter_57 : decode cX3_counter 57 = .ok (.ireturn, 1) := by decide +kernel
theorem dX3_counter_58 : decode cX3_counter 58 = .ok (.aload_n 0, 1) := by decide +kernel
theorem dX3_counter_59 : decode cX3_counter 59 = .ok (.getfield 19, 3) := by decide +kernel
theorem dX3_counter_62 : decode cX3_counter 62 = .ok (.getfield 116, 3) := by decide +kernel
theorem dX3_counter_65 : decode cX3_counter 65 = .ok (.iload_n 1, 1) := by decide +kernel
theorem dX3_counter_66 : decode cX3_counter 66 = .ok (.baload, 1) := by decide +kernel
theorem dX3_counter_67 : decode cX3_counter 67 = .ok (.ifCond .eq 7, 3) := by decide +kernel
theorem dX3_counter_70 : decode cX3_counter 70 = .ok (.iconst 1, 1) := by decide +kernel
theorem dX3_counter_71 : decode cX3_counter 71 = .ok (.goto 4, 3) := by decide +kernel
theorem dX3_counter_74 : decode cX3_counter 74 = .ok (.iconst 0, 1) := by decide +kernel
theorem dX3_counter_75 : decode cX3_counter 75 = .ok (.ireturn, 1) := by decide +kernel
theorem dX3_counter_76 : decode cX3_counter 76 = .ok (.aload_n 0, 1) := by decide +kernel
theorem dX3_counter_77 : decode cX3_counter 77 = .ok (.getfield 19, 3) := by decide +kernel
theorem dX3_counter_80 : decode cX3_counter 80 = .ok (.getfield 119, 3) := by decide +kernel
theorem dX3_counter_83 : decode cX3_counter 83 = .ok (.iload_n 1, 1) := by decide +kernel
theorem dX3_counter_84 : decode cX3_counter 84 = .ok (.iaload, 1) := by decide +kernel
theorem dX3_counter_85 : decode cX3_counter 85 = .ok (.ireturn, 1) := by decide +kernel
theorem dX3_counter_86 : decode cX3_counter 86 = .ok (.aload_n 0, 1) := by decide +kernel
theorem dX3_counter_87 : decode cX3_counter 87 = .ok (.getfield 19, 3) := by decide +kernel
theorem dX3_counter_90 : decode cX3_counter 90 = .ok (.iload_n 1, 1) := by decide +kernel
theorem dX3_counter_91 : decode cX3_counter 91 = .ok (.invokevirtual 122, 3) := by decide +kernel
theorem dX3_counter_94 : decode cX3_counter 94 = .ok (.ireturn, 1) := by decide +kernel
theorem dX3_counter_95 : decode cX3_counter 95 = .ok (.aload_n 0, 1) := by decide +kernel
theorem dX3_counter_96 : decode cX3_counter 96 = .ok (.getfield 19, 3) := by decide +kernel
theorem dX3_counter_99 : decode cX3_counter 99 = .ok (.iload_n 1, 1) := by decide +kernel
theorem dX3_counter_100 : decode cX3_counter 100 = .ok (.invokevirtual 125, 3) := by decide +kernel
theorem dX3_counter_103 : decode cX3_counter 103 = .ok (.ireturn, 1) := by decide +kernel
theorem dX3_counter_104 : decode cX3_counter 104 = .ok (.aload_n 0, 1) := by decide +kernel
theorem dX3_counter_105 : decode cX3_counter 105 = .ok (.getfield 19, 3) := by decide +kernel
theorem dX3_counter_108 : decode cX3_counter 108 = .ok (.iload_n 1, 1) := by decide +kernel
theorem dX3_counter_109 : decode cX3_counter 109 = .ok (.invokevirtual 128, 3) := by decide +kernel
theorem dX3_counter_112 : decode cX3_counter 112 = .ok (.ireturn, 1) := by decide +kernel
set_option maxRecDepth 20000 in
theorem ggX3_place_X3_requireCounter : GoodIn wsX3_place wsX3_requireCounter := goodIn_ca (goodIn_r _ [11, 1, 2, 3, 12, 13, 14, 15, 16, 17, 26, 27, 28, 29, 30, 31, 32, 33, 34, 35, 36, 37, 38, 39, 40, 41, 42, 43, 44, 45] (by decide +kernel) (by decide +kernel)) (goodIn_sub (fun _ h => List.mem_cons_of_mem _ (List.mem_append_left _ (List.mem_append_right _ h))) (by decide +kernel))
set_option maxRecDepth 20000 in
theorem gX3_place_X3_requireCounter : GoodIn wsX3_place (wsV RX3 101 RX3 yX3_requireCounter wsX3_requireCounter) := goodIn_app (goodIn_of _ (by decide +kernel)) ggX3_place_X3_requireCounter
set_option maxRecDepth 20000 in
theorem ggX3_place_X3_requireRange : GoodIn wsX3_place wsX3_requireRange := goodIn_ca (goodIn_r _ [20, 21, 22] (by decide +kernel) (by decide +kernel)) (goodIn_sub (fun _ h => List.mem_cons_of_mem _ (List.mem_append_right _ h)) (by decide +kernel))
set_option maxRecDepth 20000 in
theorem gX3_place_X3_requireRange : GoodIn wsX3_place (va_wsS RX3 45 yX3_requireRange wsX3_requireRange) := goodIn_app (goodIn_of _ (by decide +kernel)) ggX3_place_X3_requireRange
set_option maxRecDepth 20000 in
theorem ggX3_place_X3_cellOf : GoodIn wsX3_place wsX3_cellOf := goodIn_r _ [25] (by decide +kernel) (by decide +kernel)
set_option maxRecDepth 20000 in
theorem gX3_place_X3_cellOf : GoodIn wsX3_place (va_wsS RX3 136 yX3_cellOf wsX3_cellOf) := goodIn_app (goodIn_of _ (by decide +kernel)) ggX3_place_X3_cellOf
theorem dX3_place_0 : decode cX3_place 0 = .ok (.aload_n 0, 1) := by decide +kernel
theorem dX3_place_1 : decode cX3_place 1 = .ok (.iload_n 1, 1) := by decide +kernel
theorem dX3_place_2 : decode cX3_place 2 = .ok (.invokevirtual 101, 3) := by decide +kernel
theorem dX3_place_5 : decode cX3_place 5 = .ok (.iload_n 2, 1) := by decide +kernel
theorem dX3_place_6 : decode cX3_place 6 = .ok (.ifCond .lt 16, 3) := by decide +kernel
theorem dX3_place_9 : decode cX3_place 9 = .ok (.iload_n 2, 1) := by decide +kernel
theorem dX3_place_10 : decode cX3_place 10 = .ok (.aload_n 0, 1) := by decide +kernel
theorem dX3_place_11 : decode cX3_place 11 = .ok (.getfield 19, 3) := by decide +kernel
theorem dX3_place_14 : decode cX3_place 14 = .ok (.getfield 113, 3) := by decide +kernel
theorem dX3_place_17 : decode cX3_place 17 = .ok (.iload_n 1, 1) := by decide +kernel
theorem dX3_place_18 : decode cX3_place 18 = .ok (.iaload, 1) := by decide +kernel
theorem dX3_place_19 : decode cX3_place 19 = .ok (.if_icmp .lt 13, 3) := by decide +kernel
theorem dX3_place_22 : decode cX3_place 22 = .ok (.new 131, 3) := by decide +kernel
theorem dX3_place_25 : decode cX3_place 25 = .ok (.dup, 1) := by decide +kernel
theorem dX3_place_26 : decode cX3_place 26 = .ok (.ldc 133, 2) := by decide +kernel
theorem dX3_place_28 : decode cX3_place 28 = .ok (.invokespecial 135, 3) := by decide +kernel
theorem dX3_place_31 : decode cX3_place 31 = .ok (.athrow, 1) := by decide +kernel
theorem dX3_place_32 : decode cX3_place 32 = .ok (.iload_n 3, 1) := by decide +kernel
theorem dX3_place_33 : decode cX3_place 33 = .ok (.iconst 0, 1) := by decide +kernel
theorem dX3_place_34 : decode cX3_place 34 = .ok (.iconst 1, 1) := by decide +kernel
theorem dX3_place_35 : decode cX3_place 35 = .ok (.invokestatic 45, 3) := by decide +kernel
theorem dX3_place_38 : decode cX3_place 38 = .ok (.iload_n 1, 1) := by decide +kernel
theorem dX3_place_39 : decode cX3_place 39 = .ok (.iload_n 2, 1) := by decide +kernel
theorem dX3_place_40 : decode cX3_place 40 = .ok (.invokestatic 136, 3) := by decide +kernel
theorem dX3_place_43 : decode cX3_place 43 = .ok (.istore 4, 2) := by decide +kernel
theorem dX3_place_45 : decode cX3_place 45 = .ok (.iload_n 3, 1) := by decide +kernel
theorem dX3_place_46 : decode cX3_place 46 = .ok (.ifCond .ne 16, 3) := by decide +kernel
theorem dX3_place_49 : decode cX3_place 49 = .ok (.aload_n 0, 1) := by decide +kernel
theorem dX3_place_50 : decode cX3_place 50 = .ok (.getfield 19, 3) := by decide +kernel
theorem dX3_place_53 : decode cX3_place 53 = .ok (.getfield 140, 3) := by decide +kernel
theorem dX3_place_56 : decode cX3_place 56 = .ok (.iload 4, 2) := by decide +kernel
theorem dX3_place_58 : decode cX3_place 58 = .ok (.iaload, 1) := by decide +kernel
theorem dX3_place_59 : decode cX3_place 59 = .ok (.goto 13, 3) := by decide +kernel
theorem dX3_place_62 : decode cX3_place 62 = .ok (.aload_n 0, 1) := by decide +kernel
theorem dX3_place_63 : decode cX3_place 63 = .ok (.getfield 19, 3) := by decide +kernel
theorem dX3_place_66 : decode cX3_place 66 = .ok (.getfield 143, 3) := by decide +kernel
theorem dX3_place_69 : decode cX3_place 69 = .ok (.iload 4, 2) := by decide +kernel
theorem dX3_place_71 : decode cX3_place 71 = .ok (.iaload, 1) := by decide +kernel
theorem dX3_place_72 : decode cX3_place 72 = .ok (.ireturn, 1) := by decide +kernel
set_option maxRecDepth 20000 in
theorem ggX3_ticket_X3_requireTicket : GoodIn wsX3_ticket wsX3_requireTicket := goodIn_ca (goodIn_r _ [10, 11, 12, 1, 13, 31, 32, 33, 34, 35, 36, 37, 38, 39, 40, 41, 42, 43, 44, 45, 46, 47, 48, 49, 50] (by decide +kernel) (by decide +kernel)) (goodIn_sub (fun _ h => List.mem_cons_of_mem _ (List.mem_append_left _ (List.mem_append_right _ h))) (by decide +kernel))
set_option maxRecDepth 20000 in
theorem gX3_ticket_X3_requireTicket : GoodIn wsX3_ticket (wsV RX3 146 RX3 yX3_requireTicket wsX3_requireTicket) := goodIn_app (goodIn_of _ (by decide +kernel)) ggX3_ticket_X3_requireTicket
set_option maxRecDepth 20000 in
theorem ggX3_ticket_X3_requireRange : GoodIn wsX3_ticket wsX3_requireRange := goodIn_ca (goodIn_r _ [16, 17, 18] (by decide +kernel) (by decide +kernel)) (goodIn_sub (fun _ h => List.mem_cons_of_mem _ (List.mem_append_right _ h)) (by decide +kernel))
set_option maxRecDepth 20000 in
theorem gX3_ticket_X3_requireRange : GoodIn wsX3_ticket (va_wsS RX3 45 yX3_requireRange wsX3_requireRange) := goodIn_app (goodIn_of _ (by decide +kernel)) ggX3_ticket_X3_requireRange
set_option maxRecDepth 20000 in
theorem ggX3_ticket_X1_partners : GoodIn wsX3_ticket wsX1_partners := goodIn_r _ [23, 24, 25, 26, 27, 22, 28, 29, 30, 38, 39, 40, 41, 42, 43, 44, 45, 46, 47, 48, 49, 50] (by decide +kernel) (by decide +kernel)
set_option maxRecDepth 20000 in
theorem gX3_ticket_X1_partners : GoodIn wsX3_ticket (wsV RX3 158 RX1 yX1_partners wsX1_partners) := goodIn_app (goodIn_of _ (by decide +kernel)) ggX3_ticket_X1_partners
theorem dX3_ticket_0 : decode cX3_ticket 0 = .ok (.aload_n 0, 1) := by decide +kernel
theorem dX3_ticket_1 : decode cX3_ticket 1 = .ok (.iload_n 1, 1) := by decide +kernel
theorem dX3_ticket_2 : decode cX3_ticket 2 = .ok (.invokevirtual 146, 3) := by decide +kernel
theorem dX3_ticket_5 : decode cX3_ticket 5 = .ok (.iload_n 2, 1) := by decide +kernel
theorem dX3_ticket_6 : decode cX3_ticket 6 = .ok (.iconst 0, 1) := by decide +kernel
theorem dX3_ticket_7 : decode cX3_ticket 7 = .ok (.iconst 4, 1) := by decide +kernel
theorem dX3_ticket_8 : decode cX3_ticket 8 = .ok (.invokestatic 45, 3) := by decide +kernel
theorem dX3_ticket_11 : decode cX3_ticket 11 = .ok (.iload_n 2, 1) := by decide +kernel
theorem dX3_ticket_12 : decode cX3_ticket 12 = .ok (.tableswitch 75 0 3 #[32, 43, 54, 65], 32) := by decide +kernel
theorem dX3_ticket_44 : decode cX3_ticket 44 = .ok (.aload_n 0, 1) := by decide +kernel
theorem dX3_ticket_45 : decode cX3_ticket 45 = .ok (.getfield 19, 3) := by decide +kernel
theorem dX3_ticket_48 : decode cX3_ticket 48 = .ok (.getfield 149, 3) := by decide +kernel
theorem dX3_ticket_51 : decode cX3_ticket 51 = .ok (.iload_n 1, 1) := by decide +kernel
theorem dX3_ticket_52 : decode cX3_ticket 52 = .ok (.iaload, 1) := by decide +kernel
theorem dX3_ticket_53 : decode cX3_ticket 53 = .ok (.i2l, 1) := by decide +kernel
theorem dX3_ticket_54 : decode cX3_ticket 54 = .ok (.lreturn, 1) := by decide +kernel
theorem dX3_ticket_55 : decode cX3_ticket 55 = .ok (.aload_n 0, 1) := by decide +kernel
theorem dX3_ticket_56 : decode cX3_ticket 56 = .ok (.getfield 19, 3) := by decide +kernel
theorem dX3_ticket_59 : decode cX3_ticket 59 = .ok (.getfield 152, 3) := by decide +kernel
theorem dX3_ticket_62 : decode cX3_ticket 62 = .ok (.iload_n 1, 1) := by decide +kernel
theorem dX3_ticket_63 : decode cX3_ticket 63 = .ok (.iaload, 1) := by decide +kernel
theorem dX3_ticket_64 : decode cX3_ticket 64 = .ok (.i2l, 1) := by decide +kernel
theorem dX3_ticket_65 : decode cX3_ticket 65 = .ok (.lreturn, 1) := by decide +kernel
theorem dX3_ticket_66 : decode cX3_ticket 66 = .ok (.aload_n 0, 1) := by decide +kernel
theorem dX3_ticket_67 : decode cX3_ticket 67 = .ok (.getfield 19, 3) := by decide +kernel
theorem dX3_ticket_70 : decode cX3_ticket 70 = .ok (.getfield 155, 3) := by decide +kernel
theorem dX3_ticket_73 : decode cX3_ticket 73 = .ok (.iload_n 1, 1) := by decide +kernel
theorem dX3_ticket_74 : decode cX3_ticket 74 = .ok (.iaload, 1) := by decide +kernel
theorem dX3_ticket_75 : decode cX3_ticket 75 = .ok (.i2l, 1) := by decide +kernel
theorem dX3_ticket_76 : decode cX3_ticket 76 = .ok (.lreturn, 1) := by decide +kernel
theorem dX3_ticket_77 : decode cX3_ticket 77 = .ok (.aload_n 0, 1) := by decide +kernel
theorem dX3_ticket_78 : decode cX3_ticket 78 = .ok (.getfield 19, 3) := by decide +kernel
theorem dX3_ticket_81 : decode cX3_ticket 81 = .ok (.iload_n 1, 1) := by decide +kernel
theorem dX3_ticket_82 : decode cX3_ticket 82 = .ok (.invokevirtual 158, 3) := by decide +kernel
theorem dX3_ticket_85 : decode cX3_ticket 85 = .ok (.i2l, 1) := by decide +kernel
theorem dX3_ticket_86 : decode cX3_ticket 86 = .ok (.lreturn, 1) := by decide +kernel
theorem dX3_ticket_87 : decode cX3_ticket 87 = .ok (.aload_n 0, 1) := by decide +kernel
theorem dX3_ticket_88 : decode cX3_ticket 88 = .ok (.getfield 19, 3) := by decide +kernel
theorem dX3_ticket_91 : decode cX3_ticket 91 = .ok (.getfield 161, 3) := by decide +kernel
theorem dX3_ticket_94 : decode cX3_ticket 94 = .ok (.iload_n 1, 1) := by decide +kernel
theorem dX3_ticket_95 : decode cX3_ticket 95 = .ok (.laload, 1) := by decide +kernel
theorem dX3_ticket_96 : decode cX3_ticket 96 = .ok (.lreturn, 1) := by decide +kernel
set_option maxRecDepth 20000 in
theorem ggX3_sorted_X3_requireTicket : GoodIn wsX3_sorted wsX3_requireTicket := goodIn_ca (goodIn_r _ [7, 8, 9, 1, 2, 22, 23, 24, 25, 26, 27, 28, 29, 30, 31, 32, 33, 34, 35, 36, 37, 38, 39, 40, 41] (by decide +kernel) (by decide +kernel)) (goodIn_sub (fun _ h => List.mem_cons_of_mem _ (List.mem_append_right _ h)) (by decide +kernel))
set_option maxRecDepth 20000 in
theorem gX3_sorted_X3_requireTicket : GoodIn wsX3_sorted (wsV RX3 146 RX3 yX3_requireTicket wsX3_requireTicket) := goodIn_app (goodIn_of _ (by decide +kernel)) ggX3_sorted_X3_requireTicket
set_option maxRecDepth 20000 in
theorem ggX3_sorted_X1_ticketsAheadOf : GoodIn wsX3_sorted wsX1_ticketsAheadOf := goodIn_r _ [14, 15, 16, 17, 18, 13, 19, 20, 21, 29, 30, 31, 32, 33, 34, 35, 36, 37, 38, 39, 40, 41] (by decide +kernel) (by decide +kernel)
set_option maxRecDepth 20000 in
theorem gX3_sorted_X1_ticketsAheadOf : GoodIn wsX3_sorted (wsV RX3 165 RX1 yX1_ticketsAheadOf wsX1_ticketsAheadOf) := goodIn_app (goodIn_of _ (by decide +kernel)) ggX3_sorted_X1_ticketsAheadOf
theorem dX3_sorted_0 : decode cX3_sorted 0 = .ok (.aload_n 0, 1) := by decide +kernel
theorem dX3_sorted_1 : decode cX3_sorted 1 = .ok (.iload_n 1, 1) := by decide +kernel
theorem dX3_sorted_2 : decode cX3_sorted 2 = .ok (.invokevirtual 146, 3) := by decide +kernel
theorem dX3_sorted_5 : decode cX3_sorted 5 = .ok (.iconst 0, 1) := by decide +kernel
theorem dX3_sorted_6 : decode cX3_sorted 6 = .ok (.istore_n 2, 1) := by decide +kernel
theorem dX3_sorted_7 : decode cX3_sorted 7 = .ok (.iload_n 2, 1) := by decide +kernel
theorem dX3_sorted_8 : decode cX3_sorted 8 = .ok (.aload_n 0, 1) := by decide +kernel
theorem dX3_sorted_9 : decode cX3_sorted 9 = .ok (.getfield 19, 3) := by decide +kernel
theorem dX3_sorted_12 : decode cX3_sorted 12 = .ok (.getfield 89, 3) := by decide +kernel
theorem dX3_sorted_15 : decode cX3_sorted 15 = .ok (.if_icmp .ge 23, 3) := by decide +kernel
theorem dX3_sorted_18 : decode cX3_sorted 18 = .ok (.aload_n 0, 1) := by decide +kernel
theorem dX3_sorted_19 : decode cX3_sorted 19 = .ok (.getfield 19, 3) := by decide +kernel
theorem dX3_sorted_22 : decode cX3_sorted 22 = .ok (.iload_n 2, 1) := by decide +kernel
theorem dX3_sorted_23 : decode cX3_sorted 23 = .ok (.invokevirtual 165, 3) := by decide +kernel
theorem dX3_sorted_26 : decode cX3_sorted 26 = .ok (.iload_n 1, 1) := by decide +kernel
theorem dX3_sorted_27 : decode cX3_sorted 27 = .ok (.if_icmp .ne 5, 3) := by decide +kernel
theorem dX3_sorted_30 : decode cX3_sorted 30 = .ok (.iload_n 2, 1) := by decide +kernel
theorem dX3_sorted_31 : decode cX3_sorted 31 = .ok (.ireturn, 1) := by decide +kernel
theorem dX3_sorted_32 : decode cX3_sorted 32 = .ok (.iinc 2 1, 3) := by decide +kernel
theorem dX3_sorted_35 : decode cX3_sorted 35 = .ok (.goto (-28), 3) := by decide +kernel
theorem dX3_sorted_38 : decode cX3_sorted 38 = .ok (.iconst (-1), 1) := by decide +kernel
theorem dX3_sorted_39 : decode cX3_sorted 39 = .ok (.ireturn, 1) := by decide +kernel
set_option maxRecDepth 20000 in
theorem ggX3_ranked_X3_requireCounter : GoodIn wsX3_ranked wsX3_requireCounter := goodIn_ca (goodIn_r _ [7, 8, 9, 1, 10, 11, 12, 13, 14, 15, 34, 35, 36, 37, 38, 39, 40, 41, 42, 43, 44, 45, 46, 47, 48, 49, 50, 51, 52, 53] (by decide +kernel) (by decide +kernel)) (goodIn_sub (fun _ h => List.mem_cons_of_mem _ (List.mem_append_right _ h)) (by decide +kernel))
set_option maxRecDepth 20000 in
theorem gX3_ranked_X3_requireCounter : GoodIn wsX3_ranked (wsV RX3 101 RX3 yX3_requireCounter wsX3_requireCounter) := goodIn_app (goodIn_of _ (by decide +kernel)) ggX3_ranked_X3_requireCounter
set_option maxRecDepth 20000 in
theorem ggX3_ranked_X1_countersAheadOf : GoodIn wsX3_ranked wsX1_countersAheadOf := goodIn_r _ [19, 15, 20, 21, 22, 13, 23, 24, 25, 26, 27, 28, 6, 29, 30, 31, 32, 33, 41, 42, 43, 44, 45, 46, 47, 48, 49, 50, 51, 52, 53] (by decide +kernel) (by decide +kernel)
set_option maxRecDepth 20000 in
theorem gX3_ranked_X1_countersAheadOf : GoodIn wsX3_ranked (wsV RX3 168 RX1 yX1_countersAheadOf wsX1_countersAheadOf) := goodIn_app (goodIn_of _ (by decide +kernel)) ggX3_ranked_X1_countersAheadOf
theorem dX3_ranked_0 : decode cX3_ranked 0 = .ok (.aload_n 0, 1) := by decide +kernel
theorem dX3_ranked_1 : decode cX3_ranked 1 = .ok (.iload_n 1, 1) := by decide +kernel
theorem dX3_ranked_2 : decode cX3_ranked 2 = .ok (.invokevirtual 101, 3) := by decide +kernel
theorem dX3_ranked_5 : decode cX3_ranked 5 = .ok (.iconst 0, 1) := by decide +kernel
theorem dX3_ranked_6 : decode cX3_ranked 6 = .ok (.istore_n 3, 1) := by decide +kernel
theorem dX3_ranked_7 : decode cX3_ranked 7 = .ok (.iload_n 3, 1) := by decide +kernel
theorem dX3_ranked_8 : decode cX3_ranked 8 = .ok (.aload_n 0, 1) := by decide +kernel
theorem dX3_ranked_9 : decode cX3_ranked 9 = .ok (.getfield 19, 3) := by decide +kernel
theorem dX3_ranked_12 : decode cX3_ranked 12 = .ok (.getfield 80, 3) := by decide +kernel
theorem dX3_ranked_15 : decode cX3_ranked 15 = .ok (.if_icmp .ge 24, 3) := by decide +kernel
theorem dX3_ranked_18 : decode cX3_ranked 18 = .ok (.aload_n 0, 1) := by decide +kernel
theorem dX3_ranked_19 : decode cX3_ranked 19 = .ok (.getfield 19, 3) := by decide +kernel
theorem dX3_ranked_22 : decode cX3_ranked 22 = .ok (.iload_n 3, 1) := by decide +kernel
theorem dX3_ranked_23 : decode cX3_ranked 23 = .ok (.iload_n 2, 1) := by decide +kernel
theorem dX3_ranked_24 : decode cX3_ranked 24 = .ok (.invokevirtual 168, 3) := by decide +kernel
theorem dX3_ranked_27 : decode cX3_ranked 27 = .ok (.iload_n 1, 1) := by decide +kernel
theorem dX3_ranked_28 : decode cX3_ranked 28 = .ok (.if_icmp .ne 5, 3) := by decide +kernel
theorem dX3_ranked_31 : decode cX3_ranked 31 = .ok (.iload_n 3, 1) := by decide +kernel
theorem dX3_ranked_32 : decode cX3_ranked 32 = .ok (.ireturn, 1) := by decide +kernel
theorem dX3_ranked_33 : decode cX3_ranked 33 = .ok (.iinc 3 1, 3) := by decide +kernel
theorem dX3_ranked_36 : decode cX3_ranked 36 = .ok (.goto (-29), 3) := by decide +kernel
theorem dX3_ranked_39 : decode cX3_ranked 39 = .ok (.iconst (-1), 1) := by decide +kernel
theorem dX3_ranked_40 : decode cX3_ranked 40 = .ok (.ireturn, 1) := by decide +kernel
set_option maxRecDepth 20000 in
theorem ggX3_add_X3_requireCounter : GoodIn wsX3_add wsX3_requireCounter := goodIn_ca (goodIn_r _ [9, 10, 11, 3, 12, 13, 14, 15, 16, 17, 65, 66, 67, 68, 69, 70, 71, 72, 73, 74, 75, 76, 77, 78, 79, 80, 81, 82, 83, 84] (by decide +kernel) (by decide +kernel)) (goodIn_sub (fun _ h => List.mem_cons_of_mem _ (List.mem_append_left _ (List.mem_append_right _ h))) (by decide +kernel))
set_option maxRecDepth 20000 in
theorem gX3_add_X3_requireCounter : GoodIn wsX3_add (wsV RX3 101 RX3 yX3_requireCounter wsX3_requireCounter) := goodIn_app (goodIn_of _ (by decide +kernel)) ggX3_add_X3_requireCounter
set_option maxRecDepth 20000 in
theorem ggX3_add_X3_requireRange : GoodIn wsX3_add wsX3_requireRange := goodIn_ca (goodIn_r _ [20, 21, 22] (by decide +kernel) (by decide +kernel)) (goodIn_sub (fun _ h => List.mem_cons_of_mem _ (List.mem_append_right _ h)) (by decide +kernel))
set_option maxRecDepth 20000 in
theorem gX3_add_X3_requireRange : GoodIn wsX3_add (va_wsS RX3 45 yX3_requireRange wsX3_requireRange) := goodIn_app (goodIn_of _ (by decide +kernel)) ggX3_add_X3_requireRange
set_option maxRecDepth 20000 in
theorem ggX3_add_X1_hasPlacesFor : GoodIn wsX3_add wsX1_hasPlacesFor := goodIn_r _ [26, 27, 28, 29, 30, 31, 72, 73, 74, 75, 76, 77, 78, 79, 80, 81, 82, 83, 84] (by decide +kernel) (by decide +kernel)
set_option maxRecDepth 20000 in
theorem gX3_add_X1_hasPlacesFor : GoodIn wsX3_add (wsV RX3 172 RX1 yX1_hasPlacesFor wsX1_hasPlacesFor) := goodIn_app (goodIn_of _ (by decide +kernel)) ggX3_add_X1_hasPlacesFor
set_option maxRecDepth 20000 in
theorem ggX3_add_X0_remember : GoodIn wsX3_add wsX0_remember := goodIn_r _ [36, 37, 38, 39, 40, 41, 42, 15, 43, 17, 44, 45, 46, 31, 47, 48, 49, 50, 51, 52, 53, 54, 55, 56, 57, 58, 85, 86, 87, 72, 73, 74, 75, 76, 77, 78, 79, 80, 81, 82, 83, 84] (by decide +kernel) (by decide +kernel)
set_option maxRecDepth 20000 in
theorem gX3_add_X0_remember : GoodIn wsX3_add (wsV RX3 178 RX0 yX0_remember wsX0_remember) := goodIn_app (goodIn_of _ (by decide +kernel)) ggX3_add_X0_remember
set_option maxRecDepth 20000 in
theorem ggX3_add_X1_putDigits : GoodIn wsX3_add wsX1_putDigits := goodIn_r _ [62, 27, 28, 29, 30, 31, 54, 63, 8, 64, 72, 73, 74, 75, 76, 77, 78, 79, 80, 81, 82, 83, 84] (by decide +kernel) (by decide +kernel)
set_option maxRecDepth 20000 in
theorem gX3_add_X1_putDigits : GoodIn wsX3_add (wsV RX3 181 RX1 yX1_putDigits wsX1_putDigits) := goodIn_app (goodIn_of _ (by decide +kernel)) ggX3_add_X1_putDigits
theorem dX3_add_0 : decode cX3_add 0 = .ok (.aload_n 0, 1) := by decide +kernel
theorem dX3_add_1 : decode cX3_add 1 = .ok (.iload_n 1, 1) := by decide +kernel
theorem dX3_add_2 : decode cX3_add 2 = .ok (.invokevirtual 101, 3) := by decide +kernel
theorem dX3_add_5 : decode cX3_add 5 = .ok (.iload_n 2, 1) := by decide +kernel
theorem dX3_add_6 : decode cX3_add 6 = .ok (.sipush (-19682), 3) := by decide +kernel
theorem dX3_add_9 : decode cX3_add 9 = .ok (.sipush 19682, 3) := by decide +kernel
theorem dX3_add_12 : decode cX3_add 12 = .ok (.invokestatic 45, 3) := by decide +kernel
theorem dX3_add_15 : decode cX3_add 15 = .ok (.aload_n 0, 1) := by decide +kernel
theorem dX3_add_16 : decode cX3_add 16 = .ok (.getfield 19, 3) := by decide +kernel
theorem dX3_add_19 : decode cX3_add 19 = .ok (.iload_n 1, 1) := by decide +kernel
theorem dX3_add_20 : decode cX3_add 20 = .ok (.iload_n 2, 1) := by decide +kernel
theorem dX3_add_21 : decode cX3_add 21 = .ok (.invokevirtual 172, 3) := by decide +kernel
theorem dX3_add_24 : decode cX3_add 24 = .ok (.ifCond .ne 13, 3) := by decide +kernel
theorem dX3_add_27 : decode cX3_add 27 = .ok (.new 53, 3) := by decide +kernel
theorem dX3_add_30 : decode cX3_add 30 = .ok (.dup, 1) := by decide +kernel
theorem dX3_add_31 : decode cX3_add 31 = .ok (.ldc 176, 2) := by decide +kernel
theorem dX3_add_33 : decode cX3_add 33 = .ok (.invokespecial 57, 3) := by decide +kernel
theorem dX3_add_36 : decode cX3_add 36 = .ok (.athrow, 1) := by decide +kernel
theorem dX3_add_37 : decode cX3_add 37 = .ok (.aload_n 0, 1) := by decide +kernel
theorem dX3_add_38 : decode cX3_add 38 = .ok (.getfield 26, 3) := by decide +kernel
theorem dX3_add_41 : decode cX3_add 41 = .ok (.aload_n 0, 1) := by decide +kernel
theorem dX3_add_42 : decode cX3_add 42 = .ok (.getfield 19, 3) := by decide +kernel
theorem dX3_add_45 : decode cX3_add 45 = .ok (.invokevirtual 178, 3) := by decide +kernel
theorem dX3_add_48 : decode cX3_add 48 = .ok (.aload_n 0, 1) := by decide +kernel
theorem dX3_add_49 : decode cX3_add 49 = .ok (.getfield 19, 3) := by decide +kernel
theorem dX3_add_52 : decode cX3_add 52 = .ok (.iload_n 1, 1) := by decide +kernel
theorem dX3_add_53 : decode cX3_add 53 = .ok (.iload_n 2, 1) := by decide +kernel
theorem dX3_add_54 : decode cX3_add 54 = .ok (.invokevirtual 181, 3) := by decide +kernel
theorem dX3_add_57 : decode cX3_add 57 = .ok (.ireturn, 1) := by decide +kernel
set_option maxRecDepth 20000 in
theorem ggX3_draw_X3_requireCounter : GoodIn wsX3_draw wsX3_requireCounter := goodIn_ca (goodIn_r _ [10, 11, 12, 3, 13, 14, 15, 16, 17, 18, 62, 63, 64, 65, 66, 67, 68, 69, 70, 71, 72, 73, 74, 75, 76, 77, 78, 79, 80, 81] (by decide +kernel) (by decide +kernel)) (goodIn_sub (fun _ h => List.mem_cons_of_mem _ (List.mem_append_right _ h)) (by decide +kernel))
set_option maxRecDepth 20000 in
theorem gX3_draw_X3_requireCounter : GoodIn wsX3_draw (wsV RX3 101 RX3 yX3_requireCounter wsX3_requireCounter) := goodIn_app (goodIn_of _ (by decide +kernel)) ggX3_draw_X3_requireCounter
set_option maxRecDepth 20000 in
theorem ggX3_draw_X0_remember : GoodIn wsX3_draw wsX0_remember := goodIn_r _ [23, 24, 25, 26, 27, 28, 29, 16, 30, 18, 31, 32, 33, 34, 35, 36, 37, 38, 39, 40, 41, 42, 43, 44, 45, 46, 82, 83, 84, 69, 70, 71, 72, 73, 74, 75, 76, 77, 78, 79, 80, 81] (by decide +kernel) (by decide +kernel)
set_option maxRecDepth 20000 in
theorem gX3_draw_X0_remember : GoodIn wsX3_draw (wsV RX3 178 RX0 yX0_remember wsX0_remember) := goodIn_app (goodIn_of _ (by decide +kernel)) ggX3_draw_X0_remember
set_option maxRecDepth 20000 in
theorem ggX3_draw_X1_drawFrom : GoodIn wsX3_draw wsX1_drawFrom := goodIn_r _ [50, 33, 44, 43, 45, 32, 46, 42, 51, 52, 53, 16, 54, 34, 41, 55, 9, 56, 57, 58, 59, 60, 61, 69, 70, 71, 72, 73, 74, 75, 76, 77, 78, 79, 80, 81] (by decide +kernel) (by decide +kernel)
set_option maxRecDepth 20000 in
theorem gX3_draw_X1_drawFrom : GoodIn wsX3_draw (wsV RX3 186 RX1 yX1_drawFrom wsX1_drawFrom) := goodIn_app (goodIn_of _ (by decide +kernel)) ggX3_draw_X1_drawFrom
theorem dX3_draw_0 : decode cX3_draw 0 = .ok (.aload_n 0, 1) := by decide +kernel
theorem dX3_draw_1 : decode cX3_draw 1 = .ok (.iload_n 1, 1) := by decide +kernel
theorem dX3_draw_2 : decode cX3_draw 2 = .ok (.invokevirtual 101, 3) := by decide +kernel
theorem dX3_draw_5 : decode cX3_draw 5 = .ok (.aload_n 0, 1) := by decide +kernel
theorem dX3_draw_6 : decode cX3_draw 6 = .ok (.getfield 19, 3) := by decide +kernel
theorem dX3_draw_9 : decode cX3_draw 9 = .ok (.getfield 89, 3) := by decide +kernel
theorem dX3_draw_12 : decode cX3_draw 12 = .ok (.bipush 40, 2) := by decide +kernel
theorem dX3_draw_14 : decode cX3_draw 14 = .ok (.if_icmp .lt 13, 3) := by decide +kernel
theorem dX3_draw_17 : decode cX3_draw 17 = .ok (.new 53, 3) := by decide +kernel
theorem dX3_draw_20 : decode cX3_draw 20 = .ok (.dup, 1) := by decide +kernel
theorem dX3_draw_21 : decode cX3_draw 21 = .ok (.ldc 184, 2) := by decide +kernel
theorem dX3_draw_23 : decode cX3_draw 23 = .ok (.invokespecial 57, 3) := by decide +kernel
theorem dX3_draw_26 : decode cX3_draw 26 = .ok (.athrow, 1) := by decide +kernel
theorem dX3_draw_27 : decode cX3_draw 27 = .ok (.aload_n 0, 1) := by decide +kernel
theorem dX3_draw_28 : decode cX3_draw 28 = .ok (.getfield 26, 3) := by decide +kernel
theorem dX3_draw_31 : decode cX3_draw 31 = .ok (.aload_n 0, 1) := by decide +kernel
theorem dX3_draw_32 : decode cX3_draw 32 = .ok (.getfield 19, 3) := by decide +kernel
theorem dX3_draw_35 : decode cX3_draw 35 = .ok (.invokevirtual 178, 3) := by decide +kernel
theorem dX3_draw_38 : decode cX3_draw 38 = .ok (.aload_n 0, 1) := by decide +kernel
theorem dX3_draw_39 : decode cX3_draw 39 = .ok (.getfield 19, 3) := by decide +kernel
theorem dX3_draw_42 : decode cX3_draw 42 = .ok (.iload_n 1, 1) := by decide +kernel
theorem dX3_draw_43 : decode cX3_draw 43 = .ok (.invokevirtual 186, 3) := by decide +kernel
theorem dX3_draw_46 : decode cX3_draw 46 = .ok (.ireturn, 1) := by decide +kernel
