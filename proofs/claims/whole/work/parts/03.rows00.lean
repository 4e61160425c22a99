set_option maxRecDepth 20000 in
theorem ggX0_init_X1_init : GoodIn wsX0_init wsX1_init := goodIn_r _ [10, 11, 2, 3, 12, 13, 14, 15, 16, 17, 18, 19, 20, 21, 22, 23, 24, 25, 29, 30, 31, 32, 33, 34, 35, 36, 37, 38, 39, 40, 41] (by decide +kernel) (by decide +kernel)
set_option maxRecDepth 20000 in
theorem gX0_init_X1_init : GoodIn wsX0_init (wsX1_init) := ggX0_init_X1_init
theorem dX0_init_0 : decode cX0_init 0 = .ok (.aload_n 0, 1) := by decide +kernel
theorem dX0_init_1 : decode cX0_init 1 = .ok (.invokespecial 3, 3) := by decide +kernel
theorem dX0_init_4 : decode cX0_init 4 = .ok (.aload_n 0, 1) := by decide +kernel
theorem dX0_init_5 : decode cX0_init 5 = .ok (.bipush 14, 2) := by decide +kernel
theorem dX0_init_7 : decode cX0_init 7 = .ok (.anewarray 9, 3) := by decide +kernel
theorem dX0_init_10 : decode cX0_init 10 = .ok (.putfield 11, 3) := by decide +kernel
theorem dX0_init_13 : decode cX0_init 13 = .ok (.iconst 0, 1) := by decide +kernel
theorem dX0_init_14 : decode cX0_init 14 = .ok (.istore_n 1, 1) := by decide +kernel
theorem dX0_init_15 : decode cX0_init 15 = .ok (.iload_n 1, 1) := by decide +kernel
theorem dX0_init_16 : decode cX0_init 16 = .ok (.bipush 14, 2) := by decide +kernel
theorem dX0_init_18 : decode cX0_init 18 = .ok (.if_icmp .ge 22, 3) := by decide +kernel
theorem dX0_init_21 : decode cX0_init 21 = .ok (.aload_n 0, 1) := by decide +kernel
theorem dX0_init_22 : decode cX0_init 22 = .ok (.getfield 11, 3) := by decide +kernel
theorem dX0_init_25 : decode cX0_init 25 = .ok (.iload_n 1, 1) := by decide +kernel
theorem dX0_init_26 : decode cX0_init 26 = .ok (.new 9, 3) := by decide +kernel
theorem dX0_init_29 : decode cX0_init 29 = .ok (.dup, 1) := by decide +kernel
theorem dX0_init_30 : decode cX0_init 30 = .ok (.invokespecial 17, 3) := by decide +kernel
theorem dX0_init_33 : decode cX0_init 33 = .ok (.aastore, 1) := by decide +kernel
theorem dX0_init_34 : decode cX0_init 34 = .ok (.iinc 1 1, 3) := by decide +kernel
theorem dX0_init_37 : decode cX0_init 37 = .ok (.goto (-22), 3) := by decide +kernel
theorem dX0_init_40 : decode cX0_init 40 = .ok (.return_, 1) := by decide +kernel
theorem dX0_forget_0 : decode cX0_forget 0 = .ok (.aload_n 0, 1) := by decide +kernel
theorem dX0_forget_1 : decode cX0_forget 1 = .ok (.iconst 0, 1) := by decide +kernel
theorem dX0_forget_2 : decode cX0_forget 2 = .ok (.putfield 18, 3) := by decide +kernel
theorem dX0_forget_5 : decode cX0_forget 5 = .ok (.return_, 1) := by decide +kernel
set_option maxRecDepth 20000 in
theorem ggX0_remember_X1_copyFrom : GoodIn wsX0_remember wsX1_copyFrom := goodIn_r _ [8, 9, 10, 11, 12, 13, 14, 15, 16, 17, 18, 19, 20, 21, 22, 23, 24, 25, 29, 30, 31, 32, 33, 34, 35, 36, 37, 38, 39, 40, 41] (by decide +kernel) (by decide +kernel)
set_option maxRecDepth 20000 in
theorem gX0_remember_X1_copyFrom : GoodIn wsX0_remember (wsV RX0 25 RX1 yX1_copyFrom wsX1_copyFrom) := goodIn_app (goodIn_of _ (by decide +kernel)) ggX0_remember_X1_copyFrom
theorem dX0_remember_0 : decode cX0_remember 0 = .ok (.aload_n 0, 1) := by decide +kernel
theorem dX0_remember_1 : decode cX0_remember 1 = .ok (.getfield 18, 3) := by decide +kernel
theorem dX0_remember_4 : decode cX0_remember 4 = .ok (.bipush 14, 2) := by decide +kernel
theorem dX0_remember_6 : decode cX0_remember 6 = .ok (.if_icmp .ne 26, 3) := by decide +kernel
theorem dX0_remember_9 : decode cX0_remember 9 = .ok (.aload_n 0, 1) := by decide +kernel
theorem dX0_remember_10 : decode cX0_remember 10 = .ok (.aload_n 0, 1) := by decide +kernel
theorem dX0_remember_11 : decode cX0_remember 11 = .ok (.getfield 22, 3) := by decide +kernel
theorem dX0_remember_14 : decode cX0_remember 14 = .ok (.iconst 1, 1) := by decide +kernel
theorem dX0_remember_15 : decode cX0_remember 15 = .ok (.iadd, 1) := by decide +kernel
theorem dX0_remember_16 : decode cX0_remember 16 = .ok (.bipush 14, 2) := by decide +kernel
theorem dX0_remember_18 : decode cX0_remember 18 = .ok (.irem, 1) := by decide +kernel
theorem dX0_remember_19 : decode cX0_remember 19 = .ok (.putfield 22, 3) := by decide +kernel
theorem dX0_remember_22 : decode cX0_remember 22 = .ok (.aload_n 0, 1) := by decide +kernel
theorem dX0_remember_23 : decode cX0_remember 23 = .ok (.dup, 1) := by decide +kernel
theorem dX0_remember_24 : decode cX0_remember 24 = .ok (.getfield 18, 3) := by decide +kernel
theorem dX0_remember_27 : decode cX0_remember 27 = .ok (.iconst 1, 1) := by decide +kernel
theorem dX0_remember_28 : decode cX0_remember 28 = .ok (.isub, 1) := by decide +kernel
theorem dX0_remember_29 : decode cX0_remember 29 = .ok (.putfield 18, 3) := by decide +kernel
theorem dX0_remember_32 : decode cX0_remember 32 = .ok (.aload_n 0, 1) := by decide +kernel
theorem dX0_remember_33 : decode cX0_remember 33 = .ok (.getfield 11, 3) := by decide +kernel
theorem dX0_remember_36 : decode cX0_remember 36 = .ok (.aload_n 0, 1) := by decide +kernel
theorem dX0_remember_37 : decode cX0_remember 37 = .ok (.getfield 22, 3) := by decide +kernel
theorem dX0_remember_40 : decode cX0_remember 40 = .ok (.aload_n 0, 1) := by decide +kernel
theorem dX0_remember_41 : decode cX0_remember 41 = .ok (.getfield 18, 3) := by decide +kernel
theorem dX0_remember_44 : decode cX0_remember 44 = .ok (.iadd, 1) := by decide +kernel
theorem dX0_remember_45 : decode cX0_remember 45 = .ok (.bipush 14, 2) := by decide +kernel
theorem dX0_remember_47 : decode cX0_remember 47 = .ok (.irem, 1) := by decide +kernel
theorem dX0_remember_48 : decode cX0_remember 48 = .ok (.aaload, 1) := by decide +kernel
theorem dX0_remember_49 : decode cX0_remember 49 = .ok (.aload_n 1, 1) := by decide +kernel
theorem dX0_remember_50 : decode cX0_remember 50 = .ok (.invokevirtual 25, 3) := by decide +kernel
theorem dX0_remember_53 : decode cX0_remember 53 = .ok (.aload_n 0, 1) := by decide +kernel
theorem dX0_remember_54 : decode cX0_remember 54 = .ok (.dup, 1) := by decide +kernel
theorem dX0_remember_55 : decode cX0_remember 55 = .ok (.getfield 18, 3) := by decide +kernel
theorem dX0_remember_58 : decode cX0_remember 58 = .ok (.iconst 1, 1) := by decide +kernel
theorem dX0_remember_59 : decode cX0_remember 59 = .ok (.iadd, 1) := by decide +kernel
theorem dX0_remember_60 : decode cX0_remember 60 = .ok (.putfield 18, 3) := by decide +kernel
theorem dX0_remember_63 : decode cX0_remember 63 = .ok (.return_, 1) := by decide +kernel
set_option maxRecDepth 20000 in
theorem ggX0_takeBack_X1_copyFrom : GoodIn wsX0_takeBack wsX1_copyFrom := goodIn_r _ [8, 9, 10, 11, 12, 13, 14, 15, 16, 17, 18, 19, 20, 21, 22, 23, 24, 25, 29, 30, 31, 32, 33, 34, 35, 36, 37, 38, 39, 40, 41] (by decide +kernel) (by decide +kernel)
set_option maxRecDepth 20000 in
theorem gX0_takeBack_X1_copyFrom : GoodIn wsX0_takeBack (wsV RX0 25 RX1 yX1_copyFrom wsX1_copyFrom) := goodIn_app (goodIn_of _ (by decide +kernel)) ggX0_takeBack_X1_copyFrom
theorem dX0_takeBack_0 : decode cX0_takeBack 0 = .ok (.aload_n 0, 1) := by decide +kernel
theorem dX0_takeBack_1 : decode cX0_takeBack 1 = .ok (.getfield 18, 3) := by decide +kernel
theorem dX0_takeBack_4 : decode cX0_takeBack 4 = .ok (.ifCond .le 34, 3) := by decide +kernel
theorem dX0_takeBack_7 : decode cX0_takeBack 7 = .ok (.aload_n 0, 1) := by decide +kernel
theorem dX0_takeBack_8 : decode cX0_takeBack 8 = .ok (.dup, 1) := by decide +kernel
theorem dX0_takeBack_9 : decode cX0_takeBack 9 = .ok (.getfield 18, 3) := by decide +kernel
theorem dX0_takeBack_12 : decode cX0_takeBack 12 = .ok (.iconst 1, 1) := by decide +kernel
theorem dX0_takeBack_13 : decode cX0_takeBack 13 = .ok (.isub, 1) := by decide +kernel
theorem dX0_takeBack_14 : decode cX0_takeBack 14 = .ok (.putfield 18, 3) := by decide +kernel
theorem dX0_takeBack_17 : decode cX0_takeBack 17 = .ok (.aload_n 1, 1) := by decide +kernel
theorem dX0_takeBack_18 : decode cX0_takeBack 18 = .ok (.aload_n 0, 1) := by decide +kernel
theorem dX0_takeBack_19 : decode cX0_takeBack 19 = .ok (.getfield 11, 3) := by decide +kernel
theorem dX0_takeBack_22 : decode cX0_takeBack 22 = .ok (.aload_n 0, 1) := by decide +kernel
theorem dX0_takeBack_23 : decode cX0_takeBack 23 = .ok (.getfield 22, 3) := by decide +kernel
theorem dX0_takeBack_26 : decode cX0_takeBack 26 = .ok (.aload_n 0, 1) := by decide +kernel
theorem dX0_takeBack_27 : decode cX0_takeBack 27 = .ok (.getfield 18, 3) := by decide +kernel
theorem dX0_takeBack_30 : decode cX0_takeBack 30 = .ok (.iadd, 1) := by decide +kernel
theorem dX0_takeBack_31 : decode cX0_takeBack 31 = .ok (.bipush 14, 2) := by decide +kernel
theorem dX0_takeBack_33 : decode cX0_takeBack 33 = .ok (.irem, 1) := by decide +kernel
theorem dX0_takeBack_34 : decode cX0_takeBack 34 = .ok (.aaload, 1) := by decide +kernel
theorem dX0_takeBack_35 : decode cX0_takeBack 35 = .ok (.invokevirtual 25, 3) := by decide +kernel
theorem dX0_takeBack_38 : decode cX0_takeBack 38 = .ok (.return_, 1) := by decide +kernel
theorem dX1_init_0 : decode cX1_init 0 = .ok (.aload_n 0, 1) := by decide +kernel
theorem dX1_init_1 : decode cX1_init 1 = .ok (.invokespecial 3, 3) := by decide +kernel
theorem dX1_init_4 : decode cX1_init 4 = .ok (.aload_n 0, 1) := by decide +kernel
theorem dX1_init_5 : decode cX1_init 5 = .ok (.bipush 6, 2) := by decide +kernel
theorem dX1_init_7 : decode cX1_init 7 = .ok (.newarray .int, 2) := by decide +kernel
theorem dX1_init_9 : decode cX1_init 9 = .ok (.putfield 9, 3) := by decide +kernel
theorem dX1_init_12 : decode cX1_init 12 = .ok (.aload_n 0, 1) := by decide +kernel
theorem dX1_init_13 : decode cX1_init 13 = .ok (.bipush 6, 2) := by decide +kernel
theorem dX1_init_15 : decode cX1_init 15 = .ok (.newarray .boolean, 2) := by decide +kernel
theorem dX1_init_17 : decode cX1_init 17 = .ok (.putfield 15, 3) := by decide +kernel
theorem dX1_init_20 : decode cX1_init 20 = .ok (.aload_n 0, 1) := by decide +kernel
theorem dX1_init_21 : decode cX1_init 21 = .ok (.bipush 6, 2) := by decide +kernel
theorem dX1_init_23 : decode cX1_init 23 = .ok (.newarray .int, 2) := by decide +kernel
theorem dX1_init_25 : decode cX1_init 25 = .ok (.putfield 19, 3) := by decide +kernel
theorem dX1_init_28 : decode cX1_init 28 = .ok (.aload_n 0, 1) := by decide +kernel
theorem dX1_init_29 : decode cX1_init 29 = .ok (.bipush 54, 2) := by decide +kernel
theorem dX1_init_31 : decode cX1_init 31 = .ok (.newarray .int, 2) := by decide +kernel
theorem dX1_init_33 : decode cX1_init 33 = .ok (.putfield 22, 3) := by decide +kernel
theorem dX1_init_36 : decode cX1_init 36 = .ok (.aload_n 0, 1) := by decide +kernel
theorem dX1_init_37 : decode cX1_init 37 = .ok (.bipush 54, 2) := by decide +kernel
theorem dX1_init_39 : decode cX1_init 39 = .ok (.newarray .int, 2) := by decide +kernel
theorem dX1_init_41 : decode cX1_init 41 = .ok (.putfield 25, 3) := by decide +kernel
theorem dX1_init_44 : decode cX1_init 44 = .ok (.aload_n 0, 1) := by decide +kernel
theorem dX1_init_45 : decode cX1_init 45 = .ok (.bipush 49, 2) := by decide +kernel
theorem dX1_init_47 : decode cX1_init 47 = .ok (.newarray .int, 2) := by decide +kernel
theorem dX1_init_49 : decode cX1_init 49 = .ok (.putfield 28, 3) := by decide +kernel
theorem dX1_init_52 : decode cX1_init 52 = .ok (.aload_n 0, 1) := by decide +kernel
theorem dX1_init_53 : decode cX1_init 53 = .ok (.bipush 49, 2) := by decide +kernel
theorem dX1_init_55 : decode cX1_init 55 = .ok (.newarray .int, 2) := by decide +kernel
theorem dX1_init_57 : decode cX1_init 57 = .ok (.putfield 31, 3) := by decide +kernel
theorem dX1_init_60 : decode cX1_init 60 = .ok (.aload_n 0, 1) := by decide +kernel
theorem dX1_init_61 : decode cX1_init 61 = .ok (.bipush 49, 2) := by decide +kernel
theorem dX1_init_63 : decode cX1_init 63 = .ok (.newarray .int, 2) := by decide +kernel
theorem dX1_init_65 : decode cX1_init 65 = .ok (.putfield 34, 3) := by decide +kernel
theorem dX1_init_68 : decode cX1_init 68 = .ok (.aload_n 0, 1) := by decide +kernel
theorem dX1_init_69 : decode cX1_init 69 = .ok (.bipush 49, 2) := by decide +kernel
theorem dX1_init_71 : decode cX1_init 71 = .ok (.newarray .long, 2) := by decide +kernel
theorem dX1_init_73 : decode cX1_init 73 = .ok (.putfield 37, 3) := by decide +kernel
theorem dX1_init_76 : decode cX1_init 76 = .ok (.aload_n 0, 1) := by decide +kernel
theorem dX1_init_77 : decode cX1_init 77 = .ok (.iconst 3, 1) := by decide +kernel
theorem dX1_init_78 : decode cX1_init 78 = .ok (.putfield 41, 3) := by decide +kernel
theorem dX1_init_81 : decode cX1_init 81 = .ok (.aload_n 0, 1) := by decide +kernel
theorem dX1_init_82 : decode cX1_init 82 = .ok (.iconst 1, 1) := by decide +kernel
theorem dX1_init_83 : decode cX1_init 83 = .ok (.putfield 45, 3) := by decide +kernel
theorem dX1_init_86 : decode cX1_init 86 = .ok (.iconst 0, 1) := by decide +kernel
theorem dX1_init_87 : decode cX1_init 87 = .ok (.istore_n 1, 1) := by decide +kernel
theorem dX1_init_88 : decode cX1_init 88 = .ok (.iload_n 1, 1) := by decide +kernel
theorem dX1_init_89 : decode cX1_init 89 = .ok (.iconst 3, 1) := by decide +kernel
theorem dX1_init_90 : decode cX1_init 90 = .ok (.if_icmp .ge 16, 3) := by decide +kernel
theorem dX1_init_93 : decode cX1_init 93 = .ok (.aload_n 0, 1) := by decide +kernel
theorem dX1_init_94 : decode cX1_init 94 = .ok (.getfield 9, 3) := by decide +kernel
theorem dX1_init_97 : decode cX1_init 97 = .ok (.iload_n 1, 1) := by decide +kernel
theorem dX1_init_98 : decode cX1_init 98 = .ok (.iconst 4, 1) := by decide +kernel
theorem dX1_init_99 : decode cX1_init 99 = .ok (.iastore, 1) := by decide +kernel
theorem dX1_init_100 : decode cX1_init 100 = .ok (.iinc 1 1, 3) := by decide +kernel
theorem dX1_init_103 : decode cX1_init 103 = .ok (.goto (-15), 3) := by decide +kernel
theorem dX1_init_106 : decode cX1_init 106 = .ok (.return_, 1) := by decide +kernel
theorem dX1_clear_0 : decode cX1_clear 0 = .ok (.aload_n 0, 1) := by decide +kernel
theorem dX1_clear_1 : decode cX1_clear 1 = .ok (.iconst 0, 1) := by decide +kernel
theorem dX1_clear_2 : decode cX1_clear 2 = .ok (.putfield 41, 3) := by decide +kernel
theorem dX1_clear_5 : decode cX1_clear 5 = .ok (.aload_n 0, 1) := by decide +kernel
theorem dX1_clear_6 : decode cX1_clear 6 = .ok (.iconst 1, 1) := by decide +kernel
theorem dX1_clear_7 : decode cX1_clear 7 = .ok (.putfield 45, 3) := by decide +kernel
theorem dX1_clear_10 : decode cX1_clear 10 = .ok (.aload_n 0, 1) := by decide +kernel
theorem dX1_clear_11 : decode cX1_clear 11 = .ok (.iconst 0, 1) := by decide +kernel
theorem dX1_clear_12 : decode cX1_clear 12 = .ok (.putfield 48, 3) := by decide +kernel
theorem dX1_clear_15 : decode cX1_clear 15 = .ok (.aload_n 0, 1) := by decide +kernel
theorem dX1_clear_16 : decode cX1_clear 16 = .ok (.iconst 0, 1) := by decide +kernel
theorem dX1_clear_17 : decode cX1_clear 17 = .ok (.putfield 51, 3) := by decide +kernel
theorem dX1_clear_20 : decode cX1_clear 20 = .ok (.iconst 0, 1) := by decide +kernel
theorem dX1_clear_21 : decode cX1_clear 21 = .ok (.istore_n 1, 1) := by decide +kernel
theorem dX1_clear_22 : decode cX1_clear 22 = .ok (.iload_n 1, 1) := by decide +kernel
theorem dX1_clear_23 : decode cX1_clear 23 = .ok (.bipush 6, 2) := by decide +kernel
theorem dX1_clear_25 : decode cX1_clear 25 = .ok (.if_icmp .ge 30, 3) := by decide +kernel
theorem dX1_clear_28 : decode cX1_clear 28 = .ok (.aload_n 0, 1) := by decide +kernel
theorem dX1_clear_29 : decode cX1_clear 29 = .ok (.getfield 9, 3) := by decide +kernel
theorem dX1_clear_32 : decode cX1_clear 32 = .ok (.iload_n 1, 1) := by decide +kernel
theorem dX1_clear_33 : decode cX1_clear 33 = .ok (.iconst 0, 1) := by decide +kernel
theorem dX1_clear_34 : decode cX1_clear 34 = .ok (.iastore, 1) := by decide +kernel
theorem dX1_clear_35 : decode cX1_clear 35 = .ok (.aload_n 0, 1) := by decide +kernel
theorem dX1_clear_36 : decode cX1_clear 36 = .ok (.getfield 15, 3) := by decide +kernel
theorem dX1_clear_39 : decode cX1_clear 39 = .ok (.iload_n 1, 1) := by decide +kernel
theorem dX1_clear_40 : decode cX1_clear 40 = .ok (.iconst 0, 1) := by decide +kernel
theorem dX1_clear_41 : decode cX1_clear 41 = .ok (.bastore, 1) := by decide +kernel
theorem dX1_clear_42 : decode cX1_clear 42 = .ok (.aload_n 0, 1) := by decide +kernel
theorem dX1_clear_43 : decode cX1_clear 43 = .ok (.getfield 19, 3) := by decide +kernel
theorem dX1_clear_46 : decode cX1_clear 46 = .ok (.iload_n 1, 1) := by decide +kernel
theorem dX1_clear_47 : decode cX1_clear 47 = .ok (.iconst 0, 1) := by decide +kernel
theorem dX1_clear_48 : decode cX1_clear 48 = .ok (.iastore, 1) := by decide +kernel
theorem dX1_clear_49 : decode cX1_clear 49 = .ok (.iinc 1 1, 3) := by decide +kernel
theorem dX1_clear_52 : decode cX1_clear 52 = .ok (.goto (-30), 3) := by decide +kernel
theorem dX1_clear_55 : decode cX1_clear 55 = .ok (.iconst 0, 1) := by decide +kernel
theorem dX1_clear_56 : decode cX1_clear 56 = .ok (.istore_n 1, 1) := by decide +kernel
theorem dX1_clear_57 : decode cX1_clear 57 = .ok (.iload_n 1, 1) := by decide +kernel
theorem dX1_clear_58 : decode cX1_clear 58 = .ok (.bipush 54, 2) := by decide +kernel
theorem dX1_clear_60 : decode cX1_clear 60 = .ok (.if_icmp .ge 23, 3) := by decide +kernel
theorem dX1_clear_63 : decode cX1_clear 63 = .ok (.aload_n 0, 1) := by decide +kernel
theorem dX1_clear_64 : decode cX1_clear 64 = .ok (.getfield 22, 3) := by decide +kernel
theorem dX1_clear_67 : decode cX1_clear 67 = .ok (.iload_n 1, 1) := by decide +kernel
theorem dX1_clear_68 : decode cX1_clear 68 = .ok (.iconst 0, 1) := by decide +kernel
theorem dX1_clear_69 : decode cX1_clear 69 = .ok (.iastore, 1) := by decide +kernel
theorem dX1_clear_70 : decode cX1_clear 70 = .ok (.aload_n 0, 1) := by decide +kernel
theorem dX1_clear_71 : decode cX1_clear 71 = .ok (.getfield 25, 3) := by decide +kernel
theorem dX1_clear_74 : decode cX1_clear 74 = .ok (.iload_n 1, 1) := by decide +kernel
theorem dX1_clear_75 : decode cX1_clear 75 = .ok (.iconst 0, 1) := by decide +kernel
theorem dX1_clear_76 : decode cX1_clear 76 = .ok (.iastore, 1) := by decide +kernel
theorem dX1_clear_77 : decode cX1_clear 77 = .ok (.iinc 1 1, 3) := by decide +kernel
theorem dX1_clear_80 : decode cX1_clear 80 = .ok (.goto (-23), 3) := by decide +kernel
theorem dX1_clear_83 : decode cX1_clear 83 = .ok (.return_, 1) := by decide +kernel
theorem dX1_copyFrom_0 : decode cX1_copyFrom 0 = .ok (.aload_n 0, 1) := by decide +kernel
theorem dX1_copyFrom_1 : decode cX1_copyFrom 1 = .ok (.aload_n 1, 1) := by decide +kernel
theorem dX1_copyFrom_2 : decode cX1_copyFrom 2 = .ok (.getfield 41, 3) := by decide +kernel
theorem dX1_copyFrom_5 : decode cX1_copyFrom 5 = .ok (.putfield 41, 3) := by decide +kernel
theorem dX1_copyFrom_8 : decode cX1_copyFrom 8 = .ok (.aload_n 0, 1) := by decide +kernel
theorem dX1_copyFrom_9 : decode cX1_copyFrom 9 = .ok (.aload_n 1, 1) := by decide +kernel
theorem dX1_copyFrom_10 : decode cX1_copyFrom 10 = .ok (.getfield 45, 3) := by decide +kernel
theorem dX1_copyFrom_13 : decode cX1_copyFrom 13 = .ok (.putfield 45, 3) := by decide +kernel
theorem dX1_copyFrom_16 : decode cX1_copyFrom 16 = .ok (.aload_n 0, 1) := by decide +kernel
theorem dX1_copyFrom_17 : decode cX1_copyFrom 17 = .ok (.aload_n 1, 1) := by decide +kernel
theorem dX1_copyFrom_18 : decode cX1_copyFrom 18 = .ok (.getfield 48, 3) := by decide +kernel
theorem dX1_copyFrom_21 : decode cX1_copyFrom 21 = .ok (.putfield 48, 3) := by decide +kernel
theorem dX1_copyFrom_24 : decode cX1_copyFrom 24 = .ok (.aload_n 0, 1) := by decide +kernel
theorem dX1_copyFrom_25 : decode cX1_copyFrom 25 = .ok (.aload_n 1, 1) := by decide +kernel
theorem dX1_copyFrom_26 : decode cX1_copyFrom 26 = .ok (.getfield 51, 3) := by decide +kernel
theorem dX1_copyFrom_29 : decode cX1_copyFrom 29 = .ok (.putfield 51, 3) := by decide +kernel
theorem dX1_copyFrom_32 : decode cX1_copyFrom 32 = .ok (.aload_n 1, 1) := by decide +kernel
theorem dX1_copyFrom_33 : decode cX1_copyFrom 33 = .ok (.getfield 9, 3) := by decide +kernel
theorem dX1_copyFrom_36 : decode cX1_copyFrom 36 = .ok (.iconst 0, 1) := by decide +kernel
theorem dX1_copyFrom_37 : decode cX1_copyFrom 37 = .ok (.aload_n 0, 1) := by decide +kernel
theorem dX1_copyFrom_38 : decode cX1_copyFrom 38 = .ok (.getfield 9, 3) := by decide +kernel
theorem dX1_copyFrom_41 : decode cX1_copyFrom 41 = .ok (.iconst 0, 1) := by decide +kernel
theorem dX1_copyFrom_42 : decode cX1_copyFrom 42 = .ok (.bipush 6, 2) := by decide +kernel
theorem dX1_copyFrom_44 : decode cX1_copyFrom 44 = .ok (.invokestatic 54, 3) := by decide +kernel
theorem dX1_copyFrom_47 : decode cX1_copyFrom 47 = .ok (.aload_n 1, 1) := by decide +kernel
theorem dX1_copyFrom_48 : decode cX1_copyFrom 48 = .ok (.getfield 15, 3) := by decide +kernel
theorem dX1_copyFrom_51 : decode cX1_copyFrom 51 = .ok (.iconst 0, 1) := by decide +kernel
theorem dX1_copyFrom_52 : decode cX1_copyFrom 52 = .ok (.aload_n 0, 1) := by decide +kernel
theorem dX1_copyFrom_53 : decode cX1_copyFrom 53 = .ok (.getfield 15, 3) := by decide +kernel
theorem dX1_copyFrom_56 : decode cX1_copyFrom 56 = .ok (.iconst 0, 1) := by decide +kernel
theorem dX1_copyFrom_57 : decode cX1_copyFrom 57 = .ok (.bipush 6, 2) := by decide +kernel
theorem dX1_copyFrom_59 : decode cX1_copyFrom 59 = .ok (.invokestatic 54, 3) := by decide +kernel
theorem dX1_copyFrom_62 : decode cX1_copyFrom 62 = .ok (.aload_n 1, 1) := by decide +kernel
theorem dX1_copyFrom_63 : decode cX1_copyFrom 63 = .ok (.getfield 19, 3) := by decide +kernel
theorem dX1_copyFrom_66 : decode cX1_copyFrom 66 = .ok (.iconst 0, 1) := by decide +kernel
theorem dX1_copyFrom_67 : decode cX1_copyFrom 67 = .ok (.aload_n 0, 1) := by decide +kernel
theorem dX1_copyFrom_68 : decode cX1_copyFrom 68 = .ok (.getfield 19, 3) := by decide +kernel
theorem dX1_copyFrom_71 : decode cX1_copyFrom 71 = .ok (.iconst 0, 1) := by decide +kernel
theorem dX1_copyFrom_72 : decode cX1_copyFrom 72 = .ok (.bipush 6, 2) := by decide +kernel
theorem dX1_copyFrom_74 : decode cX1_copyFrom 74 = .ok (.invokestatic 54, 3) := by decide +kernel
theorem dX1_copyFrom_77 : decode cX1_copyFrom 77 = .ok (.aload_n 1, 1) := by decide +kernel
theorem dX1_copyFrom_78 : decode cX1_copyFrom 78 = .ok (.getfield 22, 3) := by decide +kernel
theorem dX1_copyFrom_81 : decode cX1_copyFrom 81 = .ok (.iconst 0, 1) := by decide +kernel
theorem dX1_copyFrom_82 : decode cX1_copyFrom 82 = .ok (.aload_n 0, 1) := by decide +kernel
theorem dX1_copyFrom_83 : decode cX1_copyFrom 83 = .ok (.getfield 22, 3) := by decide +kernel
theorem dX1_copyFrom_86 : decode cX1_copyFrom 86 = .ok (.iconst 0, 1) := by decide +kernel
theorem dX1_copyFrom_87 : decode cX1_copyFrom 87 = .ok (.bipush 54, 2) := by decide +kernel
theorem dX1_copyFrom_89 : decode cX1_copyFrom 89 = .ok (.invokestatic 54, 3) := by decide +kernel
theorem dX1_copyFrom_92 : decode cX1_copyFrom 92 = .ok (.aload_n 1, 1) := by decide +kernel
theorem dX1_copyFrom_93 : decode cX1_copyFrom 93 = .ok (.getfield 25, 3) := by decide +kernel
theorem dX1_copyFrom_96 : decode cX1_copyFrom 96 = .ok (.iconst 0, 1) := by decide +kernel
theorem dX1_copyFrom_97 : decode cX1_copyFrom 97 = .ok (.aload_n 0, 1) := by decide +kernel
theorem dX1_copyFrom_98 : decode cX1_copyFrom 98 = .ok (.getfield 25, 3) := by decide +kernel
theorem dX1_copyFrom_101 : decode cX1_copyFrom 101 = .ok (.iconst 0, 1) := by decide +kernel
theorem dX1_copyFrom_102 : decode cX1_copyFrom 102 = .ok (.bipush 54, 2) := by decide +kernel
theorem dX1_copyFrom_104 : decode cX1_copyFrom 104 = .ok (.invokestatic 54, 3) := by decide +kernel
theorem dX1_copyFrom_107 : decode cX1_copyFrom 107 = .ok (.aload_n 1, 1) := by decide +kernel
theorem dX1_copyFrom_108 : decode cX1_copyFrom 108 = .ok (.getfield 28, 3) := by decide +kernel
theorem dX1_copyFrom_111 : decode cX1_copyFrom 111 = .ok (.iconst 0, 1) := by decide +kernel
theorem dX1_copyFrom_112 : decode cX1_copyFrom 112 = .ok (.aload_n 0, 1) := by decide +kernel
theorem dX1_copyFrom_113 : decode cX1_copyFrom 113 = .ok (.getfield 28, 3) := by decide +kernel
theorem dX1_copyFrom_116 : decode cX1_copyFrom 116 = .ok (.iconst 0, 1) := by decide +kernel
theorem dX1_copyFrom_117 : decode cX1_copyFrom 117 = .ok (.aload_n 0, 1) := by decide +kernel
theorem dX1_copyFrom_118 : decode cX1_copyFrom 118 = .ok (.getfield 51, 3) := by decide +kernel
theorem dX1_copyFrom_121 : decode cX1_copyFrom 121 = .ok (.invokestatic 54, 3) := by decide +kernel
theorem dX1_copyFrom_124 : decode cX1_copyFrom 124 = .ok (.aload_n 1, 1) := by decide +kernel
theorem dX1_copyFrom_125 : decode cX1_copyFrom 125 = .ok (.getfield 31, 3) := by decide +kernel
theorem dX1_copyFrom_128 : decode cX1_copyFrom 128 = .ok (.iconst 0, 1) := by decide +kernel
theorem dX1_copyFrom_129 : decode cX1_copyFrom 129 = .ok (.aload_n 0, 1) := by decide +kernel
theorem dX1_copyFrom_130 : decode cX1_copyFrom 130 = .ok (.getfield 31, 3) := by decide +kernel
theorem dX1_copyFrom_133 : decode cX1_copyFrom 133 = .ok (.iconst 0, 1) := by decide +kernel
theorem dX1_copyFrom_134 : decode cX1_copyFrom 134 = .ok (.aload_n 0, 1) := by decide +kernel
theorem dX1_copyFrom_135 : decode cX1_copyFrom 135 = .ok (.getfield 51, 3) := by decide +kernel
theorem dX1_copyFrom_138 : decode cX1_copyFrom 138 = .ok (.invokestatic 54, 3) := by decide +kernel
theorem dX1_copyFrom_141 : decode cX1_copyFrom 141 = .ok (.aload_n 1, 1) := by decide +kernel
theorem dX1_copyFrom_142 : decode cX1_copyFrom 142 = .ok (.getfield 34, 3) := by decide +kernel
theorem dX1_copyFrom_145 : decode cX1_copyFrom 145 = .ok (.iconst 0, 1) := by decide +kernel
theorem dX1_copyFrom_146 : decode cX1_copyFrom 146 = .ok (.aload_n 0, 1) := by decide +kernel
theorem dX1_copyFrom_147 : decode cX1_copyFrom 147 = .ok (.getfield 34, 3) := by decide +kernel
theorem dX1_copyFrom_150 : decode cX1_copyFrom 150 = .ok (.iconst 0, 1) := by decide +kernel
theorem dX1_copyFrom_151 : decode cX1_copyFrom 151 = .ok (.aload_n 0, 1) := by decide +kernel
theorem dX1_copyFrom_152 : decode cX1_copyFrom 152 = .ok (.getfield 51, 3) := by decide +kernel
theorem dX1_copyFrom_155 : decode cX1_copyFrom 155 = .ok (.invokestatic 54, 3) := by decide +kernel
theorem dX1_copyFrom_158 : decode cX1_copyFrom 158 = .ok (.aload_n 1, 1) := by decide +kernel
theorem dX1_copyFrom_159 : decode cX1_copyFrom 159 = .ok (.getfield 37, 3) := by decide +kernel
theorem dX1_copyFrom_162 : decode cX1_copyFrom 162 = .ok (.iconst 0, 1) := by decide +kernel
theorem dX1_copyFrom_163 : decode cX1_copyFrom 163 = .ok (.aload_n 0, 1) := by decide +kernel
theorem dX1_copyFrom_164 : decode cX1_copyFrom 164 = .ok (.getfield 37, 3) := by decide +kernel
theorem dX1_copyFrom_167 : decode cX1_copyFrom 167 = .ok (.iconst 0, 1) := by decide +kernel
theorem dX1_copyFrom_168 : decode cX1_copyFrom 168 = .ok (.aload_n 0, 1) := by decide +kernel
theorem dX1_copyFrom_169 : decode cX1_copyFrom 169 = .ok (.getfield 51, 3) := by decide +kernel
theorem dX1_copyFrom_172 : decode cX1_copyFrom 172 = .ok (.invokestatic 54, 3) := by decide +kernel
theorem dX1_copyFrom_175 : decode cX1_copyFrom 175 = .ok (.return_, 1) := by decide +kernel
theorem dX1_hasCounter_0 : decode cX1_hasCounter 0 = .ok (.iload_n 1, 1) := by decide +kernel
theorem dX1_hasCounter_1 : decode cX1_hasCounter 1 = .ok (.ifCond .lt 15, 3) := by decide +kernel
theorem dX1_hasCounter_4 : decode cX1_hasCounter 4 = .ok (.iload_n 1, 1) := by decide +kernel
theorem dX1_hasCounter_5 : decode cX1_hasCounter 5 = .ok (.aload_n 0, 1) := by decide +kernel
theorem dX1_hasCounter_6 : decode cX1_hasCounter 6 = .ok (.getfield 41, 3) := by decide +kernel
theorem dX1_hasCounter_9 : decode cX1_hasCounter 9 = .ok (.if_icmp .ge 7, 3) := by decide +kernel
theorem dX1_hasCounter_12 : decode cX1_hasCounter 12 = .ok (.iconst 1, 1) := by decide +kernel
theorem dX1_hasCounter_13 : decode cX1_hasCounter 13 = .ok (.goto 4, 3) := by decide +kernel
theorem dX1_hasCounter_16 : decode cX1_hasCounter 16 = .ok (.iconst 0, 1) := by decide +kernel
theorem dX1_hasCounter_17 : decode cX1_hasCounter 17 = .ok (.ireturn, 1) := by decide +kernel
theorem dX1_canLink_0 : decode cX1_canLink 0 = .ok (.iload_n 1, 1) := by decide +kernel
theorem dX1_canLink_1 : decode cX1_canLink 1 = .ok (.ifCond .lt 17, 3) := by decide +kernel
theorem dX1_canLink_4 : decode cX1_canLink 4 = .ok (.iload_n 1, 1) := by decide +kernel
theorem dX1_canLink_5 : decode cX1_canLink 5 = .ok (.aload_n 0, 1) := by decide +kernel
theorem dX1_canLink_6 : decode cX1_canLink 6 = .ok (.getfield 41, 3) := by decide +kernel
theorem dX1_canLink_9 : decode cX1_canLink 9 = .ok (.iconst 1, 1) := by decide +kernel
theorem dX1_canLink_10 : decode cX1_canLink 10 = .ok (.isub, 1) := by decide +kernel
theorem dX1_canLink_11 : decode cX1_canLink 11 = .ok (.if_icmp .ge 7, 3) := by decide +kernel
theorem dX1_canLink_14 : decode cX1_canLink 14 = .ok (.iconst 1, 1) := by decide +kernel
theorem dX1_canLink_15 : decode cX1_canLink 15 = .ok (.goto 4, 3) := by decide +kernel
theorem dX1_canLink_18 : decode cX1_canLink 18 = .ok (.iconst 0, 1) := by decide +kernel
theorem dX1_canLink_19 : decode cX1_canLink 19 = .ok (.ireturn, 1) := by decide +kernel
theorem dX1_hasPlacesFor_0 : decode cX1_hasPlacesFor 0 = .ok (.iload_n 2, 1) := by decide +kernel
theorem dX1_hasPlacesFor_1 : decode cX1_hasPlacesFor 1 = .ok (.invokestatic 60, 3) := by decide +kernel
theorem dX1_hasPlacesFor_4 : decode cX1_hasPlacesFor 4 = .ok (.istore_n 3, 1) := by decide +kernel
theorem dX1_hasPlacesFor_5 : decode cX1_hasPlacesFor 5 = .ok (.iconst 0, 1) := by decide +kernel
theorem dX1_hasPlacesFor_6 : decode cX1_hasPlacesFor 6 = .ok (.istore 4, 2) := by decide +kernel
theorem dX1_hasPlacesFor_8 : decode cX1_hasPlacesFor 8 = .ok (.iload 4, 2) := by decide +kernel
theorem dX1_hasPlacesFor_10 : decode cX1_hasPlacesFor 10 = .ok (.aload_n 0, 1) := by decide +kernel
theorem dX1_hasPlacesFor_11 : decode cX1_hasPlacesFor 11 = .ok (.getfield 9, 3) := by decide +kernel
theorem dX1_hasPlacesFor_14 : decode cX1_hasPlacesFor 14 = .ok (.iload_n 1, 1) := by decide +kernel
theorem dX1_hasPlacesFor_15 : decode cX1_hasPlacesFor 15 = .ok (.iaload, 1) := by decide +kernel
theorem dX1_hasPlacesFor_16 : decode cX1_hasPlacesFor 16 = .ok (.if_icmp .ge 13, 3) := by decide +kernel
theorem dX1_hasPlacesFor_19 : decode cX1_hasPlacesFor 19 = .ok (.iload_n 3, 1) := by decide +kernel
theorem dX1_hasPlacesFor_20 : decode cX1_hasPlacesFor 20 = .ok (.iconst 3, 1) := by decide +kernel
theorem dX1_hasPlacesFor_21 : decode cX1_hasPlacesFor 21 = .ok (.idiv, 1) := by decide +kernel
theorem dX1_hasPlacesFor_22 : decode cX1_hasPlacesFor 22 = .ok (.istore_n 3, 1) := by decide +kernel
theorem dX1_hasPlacesFor_23 : decode cX1_hasPlacesFor 23 = .ok (.iinc 4 1, 3) := by decide +kernel
theorem dX1_hasPlacesFor_26 : decode cX1_hasPlacesFor 26 = .ok (.goto (-18), 3) := by decide +kernel
theorem dX1_hasPlacesFor_29 : decode cX1_hasPlacesFor 29 = .ok (.iload_n 3, 1) := by decide +kernel
theorem dX1_hasPlacesFor_30 : decode cX1_hasPlacesFor 30 = .ok (.ifCond .ne 7, 3) := by decide +kernel
theorem dX1_hasPlacesFor_33 : decode cX1_hasPlacesFor 33 = .ok (.iconst 1, 1) := by decide +kernel
theorem dX1_hasPlacesFor_34 : decode cX1_hasPlacesFor 34 = .ok (.goto 4, 3) := by decide +kernel
theorem dX1_hasPlacesFor_37 : decode cX1_hasPlacesFor 37 = .ok (.iconst 0, 1) := by decide +kernel
theorem dX1_hasPlacesFor_38 : decode cX1_hasPlacesFor 38 = .ok (.ireturn, 1) := by decide +kernel
set_option maxRecDepth 20000 in
theorem ggX1_reading_X3_cellOf : GoodIn wsX1_reading wsX3_cellOf := goodIn_r _ [5] (by decide +kernel) (by decide +kernel)
set_option maxRecDepth 20000 in
theorem gX1_reading_X3_cellOf_n66 : GoodIn wsX1_reading (wsX3_cellOf) := ggX1_reading_X3_cellOf
theorem dX1_reading_0 : decode cX1_reading 0 = .ok (.iconst 0, 1) := by decide +kernel
theorem dX1_reading_1 : decode cX1_reading 1 = .ok (.istore_n 2, 1) := by decide +kernel
theorem dX1_reading_2 : decode cX1_reading 2 = .ok (.aload_n 0, 1) := by decide +kernel
theorem dX1_reading_3 : decode cX1_reading 3 = .ok (.getfield 9, 3) := by decide +kernel
theorem dX1_reading_6 : decode cX1_reading 6 = .ok (.iload_n 1, 1) := by decide +kernel
theorem dX1_reading_7 : decode cX1_reading 7 = .ok (.iaload, 1) := by decide +kernel
theorem dX1_reading_8 : decode cX1_reading 8 = .ok (.iconst 1, 1) := by decide +kernel
theorem dX1_reading_9 : decode cX1_reading 9 = .ok (.isub, 1) := by decide +kernel
theorem dX1_reading_10 : decode cX1_reading 10 = .ok (.istore_n 3, 1) := by decide +kernel
theorem dX1_reading_11 : decode cX1_reading 11 = .ok (.iload_n 3, 1) := by decide +kernel
theorem dX1_reading_12 : decode cX1_reading 12 = .ok (.ifCond .lt 24, 3) := by decide +kernel
theorem dX1_reading_15 : decode cX1_reading 15 = .ok (.iload_n 2, 1) := by decide +kernel
theorem dX1_reading_16 : decode cX1_reading 16 = .ok (.iconst 3, 1) := by decide +kernel
theorem dX1_reading_17 : decode cX1_reading 17 = .ok (.imul, 1) := by decide +kernel
theorem dX1_reading_18 : decode cX1_reading 18 = .ok (.aload_n 0, 1) := by decide +kernel
theorem dX1_reading_19 : decode cX1_reading 19 = .ok (.getfield 22, 3) := by decide +kernel
theorem dX1_reading_22 : decode cX1_reading 22 = .ok (.iload_n 1, 1) := by decide +kernel
theorem dX1_reading_23 : decode cX1_reading 23 = .ok (.iload_n 3, 1) := by decide +kernel
theorem dX1_reading_24 : decode cX1_reading 24 = .ok (.invokestatic 66, 3) := by decide +kernel
theorem dX1_reading_27 : decode cX1_reading 27 = .ok (.iaload, 1) := by decide +kernel
theorem dX1_reading_28 : decode cX1_reading 28 = .ok (.iadd, 1) := by decide +kernel
theorem dX1_reading_29 : decode cX1_reading 29 = .ok (.istore_n 2, 1) := by decide +kernel
theorem dX1_reading_30 : decode cX1_reading 30 = .ok (.iinc 3 (-1), 3) := by decide +kernel
theorem dX1_reading_33 : decode cX1_reading 33 = .ok (.goto (-22), 3) := by decide +kernel
theorem dX1_reading_36 : decode cX1_reading 36 = .ok (.iload_n 2, 1) := by decide +kernel
theorem dX1_reading_37 : decode cX1_reading 37 = .ok (.ireturn, 1) := by decide +kernel
set_option maxRecDepth 20000 in
theorem ggX1_fullReading_X3_cellOf : GoodIn wsX1_fullReading wsX3_cellOf := goodIn_r _ [7] (by decide +kernel) (by decide +kernel)
set_option maxRecDepth 20000 in
theorem gX1_fullReading_X3_cellOf_n66 : GoodIn wsX1_fullReading (wsX3_cellOf) := ggX1_fullReading_X3_cellOf
theorem dX1_fullReading_0 : decode cX1_fullReading 0 = .ok (.lconst 0, 1) := by decide +kernel
theorem dX1_fullReading_1 : decode cX1_fullReading 1 = .ok (.lstore_n 2, 1) := by decide +kernel
theorem dX1_fullReading_2 : decode cX1_fullReading 2 = .ok (.aload_n 0, 1) := by decide +kernel
theorem dX1_fullReading_3 : decode cX1_fullReading 3 = .ok (.getfield 9, 3) := by decide +kernel
theorem dX1_fullReading_6 : decode cX1_fullReading 6 = .ok (.iload_n 1, 1) := by decide +kernel
theorem dX1_fullReading_7 : decode cX1_fullReading 7 = .ok (.iaload, 1) := by decide +kernel
theorem dX1_fullReading_8 : decode cX1_fullReading 8 = .ok (.iconst 1, 1) := by decide +kernel
theorem dX1_fullReading_9 : decode cX1_fullReading 9 = .ok (.isub, 1) := by decide +kernel
theorem dX1_fullReading_10 : decode cX1_fullReading 10 = .ok (.istore 4, 2) := by decide +kernel
theorem dX1_fullReading_12 : decode cX1_fullReading 12 = .ok (.iload 4, 2) := by decide +kernel
theorem dX1_fullReading_14 : decode cX1_fullReading 14 = .ok (.ifCond .lt 41, 3) := by decide +kernel
theorem dX1_fullReading_17 : decode cX1_fullReading 17 = .ok (.iload_n 1, 1) := by decide +kernel
theorem dX1_fullReading_18 : decode cX1_fullReading 18 = .ok (.iload 4, 2) := by decide +kernel
theorem dX1_fullReading_20 : decode cX1_fullReading 20 = .ok (.invokestatic 66, 3) := by decide +kernel
theorem dX1_fullReading_23 : decode cX1_fullReading 23 = .ok (.istore 5, 2) := by decide +kernel
theorem dX1_fullReading_25 : decode cX1_fullReading 25 = .ok (.lload_n 2, 1) := by decide +kernel
theorem dX1_fullReading_26 : decode cX1_fullReading 26 = .ok (.ldc2_w 70, 3) := by decide +kernel
theorem dX1_fullReading_29 : decode cX1_fullReading 29 = .ok (.lmul, 1) := by decide +kernel
theorem dX1_fullReading_30 : decode cX1_fullReading 30 = .ok (.aload_n 0, 1) := by decide +kernel
theorem dX1_fullReading_31 : decode cX1_fullReading 31 = .ok (.getfield 22, 3) := by decide +kernel
theorem dX1_fullReading_34 : decode cX1_fullReading 34 = .ok (.iload 5, 2) := by decide +kernel
theorem dX1_fullReading_36 : decode cX1_fullReading 36 = .ok (.iaload, 1) := by decide +kernel
theorem dX1_fullReading_37 : decode cX1_fullReading 37 = .ok (.i2l, 1) := by decide +kernel
theorem dX1_fullReading_38 : decode cX1_fullReading 38 = .ok (.ladd, 1) := by decide +kernel
theorem dX1_fullReading_39 : decode cX1_fullReading 39 = .ok (.aload_n 0, 1) := by decide +kernel
theorem dX1_fullReading_40 : decode cX1_fullReading 40 = .ok (.getfield 25, 3) := by decide +kernel
theorem dX1_fullReading_43 : decode cX1_fullReading 43 = .ok (.iload 5, 2) := by decide +kernel
theorem dX1_fullReading_45 : decode cX1_fullReading 45 = .ok (.iaload, 1) := by decide +kernel
theorem dX1_fullReading_46 : decode cX1_fullReading 46 = .ok (.i2l, 1) := by decide +kernel
theorem dX1_fullReading_47 : decode cX1_fullReading 47 = .ok (.ladd, 1) := by decide +kernel
theorem dX1_fullReading_48 : decode cX1_fullReading 48 = .ok (.lstore_n 2, 1) := by decide +kernel
theorem dX1_fullReading_49 : decode cX1_fullReading 49 = .ok (.iinc 4 (-1), 3) := by decide +kernel
theorem dX1_fullReading_52 : decode cX1_fullReading 52 = .ok (.goto (-40), 3) := by decide +kernel
theorem dX1_fullReading_55 : decode cX1_fullReading 55 = .ok (.lload_n 2, 1) := by decide +kernel
theorem dX1_fullReading_56 : decode cX1_fullReading 56 = .ok (.lreturn, 1) := by decide +kernel
set_option maxRecDepth 20000 in
theorem ggX1_digitSum_X3_cellOf : GoodIn wsX1_digitSum wsX3_cellOf := goodIn_r _ [5] (by decide +kernel) (by decide +kernel)
set_option maxRecDepth 20000 in
theorem gX1_digitSum_X3_cellOf_n66 : GoodIn wsX1_digitSum (wsX3_cellOf) := ggX1_digitSum_X3_cellOf
theorem dX1_digitSum_0 : decode cX1_digitSum 0 = .ok (.iconst 0, 1) := by decide +kernel
theorem dX1_digitSum_1 : decode cX1_digitSum 1 = .ok (.istore_n 2, 1) := by decide +kernel
theorem dX1_digitSum_2 : decode cX1_digitSum 2 = .ok (.iconst 0, 1) := by decide +kernel
theorem dX1_digitSum_3 : decode cX1_digitSum 3 = .ok (.istore_n 3, 1) := by decide +kernel
theorem dX1_digitSum_4 : decode cX1_digitSum 4 = .ok (.iload_n 3, 1) := by decide +kernel
theorem dX1_digitSum_5 : decode cX1_digitSum 5 = .ok (.aload_n 0, 1) := by decide +kernel
theorem dX1_digitSum_6 : decode cX1_digitSum 6 = .ok (.getfield 9, 3) := by decide +kernel
theorem dX1_digitSum_9 : decode cX1_digitSum 9 = .ok (.iload_n 1, 1) := by decide +kernel
theorem dX1_digitSum_10 : decode cX1_digitSum 10 = .ok (.iaload, 1) := by decide +kernel
theorem dX1_digitSum_11 : decode cX1_digitSum 11 = .ok (.if_icmp .ge 22, 3) := by decide +kernel
theorem dX1_digitSum_14 : decode cX1_digitSum 14 = .ok (.iload_n 2, 1) := by decide +kernel
theorem dX1_digitSum_15 : decode cX1_digitSum 15 = .ok (.aload_n 0, 1) := by decide +kernel
theorem dX1_digitSum_16 : decode cX1_digitSum 16 = .ok (.getfield 22, 3) := by decide +kernel
theorem dX1_digitSum_19 : decode cX1_digitSum 19 = .ok (.iload_n 1, 1) := by decide +kernel
theorem dX1_digitSum_20 : decode cX1_digitSum 20 = .ok (.iload_n 3, 1) := by decide +kernel
theorem dX1_digitSum_21 : decode cX1_digitSum 21 = .ok (.invokestatic 66, 3) := by decide +kernel
theorem dX1_digitSum_24 : decode cX1_digitSum 24 = .ok (.iaload, 1) := by decide +kernel
theorem dX1_digitSum_25 : decode cX1_digitSum 25 = .ok (.iadd, 1) := by decide +kernel
theorem dX1_digitSum_26 : decode cX1_digitSum 26 = .ok (.istore_n 2, 1) := by decide +kernel
theorem dX1_digitSum_27 : decode cX1_digitSum 27 = .ok (.iinc 3 1, 3) := by decide +kernel
theorem dX1_digitSum_30 : decode cX1_digitSum 30 = .ok (.goto (-26), 3) := by decide +kernel
theorem dX1_digitSum_33 : decode cX1_digitSum 33 = .ok (.iload_n 2, 1) := by decide +kernel
theorem dX1_digitSum_34 : decode cX1_digitSum 34 = .ok (.ireturn, 1) := by decide +kernel
set_option maxRecDepth 20000 in
theorem ggX1_waitingAt_X3_cellOf : GoodIn wsX1_waitingAt wsX3_cellOf := goodIn_r _ [5] (by decide +kernel) (by decide +kernel)
set_option maxRecDepth 20000 in
theorem gX1_waitingAt_X3_cellOf_n66 : GoodIn wsX1_waitingAt (wsX3_cellOf) := ggX1_waitingAt_X3_cellOf
theorem dX1_waitingAt_0 : decode cX1_waitingAt 0 = .ok (.iconst 0, 1) := by decide +kernel
theorem dX1_waitingAt_1 : decode cX1_waitingAt 1 = .ok (.istore_n 2, 1) := by decide +kernel
theorem dX1_waitingAt_2 : decode cX1_waitingAt 2 = .ok (.iconst 0, 1) := by decide +kernel
theorem dX1_waitingAt_3 : decode cX1_waitingAt 3 = .ok (.istore_n 3, 1) := by decide +kernel
theorem dX1_waitingAt_4 : decode cX1_waitingAt 4 = .ok (.iload_n 3, 1) := by decide +kernel
theorem dX1_waitingAt_5 : decode cX1_waitingAt 5 = .ok (.aload_n 0, 1) := by decide +kernel
theorem dX1_waitingAt_6 : decode cX1_waitingAt 6 = .ok (.getfield 9, 3) := by decide +kernel
theorem dX1_waitingAt_9 : decode cX1_waitingAt 9 = .ok (.iload_n 1, 1) := by decide +kernel
theorem dX1_waitingAt_10 : decode cX1_waitingAt 10 = .ok (.iaload, 1) := by decide +kernel
theorem dX1_waitingAt_11 : decode cX1_waitingAt 11 = .ok (.if_icmp .ge 25, 3) := by decide +kernel
theorem dX1_waitingAt_14 : decode cX1_waitingAt 14 = .ok (.aload_n 0, 1) := by decide +kernel
theorem dX1_waitingAt_15 : decode cX1_waitingAt 15 = .ok (.getfield 25, 3) := by decide +kernel
theorem dX1_waitingAt_18 : decode cX1_waitingAt 18 = .ok (.iload_n 1, 1) := by decide +kernel
theorem dX1_waitingAt_19 : decode cX1_waitingAt 19 = .ok (.iload_n 3, 1) := by decide +kernel
theorem dX1_waitingAt_20 : decode cX1_waitingAt 20 = .ok (.invokestatic 66, 3) := by decide +kernel
theorem dX1_waitingAt_23 : decode cX1_waitingAt 23 = .ok (.iaload, 1) := by decide +kernel
theorem dX1_waitingAt_24 : decode cX1_waitingAt 24 = .ok (.ifCond .eq 6, 3) := by decide +kernel
theorem dX1_waitingAt_27 : decode cX1_waitingAt 27 = .ok (.iinc 2 1, 3) := by decide +kernel
theorem dX1_waitingAt_30 : decode cX1_waitingAt 30 = .ok (.iinc 3 1, 3) := by decide +kernel
theorem dX1_waitingAt_33 : decode cX1_waitingAt 33 = .ok (.goto (-29), 3) := by decide +kernel
theorem dX1_waitingAt_36 : decode cX1_waitingAt 36 = .ok (.iload_n 2, 1) := by decide +kernel
theorem dX1_waitingAt_37 : decode cX1_waitingAt 37 = .ok (.ireturn, 1) := by decide +kernel
set_option maxRecDepth 20000 in
theorem ggX1_waitingInAll_X1_waitingAt : GoodIn wsX1_waitingInAll wsX1_waitingAt := goodIn_r _ [6, 7, 8, 9, 10, 11, 12, 13, 14, 15, 16, 17, 18, 19, 20, 21, 22, 23, 24] (by decide +kernel) (by decide +kernel)
set_option maxRecDepth 20000 in
theorem gX1_waitingInAll_X1_waitingAt : GoodIn wsX1_waitingInAll (wsV RX1 72 RX1 yX1_waitingAt wsX1_waitingAt) := goodIn_app (goodIn_of _ (by decide +kernel)) ggX1_waitingInAll_X1_waitingAt
theorem dX1_waitingInAll_0 : decode cX1_waitingInAll 0 = .ok (.iconst 0, 1) := by decide +kernel
theorem dX1_waitingInAll_1 : decode cX1_waitingInAll 1 = .ok (.istore_n 1, 1) := by decide +kernel
theorem dX1_waitingInAll_2 : decode cX1_waitingInAll 2 = .ok (.iconst 0, 1) := by decide +kernel
theorem dX1_waitingInAll_3 : decode cX1_waitingInAll 3 = .ok (.istore_n 2, 1) := by decide +kernel
theorem dX1_waitingInAll_4 : decode cX1_waitingInAll 4 = .ok (.iload_n 2, 1) := by decide +kernel
theorem dX1_waitingInAll_5 : decode cX1_waitingInAll 5 = .ok (.aload_n 0, 1) := by decide +kernel
theorem dX1_waitingInAll_6 : decode cX1_waitingInAll 6 = .ok (.getfield 41, 3) := by decide +kernel
theorem dX1_waitingInAll_9 : decode cX1_waitingInAll 9 = .ok (.if_icmp .ge 17, 3) := by decide +kernel
theorem dX1_waitingInAll_12 : decode cX1_waitingInAll 12 = .ok (.iload_n 1, 1) := by decide +kernel
theorem dX1_waitingInAll_13 : decode cX1_waitingInAll 13 = .ok (.aload_n 0, 1) := by decide +kernel
theorem dX1_waitingInAll_14 : decode cX1_waitingInAll 14 = .ok (.iload_n 2, 1) := by decide +kernel
theorem dX1_waitingInAll_15 : decode cX1_waitingInAll 15 = .ok (.invokevirtual 72, 3) := by decide +kernel
theorem dX1_waitingInAll_18 : decode cX1_waitingInAll 18 = .ok (.iadd, 1) := by decide +kernel
theorem dX1_waitingInAll_19 : decode cX1_waitingInAll 19 = .ok (.istore_n 1, 1) := by decide +kernel
theorem dX1_waitingInAll_20 : decode cX1_waitingInAll 20 = .ok (.iinc 2 1, 3) := by decide +kernel
theorem dX1_waitingInAll_23 : decode cX1_waitingInAll 23 = .ok (.goto (-19), 3) := by decide +kernel
theorem dX1_waitingInAll_26 : decode cX1_waitingInAll 26 = .ok (.iload_n 1, 1) := by decide +kernel
theorem dX1_waitingInAll_27 : decode cX1_waitingInAll 27 = .ok (.ireturn, 1) := by decide +kernel
set_option maxRecDepth 20000 in
theorem ggX1_isAtRest_X1_waitingAt : GoodIn wsX1_isAtRest wsX1_waitingAt := goodIn_r _ [5, 6, 7, 8, 9, 10, 11, 12, 13, 14, 15, 16, 17, 18, 19, 20, 21, 22, 23] (by decide +kernel) (by decide +kernel)
set_option maxRecDepth 20000 in
theorem gX1_isAtRest_X1_waitingAt : GoodIn wsX1_isAtRest (wsV RX1 72 RX1 yX1_waitingAt wsX1_waitingAt) := goodIn_app (goodIn_of _ (by decide +kernel)) ggX1_isAtRest_X1_waitingAt
theorem dX1_isAtRest_0 : decode cX1_isAtRest 0 = .ok (.aload_n 0, 1) := by decide +kernel
theorem dX1_isAtRest_1 : decode cX1_isAtRest 1 = .ok (.iload_n 1, 1) := by decide +kernel
theorem dX1_isAtRest_2 : decode cX1_isAtRest 2 = .ok (.invokevirtual 72, 3) := by decide +kernel
theorem dX1_isAtRest_5 : decode cX1_isAtRest 5 = .ok (.ifCond .ne 7, 3) := by decide +kernel
theorem dX1_isAtRest_8 : decode cX1_isAtRest 8 = .ok (.iconst 1, 1) := by decide +kernel
theorem dX1_isAtRest_9 : decode cX1_isAtRest 9 = .ok (.goto 4, 3) := by decide +kernel
theorem dX1_isAtRest_12 : decode cX1_isAtRest 12 = .ok (.iconst 0, 1) := by decide +kernel
theorem dX1_isAtRest_13 : decode cX1_isAtRest 13 = .ok (.ireturn, 1) := by decide +kernel
set_option maxRecDepth 20000 in
theorem ggX1_countersAtRest_X1_isAtRest : GoodIn wsX1_countersAtRest wsX1_isAtRest := goodIn_r _ [6, 7, 8, 9, 5, 10, 11, 12, 13, 14, 15, 16, 17, 18, 19, 20, 21, 22, 23, 24, 25, 26, 27, 28] (by decide +kernel) (by decide +kernel)
set_option maxRecDepth 20000 in
theorem gX1_countersAtRest_X1_isAtRest : GoodIn wsX1_countersAtRest (wsV RX1 75 RX1 yX1_isAtRest wsX1_isAtRest) := goodIn_app (goodIn_of _ (by decide +kernel)) ggX1_countersAtRest_X1_isAtRest
theorem dX1_countersAtRest_0 : decode cX1_countersAtRest 0 = .ok (.iconst 0, 1) := by decide +kernel
theorem dX1_countersAtRest_1 : decode cX1_countersAtRest 1 = .ok (.istore_n 1, 1) := by decide +kernel
theorem dX1_countersAtRest_2 : decode cX1_countersAtRest 2 = .ok (.iconst 0, 1) := by decide +kernel
theorem dX1_countersAtRest_3 : decode cX1_countersAtRest 3 = .ok (.istore_n 2, 1) := by decide +kernel
theorem dX1_countersAtRest_4 : decode cX1_countersAtRest 4 = .ok (.iload_n 2, 1) := by decide +kernel
theorem dX1_countersAtRest_5 : decode cX1_countersAtRest 5 = .ok (.aload_n 0, 1) := by decide +kernel
theorem dX1_countersAtRest_6 : decode cX1_countersAtRest 6 = .ok (.getfield 41, 3) := by decide +kernel
theorem dX1_countersAtRest_9 : decode cX1_countersAtRest 9 = .ok (.if_icmp .ge 20, 3) := by decide +kernel
theorem dX1_countersAtRest_12 : decode cX1_countersAtRest 12 = .ok (.aload_n 0, 1) := by decide +kernel
theorem dX1_countersAtRest_13 : decode cX1_countersAtRest 13 = .ok (.iload_n 2, 1) := by decide +kernel
theorem dX1_countersAtRest_14 : decode cX1_countersAtRest 14 = .ok (.invokevirtual 75, 3) := by decide +kernel
theorem dX1_countersAtRest_17 : decode cX1_countersAtRest 17 = .ok (.ifCond .eq 6, 3) := by decide +kernel
theorem dX1_countersAtRest_20 : decode cX1_countersAtRest 20 = .ok (.iinc 1 1, 3) := by decide +kernel
theorem dX1_countersAtRest_23 : decode cX1_countersAtRest 23 = .ok (.iinc 2 1, 3) := by decide +kernel
theorem dX1_countersAtRest_26 : decode cX1_countersAtRest 26 = .ok (.goto (-22), 3) := by decide +kernel
theorem dX1_countersAtRest_29 : decode cX1_countersAtRest 29 = .ok (.iload_n 1, 1) := by decide +kernel
theorem dX1_countersAtRest_30 : decode cX1_countersAtRest 30 = .ok (.ireturn, 1) := by decide +kernel
theorem dX1_linkedCounters_0 : decode cX1_linkedCounters 0 = .ok (.iconst 0, 1) := by decide +kernel
theorem dX1_linkedCounters_1 : decode cX1_linkedCounters 1 = .ok (.istore_n 1, 1) := by decide +kernel
theorem dX1_linkedCounters_2 : decode cX1_linkedCounters 2 = .ok (.iconst 0, 1) := by decide +kernel
theorem dX1_linkedCounters_3 : decode cX1_linkedCounters 3 = .ok (.istore_n 2, 1) := by decide +kernel
theorem dX1_linkedCounters_4 : decode cX1_linkedCounters 4 = .ok (.iload_n 2, 1) := by decide +kernel
theorem dX1_linkedCounters_5 : decode cX1_linkedCounters 5 = .ok (.aload_n 0, 1) := by decide +kernel
theorem dX1_linkedCounters_6 : decode cX1_linkedCounters 6 = .ok (.getfield 41, 3) := by decide +kernel
theorem dX1_linkedCounters_9 : decode cX1_linkedCounters 9 = .ok (.if_icmp .ge 21, 3) := by decide +kernel
theorem dX1_linkedCounters_12 : decode cX1_linkedCounters 12 = .ok (.aload_n 0, 1) := by decide +kernel
theorem dX1_linkedCounters_13 : decode cX1_linkedCounters 13 = .ok (.getfield 15, 3) := by decide +kernel
theorem dX1_linkedCounters_16 : decode cX1_linkedCounters 16 = .ok (.iload_n 2, 1) := by decide +kernel
theorem dX1_linkedCounters_17 : decode cX1_linkedCounters 17 = .ok (.baload, 1) := by decide +kernel
theorem dX1_linkedCounters_18 : decode cX1_linkedCounters 18 = .ok (.ifCond .eq 6, 3) := by decide +kernel
theorem dX1_linkedCounters_21 : decode cX1_linkedCounters 21 = .ok (.iinc 1 1, 3) := by decide +kernel
theorem dX1_linkedCounters_24 : decode cX1_linkedCounters 24 = .ok (.iinc 2 1, 3) := by decide +kernel
theorem dX1_linkedCounters_27 : decode cX1_linkedCounters 27 = .ok (.goto (-23), 3) := by decide +kernel
theorem dX1_linkedCounters_30 : decode cX1_linkedCounters 30 = .ok (.iload_n 1, 1) := by decide +kernel
theorem dX1_linkedCounters_31 : decode cX1_linkedCounters 31 = .ok (.ireturn, 1) := by decide +kernel
set_option maxRecDepth 20000 in
theorem ggX1_countersAheadOf_X1_fullReading : GoodIn wsX1_countersAheadOf wsX1_fullReading := goodIn_r _ [6, 7, 8, 9, 10, 11, 12, 13, 18, 19, 20, 21, 22, 23, 24, 25, 26, 27, 28, 29, 30] (by decide +kernel) (by decide +kernel)
set_option maxRecDepth 20000 in
theorem gX1_countersAheadOf_X1_fullReading : GoodIn wsX1_countersAheadOf (wsV RX1 79 RX1 yX1_fullReading wsX1_fullReading) := goodIn_app (goodIn_of _ (by decide +kernel)) ggX1_countersAheadOf_X1_fullReading
set_option maxRecDepth 20000 in
theorem ggX1_countersAheadOf_X1_reading : GoodIn wsX1_countersAheadOf wsX1_reading := goodIn_r _ [17, 7, 9, 11, 12, 13, 18, 19, 20, 21, 22, 23, 24, 25, 26, 27, 28, 29, 30] (by decide +kernel) (by decide +kernel)
set_option maxRecDepth 20000 in
theorem gX1_countersAheadOf_X1_reading : GoodIn wsX1_countersAheadOf (wsV RX1 83 RX1 yX1_reading wsX1_reading) := goodIn_app (goodIn_of _ (by decide +kernel)) ggX1_countersAheadOf_X1_reading
theorem dX1_countersAheadOf_0 : decode cX1_countersAheadOf 0 = .ok (.iload_n 2, 1) := by decide +kernel
theorem dX1_countersAheadOf_1 : decode cX1_countersAheadOf 1 = .ok (.ifCond .eq 11, 3) := by decide +kernel
theorem dX1_countersAheadOf_4 : decode cX1_countersAheadOf 4 = .ok (.aload_n 0, 1) := by decide +kernel
theorem dX1_countersAheadOf_5 : decode cX1_countersAheadOf 5 = .ok (.iload_n 1, 1) := by decide +kernel
theorem dX1_countersAheadOf_6 : decode cX1_countersAheadOf 6 = .ok (.invokevirtual 79, 3) := by decide +kernel
theorem dX1_countersAheadOf_9 : decode cX1_countersAheadOf 9 = .ok (.goto 9, 3) := by decide +kernel
theorem dX1_countersAheadOf_12 : decode cX1_countersAheadOf 12 = .ok (.aload_n 0, 1) := by decide +kernel
theorem dX1_countersAheadOf_13 : decode cX1_countersAheadOf 13 = .ok (.iload_n 1, 1) := by decide +kernel
theorem dX1_countersAheadOf_14 : decode cX1_countersAheadOf 14 = .ok (.invokevirtual 83, 3) := by decide +kernel
theorem dX1_countersAheadOf_17 : decode cX1_countersAheadOf 17 = .ok (.i2l, 1) := by decide +kernel
theorem dX1_countersAheadOf_18 : decode cX1_countersAheadOf 18 = .ok (.lstore_n 3, 1) := by decide +kernel
theorem dX1_countersAheadOf_19 : decode cX1_countersAheadOf 19 = .ok (.iconst 0, 1) := by decide +kernel
theorem dX1_countersAheadOf_20 : decode cX1_countersAheadOf 20 = .ok (.istore 5, 2) := by decide +kernel
theorem dX1_countersAheadOf_22 : decode cX1_countersAheadOf 22 = .ok (.iconst 0, 1) := by decide +kernel
theorem dX1_countersAheadOf_23 : decode cX1_countersAheadOf 23 = .ok (.istore 6, 2) := by decide +kernel
theorem dX1_countersAheadOf_25 : decode cX1_countersAheadOf 25 = .ok (.iload 6, 2) := by decide +kernel
theorem dX1_countersAheadOf_27 : decode cX1_countersAheadOf 27 = .ok (.aload_n 0, 1) := by decide +kernel
theorem dX1_countersAheadOf_28 : decode cX1_countersAheadOf 28 = .ok (.getfield 41, 3) := by decide +kernel
theorem dX1_countersAheadOf_31 : decode cX1_countersAheadOf 31 = .ok (.if_icmp .ge 54, 3) := by decide +kernel
theorem dX1_countersAheadOf_34 : decode cX1_countersAheadOf 34 = .ok (.iload_n 2, 1) := by decide +kernel
theorem dX1_countersAheadOf_35 : decode cX1_countersAheadOf 35 = .ok (.ifCond .eq 12, 3) := by decide +kernel
theorem dX1_countersAheadOf_38 : decode cX1_countersAheadOf 38 = .ok (.aload_n 0, 1) := by decide +kernel
theorem dX1_countersAheadOf_39 : decode cX1_countersAheadOf 39 = .ok (.iload 6, 2) := by decide +kernel
theorem dX1_countersAheadOf_41 : decode cX1_countersAheadOf 41 = .ok (.invokevirtual 79, 3) := by decide +kernel
theorem dX1_countersAheadOf_44 : decode cX1_countersAheadOf 44 = .ok (.goto 10, 3) := by decide +kernel
theorem dX1_countersAheadOf_47 : decode cX1_countersAheadOf 47 = .ok (.aload_n 0, 1) := by decide +kernel
theorem dX1_countersAheadOf_48 : decode cX1_countersAheadOf 48 = .ok (.iload 6, 2) := by decide +kernel
theorem dX1_countersAheadOf_50 : decode cX1_countersAheadOf 50 = .ok (.invokevirtual 83, 3) := by decide +kernel
theorem dX1_countersAheadOf_53 : decode cX1_countersAheadOf 53 = .ok (.i2l, 1) := by decide +kernel
theorem dX1_countersAheadOf_54 : decode cX1_countersAheadOf 54 = .ok (.lstore 7, 2) := by decide +kernel
theorem dX1_countersAheadOf_56 : decode cX1_countersAheadOf 56 = .ok (.lload 7, 2) := by decide +kernel
theorem dX1_countersAheadOf_58 : decode cX1_countersAheadOf 58 = .ok (.lload_n 3, 1) := by decide +kernel
theorem dX1_countersAheadOf_59 : decode cX1_countersAheadOf 59 = .ok (.lcmp, 1) := by decide +kernel
theorem dX1_countersAheadOf_60 : decode cX1_countersAheadOf 60 = .ok (.ifCond .gt 16, 3) := by decide +kernel
theorem dX1_countersAheadOf_63 : decode cX1_countersAheadOf 63 = .ok (.lload 7, 2) := by decide +kernel
theorem dX1_countersAheadOf_65 : decode cX1_countersAheadOf 65 = .ok (.lload_n 3, 1) := by decide +kernel
theorem dX1_countersAheadOf_66 : decode cX1_countersAheadOf 66 = .ok (.lcmp, 1) := by decide +kernel
theorem dX1_countersAheadOf_67 : decode cX1_countersAheadOf 67 = .ok (.ifCond .ne 12, 3) := by decide +kernel
theorem dX1_countersAheadOf_70 : decode cX1_countersAheadOf 70 = .ok (.iload 6, 2) := by decide +kernel
theorem dX1_countersAheadOf_72 : decode cX1_countersAheadOf 72 = .ok (.iload_n 1, 1) := by decide +kernel
theorem dX1_countersAheadOf_73 : decode cX1_countersAheadOf 73 = .ok (.if_icmp .ge 6, 3) := by decide +kernel
theorem dX1_countersAheadOf_76 : decode cX1_countersAheadOf 76 = .ok (.iinc 5 1, 3) := by decide +kernel
theorem dX1_countersAheadOf_79 : decode cX1_countersAheadOf 79 = .ok (.iinc 6 1, 3) := by decide +kernel
theorem dX1_countersAheadOf_82 : decode cX1_countersAheadOf 82 = .ok (.goto (-57), 3) := by decide +kernel
theorem dX1_countersAheadOf_85 : decode cX1_countersAheadOf 85 = .ok (.iload 5, 2) := by decide +kernel
theorem dX1_countersAheadOf_87 : decode cX1_countersAheadOf 87 = .ok (.ireturn, 1) := by decide +kernel
theorem dX1_ticketsOf_0 : decode cX1_ticketsOf 0 = .ok (.iconst 0, 1) := by decide +kernel
theorem dX1_ticketsOf_1 : decode cX1_ticketsOf 1 = .ok (.istore_n 2, 1) := by decide +kernel
theorem dX1_ticketsOf_2 : decode cX1_ticketsOf 2 = .ok (.iconst 0, 1) := by decide +kernel
theorem dX1_ticketsOf_3 : decode cX1_ticketsOf 3 = .ok (.istore_n 3, 1) := by decide +kernel
theorem dX1_ticketsOf_4 : decode cX1_ticketsOf 4 = .ok (.iload_n 3, 1) := by decide +kernel
theorem dX1_ticketsOf_5 : decode cX1_ticketsOf 5 = .ok (.aload_n 0, 1) := by decide +kernel
theorem dX1_ticketsOf_6 : decode cX1_ticketsOf 6 = .ok (.getfield 51, 3) := by decide +kernel
theorem dX1_ticketsOf_9 : decode cX1_ticketsOf 9 = .ok (.if_icmp .ge 22, 3) := by decide +kernel
theorem dX1_ticketsOf_12 : decode cX1_ticketsOf 12 = .ok (.aload_n 0, 1) := by decide +kernel
theorem dX1_ticketsOf_13 : decode cX1_ticketsOf 13 = .ok (.getfield 28, 3) := by decide +kernel
theorem dX1_ticketsOf_16 : decode cX1_ticketsOf 16 = .ok (.iload_n 3, 1) := by decide +kernel
theorem dX1_ticketsOf_17 : decode cX1_ticketsOf 17 = .ok (.iaload, 1) := by decide +kernel
theorem dX1_ticketsOf_18 : decode cX1_ticketsOf 18 = .ok (.iload_n 1, 1) := by decide +kernel
theorem dX1_ticketsOf_19 : decode cX1_ticketsOf 19 = .ok (.if_icmp .ne 6, 3) := by decide +kernel
theorem dX1_ticketsOf_22 : decode cX1_ticketsOf 22 = .ok (.iinc 2 1, 3) := by decide +kernel
theorem dX1_ticketsOf_25 : decode cX1_ticketsOf 25 = .ok (.iinc 3 1, 3) := by decide +kernel
theorem dX1_ticketsOf_28 : decode cX1_ticketsOf 28 = .ok (.goto (-24), 3) := by decide +kernel
theorem dX1_ticketsOf_31 : decode cX1_ticketsOf 31 = .ok (.iload_n 2, 1) := by decide +kernel
theorem dX1_ticketsOf_32 : decode cX1_ticketsOf 32 = .ok (.ireturn, 1) := by decide +kernel
theorem dX1_arePair_0 : decode cX1_arePair 0 = .ok (.aload_n 0, 1) := by decide +kernel
theorem dX1_arePair_1 : decode cX1_arePair 1 = .ok (.getfield 28, 3) := by decide +kernel
theorem dX1_arePair_4 : decode cX1_arePair 4 = .ok (.iload_n 1, 1) := by decide +kernel
theorem dX1_arePair_5 : decode cX1_arePair 5 = .ok (.iaload, 1) := by decide +kernel
theorem dX1_arePair_6 : decode cX1_arePair 6 = .ok (.aload_n 0, 1) := by decide +kernel
theorem dX1_arePair_7 : decode cX1_arePair 7 = .ok (.getfield 28, 3) := by decide +kernel
theorem dX1_arePair_10 : decode cX1_arePair 10 = .ok (.iload_n 2, 1) := by decide +kernel
theorem dX1_arePair_11 : decode cX1_arePair 11 = .ok (.iaload, 1) := by decide +kernel
theorem dX1_arePair_12 : decode cX1_arePair 12 = .ok (.if_icmp .ne 22, 3) := by decide +kernel
theorem dX1_arePair_15 : decode cX1_arePair 15 = .ok (.aload_n 0, 1) := by decide +kernel
theorem dX1_arePair_16 : decode cX1_arePair 16 = .ok (.getfield 31, 3) := by decide +kernel
theorem dX1_arePair_19 : decode cX1_arePair 19 = .ok (.iload_n 1, 1) := by decide +kernel
theorem dX1_arePair_20 : decode cX1_arePair 20 = .ok (.iaload, 1) := by decide +kernel
theorem dX1_arePair_21 : decode cX1_arePair 21 = .ok (.aload_n 0, 1) := by decide +kernel
theorem dX1_arePair_22 : decode cX1_arePair 22 = .ok (.getfield 31, 3) := by decide +kernel
theorem dX1_arePair_25 : decode cX1_arePair 25 = .ok (.iload_n 2, 1) := by decide +kernel
theorem dX1_arePair_26 : decode cX1_arePair 26 = .ok (.iaload, 1) := by decide +kernel
theorem dX1_arePair_27 : decode cX1_arePair 27 = .ok (.if_icmp .ne 7, 3) := by decide +kernel
theorem dX1_arePair_30 : decode cX1_arePair 30 = .ok (.iconst 1, 1) := by decide +kernel
theorem dX1_arePair_31 : decode cX1_arePair 31 = .ok (.goto 4, 3) := by decide +kernel
theorem dX1_arePair_34 : decode cX1_arePair 34 = .ok (.iconst 0, 1) := by decide +kernel
theorem dX1_arePair_35 : decode cX1_arePair 35 = .ok (.ireturn, 1) := by decide +kernel
set_option maxRecDepth 20000 in
theorem ggX1_partners_X1_arePair : GoodIn wsX1_partners wsX1_arePair := goodIn_r _ [6, 7, 8, 9, 10, 11, 12, 13, 14, 15, 16, 17, 18, 19, 20, 21] (by decide +kernel) (by decide +kernel)
set_option maxRecDepth 20000 in
theorem gX1_partners_X1_arePair : GoodIn wsX1_partners (wsV RX1 86 RX1 yX1_arePair wsX1_arePair) := goodIn_app (goodIn_of _ (by decide +kernel)) ggX1_partners_X1_arePair
theorem dX1_partners_0 : decode cX1_partners 0 = .ok (.iconst 0, 1) := by decide +kernel
theorem dX1_partners_1 : decode cX1_partners 1 = .ok (.istore_n 2, 1) := by decide +kernel
theorem dX1_partners_2 : decode cX1_partners 2 = .ok (.iconst 0, 1) := by decide +kernel
theorem dX1_partners_3 : decode cX1_partners 3 = .ok (.istore_n 3, 1) := by decide +kernel
theorem dX1_partners_4 : decode cX1_partners 4 = .ok (.iload_n 3, 1) := by decide +kernel
theorem dX1_partners_5 : decode cX1_partners 5 = .ok (.aload_n 0, 1) := by decide +kernel
theorem dX1_partners_6 : decode cX1_partners 6 = .ok (.getfield 51, 3) := by decide +kernel
theorem dX1_partners_9 : decode cX1_partners 9 = .ok (.if_icmp .ge 26, 3) := by decide +kernel
theorem dX1_partners_12 : decode cX1_partners 12 = .ok (.iload_n 3, 1) := by decide +kernel
theorem dX1_partners_13 : decode cX1_partners 13 = .ok (.iload_n 1, 1) := by decide +kernel
theorem dX1_partners_14 : decode cX1_partners 14 = .ok (.if_icmp .eq 15, 3) := by decide +kernel
theorem dX1_partners_17 : decode cX1_partners 17 = .ok (.aload_n 0, 1) := by decide +kernel
theorem dX1_partners_18 : decode cX1_partners 18 = .ok (.iload_n 3, 1) := by decide +kernel
theorem dX1_partners_19 : decode cX1_partners 19 = .ok (.iload_n 1, 1) := by decide +kernel
theorem dX1_partners_20 : decode cX1_partners 20 = .ok (.invokevirtual 86, 3) := by decide +kernel
theorem dX1_partners_23 : decode cX1_partners 23 = .ok (.ifCond .eq 6, 3) := by decide +kernel
theorem dX1_partners_26 : decode cX1_partners 26 = .ok (.iinc 2 1, 3) := by decide +kernel
theorem dX1_partners_29 : decode cX1_partners 29 = .ok (.iinc 3 1, 3) := by decide +kernel
theorem dX1_partners_32 : decode cX1_partners 32 = .ok (.goto (-28), 3) := by decide +kernel
theorem dX1_partners_35 : decode cX1_partners 35 = .ok (.iload_n 2, 1) := by decide +kernel
theorem dX1_partners_36 : decode cX1_partners 36 = .ok (.ireturn, 1) := by decide +kernel
set_option maxRecDepth 20000 in
theorem ggX1_pairs_X1_partners : GoodIn wsX1_pairs wsX1_partners := goodIn_r _ [6, 1, 7, 8, 9, 5, 10, 11, 12, 13, 14, 15, 16, 17, 18, 19, 20, 21, 22, 23, 24, 25] (by decide +kernel) (by decide +kernel)
set_option maxRecDepth 20000 in
theorem gX1_pairs_X1_partners : GoodIn wsX1_pairs (wsV RX1 90 RX1 yX1_partners wsX1_partners) := goodIn_app (goodIn_of _ (by decide +kernel)) ggX1_pairs_X1_partners
theorem dX1_pairs_0 : decode cX1_pairs 0 = .ok (.iconst 0, 1) := by decide +kernel
theorem dX1_pairs_1 : decode cX1_pairs 1 = .ok (.istore_n 1, 1) := by decide +kernel
theorem dX1_pairs_2 : decode cX1_pairs 2 = .ok (.iconst 0, 1) := by decide +kernel
theorem dX1_pairs_3 : decode cX1_pairs 3 = .ok (.istore_n 2, 1) := by decide +kernel
theorem dX1_pairs_4 : decode cX1_pairs 4 = .ok (.iload_n 2, 1) := by decide +kernel
theorem dX1_pairs_5 : decode cX1_pairs 5 = .ok (.aload_n 0, 1) := by decide +kernel
theorem dX1_pairs_6 : decode cX1_pairs 6 = .ok (.getfield 51, 3) := by decide +kernel
theorem dX1_pairs_9 : decode cX1_pairs 9 = .ok (.if_icmp .ge 17, 3) := by decide +kernel
theorem dX1_pairs_12 : decode cX1_pairs 12 = .ok (.iload_n 1, 1) := by decide +kernel
theorem dX1_pairs_13 : decode cX1_pairs 13 = .ok (.aload_n 0, 1) := by decide +kernel
theorem dX1_pairs_14 : decode cX1_pairs 14 = .ok (.iload_n 2, 1) := by decide +kernel
theorem dX1_pairs_15 : decode cX1_pairs 15 = .ok (.invokevirtual 90, 3) := by decide +kernel
theorem dX1_pairs_18 : decode cX1_pairs 18 = .ok (.iadd, 1) := by decide +kernel
theorem dX1_pairs_19 : decode cX1_pairs 19 = .ok (.istore_n 1, 1) := by decide +kernel
theorem dX1_pairs_20 : decode cX1_pairs 20 = .ok (.iinc 2 1, 3) := by decide +kernel
theorem dX1_pairs_23 : decode cX1_pairs 23 = .ok (.goto (-19), 3) := by decide +kernel
theorem dX1_pairs_26 : decode cX1_pairs 26 = .ok (.iload_n 1, 1) := by decide +kernel
theorem dX1_pairs_27 : decode cX1_pairs 27 = .ok (.iconst 2, 1) := by decide +kernel
theorem dX1_pairs_28 : decode cX1_pairs 28 = .ok (.idiv, 1) := by decide +kernel
theorem dX1_pairs_29 : decode cX1_pairs 29 = .ok (.ireturn, 1) := by decide +kernel
set_option maxRecDepth 20000 in
theorem ggX1_ticketsAheadOf_X1_isTicketAhead : GoodIn wsX1_ticketsAheadOf wsX1_isTicketAhead := goodIn_r _ [6, 7, 8, 9, 10, 11, 12, 13, 14, 15, 16, 17, 18, 19, 20, 21] (by decide +kernel) (by decide +kernel)
set_option maxRecDepth 20000 in
theorem gX1_ticketsAheadOf_X1_isTicketAhead : GoodIn wsX1_ticketsAheadOf (wsV RX1 93 RX1 yX1_isTicketAhead wsX1_isTicketAhead) := goodIn_app (goodIn_of _ (by decide +kernel)) ggX1_ticketsAheadOf_X1_isTicketAhead
theorem dX1_ticketsAheadOf_0 : decode cX1_ticketsAheadOf 0 = .ok (.iconst 0, 1) := by decide +kernel
theorem dX1_ticketsAheadOf_1 : decode cX1_ticketsAheadOf 1 = .ok (.istore_n 2, 1) := by decide +kernel
theorem dX1_ticketsAheadOf_2 : decode cX1_ticketsAheadOf 2 = .ok (.iconst 0, 1) := by decide +kernel
theorem dX1_ticketsAheadOf_3 : decode cX1_ticketsAheadOf 3 = .ok (.istore_n 3, 1) := by decide +kernel
theorem dX1_ticketsAheadOf_4 : decode cX1_ticketsAheadOf 4 = .ok (.iload_n 3, 1) := by decide +kernel
theorem dX1_ticketsAheadOf_5 : decode cX1_ticketsAheadOf 5 = .ok (.aload_n 0, 1) := by decide +kernel
theorem dX1_ticketsAheadOf_6 : decode cX1_ticketsAheadOf 6 = .ok (.getfield 51, 3) := by decide +kernel
theorem dX1_ticketsAheadOf_9 : decode cX1_ticketsAheadOf 9 = .ok (.if_icmp .ge 21, 3) := by decide +kernel
theorem dX1_ticketsAheadOf_12 : decode cX1_ticketsAheadOf 12 = .ok (.aload_n 0, 1) := by decide +kernel
theorem dX1_ticketsAheadOf_13 : decode cX1_ticketsAheadOf 13 = .ok (.iload_n 3, 1) := by decide +kernel
theorem dX1_ticketsAheadOf_14 : decode cX1_ticketsAheadOf 14 = .ok (.iload_n 1, 1) := by decide +kernel
theorem dX1_ticketsAheadOf_15 : decode cX1_ticketsAheadOf 15 = .ok (.invokevirtual 93, 3) := by decide +kernel
theorem dX1_ticketsAheadOf_18 : decode cX1_ticketsAheadOf 18 = .ok (.ifCond .eq 6, 3) := by decide +kernel
theorem dX1_ticketsAheadOf_21 : decode cX1_ticketsAheadOf 21 = .ok (.iinc 2 1, 3) := by decide +kernel
theorem dX1_ticketsAheadOf_24 : decode cX1_ticketsAheadOf 24 = .ok (.iinc 3 1, 3) := by decide +kernel
theorem dX1_ticketsAheadOf_27 : decode cX1_ticketsAheadOf 27 = .ok (.goto (-23), 3) := by decide +kernel
theorem dX1_ticketsAheadOf_30 : decode cX1_ticketsAheadOf 30 = .ok (.iload_n 2, 1) := by decide +kernel
theorem dX1_ticketsAheadOf_31 : decode cX1_ticketsAheadOf 31 = .ok (.ireturn, 1) := by decide +kernel
theorem dX1_isTicketAhead_0 : decode cX1_isTicketAhead 0 = .ok (.aload_n 0, 1) := by decide +kernel
theorem dX1_isTicketAhead_1 : decode cX1_isTicketAhead 1 = .ok (.getfield 31, 3) := by decide +kernel
theorem dX1_isTicketAhead_4 : decode cX1_isTicketAhead 4 = .ok (.iload_n 1, 1) := by decide +kernel
theorem dX1_isTicketAhead_5 : decode cX1_isTicketAhead 5 = .ok (.iaload, 1) := by decide +kernel
theorem dX1_isTicketAhead_6 : decode cX1_isTicketAhead 6 = .ok (.aload_n 0, 1) := by decide +kernel
theorem dX1_isTicketAhead_7 : decode cX1_isTicketAhead 7 = .ok (.getfield 31, 3) := by decide +kernel
theorem dX1_isTicketAhead_10 : decode cX1_isTicketAhead 10 = .ok (.iload_n 2, 1) := by decide +kernel
theorem dX1_isTicketAhead_11 : decode cX1_isTicketAhead 11 = .ok (.iaload, 1) := by decide +kernel
theorem dX1_isTicketAhead_12 : decode cX1_isTicketAhead 12 = .ok (.if_icmp .eq 24, 3) := by decide +kernel
theorem dX1_isTicketAhead_15 : decode cX1_isTicketAhead 15 = .ok (.aload_n 0, 1) := by decide +kernel
theorem dX1_isTicketAhead_16 : decode cX1_isTicketAhead 16 = .ok (.getfield 31, 3) := by decide +kernel
theorem dX1_isTicketAhead_19 : decode cX1_isTicketAhead 19 = .ok (.iload_n 1, 1) := by decide +kernel
theorem dX1_isTicketAhead_20 : decode cX1_isTicketAhead 20 = .ok (.iaload, 1) := by decide +kernel
theorem dX1_isTicketAhead_21 : decode cX1_isTicketAhead 21 = .ok (.aload_n 0, 1) := by decide +kernel
theorem dX1_isTicketAhead_22 : decode cX1_isTicketAhead 22 = .ok (.getfield 31, 3) := by decide +kernel
theorem dX1_isTicketAhead_25 : decode cX1_isTicketAhead 25 = .ok (.iload_n 2, 1) := by decide +kernel
theorem dX1_isTicketAhead_26 : decode cX1_isTicketAhead 26 = .ok (.iaload, 1) := by decide +kernel
theorem dX1_isTicketAhead_27 : decode cX1_isTicketAhead 27 = .ok (.if_icmp .ge 7, 3) := by decide +kernel
theorem dX1_isTicketAhead_30 : decode cX1_isTicketAhead 30 = .ok (.iconst 1, 1) := by decide +kernel
theorem dX1_isTicketAhead_31 : decode cX1_isTicketAhead 31 = .ok (.goto 4, 3) := by decide +kernel
theorem dX1_isTicketAhead_34 : decode cX1_isTicketAhead 34 = .ok (.iconst 0, 1) := by decide +kernel
theorem dX1_isTicketAhead_35 : decode cX1_isTicketAhead 35 = .ok (.ireturn, 1) := by decide +kernel
theorem dX1_isTicketAhead_36 : decode cX1_isTicketAhead 36 = .ok (.aload_n 0, 1) := by decide +kernel
theorem dX1_isTicketAhead_37 : decode cX1_isTicketAhead 37 = .ok (.getfield 28, 3) := by decide +kernel
theorem dX1_isTicketAhead_40 : decode cX1_isTicketAhead 40 = .ok (.iload_n 1, 1) := by decide +kernel
theorem dX1_isTicketAhead_41 : decode cX1_isTicketAhead 41 = .ok (.iaload, 1) := by decide +kernel
theorem dX1_isTicketAhead_42 : decode cX1_isTicketAhead 42 = .ok (.aload_n 0, 1) := by decide +kernel
theorem dX1_isTicketAhead_43 : decode cX1_isTicketAhead 43 = .ok (.getfield 28, 3) := by decide +kernel
theorem dX1_isTicketAhead_46 : decode cX1_isTicketAhead 46 = .ok (.iload_n 2, 1) := by decide +kernel
theorem dX1_isTicketAhead_47 : decode cX1_isTicketAhead 47 = .ok (.iaload, 1) := by decide +kernel
theorem dX1_isTicketAhead_48 : decode cX1_isTicketAhead 48 = .ok (.if_icmp .eq 24, 3) := by decide +kernel
theorem dX1_isTicketAhead_51 : decode cX1_isTicketAhead 51 = .ok (.aload_n 0, 1) := by decide +kernel
theorem dX1_isTicketAhead_52 : decode cX1_isTicketAhead 52 = .ok (.getfield 28, 3) := by decide +kernel
theorem dX1_isTicketAhead_55 : decode cX1_isTicketAhead 55 = .ok (.iload_n 1, 1) := by decide +kernel
theorem dX1_isTicketAhead_56 : decode cX1_isTicketAhead 56 = .ok (.iaload, 1) := by decide +kernel
theorem dX1_isTicketAhead_57 : decode cX1_isTicketAhead 57 = .ok (.aload_n 0, 1) := by decide +kernel
theorem dX1_isTicketAhead_58 : decode cX1_isTicketAhead 58 = .ok (.getfield 28, 3) := by decide +kernel
theorem dX1_isTicketAhead_61 : decode cX1_isTicketAhead 61 = .ok (.iload_n 2, 1) := by decide +kernel
theorem dX1_isTicketAhead_62 : decode cX1_isTicketAhead 62 = .ok (.iaload, 1) := by decide +kernel
theorem dX1_isTicketAhead_63 : decode cX1_isTicketAhead 63 = .ok (.if_icmp .ge 7, 3) := by decide +kernel
theorem dX1_isTicketAhead_66 : decode cX1_isTicketAhead 66 = .ok (.iconst 1, 1) := by decide +kernel
theorem dX1_isTicketAhead_67 : decode cX1_isTicketAhead 67 = .ok (.goto 4, 3) := by decide +kernel
theorem dX1_isTicketAhead_70 : decode cX1_isTicketAhead 70 = .ok (.iconst 0, 1) := by decide +kernel
theorem dX1_isTicketAhead_71 : decode cX1_isTicketAhead 71 = .ok (.ireturn, 1) := by decide +kernel
theorem dX1_isTicketAhead_72 : decode cX1_isTicketAhead 72 = .ok (.iload_n 1, 1) := by decide +kernel
theorem dX1_isTicketAhead_73 : decode cX1_isTicketAhead 73 = .ok (.iload_n 2, 1) := by decide +kernel
theorem dX1_isTicketAhead_74 : decode cX1_isTicketAhead 74 = .ok (.if_icmp .ge 7, 3) := by decide +kernel
theorem dX1_isTicketAhead_77 : decode cX1_isTicketAhead 77 = .ok (.iconst 1, 1) := by decide +kernel
theorem dX1_isTicketAhead_78 : decode cX1_isTicketAhead 78 = .ok (.goto 4, 3) := by decide +kernel
theorem dX1_isTicketAhead_81 : decode cX1_isTicketAhead 81 = .ok (.iconst 0, 1) := by decide +kernel
theorem dX1_isTicketAhead_82 : decode cX1_isTicketAhead 82 = .ok (.ireturn, 1) := by decide +kernel
