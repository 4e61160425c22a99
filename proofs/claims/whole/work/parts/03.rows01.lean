set_option maxRecDepth 20000 in
theorem ggX1_putDigits_X3_cellOf : GoodIn wsX1_putDigits wsX3_cellOf := goodIn_r _ [9] (by decide +kernel) (by decide +kernel)
set_option maxRecDepth 20000 in
theorem gX1_putDigits_X3_cellOf_n66 : GoodIn wsX1_putDigits (wsX3_cellOf) := ggX1_putDigits_X3_cellOf
theorem dX1_putDigits_0 : decode cX1_putDigits 0 = .ok (.iload_n 2, 1) := by decide +kernel
theorem dX1_putDigits_1 : decode cX1_putDigits 1 = .ok (.ifCond .ge 7, 3) := by decide +kernel
theorem dX1_putDigits_4 : decode cX1_putDigits 4 = .ok (.iconst (-1), 1) := by decide +kernel
theorem dX1_putDigits_5 : decode cX1_putDigits 5 = .ok (.goto 4, 3) := by decide +kernel
theorem dX1_putDigits_8 : decode cX1_putDigits 8 = .ok (.iconst 1, 1) := by decide +kernel
theorem dX1_putDigits_9 : decode cX1_putDigits 9 = .ok (.istore_n 3, 1) := by decide +kernel
theorem dX1_putDigits_10 : decode cX1_putDigits 10 = .ok (.iload_n 2, 1) := by decide +kernel
theorem dX1_putDigits_11 : decode cX1_putDigits 11 = .ok (.invokestatic 60, 3) := by decide +kernel
theorem dX1_putDigits_14 : decode cX1_putDigits 14 = .ok (.istore 4, 2) := by decide +kernel
theorem dX1_putDigits_16 : decode cX1_putDigits 16 = .ok (.iconst 0, 1) := by decide +kernel
theorem dX1_putDigits_17 : decode cX1_putDigits 17 = .ok (.istore 5, 2) := by decide +kernel
theorem dX1_putDigits_19 : decode cX1_putDigits 19 = .ok (.iconst 0, 1) := by decide +kernel
theorem dX1_putDigits_20 : decode cX1_putDigits 20 = .ok (.istore 6, 2) := by decide +kernel
theorem dX1_putDigits_22 : decode cX1_putDigits 22 = .ok (.iload 6, 2) := by decide +kernel
theorem dX1_putDigits_24 : decode cX1_putDigits 24 = .ok (.aload_n 0, 1) := by decide +kernel
theorem dX1_putDigits_25 : decode cX1_putDigits 25 = .ok (.getfield 9, 3) := by decide +kernel
theorem dX1_putDigits_28 : decode cX1_putDigits 28 = .ok (.iload_n 1, 1) := by decide +kernel
theorem dX1_putDigits_29 : decode cX1_putDigits 29 = .ok (.iaload, 1) := by decide +kernel
theorem dX1_putDigits_30 : decode cX1_putDigits 30 = .ok (.if_icmp .ge 46, 3) := by decide +kernel
theorem dX1_putDigits_33 : decode cX1_putDigits 33 = .ok (.iload 4, 2) := by decide +kernel
theorem dX1_putDigits_35 : decode cX1_putDigits 35 = .ok (.iconst 3, 1) := by decide +kernel
theorem dX1_putDigits_36 : decode cX1_putDigits 36 = .ok (.irem, 1) := by decide +kernel
theorem dX1_putDigits_37 : decode cX1_putDigits 37 = .ok (.istore 7, 2) := by decide +kernel
theorem dX1_putDigits_39 : decode cX1_putDigits 39 = .ok (.aload_n 0, 1) := by decide +kernel
theorem dX1_putDigits_40 : decode cX1_putDigits 40 = .ok (.getfield 25, 3) := by decide +kernel
theorem dX1_putDigits_43 : decode cX1_putDigits 43 = .ok (.iload_n 1, 1) := by decide +kernel
theorem dX1_putDigits_44 : decode cX1_putDigits 44 = .ok (.iload 6, 2) := by decide +kernel
theorem dX1_putDigits_46 : decode cX1_putDigits 46 = .ok (.invokestatic 66, 3) := by decide +kernel
theorem dX1_putDigits_49 : decode cX1_putDigits 49 = .ok (.dup2, 1) := by decide +kernel
theorem dX1_putDigits_50 : decode cX1_putDigits 50 = .ok (.iaload, 1) := by decide +kernel
theorem dX1_putDigits_51 : decode cX1_putDigits 51 = .ok (.iload_n 3, 1) := by decide +kernel
theorem dX1_putDigits_52 : decode cX1_putDigits 52 = .ok (.iload 7, 2) := by decide +kernel
theorem dX1_putDigits_54 : decode cX1_putDigits 54 = .ok (.imul, 1) := by decide +kernel
theorem dX1_putDigits_55 : decode cX1_putDigits 55 = .ok (.iadd, 1) := by decide +kernel
theorem dX1_putDigits_56 : decode cX1_putDigits 56 = .ok (.iastore, 1) := by decide +kernel
theorem dX1_putDigits_57 : decode cX1_putDigits 57 = .ok (.iload 5, 2) := by decide +kernel
theorem dX1_putDigits_59 : decode cX1_putDigits 59 = .ok (.iload 7, 2) := by decide +kernel
theorem dX1_putDigits_61 : decode cX1_putDigits 61 = .ok (.iadd, 1) := by decide +kernel
theorem dX1_putDigits_62 : decode cX1_putDigits 62 = .ok (.istore 5, 2) := by decide +kernel
theorem dX1_putDigits_64 : decode cX1_putDigits 64 = .ok (.iload 4, 2) := by decide +kernel
theorem dX1_putDigits_66 : decode cX1_putDigits 66 = .ok (.iconst 3, 1) := by decide +kernel
theorem dX1_putDigits_67 : decode cX1_putDigits 67 = .ok (.idiv, 1) := by decide +kernel
theorem dX1_putDigits_68 : decode cX1_putDigits 68 = .ok (.istore 4, 2) := by decide +kernel
theorem dX1_putDigits_70 : decode cX1_putDigits 70 = .ok (.iinc 6 1, 3) := by decide +kernel
theorem dX1_putDigits_73 : decode cX1_putDigits 73 = .ok (.goto (-51), 3) := by decide +kernel
theorem dX1_putDigits_76 : decode cX1_putDigits 76 = .ok (.iload 5, 2) := by decide +kernel
theorem dX1_putDigits_78 : decode cX1_putDigits 78 = .ok (.ireturn, 1) := by decide +kernel
set_option maxRecDepth 20000 in
theorem ggX1_tryPutDigits_X1_hasCounter : GoodIn wsX1_tryPutDigits wsX1_hasCounter := goodIn_r _ [5, 6, 24, 25, 26, 27, 28, 29, 30, 31, 32, 33, 34, 35, 36] (by decide +kernel) (by decide +kernel)
set_option maxRecDepth 20000 in
theorem gX1_tryPutDigits_X1_hasCounter : GoodIn wsX1_tryPutDigits (wsV RX1 96 RX1 yX1_hasCounter wsX1_hasCounter) := goodIn_app (goodIn_of _ (by decide +kernel)) ggX1_tryPutDigits_X1_hasCounter
set_option maxRecDepth 20000 in
theorem ggX1_tryPutDigits_X1_hasPlacesFor : GoodIn wsX1_tryPutDigits wsX1_hasPlacesFor := goodIn_r _ [10, 11, 12, 13, 14, 15, 24, 25, 26, 27, 28, 29, 30, 31, 32, 33, 34, 35, 36] (by decide +kernel) (by decide +kernel)
set_option maxRecDepth 20000 in
theorem gX1_tryPutDigits_X1_hasPlacesFor : GoodIn wsX1_tryPutDigits (wsV RX1 99 RX1 yX1_hasPlacesFor wsX1_hasPlacesFor) := goodIn_app (goodIn_of _ (by decide +kernel)) ggX1_tryPutDigits_X1_hasPlacesFor
set_option maxRecDepth 20000 in
theorem ggX1_tryPutDigits_X1_putDigits : GoodIn wsX1_tryPutDigits wsX1_putDigits := goodIn_r _ [19, 11, 12, 13, 14, 15, 20, 21, 22, 23, 24, 25, 26, 27, 28, 29, 30, 31, 32, 33, 34, 35, 36] (by decide +kernel) (by decide +kernel)
set_option maxRecDepth 20000 in
theorem gX1_tryPutDigits_X1_putDigits : GoodIn wsX1_tryPutDigits (wsV RX1 102 RX1 yX1_putDigits wsX1_putDigits) := goodIn_app (goodIn_of _ (by decide +kernel)) ggX1_tryPutDigits_X1_putDigits
theorem dX1_tryPutDigits_0 : decode cX1_tryPutDigits 0 = .ok (.aload_n 0, 1) := by decide +kernel
theorem dX1_tryPutDigits_1 : decode cX1_tryPutDigits 1 = .ok (.iload_n 1, 1) := by decide +kernel
theorem dX1_tryPutDigits_2 : decode cX1_tryPutDigits 2 = .ok (.invokevirtual 96, 3) := by decide +kernel
theorem dX1_tryPutDigits_5 : decode cX1_tryPutDigits 5 = .ok (.ifCond .eq 12, 3) := by decide +kernel
theorem dX1_tryPutDigits_8 : decode cX1_tryPutDigits 8 = .ok (.aload_n 0, 1) := by decide +kernel
theorem dX1_tryPutDigits_9 : decode cX1_tryPutDigits 9 = .ok (.iload_n 1, 1) := by decide +kernel
theorem dX1_tryPutDigits_10 : decode cX1_tryPutDigits 10 = .ok (.iload_n 2, 1) := by decide +kernel
theorem dX1_tryPutDigits_11 : decode cX1_tryPutDigits 11 = .ok (.invokevirtual 99, 3) := by decide +kernel
theorem dX1_tryPutDigits_14 : decode cX1_tryPutDigits 14 = .ok (.ifCond .ne 5, 3) := by decide +kernel
theorem dX1_tryPutDigits_17 : decode cX1_tryPutDigits 17 = .ok (.iconst 0, 1) := by decide +kernel
theorem dX1_tryPutDigits_18 : decode cX1_tryPutDigits 18 = .ok (.ireturn, 1) := by decide +kernel
theorem dX1_tryPutDigits_19 : decode cX1_tryPutDigits 19 = .ok (.aload_n 0, 1) := by decide +kernel
theorem dX1_tryPutDigits_20 : decode cX1_tryPutDigits 20 = .ok (.iload_n 1, 1) := by decide +kernel
theorem dX1_tryPutDigits_21 : decode cX1_tryPutDigits 21 = .ok (.iload_n 2, 1) := by decide +kernel
theorem dX1_tryPutDigits_22 : decode cX1_tryPutDigits 22 = .ok (.invokevirtual 102, 3) := by decide +kernel
theorem dX1_tryPutDigits_25 : decode cX1_tryPutDigits 25 = .ok (.pop, 1) := by decide +kernel
theorem dX1_tryPutDigits_26 : decode cX1_tryPutDigits 26 = .ok (.iconst 1, 1) := by decide +kernel
theorem dX1_tryPutDigits_27 : decode cX1_tryPutDigits 27 = .ok (.ireturn, 1) := by decide +kernel
set_option maxRecDepth 20000 in
theorem ggX1_drawFrom_X1_reading : GoodIn wsX1_drawFrom wsX1_reading := goodIn_r _ [12, 13, 14, 15, 16, 17, 23, 24, 25, 26, 27, 28, 29, 30, 31, 32, 33, 34, 35] (by decide +kernel) (by decide +kernel)
set_option maxRecDepth 20000 in
theorem gX1_drawFrom_X1_reading : GoodIn wsX1_drawFrom (wsV RX1 83 RX1 yX1_reading wsX1_reading) := goodIn_app (goodIn_of _ (by decide +kernel)) ggX1_drawFrom_X1_reading
set_option maxRecDepth 20000 in
theorem ggX1_drawFrom_X1_fullReading : GoodIn wsX1_drawFrom wsX1_fullReading := goodIn_r _ [21, 13, 22, 14, 7, 15, 16, 17, 23, 24, 25, 26, 27, 28, 29, 30, 31, 32, 33, 34, 35] (by decide +kernel) (by decide +kernel)
set_option maxRecDepth 20000 in
theorem gX1_drawFrom_X1_fullReading : GoodIn wsX1_drawFrom (wsV RX1 79 RX1 yX1_fullReading wsX1_fullReading) := goodIn_app (goodIn_of _ (by decide +kernel)) ggX1_drawFrom_X1_fullReading
set_option maxRecDepth 20000 in
theorem ggX1_drawFrom_X3_cellOf : GoodIn wsX1_drawFrom wsX3_cellOf := goodIn_r _ [17] (by decide +kernel) (by decide +kernel)
set_option maxRecDepth 20000 in
theorem gX1_drawFrom_X3_cellOf_n66 : GoodIn wsX1_drawFrom (wsX3_cellOf) := ggX1_drawFrom_X3_cellOf
theorem dX1_drawFrom_0 : decode cX1_drawFrom 0 = .ok (.aload_n 0, 1) := by decide +kernel
theorem dX1_drawFrom_1 : decode cX1_drawFrom 1 = .ok (.iload_n 1, 1) := by decide +kernel
theorem dX1_drawFrom_2 : decode cX1_drawFrom 2 = .ok (.invokevirtual 83, 3) := by decide +kernel
theorem dX1_drawFrom_5 : decode cX1_drawFrom 5 = .ok (.istore_n 2, 1) := by decide +kernel
theorem dX1_drawFrom_6 : decode cX1_drawFrom 6 = .ok (.aload_n 0, 1) := by decide +kernel
theorem dX1_drawFrom_7 : decode cX1_drawFrom 7 = .ok (.getfield 51, 3) := by decide +kernel
theorem dX1_drawFrom_10 : decode cX1_drawFrom 10 = .ok (.aload_n 0, 1) := by decide +kernel
theorem dX1_drawFrom_11 : decode cX1_drawFrom 11 = .ok (.getfield 31, 3) := by decide +kernel
theorem dX1_drawFrom_14 : decode cX1_drawFrom 14 = .ok (.arraylength, 1) := by decide +kernel
theorem dX1_drawFrom_15 : decode cX1_drawFrom 15 = .ok (.if_icmp .ge 63, 3) := by decide +kernel
theorem dX1_drawFrom_18 : decode cX1_drawFrom 18 = .ok (.aload_n 0, 1) := by decide +kernel
theorem dX1_drawFrom_19 : decode cX1_drawFrom 19 = .ok (.getfield 28, 3) := by decide +kernel
theorem dX1_drawFrom_22 : decode cX1_drawFrom 22 = .ok (.aload_n 0, 1) := by decide +kernel
theorem dX1_drawFrom_23 : decode cX1_drawFrom 23 = .ok (.getfield 51, 3) := by decide +kernel
theorem dX1_drawFrom_26 : decode cX1_drawFrom 26 = .ok (.iload_n 1, 1) := by decide +kernel
theorem dX1_drawFrom_27 : decode cX1_drawFrom 27 = .ok (.iastore, 1) := by decide +kernel
theorem dX1_drawFrom_28 : decode cX1_drawFrom 28 = .ok (.aload_n 0, 1) := by decide +kernel
theorem dX1_drawFrom_29 : decode cX1_drawFrom 29 = .ok (.getfield 31, 3) := by decide +kernel
theorem dX1_drawFrom_32 : decode cX1_drawFrom 32 = .ok (.aload_n 0, 1) := by decide +kernel
theorem dX1_drawFrom_33 : decode cX1_drawFrom 33 = .ok (.getfield 51, 3) := by decide +kernel
theorem dX1_drawFrom_36 : decode cX1_drawFrom 36 = .ok (.iload_n 2, 1) := by decide +kernel
theorem dX1_drawFrom_37 : decode cX1_drawFrom 37 = .ok (.iastore, 1) := by decide +kernel
theorem dX1_drawFrom_38 : decode cX1_drawFrom 38 = .ok (.aload_n 0, 1) := by decide +kernel
theorem dX1_drawFrom_39 : decode cX1_drawFrom 39 = .ok (.getfield 34, 3) := by decide +kernel
theorem dX1_drawFrom_42 : decode cX1_drawFrom 42 = .ok (.aload_n 0, 1) := by decide +kernel
theorem dX1_drawFrom_43 : decode cX1_drawFrom 43 = .ok (.getfield 51, 3) := by decide +kernel
theorem dX1_drawFrom_46 : decode cX1_drawFrom 46 = .ok (.aload_n 0, 1) := by decide +kernel
theorem dX1_drawFrom_47 : decode cX1_drawFrom 47 = .ok (.getfield 48, 3) := by decide +kernel
theorem dX1_drawFrom_50 : decode cX1_drawFrom 50 = .ok (.iastore, 1) := by decide +kernel
theorem dX1_drawFrom_51 : decode cX1_drawFrom 51 = .ok (.aload_n 0, 1) := by decide +kernel
theorem dX1_drawFrom_52 : decode cX1_drawFrom 52 = .ok (.getfield 37, 3) := by decide +kernel
theorem dX1_drawFrom_55 : decode cX1_drawFrom 55 = .ok (.aload_n 0, 1) := by decide +kernel
theorem dX1_drawFrom_56 : decode cX1_drawFrom 56 = .ok (.getfield 51, 3) := by decide +kernel
theorem dX1_drawFrom_59 : decode cX1_drawFrom 59 = .ok (.aload_n 0, 1) := by decide +kernel
theorem dX1_drawFrom_60 : decode cX1_drawFrom 60 = .ok (.iload_n 1, 1) := by decide +kernel
theorem dX1_drawFrom_61 : decode cX1_drawFrom 61 = .ok (.invokevirtual 79, 3) := by decide +kernel
theorem dX1_drawFrom_64 : decode cX1_drawFrom 64 = .ok (.iload_n 2, 1) := by decide +kernel
theorem dX1_drawFrom_65 : decode cX1_drawFrom 65 = .ok (.i2l, 1) := by decide +kernel
theorem dX1_drawFrom_66 : decode cX1_drawFrom 66 = .ok (.lsub, 1) := by decide +kernel
theorem dX1_drawFrom_67 : decode cX1_drawFrom 67 = .ok (.lastore, 1) := by decide +kernel
theorem dX1_drawFrom_68 : decode cX1_drawFrom 68 = .ok (.aload_n 0, 1) := by decide +kernel
theorem dX1_drawFrom_69 : decode cX1_drawFrom 69 = .ok (.dup, 1) := by decide +kernel
theorem dX1_drawFrom_70 : decode cX1_drawFrom 70 = .ok (.getfield 51, 3) := by decide +kernel
theorem dX1_drawFrom_73 : decode cX1_drawFrom 73 = .ok (.iconst 1, 1) := by decide +kernel
theorem dX1_drawFrom_74 : decode cX1_drawFrom 74 = .ok (.iadd, 1) := by decide +kernel
theorem dX1_drawFrom_75 : decode cX1_drawFrom 75 = .ok (.putfield 51, 3) := by decide +kernel
theorem dX1_drawFrom_78 : decode cX1_drawFrom 78 = .ok (.aload_n 0, 1) := by decide +kernel
theorem dX1_drawFrom_79 : decode cX1_drawFrom 79 = .ok (.getfield 25, 3) := by decide +kernel
theorem dX1_drawFrom_82 : decode cX1_drawFrom 82 = .ok (.iload_n 1, 1) := by decide +kernel
theorem dX1_drawFrom_83 : decode cX1_drawFrom 83 = .ok (.iconst 0, 1) := by decide +kernel
theorem dX1_drawFrom_84 : decode cX1_drawFrom 84 = .ok (.invokestatic 66, 3) := by decide +kernel
theorem dX1_drawFrom_87 : decode cX1_drawFrom 87 = .ok (.dup2, 1) := by decide +kernel
theorem dX1_drawFrom_88 : decode cX1_drawFrom 88 = .ok (.iaload, 1) := by decide +kernel
theorem dX1_drawFrom_89 : decode cX1_drawFrom 89 = .ok (.iconst 1, 1) := by decide +kernel
theorem dX1_drawFrom_90 : decode cX1_drawFrom 90 = .ok (.iadd, 1) := by decide +kernel
theorem dX1_drawFrom_91 : decode cX1_drawFrom 91 = .ok (.iastore, 1) := by decide +kernel
theorem dX1_drawFrom_92 : decode cX1_drawFrom 92 = .ok (.iload_n 2, 1) := by decide +kernel
theorem dX1_drawFrom_93 : decode cX1_drawFrom 93 = .ok (.ireturn, 1) := by decide +kernel
set_option maxRecDepth 20000 in
theorem ggX1_tryDraw_X1_hasCounter : GoodIn wsX1_tryDraw wsX1_hasCounter := goodIn_r _ [6, 7, 32, 33, 34, 35, 36, 37, 38, 39, 40, 41, 42, 43, 44] (by decide +kernel) (by decide +kernel)
set_option maxRecDepth 20000 in
theorem gX1_tryDraw_X1_hasCounter : GoodIn wsX1_tryDraw (wsV RX1 96 RX1 yX1_hasCounter wsX1_hasCounter) := goodIn_app (goodIn_of _ (by decide +kernel)) ggX1_tryDraw_X1_hasCounter
set_option maxRecDepth 20000 in
theorem ggX1_tryDraw_X1_drawFrom : GoodIn wsX1_tryDraw wsX1_drawFrom := goodIn_r _ [11, 1, 12, 13, 14, 15, 16, 17, 18, 19, 20, 5, 21, 22, 23, 24, 25, 26, 27, 28, 29, 30, 31, 32, 33, 34, 35, 36, 37, 38, 39, 40, 41, 42, 43, 44] (by decide +kernel) (by decide +kernel)
set_option maxRecDepth 20000 in
theorem gX1_tryDraw_X1_drawFrom : GoodIn wsX1_tryDraw (wsV RX1 105 RX1 yX1_drawFrom wsX1_drawFrom) := goodIn_app (goodIn_of _ (by decide +kernel)) ggX1_tryDraw_X1_drawFrom
theorem dX1_tryDraw_0 : decode cX1_tryDraw 0 = .ok (.aload_n 0, 1) := by decide +kernel
theorem dX1_tryDraw_1 : decode cX1_tryDraw 1 = .ok (.iload_n 1, 1) := by decide +kernel
theorem dX1_tryDraw_2 : decode cX1_tryDraw 2 = .ok (.invokevirtual 96, 3) := by decide +kernel
theorem dX1_tryDraw_5 : decode cX1_tryDraw 5 = .ok (.ifCond .eq 12, 3) := by decide +kernel
theorem dX1_tryDraw_8 : decode cX1_tryDraw 8 = .ok (.aload_n 0, 1) := by decide +kernel
theorem dX1_tryDraw_9 : decode cX1_tryDraw 9 = .ok (.getfield 51, 3) := by decide +kernel
theorem dX1_tryDraw_12 : decode cX1_tryDraw 12 = .ok (.bipush 40, 2) := by decide +kernel
theorem dX1_tryDraw_14 : decode cX1_tryDraw 14 = .ok (.if_icmp .lt 5, 3) := by decide +kernel
theorem dX1_tryDraw_17 : decode cX1_tryDraw 17 = .ok (.iconst 0, 1) := by decide +kernel
theorem dX1_tryDraw_18 : decode cX1_tryDraw 18 = .ok (.ireturn, 1) := by decide +kernel
theorem dX1_tryDraw_19 : decode cX1_tryDraw 19 = .ok (.aload_n 0, 1) := by decide +kernel
theorem dX1_tryDraw_20 : decode cX1_tryDraw 20 = .ok (.iload_n 1, 1) := by decide +kernel
theorem dX1_tryDraw_21 : decode cX1_tryDraw 21 = .ok (.invokevirtual 105, 3) := by decide +kernel
theorem dX1_tryDraw_24 : decode cX1_tryDraw 24 = .ok (.pop, 1) := by decide +kernel
theorem dX1_tryDraw_25 : decode cX1_tryDraw 25 = .ok (.iconst 1, 1) := by decide +kernel
theorem dX1_tryDraw_26 : decode cX1_tryDraw 26 = .ok (.ireturn, 1) := by decide +kernel
set_option maxRecDepth 20000 in
theorem ggX1_changePlaces_X3_cellOf : GoodIn wsX1_changePlaces wsX3_cellOf := goodIn_r _ [6] (by decide +kernel) (by decide +kernel)
set_option maxRecDepth 20000 in
theorem gX1_changePlaces_X3_cellOf_n66 : GoodIn wsX1_changePlaces (wsX3_cellOf) := ggX1_changePlaces_X3_cellOf
theorem dX1_changePlaces_0 : decode cX1_changePlaces 0 = .ok (.iload_n 2, 1) := by decide +kernel
theorem dX1_changePlaces_1 : decode cX1_changePlaces 1 = .ok (.istore_n 3, 1) := by decide +kernel
theorem dX1_changePlaces_2 : decode cX1_changePlaces 2 = .ok (.iload_n 3, 1) := by decide +kernel
theorem dX1_changePlaces_3 : decode cX1_changePlaces 3 = .ok (.aload_n 0, 1) := by decide +kernel
theorem dX1_changePlaces_4 : decode cX1_changePlaces 4 = .ok (.getfield 9, 3) := by decide +kernel
theorem dX1_changePlaces_7 : decode cX1_changePlaces 7 = .ok (.iload_n 1, 1) := by decide +kernel
theorem dX1_changePlaces_8 : decode cX1_changePlaces 8 = .ok (.iaload, 1) := by decide +kernel
theorem dX1_changePlaces_9 : decode cX1_changePlaces 9 = .ok (.if_icmp .ge 31, 3) := by decide +kernel
theorem dX1_changePlaces_12 : decode cX1_changePlaces 12 = .ok (.aload_n 0, 1) := by decide +kernel
theorem dX1_changePlaces_13 : decode cX1_changePlaces 13 = .ok (.getfield 22, 3) := by decide +kernel
theorem dX1_changePlaces_16 : decode cX1_changePlaces 16 = .ok (.iload_n 1, 1) := by decide +kernel
theorem dX1_changePlaces_17 : decode cX1_changePlaces 17 = .ok (.iload_n 3, 1) := by decide +kernel
theorem dX1_changePlaces_18 : decode cX1_changePlaces 18 = .ok (.invokestatic 66, 3) := by decide +kernel
theorem dX1_changePlaces_21 : decode cX1_changePlaces 21 = .ok (.iconst 0, 1) := by decide +kernel
theorem dX1_changePlaces_22 : decode cX1_changePlaces 22 = .ok (.iastore, 1) := by decide +kernel
theorem dX1_changePlaces_23 : decode cX1_changePlaces 23 = .ok (.aload_n 0, 1) := by decide +kernel
theorem dX1_changePlaces_24 : decode cX1_changePlaces 24 = .ok (.getfield 25, 3) := by decide +kernel
theorem dX1_changePlaces_27 : decode cX1_changePlaces 27 = .ok (.iload_n 1, 1) := by decide +kernel
theorem dX1_changePlaces_28 : decode cX1_changePlaces 28 = .ok (.iload_n 3, 1) := by decide +kernel
theorem dX1_changePlaces_29 : decode cX1_changePlaces 29 = .ok (.invokestatic 66, 3) := by decide +kernel
theorem dX1_changePlaces_32 : decode cX1_changePlaces 32 = .ok (.iconst 0, 1) := by decide +kernel
theorem dX1_changePlaces_33 : decode cX1_changePlaces 33 = .ok (.iastore, 1) := by decide +kernel
theorem dX1_changePlaces_34 : decode cX1_changePlaces 34 = .ok (.iinc 3 1, 3) := by decide +kernel
theorem dX1_changePlaces_37 : decode cX1_changePlaces 37 = .ok (.goto (-35), 3) := by decide +kernel
theorem dX1_changePlaces_40 : decode cX1_changePlaces 40 = .ok (.aload_n 0, 1) := by decide +kernel
theorem dX1_changePlaces_41 : decode cX1_changePlaces 41 = .ok (.getfield 9, 3) := by decide +kernel
theorem dX1_changePlaces_44 : decode cX1_changePlaces 44 = .ok (.iload_n 1, 1) := by decide +kernel
theorem dX1_changePlaces_45 : decode cX1_changePlaces 45 = .ok (.iload_n 2, 1) := by decide +kernel
theorem dX1_changePlaces_46 : decode cX1_changePlaces 46 = .ok (.iastore, 1) := by decide +kernel
theorem dX1_changePlaces_47 : decode cX1_changePlaces 47 = .ok (.return_, 1) := by decide +kernel
set_option maxRecDepth 20000 in
theorem ggX1_pourInto_X3_cellOf : GoodIn wsX1_pourInto wsX3_cellOf := goodIn_r _ [7] (by decide +kernel) (by decide +kernel)
set_option maxRecDepth 20000 in
theorem gX1_pourInto_X3_cellOf_n66 : GoodIn wsX1_pourInto (wsX3_cellOf) := ggX1_pourInto_X3_cellOf
theorem dX1_pourInto_0 : decode cX1_pourInto 0 = .ok (.iconst 0, 1) := by decide +kernel
theorem dX1_pourInto_1 : decode cX1_pourInto 1 = .ok (.istore_n 3, 1) := by decide +kernel
theorem dX1_pourInto_2 : decode cX1_pourInto 2 = .ok (.iload_n 3, 1) := by decide +kernel
theorem dX1_pourInto_3 : decode cX1_pourInto 3 = .ok (.aload_n 0, 1) := by decide +kernel
theorem dX1_pourInto_4 : decode cX1_pourInto 4 = .ok (.getfield 9, 3) := by decide +kernel
theorem dX1_pourInto_7 : decode cX1_pourInto 7 = .ok (.iload_n 1, 1) := by decide +kernel
theorem dX1_pourInto_8 : decode cX1_pourInto 8 = .ok (.iaload, 1) := by decide +kernel
theorem dX1_pourInto_9 : decode cX1_pourInto 9 = .ok (.if_icmp .ge 88, 3) := by decide +kernel
theorem dX1_pourInto_12 : decode cX1_pourInto 12 = .ok (.iload_n 1, 1) := by decide +kernel
theorem dX1_pourInto_13 : decode cX1_pourInto 13 = .ok (.iload_n 3, 1) := by decide +kernel
theorem dX1_pourInto_14 : decode cX1_pourInto 14 = .ok (.invokestatic 66, 3) := by decide +kernel
theorem dX1_pourInto_17 : decode cX1_pourInto 17 = .ok (.istore 4, 2) := by decide +kernel
theorem dX1_pourInto_19 : decode cX1_pourInto 19 = .ok (.aload_n 0, 1) := by decide +kernel
theorem dX1_pourInto_20 : decode cX1_pourInto 20 = .ok (.getfield 22, 3) := by decide +kernel
theorem dX1_pourInto_23 : decode cX1_pourInto 23 = .ok (.iload 4, 2) := by decide +kernel
theorem dX1_pourInto_25 : decode cX1_pourInto 25 = .ok (.iaload, 1) := by decide +kernel
theorem dX1_pourInto_26 : decode cX1_pourInto 26 = .ok (.aload_n 0, 1) := by decide +kernel
theorem dX1_pourInto_27 : decode cX1_pourInto 27 = .ok (.getfield 25, 3) := by decide +kernel
theorem dX1_pourInto_30 : decode cX1_pourInto 30 = .ok (.iload 4, 2) := by decide +kernel
theorem dX1_pourInto_32 : decode cX1_pourInto 32 = .ok (.iaload, 1) := by decide +kernel
theorem dX1_pourInto_33 : decode cX1_pourInto 33 = .ok (.iadd, 1) := by decide +kernel
theorem dX1_pourInto_34 : decode cX1_pourInto 34 = .ok (.istore 5, 2) := by decide +kernel
theorem dX1_pourInto_36 : decode cX1_pourInto 36 = .ok (.aload_n 0, 1) := by decide +kernel
theorem dX1_pourInto_37 : decode cX1_pourInto 37 = .ok (.getfield 22, 3) := by decide +kernel
theorem dX1_pourInto_40 : decode cX1_pourInto 40 = .ok (.iload 4, 2) := by decide +kernel
theorem dX1_pourInto_42 : decode cX1_pourInto 42 = .ok (.iconst 0, 1) := by decide +kernel
theorem dX1_pourInto_43 : decode cX1_pourInto 43 = .ok (.iastore, 1) := by decide +kernel
theorem dX1_pourInto_44 : decode cX1_pourInto 44 = .ok (.aload_n 0, 1) := by decide +kernel
theorem dX1_pourInto_45 : decode cX1_pourInto 45 = .ok (.getfield 25, 3) := by decide +kernel
theorem dX1_pourInto_48 : decode cX1_pourInto 48 = .ok (.iload 4, 2) := by decide +kernel
theorem dX1_pourInto_50 : decode cX1_pourInto 50 = .ok (.iconst 0, 1) := by decide +kernel
theorem dX1_pourInto_51 : decode cX1_pourInto 51 = .ok (.iastore, 1) := by decide +kernel
theorem dX1_pourInto_52 : decode cX1_pourInto 52 = .ok (.iload_n 3, 1) := by decide +kernel
theorem dX1_pourInto_53 : decode cX1_pourInto 53 = .ok (.aload_n 0, 1) := by decide +kernel
theorem dX1_pourInto_54 : decode cX1_pourInto 54 = .ok (.getfield 9, 3) := by decide +kernel
theorem dX1_pourInto_57 : decode cX1_pourInto 57 = .ok (.iload_n 2, 1) := by decide +kernel
theorem dX1_pourInto_58 : decode cX1_pourInto 58 = .ok (.iaload, 1) := by decide +kernel
theorem dX1_pourInto_59 : decode cX1_pourInto 59 = .ok (.if_icmp .ge 21, 3) := by decide +kernel
theorem dX1_pourInto_62 : decode cX1_pourInto 62 = .ok (.aload_n 0, 1) := by decide +kernel
theorem dX1_pourInto_63 : decode cX1_pourInto 63 = .ok (.getfield 25, 3) := by decide +kernel
theorem dX1_pourInto_66 : decode cX1_pourInto 66 = .ok (.iload_n 2, 1) := by decide +kernel
theorem dX1_pourInto_67 : decode cX1_pourInto 67 = .ok (.iload_n 3, 1) := by decide +kernel
theorem dX1_pourInto_68 : decode cX1_pourInto 68 = .ok (.invokestatic 66, 3) := by decide +kernel
theorem dX1_pourInto_71 : decode cX1_pourInto 71 = .ok (.dup2, 1) := by decide +kernel
theorem dX1_pourInto_72 : decode cX1_pourInto 72 = .ok (.iaload, 1) := by decide +kernel
theorem dX1_pourInto_73 : decode cX1_pourInto 73 = .ok (.iload 5, 2) := by decide +kernel
theorem dX1_pourInto_75 : decode cX1_pourInto 75 = .ok (.iadd, 1) := by decide +kernel
theorem dX1_pourInto_76 : decode cX1_pourInto 76 = .ok (.iastore, 1) := by decide +kernel
theorem dX1_pourInto_77 : decode cX1_pourInto 77 = .ok (.goto 14, 3) := by decide +kernel
theorem dX1_pourInto_80 : decode cX1_pourInto 80 = .ok (.aload_n 0, 1) := by decide +kernel
theorem dX1_pourInto_81 : decode cX1_pourInto 81 = .ok (.getfield 19, 3) := by decide +kernel
theorem dX1_pourInto_84 : decode cX1_pourInto 84 = .ok (.iload_n 2, 1) := by decide +kernel
theorem dX1_pourInto_85 : decode cX1_pourInto 85 = .ok (.dup2, 1) := by decide +kernel
theorem dX1_pourInto_86 : decode cX1_pourInto 86 = .ok (.iaload, 1) := by decide +kernel
theorem dX1_pourInto_87 : decode cX1_pourInto 87 = .ok (.iload 5, 2) := by decide +kernel
theorem dX1_pourInto_89 : decode cX1_pourInto 89 = .ok (.iadd, 1) := by decide +kernel
theorem dX1_pourInto_90 : decode cX1_pourInto 90 = .ok (.iastore, 1) := by decide +kernel
theorem dX1_pourInto_91 : decode cX1_pourInto 91 = .ok (.iinc 3 1, 3) := by decide +kernel
theorem dX1_pourInto_94 : decode cX1_pourInto 94 = .ok (.goto (-92), 3) := by decide +kernel
theorem dX1_pourInto_97 : decode cX1_pourInto 97 = .ok (.return_, 1) := by decide +kernel
set_option maxRecDepth 20000 in
theorem ggX1_tryPour_X1_hasCounter : GoodIn wsX1_tryPour wsX1_hasCounter := goodIn_r _ [5, 6, 18, 19, 20, 21, 22, 23, 24, 25, 26, 27, 28, 29, 30] (by decide +kernel) (by decide +kernel)
set_option maxRecDepth 20000 in
theorem gX1_tryPour_X1_hasCounter : GoodIn wsX1_tryPour (wsV RX1 96 RX1 yX1_hasCounter wsX1_hasCounter) := goodIn_app (goodIn_of _ (by decide +kernel)) ggX1_tryPour_X1_hasCounter
set_option maxRecDepth 20000 in
theorem ggX1_tryPour_X1_pourInto : GoodIn wsX1_tryPour wsX1_pourInto := goodIn_r _ [10, 11, 12, 13, 14, 15, 16, 17, 18, 19, 20, 21, 22, 23, 24, 25, 26, 27, 28, 29, 30] (by decide +kernel) (by decide +kernel)
set_option maxRecDepth 20000 in
theorem gX1_tryPour_X1_pourInto : GoodIn wsX1_tryPour (wsV RX1 108 RX1 yX1_pourInto wsX1_pourInto) := goodIn_app (goodIn_of _ (by decide +kernel)) ggX1_tryPour_X1_pourInto
theorem dX1_tryPour_0 : decode cX1_tryPour 0 = .ok (.aload_n 0, 1) := by decide +kernel
theorem dX1_tryPour_1 : decode cX1_tryPour 1 = .ok (.iload_n 1, 1) := by decide +kernel
theorem dX1_tryPour_2 : decode cX1_tryPour 2 = .ok (.invokevirtual 96, 3) := by decide +kernel
theorem dX1_tryPour_5 : decode cX1_tryPour 5 = .ok (.ifCond .eq 22, 3) := by decide +kernel
theorem dX1_tryPour_8 : decode cX1_tryPour 8 = .ok (.aload_n 0, 1) := by decide +kernel
theorem dX1_tryPour_9 : decode cX1_tryPour 9 = .ok (.iload_n 2, 1) := by decide +kernel
theorem dX1_tryPour_10 : decode cX1_tryPour 10 = .ok (.invokevirtual 96, 3) := by decide +kernel
theorem dX1_tryPour_13 : decode cX1_tryPour 13 = .ok (.ifCond .eq 14, 3) := by decide +kernel
theorem dX1_tryPour_16 : decode cX1_tryPour 16 = .ok (.iload_n 1, 1) := by decide +kernel
theorem dX1_tryPour_17 : decode cX1_tryPour 17 = .ok (.iload_n 2, 1) := by decide +kernel
theorem dX1_tryPour_18 : decode cX1_tryPour 18 = .ok (.if_icmp .eq 9, 3) := by decide +kernel
theorem dX1_tryPour_21 : decode cX1_tryPour 21 = .ok (.aload_n 0, 1) := by decide +kernel
theorem dX1_tryPour_22 : decode cX1_tryPour 22 = .ok (.iload_n 1, 1) := by decide +kernel
theorem dX1_tryPour_23 : decode cX1_tryPour 23 = .ok (.iload_n 2, 1) := by decide +kernel
theorem dX1_tryPour_24 : decode cX1_tryPour 24 = .ok (.invokevirtual 108, 3) := by decide +kernel
theorem dX1_tryPour_27 : decode cX1_tryPour 27 = .ok (.return_, 1) := by decide +kernel
set_option maxRecDepth 20000 in
theorem ggX1_passBeats_X1_passBeat : GoodIn wsX1_passBeats wsX1_passBeat := goodIn_r _ [7, 8, 9, 10, 11, 12, 13, 14, 15, 6, 16, 17, 18, 19, 20, 21, 22, 23, 24, 25, 26, 27, 28, 29, 30, 31, 32, 33, 34, 35, 36, 37, 38, 39, 40, 41, 42, 1, 43, 44, 45, 46, 47, 48, 49, 50, 51, 52, 53, 54, 55] (by decide +kernel) (by decide +kernel)
set_option maxRecDepth 20000 in
theorem gX1_passBeats_X1_passBeat : GoodIn wsX1_passBeats (wsV RX1 112 RX1 yX1_passBeat wsX1_passBeat) := goodIn_app (goodIn_of _ (by decide +kernel)) ggX1_passBeats_X1_passBeat
theorem dX1_passBeats_0 : decode cX1_passBeats 0 = .ok (.iconst 0, 1) := by decide +kernel
theorem dX1_passBeats_1 : decode cX1_passBeats 1 = .ok (.istore_n 2, 1) := by decide +kernel
theorem dX1_passBeats_2 : decode cX1_passBeats 2 = .ok (.iload_n 2, 1) := by decide +kernel
theorem dX1_passBeats_3 : decode cX1_passBeats 3 = .ok (.iload_n 1, 1) := by decide +kernel
theorem dX1_passBeats_4 : decode cX1_passBeats 4 = .ok (.if_icmp .ge 30, 3) := by decide +kernel
theorem dX1_passBeats_7 : decode cX1_passBeats 7 = .ok (.aload_n 0, 1) := by decide +kernel
theorem dX1_passBeats_8 : decode cX1_passBeats 8 = .ok (.iconst 0, 1) := by decide +kernel
theorem dX1_passBeats_9 : decode cX1_passBeats 9 = .ok (.aload_n 0, 1) := by decide +kernel
theorem dX1_passBeats_10 : decode cX1_passBeats 10 = .ok (.getfield 41, 3) := by decide +kernel
theorem dX1_passBeats_13 : decode cX1_passBeats 13 = .ok (.iconst 1, 1) := by decide +kernel
theorem dX1_passBeats_14 : decode cX1_passBeats 14 = .ok (.isub, 1) := by decide +kernel
theorem dX1_passBeats_15 : decode cX1_passBeats 15 = .ok (.invokevirtual 112, 3) := by decide +kernel
theorem dX1_passBeats_18 : decode cX1_passBeats 18 = .ok (.aload_n 0, 1) := by decide +kernel
theorem dX1_passBeats_19 : decode cX1_passBeats 19 = .ok (.dup, 1) := by decide +kernel
theorem dX1_passBeats_20 : decode cX1_passBeats 20 = .ok (.getfield 48, 3) := by decide +kernel
theorem dX1_passBeats_23 : decode cX1_passBeats 23 = .ok (.iconst 1, 1) := by decide +kernel
theorem dX1_passBeats_24 : decode cX1_passBeats 24 = .ok (.iadd, 1) := by decide +kernel
theorem dX1_passBeats_25 : decode cX1_passBeats 25 = .ok (.putfield 48, 3) := by decide +kernel
theorem dX1_passBeats_28 : decode cX1_passBeats 28 = .ok (.iinc 2 1, 3) := by decide +kernel
theorem dX1_passBeats_31 : decode cX1_passBeats 31 = .ok (.goto (-29), 3) := by decide +kernel
theorem dX1_passBeats_34 : decode cX1_passBeats 34 = .ok (.return_, 1) := by decide +kernel
set_option maxRecDepth 20000 in
theorem ggX1_passBeat_X3_cellOf : GoodIn wsX1_passBeat wsX3_cellOf := goodIn_r _ [5] (by decide +kernel) (by decide +kernel)
set_option maxRecDepth 20000 in
theorem gX1_passBeat_X3_cellOf_n66 : GoodIn wsX1_passBeat (wsX3_cellOf) := ggX1_passBeat_X3_cellOf
set_option maxRecDepth 20000 in
theorem ggX1_passBeat_X1_takeUp : GoodIn wsX1_passBeat wsX1_takeUp := goodIn_r _ [10, 11, 2, 12, 13, 14, 15, 16, 17, 18, 19, 3, 4, 5, 20, 21, 22, 23, 24, 25, 26, 27, 28, 29, 9, 30, 1, 31, 32, 33, 34, 35, 36, 37, 38, 39, 40, 41, 42, 43, 44, 45, 46, 47, 48, 49, 50] (by decide +kernel) (by decide +kernel)
set_option maxRecDepth 20000 in
theorem gX1_passBeat_X1_takeUp : GoodIn wsX1_passBeat (wsV RX1 115 RX1 yX1_takeUp wsX1_takeUp) := goodIn_app (goodIn_of _ (by decide +kernel)) ggX1_passBeat_X1_takeUp
theorem dX1_passBeat_0 : decode cX1_passBeat 0 = .ok (.iload_n 2, 1) := by decide +kernel
theorem dX1_passBeat_1 : decode cX1_passBeat 1 = .ok (.istore_n 3, 1) := by decide +kernel
theorem dX1_passBeat_2 : decode cX1_passBeat 2 = .ok (.iload_n 3, 1) := by decide +kernel
theorem dX1_passBeat_3 : decode cX1_passBeat 3 = .ok (.iload_n 1, 1) := by decide +kernel
theorem dX1_passBeat_4 : decode cX1_passBeat 4 = .ok (.if_icmp .lt 51, 3) := by decide +kernel
theorem dX1_passBeat_7 : decode cX1_passBeat 7 = .ok (.aload_n 0, 1) := by decide +kernel
theorem dX1_passBeat_8 : decode cX1_passBeat 8 = .ok (.getfield 9, 3) := by decide +kernel
theorem dX1_passBeat_11 : decode cX1_passBeat 11 = .ok (.iload_n 3, 1) := by decide +kernel
theorem dX1_passBeat_12 : decode cX1_passBeat 12 = .ok (.iaload, 1) := by decide +kernel
theorem dX1_passBeat_13 : decode cX1_passBeat 13 = .ok (.iconst 1, 1) := by decide +kernel
theorem dX1_passBeat_14 : decode cX1_passBeat 14 = .ok (.isub, 1) := by decide +kernel
theorem dX1_passBeat_15 : decode cX1_passBeat 15 = .ok (.istore 4, 2) := by decide +kernel
theorem dX1_passBeat_17 : decode cX1_passBeat 17 = .ok (.iload 4, 2) := by decide +kernel
theorem dX1_passBeat_19 : decode cX1_passBeat 19 = .ok (.ifCond .lt 30, 3) := by decide +kernel
theorem dX1_passBeat_22 : decode cX1_passBeat 22 = .ok (.aload_n 0, 1) := by decide +kernel
theorem dX1_passBeat_23 : decode cX1_passBeat 23 = .ok (.getfield 25, 3) := by decide +kernel
theorem dX1_passBeat_26 : decode cX1_passBeat 26 = .ok (.iload_n 3, 1) := by decide +kernel
theorem dX1_passBeat_27 : decode cX1_passBeat 27 = .ok (.iload 4, 2) := by decide +kernel
theorem dX1_passBeat_29 : decode cX1_passBeat 29 = .ok (.invokestatic 66, 3) := by decide +kernel
theorem dX1_passBeat_32 : decode cX1_passBeat 32 = .ok (.iaload, 1) := by decide +kernel
theorem dX1_passBeat_33 : decode cX1_passBeat 33 = .ok (.ifCond .eq 10, 3) := by decide +kernel
theorem dX1_passBeat_36 : decode cX1_passBeat 36 = .ok (.aload_n 0, 1) := by decide +kernel
theorem dX1_passBeat_37 : decode cX1_passBeat 37 = .ok (.iload_n 3, 1) := by decide +kernel
theorem dX1_passBeat_38 : decode cX1_passBeat 38 = .ok (.iload 4, 2) := by decide +kernel
theorem dX1_passBeat_40 : decode cX1_passBeat 40 = .ok (.invokevirtual 115, 3) := by decide +kernel
theorem dX1_passBeat_43 : decode cX1_passBeat 43 = .ok (.iinc 4 (-1), 3) := by decide +kernel
theorem dX1_passBeat_46 : decode cX1_passBeat 46 = .ok (.goto (-29), 3) := by decide +kernel
theorem dX1_passBeat_49 : decode cX1_passBeat 49 = .ok (.iinc 3 (-1), 3) := by decide +kernel
theorem dX1_passBeat_52 : decode cX1_passBeat 52 = .ok (.goto (-50), 3) := by decide +kernel
theorem dX1_passBeat_55 : decode cX1_passBeat 55 = .ok (.return_, 1) := by decide +kernel
set_option maxRecDepth 20000 in
theorem ggX1_takeUp_X3_cellOf : GoodIn wsX1_takeUp wsX3_cellOf := goodIn_r _ [13] (by decide +kernel) (by decide +kernel)
set_option maxRecDepth 20000 in
theorem gX1_takeUp_X3_cellOf_n66 : GoodIn wsX1_takeUp (wsX3_cellOf) := ggX1_takeUp_X3_cellOf
set_option maxRecDepth 20000 in
theorem ggX1_takeUp_J9_floorMod_7cf53 : GoodIn wsX1_takeUp wsJ9_floorMod_7cf53 := goodIn_r _ [17] (by decide +kernel) (by decide +kernel)
set_option maxRecDepth 20000 in
theorem gX1_takeUp_J9_floorMod_7cf53 : GoodIn wsX1_takeUp (va_wsS RX1 124 yJ9_floorMod_7cf53 wsJ9_floorMod_7cf53) := goodIn_app (goodIn_of _ (by decide +kernel)) ggX1_takeUp_J9_floorMod_7cf53
set_option maxRecDepth 20000 in
theorem ggX1_takeUp_J9_floorDiv_7cf53 : GoodIn wsX1_takeUp wsJ9_floorDiv_7cf53 := goodIn_r _ [20] (by decide +kernel) (by decide +kernel)
set_option maxRecDepth 20000 in
theorem gX1_takeUp_J9_floorDiv_7cf53 : GoodIn wsX1_takeUp (va_wsS RX1 127 yJ9_floorDiv_7cf53 wsJ9_floorDiv_7cf53) := goodIn_app (goodIn_of _ (by decide +kernel)) ggX1_takeUp_J9_floorDiv_7cf53
set_option maxRecDepth 20000 in
theorem ggX1_takeUp_X1_handOn : GoodIn wsX1_takeUp wsX1_handOn := goodIn_r _ [25, 26, 2, 27, 28, 11, 12, 13, 29, 30, 31, 24, 32, 33, 34, 35, 36, 37, 38, 39, 40, 41, 42, 43, 44, 45, 46] (by decide +kernel) (by decide +kernel)
set_option maxRecDepth 20000 in
theorem gX1_takeUp_X1_handOn : GoodIn wsX1_takeUp (wsV RX1 130 RX1 yX1_handOn wsX1_handOn) := goodIn_app (goodIn_of _ (by decide +kernel)) ggX1_takeUp_X1_handOn
theorem dX1_takeUp_0 : decode cX1_takeUp 0 = .ok (.iload_n 1, 1) := by decide +kernel
theorem dX1_takeUp_1 : decode cX1_takeUp 1 = .ok (.iload_n 2, 1) := by decide +kernel
theorem dX1_takeUp_2 : decode cX1_takeUp 2 = .ok (.invokestatic 66, 3) := by decide +kernel
theorem dX1_takeUp_5 : decode cX1_takeUp 5 = .ok (.istore_n 3, 1) := by decide +kernel
theorem dX1_takeUp_6 : decode cX1_takeUp 6 = .ok (.aload_n 0, 1) := by decide +kernel
theorem dX1_takeUp_7 : decode cX1_takeUp 7 = .ok (.getfield 45, 3) := by decide +kernel
theorem dX1_takeUp_10 : decode cX1_takeUp 10 = .ok (.ineg, 1) := by decide +kernel
theorem dX1_takeUp_11 : decode cX1_takeUp 11 = .ok (.aload_n 0, 1) := by decide +kernel
theorem dX1_takeUp_12 : decode cX1_takeUp 12 = .ok (.getfield 45, 3) := by decide +kernel
theorem dX1_takeUp_15 : decode cX1_takeUp 15 = .ok (.aload_n 0, 1) := by decide +kernel
theorem dX1_takeUp_16 : decode cX1_takeUp 16 = .ok (.getfield 25, 3) := by decide +kernel
theorem dX1_takeUp_19 : decode cX1_takeUp 19 = .ok (.iload_n 3, 1) := by decide +kernel
theorem dX1_takeUp_20 : decode cX1_takeUp 20 = .ok (.iaload, 1) := by decide +kernel
theorem dX1_takeUp_21 : decode cX1_takeUp 21 = .ok (.invokestatic 118, 3) := by decide +kernel
theorem dX1_takeUp_24 : decode cX1_takeUp 24 = .ok (.invokestatic 121, 3) := by decide +kernel
theorem dX1_takeUp_27 : decode cX1_takeUp 27 = .ok (.istore 4, 2) := by decide +kernel
theorem dX1_takeUp_29 : decode cX1_takeUp 29 = .ok (.aload_n 0, 1) := by decide +kernel
theorem dX1_takeUp_30 : decode cX1_takeUp 30 = .ok (.getfield 22, 3) := by decide +kernel
theorem dX1_takeUp_33 : decode cX1_takeUp 33 = .ok (.iload_n 3, 1) := by decide +kernel
theorem dX1_takeUp_34 : decode cX1_takeUp 34 = .ok (.iaload, 1) := by decide +kernel
theorem dX1_takeUp_35 : decode cX1_takeUp 35 = .ok (.iload 4, 2) := by decide +kernel
theorem dX1_takeUp_37 : decode cX1_takeUp 37 = .ok (.iadd, 1) := by decide +kernel
theorem dX1_takeUp_38 : decode cX1_takeUp 38 = .ok (.istore 5, 2) := by decide +kernel
theorem dX1_takeUp_40 : decode cX1_takeUp 40 = .ok (.aload_n 0, 1) := by decide +kernel
theorem dX1_takeUp_41 : decode cX1_takeUp 41 = .ok (.getfield 25, 3) := by decide +kernel
theorem dX1_takeUp_44 : decode cX1_takeUp 44 = .ok (.iload_n 3, 1) := by decide +kernel
theorem dX1_takeUp_45 : decode cX1_takeUp 45 = .ok (.dup2, 1) := by decide +kernel
theorem dX1_takeUp_46 : decode cX1_takeUp 46 = .ok (.iaload, 1) := by decide +kernel
theorem dX1_takeUp_47 : decode cX1_takeUp 47 = .ok (.iload 4, 2) := by decide +kernel
theorem dX1_takeUp_49 : decode cX1_takeUp 49 = .ok (.isub, 1) := by decide +kernel
theorem dX1_takeUp_50 : decode cX1_takeUp 50 = .ok (.iastore, 1) := by decide +kernel
theorem dX1_takeUp_51 : decode cX1_takeUp 51 = .ok (.aload_n 0, 1) := by decide +kernel
theorem dX1_takeUp_52 : decode cX1_takeUp 52 = .ok (.getfield 22, 3) := by decide +kernel
theorem dX1_takeUp_55 : decode cX1_takeUp 55 = .ok (.iload_n 3, 1) := by decide +kernel
theorem dX1_takeUp_56 : decode cX1_takeUp 56 = .ok (.iload 5, 2) := by decide +kernel
theorem dX1_takeUp_58 : decode cX1_takeUp 58 = .ok (.iconst 3, 1) := by decide +kernel
theorem dX1_takeUp_59 : decode cX1_takeUp 59 = .ok (.invokestatic 124, 3) := by decide +kernel
theorem dX1_takeUp_62 : decode cX1_takeUp 62 = .ok (.iastore, 1) := by decide +kernel
theorem dX1_takeUp_63 : decode cX1_takeUp 63 = .ok (.aload_n 0, 1) := by decide +kernel
theorem dX1_takeUp_64 : decode cX1_takeUp 64 = .ok (.iload_n 1, 1) := by decide +kernel
theorem dX1_takeUp_65 : decode cX1_takeUp 65 = .ok (.iload_n 2, 1) := by decide +kernel
theorem dX1_takeUp_66 : decode cX1_takeUp 66 = .ok (.iload 5, 2) := by decide +kernel
theorem dX1_takeUp_68 : decode cX1_takeUp 68 = .ok (.iconst 3, 1) := by decide +kernel
theorem dX1_takeUp_69 : decode cX1_takeUp 69 = .ok (.invokestatic 127, 3) := by decide +kernel
theorem dX1_takeUp_72 : decode cX1_takeUp 72 = .ok (.invokevirtual 130, 3) := by decide +kernel
theorem dX1_takeUp_75 : decode cX1_takeUp 75 = .ok (.return_, 1) := by decide +kernel
set_option maxRecDepth 20000 in
theorem ggX1_handOn_X3_cellOf : GoodIn wsX1_handOn wsX3_cellOf := goodIn_r _ [7] (by decide +kernel) (by decide +kernel)
set_option maxRecDepth 20000 in
theorem gX1_handOn_X3_cellOf_n66 : GoodIn wsX1_handOn (wsX3_cellOf) := ggX1_handOn_X3_cellOf
set_option maxRecDepth 20000 in
theorem ggX1_handOn_X1_canLink : GoodIn wsX1_handOn wsX1_canLink := goodIn_r _ [12, 13, 14, 15, 16, 17, 18, 19, 20, 21, 22, 23, 24, 25, 26] (by decide +kernel) (by decide +kernel)
set_option maxRecDepth 20000 in
theorem gX1_handOn_X1_canLink : GoodIn wsX1_handOn (wsV RX1 134 RX1 yX1_canLink wsX1_canLink) := goodIn_app (goodIn_of _ (by decide +kernel)) ggX1_handOn_X1_canLink
theorem dX1_handOn_0 : decode cX1_handOn 0 = .ok (.iload_n 2, 1) := by decide +kernel
theorem dX1_handOn_1 : decode cX1_handOn 1 = .ok (.iconst 1, 1) := by decide +kernel
theorem dX1_handOn_2 : decode cX1_handOn 2 = .ok (.iadd, 1) := by decide +kernel
theorem dX1_handOn_3 : decode cX1_handOn 3 = .ok (.aload_n 0, 1) := by decide +kernel
theorem dX1_handOn_4 : decode cX1_handOn 4 = .ok (.getfield 9, 3) := by decide +kernel
theorem dX1_handOn_7 : decode cX1_handOn 7 = .ok (.iload_n 1, 1) := by decide +kernel
theorem dX1_handOn_8 : decode cX1_handOn 8 = .ok (.iaload, 1) := by decide +kernel
theorem dX1_handOn_9 : decode cX1_handOn 9 = .ok (.if_icmp .ge 22, 3) := by decide +kernel
theorem dX1_handOn_12 : decode cX1_handOn 12 = .ok (.aload_n 0, 1) := by decide +kernel
theorem dX1_handOn_13 : decode cX1_handOn 13 = .ok (.getfield 25, 3) := by decide +kernel
theorem dX1_handOn_16 : decode cX1_handOn 16 = .ok (.iload_n 1, 1) := by decide +kernel
theorem dX1_handOn_17 : decode cX1_handOn 17 = .ok (.iload_n 2, 1) := by decide +kernel
theorem dX1_handOn_18 : decode cX1_handOn 18 = .ok (.iconst 1, 1) := by decide +kernel
theorem dX1_handOn_19 : decode cX1_handOn 19 = .ok (.iadd, 1) := by decide +kernel
theorem dX1_handOn_20 : decode cX1_handOn 20 = .ok (.invokestatic 66, 3) := by decide +kernel
theorem dX1_handOn_23 : decode cX1_handOn 23 = .ok (.dup2, 1) := by decide +kernel
theorem dX1_handOn_24 : decode cX1_handOn 24 = .ok (.iaload, 1) := by decide +kernel
theorem dX1_handOn_25 : decode cX1_handOn 25 = .ok (.iload_n 3, 1) := by decide +kernel
theorem dX1_handOn_26 : decode cX1_handOn 26 = .ok (.iadd, 1) := by decide +kernel
theorem dX1_handOn_27 : decode cX1_handOn 27 = .ok (.iastore, 1) := by decide +kernel
theorem dX1_handOn_28 : decode cX1_handOn 28 = .ok (.goto 49, 3) := by decide +kernel
theorem dX1_handOn_31 : decode cX1_handOn 31 = .ok (.aload_n 0, 1) := by decide +kernel
theorem dX1_handOn_32 : decode cX1_handOn 32 = .ok (.getfield 15, 3) := by decide +kernel
theorem dX1_handOn_35 : decode cX1_handOn 35 = .ok (.iload_n 1, 1) := by decide +kernel
theorem dX1_handOn_36 : decode cX1_handOn 36 = .ok (.baload, 1) := by decide +kernel
theorem dX1_handOn_37 : decode cX1_handOn 37 = .ok (.ifCond .eq 30, 3) := by decide +kernel
theorem dX1_handOn_40 : decode cX1_handOn 40 = .ok (.aload_n 0, 1) := by decide +kernel
theorem dX1_handOn_41 : decode cX1_handOn 41 = .ok (.iload_n 1, 1) := by decide +kernel
theorem dX1_handOn_42 : decode cX1_handOn 42 = .ok (.invokevirtual 134, 3) := by decide +kernel
theorem dX1_handOn_45 : decode cX1_handOn 45 = .ok (.ifCond .eq 22, 3) := by decide +kernel
theorem dX1_handOn_48 : decode cX1_handOn 48 = .ok (.aload_n 0, 1) := by decide +kernel
theorem dX1_handOn_49 : decode cX1_handOn 49 = .ok (.getfield 25, 3) := by decide +kernel
theorem dX1_handOn_52 : decode cX1_handOn 52 = .ok (.iload_n 1, 1) := by decide +kernel
theorem dX1_handOn_53 : decode cX1_handOn 53 = .ok (.iconst 1, 1) := by decide +kernel
theorem dX1_handOn_54 : decode cX1_handOn 54 = .ok (.iadd, 1) := by decide +kernel
theorem dX1_handOn_55 : decode cX1_handOn 55 = .ok (.iconst 0, 1) := by decide +kernel
theorem dX1_handOn_56 : decode cX1_handOn 56 = .ok (.invokestatic 66, 3) := by decide +kernel
theorem dX1_handOn_59 : decode cX1_handOn 59 = .ok (.dup2, 1) := by decide +kernel
theorem dX1_handOn_60 : decode cX1_handOn 60 = .ok (.iaload, 1) := by decide +kernel
theorem dX1_handOn_61 : decode cX1_handOn 61 = .ok (.iload_n 3, 1) := by decide +kernel
theorem dX1_handOn_62 : decode cX1_handOn 62 = .ok (.iadd, 1) := by decide +kernel
theorem dX1_handOn_63 : decode cX1_handOn 63 = .ok (.iastore, 1) := by decide +kernel
theorem dX1_handOn_64 : decode cX1_handOn 64 = .ok (.goto 13, 3) := by decide +kernel
theorem dX1_handOn_67 : decode cX1_handOn 67 = .ok (.aload_n 0, 1) := by decide +kernel
theorem dX1_handOn_68 : decode cX1_handOn 68 = .ok (.getfield 19, 3) := by decide +kernel
theorem dX1_handOn_71 : decode cX1_handOn 71 = .ok (.iload_n 1, 1) := by decide +kernel
theorem dX1_handOn_72 : decode cX1_handOn 72 = .ok (.dup2, 1) := by decide +kernel
theorem dX1_handOn_73 : decode cX1_handOn 73 = .ok (.iaload, 1) := by decide +kernel
theorem dX1_handOn_74 : decode cX1_handOn 74 = .ok (.iload_n 3, 1) := by decide +kernel
theorem dX1_handOn_75 : decode cX1_handOn 75 = .ok (.iadd, 1) := by decide +kernel
theorem dX1_handOn_76 : decode cX1_handOn 76 = .ok (.iastore, 1) := by decide +kernel
theorem dX1_handOn_77 : decode cX1_handOn 77 = .ok (.return_, 1) := by decide +kernel
theorem dX1_chainStart_0 : decode cX1_chainStart 0 = .ok (.iload_n 1, 1) := by decide +kernel
theorem dX1_chainStart_1 : decode cX1_chainStart 1 = .ok (.istore_n 2, 1) := by decide +kernel
theorem dX1_chainStart_2 : decode cX1_chainStart 2 = .ok (.iload_n 2, 1) := by decide +kernel
theorem dX1_chainStart_3 : decode cX1_chainStart 3 = .ok (.ifCond .le 20, 3) := by decide +kernel
theorem dX1_chainStart_6 : decode cX1_chainStart 6 = .ok (.aload_n 0, 1) := by decide +kernel
theorem dX1_chainStart_7 : decode cX1_chainStart 7 = .ok (.getfield 15, 3) := by decide +kernel
theorem dX1_chainStart_10 : decode cX1_chainStart 10 = .ok (.iload_n 2, 1) := by decide +kernel
theorem dX1_chainStart_11 : decode cX1_chainStart 11 = .ok (.iconst 1, 1) := by decide +kernel
theorem dX1_chainStart_12 : decode cX1_chainStart 12 = .ok (.isub, 1) := by decide +kernel
theorem dX1_chainStart_13 : decode cX1_chainStart 13 = .ok (.baload, 1) := by decide +kernel
theorem dX1_chainStart_14 : decode cX1_chainStart 14 = .ok (.ifCond .eq 9, 3) := by decide +kernel
theorem dX1_chainStart_17 : decode cX1_chainStart 17 = .ok (.iinc 2 (-1), 3) := by decide +kernel
theorem dX1_chainStart_20 : decode cX1_chainStart 20 = .ok (.goto (-18), 3) := by decide +kernel
theorem dX1_chainStart_23 : decode cX1_chainStart 23 = .ok (.iload_n 2, 1) := by decide +kernel
theorem dX1_chainStart_24 : decode cX1_chainStart 24 = .ok (.ireturn, 1) := by decide +kernel
set_option maxRecDepth 20000 in
theorem ggX1_firstAtWork_X1_isAtRest : GoodIn wsX1_firstAtWork wsX1_isAtRest := goodIn_r _ [5, 6, 7, 8, 4, 9, 10, 11, 12, 13, 14, 15, 16, 17, 18, 19, 20, 21, 22, 23, 24, 25, 26, 27] (by decide +kernel) (by decide +kernel)
set_option maxRecDepth 20000 in
theorem gX1_firstAtWork_X1_isAtRest : GoodIn wsX1_firstAtWork (wsV RX1 75 RX1 yX1_isAtRest wsX1_isAtRest) := goodIn_app (goodIn_of _ (by decide +kernel)) ggX1_firstAtWork_X1_isAtRest
theorem dX1_firstAtWork_0 : decode cX1_firstAtWork 0 = .ok (.iload_n 1, 1) := by decide +kernel
theorem dX1_firstAtWork_1 : decode cX1_firstAtWork 1 = .ok (.istore_n 3, 1) := by decide +kernel
theorem dX1_firstAtWork_2 : decode cX1_firstAtWork 2 = .ok (.iload_n 3, 1) := by decide +kernel
theorem dX1_firstAtWork_3 : decode cX1_firstAtWork 3 = .ok (.iload_n 2, 1) := by decide +kernel
theorem dX1_firstAtWork_4 : decode cX1_firstAtWork 4 = .ok (.if_icmp .gt 17, 3) := by decide +kernel
theorem dX1_firstAtWork_7 : decode cX1_firstAtWork 7 = .ok (.aload_n 0, 1) := by decide +kernel
theorem dX1_firstAtWork_8 : decode cX1_firstAtWork 8 = .ok (.iload_n 3, 1) := by decide +kernel
theorem dX1_firstAtWork_9 : decode cX1_firstAtWork 9 = .ok (.invokevirtual 75, 3) := by decide +kernel
theorem dX1_firstAtWork_12 : decode cX1_firstAtWork 12 = .ok (.ifCond .eq 9, 3) := by decide +kernel
theorem dX1_firstAtWork_15 : decode cX1_firstAtWork 15 = .ok (.iinc 3 1, 3) := by decide +kernel
theorem dX1_firstAtWork_18 : decode cX1_firstAtWork 18 = .ok (.goto (-16), 3) := by decide +kernel
theorem dX1_firstAtWork_21 : decode cX1_firstAtWork 21 = .ok (.iload_n 3, 1) := by decide +kernel
theorem dX1_firstAtWork_22 : decode cX1_firstAtWork 22 = .ok (.ireturn, 1) := by decide +kernel
set_option maxRecDepth 20000 in
theorem ggX1_runToRest_X1_chainStart : GoodIn wsX1_runToRest wsX1_chainStart := goodIn_r _ [6, 7, 59, 60, 61, 62, 63, 64, 65, 66, 67, 68, 69, 70, 71] (by decide +kernel) (by decide +kernel)
set_option maxRecDepth 20000 in
theorem gX1_runToRest_X1_chainStart : GoodIn wsX1_runToRest (wsV RX1 137 RX1 yX1_chainStart wsX1_chainStart) := goodIn_app (goodIn_of _ (by decide +kernel)) ggX1_runToRest_X1_chainStart
set_option maxRecDepth 20000 in
theorem ggX1_runToRest_X1_firstAtWork : GoodIn wsX1_runToRest wsX1_firstAtWork := goodIn_r _ [11, 12, 13, 14, 5, 15, 16, 17, 18, 19, 20, 21, 22, 23, 24, 59, 60, 61, 62, 63, 64, 65, 66, 67, 68, 69, 70, 71] (by decide +kernel) (by decide +kernel)
set_option maxRecDepth 20000 in
theorem gX1_runToRest_X1_firstAtWork : GoodIn wsX1_runToRest (wsV RX1 140 RX1 yX1_firstAtWork wsX1_firstAtWork) := goodIn_app (goodIn_of _ (by decide +kernel)) ggX1_runToRest_X1_firstAtWork
set_option maxRecDepth 20000 in
theorem ggX1_runToRest_X1_passBeat : GoodIn wsX1_runToRest wsX1_passBeat := goodIn_r _ [28, 20, 21, 22, 23, 24, 29, 30, 31, 5, 32, 33, 34, 35, 36, 37, 38, 39, 40, 41, 42, 43, 44, 45, 46, 47, 48, 49, 50, 51, 52, 7, 53, 54, 55, 56, 57, 58, 59, 60, 61, 62, 63, 64, 65, 66, 67, 68, 69, 70, 71] (by decide +kernel) (by decide +kernel)
set_option maxRecDepth 20000 in
theorem gX1_runToRest_X1_passBeat : GoodIn wsX1_runToRest (wsV RX1 112 RX1 yX1_passBeat wsX1_passBeat) := goodIn_app (goodIn_of _ (by decide +kernel)) ggX1_runToRest_X1_passBeat
theorem dX1_runToRest_0 : decode cX1_runToRest 0 = .ok (.aload_n 0, 1) := by decide +kernel
theorem dX1_runToRest_1 : decode cX1_runToRest 1 = .ok (.aload_n 0, 1) := by decide +kernel
theorem dX1_runToRest_2 : decode cX1_runToRest 2 = .ok (.iload_n 1, 1) := by decide +kernel
theorem dX1_runToRest_3 : decode cX1_runToRest 3 = .ok (.invokevirtual 137, 3) := by decide +kernel
theorem dX1_runToRest_6 : decode cX1_runToRest 6 = .ok (.iload_n 1, 1) := by decide +kernel
theorem dX1_runToRest_7 : decode cX1_runToRest 7 = .ok (.invokevirtual 140, 3) := by decide +kernel
theorem dX1_runToRest_10 : decode cX1_runToRest 10 = .ok (.istore_n 2, 1) := by decide +kernel
theorem dX1_runToRest_11 : decode cX1_runToRest 11 = .ok (.iconst 0, 1) := by decide +kernel
theorem dX1_runToRest_12 : decode cX1_runToRest 12 = .ok (.istore_n 3, 1) := by decide +kernel
theorem dX1_runToRest_13 : decode cX1_runToRest 13 = .ok (.iload_n 2, 1) := by decide +kernel
theorem dX1_runToRest_14 : decode cX1_runToRest 14 = .ok (.iload_n 1, 1) := by decide +kernel
theorem dX1_runToRest_15 : decode cX1_runToRest 15 = .ok (.if_icmp .gt 28, 3) := by decide +kernel
theorem dX1_runToRest_18 : decode cX1_runToRest 18 = .ok (.iload_n 3, 1) := by decide +kernel
theorem dX1_runToRest_19 : decode cX1_runToRest 19 = .ok (.ldc 143, 2) := by decide +kernel
theorem dX1_runToRest_21 : decode cX1_runToRest 21 = .ok (.if_icmp .ge 22, 3) := by decide +kernel
theorem dX1_runToRest_24 : decode cX1_runToRest 24 = .ok (.aload_n 0, 1) := by decide +kernel
theorem dX1_runToRest_25 : decode cX1_runToRest 25 = .ok (.iload_n 2, 1) := by decide +kernel
theorem dX1_runToRest_26 : decode cX1_runToRest 26 = .ok (.iload_n 1, 1) := by decide +kernel
theorem dX1_runToRest_27 : decode cX1_runToRest 27 = .ok (.invokevirtual 112, 3) := by decide +kernel
theorem dX1_runToRest_30 : decode cX1_runToRest 30 = .ok (.iinc 3 1, 3) := by decide +kernel
theorem dX1_runToRest_33 : decode cX1_runToRest 33 = .ok (.aload_n 0, 1) := by decide +kernel
theorem dX1_runToRest_34 : decode cX1_runToRest 34 = .ok (.iload_n 2, 1) := by decide +kernel
theorem dX1_runToRest_35 : decode cX1_runToRest 35 = .ok (.iload_n 1, 1) := by decide +kernel
theorem dX1_runToRest_36 : decode cX1_runToRest 36 = .ok (.invokevirtual 140, 3) := by decide +kernel
theorem dX1_runToRest_39 : decode cX1_runToRest 39 = .ok (.istore_n 2, 1) := by decide +kernel
theorem dX1_runToRest_40 : decode cX1_runToRest 40 = .ok (.goto (-27), 3) := by decide +kernel
theorem dX1_runToRest_43 : decode cX1_runToRest 43 = .ok (.iload_n 3, 1) := by decide +kernel
theorem dX1_runToRest_44 : decode cX1_runToRest 44 = .ok (.ireturn, 1) := by decide +kernel
set_option maxRecDepth 20000 in
theorem ggX1_runToReading_X1_chainStart : GoodIn wsX1_runToReading wsX1_chainStart := goodIn_r _ [6, 7, 63, 64, 65, 66, 67, 68, 69, 70, 71, 72, 73, 74, 75] (by decide +kernel) (by decide +kernel)
set_option maxRecDepth 20000 in
theorem gX1_runToReading_X1_chainStart : GoodIn wsX1_runToReading (wsV RX1 137 RX1 yX1_chainStart wsX1_chainStart) := goodIn_app (goodIn_of _ (by decide +kernel)) ggX1_runToReading_X1_chainStart
set_option maxRecDepth 20000 in
theorem ggX1_runToReading_X1_reading : GoodIn wsX1_runToReading wsX1_reading := goodIn_r _ [11, 12, 13, 14, 15, 16, 63, 64, 65, 66, 67, 68, 69, 70, 71, 72, 73, 74, 75] (by decide +kernel) (by decide +kernel)
set_option maxRecDepth 20000 in
theorem gX1_runToReading_X1_reading : GoodIn wsX1_runToReading (wsV RX1 83 RX1 yX1_reading wsX1_reading) := goodIn_app (goodIn_of _ (by decide +kernel)) ggX1_runToReading_X1_reading
set_option maxRecDepth 20000 in
theorem ggX1_runToReading_X1_firstAtWork : GoodIn wsX1_runToReading wsX1_firstAtWork := goodIn_r _ [20, 21, 22, 23, 5, 24, 25, 26, 27, 28, 12, 29, 14, 15, 16, 63, 64, 65, 66, 67, 68, 69, 70, 71, 72, 73, 74, 75] (by decide +kernel) (by decide +kernel)
set_option maxRecDepth 20000 in
theorem gX1_runToReading_X1_firstAtWork : GoodIn wsX1_runToReading (wsV RX1 140 RX1 yX1_firstAtWork wsX1_firstAtWork) := goodIn_app (goodIn_of _ (by decide +kernel)) ggX1_runToReading_X1_firstAtWork
set_option maxRecDepth 20000 in
theorem ggX1_runToReading_X1_passBeat : GoodIn wsX1_runToReading wsX1_passBeat := goodIn_r _ [33, 12, 29, 14, 15, 16, 34, 35, 36, 5, 37, 38, 39, 40, 41, 42, 43, 44, 45, 13, 46, 47, 48, 49, 50, 51, 52, 53, 54, 55, 56, 7, 57, 58, 59, 60, 61, 62, 63, 64, 65, 66, 67, 68, 69, 70, 71, 72, 73, 74, 75] (by decide +kernel) (by decide +kernel)
set_option maxRecDepth 20000 in
theorem gX1_runToReading_X1_passBeat : GoodIn wsX1_runToReading (wsV RX1 112 RX1 yX1_passBeat wsX1_passBeat) := goodIn_app (goodIn_of _ (by decide +kernel)) ggX1_runToReading_X1_passBeat
theorem dX1_runToReading_0 : decode cX1_runToReading 0 = .ok (.aload_n 0, 1) := by decide +kernel
theorem dX1_runToReading_1 : decode cX1_runToReading 1 = .ok (.iload_n 1, 1) := by decide +kernel
theorem dX1_runToReading_2 : decode cX1_runToReading 2 = .ok (.invokevirtual 137, 3) := by decide +kernel
theorem dX1_runToReading_5 : decode cX1_runToReading 5 = .ok (.istore_n 3, 1) := by decide +kernel
theorem dX1_runToReading_6 : decode cX1_runToReading 6 = .ok (.iconst 0, 1) := by decide +kernel
theorem dX1_runToReading_7 : decode cX1_runToReading 7 = .ok (.istore 4, 2) := by decide +kernel
theorem dX1_runToReading_9 : decode cX1_runToReading 9 = .ok (.iload 4, 2) := by decide +kernel
theorem dX1_runToReading_11 : decode cX1_runToReading 11 = .ok (.ldc 143, 2) := by decide +kernel
theorem dX1_runToReading_13 : decode cX1_runToReading 13 = .ok (.if_icmp .ge 41, 3) := by decide +kernel
theorem dX1_runToReading_16 : decode cX1_runToReading 16 = .ok (.aload_n 0, 1) := by decide +kernel
theorem dX1_runToReading_17 : decode cX1_runToReading 17 = .ok (.iload_n 1, 1) := by decide +kernel
theorem dX1_runToReading_18 : decode cX1_runToReading 18 = .ok (.invokevirtual 83, 3) := by decide +kernel
theorem dX1_runToReading_21 : decode cX1_runToReading 21 = .ok (.iload_n 2, 1) := by decide +kernel
theorem dX1_runToReading_22 : decode cX1_runToReading 22 = .ok (.if_icmp .ne 6, 3) := by decide +kernel
theorem dX1_runToReading_25 : decode cX1_runToReading 25 = .ok (.iload 4, 2) := by decide +kernel
theorem dX1_runToReading_27 : decode cX1_runToReading 27 = .ok (.ireturn, 1) := by decide +kernel
theorem dX1_runToReading_28 : decode cX1_runToReading 28 = .ok (.aload_n 0, 1) := by decide +kernel
theorem dX1_runToReading_29 : decode cX1_runToReading 29 = .ok (.iload_n 3, 1) := by decide +kernel
theorem dX1_runToReading_30 : decode cX1_runToReading 30 = .ok (.iload_n 1, 1) := by decide +kernel
theorem dX1_runToReading_31 : decode cX1_runToReading 31 = .ok (.invokevirtual 140, 3) := by decide +kernel
theorem dX1_runToReading_34 : decode cX1_runToReading 34 = .ok (.istore_n 3, 1) := by decide +kernel
theorem dX1_runToReading_35 : decode cX1_runToReading 35 = .ok (.iload_n 3, 1) := by decide +kernel
theorem dX1_runToReading_36 : decode cX1_runToReading 36 = .ok (.iload_n 1, 1) := by decide +kernel
theorem dX1_runToReading_37 : decode cX1_runToReading 37 = .ok (.if_icmp .le 5, 3) := by decide +kernel
theorem dX1_runToReading_40 : decode cX1_runToReading 40 = .ok (.iconst (-1), 1) := by decide +kernel
theorem dX1_runToReading_41 : decode cX1_runToReading 41 = .ok (.ireturn, 1) := by decide +kernel
theorem dX1_runToReading_42 : decode cX1_runToReading 42 = .ok (.aload_n 0, 1) := by decide +kernel
theorem dX1_runToReading_43 : decode cX1_runToReading 43 = .ok (.iload_n 3, 1) := by decide +kernel
theorem dX1_runToReading_44 : decode cX1_runToReading 44 = .ok (.iload_n 1, 1) := by decide +kernel
theorem dX1_runToReading_45 : decode cX1_runToReading 45 = .ok (.invokevirtual 112, 3) := by decide +kernel
theorem dX1_runToReading_48 : decode cX1_runToReading 48 = .ok (.iinc 4 1, 3) := by decide +kernel
theorem dX1_runToReading_51 : decode cX1_runToReading 51 = .ok (.goto (-42), 3) := by decide +kernel
theorem dX1_runToReading_54 : decode cX1_runToReading 54 = .ok (.iconst (-1), 1) := by decide +kernel
theorem dX1_runToReading_55 : decode cX1_runToReading 55 = .ok (.ireturn, 1) := by decide +kernel
theorem dX2_init_0 : decode cX2_init 0 = .ok (.aload_n 0, 1) := by decide +kernel
theorem dX2_init_1 : decode cX2_init 1 = .ok (.invokespecial 3, 3) := by decide +kernel
theorem dX2_init_4 : decode cX2_init 4 = .ok (.aload_n 0, 1) := by decide +kernel
theorem dX2_init_5 : decode cX2_init 5 = .ok (.bipush 100, 2) := by decide +kernel
theorem dX2_init_7 : decode cX2_init 7 = .ok (.newarray .char, 2) := by decide +kernel
theorem dX2_init_9 : decode cX2_init 9 = .ok (.putfield 9, 3) := by decide +kernel
theorem dX2_init_12 : decode cX2_init 12 = .ok (.return_, 1) := by decide +kernel
theorem dX2_put_0 : decode cX2_put 0 = .ok (.aload_n 0, 1) := by decide +kernel
theorem dX2_put_1 : decode cX2_put 1 = .ok (.getfield 15, 3) := by decide +kernel
theorem dX2_put_4 : decode cX2_put 4 = .ok (.bipush 100, 2) := by decide +kernel
theorem dX2_put_6 : decode cX2_put 6 = .ok (.if_icmp .ge 23, 3) := by decide +kernel
theorem dX2_put_9 : decode cX2_put 9 = .ok (.aload_n 0, 1) := by decide +kernel
theorem dX2_put_10 : decode cX2_put 10 = .ok (.getfield 9, 3) := by decide +kernel
theorem dX2_put_13 : decode cX2_put 13 = .ok (.aload_n 0, 1) := by decide +kernel
theorem dX2_put_14 : decode cX2_put 14 = .ok (.getfield 15, 3) := by decide +kernel
theorem dX2_put_17 : decode cX2_put 17 = .ok (.iload_n 1, 1) := by decide +kernel
theorem dX2_put_18 : decode cX2_put 18 = .ok (.castore, 1) := by decide +kernel
theorem dX2_put_19 : decode cX2_put 19 = .ok (.aload_n 0, 1) := by decide +kernel
theorem dX2_put_20 : decode cX2_put 20 = .ok (.dup, 1) := by decide +kernel
theorem dX2_put_21 : decode cX2_put 21 = .ok (.getfield 15, 3) := by decide +kernel
theorem dX2_put_24 : decode cX2_put 24 = .ok (.iconst 1, 1) := by decide +kernel
theorem dX2_put_25 : decode cX2_put 25 = .ok (.iadd, 1) := by decide +kernel
theorem dX2_put_26 : decode cX2_put 26 = .ok (.putfield 15, 3) := by decide +kernel
theorem dX2_put_29 : decode cX2_put 29 = .ok (.return_, 1) := by decide +kernel
set_option maxRecDepth 20000 in
theorem ggX2_firstWrong_X2_isDigit : GoodIn wsX2_firstWrong wsX2_isDigit := goodIn_r _ [6] (by decide +kernel) (by decide +kernel)
set_option maxRecDepth 20000 in
theorem gX2_firstWrong_X2_isDigit : GoodIn wsX2_firstWrong (va_wsS RX2 19 yX2_isDigit wsX2_isDigit) := goodIn_app (goodIn_of _ (by decide +kernel)) ggX2_firstWrong_X2_isDigit
set_option maxRecDepth 20000 in
theorem ggX2_firstWrong_X2_isMark : GoodIn wsX2_firstWrong wsX2_isMark := goodIn_r _ [9] (by decide +kernel) (by decide +kernel)
set_option maxRecDepth 20000 in
theorem gX2_firstWrong_X2_isMark : GoodIn wsX2_firstWrong (va_wsS RX2 23 yX2_isMark wsX2_isMark) := goodIn_app (goodIn_of _ (by decide +kernel)) ggX2_firstWrong_X2_isMark
set_option maxRecDepth 20000 in
theorem ggX2_firstWrong_X2_isBetween : GoodIn wsX2_firstWrong wsX2_isBetween := goodIn_r _ [12] (by decide +kernel) (by decide +kernel)
set_option maxRecDepth 20000 in
theorem gX2_firstWrong_X2_isBetween : GoodIn wsX2_firstWrong (va_wsS RX2 26 yX2_isBetween wsX2_isBetween) := goodIn_app (goodIn_of _ (by decide +kernel)) ggX2_firstWrong_X2_isBetween
theorem dX2_firstWrong_0 : decode cX2_firstWrong 0 = .ok (.iconst 1, 1) := by decide +kernel
theorem dX2_firstWrong_1 : decode cX2_firstWrong 1 = .ok (.istore_n 1, 1) := by decide +kernel
theorem dX2_firstWrong_2 : decode cX2_firstWrong 2 = .ok (.iconst 0, 1) := by decide +kernel
theorem dX2_firstWrong_3 : decode cX2_firstWrong 3 = .ok (.istore_n 2, 1) := by decide +kernel
theorem dX2_firstWrong_4 : decode cX2_firstWrong 4 = .ok (.iconst 0, 1) := by decide +kernel
theorem dX2_firstWrong_5 : decode cX2_firstWrong 5 = .ok (.istore_n 3, 1) := by decide +kernel
theorem dX2_firstWrong_6 : decode cX2_firstWrong 6 = .ok (.iconst 0, 1) := by decide +kernel
theorem dX2_firstWrong_7 : decode cX2_firstWrong 7 = .ok (.istore 4, 2) := by decide +kernel
theorem dX2_firstWrong_9 : decode cX2_firstWrong 9 = .ok (.iconst 0, 1) := by decide +kernel
theorem dX2_firstWrong_10 : decode cX2_firstWrong 10 = .ok (.istore 5, 2) := by decide +kernel
theorem dX2_firstWrong_12 : decode cX2_firstWrong 12 = .ok (.iload 5, 2) := by decide +kernel
theorem dX2_firstWrong_14 : decode cX2_firstWrong 14 = .ok (.aload_n 0, 1) := by decide +kernel
theorem dX2_firstWrong_15 : decode cX2_firstWrong 15 = .ok (.getfield 15, 3) := by decide +kernel
theorem dX2_firstWrong_18 : decode cX2_firstWrong 18 = .ok (.if_icmp .ge 116, 3) := by decide +kernel
theorem dX2_firstWrong_21 : decode cX2_firstWrong 21 = .ok (.aload_n 0, 1) := by decide +kernel
theorem dX2_firstWrong_22 : decode cX2_firstWrong 22 = .ok (.getfield 9, 3) := by decide +kernel
theorem dX2_firstWrong_25 : decode cX2_firstWrong 25 = .ok (.iload 5, 2) := by decide +kernel
theorem dX2_firstWrong_27 : decode cX2_firstWrong 27 = .ok (.caload, 1) := by decide +kernel
theorem dX2_firstWrong_28 : decode cX2_firstWrong 28 = .ok (.istore 6, 2) := by decide +kernel
theorem dX2_firstWrong_30 : decode cX2_firstWrong 30 = .ok (.iload 6, 2) := by decide +kernel
theorem dX2_firstWrong_32 : decode cX2_firstWrong 32 = .ok (.invokestatic 19, 3) := by decide +kernel
theorem dX2_firstWrong_35 : decode cX2_firstWrong 35 = .ok (.ifCond .eq 20, 3) := by decide +kernel
theorem dX2_firstWrong_38 : decode cX2_firstWrong 38 = .ok (.iload_n 2, 1) := by decide +kernel
theorem dX2_firstWrong_39 : decode cX2_firstWrong 39 = .ok (.bipush 9, 2) := by decide +kernel
theorem dX2_firstWrong_41 : decode cX2_firstWrong 41 = .ok (.if_icmp .ne 6, 3) := by decide +kernel
theorem dX2_firstWrong_44 : decode cX2_firstWrong 44 = .ok (.iload 5, 2) := by decide +kernel
theorem dX2_firstWrong_46 : decode cX2_firstWrong 46 = .ok (.ireturn, 1) := by decide +kernel
theorem dX2_firstWrong_47 : decode cX2_firstWrong 47 = .ok (.iinc 2 1, 3) := by decide +kernel
theorem dX2_firstWrong_50 : decode cX2_firstWrong 50 = .ok (.iconst 0, 1) := by decide +kernel
theorem dX2_firstWrong_51 : decode cX2_firstWrong 51 = .ok (.istore_n 3, 1) := by decide +kernel
theorem dX2_firstWrong_52 : decode cX2_firstWrong 52 = .ok (.goto 72, 3) := by decide +kernel
theorem dX2_firstWrong_55 : decode cX2_firstWrong 55 = .ok (.iload 6, 2) := by decide +kernel
theorem dX2_firstWrong_57 : decode cX2_firstWrong 57 = .ok (.invokestatic 23, 3) := by decide +kernel
theorem dX2_firstWrong_60 : decode cX2_firstWrong 60 = .ok (.ifCond .eq 32, 3) := by decide +kernel
theorem dX2_firstWrong_63 : decode cX2_firstWrong 63 = .ok (.iload_n 2, 1) := by decide +kernel
theorem dX2_firstWrong_64 : decode cX2_firstWrong 64 = .ok (.ifCond .eq 19, 3) := by decide +kernel
theorem dX2_firstWrong_67 : decode cX2_firstWrong 67 = .ok (.iload_n 3, 1) := by decide +kernel
theorem dX2_firstWrong_68 : decode cX2_firstWrong 68 = .ok (.iconst 5, 1) := by decide +kernel
theorem dX2_firstWrong_69 : decode cX2_firstWrong 69 = .ok (.if_icmp .eq 14, 3) := by decide +kernel
theorem dX2_firstWrong_72 : decode cX2_firstWrong 72 = .ok (.iload_n 3, 1) := by decide +kernel
theorem dX2_firstWrong_73 : decode cX2_firstWrong 73 = .ok (.ifCond .le 13, 3) := by decide +kernel
theorem dX2_firstWrong_76 : decode cX2_firstWrong 76 = .ok (.iload 6, 2) := by decide +kernel
theorem dX2_firstWrong_78 : decode cX2_firstWrong 78 = .ok (.iload 4, 2) := by decide +kernel
theorem dX2_firstWrong_80 : decode cX2_firstWrong 80 = .ok (.if_icmp .eq 6, 3) := by decide +kernel
theorem dX2_firstWrong_83 : decode cX2_firstWrong 83 = .ok (.iload 5, 2) := by decide +kernel
theorem dX2_firstWrong_85 : decode cX2_firstWrong 85 = .ok (.ireturn, 1) := by decide +kernel
theorem dX2_firstWrong_86 : decode cX2_firstWrong 86 = .ok (.iinc 3 1, 3) := by decide +kernel
theorem dX2_firstWrong_89 : decode cX2_firstWrong 89 = .ok (.goto 35, 3) := by decide +kernel
theorem dX2_firstWrong_92 : decode cX2_firstWrong 92 = .ok (.iload 6, 2) := by decide +kernel
theorem dX2_firstWrong_94 : decode cX2_firstWrong 94 = .ok (.invokestatic 26, 3) := by decide +kernel
theorem dX2_firstWrong_97 : decode cX2_firstWrong 97 = .ok (.ifCond .eq 24, 3) := by decide +kernel
theorem dX2_firstWrong_100 : decode cX2_firstWrong 100 = .ok (.iload_n 2, 1) := by decide +kernel
theorem dX2_firstWrong_101 : decode cX2_firstWrong 101 = .ok (.ifCond .eq 9, 3) := by decide +kernel
theorem dX2_firstWrong_104 : decode cX2_firstWrong 104 = .ok (.iload_n 1, 1) := by decide +kernel
theorem dX2_firstWrong_105 : decode cX2_firstWrong 105 = .ok (.bipush 6, 2) := by decide +kernel
theorem dX2_firstWrong_107 : decode cX2_firstWrong 107 = .ok (.if_icmp .ne 6, 3) := by decide +kernel
theorem dX2_firstWrong_110 : decode cX2_firstWrong 110 = .ok (.iload 5, 2) := by decide +kernel
theorem dX2_firstWrong_112 : decode cX2_firstWrong 112 = .ok (.ireturn, 1) := by decide +kernel
theorem dX2_firstWrong_113 : decode cX2_firstWrong 113 = .ok (.iinc 1 1, 3) := by decide +kernel
theorem dX2_firstWrong_116 : decode cX2_firstWrong 116 = .ok (.iconst 0, 1) := by decide +kernel
theorem dX2_firstWrong_117 : decode cX2_firstWrong 117 = .ok (.istore_n 2, 1) := by decide +kernel
theorem dX2_firstWrong_118 : decode cX2_firstWrong 118 = .ok (.goto 6, 3) := by decide +kernel
theorem dX2_firstWrong_121 : decode cX2_firstWrong 121 = .ok (.iload 5, 2) := by decide +kernel
theorem dX2_firstWrong_123 : decode cX2_firstWrong 123 = .ok (.ireturn, 1) := by decide +kernel
theorem dX2_firstWrong_124 : decode cX2_firstWrong 124 = .ok (.iload 6, 2) := by decide +kernel
theorem dX2_firstWrong_126 : decode cX2_firstWrong 126 = .ok (.istore 4, 2) := by decide +kernel
theorem dX2_firstWrong_128 : decode cX2_firstWrong 128 = .ok (.iinc 5 1, 3) := by decide +kernel
theorem dX2_firstWrong_131 : decode cX2_firstWrong 131 = .ok (.goto (-119), 3) := by decide +kernel
theorem dX2_firstWrong_134 : decode cX2_firstWrong 134 = .ok (.iload_n 2, 1) := by decide +kernel
theorem dX2_firstWrong_135 : decode cX2_firstWrong 135 = .ok (.ifCond .ne 10, 3) := by decide +kernel
theorem dX2_firstWrong_138 : decode cX2_firstWrong 138 = .ok (.aload_n 0, 1) := by decide +kernel
theorem dX2_firstWrong_139 : decode cX2_firstWrong 139 = .ok (.getfield 15, 3) := by decide +kernel
theorem dX2_firstWrong_142 : decode cX2_firstWrong 142 = .ok (.goto 4, 3) := by decide +kernel
theorem dX2_firstWrong_145 : decode cX2_firstWrong 145 = .ok (.iconst (-1), 1) := by decide +kernel
theorem dX2_firstWrong_146 : decode cX2_firstWrong 146 = .ok (.ireturn, 1) := by decide +kernel
