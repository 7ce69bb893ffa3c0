set_option maxRecDepth 20000 in
theorem ggX0_init_X0_beginAnew : GoodIn wsX0_init wsX0_beginAnew := goodIn_r _ [17, 18, 19, 20, 21, 22, 23, 5, 6, 7, 10, 24, 25, 26, 27, 28, 29, 30, 31, 32, 33, 34, 35, 36, 37, 38, 39, 40, 41] (by decide +kernel) (by decide +kernel)
set_option maxRecDepth 20000 in
theorem gX0_init_X0_beginAnew : GoodIn wsX0_init (wsV RX0 35 RX0 yX0_beginAnew wsX0_beginAnew) := goodIn_app (goodIn_of _ (by decide +kernel)) ggX0_init_X0_beginAnew
theorem dX0_init_0 : decode cX0_init 0 = .ok (.aload_n 0, 1) := by decide +kernel
theorem dX0_init_1 : decode cX0_init 1 = .ok (.invokespecial 3, 3) := by decide +kernel
theorem dX0_init_4 : decode cX0_init 4 = .ok (.aload_n 0, 1) := by decide +kernel
theorem dX0_init_5 : decode cX0_init 5 = .ok (.iconst 4, 1) := by decide +kernel
theorem dX0_init_6 : decode cX0_init 6 = .ok (.newarray .int, 2) := by decide +kernel
theorem dX0_init_8 : decode cX0_init 8 = .ok (.putfield 9, 3) := by decide +kernel
theorem dX0_init_11 : decode cX0_init 11 = .ok (.aload_n 0, 1) := by decide +kernel
theorem dX0_init_12 : decode cX0_init 12 = .ok (.iconst 4, 1) := by decide +kernel
theorem dX0_init_13 : decode cX0_init 13 = .ok (.newarray .int, 2) := by decide +kernel
theorem dX0_init_15 : decode cX0_init 15 = .ok (.putfield 15, 3) := by decide +kernel
theorem dX0_init_18 : decode cX0_init 18 = .ok (.aload_n 0, 1) := by decide +kernel
theorem dX0_init_19 : decode cX0_init 19 = .ok (.sipush 200, 3) := by decide +kernel
theorem dX0_init_22 : decode cX0_init 22 = .ok (.newarray .int, 2) := by decide +kernel
theorem dX0_init_24 : decode cX0_init 24 = .ok (.putfield 18, 3) := by decide +kernel
theorem dX0_init_27 : decode cX0_init 27 = .ok (.aload_n 0, 1) := by decide +kernel
theorem dX0_init_28 : decode cX0_init 28 = .ok (.iconst 5, 1) := by decide +kernel
theorem dX0_init_29 : decode cX0_init 29 = .ok (.bipush 40, 2) := by decide +kernel
theorem dX0_init_31 : decode cX0_init 31 = .ok (.multianewarray 21 2, 4) := by decide +kernel
theorem dX0_init_35 : decode cX0_init 35 = .ok (.putfield 23, 3) := by decide +kernel
theorem dX0_init_38 : decode cX0_init 38 = .ok (.aload_n 0, 1) := by decide +kernel
theorem dX0_init_39 : decode cX0_init 39 = .ok (.iconst 3, 1) := by decide +kernel
theorem dX0_init_40 : decode cX0_init 40 = .ok (.bipush 16, 2) := by decide +kernel
theorem dX0_init_42 : decode cX0_init 42 = .ok (.multianewarray 21 2, 4) := by decide +kernel
theorem dX0_init_46 : decode cX0_init 46 = .ok (.putfield 26, 3) := by decide +kernel
theorem dX0_init_49 : decode cX0_init 49 = .ok (.aload_n 0, 1) := by decide +kernel
theorem dX0_init_50 : decode cX0_init 50 = .ok (.iconst 3, 1) := by decide +kernel
theorem dX0_init_51 : decode cX0_init 51 = .ok (.sipush 200, 3) := by decide +kernel
theorem dX0_init_54 : decode cX0_init 54 = .ok (.multianewarray 21 2, 4) := by decide +kernel
theorem dX0_init_58 : decode cX0_init 58 = .ok (.putfield 29, 3) := by decide +kernel
theorem dX0_init_61 : decode cX0_init 61 = .ok (.aload_n 0, 1) := by decide +kernel
theorem dX0_init_62 : decode cX0_init 62 = .ok (.bipush 6, 2) := by decide +kernel
theorem dX0_init_64 : decode cX0_init 64 = .ok (.bipush 12, 2) := by decide +kernel
theorem dX0_init_66 : decode cX0_init 66 = .ok (.multianewarray 21 2, 4) := by decide +kernel
theorem dX0_init_70 : decode cX0_init 70 = .ok (.putfield 32, 3) := by decide +kernel
theorem dX0_init_73 : decode cX0_init 73 = .ok (.aload_n 0, 1) := by decide +kernel
theorem dX0_init_74 : decode cX0_init 74 = .ok (.bipush 8, 2) := by decide +kernel
theorem dX0_init_76 : decode cX0_init 76 = .ok (.invokevirtual 35, 3) := by decide +kernel
theorem dX0_init_79 : decode cX0_init 79 = .ok (.return_, 1) := by decide +kernel
set_option maxRecDepth 20000 in
theorem ggX0_beginAnew_J7_fill_53178 : GoodIn wsX0_beginAnew wsJ7_fill_53178 := goodIn_r _ [14] (by decide +kernel) (by decide +kernel)
set_option maxRecDepth 20000 in
theorem gX0_beginAnew_J7_fill_53178 : GoodIn wsX0_beginAnew (va_wsS RX0 58 yJ7_fill_53178 wsJ7_fill_53178) := goodIn_app (goodIn_of _ (by decide +kernel)) ggX0_beginAnew_J7_fill_53178
theorem dX0_beginAnew_0 : decode cX0_beginAnew 0 = .ok (.aload_n 0, 1) := by decide +kernel
theorem dX0_beginAnew_1 : decode cX0_beginAnew 1 = .ok (.iload_n 1, 1) := by decide +kernel
theorem dX0_beginAnew_2 : decode cX0_beginAnew 2 = .ok (.putfield 39, 3) := by decide +kernel
theorem dX0_beginAnew_5 : decode cX0_beginAnew 5 = .ok (.aload_n 0, 1) := by decide +kernel
theorem dX0_beginAnew_6 : decode cX0_beginAnew 6 = .ok (.iload_n 1, 1) := by decide +kernel
theorem dX0_beginAnew_7 : decode cX0_beginAnew 7 = .ok (.iconst 1, 1) := by decide +kernel
theorem dX0_beginAnew_8 : decode cX0_beginAnew 8 = .ok (.isub, 1) := by decide +kernel
theorem dX0_beginAnew_9 : decode cX0_beginAnew 9 = .ok (.putfield 43, 3) := by decide +kernel
theorem dX0_beginAnew_12 : decode cX0_beginAnew 12 = .ok (.aload_n 0, 1) := by decide +kernel
theorem dX0_beginAnew_13 : decode cX0_beginAnew 13 = .ok (.iconst 0, 1) := by decide +kernel
theorem dX0_beginAnew_14 : decode cX0_beginAnew 14 = .ok (.putfield 46, 3) := by decide +kernel
theorem dX0_beginAnew_17 : decode cX0_beginAnew 17 = .ok (.aload_n 0, 1) := by decide +kernel
theorem dX0_beginAnew_18 : decode cX0_beginAnew 18 = .ok (.iconst 0, 1) := by decide +kernel
theorem dX0_beginAnew_19 : decode cX0_beginAnew 19 = .ok (.putfield 49, 3) := by decide +kernel
theorem dX0_beginAnew_22 : decode cX0_beginAnew 22 = .ok (.aload_n 0, 1) := by decide +kernel
theorem dX0_beginAnew_23 : decode cX0_beginAnew 23 = .ok (.iconst 0, 1) := by decide +kernel
theorem dX0_beginAnew_24 : decode cX0_beginAnew 24 = .ok (.putfield 52, 3) := by decide +kernel
theorem dX0_beginAnew_27 : decode cX0_beginAnew 27 = .ok (.aload_n 0, 1) := by decide +kernel
theorem dX0_beginAnew_28 : decode cX0_beginAnew 28 = .ok (.iconst 0, 1) := by decide +kernel
theorem dX0_beginAnew_29 : decode cX0_beginAnew 29 = .ok (.putfield 55, 3) := by decide +kernel
theorem dX0_beginAnew_32 : decode cX0_beginAnew 32 = .ok (.aload_n 0, 1) := by decide +kernel
theorem dX0_beginAnew_33 : decode cX0_beginAnew 33 = .ok (.getfield 9, 3) := by decide +kernel
theorem dX0_beginAnew_36 : decode cX0_beginAnew 36 = .ok (.iconst 0, 1) := by decide +kernel
theorem dX0_beginAnew_37 : decode cX0_beginAnew 37 = .ok (.invokestatic 58, 3) := by decide +kernel
theorem dX0_beginAnew_40 : decode cX0_beginAnew 40 = .ok (.aload_n 0, 1) := by decide +kernel
theorem dX0_beginAnew_41 : decode cX0_beginAnew 41 = .ok (.getfield 15, 3) := by decide +kernel
theorem dX0_beginAnew_44 : decode cX0_beginAnew 44 = .ok (.iconst 0, 1) := by decide +kernel
theorem dX0_beginAnew_45 : decode cX0_beginAnew 45 = .ok (.invokestatic 58, 3) := by decide +kernel
theorem dX0_beginAnew_48 : decode cX0_beginAnew 48 = .ok (.aload_n 0, 1) := by decide +kernel
theorem dX0_beginAnew_49 : decode cX0_beginAnew 49 = .ok (.getfield 18, 3) := by decide +kernel
theorem dX0_beginAnew_52 : decode cX0_beginAnew 52 = .ok (.iconst 0, 1) := by decide +kernel
theorem dX0_beginAnew_53 : decode cX0_beginAnew 53 = .ok (.invokestatic 58, 3) := by decide +kernel
theorem dX0_beginAnew_56 : decode cX0_beginAnew 56 = .ok (.aload_n 0, 1) := by decide +kernel
theorem dX0_beginAnew_57 : decode cX0_beginAnew 57 = .ok (.getfield 26, 3) := by decide +kernel
theorem dX0_beginAnew_60 : decode cX0_beginAnew 60 = .ok (.iconst 0, 1) := by decide +kernel
theorem dX0_beginAnew_61 : decode cX0_beginAnew 61 = .ok (.aaload, 1) := by decide +kernel
theorem dX0_beginAnew_62 : decode cX0_beginAnew 62 = .ok (.bipush (-9), 2) := by decide +kernel
theorem dX0_beginAnew_64 : decode cX0_beginAnew 64 = .ok (.invokestatic 58, 3) := by decide +kernel
theorem dX0_beginAnew_67 : decode cX0_beginAnew 67 = .ok (.aload_n 0, 1) := by decide +kernel
theorem dX0_beginAnew_68 : decode cX0_beginAnew 68 = .ok (.getfield 26, 3) := by decide +kernel
theorem dX0_beginAnew_71 : decode cX0_beginAnew 71 = .ok (.iconst 1, 1) := by decide +kernel
theorem dX0_beginAnew_72 : decode cX0_beginAnew 72 = .ok (.aaload, 1) := by decide +kernel
theorem dX0_beginAnew_73 : decode cX0_beginAnew 73 = .ok (.bipush (-9), 2) := by decide +kernel
theorem dX0_beginAnew_75 : decode cX0_beginAnew 75 = .ok (.invokestatic 58, 3) := by decide +kernel
theorem dX0_beginAnew_78 : decode cX0_beginAnew 78 = .ok (.aload_n 0, 1) := by decide +kernel
theorem dX0_beginAnew_79 : decode cX0_beginAnew 79 = .ok (.getfield 26, 3) := by decide +kernel
theorem dX0_beginAnew_82 : decode cX0_beginAnew 82 = .ok (.iconst 2, 1) := by decide +kernel
theorem dX0_beginAnew_83 : decode cX0_beginAnew 83 = .ok (.aaload, 1) := by decide +kernel
theorem dX0_beginAnew_84 : decode cX0_beginAnew 84 = .ok (.iconst 0, 1) := by decide +kernel
theorem dX0_beginAnew_85 : decode cX0_beginAnew 85 = .ok (.invokestatic 58, 3) := by decide +kernel
theorem dX0_beginAnew_88 : decode cX0_beginAnew 88 = .ok (.return_, 1) := by decide +kernel
set_option maxRecDepth 20000 in
theorem ggX0_copyFrom_X0_copyRows : GoodIn wsX0_copyFrom wsX0_copyRows := goodIn_r _ [22, 9, 10, 11, 12] (by decide +kernel) (by decide +kernel)
set_option maxRecDepth 20000 in
theorem gX0_copyFrom_X0_copyRows : GoodIn wsX0_copyFrom (va_wsS RX0 73 yX0_copyRows wsX0_copyRows) := goodIn_app (goodIn_of _ (by decide +kernel)) ggX0_copyFrom_X0_copyRows
theorem dX0_copyFrom_0 : decode cX0_copyFrom 0 = .ok (.aload_n 0, 1) := by decide +kernel
theorem dX0_copyFrom_1 : decode cX0_copyFrom 1 = .ok (.aload_n 1, 1) := by decide +kernel
theorem dX0_copyFrom_2 : decode cX0_copyFrom 2 = .ok (.getfield 64, 3) := by decide +kernel
theorem dX0_copyFrom_5 : decode cX0_copyFrom 5 = .ok (.putfield 64, 3) := by decide +kernel
theorem dX0_copyFrom_8 : decode cX0_copyFrom 8 = .ok (.aload_n 0, 1) := by decide +kernel
theorem dX0_copyFrom_9 : decode cX0_copyFrom 9 = .ok (.aload_n 1, 1) := by decide +kernel
theorem dX0_copyFrom_10 : decode cX0_copyFrom 10 = .ok (.getfield 39, 3) := by decide +kernel
theorem dX0_copyFrom_13 : decode cX0_copyFrom 13 = .ok (.putfield 39, 3) := by decide +kernel
theorem dX0_copyFrom_16 : decode cX0_copyFrom 16 = .ok (.aload_n 0, 1) := by decide +kernel
theorem dX0_copyFrom_17 : decode cX0_copyFrom 17 = .ok (.aload_n 1, 1) := by decide +kernel
theorem dX0_copyFrom_18 : decode cX0_copyFrom 18 = .ok (.getfield 43, 3) := by decide +kernel
theorem dX0_copyFrom_21 : decode cX0_copyFrom 21 = .ok (.putfield 43, 3) := by decide +kernel
theorem dX0_copyFrom_24 : decode cX0_copyFrom 24 = .ok (.aload_n 0, 1) := by decide +kernel
theorem dX0_copyFrom_25 : decode cX0_copyFrom 25 = .ok (.aload_n 1, 1) := by decide +kernel
theorem dX0_copyFrom_26 : decode cX0_copyFrom 26 = .ok (.getfield 46, 3) := by decide +kernel
theorem dX0_copyFrom_29 : decode cX0_copyFrom 29 = .ok (.putfield 46, 3) := by decide +kernel
theorem dX0_copyFrom_32 : decode cX0_copyFrom 32 = .ok (.aload_n 0, 1) := by decide +kernel
theorem dX0_copyFrom_33 : decode cX0_copyFrom 33 = .ok (.aload_n 1, 1) := by decide +kernel
theorem dX0_copyFrom_34 : decode cX0_copyFrom 34 = .ok (.getfield 49, 3) := by decide +kernel
theorem dX0_copyFrom_37 : decode cX0_copyFrom 37 = .ok (.putfield 49, 3) := by decide +kernel
theorem dX0_copyFrom_40 : decode cX0_copyFrom 40 = .ok (.aload_n 0, 1) := by decide +kernel
theorem dX0_copyFrom_41 : decode cX0_copyFrom 41 = .ok (.aload_n 1, 1) := by decide +kernel
theorem dX0_copyFrom_42 : decode cX0_copyFrom 42 = .ok (.getfield 52, 3) := by decide +kernel
theorem dX0_copyFrom_45 : decode cX0_copyFrom 45 = .ok (.putfield 52, 3) := by decide +kernel
theorem dX0_copyFrom_48 : decode cX0_copyFrom 48 = .ok (.aload_n 0, 1) := by decide +kernel
theorem dX0_copyFrom_49 : decode cX0_copyFrom 49 = .ok (.aload_n 1, 1) := by decide +kernel
theorem dX0_copyFrom_50 : decode cX0_copyFrom 50 = .ok (.getfield 55, 3) := by decide +kernel
theorem dX0_copyFrom_53 : decode cX0_copyFrom 53 = .ok (.putfield 55, 3) := by decide +kernel
theorem dX0_copyFrom_56 : decode cX0_copyFrom 56 = .ok (.aload_n 1, 1) := by decide +kernel
theorem dX0_copyFrom_57 : decode cX0_copyFrom 57 = .ok (.getfield 9, 3) := by decide +kernel
theorem dX0_copyFrom_60 : decode cX0_copyFrom 60 = .ok (.iconst 0, 1) := by decide +kernel
theorem dX0_copyFrom_61 : decode cX0_copyFrom 61 = .ok (.aload_n 0, 1) := by decide +kernel
theorem dX0_copyFrom_62 : decode cX0_copyFrom 62 = .ok (.getfield 9, 3) := by decide +kernel
theorem dX0_copyFrom_65 : decode cX0_copyFrom 65 = .ok (.iconst 0, 1) := by decide +kernel
theorem dX0_copyFrom_66 : decode cX0_copyFrom 66 = .ok (.iconst 4, 1) := by decide +kernel
theorem dX0_copyFrom_67 : decode cX0_copyFrom 67 = .ok (.invokestatic 67, 3) := by decide +kernel
theorem dX0_copyFrom_70 : decode cX0_copyFrom 70 = .ok (.aload_n 1, 1) := by decide +kernel
theorem dX0_copyFrom_71 : decode cX0_copyFrom 71 = .ok (.getfield 15, 3) := by decide +kernel
theorem dX0_copyFrom_74 : decode cX0_copyFrom 74 = .ok (.iconst 0, 1) := by decide +kernel
theorem dX0_copyFrom_75 : decode cX0_copyFrom 75 = .ok (.aload_n 0, 1) := by decide +kernel
theorem dX0_copyFrom_76 : decode cX0_copyFrom 76 = .ok (.getfield 15, 3) := by decide +kernel
theorem dX0_copyFrom_79 : decode cX0_copyFrom 79 = .ok (.iconst 0, 1) := by decide +kernel
theorem dX0_copyFrom_80 : decode cX0_copyFrom 80 = .ok (.iconst 4, 1) := by decide +kernel
theorem dX0_copyFrom_81 : decode cX0_copyFrom 81 = .ok (.invokestatic 67, 3) := by decide +kernel
theorem dX0_copyFrom_84 : decode cX0_copyFrom 84 = .ok (.aload_n 1, 1) := by decide +kernel
theorem dX0_copyFrom_85 : decode cX0_copyFrom 85 = .ok (.getfield 18, 3) := by decide +kernel
theorem dX0_copyFrom_88 : decode cX0_copyFrom 88 = .ok (.iconst 0, 1) := by decide +kernel
theorem dX0_copyFrom_89 : decode cX0_copyFrom 89 = .ok (.aload_n 0, 1) := by decide +kernel
theorem dX0_copyFrom_90 : decode cX0_copyFrom 90 = .ok (.getfield 18, 3) := by decide +kernel
theorem dX0_copyFrom_93 : decode cX0_copyFrom 93 = .ok (.iconst 0, 1) := by decide +kernel
theorem dX0_copyFrom_94 : decode cX0_copyFrom 94 = .ok (.sipush 200, 3) := by decide +kernel
theorem dX0_copyFrom_97 : decode cX0_copyFrom 97 = .ok (.invokestatic 67, 3) := by decide +kernel
theorem dX0_copyFrom_100 : decode cX0_copyFrom 100 = .ok (.aload_n 1, 1) := by decide +kernel
theorem dX0_copyFrom_101 : decode cX0_copyFrom 101 = .ok (.getfield 23, 3) := by decide +kernel
theorem dX0_copyFrom_104 : decode cX0_copyFrom 104 = .ok (.aload_n 0, 1) := by decide +kernel
theorem dX0_copyFrom_105 : decode cX0_copyFrom 105 = .ok (.getfield 23, 3) := by decide +kernel
theorem dX0_copyFrom_108 : decode cX0_copyFrom 108 = .ok (.bipush 40, 2) := by decide +kernel
theorem dX0_copyFrom_110 : decode cX0_copyFrom 110 = .ok (.invokestatic 73, 3) := by decide +kernel
theorem dX0_copyFrom_113 : decode cX0_copyFrom 113 = .ok (.aload_n 1, 1) := by decide +kernel
theorem dX0_copyFrom_114 : decode cX0_copyFrom 114 = .ok (.getfield 26, 3) := by decide +kernel
theorem dX0_copyFrom_117 : decode cX0_copyFrom 117 = .ok (.aload_n 0, 1) := by decide +kernel
theorem dX0_copyFrom_118 : decode cX0_copyFrom 118 = .ok (.getfield 26, 3) := by decide +kernel
theorem dX0_copyFrom_121 : decode cX0_copyFrom 121 = .ok (.bipush 16, 2) := by decide +kernel
theorem dX0_copyFrom_123 : decode cX0_copyFrom 123 = .ok (.invokestatic 73, 3) := by decide +kernel
theorem dX0_copyFrom_126 : decode cX0_copyFrom 126 = .ok (.aload_n 1, 1) := by decide +kernel
theorem dX0_copyFrom_127 : decode cX0_copyFrom 127 = .ok (.getfield 29, 3) := by decide +kernel
theorem dX0_copyFrom_130 : decode cX0_copyFrom 130 = .ok (.aload_n 0, 1) := by decide +kernel
theorem dX0_copyFrom_131 : decode cX0_copyFrom 131 = .ok (.getfield 29, 3) := by decide +kernel
theorem dX0_copyFrom_134 : decode cX0_copyFrom 134 = .ok (.sipush 200, 3) := by decide +kernel
theorem dX0_copyFrom_137 : decode cX0_copyFrom 137 = .ok (.invokestatic 73, 3) := by decide +kernel
theorem dX0_copyFrom_140 : decode cX0_copyFrom 140 = .ok (.aload_n 1, 1) := by decide +kernel
theorem dX0_copyFrom_141 : decode cX0_copyFrom 141 = .ok (.getfield 32, 3) := by decide +kernel
theorem dX0_copyFrom_144 : decode cX0_copyFrom 144 = .ok (.aload_n 0, 1) := by decide +kernel
theorem dX0_copyFrom_145 : decode cX0_copyFrom 145 = .ok (.getfield 32, 3) := by decide +kernel
theorem dX0_copyFrom_148 : decode cX0_copyFrom 148 = .ok (.bipush 12, 2) := by decide +kernel
theorem dX0_copyFrom_150 : decode cX0_copyFrom 150 = .ok (.invokestatic 73, 3) := by decide +kernel
theorem dX0_copyFrom_153 : decode cX0_copyFrom 153 = .ok (.return_, 1) := by decide +kernel
theorem dX0_copyRows_0 : decode cX0_copyRows 0 = .ok (.iconst 0, 1) := by decide +kernel
theorem dX0_copyRows_1 : decode cX0_copyRows 1 = .ok (.istore_n 3, 1) := by decide +kernel
theorem dX0_copyRows_2 : decode cX0_copyRows 2 = .ok (.iload_n 3, 1) := by decide +kernel
theorem dX0_copyRows_3 : decode cX0_copyRows 3 = .ok (.aload_n 1, 1) := by decide +kernel
theorem dX0_copyRows_4 : decode cX0_copyRows 4 = .ok (.arraylength, 1) := by decide +kernel
theorem dX0_copyRows_5 : decode cX0_copyRows 5 = .ok (.if_icmp .ge 21, 3) := by decide +kernel
theorem dX0_copyRows_8 : decode cX0_copyRows 8 = .ok (.aload_n 0, 1) := by decide +kernel
theorem dX0_copyRows_9 : decode cX0_copyRows 9 = .ok (.iload_n 3, 1) := by decide +kernel
theorem dX0_copyRows_10 : decode cX0_copyRows 10 = .ok (.aaload, 1) := by decide +kernel
theorem dX0_copyRows_11 : decode cX0_copyRows 11 = .ok (.iconst 0, 1) := by decide +kernel
theorem dX0_copyRows_12 : decode cX0_copyRows 12 = .ok (.aload_n 1, 1) := by decide +kernel
theorem dX0_copyRows_13 : decode cX0_copyRows 13 = .ok (.iload_n 3, 1) := by decide +kernel
theorem dX0_copyRows_14 : decode cX0_copyRows 14 = .ok (.aaload, 1) := by decide +kernel
theorem dX0_copyRows_15 : decode cX0_copyRows 15 = .ok (.iconst 0, 1) := by decide +kernel
theorem dX0_copyRows_16 : decode cX0_copyRows 16 = .ok (.iload_n 2, 1) := by decide +kernel
theorem dX0_copyRows_17 : decode cX0_copyRows 17 = .ok (.invokestatic 67, 3) := by decide +kernel
theorem dX0_copyRows_20 : decode cX0_copyRows 20 = .ok (.iinc 3 1, 3) := by decide +kernel
theorem dX0_copyRows_23 : decode cX0_copyRows 23 = .ok (.goto (-21), 3) := by decide +kernel
theorem dX0_copyRows_26 : decode cX0_copyRows 26 = .ok (.return_, 1) := by decide +kernel
set_option maxRecDepth 20000 in
theorem ggX0_take_X0_errorOf : GoodIn wsX0_take wsX0_errorOf := goodIn_r _ [5, 6, 7, 8, 9, 4, 10, 11, 12, 13, 77, 78, 79, 80, 81, 82, 83, 84, 85, 86, 87, 88, 89, 90] (by decide +kernel) (by decide +kernel)
set_option maxRecDepth 20000 in
theorem gX0_take_X0_errorOf : GoodIn wsX0_take (wsV RX0 77 RX0 yX0_errorOf wsX0_errorOf) := goodIn_app (goodIn_of _ (by decide +kernel)) ggX0_take_X0_errorOf
set_option maxRecDepth 20000 in
theorem ggX0_take_X0_addFrame : GoodIn wsX0_take wsX0_addFrame := goodIn_r _ [17, 18, 19, 20, 21, 22, 6, 23, 24, 25, 26, 27, 28, 29, 30, 4, 31, 32, 33, 34, 35, 77, 78, 79, 80, 81, 82, 83, 84, 85, 86, 87, 88, 89, 90] (by decide +kernel) (by decide +kernel)
set_option maxRecDepth 20000 in
theorem gX0_take_X0_addFrame : GoodIn wsX0_take (wsV RX0 81 RX0 yX0_addFrame wsX0_addFrame) := goodIn_app (goodIn_of _ (by decide +kernel)) ggX0_take_X0_addFrame
set_option maxRecDepth 20000 in
theorem ggX0_take_X0_replaceFunction : GoodIn wsX0_take wsX0_replaceFunction := goodIn_r _ [39, 22, 6, 77, 78, 79, 80, 81, 82, 83, 84, 85, 86, 87, 88, 89, 90] (by decide +kernel) (by decide +kernel)
set_option maxRecDepth 20000 in
theorem gX0_take_X0_replaceFunction : GoodIn wsX0_take (wsV RX0 85 RX0 yX0_replaceFunction wsX0_replaceFunction) := goodIn_app (goodIn_of _ (by decide +kernel)) ggX0_take_X0_replaceFunction
set_option maxRecDepth 20000 in
theorem ggX0_take_X0_removeFrame : GoodIn wsX0_take wsX0_removeFrame := goodIn_r _ [43, 6, 19, 44, 45, 46, 47, 4, 48, 21, 22, 32, 33, 34, 35, 49, 50, 51, 52, 53, 54, 55, 56, 57, 7, 58, 59, 60, 26, 61, 62, 63, 64, 65, 66, 20, 77, 78, 79, 80, 81, 82, 83, 84, 85, 86, 87, 88, 89, 90] (by decide +kernel) (by decide +kernel)
set_option maxRecDepth 20000 in
theorem gX0_take_X0_removeFrame : GoodIn wsX0_take (wsV RX0 89 RX0 yX0_removeFrame wsX0_removeFrame) := goodIn_app (goodIn_of _ (by decide +kernel)) ggX0_take_X0_removeFrame
set_option maxRecDepth 20000 in
theorem ggX0_take_X0_removeFrames : GoodIn wsX0_take wsX0_removeFrames := goodIn_r _ [70, 6, 71, 19, 63, 64, 65, 4, 66, 20, 77, 78, 79, 80, 81, 82, 83, 84, 85, 86, 87, 88, 89, 90] (by decide +kernel) (by decide +kernel)
set_option maxRecDepth 20000 in
theorem gX0_take_X0_removeFrames : GoodIn wsX0_take (wsV RX0 93 RX0 yX0_removeFrames wsX0_removeFrames) := goodIn_app (goodIn_of _ (by decide +kernel)) ggX0_take_X0_removeFrames
set_option maxRecDepth 20000 in
theorem ggX0_take_X0_remember : GoodIn wsX0_take wsX0_remember := goodIn_r _ [75, 76, 7, 18, 77, 78, 79, 80, 81, 82, 83, 84, 85, 86, 87, 88, 89, 90] (by decide +kernel) (by decide +kernel)
set_option maxRecDepth 20000 in
theorem gX0_take_X0_remember : GoodIn wsX0_take (wsV RX0 96 RX0 yX0_remember wsX0_remember) := goodIn_app (goodIn_of _ (by decide +kernel)) ggX0_take_X0_remember
theorem dX0_take_0 : decode cX0_take 0 = .ok (.aload_n 0, 1) := by decide +kernel
theorem dX0_take_1 : decode cX0_take 1 = .ok (.iload_n 1, 1) := by decide +kernel
theorem dX0_take_2 : decode cX0_take 2 = .ok (.iload_n 2, 1) := by decide +kernel
theorem dX0_take_3 : decode cX0_take 3 = .ok (.iload_n 3, 1) := by decide +kernel
theorem dX0_take_4 : decode cX0_take 4 = .ok (.invokevirtual 77, 3) := by decide +kernel
theorem dX0_take_7 : decode cX0_take 7 = .ok (.istore 4, 2) := by decide +kernel
theorem dX0_take_9 : decode cX0_take 9 = .ok (.iload 4, 2) := by decide +kernel
theorem dX0_take_11 : decode cX0_take 11 = .ok (.ifCond .eq 6, 3) := by decide +kernel
theorem dX0_take_14 : decode cX0_take 14 = .ok (.iload 4, 2) := by decide +kernel
theorem dX0_take_16 : decode cX0_take 16 = .ok (.ireturn, 1) := by decide +kernel
theorem dX0_take_17 : decode cX0_take 17 = .ok (.iload_n 1, 1) := by decide +kernel
theorem dX0_take_18 : decode cX0_take 18 = .ok (.tableswitch 56 0 2 #[26, 37, 47], 26) := by decide +kernel
theorem dX0_take_44 : decode cX0_take 44 = .ok (.aload_n 0, 1) := by decide +kernel
theorem dX0_take_45 : decode cX0_take 45 = .ok (.iload_n 2, 1) := by decide +kernel
theorem dX0_take_46 : decode cX0_take 46 = .ok (.iload_n 3, 1) := by decide +kernel
theorem dX0_take_47 : decode cX0_take 47 = .ok (.invokevirtual 81, 3) := by decide +kernel
theorem dX0_take_50 : decode cX0_take 50 = .ok (.istore 5, 2) := by decide +kernel
theorem dX0_take_52 : decode cX0_take 52 = .ok (.goto 29, 3) := by decide +kernel
theorem dX0_take_55 : decode cX0_take 55 = .ok (.aload_n 0, 1) := by decide +kernel
theorem dX0_take_56 : decode cX0_take 56 = .ok (.iload_n 2, 1) := by decide +kernel
theorem dX0_take_57 : decode cX0_take 57 = .ok (.invokevirtual 85, 3) := by decide +kernel
theorem dX0_take_60 : decode cX0_take 60 = .ok (.istore 5, 2) := by decide +kernel
theorem dX0_take_62 : decode cX0_take 62 = .ok (.goto 19, 3) := by decide +kernel
theorem dX0_take_65 : decode cX0_take 65 = .ok (.aload_n 0, 1) := by decide +kernel
theorem dX0_take_66 : decode cX0_take 66 = .ok (.invokevirtual 89, 3) := by decide +kernel
theorem dX0_take_69 : decode cX0_take 69 = .ok (.istore 5, 2) := by decide +kernel
theorem dX0_take_71 : decode cX0_take 71 = .ok (.goto 10, 3) := by decide +kernel
theorem dX0_take_74 : decode cX0_take 74 = .ok (.aload_n 0, 1) := by decide +kernel
theorem dX0_take_75 : decode cX0_take 75 = .ok (.iload_n 3, 1) := by decide +kernel
theorem dX0_take_76 : decode cX0_take 76 = .ok (.invokevirtual 93, 3) := by decide +kernel
theorem dX0_take_79 : decode cX0_take 79 = .ok (.istore 5, 2) := by decide +kernel
theorem dX0_take_81 : decode cX0_take 81 = .ok (.aload_n 0, 1) := by decide +kernel
theorem dX0_take_82 : decode cX0_take 82 = .ok (.iload_n 1, 1) := by decide +kernel
theorem dX0_take_83 : decode cX0_take 83 = .ok (.iload_n 2, 1) := by decide +kernel
theorem dX0_take_84 : decode cX0_take 84 = .ok (.iload_n 3, 1) := by decide +kernel
theorem dX0_take_85 : decode cX0_take 85 = .ok (.invokevirtual 96, 3) := by decide +kernel
theorem dX0_take_88 : decode cX0_take 88 = .ok (.iload 5, 2) := by decide +kernel
theorem dX0_take_90 : decode cX0_take 90 = .ok (.ireturn, 1) := by decide +kernel
theorem dX0_remember_0 : decode cX0_remember 0 = .ok (.aload_n 0, 1) := by decide +kernel
theorem dX0_remember_1 : decode cX0_remember 1 = .ok (.getfield 29, 3) := by decide +kernel
theorem dX0_remember_4 : decode cX0_remember 4 = .ok (.iconst 0, 1) := by decide +kernel
theorem dX0_remember_5 : decode cX0_remember 5 = .ok (.aaload, 1) := by decide +kernel
theorem dX0_remember_6 : decode cX0_remember 6 = .ok (.aload_n 0, 1) := by decide +kernel
theorem dX0_remember_7 : decode cX0_remember 7 = .ok (.getfield 52, 3) := by decide +kernel
theorem dX0_remember_10 : decode cX0_remember 10 = .ok (.iload_n 1, 1) := by decide +kernel
theorem dX0_remember_11 : decode cX0_remember 11 = .ok (.iastore, 1) := by decide +kernel
theorem dX0_remember_12 : decode cX0_remember 12 = .ok (.aload_n 0, 1) := by decide +kernel
theorem dX0_remember_13 : decode cX0_remember 13 = .ok (.getfield 29, 3) := by decide +kernel
theorem dX0_remember_16 : decode cX0_remember 16 = .ok (.iconst 1, 1) := by decide +kernel
theorem dX0_remember_17 : decode cX0_remember 17 = .ok (.aaload, 1) := by decide +kernel
theorem dX0_remember_18 : decode cX0_remember 18 = .ok (.aload_n 0, 1) := by decide +kernel
theorem dX0_remember_19 : decode cX0_remember 19 = .ok (.getfield 52, 3) := by decide +kernel
theorem dX0_remember_22 : decode cX0_remember 22 = .ok (.iload_n 2, 1) := by decide +kernel
theorem dX0_remember_23 : decode cX0_remember 23 = .ok (.iastore, 1) := by decide +kernel
theorem dX0_remember_24 : decode cX0_remember 24 = .ok (.aload_n 0, 1) := by decide +kernel
theorem dX0_remember_25 : decode cX0_remember 25 = .ok (.getfield 29, 3) := by decide +kernel
theorem dX0_remember_28 : decode cX0_remember 28 = .ok (.iconst 2, 1) := by decide +kernel
theorem dX0_remember_29 : decode cX0_remember 29 = .ok (.aaload, 1) := by decide +kernel
theorem dX0_remember_30 : decode cX0_remember 30 = .ok (.aload_n 0, 1) := by decide +kernel
theorem dX0_remember_31 : decode cX0_remember 31 = .ok (.getfield 52, 3) := by decide +kernel
theorem dX0_remember_34 : decode cX0_remember 34 = .ok (.iload_n 3, 1) := by decide +kernel
theorem dX0_remember_35 : decode cX0_remember 35 = .ok (.iastore, 1) := by decide +kernel
theorem dX0_remember_36 : decode cX0_remember 36 = .ok (.aload_n 0, 1) := by decide +kernel
theorem dX0_remember_37 : decode cX0_remember 37 = .ok (.dup, 1) := by decide +kernel
theorem dX0_remember_38 : decode cX0_remember 38 = .ok (.getfield 52, 3) := by decide +kernel
theorem dX0_remember_41 : decode cX0_remember 41 = .ok (.iconst 1, 1) := by decide +kernel
theorem dX0_remember_42 : decode cX0_remember 42 = .ok (.iadd, 1) := by decide +kernel
theorem dX0_remember_43 : decode cX0_remember 43 = .ok (.putfield 52, 3) := by decide +kernel
theorem dX0_remember_46 : decode cX0_remember 46 = .ok (.aload_n 0, 1) := by decide +kernel
theorem dX0_remember_47 : decode cX0_remember 47 = .ok (.getfield 9, 3) := by decide +kernel
theorem dX0_remember_50 : decode cX0_remember 50 = .ok (.iload_n 1, 1) := by decide +kernel
theorem dX0_remember_51 : decode cX0_remember 51 = .ok (.dup2, 1) := by decide +kernel
theorem dX0_remember_52 : decode cX0_remember 52 = .ok (.iaload, 1) := by decide +kernel
theorem dX0_remember_53 : decode cX0_remember 53 = .ok (.iconst 1, 1) := by decide +kernel
theorem dX0_remember_54 : decode cX0_remember 54 = .ok (.iadd, 1) := by decide +kernel
theorem dX0_remember_55 : decode cX0_remember 55 = .ok (.iastore, 1) := by decide +kernel
theorem dX0_remember_56 : decode cX0_remember 56 = .ok (.return_, 1) := by decide +kernel
set_option maxRecDepth 20000 in
theorem ggX0_errorOf_X0_isNumberFor : GoodIn wsX0_errorOf wsX0_isNumberFor := goodIn_r _ [6] (by decide +kernel) (by decide +kernel)
set_option maxRecDepth 20000 in
theorem gX0_errorOf_X0_isNumberFor : GoodIn wsX0_errorOf (va_wsS RX0 100 yX0_isNumberFor wsX0_isNumberFor) := goodIn_app (goodIn_of _ (by decide +kernel)) ggX0_errorOf_X0_isNumberFor
set_option maxRecDepth 20000 in
theorem ggX0_errorOf_X0_framesNeeded : GoodIn wsX0_errorOf wsX0_framesNeeded := goodIn_r _ [9] (by decide +kernel) (by decide +kernel)
set_option maxRecDepth 20000 in
theorem gX0_errorOf_X0_framesNeeded : GoodIn wsX0_errorOf (va_wsS RX0 104 yX0_framesNeeded wsX0_framesNeeded) := goodIn_app (goodIn_of _ (by decide +kernel)) ggX0_errorOf_X0_framesNeeded
theorem dX0_errorOf_0 : decode cX0_errorOf 0 = .ok (.iload_n 2, 1) := by decide +kernel
theorem dX0_errorOf_1 : decode cX0_errorOf 1 = .ok (.ifCond .lt 17, 3) := by decide +kernel
theorem dX0_errorOf_4 : decode cX0_errorOf 4 = .ok (.iload_n 2, 1) := by decide +kernel
theorem dX0_errorOf_5 : decode cX0_errorOf 5 = .ok (.bipush 15, 2) := by decide +kernel
theorem dX0_errorOf_7 : decode cX0_errorOf 7 = .ok (.if_icmp .gt 11, 3) := by decide +kernel
theorem dX0_errorOf_10 : decode cX0_errorOf 10 = .ok (.iload_n 1, 1) := by decide +kernel
theorem dX0_errorOf_11 : decode cX0_errorOf 11 = .ok (.iload_n 3, 1) := by decide +kernel
theorem dX0_errorOf_12 : decode cX0_errorOf 12 = .ok (.invokestatic 100, 3) := by decide +kernel
theorem dX0_errorOf_15 : decode cX0_errorOf 15 = .ok (.ifCond .ne 5, 3) := by decide +kernel
theorem dX0_errorOf_18 : decode cX0_errorOf 18 = .ok (.iconst (-1), 1) := by decide +kernel
theorem dX0_errorOf_19 : decode cX0_errorOf 19 = .ok (.ireturn, 1) := by decide +kernel
theorem dX0_errorOf_20 : decode cX0_errorOf 20 = .ok (.aload_n 0, 1) := by decide +kernel
theorem dX0_errorOf_21 : decode cX0_errorOf 21 = .ok (.getfield 46, 3) := by decide +kernel
theorem dX0_errorOf_24 : decode cX0_errorOf 24 = .ok (.iload_n 1, 1) := by decide +kernel
theorem dX0_errorOf_25 : decode cX0_errorOf 25 = .ok (.iload_n 3, 1) := by decide +kernel
theorem dX0_errorOf_26 : decode cX0_errorOf 26 = .ok (.invokestatic 104, 3) := by decide +kernel
theorem dX0_errorOf_29 : decode cX0_errorOf 29 = .ok (.if_icmp .ge 6, 3) := by decide +kernel
theorem dX0_errorOf_32 : decode cX0_errorOf 32 = .ok (.bipush (-2), 2) := by decide +kernel
theorem dX0_errorOf_34 : decode cX0_errorOf 34 = .ok (.ireturn, 1) := by decide +kernel
theorem dX0_errorOf_35 : decode cX0_errorOf 35 = .ok (.aload_n 0, 1) := by decide +kernel
theorem dX0_errorOf_36 : decode cX0_errorOf 36 = .ok (.getfield 52, 3) := by decide +kernel
theorem dX0_errorOf_39 : decode cX0_errorOf 39 = .ok (.sipush 200, 3) := by decide +kernel
theorem dX0_errorOf_42 : decode cX0_errorOf 42 = .ok (.if_icmp .ge 16, 3) := by decide +kernel
theorem dX0_errorOf_45 : decode cX0_errorOf 45 = .ok (.iload_n 1, 1) := by decide +kernel
theorem dX0_errorOf_46 : decode cX0_errorOf 46 = .ok (.ifCond .ne 15, 3) := by decide +kernel
theorem dX0_errorOf_49 : decode cX0_errorOf 49 = .ok (.aload_n 0, 1) := by decide +kernel
theorem dX0_errorOf_50 : decode cX0_errorOf 50 = .ok (.getfield 46, 3) := by decide +kernel
theorem dX0_errorOf_53 : decode cX0_errorOf 53 = .ok (.bipush 40, 2) := by decide +kernel
theorem dX0_errorOf_55 : decode cX0_errorOf 55 = .ok (.if_icmp .lt 6, 3) := by decide +kernel
theorem dX0_errorOf_58 : decode cX0_errorOf 58 = .ok (.bipush (-3), 2) := by decide +kernel
theorem dX0_errorOf_60 : decode cX0_errorOf 60 = .ok (.ireturn, 1) := by decide +kernel
theorem dX0_errorOf_61 : decode cX0_errorOf 61 = .ok (.iconst 0, 1) := by decide +kernel
theorem dX0_errorOf_62 : decode cX0_errorOf 62 = .ok (.ireturn, 1) := by decide +kernel
theorem dX0_isNumberFor_0 : decode cX0_isNumberFor 0 = .ok (.iload_n 0, 1) := by decide +kernel
theorem dX0_isNumberFor_1 : decode cX0_isNumberFor 1 = .ok (.ifCond .ne 20, 3) := by decide +kernel
theorem dX0_isNumberFor_4 : decode cX0_isNumberFor 4 = .ok (.iload_n 1, 1) := by decide +kernel
theorem dX0_isNumberFor_5 : decode cX0_isNumberFor 5 = .ok (.ifCond .lt 14, 3) := by decide +kernel
theorem dX0_isNumberFor_8 : decode cX0_isNumberFor 8 = .ok (.iload_n 1, 1) := by decide +kernel
theorem dX0_isNumberFor_9 : decode cX0_isNumberFor 9 = .ok (.sipush 999, 3) := by decide +kernel
theorem dX0_isNumberFor_12 : decode cX0_isNumberFor 12 = .ok (.if_icmp .gt 7, 3) := by decide +kernel
theorem dX0_isNumberFor_15 : decode cX0_isNumberFor 15 = .ok (.iconst 1, 1) := by decide +kernel
theorem dX0_isNumberFor_16 : decode cX0_isNumberFor 16 = .ok (.goto 4, 3) := by decide +kernel
theorem dX0_isNumberFor_19 : decode cX0_isNumberFor 19 = .ok (.iconst 0, 1) := by decide +kernel
theorem dX0_isNumberFor_20 : decode cX0_isNumberFor 20 = .ok (.ireturn, 1) := by decide +kernel
theorem dX0_isNumberFor_21 : decode cX0_isNumberFor 21 = .ok (.iload_n 0, 1) := by decide +kernel
theorem dX0_isNumberFor_22 : decode cX0_isNumberFor 22 = .ok (.iconst 3, 1) := by decide +kernel
theorem dX0_isNumberFor_23 : decode cX0_isNumberFor 23 = .ok (.if_icmp .ne 14, 3) := by decide +kernel
theorem dX0_isNumberFor_26 : decode cX0_isNumberFor 26 = .ok (.iload_n 1, 1) := by decide +kernel
theorem dX0_isNumberFor_27 : decode cX0_isNumberFor 27 = .ok (.iconst 1, 1) := by decide +kernel
theorem dX0_isNumberFor_28 : decode cX0_isNumberFor 28 = .ok (.if_icmp .lt 13, 3) := by decide +kernel
theorem dX0_isNumberFor_31 : decode cX0_isNumberFor 31 = .ok (.iload_n 1, 1) := by decide +kernel
theorem dX0_isNumberFor_32 : decode cX0_isNumberFor 32 = .ok (.bipush 40, 2) := by decide +kernel
theorem dX0_isNumberFor_34 : decode cX0_isNumberFor 34 = .ok (.if_icmp .gt 7, 3) := by decide +kernel
theorem dX0_isNumberFor_37 : decode cX0_isNumberFor 37 = .ok (.iconst 1, 1) := by decide +kernel
theorem dX0_isNumberFor_38 : decode cX0_isNumberFor 38 = .ok (.goto 4, 3) := by decide +kernel
theorem dX0_isNumberFor_41 : decode cX0_isNumberFor 41 = .ok (.iconst 0, 1) := by decide +kernel
theorem dX0_isNumberFor_42 : decode cX0_isNumberFor 42 = .ok (.ireturn, 1) := by decide +kernel
theorem dX0_framesNeeded_0 : decode cX0_framesNeeded 0 = .ok (.iload_n 0, 1) := by decide +kernel
theorem dX0_framesNeeded_1 : decode cX0_framesNeeded 1 = .ok (.lookupswitch 31 #[(0, 27), (3, 29)], 27) := by decide +kernel
theorem dX0_framesNeeded_28 : decode cX0_framesNeeded 28 = .ok (.iconst 0, 1) := by decide +kernel
theorem dX0_framesNeeded_29 : decode cX0_framesNeeded 29 = .ok (.ireturn, 1) := by decide +kernel
theorem dX0_framesNeeded_30 : decode cX0_framesNeeded 30 = .ok (.iload_n 1, 1) := by decide +kernel
theorem dX0_framesNeeded_31 : decode cX0_framesNeeded 31 = .ok (.ireturn, 1) := by decide +kernel
theorem dX0_framesNeeded_32 : decode cX0_framesNeeded 32 = .ok (.iconst 1, 1) := by decide +kernel
theorem dX0_framesNeeded_33 : decode cX0_framesNeeded 33 = .ok (.ireturn, 1) := by decide +kernel
set_option maxRecDepth 20000 in
theorem ggX0_addFrame_X0_overrunFramesOfTop : GoodIn wsX0_addFrame wsX0_overrunFramesOfTop := goodIn_r _ [16, 6, 5, 2, 17, 18, 19, 15, 20, 21, 22, 23, 24, 25, 26, 27, 28, 29, 30, 31, 32, 33, 34] (by decide +kernel) (by decide +kernel)
set_option maxRecDepth 20000 in
theorem gX0_addFrame_X0_overrunFramesOfTop : GoodIn wsX0_addFrame (wsV RX0 107 RX0 yX0_overrunFramesOfTop wsX0_overrunFramesOfTop) := goodIn_app (goodIn_of _ (by decide +kernel)) ggX0_addFrame_X0_overrunFramesOfTop
theorem dX0_addFrame_0 : decode cX0_addFrame 0 = .ok (.aload_n 0, 1) := by decide +kernel
theorem dX0_addFrame_1 : decode cX0_addFrame 1 = .ok (.getfield 9, 3) := by decide +kernel
theorem dX0_addFrame_4 : decode cX0_addFrame 4 = .ok (.iconst 0, 1) := by decide +kernel
theorem dX0_addFrame_5 : decode cX0_addFrame 5 = .ok (.iaload, 1) := by decide +kernel
theorem dX0_addFrame_6 : decode cX0_addFrame 6 = .ok (.istore_n 3, 1) := by decide +kernel
theorem dX0_addFrame_7 : decode cX0_addFrame 7 = .ok (.aload_n 0, 1) := by decide +kernel
theorem dX0_addFrame_8 : decode cX0_addFrame 8 = .ok (.aload_n 0, 1) := by decide +kernel
theorem dX0_addFrame_9 : decode cX0_addFrame 9 = .ok (.getfield 43, 3) := by decide +kernel
theorem dX0_addFrame_12 : decode cX0_addFrame 12 = .ok (.iconst 1, 1) := by decide +kernel
theorem dX0_addFrame_13 : decode cX0_addFrame 13 = .ok (.iadd, 1) := by decide +kernel
theorem dX0_addFrame_14 : decode cX0_addFrame 14 = .ok (.aload_n 0, 1) := by decide +kernel
theorem dX0_addFrame_15 : decode cX0_addFrame 15 = .ok (.getfield 39, 3) := by decide +kernel
theorem dX0_addFrame_18 : decode cX0_addFrame 18 = .ok (.if_icmp .ge 12, 3) := by decide +kernel
theorem dX0_addFrame_21 : decode cX0_addFrame 21 = .ok (.aload_n 0, 1) := by decide +kernel
theorem dX0_addFrame_22 : decode cX0_addFrame 22 = .ok (.getfield 43, 3) := by decide +kernel
theorem dX0_addFrame_25 : decode cX0_addFrame 25 = .ok (.iconst 1, 1) := by decide +kernel
theorem dX0_addFrame_26 : decode cX0_addFrame 26 = .ok (.iadd, 1) := by decide +kernel
theorem dX0_addFrame_27 : decode cX0_addFrame 27 = .ok (.goto 4, 3) := by decide +kernel
theorem dX0_addFrame_30 : decode cX0_addFrame 30 = .ok (.iconst 0, 1) := by decide +kernel
theorem dX0_addFrame_31 : decode cX0_addFrame 31 = .ok (.putfield 43, 3) := by decide +kernel
theorem dX0_addFrame_34 : decode cX0_addFrame 34 = .ok (.aload_n 0, 1) := by decide +kernel
theorem dX0_addFrame_35 : decode cX0_addFrame 35 = .ok (.iload_n 3, 1) := by decide +kernel
theorem dX0_addFrame_36 : decode cX0_addFrame 36 = .ok (.invokevirtual 107, 3) := by decide +kernel
theorem dX0_addFrame_39 : decode cX0_addFrame 39 = .ok (.aload_n 0, 1) := by decide +kernel
theorem dX0_addFrame_40 : decode cX0_addFrame 40 = .ok (.getfield 26, 3) := by decide +kernel
theorem dX0_addFrame_43 : decode cX0_addFrame 43 = .ok (.iconst 0, 1) := by decide +kernel
theorem dX0_addFrame_44 : decode cX0_addFrame 44 = .ok (.aaload, 1) := by decide +kernel
theorem dX0_addFrame_45 : decode cX0_addFrame 45 = .ok (.aload_n 0, 1) := by decide +kernel
theorem dX0_addFrame_46 : decode cX0_addFrame 46 = .ok (.getfield 43, 3) := by decide +kernel
theorem dX0_addFrame_49 : decode cX0_addFrame 49 = .ok (.iload_n 3, 1) := by decide +kernel
theorem dX0_addFrame_50 : decode cX0_addFrame 50 = .ok (.iastore, 1) := by decide +kernel
theorem dX0_addFrame_51 : decode cX0_addFrame 51 = .ok (.aload_n 0, 1) := by decide +kernel
theorem dX0_addFrame_52 : decode cX0_addFrame 52 = .ok (.getfield 26, 3) := by decide +kernel
theorem dX0_addFrame_55 : decode cX0_addFrame 55 = .ok (.iconst 1, 1) := by decide +kernel
theorem dX0_addFrame_56 : decode cX0_addFrame 56 = .ok (.aaload, 1) := by decide +kernel
theorem dX0_addFrame_57 : decode cX0_addFrame 57 = .ok (.aload_n 0, 1) := by decide +kernel
theorem dX0_addFrame_58 : decode cX0_addFrame 58 = .ok (.getfield 43, 3) := by decide +kernel
theorem dX0_addFrame_61 : decode cX0_addFrame 61 = .ok (.iload_n 2, 1) := by decide +kernel
theorem dX0_addFrame_62 : decode cX0_addFrame 62 = .ok (.iastore, 1) := by decide +kernel
theorem dX0_addFrame_63 : decode cX0_addFrame 63 = .ok (.aload_n 0, 1) := by decide +kernel
theorem dX0_addFrame_64 : decode cX0_addFrame 64 = .ok (.getfield 26, 3) := by decide +kernel
theorem dX0_addFrame_67 : decode cX0_addFrame 67 = .ok (.iconst 2, 1) := by decide +kernel
theorem dX0_addFrame_68 : decode cX0_addFrame 68 = .ok (.aaload, 1) := by decide +kernel
theorem dX0_addFrame_69 : decode cX0_addFrame 69 = .ok (.aload_n 0, 1) := by decide +kernel
theorem dX0_addFrame_70 : decode cX0_addFrame 70 = .ok (.getfield 43, 3) := by decide +kernel
theorem dX0_addFrame_73 : decode cX0_addFrame 73 = .ok (.dup2, 1) := by decide +kernel
theorem dX0_addFrame_74 : decode cX0_addFrame 74 = .ok (.iaload, 1) := by decide +kernel
theorem dX0_addFrame_75 : decode cX0_addFrame 75 = .ok (.iconst 1, 1) := by decide +kernel
theorem dX0_addFrame_76 : decode cX0_addFrame 76 = .ok (.iadd, 1) := by decide +kernel
theorem dX0_addFrame_77 : decode cX0_addFrame 77 = .ok (.iastore, 1) := by decide +kernel
theorem dX0_addFrame_78 : decode cX0_addFrame 78 = .ok (.aload_n 0, 1) := by decide +kernel
theorem dX0_addFrame_79 : decode cX0_addFrame 79 = .ok (.getfield 23, 3) := by decide +kernel
theorem dX0_addFrame_82 : decode cX0_addFrame 82 = .ok (.iconst 0, 1) := by decide +kernel
theorem dX0_addFrame_83 : decode cX0_addFrame 83 = .ok (.aaload, 1) := by decide +kernel
theorem dX0_addFrame_84 : decode cX0_addFrame 84 = .ok (.aload_n 0, 1) := by decide +kernel
theorem dX0_addFrame_85 : decode cX0_addFrame 85 = .ok (.getfield 46, 3) := by decide +kernel
theorem dX0_addFrame_88 : decode cX0_addFrame 88 = .ok (.iload_n 3, 1) := by decide +kernel
theorem dX0_addFrame_89 : decode cX0_addFrame 89 = .ok (.iastore, 1) := by decide +kernel
theorem dX0_addFrame_90 : decode cX0_addFrame 90 = .ok (.aload_n 0, 1) := by decide +kernel
theorem dX0_addFrame_91 : decode cX0_addFrame 91 = .ok (.getfield 23, 3) := by decide +kernel
theorem dX0_addFrame_94 : decode cX0_addFrame 94 = .ok (.iconst 1, 1) := by decide +kernel
theorem dX0_addFrame_95 : decode cX0_addFrame 95 = .ok (.aaload, 1) := by decide +kernel
theorem dX0_addFrame_96 : decode cX0_addFrame 96 = .ok (.aload_n 0, 1) := by decide +kernel
theorem dX0_addFrame_97 : decode cX0_addFrame 97 = .ok (.getfield 46, 3) := by decide +kernel
theorem dX0_addFrame_100 : decode cX0_addFrame 100 = .ok (.iload_n 1, 1) := by decide +kernel
theorem dX0_addFrame_101 : decode cX0_addFrame 101 = .ok (.iastore, 1) := by decide +kernel
theorem dX0_addFrame_102 : decode cX0_addFrame 102 = .ok (.aload_n 0, 1) := by decide +kernel
theorem dX0_addFrame_103 : decode cX0_addFrame 103 = .ok (.getfield 23, 3) := by decide +kernel
theorem dX0_addFrame_106 : decode cX0_addFrame 106 = .ok (.iconst 2, 1) := by decide +kernel
theorem dX0_addFrame_107 : decode cX0_addFrame 107 = .ok (.aaload, 1) := by decide +kernel
theorem dX0_addFrame_108 : decode cX0_addFrame 108 = .ok (.aload_n 0, 1) := by decide +kernel
theorem dX0_addFrame_109 : decode cX0_addFrame 109 = .ok (.getfield 46, 3) := by decide +kernel
theorem dX0_addFrame_112 : decode cX0_addFrame 112 = .ok (.iload_n 2, 1) := by decide +kernel
theorem dX0_addFrame_113 : decode cX0_addFrame 113 = .ok (.iastore, 1) := by decide +kernel
theorem dX0_addFrame_114 : decode cX0_addFrame 114 = .ok (.aload_n 0, 1) := by decide +kernel
theorem dX0_addFrame_115 : decode cX0_addFrame 115 = .ok (.getfield 23, 3) := by decide +kernel
theorem dX0_addFrame_118 : decode cX0_addFrame 118 = .ok (.iconst 3, 1) := by decide +kernel
theorem dX0_addFrame_119 : decode cX0_addFrame 119 = .ok (.aaload, 1) := by decide +kernel
theorem dX0_addFrame_120 : decode cX0_addFrame 120 = .ok (.aload_n 0, 1) := by decide +kernel
theorem dX0_addFrame_121 : decode cX0_addFrame 121 = .ok (.getfield 46, 3) := by decide +kernel
theorem dX0_addFrame_124 : decode cX0_addFrame 124 = .ok (.aload_n 0, 1) := by decide +kernel
theorem dX0_addFrame_125 : decode cX0_addFrame 125 = .ok (.getfield 43, 3) := by decide +kernel
theorem dX0_addFrame_128 : decode cX0_addFrame 128 = .ok (.iastore, 1) := by decide +kernel
theorem dX0_addFrame_129 : decode cX0_addFrame 129 = .ok (.aload_n 0, 1) := by decide +kernel
theorem dX0_addFrame_130 : decode cX0_addFrame 130 = .ok (.getfield 23, 3) := by decide +kernel
theorem dX0_addFrame_133 : decode cX0_addFrame 133 = .ok (.iconst 4, 1) := by decide +kernel
theorem dX0_addFrame_134 : decode cX0_addFrame 134 = .ok (.aaload, 1) := by decide +kernel
theorem dX0_addFrame_135 : decode cX0_addFrame 135 = .ok (.aload_n 0, 1) := by decide +kernel
theorem dX0_addFrame_136 : decode cX0_addFrame 136 = .ok (.getfield 46, 3) := by decide +kernel
theorem dX0_addFrame_139 : decode cX0_addFrame 139 = .ok (.bipush (-9), 2) := by decide +kernel
theorem dX0_addFrame_141 : decode cX0_addFrame 141 = .ok (.iastore, 1) := by decide +kernel
theorem dX0_addFrame_142 : decode cX0_addFrame 142 = .ok (.aload_n 0, 1) := by decide +kernel
theorem dX0_addFrame_143 : decode cX0_addFrame 143 = .ok (.dup, 1) := by decide +kernel
theorem dX0_addFrame_144 : decode cX0_addFrame 144 = .ok (.getfield 46, 3) := by decide +kernel
theorem dX0_addFrame_147 : decode cX0_addFrame 147 = .ok (.iconst 1, 1) := by decide +kernel
theorem dX0_addFrame_148 : decode cX0_addFrame 148 = .ok (.iadd, 1) := by decide +kernel
theorem dX0_addFrame_149 : decode cX0_addFrame 149 = .ok (.putfield 46, 3) := by decide +kernel
theorem dX0_addFrame_152 : decode cX0_addFrame 152 = .ok (.aload_n 0, 1) := by decide +kernel
theorem dX0_addFrame_153 : decode cX0_addFrame 153 = .ok (.aload_n 0, 1) := by decide +kernel
theorem dX0_addFrame_154 : decode cX0_addFrame 154 = .ok (.getfield 49, 3) := by decide +kernel
theorem dX0_addFrame_157 : decode cX0_addFrame 157 = .ok (.aload_n 0, 1) := by decide +kernel
theorem dX0_addFrame_158 : decode cX0_addFrame 158 = .ok (.getfield 46, 3) := by decide +kernel
theorem dX0_addFrame_161 : decode cX0_addFrame 161 = .ok (.invokestatic 110, 3) := by decide +kernel
theorem dX0_addFrame_164 : decode cX0_addFrame 164 = .ok (.putfield 49, 3) := by decide +kernel
theorem dX0_addFrame_167 : decode cX0_addFrame 167 = .ok (.iload_n 3, 1) := by decide +kernel
theorem dX0_addFrame_168 : decode cX0_addFrame 168 = .ok (.ireturn, 1) := by decide +kernel
set_option maxRecDepth 20000 in
theorem ggX0_overrunFramesOfTop_X0_isOverrun : GoodIn wsX0_overrunFramesOfTop wsX0_isOverrun := goodIn_r _ [8, 2, 9, 10, 11, 12, 13, 14, 15, 16, 17, 18, 19, 20, 21, 22] (by decide +kernel) (by decide +kernel)
set_option maxRecDepth 20000 in
theorem gX0_overrunFramesOfTop_X0_isOverrun : GoodIn wsX0_overrunFramesOfTop (wsV RX0 115 RX0 yX0_isOverrun wsX0_isOverrun) := goodIn_app (goodIn_of _ (by decide +kernel)) ggX0_overrunFramesOfTop_X0_isOverrun
theorem dX0_overrunFramesOfTop_0 : decode cX0_overrunFramesOfTop 0 = .ok (.iconst 0, 1) := by decide +kernel
theorem dX0_overrunFramesOfTop_1 : decode cX0_overrunFramesOfTop 1 = .ok (.istore_n 2, 1) := by decide +kernel
theorem dX0_overrunFramesOfTop_2 : decode cX0_overrunFramesOfTop 2 = .ok (.iload_n 2, 1) := by decide +kernel
theorem dX0_overrunFramesOfTop_3 : decode cX0_overrunFramesOfTop 3 = .ok (.aload_n 0, 1) := by decide +kernel
theorem dX0_overrunFramesOfTop_4 : decode cX0_overrunFramesOfTop 4 = .ok (.getfield 46, 3) := by decide +kernel
theorem dX0_overrunFramesOfTop_7 : decode cX0_overrunFramesOfTop 7 = .ok (.if_icmp .ge 41, 3) := by decide +kernel
theorem dX0_overrunFramesOfTop_10 : decode cX0_overrunFramesOfTop 10 = .ok (.aload_n 0, 1) := by decide +kernel
theorem dX0_overrunFramesOfTop_11 : decode cX0_overrunFramesOfTop 11 = .ok (.getfield 23, 3) := by decide +kernel
theorem dX0_overrunFramesOfTop_14 : decode cX0_overrunFramesOfTop 14 = .ok (.iconst 3, 1) := by decide +kernel
theorem dX0_overrunFramesOfTop_15 : decode cX0_overrunFramesOfTop 15 = .ok (.aaload, 1) := by decide +kernel
theorem dX0_overrunFramesOfTop_16 : decode cX0_overrunFramesOfTop 16 = .ok (.iload_n 2, 1) := by decide +kernel
theorem dX0_overrunFramesOfTop_17 : decode cX0_overrunFramesOfTop 17 = .ok (.iaload, 1) := by decide +kernel
theorem dX0_overrunFramesOfTop_18 : decode cX0_overrunFramesOfTop 18 = .ok (.aload_n 0, 1) := by decide +kernel
theorem dX0_overrunFramesOfTop_19 : decode cX0_overrunFramesOfTop 19 = .ok (.getfield 43, 3) := by decide +kernel
theorem dX0_overrunFramesOfTop_22 : decode cX0_overrunFramesOfTop 22 = .ok (.if_icmp .ne 20, 3) := by decide +kernel
theorem dX0_overrunFramesOfTop_25 : decode cX0_overrunFramesOfTop 25 = .ok (.aload_n 0, 1) := by decide +kernel
theorem dX0_overrunFramesOfTop_26 : decode cX0_overrunFramesOfTop 26 = .ok (.iload_n 2, 1) := by decide +kernel
theorem dX0_overrunFramesOfTop_27 : decode cX0_overrunFramesOfTop 27 = .ok (.invokevirtual 115, 3) := by decide +kernel
theorem dX0_overrunFramesOfTop_30 : decode cX0_overrunFramesOfTop 30 = .ok (.ifCond .ne 12, 3) := by decide +kernel
theorem dX0_overrunFramesOfTop_33 : decode cX0_overrunFramesOfTop 33 = .ok (.aload_n 0, 1) := by decide +kernel
theorem dX0_overrunFramesOfTop_34 : decode cX0_overrunFramesOfTop 34 = .ok (.getfield 23, 3) := by decide +kernel
theorem dX0_overrunFramesOfTop_37 : decode cX0_overrunFramesOfTop 37 = .ok (.iconst 4, 1) := by decide +kernel
theorem dX0_overrunFramesOfTop_38 : decode cX0_overrunFramesOfTop 38 = .ok (.aaload, 1) := by decide +kernel
theorem dX0_overrunFramesOfTop_39 : decode cX0_overrunFramesOfTop 39 = .ok (.iload_n 2, 1) := by decide +kernel
theorem dX0_overrunFramesOfTop_40 : decode cX0_overrunFramesOfTop 40 = .ok (.iload_n 1, 1) := by decide +kernel
theorem dX0_overrunFramesOfTop_41 : decode cX0_overrunFramesOfTop 41 = .ok (.iastore, 1) := by decide +kernel
theorem dX0_overrunFramesOfTop_42 : decode cX0_overrunFramesOfTop 42 = .ok (.iinc 2 1, 3) := by decide +kernel
theorem dX0_overrunFramesOfTop_45 : decode cX0_overrunFramesOfTop 45 = .ok (.goto (-43), 3) := by decide +kernel
theorem dX0_overrunFramesOfTop_48 : decode cX0_overrunFramesOfTop 48 = .ok (.return_, 1) := by decide +kernel
theorem dX0_replaceFunction_0 : decode cX0_replaceFunction 0 = .ok (.aload_n 0, 1) := by decide +kernel
theorem dX0_replaceFunction_1 : decode cX0_replaceFunction 1 = .ok (.getfield 23, 3) := by decide +kernel
theorem dX0_replaceFunction_4 : decode cX0_replaceFunction 4 = .ok (.iconst 1, 1) := by decide +kernel
theorem dX0_replaceFunction_5 : decode cX0_replaceFunction 5 = .ok (.aaload, 1) := by decide +kernel
theorem dX0_replaceFunction_6 : decode cX0_replaceFunction 6 = .ok (.aload_n 0, 1) := by decide +kernel
theorem dX0_replaceFunction_7 : decode cX0_replaceFunction 7 = .ok (.getfield 46, 3) := by decide +kernel
theorem dX0_replaceFunction_10 : decode cX0_replaceFunction 10 = .ok (.iconst 1, 1) := by decide +kernel
theorem dX0_replaceFunction_11 : decode cX0_replaceFunction 11 = .ok (.isub, 1) := by decide +kernel
theorem dX0_replaceFunction_12 : decode cX0_replaceFunction 12 = .ok (.iaload, 1) := by decide +kernel
theorem dX0_replaceFunction_13 : decode cX0_replaceFunction 13 = .ok (.istore_n 2, 1) := by decide +kernel
theorem dX0_replaceFunction_14 : decode cX0_replaceFunction 14 = .ok (.aload_n 0, 1) := by decide +kernel
theorem dX0_replaceFunction_15 : decode cX0_replaceFunction 15 = .ok (.getfield 23, 3) := by decide +kernel
theorem dX0_replaceFunction_18 : decode cX0_replaceFunction 18 = .ok (.iconst 1, 1) := by decide +kernel
theorem dX0_replaceFunction_19 : decode cX0_replaceFunction 19 = .ok (.aaload, 1) := by decide +kernel
theorem dX0_replaceFunction_20 : decode cX0_replaceFunction 20 = .ok (.aload_n 0, 1) := by decide +kernel
theorem dX0_replaceFunction_21 : decode cX0_replaceFunction 21 = .ok (.getfield 46, 3) := by decide +kernel
theorem dX0_replaceFunction_24 : decode cX0_replaceFunction 24 = .ok (.iconst 1, 1) := by decide +kernel
theorem dX0_replaceFunction_25 : decode cX0_replaceFunction 25 = .ok (.isub, 1) := by decide +kernel
theorem dX0_replaceFunction_26 : decode cX0_replaceFunction 26 = .ok (.iload_n 1, 1) := by decide +kernel
theorem dX0_replaceFunction_27 : decode cX0_replaceFunction 27 = .ok (.iastore, 1) := by decide +kernel
theorem dX0_replaceFunction_28 : decode cX0_replaceFunction 28 = .ok (.iload_n 2, 1) := by decide +kernel
theorem dX0_replaceFunction_29 : decode cX0_replaceFunction 29 = .ok (.ireturn, 1) := by decide +kernel
set_option maxRecDepth 20000 in
theorem ggX0_removeFrame_X0_outcomeOf : GoodIn wsX0_removeFrame wsX0_outcomeOf := goodIn_r _ [8, 9, 10, 11, 12, 13, 7, 14, 36, 37, 38, 39, 40, 41, 42, 43, 44, 45, 46, 47, 48, 49] (by decide +kernel) (by decide +kernel)
set_option maxRecDepth 20000 in
theorem gX0_removeFrame_X0_outcomeOf : GoodIn wsX0_removeFrame (wsV RX0 119 RX0 yX0_outcomeOf wsX0_outcomeOf) := goodIn_app (goodIn_of _ (by decide +kernel)) ggX0_removeFrame_X0_outcomeOf
set_option maxRecDepth 20000 in
theorem ggX0_removeFrame_X0_confess : GoodIn wsX0_removeFrame wsX0_confess := goodIn_r _ [18, 1, 10, 9, 2, 19, 20, 21, 22, 23, 24, 25, 26, 27, 28, 29, 30, 36, 37, 38, 39, 40, 41, 42, 43, 44, 45, 46, 47, 48, 49] (by decide +kernel) (by decide +kernel)
set_option maxRecDepth 20000 in
theorem gX0_removeFrame_X0_confess : GoodIn wsX0_removeFrame (wsV RX0 122 RX0 yX0_confess wsX0_confess) := goodIn_app (goodIn_of _ (by decide +kernel)) ggX0_removeFrame_X0_confess
set_option maxRecDepth 20000 in
theorem ggX0_removeFrame_X0_slotBefore : GoodIn wsX0_removeFrame wsX0_slotBefore := goodIn_r _ [34, 35, 36, 37, 38, 39, 40, 41, 42, 43, 44, 45, 46, 47, 48, 49] (by decide +kernel) (by decide +kernel)
set_option maxRecDepth 20000 in
theorem gX0_removeFrame_X0_slotBefore : GoodIn wsX0_removeFrame (wsV RX0 125 RX0 yX0_slotBefore wsX0_slotBefore) := goodIn_app (goodIn_of _ (by decide +kernel)) ggX0_removeFrame_X0_slotBefore
theorem dX0_removeFrame_0 : decode cX0_removeFrame 0 = .ok (.aload_n 0, 1) := by decide +kernel
theorem dX0_removeFrame_1 : decode cX0_removeFrame 1 = .ok (.aload_n 0, 1) := by decide +kernel
theorem dX0_removeFrame_2 : decode cX0_removeFrame 2 = .ok (.getfield 46, 3) := by decide +kernel
theorem dX0_removeFrame_5 : decode cX0_removeFrame 5 = .ok (.iconst 1, 1) := by decide +kernel
theorem dX0_removeFrame_6 : decode cX0_removeFrame 6 = .ok (.isub, 1) := by decide +kernel
theorem dX0_removeFrame_7 : decode cX0_removeFrame 7 = .ok (.aload_n 0, 1) := by decide +kernel
theorem dX0_removeFrame_8 : decode cX0_removeFrame 8 = .ok (.getfield 43, 3) := by decide +kernel
theorem dX0_removeFrame_11 : decode cX0_removeFrame 11 = .ok (.invokevirtual 119, 3) := by decide +kernel
theorem dX0_removeFrame_14 : decode cX0_removeFrame 14 = .ok (.istore_n 1, 1) := by decide +kernel
theorem dX0_removeFrame_15 : decode cX0_removeFrame 15 = .ok (.iload_n 1, 1) := by decide +kernel
theorem dX0_removeFrame_16 : decode cX0_removeFrame 16 = .ok (.iconst 2, 1) := by decide +kernel
theorem dX0_removeFrame_17 : decode cX0_removeFrame 17 = .ok (.if_icmp .eq 8, 3) := by decide +kernel
theorem dX0_removeFrame_20 : decode cX0_removeFrame 20 = .ok (.iload_n 1, 1) := by decide +kernel
