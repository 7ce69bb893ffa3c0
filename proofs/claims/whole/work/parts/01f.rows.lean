theorem dX2_isSize_16 : decode cX2_isSize 16 = .ok (.ireturn, 1) := by decide +kernel
set_option maxRecDepth 20000 in
theorem ggX2_takeAsAction_X0_copyFrom : GoodIn wsX2_takeAsAction wsX0_copyFrom := goodIn_r _ [7, 8, 9, 10, 11, 12, 13, 14, 15, 16, 17, 18, 19, 20, 21, 22, 23, 24, 25, 26, 27, 6, 28, 107, 108, 109, 110, 111, 112, 113, 114, 115, 116, 117, 118, 119, 120] (by decide +kernel) (by decide +kernel)
set_option maxRecDepth 20000 in
theorem gX2_takeAsAction_X0_copyFrom : GoodIn wsX2_takeAsAction (wsV RX2 59 RX0 yX0_copyFrom wsX0_copyFrom) := goodIn_app (goodIn_of _ (by decide +kernel)) ggX2_takeAsAction_X0_copyFrom
set_option maxRecDepth 20000 in
theorem ggX2_takeAsAction_X0_take : GoodIn wsX2_takeAsAction wsX0_take := goodIn_r _ [32, 33, 34, 35, 6, 36, 11, 13, 37, 38, 39, 40, 41, 42, 43, 44, 45, 46, 15, 10, 9, 23, 22, 12, 47, 48, 49, 50, 51, 52, 53, 54, 55, 56, 57, 58, 59, 60, 61, 62, 63, 64, 65, 66, 20, 67, 68, 69, 70, 71, 72, 73, 74, 25, 16, 17, 18, 19, 14, 75, 76, 77, 21, 78, 79, 80, 81, 82, 83, 84, 85, 8, 86, 87, 88, 89, 24, 107, 108, 109, 110, 111, 112, 113, 114, 115, 116, 117, 118, 119, 120] (by decide +kernel) (by decide +kernel)
set_option maxRecDepth 20000 in
theorem gX2_takeAsAction_X0_take : GoodIn wsX2_takeAsAction (wsV RX2 123 RX0 yX0_take wsX0_take) := goodIn_app (goodIn_of _ (by decide +kernel)) ggX2_takeAsAction_X0_take
set_option maxRecDepth 20000 in
theorem ggX2_takeAsAction_X2_record : GoodIn wsX2_takeAsAction wsX2_record := goodIn_r _ [94, 95, 96, 97, 98, 99, 93, 100, 3, 4, 5, 6, 7, 8, 9, 10, 11, 12, 13, 14, 15, 16, 17, 18, 19, 20, 21, 22, 23, 24, 25, 26, 27, 28, 101, 102, 103, 104, 105, 106, 107, 108, 109, 110, 111, 112, 113, 114, 115, 116, 117, 118, 119, 120] (by decide +kernel) (by decide +kernel)
set_option maxRecDepth 20000 in
theorem gX2_takeAsAction_X2_record : GoodIn wsX2_takeAsAction (wsV RX2 37 RX2 yX2_record wsX2_record) := goodIn_app (goodIn_of _ (by decide +kernel)) ggX2_takeAsAction_X2_record
theorem dX2_takeAsAction_0 : decode cX2_takeAsAction 0 = .ok (.aload_n 0, 1) := by decide +kernel
theorem dX2_takeAsAction_1 : decode cX2_takeAsAction 1 = .ok (.getfield 16, 3) := by decide +kernel
theorem dX2_takeAsAction_4 : decode cX2_takeAsAction 4 = .ok (.aload_n 0, 1) := by decide +kernel
theorem dX2_takeAsAction_5 : decode cX2_takeAsAction 5 = .ok (.getfield 10, 3) := by decide +kernel
theorem dX2_takeAsAction_8 : decode cX2_takeAsAction 8 = .ok (.invokevirtual 59, 3) := by decide +kernel
theorem dX2_takeAsAction_11 : decode cX2_takeAsAction 11 = .ok (.aload_n 0, 1) := by decide +kernel
theorem dX2_takeAsAction_12 : decode cX2_takeAsAction 12 = .ok (.getfield 10, 3) := by decide +kernel
theorem dX2_takeAsAction_15 : decode cX2_takeAsAction 15 = .ok (.iload_n 1, 1) := by decide +kernel
theorem dX2_takeAsAction_16 : decode cX2_takeAsAction 16 = .ok (.iload_n 2, 1) := by decide +kernel
theorem dX2_takeAsAction_17 : decode cX2_takeAsAction 17 = .ok (.iload_n 3, 1) := by decide +kernel
theorem dX2_takeAsAction_18 : decode cX2_takeAsAction 18 = .ok (.invokevirtual 123, 3) := by decide +kernel
theorem dX2_takeAsAction_21 : decode cX2_takeAsAction 21 = .ok (.istore 4, 2) := by decide +kernel
theorem dX2_takeAsAction_23 : decode cX2_takeAsAction 23 = .ok (.iload 4, 2) := by decide +kernel
theorem dX2_takeAsAction_25 : decode cX2_takeAsAction 25 = .ok (.ifCond .lt 11, 3) := by decide +kernel
theorem dX2_takeAsAction_28 : decode cX2_takeAsAction 28 = .ok (.aload_n 0, 1) := by decide +kernel
theorem dX2_takeAsAction_29 : decode cX2_takeAsAction 29 = .ok (.aload_n 0, 1) := by decide +kernel
theorem dX2_takeAsAction_30 : decode cX2_takeAsAction 30 = .ok (.getfield 16, 3) := by decide +kernel
theorem dX2_takeAsAction_33 : decode cX2_takeAsAction 33 = .ok (.invokevirtual 37, 3) := by decide +kernel
theorem dX2_takeAsAction_36 : decode cX2_takeAsAction 36 = .ok (.iload 4, 2) := by decide +kernel
theorem dX2_takeAsAction_38 : decode cX2_takeAsAction 38 = .ok (.ireturn, 1) := by decide +kernel
set_option maxRecDepth 20000 in
theorem ggX2_record_X2_dropOldest : GoodIn wsX2_record wsX2_dropOldest := goodIn_r _ [7, 2, 1, 34, 35, 36, 37, 38, 39] (by decide +kernel) (by decide +kernel)
set_option maxRecDepth 20000 in
theorem gX2_record_X2_dropOldest : GoodIn wsX2_record (wsV RX2 126 RX2 yX2_dropOldest wsX2_dropOldest) := goodIn_app (goodIn_of _ (by decide +kernel)) ggX2_record_X2_dropOldest
set_option maxRecDepth 20000 in
theorem ggX2_record_X0_copyFrom : GoodIn wsX2_record wsX0_copyFrom := goodIn_r _ [12, 13, 14, 15, 16, 17, 18, 19, 20, 21, 22, 23, 24, 25, 26, 27, 28, 29, 30, 31, 32, 11, 33, 40, 41, 42, 43, 44, 45, 46, 47, 48, 49, 50, 51, 52, 53] (by decide +kernel) (by decide +kernel)
set_option maxRecDepth 20000 in
theorem gX2_record_X0_copyFrom : GoodIn wsX2_record (wsV RX2 59 RX0 yX0_copyFrom wsX0_copyFrom) := goodIn_app (goodIn_of _ (by decide +kernel)) ggX2_record_X0_copyFrom
theorem dX2_record_0 : decode cX2_record 0 = .ok (.aload_n 0, 1) := by decide +kernel
theorem dX2_record_1 : decode cX2_record 1 = .ok (.getfield 56, 3) := by decide +kernel
theorem dX2_record_4 : decode cX2_record 4 = .ok (.iconst 5, 1) := by decide +kernel
theorem dX2_record_5 : decode cX2_record 5 = .ok (.if_icmp .ne 7, 3) := by decide +kernel
theorem dX2_record_8 : decode cX2_record 8 = .ok (.aload_n 0, 1) := by decide +kernel
theorem dX2_record_9 : decode cX2_record 9 = .ok (.invokevirtual 126, 3) := by decide +kernel
theorem dX2_record_12 : decode cX2_record 12 = .ok (.aload_n 0, 1) := by decide +kernel
theorem dX2_record_13 : decode cX2_record 13 = .ok (.getfield 22, 3) := by decide +kernel
theorem dX2_record_16 : decode cX2_record 16 = .ok (.aload_n 0, 1) := by decide +kernel
theorem dX2_record_17 : decode cX2_record 17 = .ok (.getfield 56, 3) := by decide +kernel
theorem dX2_record_20 : decode cX2_record 20 = .ok (.aaload, 1) := by decide +kernel
theorem dX2_record_21 : decode cX2_record 21 = .ok (.aload_n 1, 1) := by decide +kernel
theorem dX2_record_22 : decode cX2_record 22 = .ok (.invokevirtual 59, 3) := by decide +kernel
theorem dX2_record_25 : decode cX2_record 25 = .ok (.aload_n 0, 1) := by decide +kernel
theorem dX2_record_26 : decode cX2_record 26 = .ok (.dup, 1) := by decide +kernel
theorem dX2_record_27 : decode cX2_record 27 = .ok (.getfield 56, 3) := by decide +kernel
theorem dX2_record_30 : decode cX2_record 30 = .ok (.iconst 1, 1) := by decide +kernel
theorem dX2_record_31 : decode cX2_record 31 = .ok (.iadd, 1) := by decide +kernel
theorem dX2_record_32 : decode cX2_record 32 = .ok (.putfield 56, 3) := by decide +kernel
theorem dX2_record_35 : decode cX2_record 35 = .ok (.return_, 1) := by decide +kernel
theorem dX2_dropOldest_0 : decode cX2_dropOldest 0 = .ok (.aload_n 0, 1) := by decide +kernel
theorem dX2_dropOldest_1 : decode cX2_dropOldest 1 = .ok (.getfield 22, 3) := by decide +kernel
theorem dX2_dropOldest_4 : decode cX2_dropOldest 4 = .ok (.iconst 0, 1) := by decide +kernel
theorem dX2_dropOldest_5 : decode cX2_dropOldest 5 = .ok (.aaload, 1) := by decide +kernel
theorem dX2_dropOldest_6 : decode cX2_dropOldest 6 = .ok (.astore_n 1, 1) := by decide +kernel
theorem dX2_dropOldest_7 : decode cX2_dropOldest 7 = .ok (.iconst 1, 1) := by decide +kernel
theorem dX2_dropOldest_8 : decode cX2_dropOldest 8 = .ok (.istore_n 2, 1) := by decide +kernel
theorem dX2_dropOldest_9 : decode cX2_dropOldest 9 = .ok (.iload_n 2, 1) := by decide +kernel
theorem dX2_dropOldest_10 : decode cX2_dropOldest 10 = .ok (.iconst 5, 1) := by decide +kernel
theorem dX2_dropOldest_11 : decode cX2_dropOldest 11 = .ok (.if_icmp .ge 23, 3) := by decide +kernel
theorem dX2_dropOldest_14 : decode cX2_dropOldest 14 = .ok (.aload_n 0, 1) := by decide +kernel
theorem dX2_dropOldest_15 : decode cX2_dropOldest 15 = .ok (.getfield 22, 3) := by decide +kernel
theorem dX2_dropOldest_18 : decode cX2_dropOldest 18 = .ok (.iload_n 2, 1) := by decide +kernel
theorem dX2_dropOldest_19 : decode cX2_dropOldest 19 = .ok (.iconst 1, 1) := by decide +kernel
theorem dX2_dropOldest_20 : decode cX2_dropOldest 20 = .ok (.isub, 1) := by decide +kernel
theorem dX2_dropOldest_21 : decode cX2_dropOldest 21 = .ok (.aload_n 0, 1) := by decide +kernel
theorem dX2_dropOldest_22 : decode cX2_dropOldest 22 = .ok (.getfield 22, 3) := by decide +kernel
theorem dX2_dropOldest_25 : decode cX2_dropOldest 25 = .ok (.iload_n 2, 1) := by decide +kernel
theorem dX2_dropOldest_26 : decode cX2_dropOldest 26 = .ok (.aaload, 1) := by decide +kernel
theorem dX2_dropOldest_27 : decode cX2_dropOldest 27 = .ok (.aastore, 1) := by decide +kernel
theorem dX2_dropOldest_28 : decode cX2_dropOldest 28 = .ok (.iinc 2 1, 3) := by decide +kernel
theorem dX2_dropOldest_31 : decode cX2_dropOldest 31 = .ok (.goto (-22), 3) := by decide +kernel
theorem dX2_dropOldest_34 : decode cX2_dropOldest 34 = .ok (.aload_n 0, 1) := by decide +kernel
theorem dX2_dropOldest_35 : decode cX2_dropOldest 35 = .ok (.getfield 22, 3) := by decide +kernel
theorem dX2_dropOldest_38 : decode cX2_dropOldest 38 = .ok (.iconst 4, 1) := by decide +kernel
theorem dX2_dropOldest_39 : decode cX2_dropOldest 39 = .ok (.aload_n 1, 1) := by decide +kernel
theorem dX2_dropOldest_40 : decode cX2_dropOldest 40 = .ok (.aastore, 1) := by decide +kernel
theorem dX2_dropOldest_41 : decode cX2_dropOldest 41 = .ok (.aload_n 0, 1) := by decide +kernel
theorem dX2_dropOldest_42 : decode cX2_dropOldest 42 = .ok (.iconst 4, 1) := by decide +kernel
theorem dX2_dropOldest_43 : decode cX2_dropOldest 43 = .ok (.putfield 56, 3) := by decide +kernel
theorem dX2_dropOldest_46 : decode cX2_dropOldest 46 = .ok (.return_, 1) := by decide +kernel
set_option maxRecDepth 20000 in
theorem ggX2_missesInTrial_X0_beginAnew : GoodIn wsX2_missesInTrial wsX0_beginAnew := goodIn_r _ [10, 11, 12, 13, 14, 15, 16, 17, 18, 19, 20, 21, 22, 23, 24, 104, 105, 106, 107, 108, 109, 110, 111, 112, 113, 114, 115, 116, 117] (by decide +kernel) (by decide +kernel)
set_option maxRecDepth 20000 in
theorem gX2_missesInTrial_X0_beginAnew : GoodIn wsX2_missesInTrial (wsV RX2 52 RX0 yX0_beginAnew wsX0_beginAnew) := goodIn_app (goodIn_of _ (by decide +kernel)) ggX2_missesInTrial_X0_beginAnew
set_option maxRecDepth 20000 in
theorem ggX2_missesInTrial_X0_take : GoodIn wsX2_missesInTrial wsX0_take := goodIn_r _ [28, 29, 30, 31, 9, 32, 13, 15, 33, 34, 35, 36, 37, 38, 39, 40, 41, 42, 17, 12, 11, 20, 43, 14, 44, 45, 46, 47, 48, 49, 50, 51, 52, 53, 54, 55, 56, 57, 58, 59, 60, 61, 62, 63, 18, 64, 65, 66, 67, 68, 69, 70, 71, 72, 73, 74, 75, 76, 16, 77, 78, 79, 19, 80, 81, 82, 83, 84, 85, 86, 87, 88, 89, 90, 91, 92, 93, 104, 105, 106, 107, 108, 109, 110, 111, 112, 113, 114, 115, 116, 117] (by decide +kernel) (by decide +kernel)
set_option maxRecDepth 20000 in
theorem gX2_missesInTrial_X0_take : GoodIn wsX2_missesInTrial (wsV RX2 123 RX0 yX0_take wsX0_take) := goodIn_app (goodIn_of _ (by decide +kernel)) ggX2_missesInTrial_X0_take
set_option maxRecDepth 20000 in
theorem ggX2_missesInTrial_X0_misses : GoodIn wsX2_missesInTrial wsX0_misses := goodIn_r _ [97, 18, 104, 105, 106, 107, 108, 109, 110, 111, 112, 113, 114, 115, 116, 117] (by decide +kernel) (by decide +kernel)
set_option maxRecDepth 20000 in
theorem gX2_missesInTrial_X0_misses : GoodIn wsX2_missesInTrial (wsV RX2 132 RX0 yX0_misses wsX0_misses) := goodIn_app (goodIn_of _ (by decide +kernel)) ggX2_missesInTrial_X0_misses
theorem dX2_missesInTrial_0 : decode cX2_missesInTrial 0 = .ok (.aload_n 0, 1) := by decide +kernel
theorem dX2_missesInTrial_1 : decode cX2_missesInTrial 1 = .ok (.getfield 19, 3) := by decide +kernel
theorem dX2_missesInTrial_4 : decode cX2_missesInTrial 4 = .ok (.aload_n 0, 1) := by decide +kernel
theorem dX2_missesInTrial_5 : decode cX2_missesInTrial 5 = .ok (.getfield 10, 3) := by decide +kernel
theorem dX2_missesInTrial_8 : decode cX2_missesInTrial 8 = .ok (.getfield 41, 3) := by decide +kernel
theorem dX2_missesInTrial_11 : decode cX2_missesInTrial 11 = .ok (.putfield 41, 3) := by decide +kernel
theorem dX2_missesInTrial_14 : decode cX2_missesInTrial 14 = .ok (.aload_n 0, 1) := by decide +kernel
theorem dX2_missesInTrial_15 : decode cX2_missesInTrial 15 = .ok (.getfield 19, 3) := by decide +kernel
theorem dX2_missesInTrial_18 : decode cX2_missesInTrial 18 = .ok (.iload_n 1, 1) := by decide +kernel
theorem dX2_missesInTrial_19 : decode cX2_missesInTrial 19 = .ok (.invokevirtual 52, 3) := by decide +kernel
theorem dX2_missesInTrial_22 : decode cX2_missesInTrial 22 = .ok (.iconst 0, 1) := by decide +kernel
theorem dX2_missesInTrial_23 : decode cX2_missesInTrial 23 = .ok (.istore_n 2, 1) := by decide +kernel
theorem dX2_missesInTrial_24 : decode cX2_missesInTrial 24 = .ok (.iload_n 2, 1) := by decide +kernel
theorem dX2_missesInTrial_25 : decode cX2_missesInTrial 25 = .ok (.aload_n 0, 1) := by decide +kernel
theorem dX2_missesInTrial_26 : decode cX2_missesInTrial 26 = .ok (.getfield 10, 3) := by decide +kernel
theorem dX2_missesInTrial_29 : decode cX2_missesInTrial 29 = .ok (.getfield 78, 3) := by decide +kernel
theorem dX2_missesInTrial_32 : decode cX2_missesInTrial 32 = .ok (.if_icmp .ge 50, 3) := by decide +kernel
theorem dX2_missesInTrial_35 : decode cX2_missesInTrial 35 = .ok (.aload_n 0, 1) := by decide +kernel
theorem dX2_missesInTrial_36 : decode cX2_missesInTrial 36 = .ok (.getfield 19, 3) := by decide +kernel
theorem dX2_missesInTrial_39 : decode cX2_missesInTrial 39 = .ok (.aload_n 0, 1) := by decide +kernel
theorem dX2_missesInTrial_40 : decode cX2_missesInTrial 40 = .ok (.getfield 10, 3) := by decide +kernel
theorem dX2_missesInTrial_43 : decode cX2_missesInTrial 43 = .ok (.getfield 129, 3) := by decide +kernel
theorem dX2_missesInTrial_46 : decode cX2_missesInTrial 46 = .ok (.iconst 0, 1) := by decide +kernel
theorem dX2_missesInTrial_47 : decode cX2_missesInTrial 47 = .ok (.aaload, 1) := by decide +kernel
theorem dX2_missesInTrial_48 : decode cX2_missesInTrial 48 = .ok (.iload_n 2, 1) := by decide +kernel
theorem dX2_missesInTrial_49 : decode cX2_missesInTrial 49 = .ok (.iaload, 1) := by decide +kernel
theorem dX2_missesInTrial_50 : decode cX2_missesInTrial 50 = .ok (.aload_n 0, 1) := by decide +kernel
theorem dX2_missesInTrial_51 : decode cX2_missesInTrial 51 = .ok (.getfield 10, 3) := by decide +kernel
theorem dX2_missesInTrial_54 : decode cX2_missesInTrial 54 = .ok (.getfield 129, 3) := by decide +kernel
theorem dX2_missesInTrial_57 : decode cX2_missesInTrial 57 = .ok (.iconst 1, 1) := by decide +kernel
theorem dX2_missesInTrial_58 : decode cX2_missesInTrial 58 = .ok (.aaload, 1) := by decide +kernel
theorem dX2_missesInTrial_59 : decode cX2_missesInTrial 59 = .ok (.iload_n 2, 1) := by decide +kernel
theorem dX2_missesInTrial_60 : decode cX2_missesInTrial 60 = .ok (.iaload, 1) := by decide +kernel
theorem dX2_missesInTrial_61 : decode cX2_missesInTrial 61 = .ok (.aload_n 0, 1) := by decide +kernel
theorem dX2_missesInTrial_62 : decode cX2_missesInTrial 62 = .ok (.getfield 10, 3) := by decide +kernel
theorem dX2_missesInTrial_65 : decode cX2_missesInTrial 65 = .ok (.getfield 129, 3) := by decide +kernel
theorem dX2_missesInTrial_68 : decode cX2_missesInTrial 68 = .ok (.iconst 2, 1) := by decide +kernel
theorem dX2_missesInTrial_69 : decode cX2_missesInTrial 69 = .ok (.aaload, 1) := by decide +kernel
theorem dX2_missesInTrial_70 : decode cX2_missesInTrial 70 = .ok (.iload_n 2, 1) := by decide +kernel
theorem dX2_missesInTrial_71 : decode cX2_missesInTrial 71 = .ok (.iaload, 1) := by decide +kernel
theorem dX2_missesInTrial_72 : decode cX2_missesInTrial 72 = .ok (.invokevirtual 123, 3) := by decide +kernel
theorem dX2_missesInTrial_75 : decode cX2_missesInTrial 75 = .ok (.pop, 1) := by decide +kernel
theorem dX2_missesInTrial_76 : decode cX2_missesInTrial 76 = .ok (.iinc 2 1, 3) := by decide +kernel
theorem dX2_missesInTrial_79 : decode cX2_missesInTrial 79 = .ok (.goto (-55), 3) := by decide +kernel
theorem dX2_missesInTrial_82 : decode cX2_missesInTrial 82 = .ok (.aload_n 0, 1) := by decide +kernel
theorem dX2_missesInTrial_83 : decode cX2_missesInTrial 83 = .ok (.getfield 19, 3) := by decide +kernel
theorem dX2_missesInTrial_86 : decode cX2_missesInTrial 86 = .ok (.invokevirtual 132, 3) := by decide +kernel
theorem dX2_missesInTrial_89 : decode cX2_missesInTrial 89 = .ok (.ireturn, 1) := by decide +kernel
set_option maxRecDepth 20000 in
theorem ggX2_takeStepsOfText_X1_skipSpaces : GoodIn wsX2_takeStepsOfText wsX1_skipSpaces := goodIn_r _ [7, 8, 9, 10, 127, 128, 129] (by decide +kernel) (by decide +kernel)
set_option maxRecDepth 20000 in
theorem gX2_takeStepsOfText_X1_skipSpaces : GoodIn wsX2_takeStepsOfText (wsV RX2 135 RX1 yX1_skipSpaces wsX1_skipSpaces) := goodIn_app (goodIn_of _ (by decide +kernel)) ggX2_takeStepsOfText_X1_skipSpaces
set_option maxRecDepth 20000 in
theorem ggX2_takeStepsOfText_X1_isAtEnd : GoodIn wsX2_takeStepsOfText wsX1_isAtEnd := goodIn_r _ [14, 8, 9, 127, 128, 129] (by decide +kernel) (by decide +kernel)
set_option maxRecDepth 20000 in
theorem gX2_takeStepsOfText_X1_isAtEnd : GoodIn wsX2_takeStepsOfText (wsV RX2 138 RX1 yX1_isAtEnd wsX1_isAtEnd) := goodIn_app (goodIn_of _ (by decide +kernel)) ggX2_takeStepsOfText_X1_isAtEnd
set_option maxRecDepth 20000 in
theorem ggX2_takeStepsOfText_X2_takeStepOfText : GoodIn wsX2_takeStepsOfText wsX2_takeStepOfText := goodIn_r _ [19, 1, 2, 20, 21, 22, 23, 6, 24, 8, 9, 10, 25, 26, 18, 27, 28, 29, 30, 31, 32, 4, 5, 7, 33, 34, 35, 36, 37, 38, 39, 40, 41, 42, 43, 44, 45, 46, 47, 48, 49, 50, 51, 52, 53, 54, 55, 56, 57, 58, 59, 60, 61, 62, 63, 64, 65, 66, 67, 68, 69, 70, 71, 72, 73, 74, 75, 76, 77, 78, 79, 80, 81, 82, 83, 84, 85, 86, 87, 88, 89, 90, 91, 92, 93, 94, 95, 96, 97, 98, 99, 100, 101, 102, 103, 104, 105, 106, 107, 108, 109, 110, 111, 112, 113, 114, 115, 116, 117, 118, 119, 120, 121, 122, 123, 124, 125, 126, 127, 128, 129, 130, 131, 132, 133, 134, 135, 136, 137, 138, 139, 140, 141, 142, 143] (by decide +kernel) (by decide +kernel)
set_option maxRecDepth 20000 in
theorem gX2_takeStepsOfText_X2_takeStepOfText : GoodIn wsX2_takeStepsOfText (wsV RX2 142 RX2 yX2_takeStepOfText wsX2_takeStepOfText) := goodIn_app (goodIn_of _ (by decide +kernel)) ggX2_takeStepsOfText_X2_takeStepOfText
theorem dX2_takeStepsOfText_0 : decode cX2_takeStepsOfText 0 = .ok (.aload_n 0, 1) := by decide +kernel
theorem dX2_takeStepsOfText_1 : decode cX2_takeStepsOfText 1 = .ok (.getfield 29, 3) := by decide +kernel
theorem dX2_takeStepsOfText_4 : decode cX2_takeStepsOfText 4 = .ok (.iconst 0, 1) := by decide +kernel
theorem dX2_takeStepsOfText_5 : decode cX2_takeStepsOfText 5 = .ok (.putfield 72, 3) := by decide +kernel
theorem dX2_takeStepsOfText_8 : decode cX2_takeStepsOfText 8 = .ok (.iconst 0, 1) := by decide +kernel
theorem dX2_takeStepsOfText_9 : decode cX2_takeStepsOfText 9 = .ok (.istore_n 1, 1) := by decide +kernel
theorem dX2_takeStepsOfText_10 : decode cX2_takeStepsOfText 10 = .ok (.iload_n 1, 1) := by decide +kernel
theorem dX2_takeStepsOfText_11 : decode cX2_takeStepsOfText 11 = .ok (.bipush 120, 2) := by decide +kernel
theorem dX2_takeStepsOfText_13 : decode cX2_takeStepsOfText 13 = .ok (.if_icmp .gt 37, 3) := by decide +kernel
theorem dX2_takeStepsOfText_16 : decode cX2_takeStepsOfText 16 = .ok (.aload_n 0, 1) := by decide +kernel
theorem dX2_takeStepsOfText_17 : decode cX2_takeStepsOfText 17 = .ok (.getfield 29, 3) := by decide +kernel
theorem dX2_takeStepsOfText_20 : decode cX2_takeStepsOfText 20 = .ok (.invokevirtual 135, 3) := by decide +kernel
theorem dX2_takeStepsOfText_23 : decode cX2_takeStepsOfText 23 = .ok (.aload_n 0, 1) := by decide +kernel
theorem dX2_takeStepsOfText_24 : decode cX2_takeStepsOfText 24 = .ok (.getfield 29, 3) := by decide +kernel
theorem dX2_takeStepsOfText_27 : decode cX2_takeStepsOfText 27 = .ok (.invokevirtual 138, 3) := by decide +kernel
theorem dX2_takeStepsOfText_30 : decode cX2_takeStepsOfText 30 = .ok (.ifCond .eq 5, 3) := by decide +kernel
theorem dX2_takeStepsOfText_33 : decode cX2_takeStepsOfText 33 = .ok (.iload_n 1, 1) := by decide +kernel
theorem dX2_takeStepsOfText_34 : decode cX2_takeStepsOfText 34 = .ok (.ireturn, 1) := by decide +kernel
theorem dX2_takeStepsOfText_35 : decode cX2_takeStepsOfText 35 = .ok (.aload_n 0, 1) := by decide +kernel
theorem dX2_takeStepsOfText_36 : decode cX2_takeStepsOfText 36 = .ok (.invokevirtual 142, 3) := by decide +kernel
theorem dX2_takeStepsOfText_39 : decode cX2_takeStepsOfText 39 = .ok (.ifCond .ne 5, 3) := by decide +kernel
theorem dX2_takeStepsOfText_42 : decode cX2_takeStepsOfText 42 = .ok (.iconst (-1), 1) := by decide +kernel
theorem dX2_takeStepsOfText_43 : decode cX2_takeStepsOfText 43 = .ok (.ireturn, 1) := by decide +kernel
theorem dX2_takeStepsOfText_44 : decode cX2_takeStepsOfText 44 = .ok (.iinc 1 1, 3) := by decide +kernel
theorem dX2_takeStepsOfText_47 : decode cX2_takeStepsOfText 47 = .ok (.goto (-37), 3) := by decide +kernel
theorem dX2_takeStepsOfText_50 : decode cX2_takeStepsOfText 50 = .ok (.iconst (-1), 1) := by decide +kernel
theorem dX2_takeStepsOfText_51 : decode cX2_takeStepsOfText 51 = .ok (.ireturn, 1) := by decide +kernel
set_option maxRecDepth 20000 in
theorem ggX2_takeStepOfText_X1_sign : GoodIn wsX2_takeStepOfText wsX1_sign := goodIn_r _ [8, 9, 10, 11, 118, 119, 120] (by decide +kernel) (by decide +kernel)
set_option maxRecDepth 20000 in
theorem gX2_takeStepOfText_X1_sign : GoodIn wsX2_takeStepOfText (wsV RX2 145 RX1 yX1_sign wsX1_sign) := goodIn_app (goodIn_of _ (by decide +kernel)) ggX2_takeStepOfText_X1_sign
set_option maxRecDepth 20000 in
theorem ggX2_takeStepOfText_X2_kindOf : GoodIn wsX2_takeStepOfText wsX2_kindOf := goodIn_r _ [15] (by decide +kernel) (by decide +kernel)
set_option maxRecDepth 20000 in
theorem gX2_takeStepOfText_X2_kindOf : GoodIn wsX2_takeStepOfText (va_wsS RX2 148 yX2_kindOf wsX2_kindOf) := goodIn_app (goodIn_of _ (by decide +kernel)) ggX2_takeStepOfText_X2_kindOf
set_option maxRecDepth 20000 in
theorem ggX2_takeStepOfText_X1_readNumber : GoodIn wsX2_takeStepOfText wsX1_readNumber := goodIn_r _ [19, 9, 10, 11, 20, 21, 22, 7, 23, 24, 25, 26, 118, 119, 120] (by decide +kernel) (by decide +kernel)
set_option maxRecDepth 20000 in
theorem gX2_takeStepOfText_X1_readNumber : GoodIn wsX2_takeStepOfText (wsV RX2 151 RX1 yX1_readNumber wsX1_readNumber) := goodIn_app (goodIn_of _ (by decide +kernel)) ggX2_takeStepOfText_X1_readNumber
set_option maxRecDepth 20000 in
theorem ggX2_takeStepOfText_X1_readSign : GoodIn wsX2_takeStepOfText wsX1_readSign := goodIn_r _ [30, 9, 20, 21, 22, 7, 23, 10, 11, 31, 5, 6, 8, 118, 119, 120] (by decide +kernel) (by decide +kernel)
set_option maxRecDepth 20000 in
theorem gX2_takeStepOfText_X1_readSign : GoodIn wsX2_takeStepOfText (wsV RX2 154 RX1 yX1_readSign wsX1_readSign) := goodIn_app (goodIn_of _ (by decide +kernel)) ggX2_takeStepOfText_X1_readSign
set_option maxRecDepth 20000 in
theorem ggX2_takeStepOfText_X0_take : GoodIn wsX2_takeStepOfText wsX0_take := goodIn_r _ [36, 37, 38, 39, 35, 40, 41, 42, 43, 44, 45, 46, 47, 48, 49, 50, 51, 52, 53, 54, 55, 56, 57, 58, 59, 60, 61, 62, 63, 64, 65, 66, 67, 68, 69, 70, 71, 72, 73, 74, 75, 76, 77, 78, 79, 80, 81, 82, 83, 84, 85, 86, 87, 88, 89, 90, 91, 92, 93, 94, 95, 96, 97, 98, 99, 100, 101, 102, 103, 104, 105, 106, 107, 108, 109, 110, 111, 121, 122, 123, 124, 125, 126, 127, 128, 129, 130, 131, 132, 133, 134] (by decide +kernel) (by decide +kernel)
set_option maxRecDepth 20000 in
theorem gX2_takeStepOfText_X0_take : GoodIn wsX2_takeStepOfText (wsV RX2 123 RX0 yX0_take wsX0_take) := goodIn_app (goodIn_of _ (by decide +kernel)) ggX2_takeStepOfText_X0_take
theorem dX2_takeStepOfText_0 : decode cX2_takeStepOfText 0 = .ok (.aload_n 0, 1) := by decide +kernel
theorem dX2_takeStepOfText_1 : decode cX2_takeStepOfText 1 = .ok (.getfield 29, 3) := by decide +kernel
theorem dX2_takeStepOfText_4 : decode cX2_takeStepOfText 4 = .ok (.getfield 72, 3) := by decide +kernel
theorem dX2_takeStepOfText_7 : decode cX2_takeStepOfText 7 = .ok (.istore_n 1, 1) := by decide +kernel
theorem dX2_takeStepOfText_8 : decode cX2_takeStepOfText 8 = .ok (.aload_n 0, 1) := by decide +kernel
theorem dX2_takeStepOfText_9 : decode cX2_takeStepOfText 9 = .ok (.getfield 29, 3) := by decide +kernel
theorem dX2_takeStepOfText_12 : decode cX2_takeStepOfText 12 = .ok (.invokevirtual 145, 3) := by decide +kernel
theorem dX2_takeStepOfText_15 : decode cX2_takeStepOfText 15 = .ok (.invokestatic 148, 3) := by decide +kernel
theorem dX2_takeStepOfText_18 : decode cX2_takeStepOfText 18 = .ok (.istore_n 2, 1) := by decide +kernel
theorem dX2_takeStepOfText_19 : decode cX2_takeStepOfText 19 = .ok (.iload_n 2, 1) := by decide +kernel
theorem dX2_takeStepOfText_20 : decode cX2_takeStepOfText 20 = .ok (.iconst (-1), 1) := by decide +kernel
theorem dX2_takeStepOfText_21 : decode cX2_takeStepOfText 21 = .ok (.if_icmp .ne 5, 3) := by decide +kernel
theorem dX2_takeStepOfText_24 : decode cX2_takeStepOfText 24 = .ok (.iconst 0, 1) := by decide +kernel
theorem dX2_takeStepOfText_25 : decode cX2_takeStepOfText 25 = .ok (.ireturn, 1) := by decide +kernel
theorem dX2_takeStepOfText_26 : decode cX2_takeStepOfText 26 = .ok (.aload_n 0, 1) := by decide +kernel
theorem dX2_takeStepOfText_27 : decode cX2_takeStepOfText 27 = .ok (.getfield 29, 3) := by decide +kernel
theorem dX2_takeStepOfText_30 : decode cX2_takeStepOfText 30 = .ok (.dup, 1) := by decide +kernel
theorem dX2_takeStepOfText_31 : decode cX2_takeStepOfText 31 = .ok (.getfield 72, 3) := by decide +kernel
theorem dX2_takeStepOfText_34 : decode cX2_takeStepOfText 34 = .ok (.iconst 1, 1) := by decide +kernel
theorem dX2_takeStepOfText_35 : decode cX2_takeStepOfText 35 = .ok (.iadd, 1) := by decide +kernel
theorem dX2_takeStepOfText_36 : decode cX2_takeStepOfText 36 = .ok (.putfield 72, 3) := by decide +kernel
theorem dX2_takeStepOfText_39 : decode cX2_takeStepOfText 39 = .ok (.iconst 0, 1) := by decide +kernel
theorem dX2_takeStepOfText_40 : decode cX2_takeStepOfText 40 = .ok (.istore_n 3, 1) := by decide +kernel
theorem dX2_takeStepOfText_41 : decode cX2_takeStepOfText 41 = .ok (.iconst 0, 1) := by decide +kernel
theorem dX2_takeStepOfText_42 : decode cX2_takeStepOfText 42 = .ok (.istore 4, 2) := by decide +kernel
theorem dX2_takeStepOfText_44 : decode cX2_takeStepOfText 44 = .ok (.iload_n 2, 1) := by decide +kernel
theorem dX2_takeStepOfText_45 : decode cX2_takeStepOfText 45 = .ok (.ifCond .eq 8, 3) := by decide +kernel
theorem dX2_takeStepOfText_48 : decode cX2_takeStepOfText 48 = .ok (.iload_n 2, 1) := by decide +kernel
theorem dX2_takeStepOfText_49 : decode cX2_takeStepOfText 49 = .ok (.iconst 1, 1) := by decide +kernel
theorem dX2_takeStepOfText_50 : decode cX2_takeStepOfText 50 = .ok (.if_icmp .ne 11, 3) := by decide +kernel
theorem dX2_takeStepOfText_53 : decode cX2_takeStepOfText 53 = .ok (.aload_n 0, 1) := by decide +kernel
theorem dX2_takeStepOfText_54 : decode cX2_takeStepOfText 54 = .ok (.getfield 29, 3) := by decide +kernel
theorem dX2_takeStepOfText_57 : decode cX2_takeStepOfText 57 = .ok (.invokevirtual 151, 3) := by decide +kernel
theorem dX2_takeStepOfText_60 : decode cX2_takeStepOfText 60 = .ok (.istore_n 3, 1) := by decide +kernel
theorem dX2_takeStepOfText_61 : decode cX2_takeStepOfText 61 = .ok (.iload_n 3, 1) := by decide +kernel
theorem dX2_takeStepOfText_62 : decode cX2_takeStepOfText 62 = .ok (.ifCond .lt 19, 3) := by decide +kernel
theorem dX2_takeStepOfText_65 : decode cX2_takeStepOfText 65 = .ok (.iload_n 2, 1) := by decide +kernel
theorem dX2_takeStepOfText_66 : decode cX2_takeStepOfText 66 = .ok (.ifCond .ne 17, 3) := by decide +kernel
theorem dX2_takeStepOfText_69 : decode cX2_takeStepOfText 69 = .ok (.aload_n 0, 1) := by decide +kernel
theorem dX2_takeStepOfText_70 : decode cX2_takeStepOfText 70 = .ok (.getfield 29, 3) := by decide +kernel
theorem dX2_takeStepOfText_73 : decode cX2_takeStepOfText 73 = .ok (.bipush 64, 2) := by decide +kernel
theorem dX2_takeStepOfText_75 : decode cX2_takeStepOfText 75 = .ok (.invokevirtual 154, 3) := by decide +kernel
theorem dX2_takeStepOfText_78 : decode cX2_takeStepOfText 78 = .ok (.ifCond .ne 5, 3) := by decide +kernel
theorem dX2_takeStepOfText_81 : decode cX2_takeStepOfText 81 = .ok (.iconst 0, 1) := by decide +kernel
theorem dX2_takeStepOfText_82 : decode cX2_takeStepOfText 82 = .ok (.ireturn, 1) := by decide +kernel
theorem dX2_takeStepOfText_83 : decode cX2_takeStepOfText 83 = .ok (.iload_n 2, 1) := by decide +kernel
theorem dX2_takeStepOfText_84 : decode cX2_takeStepOfText 84 = .ok (.ifCond .eq 8, 3) := by decide +kernel
theorem dX2_takeStepOfText_87 : decode cX2_takeStepOfText 87 = .ok (.iload_n 2, 1) := by decide +kernel
theorem dX2_takeStepOfText_88 : decode cX2_takeStepOfText 88 = .ok (.iconst 3, 1) := by decide +kernel
theorem dX2_takeStepOfText_89 : decode cX2_takeStepOfText 89 = .ok (.if_icmp .ne 12, 3) := by decide +kernel
theorem dX2_takeStepOfText_92 : decode cX2_takeStepOfText 92 = .ok (.aload_n 0, 1) := by decide +kernel
theorem dX2_takeStepOfText_93 : decode cX2_takeStepOfText 93 = .ok (.getfield 29, 3) := by decide +kernel
theorem dX2_takeStepOfText_96 : decode cX2_takeStepOfText 96 = .ok (.invokevirtual 151, 3) := by decide +kernel
theorem dX2_takeStepOfText_99 : decode cX2_takeStepOfText 99 = .ok (.istore 4, 2) := by decide +kernel
theorem dX2_takeStepOfText_101 : decode cX2_takeStepOfText 101 = .ok (.iload 4, 2) := by decide +kernel
theorem dX2_takeStepOfText_103 : decode cX2_takeStepOfText 103 = .ok (.ifCond .ge 5, 3) := by decide +kernel
theorem dX2_takeStepOfText_106 : decode cX2_takeStepOfText 106 = .ok (.iconst 0, 1) := by decide +kernel
theorem dX2_takeStepOfText_107 : decode cX2_takeStepOfText 107 = .ok (.ireturn, 1) := by decide +kernel
theorem dX2_takeStepOfText_108 : decode cX2_takeStepOfText 108 = .ok (.aload_n 0, 1) := by decide +kernel
theorem dX2_takeStepOfText_109 : decode cX2_takeStepOfText 109 = .ok (.getfield 10, 3) := by decide +kernel
theorem dX2_takeStepOfText_112 : decode cX2_takeStepOfText 112 = .ok (.iload_n 2, 1) := by decide +kernel
theorem dX2_takeStepOfText_113 : decode cX2_takeStepOfText 113 = .ok (.iload_n 3, 1) := by decide +kernel
theorem dX2_takeStepOfText_114 : decode cX2_takeStepOfText 114 = .ok (.iload 4, 2) := by decide +kernel
theorem dX2_takeStepOfText_116 : decode cX2_takeStepOfText 116 = .ok (.invokevirtual 123, 3) := by decide +kernel
theorem dX2_takeStepOfText_119 : decode cX2_takeStepOfText 119 = .ok (.ifCond .ge 13, 3) := by decide +kernel
theorem dX2_takeStepOfText_122 : decode cX2_takeStepOfText 122 = .ok (.aload_n 0, 1) := by decide +kernel
theorem dX2_takeStepOfText_123 : decode cX2_takeStepOfText 123 = .ok (.getfield 29, 3) := by decide +kernel
theorem dX2_takeStepOfText_126 : decode cX2_takeStepOfText 126 = .ok (.iload_n 1, 1) := by decide +kernel
theorem dX2_takeStepOfText_127 : decode cX2_takeStepOfText 127 = .ok (.putfield 72, 3) := by decide +kernel
theorem dX2_takeStepOfText_130 : decode cX2_takeStepOfText 130 = .ok (.iconst 0, 1) := by decide +kernel
theorem dX2_takeStepOfText_131 : decode cX2_takeStepOfText 131 = .ok (.ireturn, 1) := by decide +kernel
theorem dX2_takeStepOfText_132 : decode cX2_takeStepOfText 132 = .ok (.iconst 1, 1) := by decide +kernel
theorem dX2_takeStepOfText_133 : decode cX2_takeStepOfText 133 = .ok (.ireturn, 1) := by decide +kernel
theorem dX2_kindOf_0 : decode cX2_kindOf 0 = .ok (.iload_n 0, 1) := by decide +kernel
theorem dX2_kindOf_1 : decode cX2_kindOf 1 = .ok (.lookupswitch 51 #[(99, 43), (114, 47), (116, 45), (120, 49)], 43) := by decide +kernel
theorem dX2_kindOf_44 : decode cX2_kindOf 44 = .ok (.iconst 0, 1) := by decide +kernel
theorem dX2_kindOf_45 : decode cX2_kindOf 45 = .ok (.ireturn, 1) := by decide +kernel
theorem dX2_kindOf_46 : decode cX2_kindOf 46 = .ok (.iconst 1, 1) := by decide +kernel
theorem dX2_kindOf_47 : decode cX2_kindOf 47 = .ok (.ireturn, 1) := by decide +kernel
theorem dX2_kindOf_48 : decode cX2_kindOf 48 = .ok (.iconst 2, 1) := by decide +kernel
theorem dX2_kindOf_49 : decode cX2_kindOf 49 = .ok (.ireturn, 1) := by decide +kernel
theorem dX2_kindOf_50 : decode cX2_kindOf 50 = .ok (.iconst 3, 1) := by decide +kernel
theorem dX2_kindOf_51 : decode cX2_kindOf 51 = .ok (.ireturn, 1) := by decide +kernel
theorem dX2_kindOf_52 : decode cX2_kindOf 52 = .ok (.iconst (-1), 1) := by decide +kernel
theorem dX2_kindOf_53 : decode cX2_kindOf 53 = .ok (.ireturn, 1) := by decide +kernel
set_option maxRecDepth 20000 in
theorem ggX3_init_X3_begins : GoodIn wsX3_init wsX3_begins := goodIn_r _ [15, 5, 16, 17, 18, 19, 20, 21, 22, 23, 24, 25, 26] (by decide +kernel) (by decide +kernel)
set_option maxRecDepth 20000 in
theorem gX3_init_X3_begins : GoodIn wsX3_init (wsV RX3 28 RX3 yX3_begins wsX3_begins) := goodIn_app (goodIn_of _ (by decide +kernel)) ggX3_init_X3_begins
theorem dX3_init_0 : decode cX3_init 0 = .ok (.aload_n 0, 1) := by decide +kernel
theorem dX3_init_1 : decode cX3_init 1 = .ok (.invokespecial 1, 3) := by decide +kernel
theorem dX3_init_4 : decode cX3_init 4 = .ok (.aload_n 0, 1) := by decide +kernel
theorem dX3_init_5 : decode cX3_init 5 = .ok (.sipush 935, 3) := by decide +kernel
theorem dX3_init_8 : decode cX3_init 8 = .ok (.newarray .int, 2) := by decide +kernel
theorem dX3_init_10 : decode cX3_init 10 = .ok (.putfield 7, 3) := by decide +kernel
theorem dX3_init_13 : decode cX3_init 13 = .ok (.aload_n 0, 1) := by decide +kernel
theorem dX3_init_14 : decode cX3_init 14 = .ok (.sipush 4675, 3) := by decide +kernel
theorem dX3_init_17 : decode cX3_init 17 = .ok (.newarray .int, 2) := by decide +kernel
theorem dX3_init_19 : decode cX3_init 19 = .ok (.putfield 13, 3) := by decide +kernel
theorem dX3_init_22 : decode cX3_init 22 = .ok (.aload_n 0, 1) := by decide +kernel
theorem dX3_init_23 : decode cX3_init 23 = .ok (.sipush 935, 3) := by decide +kernel
theorem dX3_init_26 : decode cX3_init 26 = .ok (.newarray .int, 2) := by decide +kernel
theorem dX3_init_28 : decode cX3_init 28 = .ok (.putfield 16, 3) := by decide +kernel
theorem dX3_init_31 : decode cX3_init 31 = .ok (.aload_n 0, 1) := by decide +kernel
theorem dX3_init_32 : decode cX3_init 32 = .ok (.bipush 120, 2) := by decide +kernel
theorem dX3_init_34 : decode cX3_init 34 = .ok (.newarray .int, 2) := by decide +kernel
theorem dX3_init_36 : decode cX3_init 36 = .ok (.putfield 19, 3) := by decide +kernel
theorem dX3_init_39 : decode cX3_init 39 = .ok (.aload_n 0, 1) := by decide +kernel
theorem dX3_init_40 : decode cX3_init 40 = .ok (.bipush 16, 2) := by decide +kernel
theorem dX3_init_42 : decode cX3_init 42 = .ok (.newarray .int, 2) := by decide +kernel
theorem dX3_init_44 : decode cX3_init 44 = .ok (.putfield 22, 3) := by decide +kernel
theorem dX3_init_47 : decode cX3_init 47 = .ok (.aload_n 0, 1) := by decide +kernel
theorem dX3_init_48 : decode cX3_init 48 = .ok (.bipush 40, 2) := by decide +kernel
theorem dX3_init_50 : decode cX3_init 50 = .ok (.newarray .int, 2) := by decide +kernel
theorem dX3_init_52 : decode cX3_init 52 = .ok (.putfield 25, 3) := by decide +kernel
theorem dX3_init_55 : decode cX3_init 55 = .ok (.aload_n 0, 1) := by decide +kernel
theorem dX3_init_56 : decode cX3_init 56 = .ok (.bipush 8, 2) := by decide +kernel
theorem dX3_init_58 : decode cX3_init 58 = .ok (.invokevirtual 28, 3) := by decide +kernel
theorem dX3_init_61 : decode cX3_init 61 = .ok (.return_, 1) := by decide +kernel
theorem dX3_in_0 : decode cX3_in 0 = .ok (.iload_n 0, 1) := by decide +kernel
theorem dX3_in_1 : decode cX3_in 1 = .ok (.iload_n 1, 1) := by decide +kernel
theorem dX3_in_2 : decode cX3_in 2 = .ok (.if_icmp .lt 12, 3) := by decide +kernel
theorem dX3_in_5 : decode cX3_in 5 = .ok (.iload_n 0, 1) := by decide +kernel
theorem dX3_in_6 : decode cX3_in 6 = .ok (.iload_n 2, 1) := by decide +kernel
theorem dX3_in_7 : decode cX3_in 7 = .ok (.if_icmp .gt 7, 3) := by decide +kernel
theorem dX3_in_10 : decode cX3_in 10 = .ok (.iconst 1, 1) := by decide +kernel
theorem dX3_in_11 : decode cX3_in 11 = .ok (.goto 4, 3) := by decide +kernel
theorem dX3_in_14 : decode cX3_in 14 = .ok (.iconst 0, 1) := by decide +kernel
theorem dX3_in_15 : decode cX3_in 15 = .ok (.ireturn, 1) := by decide +kernel
theorem dX3_acts_0 : decode cX3_acts 0 = .ok (.aload_n 0, 1) := by decide +kernel
theorem dX3_acts_1 : decode cX3_acts 1 = .ok (.getfield 32, 3) := by decide +kernel
theorem dX3_acts_4 : decode cX3_acts 4 = .ok (.ifCond .eq 4, 3) := by decide +kernel
theorem dX3_acts_7 : decode cX3_acts 7 = .ok (.return_, 1) := by decide +kernel
theorem dX3_acts_8 : decode cX3_acts 8 = .ok (.aload_n 0, 1) := by decide +kernel
theorem dX3_acts_9 : decode cX3_acts 9 = .ok (.getfield 36, 3) := by decide +kernel
theorem dX3_acts_12 : decode cX3_acts 12 = .ok (.iconst 5, 1) := by decide +kernel
theorem dX3_acts_13 : decode cX3_acts 13 = .ok (.if_icmp .ne 44, 3) := by decide +kernel
theorem dX3_acts_16 : decode cX3_acts 16 = .ok (.iconst 0, 1) := by decide +kernel
theorem dX3_acts_17 : decode cX3_acts 17 = .ok (.istore_n 1, 1) := by decide +kernel
theorem dX3_acts_18 : decode cX3_acts 18 = .ok (.iload_n 1, 1) := by decide +kernel
theorem dX3_acts_19 : decode cX3_acts 19 = .ok (.sipush 3740, 3) := by decide +kernel
theorem dX3_acts_22 : decode cX3_acts 22 = .ok (.if_icmp .ge 25, 3) := by decide +kernel
theorem dX3_acts_25 : decode cX3_acts 25 = .ok (.aload_n 0, 1) := by decide +kernel
theorem dX3_acts_26 : decode cX3_acts 26 = .ok (.getfield 13, 3) := by decide +kernel
theorem dX3_acts_29 : decode cX3_acts 29 = .ok (.iload_n 1, 1) := by decide +kernel
theorem dX3_acts_30 : decode cX3_acts 30 = .ok (.aload_n 0, 1) := by decide +kernel
theorem dX3_acts_31 : decode cX3_acts 31 = .ok (.getfield 13, 3) := by decide +kernel
theorem dX3_acts_34 : decode cX3_acts 34 = .ok (.iload_n 1, 1) := by decide +kernel
theorem dX3_acts_35 : decode cX3_acts 35 = .ok (.sipush 935, 3) := by decide +kernel
theorem dX3_acts_38 : decode cX3_acts 38 = .ok (.iadd, 1) := by decide +kernel
theorem dX3_acts_39 : decode cX3_acts 39 = .ok (.iaload, 1) := by decide +kernel
theorem dX3_acts_40 : decode cX3_acts 40 = .ok (.iastore, 1) := by decide +kernel
theorem dX3_acts_41 : decode cX3_acts 41 = .ok (.iinc 1 1, 3) := by decide +kernel
theorem dX3_acts_44 : decode cX3_acts 44 = .ok (.goto (-26), 3) := by decide +kernel
theorem dX3_acts_47 : decode cX3_acts 47 = .ok (.aload_n 0, 1) := by decide +kernel
theorem dX3_acts_48 : decode cX3_acts 48 = .ok (.dup, 1) := by decide +kernel
theorem dX3_acts_49 : decode cX3_acts 49 = .ok (.getfield 36, 3) := by decide +kernel
theorem dX3_acts_52 : decode cX3_acts 52 = .ok (.iconst 1, 1) := by decide +kernel
theorem dX3_acts_53 : decode cX3_acts 53 = .ok (.isub, 1) := by decide +kernel
theorem dX3_acts_54 : decode cX3_acts 54 = .ok (.putfield 36, 3) := by decide +kernel
theorem dX3_acts_57 : decode cX3_acts 57 = .ok (.iconst 0, 1) := by decide +kernel
theorem dX3_acts_58 : decode cX3_acts 58 = .ok (.istore_n 1, 1) := by decide +kernel
theorem dX3_acts_59 : decode cX3_acts 59 = .ok (.iload_n 1, 1) := by decide +kernel
theorem dX3_acts_60 : decode cX3_acts 60 = .ok (.sipush 935, 3) := by decide +kernel
theorem dX3_acts_63 : decode cX3_acts 63 = .ok (.if_icmp .ge 30, 3) := by decide +kernel
theorem dX3_acts_66 : decode cX3_acts 66 = .ok (.aload_n 0, 1) := by decide +kernel
theorem dX3_acts_67 : decode cX3_acts 67 = .ok (.getfield 13, 3) := by decide +kernel
theorem dX3_acts_70 : decode cX3_acts 70 = .ok (.sipush 935, 3) := by decide +kernel
theorem dX3_acts_73 : decode cX3_acts 73 = .ok (.aload_n 0, 1) := by decide +kernel
theorem dX3_acts_74 : decode cX3_acts 74 = .ok (.getfield 36, 3) := by decide +kernel
theorem dX3_acts_77 : decode cX3_acts 77 = .ok (.imul, 1) := by decide +kernel
theorem dX3_acts_78 : decode cX3_acts 78 = .ok (.iload_n 1, 1) := by decide +kernel
theorem dX3_acts_79 : decode cX3_acts 79 = .ok (.iadd, 1) := by decide +kernel
theorem dX3_acts_80 : decode cX3_acts 80 = .ok (.aload_n 0, 1) := by decide +kernel
theorem dX3_acts_81 : decode cX3_acts 81 = .ok (.getfield 7, 3) := by decide +kernel
theorem dX3_acts_84 : decode cX3_acts 84 = .ok (.iload_n 1, 1) := by decide +kernel
theorem dX3_acts_85 : decode cX3_acts 85 = .ok (.iaload, 1) := by decide +kernel
theorem dX3_acts_86 : decode cX3_acts 86 = .ok (.iastore, 1) := by decide +kernel
theorem dX3_acts_87 : decode cX3_acts 87 = .ok (.iinc 1 1, 3) := by decide +kernel
theorem dX3_acts_90 : decode cX3_acts 90 = .ok (.goto (-31), 3) := by decide +kernel
theorem dX3_acts_93 : decode cX3_acts 93 = .ok (.aload_n 0, 1) := by decide +kernel
theorem dX3_acts_94 : decode cX3_acts 94 = .ok (.dup, 1) := by decide +kernel
theorem dX3_acts_95 : decode cX3_acts 95 = .ok (.getfield 36, 3) := by decide +kernel
theorem dX3_acts_98 : decode cX3_acts 98 = .ok (.iconst 1, 1) := by decide +kernel
theorem dX3_acts_99 : decode cX3_acts 99 = .ok (.iadd, 1) := by decide +kernel
theorem dX3_acts_100 : decode cX3_acts 100 = .ok (.putfield 36, 3) := by decide +kernel
theorem dX3_acts_103 : decode cX3_acts 103 = .ok (.return_, 1) := by decide +kernel
theorem dX3_begins_0 : decode cX3_begins 0 = .ok (.aload_n 0, 1) := by decide +kernel
theorem dX3_begins_1 : decode cX3_begins 1 = .ok (.getfield 7, 3) := by decide +kernel
theorem dX3_begins_4 : decode cX3_begins 4 = .ok (.bipush 14, 2) := by decide +kernel
theorem dX3_begins_6 : decode cX3_begins 6 = .ok (.iaload, 1) := by decide +kernel
theorem dX3_begins_7 : decode cX3_begins 7 = .ok (.istore_n 2, 1) := by decide +kernel
theorem dX3_begins_8 : decode cX3_begins 8 = .ok (.iconst 0, 1) := by decide +kernel
theorem dX3_begins_9 : decode cX3_begins 9 = .ok (.istore_n 3, 1) := by decide +kernel
theorem dX3_begins_10 : decode cX3_begins 10 = .ok (.iload_n 3, 1) := by decide +kernel
theorem dX3_begins_11 : decode cX3_begins 11 = .ok (.sipush 935, 3) := by decide +kernel
theorem dX3_begins_14 : decode cX3_begins 14 = .ok (.if_icmp .ge 16, 3) := by decide +kernel
theorem dX3_begins_17 : decode cX3_begins 17 = .ok (.aload_n 0, 1) := by decide +kernel
theorem dX3_begins_18 : decode cX3_begins 18 = .ok (.getfield 7, 3) := by decide +kernel
theorem dX3_begins_21 : decode cX3_begins 21 = .ok (.iload_n 3, 1) := by decide +kernel
theorem dX3_begins_22 : decode cX3_begins 22 = .ok (.iconst 0, 1) := by decide +kernel
theorem dX3_begins_23 : decode cX3_begins 23 = .ok (.iastore, 1) := by decide +kernel
theorem dX3_begins_24 : decode cX3_begins 24 = .ok (.iinc 3 1, 3) := by decide +kernel
theorem dX3_begins_27 : decode cX3_begins 27 = .ok (.goto (-17), 3) := by decide +kernel
theorem dX3_begins_30 : decode cX3_begins 30 = .ok (.aload_n 0, 1) := by decide +kernel
theorem dX3_begins_31 : decode cX3_begins 31 = .ok (.getfield 7, 3) := by decide +kernel
theorem dX3_begins_34 : decode cX3_begins 34 = .ok (.bipush 14, 2) := by decide +kernel
theorem dX3_begins_36 : decode cX3_begins 36 = .ok (.iload_n 2, 1) := by decide +kernel
theorem dX3_begins_37 : decode cX3_begins 37 = .ok (.iastore, 1) := by decide +kernel
theorem dX3_begins_38 : decode cX3_begins 38 = .ok (.aload_n 0, 1) := by decide +kernel
theorem dX3_begins_39 : decode cX3_begins 39 = .ok (.getfield 7, 3) := by decide +kernel
theorem dX3_begins_42 : decode cX3_begins 42 = .ok (.bipush 11, 2) := by decide +kernel
theorem dX3_begins_44 : decode cX3_begins 44 = .ok (.iload_n 1, 1) := by decide +kernel
theorem dX3_begins_45 : decode cX3_begins 45 = .ok (.iastore, 1) := by decide +kernel
theorem dX3_begins_46 : decode cX3_begins 46 = .ok (.aload_n 0, 1) := by decide +kernel
theorem dX3_begins_47 : decode cX3_begins 47 = .ok (.getfield 7, 3) := by decide +kernel
theorem dX3_begins_50 : decode cX3_begins 50 = .ok (.bipush 12, 2) := by decide +kernel
theorem dX3_begins_52 : decode cX3_begins 52 = .ok (.iload_n 1, 1) := by decide +kernel
theorem dX3_begins_53 : decode cX3_begins 53 = .ok (.iconst 1, 1) := by decide +kernel
theorem dX3_begins_54 : decode cX3_begins 54 = .ok (.isub, 1) := by decide +kernel
theorem dX3_begins_55 : decode cX3_begins 55 = .ok (.iastore, 1) := by decide +kernel
theorem dX3_begins_56 : decode cX3_begins 56 = .ok (.iconst 0, 1) := by decide +kernel
theorem dX3_begins_57 : decode cX3_begins 57 = .ok (.istore_n 3, 1) := by decide +kernel
theorem dX3_begins_58 : decode cX3_begins 58 = .ok (.iload_n 3, 1) := by decide +kernel
theorem dX3_begins_59 : decode cX3_begins 59 = .ok (.bipush 16, 2) := by decide +kernel
theorem dX3_begins_61 : decode cX3_begins 61 = .ok (.if_icmp .ge 41, 3) := by decide +kernel
theorem dX3_begins_64 : decode cX3_begins 64 = .ok (.aload_n 0, 1) := by decide +kernel
theorem dX3_begins_65 : decode cX3_begins 65 = .ok (.getfield 7, 3) := by decide +kernel
theorem dX3_begins_68 : decode cX3_begins 68 = .ok (.sipush 215, 3) := by decide +kernel
theorem dX3_begins_71 : decode cX3_begins 71 = .ok (.iconst 3, 1) := by decide +kernel
theorem dX3_begins_72 : decode cX3_begins 72 = .ok (.iload_n 3, 1) := by decide +kernel
theorem dX3_begins_73 : decode cX3_begins 73 = .ok (.imul, 1) := by decide +kernel
theorem dX3_begins_74 : decode cX3_begins 74 = .ok (.iadd, 1) := by decide +kernel
theorem dX3_begins_75 : decode cX3_begins 75 = .ok (.iconst 0, 1) := by decide +kernel
theorem dX3_begins_76 : decode cX3_begins 76 = .ok (.iadd, 1) := by decide +kernel
theorem dX3_begins_77 : decode cX3_begins 77 = .ok (.bipush (-9), 2) := by decide +kernel
theorem dX3_begins_79 : decode cX3_begins 79 = .ok (.iastore, 1) := by decide +kernel
theorem dX3_begins_80 : decode cX3_begins 80 = .ok (.aload_n 0, 1) := by decide +kernel
theorem dX3_begins_81 : decode cX3_begins 81 = .ok (.getfield 7, 3) := by decide +kernel
theorem dX3_begins_84 : decode cX3_begins 84 = .ok (.sipush 215, 3) := by decide +kernel
theorem dX3_begins_87 : decode cX3_begins 87 = .ok (.iconst 3, 1) := by decide +kernel
theorem dX3_begins_88 : decode cX3_begins 88 = .ok (.iload_n 3, 1) := by decide +kernel
theorem dX3_begins_89 : decode cX3_begins 89 = .ok (.imul, 1) := by decide +kernel
theorem dX3_begins_90 : decode cX3_begins 90 = .ok (.iadd, 1) := by decide +kernel
theorem dX3_begins_91 : decode cX3_begins 91 = .ok (.iconst 1, 1) := by decide +kernel
theorem dX3_begins_92 : decode cX3_begins 92 = .ok (.iadd, 1) := by decide +kernel
theorem dX3_begins_93 : decode cX3_begins 93 = .ok (.bipush (-9), 2) := by decide +kernel
theorem dX3_begins_95 : decode cX3_begins 95 = .ok (.iastore, 1) := by decide +kernel
theorem dX3_begins_96 : decode cX3_begins 96 = .ok (.iinc 3 1, 3) := by decide +kernel
theorem dX3_begins_99 : decode cX3_begins 99 = .ok (.goto (-41), 3) := by decide +kernel
theorem dX3_begins_102 : decode cX3_begins 102 = .ok (.return_, 1) := by decide +kernel
theorem dX3_ofFrame_0 : decode cX3_ofFrame 0 = .ok (.aload_n 0, 1) := by decide +kernel
theorem dX3_ofFrame_1 : decode cX3_ofFrame 1 = .ok (.getfield 7, 3) := by decide +kernel
theorem dX3_ofFrame_4 : decode cX3_ofFrame 4 = .ok (.bipush 15, 2) := by decide +kernel
theorem dX3_ofFrame_6 : decode cX3_ofFrame 6 = .ok (.iconst 5, 1) := by decide +kernel
theorem dX3_ofFrame_7 : decode cX3_ofFrame 7 = .ok (.iload_n 1, 1) := by decide +kernel
theorem dX3_ofFrame_8 : decode cX3_ofFrame 8 = .ok (.imul, 1) := by decide +kernel
theorem dX3_ofFrame_9 : decode cX3_ofFrame 9 = .ok (.iadd, 1) := by decide +kernel
theorem dX3_ofFrame_10 : decode cX3_ofFrame 10 = .ok (.iload_n 2, 1) := by decide +kernel
theorem dX3_ofFrame_11 : decode cX3_ofFrame 11 = .ok (.iadd, 1) := by decide +kernel
theorem dX3_ofFrame_12 : decode cX3_ofFrame 12 = .ok (.iaload, 1) := by decide +kernel
theorem dX3_ofFrame_13 : decode cX3_ofFrame 13 = .ok (.ireturn, 1) := by decide +kernel
theorem dX3_ofSlot_0 : decode cX3_ofSlot 0 = .ok (.aload_n 0, 1) := by decide +kernel
theorem dX3_ofSlot_1 : decode cX3_ofSlot 1 = .ok (.getfield 7, 3) := by decide +kernel
theorem dX3_ofSlot_4 : decode cX3_ofSlot 4 = .ok (.sipush 215, 3) := by decide +kernel
theorem dX3_ofSlot_7 : decode cX3_ofSlot 7 = .ok (.iconst 3, 1) := by decide +kernel
theorem dX3_ofSlot_8 : decode cX3_ofSlot 8 = .ok (.iload_n 1, 1) := by decide +kernel
theorem dX3_ofSlot_9 : decode cX3_ofSlot 9 = .ok (.imul, 1) := by decide +kernel
theorem dX3_ofSlot_10 : decode cX3_ofSlot 10 = .ok (.iadd, 1) := by decide +kernel
theorem dX3_ofSlot_11 : decode cX3_ofSlot 11 = .ok (.iload_n 2, 1) := by decide +kernel
theorem dX3_ofSlot_12 : decode cX3_ofSlot 12 = .ok (.iadd, 1) := by decide +kernel
theorem dX3_ofSlot_13 : decode cX3_ofSlot 13 = .ok (.iaload, 1) := by decide +kernel
theorem dX3_ofSlot_14 : decode cX3_ofSlot 14 = .ok (.ireturn, 1) := by decide +kernel
theorem dX3_notes_0 : decode cX3_notes 0 = .ok (.aload_n 0, 1) := by decide +kernel
theorem dX3_notes_1 : decode cX3_notes 1 = .ok (.getfield 7, 3) := by decide +kernel
theorem dX3_notes_4 : decode cX3_notes 4 = .ok (.sipush 335, 3) := by decide +kernel
theorem dX3_notes_7 : decode cX3_notes 7 = .ok (.iconst 2, 1) := by decide +kernel
theorem dX3_notes_8 : decode cX3_notes 8 = .ok (.aload_n 0, 1) := by decide +kernel
theorem dX3_notes_9 : decode cX3_notes 9 = .ok (.getfield 7, 3) := by decide +kernel
theorem dX3_notes_12 : decode cX3_notes 12 = .ok (.iconst 1, 1) := by decide +kernel
theorem dX3_notes_13 : decode cX3_notes 13 = .ok (.iaload, 1) := by decide +kernel
theorem dX3_notes_14 : decode cX3_notes 14 = .ok (.imul, 1) := by decide +kernel
theorem dX3_notes_15 : decode cX3_notes 15 = .ok (.iadd, 1) := by decide +kernel
theorem dX3_notes_16 : decode cX3_notes 16 = .ok (.iload_n 1, 1) := by decide +kernel
theorem dX3_notes_17 : decode cX3_notes 17 = .ok (.iastore, 1) := by decide +kernel
theorem dX3_notes_18 : decode cX3_notes 18 = .ok (.aload_n 0, 1) := by decide +kernel
theorem dX3_notes_19 : decode cX3_notes 19 = .ok (.getfield 7, 3) := by decide +kernel
theorem dX3_notes_22 : decode cX3_notes 22 = .ok (.sipush 335, 3) := by decide +kernel
theorem dX3_notes_25 : decode cX3_notes 25 = .ok (.iconst 2, 1) := by decide +kernel
theorem dX3_notes_26 : decode cX3_notes 26 = .ok (.aload_n 0, 1) := by decide +kernel
theorem dX3_notes_27 : decode cX3_notes 27 = .ok (.getfield 7, 3) := by decide +kernel
theorem dX3_notes_30 : decode cX3_notes 30 = .ok (.iconst 1, 1) := by decide +kernel
theorem dX3_notes_31 : decode cX3_notes 31 = .ok (.iaload, 1) := by decide +kernel
theorem dX3_notes_32 : decode cX3_notes 32 = .ok (.imul, 1) := by decide +kernel
theorem dX3_notes_33 : decode cX3_notes 33 = .ok (.iadd, 1) := by decide +kernel
theorem dX3_notes_34 : decode cX3_notes 34 = .ok (.iconst 1, 1) := by decide +kernel
theorem dX3_notes_35 : decode cX3_notes 35 = .ok (.iadd, 1) := by decide +kernel
theorem dX3_notes_36 : decode cX3_notes 36 = .ok (.iload_n 2, 1) := by decide +kernel
theorem dX3_notes_37 : decode cX3_notes 37 = .ok (.iastore, 1) := by decide +kernel
theorem dX3_notes_38 : decode cX3_notes 38 = .ok (.aload_n 0, 1) := by decide +kernel
theorem dX3_notes_39 : decode cX3_notes 39 = .ok (.getfield 7, 3) := by decide +kernel
theorem dX3_notes_42 : decode cX3_notes 42 = .ok (.iconst 1, 1) := by decide +kernel
theorem dX3_notes_43 : decode cX3_notes 43 = .ok (.dup2, 1) := by decide +kernel
theorem dX3_notes_44 : decode cX3_notes 44 = .ok (.iaload, 1) := by decide +kernel
theorem dX3_notes_45 : decode cX3_notes 45 = .ok (.iconst 1, 1) := by decide +kernel
theorem dX3_notes_46 : decode cX3_notes 46 = .ok (.iadd, 1) := by decide +kernel
theorem dX3_notes_47 : decode cX3_notes 47 = .ok (.iastore, 1) := by decide +kernel
theorem dX3_notes_48 : decode cX3_notes 48 = .ok (.aload_n 0, 1) := by decide +kernel
theorem dX3_notes_49 : decode cX3_notes 49 = .ok (.getfield 7, 3) := by decide +kernel
theorem dX3_notes_52 : decode cX3_notes 52 = .ok (.iconst 2, 1) := by decide +kernel
theorem dX3_notes_53 : decode cX3_notes 53 = .ok (.iload_n 1, 1) := by decide +kernel
theorem dX3_notes_54 : decode cX3_notes 54 = .ok (.iadd, 1) := by decide +kernel
theorem dX3_notes_55 : decode cX3_notes 55 = .ok (.dup2, 1) := by decide +kernel
theorem dX3_notes_56 : decode cX3_notes 56 = .ok (.iaload, 1) := by decide +kernel
theorem dX3_notes_57 : decode cX3_notes 57 = .ok (.iconst 1, 1) := by decide +kernel
theorem dX3_notes_58 : decode cX3_notes 58 = .ok (.iadd, 1) := by decide +kernel
theorem dX3_notes_59 : decode cX3_notes 59 = .ok (.iastore, 1) := by decide +kernel
theorem dX3_notes_60 : decode cX3_notes 60 = .ok (.return_, 1) := by decide +kernel
set_option maxRecDepth 20000 in
theorem ggX3_call_X3_in : GoodIn wsX3_call wsX3_in := goodIn_r _ [5] (by decide +kernel) (by decide +kernel)
set_option maxRecDepth 20000 in
theorem gX3_call_X3_in : GoodIn wsX3_call (va_wsS RX3 40 yX3_in wsX3_in) := goodIn_app (goodIn_of _ (by decide +kernel)) ggX3_call_X3_in
set_option maxRecDepth 20000 in
theorem ggX3_call_X3_acts : GoodIn wsX3_call wsX3_acts := goodIn_r _ [9, 10, 11, 12, 1, 21, 22, 23, 24, 25, 26, 27, 28, 29, 30, 31] (by decide +kernel) (by decide +kernel)
set_option maxRecDepth 20000 in
theorem gX3_call_X3_acts : GoodIn wsX3_call (wsV RX3 44 RX3 yX3_acts wsX3_acts) := goodIn_app (goodIn_of _ (by decide +kernel)) ggX3_call_X3_acts
set_option maxRecDepth 20000 in
theorem ggX3_call_X3_ofFrame : GoodIn wsX3_call wsX3_ofFrame := goodIn_r _ [16, 1, 21, 22, 23, 24, 25, 26, 27, 28, 29, 30, 31] (by decide +kernel) (by decide +kernel)
set_option maxRecDepth 20000 in
theorem gX3_call_X3_ofFrame : GoodIn wsX3_call (wsV RX3 47 RX3 yX3_ofFrame wsX3_ofFrame) := goodIn_app (goodIn_of _ (by decide +kernel)) ggX3_call_X3_ofFrame
set_option maxRecDepth 20000 in
theorem ggX3_call_X3_notes : GoodIn wsX3_call wsX3_notes := goodIn_r _ [20, 1, 21, 22, 23, 24, 25, 26, 27, 28, 29, 30, 31] (by decide +kernel) (by decide +kernel)
set_option maxRecDepth 20000 in
theorem gX3_call_X3_notes : GoodIn wsX3_call (wsV RX3 51 RX3 yX3_notes wsX3_notes) := goodIn_app (goodIn_of _ (by decide +kernel)) ggX3_call_X3_notes
theorem dX3_call_0 : decode cX3_call 0 = .ok (.iload_n 1, 1) := by decide +kernel
theorem dX3_call_1 : decode cX3_call 1 = .ok (.iconst 0, 1) := by decide +kernel
theorem dX3_call_2 : decode cX3_call 2 = .ok (.bipush 15, 2) := by decide +kernel
theorem dX3_call_4 : decode cX3_call 4 = .ok (.invokestatic 40, 3) := by decide +kernel
theorem dX3_call_7 : decode cX3_call 7 = .ok (.ifCond .eq 14, 3) := by decide +kernel
theorem dX3_call_10 : decode cX3_call 10 = .ok (.iload_n 2, 1) := by decide +kernel
theorem dX3_call_11 : decode cX3_call 11 = .ok (.iconst 0, 1) := by decide +kernel
theorem dX3_call_12 : decode cX3_call 12 = .ok (.sipush 999, 3) := by decide +kernel
theorem dX3_call_15 : decode cX3_call 15 = .ok (.invokestatic 40, 3) := by decide +kernel
theorem dX3_call_18 : decode cX3_call 18 = .ok (.ifCond .ne 5, 3) := by decide +kernel
theorem dX3_call_21 : decode cX3_call 21 = .ok (.iconst (-1), 1) := by decide +kernel
theorem dX3_call_22 : decode cX3_call 22 = .ok (.ireturn, 1) := by decide +kernel
theorem dX3_call_23 : decode cX3_call 23 = .ok (.aload_n 0, 1) := by decide +kernel
theorem dX3_call_24 : decode cX3_call 24 = .ok (.getfield 7, 3) := by decide +kernel
theorem dX3_call_27 : decode cX3_call 27 = .ok (.iconst 0, 1) := by decide +kernel
theorem dX3_call_28 : decode cX3_call 28 = .ok (.iaload, 1) := by decide +kernel
