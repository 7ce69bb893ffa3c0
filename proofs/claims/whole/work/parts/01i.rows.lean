theorem dX3_run_37 : decode cX3_run 37 = .ok (.aload_n 0, 1) := by decide +kernel
theorem dX3_run_38 : decode cX3_run 38 = .ok (.iconst 0, 1) := by decide +kernel
theorem dX3_run_39 : decode cX3_run 39 = .ok (.putfield 73, 3) := by decide +kernel
theorem dX3_run_42 : decode cX3_run 42 = .ok (.aload_n 0, 1) := by decide +kernel
theorem dX3_run_43 : decode cX3_run 43 = .ok (.invokevirtual 76, 3) := by decide +kernel
theorem dX3_run_46 : decode cX3_run 46 = .ok (.iload_n 2, 1) := by decide +kernel
theorem dX3_run_47 : decode cX3_run 47 = .ok (.bipush (-9), 2) := by decide +kernel
theorem dX3_run_49 : decode cX3_run 49 = .ok (.if_icmp .ne 25, 3) := by decide +kernel
theorem dX3_run_52 : decode cX3_run 52 = .ok (.aload_n 0, 1) := by decide +kernel
theorem dX3_run_53 : decode cX3_run 53 = .ok (.getfield 73, 3) := by decide +kernel
theorem dX3_run_56 : decode cX3_run 56 = .ok (.aload_n 0, 1) := by decide +kernel
theorem dX3_run_57 : decode cX3_run 57 = .ok (.getfield 70, 3) := by decide +kernel
theorem dX3_run_60 : decode cX3_run 60 = .ok (.if_icmp .ge 14, 3) := by decide +kernel
theorem dX3_run_63 : decode cX3_run 63 = .ok (.aload_n 0, 1) := by decide +kernel
theorem dX3_run_64 : decode cX3_run 64 = .ok (.invokevirtual 103, 3) := by decide +kernel
theorem dX3_run_67 : decode cX3_run 67 = .ok (.istore_n 2, 1) := by decide +kernel
theorem dX3_run_68 : decode cX3_run 68 = .ok (.iinc 1 1, 3) := by decide +kernel
theorem dX3_run_71 : decode cX3_run 71 = .ok (.goto (-25), 3) := by decide +kernel
theorem dX3_run_74 : decode cX3_run 74 = .ok (.aload_n 0, 1) := by decide +kernel
theorem dX3_run_75 : decode cX3_run 75 = .ok (.iconst 0, 1) := by decide +kernel
theorem dX3_run_76 : decode cX3_run 76 = .ok (.putfield 32, 3) := by decide +kernel
theorem dX3_run_79 : decode cX3_run 79 = .ok (.aload_n 0, 1) := by decide +kernel
theorem dX3_run_80 : decode cX3_run 80 = .ok (.invokevirtual 106, 3) := by decide +kernel
theorem dX3_run_83 : decode cX3_run 83 = .ok (.iload_n 2, 1) := by decide +kernel
theorem dX3_run_84 : decode cX3_run 84 = .ok (.bipush (-9), 2) := by decide +kernel
theorem dX3_run_86 : decode cX3_run 86 = .ok (.if_icmp .eq 9, 3) := by decide +kernel
theorem dX3_run_89 : decode cX3_run 89 = .ok (.sipush (-1000), 3) := by decide +kernel
theorem dX3_run_92 : decode cX3_run 92 = .ok (.iload_n 2, 1) := by decide +kernel
theorem dX3_run_93 : decode cX3_run 93 = .ok (.isub, 1) := by decide +kernel
theorem dX3_run_94 : decode cX3_run 94 = .ok (.ireturn, 1) := by decide +kernel
theorem dX3_run_95 : decode cX3_run 95 = .ok (.aload_n 0, 1) := by decide +kernel
theorem dX3_run_96 : decode cX3_run 96 = .ok (.invokevirtual 44, 3) := by decide +kernel
theorem dX3_run_99 : decode cX3_run 99 = .ok (.aload_n 0, 1) := by decide +kernel
theorem dX3_run_100 : decode cX3_run 100 = .ok (.invokevirtual 106, 3) := by decide +kernel
theorem dX3_run_103 : decode cX3_run 103 = .ok (.aload_n 0, 1) := by decide +kernel
theorem dX3_run_104 : decode cX3_run 104 = .ok (.iconst 0, 1) := by decide +kernel
theorem dX3_run_105 : decode cX3_run 105 = .ok (.putfield 70, 3) := by decide +kernel
theorem dX3_run_108 : decode cX3_run 108 = .ok (.iload_n 1, 1) := by decide +kernel
theorem dX3_run_109 : decode cX3_run 109 = .ok (.ireturn, 1) := by decide +kernel
set_option maxRecDepth 20000 in
theorem ggX3_overrun_X3_ofFrame : GoodIn wsX3_overrun wsX3_ofFrame := goodIn_r _ [6, 1, 7, 8, 9, 10, 11, 12, 13, 14, 15, 16, 17] (by decide +kernel) (by decide +kernel)
set_option maxRecDepth 20000 in
theorem gX3_overrun_X3_ofFrame : GoodIn wsX3_overrun (wsV RX3 47 RX3 yX3_ofFrame wsX3_ofFrame) := goodIn_app (goodIn_of _ (by decide +kernel)) ggX3_overrun_X3_ofFrame
theorem dX3_overrun_0 : decode cX3_overrun 0 = .ok (.iconst 0, 1) := by decide +kernel
theorem dX3_overrun_1 : decode cX3_overrun 1 = .ok (.istore_n 1, 1) := by decide +kernel
theorem dX3_overrun_2 : decode cX3_overrun 2 = .ok (.iconst 0, 1) := by decide +kernel
theorem dX3_overrun_3 : decode cX3_overrun 3 = .ok (.istore_n 2, 1) := by decide +kernel
theorem dX3_overrun_4 : decode cX3_overrun 4 = .ok (.iload_n 2, 1) := by decide +kernel
theorem dX3_overrun_5 : decode cX3_overrun 5 = .ok (.aload_n 0, 1) := by decide +kernel
theorem dX3_overrun_6 : decode cX3_overrun 6 = .ok (.getfield 7, 3) := by decide +kernel
theorem dX3_overrun_9 : decode cX3_overrun 9 = .ok (.iconst 0, 1) := by decide +kernel
theorem dX3_overrun_10 : decode cX3_overrun 10 = .ok (.iaload, 1) := by decide +kernel
theorem dX3_overrun_11 : decode cX3_overrun 11 = .ok (.if_icmp .ge 28, 3) := by decide +kernel
theorem dX3_overrun_14 : decode cX3_overrun 14 = .ok (.iload_n 1, 1) := by decide +kernel
theorem dX3_overrun_15 : decode cX3_overrun 15 = .ok (.aload_n 0, 1) := by decide +kernel
theorem dX3_overrun_16 : decode cX3_overrun 16 = .ok (.iload_n 2, 1) := by decide +kernel
theorem dX3_overrun_17 : decode cX3_overrun 17 = .ok (.iconst 4, 1) := by decide +kernel
theorem dX3_overrun_18 : decode cX3_overrun 18 = .ok (.invokevirtual 47, 3) := by decide +kernel
theorem dX3_overrun_21 : decode cX3_overrun 21 = .ok (.bipush (-9), 2) := by decide +kernel
theorem dX3_overrun_23 : decode cX3_overrun 23 = .ok (.if_icmp .eq 7, 3) := by decide +kernel
theorem dX3_overrun_26 : decode cX3_overrun 26 = .ok (.iconst 1, 1) := by decide +kernel
theorem dX3_overrun_27 : decode cX3_overrun 27 = .ok (.goto 4, 3) := by decide +kernel
theorem dX3_overrun_30 : decode cX3_overrun 30 = .ok (.iconst 0, 1) := by decide +kernel
theorem dX3_overrun_31 : decode cX3_overrun 31 = .ok (.iadd, 1) := by decide +kernel
theorem dX3_overrun_32 : decode cX3_overrun 32 = .ok (.istore_n 1, 1) := by decide +kernel
theorem dX3_overrun_33 : decode cX3_overrun 33 = .ok (.iinc 2 1, 3) := by decide +kernel
theorem dX3_overrun_36 : decode cX3_overrun 36 = .ok (.goto (-32), 3) := by decide +kernel
theorem dX3_overrun_39 : decode cX3_overrun 39 = .ok (.iload_n 1, 1) := by decide +kernel
theorem dX3_overrun_40 : decode cX3_overrun 40 = .ok (.ireturn, 1) := by decide +kernel
set_option maxRecDepth 20000 in
theorem ggX3_count_X3_in : GoodIn wsX3_count wsX3_in := goodIn_r _ [7] (by decide +kernel) (by decide +kernel)
set_option maxRecDepth 20000 in
theorem gX3_count_X3_in : GoodIn wsX3_count (va_wsS RX3 40 yX3_in wsX3_in) := goodIn_app (goodIn_of _ (by decide +kernel)) ggX3_count_X3_in
set_option maxRecDepth 20000 in
theorem ggX3_count_X3_overrun : GoodIn wsX3_count wsX3_overrun := goodIn_r _ [11, 1, 12, 13, 14, 6, 15, 16, 17, 18, 19, 20, 21, 22, 23, 24, 25, 26] (by decide +kernel) (by decide +kernel)
set_option maxRecDepth 20000 in
theorem gX3_count_X3_overrun : GoodIn wsX3_count (wsV RX3 109 RX3 yX3_overrun wsX3_overrun) := goodIn_app (goodIn_of _ (by decide +kernel)) ggX3_count_X3_overrun
theorem dX3_count_0 : decode cX3_count 0 = .ok (.iload_n 1, 1) := by decide +kernel
theorem dX3_count_1 : decode cX3_count 1 = .ok (.iconst 0, 1) := by decide +kernel
theorem dX3_count_2 : decode cX3_count 2 = .ok (.bipush 14, 2) := by decide +kernel
theorem dX3_count_4 : decode cX3_count 4 = .ok (.invokestatic 40, 3) := by decide +kernel
theorem dX3_count_7 : decode cX3_count 7 = .ok (.ifCond .eq 12, 3) := by decide +kernel
theorem dX3_count_10 : decode cX3_count 10 = .ok (.aload_n 0, 1) := by decide +kernel
theorem dX3_count_11 : decode cX3_count 11 = .ok (.getfield 7, 3) := by decide +kernel
theorem dX3_count_14 : decode cX3_count 14 = .ok (.iload_n 1, 1) := by decide +kernel
theorem dX3_count_15 : decode cX3_count 15 = .ok (.iaload, 1) := by decide +kernel
theorem dX3_count_16 : decode cX3_count 16 = .ok (.goto 43, 3) := by decide +kernel
theorem dX3_count_19 : decode cX3_count 19 = .ok (.iload_n 1, 1) := by decide +kernel
theorem dX3_count_20 : decode cX3_count 20 = .ok (.bipush 15, 2) := by decide +kernel
theorem dX3_count_22 : decode cX3_count 22 = .ok (.if_icmp .ne 10, 3) := by decide +kernel
theorem dX3_count_25 : decode cX3_count 25 = .ok (.aload_n 0, 1) := by decide +kernel
theorem dX3_count_26 : decode cX3_count 26 = .ok (.getfield 36, 3) := by decide +kernel
theorem dX3_count_29 : decode cX3_count 29 = .ok (.goto 30, 3) := by decide +kernel
theorem dX3_count_32 : decode cX3_count 32 = .ok (.iload_n 1, 1) := by decide +kernel
theorem dX3_count_33 : decode cX3_count 33 = .ok (.bipush 16, 2) := by decide +kernel
theorem dX3_count_35 : decode cX3_count 35 = .ok (.if_icmp .ne 10, 3) := by decide +kernel
theorem dX3_count_38 : decode cX3_count 38 = .ok (.aload_n 0, 1) := by decide +kernel
theorem dX3_count_39 : decode cX3_count 39 = .ok (.getfield 70, 3) := by decide +kernel
theorem dX3_count_42 : decode cX3_count 42 = .ok (.goto 17, 3) := by decide +kernel
theorem dX3_count_45 : decode cX3_count 45 = .ok (.iload_n 1, 1) := by decide +kernel
theorem dX3_count_46 : decode cX3_count 46 = .ok (.bipush 17, 2) := by decide +kernel
theorem dX3_count_48 : decode cX3_count 48 = .ok (.if_icmp .ne 10, 3) := by decide +kernel
theorem dX3_count_51 : decode cX3_count 51 = .ok (.aload_n 0, 1) := by decide +kernel
theorem dX3_count_52 : decode cX3_count 52 = .ok (.invokevirtual 109, 3) := by decide +kernel
theorem dX3_count_55 : decode cX3_count 55 = .ok (.goto 4, 3) := by decide +kernel
theorem dX3_count_58 : decode cX3_count 58 = .ok (.iconst (-1), 1) := by decide +kernel
theorem dX3_count_59 : decode cX3_count 59 = .ok (.ireturn, 1) := by decide +kernel
theorem dX3_isFrame_0 : decode cX3_isFrame 0 = .ok (.iload_n 1, 1) := by decide +kernel
theorem dX3_isFrame_1 : decode cX3_isFrame 1 = .ok (.ifCond .lt 17, 3) := by decide +kernel
theorem dX3_isFrame_4 : decode cX3_isFrame 4 = .ok (.iload_n 1, 1) := by decide +kernel
theorem dX3_isFrame_5 : decode cX3_isFrame 5 = .ok (.aload_n 0, 1) := by decide +kernel
theorem dX3_isFrame_6 : decode cX3_isFrame 6 = .ok (.getfield 7, 3) := by decide +kernel
theorem dX3_isFrame_9 : decode cX3_isFrame 9 = .ok (.iconst 0, 1) := by decide +kernel
theorem dX3_isFrame_10 : decode cX3_isFrame 10 = .ok (.iaload, 1) := by decide +kernel
theorem dX3_isFrame_11 : decode cX3_isFrame 11 = .ok (.if_icmp .ge 7, 3) := by decide +kernel
theorem dX3_isFrame_14 : decode cX3_isFrame 14 = .ok (.iconst 1, 1) := by decide +kernel
theorem dX3_isFrame_15 : decode cX3_isFrame 15 = .ok (.goto 4, 3) := by decide +kernel
theorem dX3_isFrame_18 : decode cX3_isFrame 18 = .ok (.iconst 0, 1) := by decide +kernel
theorem dX3_isFrame_19 : decode cX3_isFrame 19 = .ok (.ireturn, 1) := by decide +kernel
set_option maxRecDepth 20000 in
theorem ggX3_frame_X3_isFrame : GoodIn wsX3_frame wsX3_isFrame := goodIn_r _ [6, 1, 14, 15, 16, 17, 18, 19, 20, 21, 22, 23, 24] (by decide +kernel) (by decide +kernel)
set_option maxRecDepth 20000 in
theorem gX3_frame_X3_isFrame : GoodIn wsX3_frame (wsV RX3 112 RX3 yX3_isFrame wsX3_isFrame) := goodIn_app (goodIn_of _ (by decide +kernel)) ggX3_frame_X3_isFrame
set_option maxRecDepth 20000 in
theorem ggX3_frame_X3_in : GoodIn wsX3_frame wsX3_in := goodIn_r _ [9] (by decide +kernel) (by decide +kernel)
set_option maxRecDepth 20000 in
theorem gX3_frame_X3_in : GoodIn wsX3_frame (va_wsS RX3 40 yX3_in wsX3_in) := goodIn_app (goodIn_of _ (by decide +kernel)) ggX3_frame_X3_in
set_option maxRecDepth 20000 in
theorem ggX3_frame_X3_ofFrame : GoodIn wsX3_frame wsX3_ofFrame := goodIn_r _ [13, 1, 14, 15, 16, 17, 18, 19, 20, 21, 22, 23, 24] (by decide +kernel) (by decide +kernel)
set_option maxRecDepth 20000 in
theorem gX3_frame_X3_ofFrame : GoodIn wsX3_frame (wsV RX3 47 RX3 yX3_ofFrame wsX3_ofFrame) := goodIn_app (goodIn_of _ (by decide +kernel)) ggX3_frame_X3_ofFrame
theorem dX3_frame_0 : decode cX3_frame 0 = .ok (.aload_n 0, 1) := by decide +kernel
theorem dX3_frame_1 : decode cX3_frame 1 = .ok (.iload_n 1, 1) := by decide +kernel
theorem dX3_frame_2 : decode cX3_frame 2 = .ok (.invokevirtual 112, 3) := by decide +kernel
theorem dX3_frame_5 : decode cX3_frame 5 = .ok (.ifCond .eq 30, 3) := by decide +kernel
theorem dX3_frame_8 : decode cX3_frame 8 = .ok (.iload_n 2, 1) := by decide +kernel
theorem dX3_frame_9 : decode cX3_frame 9 = .ok (.iconst 0, 1) := by decide +kernel
theorem dX3_frame_10 : decode cX3_frame 10 = .ok (.iconst 4, 1) := by decide +kernel
theorem dX3_frame_11 : decode cX3_frame 11 = .ok (.invokestatic 40, 3) := by decide +kernel
theorem dX3_frame_14 : decode cX3_frame 14 = .ok (.ifCond .eq 21, 3) := by decide +kernel
theorem dX3_frame_17 : decode cX3_frame 17 = .ok (.aload_n 0, 1) := by decide +kernel
theorem dX3_frame_18 : decode cX3_frame 18 = .ok (.aload_n 0, 1) := by decide +kernel
theorem dX3_frame_19 : decode cX3_frame 19 = .ok (.getfield 7, 3) := by decide +kernel
theorem dX3_frame_22 : decode cX3_frame 22 = .ok (.iconst 0, 1) := by decide +kernel
theorem dX3_frame_23 : decode cX3_frame 23 = .ok (.iaload, 1) := by decide +kernel
theorem dX3_frame_24 : decode cX3_frame 24 = .ok (.iconst 1, 1) := by decide +kernel
theorem dX3_frame_25 : decode cX3_frame 25 = .ok (.isub, 1) := by decide +kernel
theorem dX3_frame_26 : decode cX3_frame 26 = .ok (.iload_n 1, 1) := by decide +kernel
theorem dX3_frame_27 : decode cX3_frame 27 = .ok (.isub, 1) := by decide +kernel
theorem dX3_frame_28 : decode cX3_frame 28 = .ok (.iload_n 2, 1) := by decide +kernel
theorem dX3_frame_29 : decode cX3_frame 29 = .ok (.invokevirtual 47, 3) := by decide +kernel
theorem dX3_frame_32 : decode cX3_frame 32 = .ok (.goto 4, 3) := by decide +kernel
theorem dX3_frame_35 : decode cX3_frame 35 = .ok (.iconst (-1), 1) := by decide +kernel
theorem dX3_frame_36 : decode cX3_frame 36 = .ok (.ireturn, 1) := by decide +kernel
set_option maxRecDepth 20000 in
theorem ggX3_slot_X3_in : GoodIn wsX3_slot wsX3_in := goodIn_r _ [5] (by decide +kernel) (by decide +kernel)
set_option maxRecDepth 20000 in
theorem gX3_slot_X3_in : GoodIn wsX3_slot (va_wsS RX3 40 yX3_in wsX3_in) := goodIn_app (goodIn_of _ (by decide +kernel)) ggX3_slot_X3_in
set_option maxRecDepth 20000 in
theorem ggX3_slot_X3_ofSlot : GoodIn wsX3_slot wsX3_ofSlot := goodIn_r _ [9, 1, 10, 11, 12, 13, 14, 15, 16, 17, 18, 19, 20] (by decide +kernel) (by decide +kernel)
set_option maxRecDepth 20000 in
theorem gX3_slot_X3_ofSlot : GoodIn wsX3_slot (wsV RX3 55 RX3 yX3_ofSlot wsX3_ofSlot) := goodIn_app (goodIn_of _ (by decide +kernel)) ggX3_slot_X3_ofSlot
theorem dX3_slot_0 : decode cX3_slot 0 = .ok (.iload_n 1, 1) := by decide +kernel
theorem dX3_slot_1 : decode cX3_slot 1 = .ok (.ifCond .lt 32, 3) := by decide +kernel
theorem dX3_slot_4 : decode cX3_slot 4 = .ok (.iload_n 1, 1) := by decide +kernel
theorem dX3_slot_5 : decode cX3_slot 5 = .ok (.aload_n 0, 1) := by decide +kernel
theorem dX3_slot_6 : decode cX3_slot 6 = .ok (.getfield 7, 3) := by decide +kernel
theorem dX3_slot_9 : decode cX3_slot 9 = .ok (.bipush 11, 2) := by decide +kernel
theorem dX3_slot_11 : decode cX3_slot 11 = .ok (.iaload, 1) := by decide +kernel
theorem dX3_slot_12 : decode cX3_slot 12 = .ok (.if_icmp .ge 21, 3) := by decide +kernel
theorem dX3_slot_15 : decode cX3_slot 15 = .ok (.iload_n 2, 1) := by decide +kernel
theorem dX3_slot_16 : decode cX3_slot 16 = .ok (.iconst 0, 1) := by decide +kernel
theorem dX3_slot_17 : decode cX3_slot 17 = .ok (.iconst 2, 1) := by decide +kernel
theorem dX3_slot_18 : decode cX3_slot 18 = .ok (.invokestatic 40, 3) := by decide +kernel
theorem dX3_slot_21 : decode cX3_slot 21 = .ok (.ifCond .eq 12, 3) := by decide +kernel
theorem dX3_slot_24 : decode cX3_slot 24 = .ok (.aload_n 0, 1) := by decide +kernel
theorem dX3_slot_25 : decode cX3_slot 25 = .ok (.iload_n 1, 1) := by decide +kernel
theorem dX3_slot_26 : decode cX3_slot 26 = .ok (.iload_n 2, 1) := by decide +kernel
theorem dX3_slot_27 : decode cX3_slot 27 = .ok (.invokevirtual 55, 3) := by decide +kernel
theorem dX3_slot_30 : decode cX3_slot 30 = .ok (.goto 4, 3) := by decide +kernel
theorem dX3_slot_33 : decode cX3_slot 33 = .ok (.iconst (-1), 1) := by decide +kernel
theorem dX3_slot_34 : decode cX3_slot 34 = .ok (.ireturn, 1) := by decide +kernel
set_option maxRecDepth 20000 in
theorem ggX3_confession_X3_in : GoodIn wsX3_confession wsX3_in := goodIn_r _ [5] (by decide +kernel) (by decide +kernel)
set_option maxRecDepth 20000 in
theorem gX3_confession_X3_in : GoodIn wsX3_confession (va_wsS RX3 40 yX3_in wsX3_in) := goodIn_app (goodIn_of _ (by decide +kernel)) ggX3_confession_X3_in
theorem dX3_confession_0 : decode cX3_confession 0 = .ok (.iload_n 1, 1) := by decide +kernel
theorem dX3_confession_1 : decode cX3_confession 1 = .ok (.ifCond .lt 12, 3) := by decide +kernel
theorem dX3_confession_4 : decode cX3_confession 4 = .ok (.iload_n 2, 1) := by decide +kernel
theorem dX3_confession_5 : decode cX3_confession 5 = .ok (.iconst 0, 1) := by decide +kernel
theorem dX3_confession_6 : decode cX3_confession 6 = .ok (.iconst 5, 1) := by decide +kernel
theorem dX3_confession_7 : decode cX3_confession 7 = .ok (.invokestatic 40, 3) := by decide +kernel
theorem dX3_confession_10 : decode cX3_confession 10 = .ok (.ifCond .ne 5, 3) := by decide +kernel
theorem dX3_confession_13 : decode cX3_confession 13 = .ok (.iconst (-1), 1) := by decide +kernel
theorem dX3_confession_14 : decode cX3_confession 14 = .ok (.ireturn, 1) := by decide +kernel
theorem dX3_confession_15 : decode cX3_confession 15 = .ok (.iload_n 1, 1) := by decide +kernel
theorem dX3_confession_16 : decode cX3_confession 16 = .ok (.aload_n 0, 1) := by decide +kernel
theorem dX3_confession_17 : decode cX3_confession 17 = .ok (.getfield 7, 3) := by decide +kernel
theorem dX3_confession_20 : decode cX3_confession 20 = .ok (.bipush 10, 2) := by decide +kernel
theorem dX3_confession_22 : decode cX3_confession 22 = .ok (.iaload, 1) := by decide +kernel
theorem dX3_confession_23 : decode cX3_confession 23 = .ok (.if_icmp .ge 31, 3) := by decide +kernel
theorem dX3_confession_26 : decode cX3_confession 26 = .ok (.aload_n 0, 1) := by decide +kernel
theorem dX3_confession_27 : decode cX3_confession 27 = .ok (.getfield 7, 3) := by decide +kernel
theorem dX3_confession_30 : decode cX3_confession 30 = .ok (.sipush 263, 3) := by decide +kernel
theorem dX3_confession_33 : decode cX3_confession 33 = .ok (.bipush 6, 2) := by decide +kernel
theorem dX3_confession_35 : decode cX3_confession 35 = .ok (.aload_n 0, 1) := by decide +kernel
theorem dX3_confession_36 : decode cX3_confession 36 = .ok (.getfield 7, 3) := by decide +kernel
theorem dX3_confession_39 : decode cX3_confession 39 = .ok (.bipush 10, 2) := by decide +kernel
theorem dX3_confession_41 : decode cX3_confession 41 = .ok (.iaload, 1) := by decide +kernel
theorem dX3_confession_42 : decode cX3_confession 42 = .ok (.iconst 1, 1) := by decide +kernel
theorem dX3_confession_43 : decode cX3_confession 43 = .ok (.isub, 1) := by decide +kernel
theorem dX3_confession_44 : decode cX3_confession 44 = .ok (.iload_n 1, 1) := by decide +kernel
theorem dX3_confession_45 : decode cX3_confession 45 = .ok (.isub, 1) := by decide +kernel
theorem dX3_confession_46 : decode cX3_confession 46 = .ok (.imul, 1) := by decide +kernel
theorem dX3_confession_47 : decode cX3_confession 47 = .ok (.iadd, 1) := by decide +kernel
theorem dX3_confession_48 : decode cX3_confession 48 = .ok (.iload_n 2, 1) := by decide +kernel
theorem dX3_confession_49 : decode cX3_confession 49 = .ok (.iadd, 1) := by decide +kernel
theorem dX3_confession_50 : decode cX3_confession 50 = .ok (.iaload, 1) := by decide +kernel
theorem dX3_confession_51 : decode cX3_confession 51 = .ok (.goto 5, 3) := by decide +kernel
theorem dX3_confession_54 : decode cX3_confession 54 = .ok (.bipush (-9), 2) := by decide +kernel
theorem dX3_confession_56 : decode cX3_confession 56 = .ok (.ireturn, 1) := by decide +kernel
theorem dX3_named_0 : decode cX3_named 0 = .ok (.iload_n 1, 1) := by decide +kernel
theorem dX3_named_1 : decode cX3_named 1 = .ok (.ifCond .lt 26, 3) := by decide +kernel
theorem dX3_named_4 : decode cX3_named 4 = .ok (.iload_n 1, 1) := by decide +kernel
theorem dX3_named_5 : decode cX3_named 5 = .ok (.aload_n 0, 1) := by decide +kernel
theorem dX3_named_6 : decode cX3_named 6 = .ok (.getfield 7, 3) := by decide +kernel
theorem dX3_named_9 : decode cX3_named 9 = .ok (.iconst 2, 1) := by decide +kernel
theorem dX3_named_10 : decode cX3_named 10 = .ok (.iaload, 1) := by decide +kernel
theorem dX3_named_11 : decode cX3_named 11 = .ok (.if_icmp .ge 16, 3) := by decide +kernel
theorem dX3_named_14 : decode cX3_named 14 = .ok (.aload_n 0, 1) := by decide +kernel
theorem dX3_named_15 : decode cX3_named 15 = .ok (.getfield 7, 3) := by decide +kernel
theorem dX3_named_18 : decode cX3_named 18 = .ok (.sipush 735, 3) := by decide +kernel
theorem dX3_named_21 : decode cX3_named 21 = .ok (.iload_n 1, 1) := by decide +kernel
theorem dX3_named_22 : decode cX3_named 22 = .ok (.iadd, 1) := by decide +kernel
theorem dX3_named_23 : decode cX3_named 23 = .ok (.iaload, 1) := by decide +kernel
theorem dX3_named_24 : decode cX3_named 24 = .ok (.goto 4, 3) := by decide +kernel
theorem dX3_named_27 : decode cX3_named 27 = .ok (.iconst (-1), 1) := by decide +kernel
theorem dX3_named_28 : decode cX3_named 28 = .ok (.ireturn, 1) := by decide +kernel
theorem dX3_worst_0 : decode cX3_worst 0 = .ok (.bipush (-9), 2) := by decide +kernel
theorem dX3_worst_2 : decode cX3_worst 2 = .ok (.istore_n 1, 1) := by decide +kernel
theorem dX3_worst_3 : decode cX3_worst 3 = .ok (.iconst 0, 1) := by decide +kernel
theorem dX3_worst_4 : decode cX3_worst 4 = .ok (.istore_n 2, 1) := by decide +kernel
theorem dX3_worst_5 : decode cX3_worst 5 = .ok (.iconst 0, 1) := by decide +kernel
theorem dX3_worst_6 : decode cX3_worst 6 = .ok (.istore_n 3, 1) := by decide +kernel
theorem dX3_worst_7 : decode cX3_worst 7 = .ok (.iload_n 3, 1) := by decide +kernel
theorem dX3_worst_8 : decode cX3_worst 8 = .ok (.aload_n 0, 1) := by decide +kernel
theorem dX3_worst_9 : decode cX3_worst 9 = .ok (.getfield 7, 3) := by decide +kernel
theorem dX3_worst_12 : decode cX3_worst 12 = .ok (.iconst 2, 1) := by decide +kernel
theorem dX3_worst_13 : decode cX3_worst 13 = .ok (.iaload, 1) := by decide +kernel
theorem dX3_worst_14 : decode cX3_worst 14 = .ok (.if_icmp .ge 58, 3) := by decide +kernel
theorem dX3_worst_17 : decode cX3_worst 17 = .ok (.aload_n 0, 1) := by decide +kernel
theorem dX3_worst_18 : decode cX3_worst 18 = .ok (.getfield 7, 3) := by decide +kernel
theorem dX3_worst_21 : decode cX3_worst 21 = .ok (.sipush 735, 3) := by decide +kernel
theorem dX3_worst_24 : decode cX3_worst 24 = .ok (.iload_n 3, 1) := by decide +kernel
theorem dX3_worst_25 : decode cX3_worst 25 = .ok (.iadd, 1) := by decide +kernel
theorem dX3_worst_26 : decode cX3_worst 26 = .ok (.iaload, 1) := by decide +kernel
theorem dX3_worst_27 : decode cX3_worst 27 = .ok (.iload_n 2, 1) := by decide +kernel
theorem dX3_worst_28 : decode cX3_worst 28 = .ok (.if_icmp .le 7, 3) := by decide +kernel
theorem dX3_worst_31 : decode cX3_worst 31 = .ok (.iload_n 3, 1) := by decide +kernel
theorem dX3_worst_32 : decode cX3_worst 32 = .ok (.goto 4, 3) := by decide +kernel
theorem dX3_worst_35 : decode cX3_worst 35 = .ok (.iload_n 1, 1) := by decide +kernel
theorem dX3_worst_36 : decode cX3_worst 36 = .ok (.istore_n 1, 1) := by decide +kernel
theorem dX3_worst_37 : decode cX3_worst 37 = .ok (.aload_n 0, 1) := by decide +kernel
theorem dX3_worst_38 : decode cX3_worst 38 = .ok (.getfield 7, 3) := by decide +kernel
theorem dX3_worst_41 : decode cX3_worst 41 = .ok (.sipush 735, 3) := by decide +kernel
theorem dX3_worst_44 : decode cX3_worst 44 = .ok (.iload_n 3, 1) := by decide +kernel
theorem dX3_worst_45 : decode cX3_worst 45 = .ok (.iadd, 1) := by decide +kernel
theorem dX3_worst_46 : decode cX3_worst 46 = .ok (.iaload, 1) := by decide +kernel
theorem dX3_worst_47 : decode cX3_worst 47 = .ok (.iload_n 2, 1) := by decide +kernel
theorem dX3_worst_48 : decode cX3_worst 48 = .ok (.if_icmp .le 16, 3) := by decide +kernel
theorem dX3_worst_51 : decode cX3_worst 51 = .ok (.aload_n 0, 1) := by decide +kernel
theorem dX3_worst_52 : decode cX3_worst 52 = .ok (.getfield 7, 3) := by decide +kernel
theorem dX3_worst_55 : decode cX3_worst 55 = .ok (.sipush 735, 3) := by decide +kernel
theorem dX3_worst_58 : decode cX3_worst 58 = .ok (.iload_n 3, 1) := by decide +kernel
theorem dX3_worst_59 : decode cX3_worst 59 = .ok (.iadd, 1) := by decide +kernel
theorem dX3_worst_60 : decode cX3_worst 60 = .ok (.iaload, 1) := by decide +kernel
theorem dX3_worst_61 : decode cX3_worst 61 = .ok (.goto 4, 3) := by decide +kernel
theorem dX3_worst_64 : decode cX3_worst 64 = .ok (.iload_n 2, 1) := by decide +kernel
theorem dX3_worst_65 : decode cX3_worst 65 = .ok (.istore_n 2, 1) := by decide +kernel
theorem dX3_worst_66 : decode cX3_worst 66 = .ok (.iinc 3 1, 3) := by decide +kernel
theorem dX3_worst_69 : decode cX3_worst 69 = .ok (.goto (-62), 3) := by decide +kernel
theorem dX3_worst_72 : decode cX3_worst 72 = .ok (.iload_n 1, 1) := by decide +kernel
theorem dX3_worst_73 : decode cX3_worst 73 = .ok (.ireturn, 1) := by decide +kernel
set_option maxRecDepth 20000 in
theorem ggX3_ahead_X3_in : GoodIn wsX3_ahead wsX3_in := goodIn_r _ [5] (by decide +kernel) (by decide +kernel)
set_option maxRecDepth 20000 in
theorem gX3_ahead_X3_in : GoodIn wsX3_ahead (va_wsS RX3 40 yX3_in wsX3_in) := goodIn_app (goodIn_of _ (by decide +kernel)) ggX3_ahead_X3_in
set_option maxRecDepth 20000 in
theorem ggX3_ahead_X3_back : GoodIn wsX3_ahead wsX3_back := goodIn_r _ [8] (by decide +kernel) (by decide +kernel)
set_option maxRecDepth 20000 in
theorem gX3_ahead_X3_back : GoodIn wsX3_ahead (va_wsS RX3 66 yX3_back wsX3_back) := goodIn_app (goodIn_of _ (by decide +kernel)) ggX3_ahead_X3_back
set_option maxRecDepth 20000 in
theorem ggX3_ahead_X3_ofSlot : GoodIn wsX3_ahead wsX3_ofSlot := goodIn_r _ [12, 1, 17, 18, 19, 20, 21, 22, 23, 24, 25, 26, 27] (by decide +kernel) (by decide +kernel)
set_option maxRecDepth 20000 in
theorem gX3_ahead_X3_ofSlot : GoodIn wsX3_ahead (wsV RX3 55 RX3 yX3_ofSlot wsX3_ofSlot) := goodIn_app (goodIn_of _ (by decide +kernel)) ggX3_ahead_X3_ofSlot
set_option maxRecDepth 20000 in
theorem ggX3_ahead_X3_ofFrame : GoodIn wsX3_ahead wsX3_ofFrame := goodIn_r _ [16, 1, 17, 18, 19, 20, 21, 22, 23, 24, 25, 26, 27] (by decide +kernel) (by decide +kernel)
set_option maxRecDepth 20000 in
theorem gX3_ahead_X3_ofFrame : GoodIn wsX3_ahead (wsV RX3 47 RX3 yX3_ofFrame wsX3_ofFrame) := goodIn_app (goodIn_of _ (by decide +kernel)) ggX3_ahead_X3_ofFrame
theorem dX3_ahead_0 : decode cX3_ahead 0 = .ok (.iload_n 1, 1) := by decide +kernel
theorem dX3_ahead_1 : decode cX3_ahead 1 = .ok (.iconst 1, 1) := by decide +kernel
theorem dX3_ahead_2 : decode cX3_ahead 2 = .ok (.bipush 40, 2) := by decide +kernel
theorem dX3_ahead_4 : decode cX3_ahead 4 = .ok (.invokestatic 40, 3) := by decide +kernel
theorem dX3_ahead_7 : decode cX3_ahead 7 = .ok (.ifCond .eq 12, 3) := by decide +kernel
theorem dX3_ahead_10 : decode cX3_ahead 10 = .ok (.iload_n 2, 1) := by decide +kernel
theorem dX3_ahead_11 : decode cX3_ahead 11 = .ok (.iconst 0, 1) := by decide +kernel
theorem dX3_ahead_12 : decode cX3_ahead 12 = .ok (.iconst 1, 1) := by decide +kernel
theorem dX3_ahead_13 : decode cX3_ahead 13 = .ok (.invokestatic 40, 3) := by decide +kernel
theorem dX3_ahead_16 : decode cX3_ahead 16 = .ok (.ifCond .ne 5, 3) := by decide +kernel
theorem dX3_ahead_19 : decode cX3_ahead 19 = .ok (.iconst (-1), 1) := by decide +kernel
theorem dX3_ahead_20 : decode cX3_ahead 20 = .ok (.ireturn, 1) := by decide +kernel
theorem dX3_ahead_21 : decode cX3_ahead 21 = .ok (.aload_n 0, 1) := by decide +kernel
theorem dX3_ahead_22 : decode cX3_ahead 22 = .ok (.getfield 7, 3) := by decide +kernel
theorem dX3_ahead_25 : decode cX3_ahead 25 = .ok (.iconst 0, 1) := by decide +kernel
theorem dX3_ahead_26 : decode cX3_ahead 26 = .ok (.iaload, 1) := by decide +kernel
theorem dX3_ahead_27 : decode cX3_ahead 27 = .ok (.iload_n 1, 1) := by decide +kernel
theorem dX3_ahead_28 : decode cX3_ahead 28 = .ok (.if_icmp .ge 6, 3) := by decide +kernel
theorem dX3_ahead_31 : decode cX3_ahead 31 = .ok (.bipush (-2), 2) := by decide +kernel
theorem dX3_ahead_33 : decode cX3_ahead 33 = .ok (.ireturn, 1) := by decide +kernel
theorem dX3_ahead_34 : decode cX3_ahead 34 = .ok (.iconst 0, 1) := by decide +kernel
theorem dX3_ahead_35 : decode cX3_ahead 35 = .ok (.istore_n 3, 1) := by decide +kernel
theorem dX3_ahead_36 : decode cX3_ahead 36 = .ok (.iconst 0, 1) := by decide +kernel
theorem dX3_ahead_37 : decode cX3_ahead 37 = .ok (.istore 4, 2) := by decide +kernel
theorem dX3_ahead_39 : decode cX3_ahead 39 = .ok (.iload 4, 2) := by decide +kernel
theorem dX3_ahead_41 : decode cX3_ahead 41 = .ok (.iload_n 1, 1) := by decide +kernel
theorem dX3_ahead_42 : decode cX3_ahead 42 = .ok (.if_icmp .ge 60, 3) := by decide +kernel
theorem dX3_ahead_45 : decode cX3_ahead 45 = .ok (.iload_n 3, 1) := by decide +kernel
theorem dX3_ahead_46 : decode cX3_ahead 46 = .ok (.aload_n 0, 1) := by decide +kernel
theorem dX3_ahead_47 : decode cX3_ahead 47 = .ok (.aload_n 0, 1) := by decide +kernel
theorem dX3_ahead_48 : decode cX3_ahead 48 = .ok (.getfield 7, 3) := by decide +kernel
theorem dX3_ahead_51 : decode cX3_ahead 51 = .ok (.bipush 12, 2) := by decide +kernel
theorem dX3_ahead_53 : decode cX3_ahead 53 = .ok (.iaload, 1) := by decide +kernel
theorem dX3_ahead_54 : decode cX3_ahead 54 = .ok (.iload 4, 2) := by decide +kernel
theorem dX3_ahead_56 : decode cX3_ahead 56 = .ok (.aload_n 0, 1) := by decide +kernel
theorem dX3_ahead_57 : decode cX3_ahead 57 = .ok (.getfield 7, 3) := by decide +kernel
theorem dX3_ahead_60 : decode cX3_ahead 60 = .ok (.bipush 11, 2) := by decide +kernel
theorem dX3_ahead_62 : decode cX3_ahead 62 = .ok (.iaload, 1) := by decide +kernel
theorem dX3_ahead_63 : decode cX3_ahead 63 = .ok (.invokestatic 66, 3) := by decide +kernel
theorem dX3_ahead_66 : decode cX3_ahead 66 = .ok (.iconst 1, 1) := by decide +kernel
theorem dX3_ahead_67 : decode cX3_ahead 67 = .ok (.invokevirtual 55, 3) := by decide +kernel
theorem dX3_ahead_70 : decode cX3_ahead 70 = .ok (.aload_n 0, 1) := by decide +kernel
theorem dX3_ahead_71 : decode cX3_ahead 71 = .ok (.aload_n 0, 1) := by decide +kernel
theorem dX3_ahead_72 : decode cX3_ahead 72 = .ok (.getfield 7, 3) := by decide +kernel
theorem dX3_ahead_75 : decode cX3_ahead 75 = .ok (.iconst 0, 1) := by decide +kernel
theorem dX3_ahead_76 : decode cX3_ahead 76 = .ok (.iaload, 1) := by decide +kernel
theorem dX3_ahead_77 : decode cX3_ahead 77 = .ok (.iconst 1, 1) := by decide +kernel
theorem dX3_ahead_78 : decode cX3_ahead 78 = .ok (.isub, 1) := by decide +kernel
theorem dX3_ahead_79 : decode cX3_ahead 79 = .ok (.iload 4, 2) := by decide +kernel
theorem dX3_ahead_81 : decode cX3_ahead 81 = .ok (.isub, 1) := by decide +kernel
theorem dX3_ahead_82 : decode cX3_ahead 82 = .ok (.iconst 2, 1) := by decide +kernel
theorem dX3_ahead_83 : decode cX3_ahead 83 = .ok (.invokevirtual 47, 3) := by decide +kernel
theorem dX3_ahead_86 : decode cX3_ahead 86 = .ok (.if_icmp .ne 7, 3) := by decide +kernel
theorem dX3_ahead_89 : decode cX3_ahead 89 = .ok (.iconst 1, 1) := by decide +kernel
theorem dX3_ahead_90 : decode cX3_ahead 90 = .ok (.goto 4, 3) := by decide +kernel
theorem dX3_ahead_93 : decode cX3_ahead 93 = .ok (.iconst 0, 1) := by decide +kernel
theorem dX3_ahead_94 : decode cX3_ahead 94 = .ok (.iadd, 1) := by decide +kernel
theorem dX3_ahead_95 : decode cX3_ahead 95 = .ok (.istore_n 3, 1) := by decide +kernel
theorem dX3_ahead_96 : decode cX3_ahead 96 = .ok (.iinc 4 1, 3) := by decide +kernel
theorem dX3_ahead_99 : decode cX3_ahead 99 = .ok (.goto (-60), 3) := by decide +kernel
theorem dX3_ahead_102 : decode cX3_ahead 102 = .ok (.iload_n 2, 1) := by decide +kernel
theorem dX3_ahead_103 : decode cX3_ahead 103 = .ok (.ifCond .ne 7, 3) := by decide +kernel
theorem dX3_ahead_106 : decode cX3_ahead 106 = .ok (.iload_n 3, 1) := by decide +kernel
theorem dX3_ahead_107 : decode cX3_ahead 107 = .ok (.goto 6, 3) := by decide +kernel
theorem dX3_ahead_110 : decode cX3_ahead 110 = .ok (.iload_n 1, 1) := by decide +kernel
theorem dX3_ahead_111 : decode cX3_ahead 111 = .ok (.iload_n 3, 1) := by decide +kernel
theorem dX3_ahead_112 : decode cX3_ahead 112 = .ok (.isub, 1) := by decide +kernel
theorem dX3_ahead_113 : decode cX3_ahead 113 = .ok (.ireturn, 1) := by decide +kernel
set_option maxRecDepth 20000 in
theorem ggX3_misses_X3_back : GoodIn wsX3_misses wsX3_back := goodIn_r _ [7] (by decide +kernel) (by decide +kernel)
set_option maxRecDepth 20000 in
theorem gX3_misses_X3_back : GoodIn wsX3_misses (va_wsS RX3 66 yX3_back wsX3_back) := goodIn_app (goodIn_of _ (by decide +kernel)) ggX3_misses_X3_back
theorem dX3_misses_0 : decode cX3_misses 0 = .ok (.iconst 0, 1) := by decide +kernel
theorem dX3_misses_1 : decode cX3_misses 1 = .ok (.istore_n 2, 1) := by decide +kernel
theorem dX3_misses_2 : decode cX3_misses 2 = .ok (.iload_n 2, 1) := by decide +kernel
theorem dX3_misses_3 : decode cX3_misses 3 = .ok (.bipush 16, 2) := by decide +kernel
theorem dX3_misses_5 : decode cX3_misses 5 = .ok (.if_icmp .ge 17, 3) := by decide +kernel
theorem dX3_misses_8 : decode cX3_misses 8 = .ok (.aload_n 0, 1) := by decide +kernel
theorem dX3_misses_9 : decode cX3_misses 9 = .ok (.getfield 22, 3) := by decide +kernel
theorem dX3_misses_12 : decode cX3_misses 12 = .ok (.iload_n 2, 1) := by decide +kernel
theorem dX3_misses_13 : decode cX3_misses 13 = .ok (.bipush (-9), 2) := by decide +kernel
theorem dX3_misses_15 : decode cX3_misses 15 = .ok (.iastore, 1) := by decide +kernel
theorem dX3_misses_16 : decode cX3_misses 16 = .ok (.iinc 2 1, 3) := by decide +kernel
theorem dX3_misses_19 : decode cX3_misses 19 = .ok (.goto (-17), 3) := by decide +kernel
theorem dX3_misses_22 : decode cX3_misses 22 = .ok (.iload_n 1, 1) := by decide +kernel
theorem dX3_misses_23 : decode cX3_misses 23 = .ok (.iconst 1, 1) := by decide +kernel
theorem dX3_misses_24 : decode cX3_misses 24 = .ok (.isub, 1) := by decide +kernel
theorem dX3_misses_25 : decode cX3_misses 25 = .ok (.istore_n 2, 1) := by decide +kernel
theorem dX3_misses_26 : decode cX3_misses 26 = .ok (.iconst 0, 1) := by decide +kernel
theorem dX3_misses_27 : decode cX3_misses 27 = .ok (.istore_n 3, 1) := by decide +kernel
theorem dX3_misses_28 : decode cX3_misses 28 = .ok (.iconst 0, 1) := by decide +kernel
theorem dX3_misses_29 : decode cX3_misses 29 = .ok (.istore 4, 2) := by decide +kernel
theorem dX3_misses_31 : decode cX3_misses 31 = .ok (.iconst 0, 1) := by decide +kernel
theorem dX3_misses_32 : decode cX3_misses 32 = .ok (.istore 5, 2) := by decide +kernel
theorem dX3_misses_34 : decode cX3_misses 34 = .ok (.iload 5, 2) := by decide +kernel
theorem dX3_misses_36 : decode cX3_misses 36 = .ok (.aload_n 0, 1) := by decide +kernel
theorem dX3_misses_37 : decode cX3_misses 37 = .ok (.getfield 7, 3) := by decide +kernel
theorem dX3_misses_40 : decode cX3_misses 40 = .ok (.iconst 1, 1) := by decide +kernel
theorem dX3_misses_41 : decode cX3_misses 41 = .ok (.iaload, 1) := by decide +kernel
theorem dX3_misses_42 : decode cX3_misses 42 = .ok (.if_icmp .ge 152, 3) := by decide +kernel
theorem dX3_misses_45 : decode cX3_misses 45 = .ok (.aload_n 0, 1) := by decide +kernel
theorem dX3_misses_46 : decode cX3_misses 46 = .ok (.getfield 7, 3) := by decide +kernel
theorem dX3_misses_49 : decode cX3_misses 49 = .ok (.sipush 335, 3) := by decide +kernel
theorem dX3_misses_52 : decode cX3_misses 52 = .ok (.iconst 2, 1) := by decide +kernel
theorem dX3_misses_53 : decode cX3_misses 53 = .ok (.iload 5, 2) := by decide +kernel
theorem dX3_misses_55 : decode cX3_misses 55 = .ok (.imul, 1) := by decide +kernel
theorem dX3_misses_56 : decode cX3_misses 56 = .ok (.iadd, 1) := by decide +kernel
theorem dX3_misses_57 : decode cX3_misses 57 = .ok (.iaload, 1) := by decide +kernel
theorem dX3_misses_58 : decode cX3_misses 58 = .ok (.istore 6, 2) := by decide +kernel
theorem dX3_misses_60 : decode cX3_misses 60 = .ok (.aload_n 0, 1) := by decide +kernel
theorem dX3_misses_61 : decode cX3_misses 61 = .ok (.getfield 7, 3) := by decide +kernel
theorem dX3_misses_64 : decode cX3_misses 64 = .ok (.sipush 335, 3) := by decide +kernel
theorem dX3_misses_67 : decode cX3_misses 67 = .ok (.iconst 2, 1) := by decide +kernel
theorem dX3_misses_68 : decode cX3_misses 68 = .ok (.iload 5, 2) := by decide +kernel
theorem dX3_misses_70 : decode cX3_misses 70 = .ok (.imul, 1) := by decide +kernel
theorem dX3_misses_71 : decode cX3_misses 71 = .ok (.iadd, 1) := by decide +kernel
theorem dX3_misses_72 : decode cX3_misses 72 = .ok (.iconst 1, 1) := by decide +kernel
theorem dX3_misses_73 : decode cX3_misses 73 = .ok (.iadd, 1) := by decide +kernel
theorem dX3_misses_74 : decode cX3_misses 74 = .ok (.iaload, 1) := by decide +kernel
theorem dX3_misses_75 : decode cX3_misses 75 = .ok (.istore 7, 2) := by decide +kernel
theorem dX3_misses_77 : decode cX3_misses 77 = .ok (.iload 6, 2) := by decide +kernel
theorem dX3_misses_79 : decode cX3_misses 79 = .ok (.ifCond .ne 31, 3) := by decide +kernel
theorem dX3_misses_82 : decode cX3_misses 82 = .ok (.iload_n 2, 1) := by decide +kernel
theorem dX3_misses_83 : decode cX3_misses 83 = .ok (.iconst 1, 1) := by decide +kernel
theorem dX3_misses_84 : decode cX3_misses 84 = .ok (.iadd, 1) := by decide +kernel
theorem dX3_misses_85 : decode cX3_misses 85 = .ok (.iload_n 1, 1) := by decide +kernel
theorem dX3_misses_86 : decode cX3_misses 86 = .ok (.irem, 1) := by decide +kernel
theorem dX3_misses_87 : decode cX3_misses 87 = .ok (.istore_n 2, 1) := by decide +kernel
theorem dX3_misses_88 : decode cX3_misses 88 = .ok (.aload_n 0, 1) := by decide +kernel
theorem dX3_misses_89 : decode cX3_misses 89 = .ok (.getfield 22, 3) := by decide +kernel
theorem dX3_misses_92 : decode cX3_misses 92 = .ok (.iload_n 2, 1) := by decide +kernel
theorem dX3_misses_93 : decode cX3_misses 93 = .ok (.iload 7, 2) := by decide +kernel
theorem dX3_misses_95 : decode cX3_misses 95 = .ok (.iastore, 1) := by decide +kernel
theorem dX3_misses_96 : decode cX3_misses 96 = .ok (.aload_n 0, 1) := by decide +kernel
theorem dX3_misses_97 : decode cX3_misses 97 = .ok (.getfield 25, 3) := by decide +kernel
theorem dX3_misses_100 : decode cX3_misses 100 = .ok (.iload_n 3, 1) := by decide +kernel
theorem dX3_misses_101 : decode cX3_misses 101 = .ok (.iload 7, 2) := by decide +kernel
theorem dX3_misses_103 : decode cX3_misses 103 = .ok (.iastore, 1) := by decide +kernel
theorem dX3_misses_104 : decode cX3_misses 104 = .ok (.iinc 3 1, 3) := by decide +kernel
theorem dX3_misses_107 : decode cX3_misses 107 = .ok (.goto 81, 3) := by decide +kernel
theorem dX3_misses_110 : decode cX3_misses 110 = .ok (.iload 6, 2) := by decide +kernel
theorem dX3_misses_112 : decode cX3_misses 112 = .ok (.iconst 2, 1) := by decide +kernel
theorem dX3_misses_113 : decode cX3_misses 113 = .ok (.if_icmp .ne 41, 3) := by decide +kernel
theorem dX3_misses_116 : decode cX3_misses 116 = .ok (.iinc 3 (-1), 3) := by decide +kernel
theorem dX3_misses_119 : decode cX3_misses 119 = .ok (.iload 4, 2) := by decide +kernel
theorem dX3_misses_121 : decode cX3_misses 121 = .ok (.aload_n 0, 1) := by decide +kernel
theorem dX3_misses_122 : decode cX3_misses 122 = .ok (.getfield 22, 3) := by decide +kernel
theorem dX3_misses_125 : decode cX3_misses 125 = .ok (.iload_n 2, 1) := by decide +kernel
theorem dX3_misses_126 : decode cX3_misses 126 = .ok (.iaload, 1) := by decide +kernel
theorem dX3_misses_127 : decode cX3_misses 127 = .ok (.aload_n 0, 1) := by decide +kernel
theorem dX3_misses_128 : decode cX3_misses 128 = .ok (.getfield 25, 3) := by decide +kernel
theorem dX3_misses_131 : decode cX3_misses 131 = .ok (.iload_n 3, 1) := by decide +kernel
theorem dX3_misses_132 : decode cX3_misses 132 = .ok (.iaload, 1) := by decide +kernel
theorem dX3_misses_133 : decode cX3_misses 133 = .ok (.if_icmp .ne 7, 3) := by decide +kernel
theorem dX3_misses_136 : decode cX3_misses 136 = .ok (.iconst 0, 1) := by decide +kernel
theorem dX3_misses_137 : decode cX3_misses 137 = .ok (.goto 4, 3) := by decide +kernel
theorem dX3_misses_140 : decode cX3_misses 140 = .ok (.iconst 1, 1) := by decide +kernel
theorem dX3_misses_141 : decode cX3_misses 141 = .ok (.iadd, 1) := by decide +kernel
theorem dX3_misses_142 : decode cX3_misses 142 = .ok (.istore 4, 2) := by decide +kernel
theorem dX3_misses_144 : decode cX3_misses 144 = .ok (.iload_n 2, 1) := by decide +kernel
theorem dX3_misses_145 : decode cX3_misses 145 = .ok (.iconst 1, 1) := by decide +kernel
theorem dX3_misses_146 : decode cX3_misses 146 = .ok (.iload_n 1, 1) := by decide +kernel
theorem dX3_misses_147 : decode cX3_misses 147 = .ok (.invokestatic 66, 3) := by decide +kernel
theorem dX3_misses_150 : decode cX3_misses 150 = .ok (.istore_n 2, 1) := by decide +kernel
theorem dX3_misses_151 : decode cX3_misses 151 = .ok (.goto 37, 3) := by decide +kernel
theorem dX3_misses_154 : decode cX3_misses 154 = .ok (.iload 6, 2) := by decide +kernel
theorem dX3_misses_156 : decode cX3_misses 156 = .ok (.iconst 3, 1) := by decide +kernel
theorem dX3_misses_157 : decode cX3_misses 157 = .ok (.if_icmp .ne 31, 3) := by decide +kernel
theorem dX3_misses_160 : decode cX3_misses 160 = .ok (.iload_n 3, 1) := by decide +kernel
theorem dX3_misses_161 : decode cX3_misses 161 = .ok (.iload 7, 2) := by decide +kernel
theorem dX3_misses_163 : decode cX3_misses 163 = .ok (.isub, 1) := by decide +kernel
theorem dX3_misses_164 : decode cX3_misses 164 = .ok (.istore_n 3, 1) := by decide +kernel
theorem dX3_misses_165 : decode cX3_misses 165 = .ok (.aload_n 0, 1) := by decide +kernel
theorem dX3_misses_166 : decode cX3_misses 166 = .ok (.getfield 7, 3) := by decide +kernel
theorem dX3_misses_169 : decode cX3_misses 169 = .ok (.bipush 14, 2) := by decide +kernel
theorem dX3_misses_171 : decode cX3_misses 171 = .ok (.iaload, 1) := by decide +kernel
theorem dX3_misses_172 : decode cX3_misses 172 = .ok (.iconst 1, 1) := by decide +kernel
theorem dX3_misses_173 : decode cX3_misses 173 = .ok (.if_icmp .ne 13, 3) := by decide +kernel
theorem dX3_misses_176 : decode cX3_misses 176 = .ok (.iload_n 2, 1) := by decide +kernel
theorem dX3_misses_177 : decode cX3_misses 177 = .ok (.iload 7, 2) := by decide +kernel
theorem dX3_misses_179 : decode cX3_misses 179 = .ok (.iload_n 1, 1) := by decide +kernel
theorem dX3_misses_180 : decode cX3_misses 180 = .ok (.invokestatic 66, 3) := by decide +kernel
theorem dX3_misses_183 : decode cX3_misses 183 = .ok (.goto 4, 3) := by decide +kernel
theorem dX3_misses_186 : decode cX3_misses 186 = .ok (.iload_n 2, 1) := by decide +kernel
theorem dX3_misses_187 : decode cX3_misses 187 = .ok (.istore_n 2, 1) := by decide +kernel
theorem dX3_misses_188 : decode cX3_misses 188 = .ok (.iinc 5 1, 3) := by decide +kernel
theorem dX3_misses_191 : decode cX3_misses 191 = .ok (.goto (-157), 3) := by decide +kernel
theorem dX3_misses_194 : decode cX3_misses 194 = .ok (.iload 4, 2) := by decide +kernel
theorem dX3_misses_196 : decode cX3_misses 196 = .ok (.ireturn, 1) := by decide +kernel
set_option maxRecDepth 20000 in
theorem ggX3_missesWith_X3_in : GoodIn wsX3_missesWith wsX3_in := goodIn_r _ [4] (by decide +kernel) (by decide +kernel)
set_option maxRecDepth 20000 in
theorem gX3_missesWith_X3_in : GoodIn wsX3_missesWith (va_wsS RX3 40 yX3_in wsX3_in) := goodIn_app (goodIn_of _ (by decide +kernel)) ggX3_missesWith_X3_in
set_option maxRecDepth 20000 in
theorem ggX3_missesWith_X3_misses : GoodIn wsX3_missesWith wsX3_misses := goodIn_r _ [8, 9, 10, 11, 12, 13, 3, 14, 15, 16, 17, 18, 19, 20, 21, 22, 23, 24, 25] (by decide +kernel) (by decide +kernel)
set_option maxRecDepth 20000 in
theorem gX3_missesWith_X3_misses : GoodIn wsX3_missesWith (wsV RX3 115 RX3 yX3_misses wsX3_misses) := goodIn_app (goodIn_of _ (by decide +kernel)) ggX3_missesWith_X3_misses
theorem dX3_missesWith_0 : decode cX3_missesWith 0 = .ok (.iload_n 1, 1) := by decide +kernel
theorem dX3_missesWith_1 : decode cX3_missesWith 1 = .ok (.iconst 2, 1) := by decide +kernel
theorem dX3_missesWith_2 : decode cX3_missesWith 2 = .ok (.bipush 16, 2) := by decide +kernel
theorem dX3_missesWith_4 : decode cX3_missesWith 4 = .ok (.invokestatic 40, 3) := by decide +kernel
theorem dX3_missesWith_7 : decode cX3_missesWith 7 = .ok (.ifCond .eq 11, 3) := by decide +kernel
theorem dX3_missesWith_10 : decode cX3_missesWith 10 = .ok (.aload_n 0, 1) := by decide +kernel
theorem dX3_missesWith_11 : decode cX3_missesWith 11 = .ok (.iload_n 1, 1) := by decide +kernel
theorem dX3_missesWith_12 : decode cX3_missesWith 12 = .ok (.invokevirtual 115, 3) := by decide +kernel
theorem dX3_missesWith_15 : decode cX3_missesWith 15 = .ok (.goto 4, 3) := by decide +kernel
theorem dX3_missesWith_18 : decode cX3_missesWith 18 = .ok (.iconst (-1), 1) := by decide +kernel
theorem dX3_missesWith_19 : decode cX3_missesWith 19 = .ok (.ireturn, 1) := by decide +kernel
set_option maxRecDepth 20000 in
theorem ggX3_bestSize_X3_misses : GoodIn wsX3_bestSize wsX3_misses := goodIn_r _ [5, 6, 7, 8, 9, 10, 4, 11, 12, 13, 14, 15, 16, 17, 18, 19, 20, 21, 22] (by decide +kernel) (by decide +kernel)
set_option maxRecDepth 20000 in
theorem gX3_bestSize_X3_misses : GoodIn wsX3_bestSize (wsV RX3 115 RX3 yX3_misses wsX3_misses) := goodIn_app (goodIn_of _ (by decide +kernel)) ggX3_bestSize_X3_misses
theorem dX3_bestSize_0 : decode cX3_bestSize 0 = .ok (.iconst 2, 1) := by decide +kernel
theorem dX3_bestSize_1 : decode cX3_bestSize 1 = .ok (.istore_n 1, 1) := by decide +kernel
theorem dX3_bestSize_2 : decode cX3_bestSize 2 = .ok (.iconst 3, 1) := by decide +kernel
theorem dX3_bestSize_3 : decode cX3_bestSize 3 = .ok (.istore_n 2, 1) := by decide +kernel
theorem dX3_bestSize_4 : decode cX3_bestSize 4 = .ok (.iload_n 2, 1) := by decide +kernel
theorem dX3_bestSize_5 : decode cX3_bestSize 5 = .ok (.bipush 16, 2) := by decide +kernel
theorem dX3_bestSize_7 : decode cX3_bestSize 7 = .ok (.if_icmp .gt 28, 3) := by decide +kernel
theorem dX3_bestSize_10 : decode cX3_bestSize 10 = .ok (.aload_n 0, 1) := by decide +kernel
theorem dX3_bestSize_11 : decode cX3_bestSize 11 = .ok (.iload_n 2, 1) := by decide +kernel
theorem dX3_bestSize_12 : decode cX3_bestSize 12 = .ok (.invokevirtual 115, 3) := by decide +kernel
theorem dX3_bestSize_15 : decode cX3_bestSize 15 = .ok (.aload_n 0, 1) := by decide +kernel
theorem dX3_bestSize_16 : decode cX3_bestSize 16 = .ok (.iload_n 1, 1) := by decide +kernel
theorem dX3_bestSize_17 : decode cX3_bestSize 17 = .ok (.invokevirtual 115, 3) := by decide +kernel
theorem dX3_bestSize_20 : decode cX3_bestSize 20 = .ok (.if_icmp .ge 7, 3) := by decide +kernel
theorem dX3_bestSize_23 : decode cX3_bestSize 23 = .ok (.iload_n 2, 1) := by decide +kernel
theorem dX3_bestSize_24 : decode cX3_bestSize 24 = .ok (.goto 4, 3) := by decide +kernel
theorem dX3_bestSize_27 : decode cX3_bestSize 27 = .ok (.iload_n 1, 1) := by decide +kernel
theorem dX3_bestSize_28 : decode cX3_bestSize 28 = .ok (.istore_n 1, 1) := by decide +kernel
theorem dX3_bestSize_29 : decode cX3_bestSize 29 = .ok (.iinc 2 1, 3) := by decide +kernel
theorem dX3_bestSize_32 : decode cX3_bestSize 32 = .ok (.goto (-28), 3) := by decide +kernel
theorem dX3_bestSize_35 : decode cX3_bestSize 35 = .ok (.iload_n 1, 1) := by decide +kernel
theorem dX3_bestSize_36 : decode cX3_bestSize 36 = .ok (.ireturn, 1) := by decide +kernel
set_option maxRecDepth 20000 in
theorem ggX3_callsUntil_X3_isFrame : GoodIn wsX3_callsUntil wsX3_isFrame := goodIn_r _ [6, 1, 11, 12, 13, 14, 15, 16, 17, 18, 19, 20, 21] (by decide +kernel) (by decide +kernel)
set_option maxRecDepth 20000 in
theorem gX3_callsUntil_X3_isFrame : GoodIn wsX3_callsUntil (wsV RX3 112 RX3 yX3_isFrame wsX3_isFrame) := goodIn_app (goodIn_of _ (by decide +kernel)) ggX3_callsUntil_X3_isFrame
set_option maxRecDepth 20000 in
theorem ggX3_callsUntil_X3_ofFrame : GoodIn wsX3_callsUntil wsX3_ofFrame := goodIn_r _ [10, 1, 11, 12, 13, 14, 15, 16, 17, 18, 19, 20, 21] (by decide +kernel) (by decide +kernel)
set_option maxRecDepth 20000 in
theorem gX3_callsUntil_X3_ofFrame : GoodIn wsX3_callsUntil (wsV RX3 47 RX3 yX3_ofFrame wsX3_ofFrame) := goodIn_app (goodIn_of _ (by decide +kernel)) ggX3_callsUntil_X3_ofFrame
theorem dX3_callsUntil_0 : decode cX3_callsUntil 0 = .ok (.aload_n 0, 1) := by decide +kernel
theorem dX3_callsUntil_1 : decode cX3_callsUntil 1 = .ok (.iload_n 1, 1) := by decide +kernel
theorem dX3_callsUntil_2 : decode cX3_callsUntil 2 = .ok (.invokevirtual 112, 3) := by decide +kernel
theorem dX3_callsUntil_5 : decode cX3_callsUntil 5 = .ok (.ifCond .ne 5, 3) := by decide +kernel
theorem dX3_callsUntil_8 : decode cX3_callsUntil 8 = .ok (.iconst (-1), 1) := by decide +kernel
theorem dX3_callsUntil_9 : decode cX3_callsUntil 9 = .ok (.ireturn, 1) := by decide +kernel
theorem dX3_callsUntil_10 : decode cX3_callsUntil 10 = .ok (.aload_n 0, 1) := by decide +kernel
theorem dX3_callsUntil_11 : decode cX3_callsUntil 11 = .ok (.getfield 7, 3) := by decide +kernel
theorem dX3_callsUntil_14 : decode cX3_callsUntil 14 = .ok (.iconst 0, 1) := by decide +kernel
theorem dX3_callsUntil_15 : decode cX3_callsUntil 15 = .ok (.iaload, 1) := by decide +kernel
theorem dX3_callsUntil_16 : decode cX3_callsUntil 16 = .ok (.iconst 1, 1) := by decide +kernel
theorem dX3_callsUntil_17 : decode cX3_callsUntil 17 = .ok (.isub, 1) := by decide +kernel
theorem dX3_callsUntil_18 : decode cX3_callsUntil 18 = .ok (.iload_n 1, 1) := by decide +kernel
theorem dX3_callsUntil_19 : decode cX3_callsUntil 19 = .ok (.isub, 1) := by decide +kernel
theorem dX3_callsUntil_20 : decode cX3_callsUntil 20 = .ok (.istore_n 2, 1) := by decide +kernel
theorem dX3_callsUntil_21 : decode cX3_callsUntil 21 = .ok (.aload_n 0, 1) := by decide +kernel
theorem dX3_callsUntil_22 : decode cX3_callsUntil 22 = .ok (.iload_n 2, 1) := by decide +kernel
theorem dX3_callsUntil_23 : decode cX3_callsUntil 23 = .ok (.iconst 4, 1) := by decide +kernel
theorem dX3_callsUntil_24 : decode cX3_callsUntil 24 = .ok (.invokevirtual 47, 3) := by decide +kernel
theorem dX3_callsUntil_27 : decode cX3_callsUntil 27 = .ok (.bipush (-9), 2) := by decide +kernel
