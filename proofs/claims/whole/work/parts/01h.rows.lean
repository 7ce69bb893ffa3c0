theorem dX3_ret_44 : decode cX3_ret 44 = .ok (.isub, 1) := by decide +kernel
theorem dX3_ret_45 : decode cX3_ret 45 = .ok (.iastore, 1) := by decide +kernel
theorem dX3_ret_46 : decode cX3_ret 46 = .ok (.aload_n 0, 1) := by decide +kernel
theorem dX3_ret_47 : decode cX3_ret 47 = .ok (.getfield 7, 3) := by decide +kernel
theorem dX3_ret_50 : decode cX3_ret 50 = .ok (.bipush 12, 2) := by decide +kernel
theorem dX3_ret_52 : decode cX3_ret 52 = .ok (.aload_n 0, 1) := by decide +kernel
theorem dX3_ret_53 : decode cX3_ret 53 = .ok (.getfield 7, 3) := by decide +kernel
theorem dX3_ret_56 : decode cX3_ret 56 = .ok (.bipush 12, 2) := by decide +kernel
theorem dX3_ret_58 : decode cX3_ret 58 = .ok (.iaload, 1) := by decide +kernel
theorem dX3_ret_59 : decode cX3_ret 59 = .ok (.iconst 1, 1) := by decide +kernel
theorem dX3_ret_60 : decode cX3_ret 60 = .ok (.aload_n 0, 1) := by decide +kernel
theorem dX3_ret_61 : decode cX3_ret 61 = .ok (.getfield 7, 3) := by decide +kernel
theorem dX3_ret_64 : decode cX3_ret 64 = .ok (.bipush 11, 2) := by decide +kernel
theorem dX3_ret_66 : decode cX3_ret 66 = .ok (.iaload, 1) := by decide +kernel
theorem dX3_ret_67 : decode cX3_ret 67 = .ok (.invokestatic 66, 3) := by decide +kernel
theorem dX3_ret_70 : decode cX3_ret 70 = .ok (.iastore, 1) := by decide +kernel
theorem dX3_ret_71 : decode cX3_ret 71 = .ok (.aload_n 0, 1) := by decide +kernel
theorem dX3_ret_72 : decode cX3_ret 72 = .ok (.iconst 2, 1) := by decide +kernel
theorem dX3_ret_73 : decode cX3_ret 73 = .ok (.iconst 0, 1) := by decide +kernel
theorem dX3_ret_74 : decode cX3_ret 74 = .ok (.invokevirtual 51, 3) := by decide +kernel
theorem dX3_ret_77 : decode cX3_ret 77 = .ok (.iload_n 1, 1) := by decide +kernel
theorem dX3_ret_78 : decode cX3_ret 78 = .ok (.ireturn, 1) := by decide +kernel
set_option maxRecDepth 20000 in
theorem ggX3_raise_X3_in : GoodIn wsX3_raise wsX3_in := goodIn_r _ [5] (by decide +kernel) (by decide +kernel)
set_option maxRecDepth 20000 in
theorem gX3_raise_X3_in : GoodIn wsX3_raise (va_wsS RX3 40 yX3_in wsX3_in) := goodIn_app (goodIn_of _ (by decide +kernel)) ggX3_raise_X3_in
set_option maxRecDepth 20000 in
theorem ggX3_raise_X3_acts : GoodIn wsX3_raise wsX3_acts := goodIn_r _ [9, 10, 11, 12, 1, 20, 21, 22, 23, 24, 25, 26, 27, 28, 29, 30] (by decide +kernel) (by decide +kernel)
set_option maxRecDepth 20000 in
theorem gX3_raise_X3_acts : GoodIn wsX3_raise (wsV RX3 44 RX3 yX3_acts wsX3_acts) := goodIn_app (goodIn_of _ (by decide +kernel)) ggX3_raise_X3_acts
set_option maxRecDepth 20000 in
theorem ggX3_raise_X3_back : GoodIn wsX3_raise wsX3_back := goodIn_r _ [15] (by decide +kernel) (by decide +kernel)
set_option maxRecDepth 20000 in
theorem gX3_raise_X3_back : GoodIn wsX3_raise (va_wsS RX3 66 yX3_back wsX3_back) := goodIn_app (goodIn_of _ (by decide +kernel)) ggX3_raise_X3_back
set_option maxRecDepth 20000 in
theorem ggX3_raise_X3_notes : GoodIn wsX3_raise wsX3_notes := goodIn_r _ [19, 1, 20, 21, 22, 23, 24, 25, 26, 27, 28, 29, 30] (by decide +kernel) (by decide +kernel)
set_option maxRecDepth 20000 in
theorem gX3_raise_X3_notes : GoodIn wsX3_raise (wsV RX3 51 RX3 yX3_notes wsX3_notes) := goodIn_app (goodIn_of _ (by decide +kernel)) ggX3_raise_X3_notes
theorem dX3_raise_0 : decode cX3_raise 0 = .ok (.iload_n 1, 1) := by decide +kernel
theorem dX3_raise_1 : decode cX3_raise 1 = .ok (.iconst 1, 1) := by decide +kernel
theorem dX3_raise_2 : decode cX3_raise 2 = .ok (.bipush 40, 2) := by decide +kernel
theorem dX3_raise_4 : decode cX3_raise 4 = .ok (.invokestatic 40, 3) := by decide +kernel
theorem dX3_raise_7 : decode cX3_raise 7 = .ok (.ifCond .ne 5, 3) := by decide +kernel
theorem dX3_raise_10 : decode cX3_raise 10 = .ok (.iconst (-1), 1) := by decide +kernel
theorem dX3_raise_11 : decode cX3_raise 11 = .ok (.ireturn, 1) := by decide +kernel
theorem dX3_raise_12 : decode cX3_raise 12 = .ok (.aload_n 0, 1) := by decide +kernel
theorem dX3_raise_13 : decode cX3_raise 13 = .ok (.getfield 7, 3) := by decide +kernel
theorem dX3_raise_16 : decode cX3_raise 16 = .ok (.iconst 0, 1) := by decide +kernel
theorem dX3_raise_17 : decode cX3_raise 17 = .ok (.iaload, 1) := by decide +kernel
theorem dX3_raise_18 : decode cX3_raise 18 = .ok (.iload_n 1, 1) := by decide +kernel
theorem dX3_raise_19 : decode cX3_raise 19 = .ok (.if_icmp .ge 6, 3) := by decide +kernel
theorem dX3_raise_22 : decode cX3_raise 22 = .ok (.bipush (-2), 2) := by decide +kernel
theorem dX3_raise_24 : decode cX3_raise 24 = .ok (.ireturn, 1) := by decide +kernel
theorem dX3_raise_25 : decode cX3_raise 25 = .ok (.aload_n 0, 1) := by decide +kernel
theorem dX3_raise_26 : decode cX3_raise 26 = .ok (.getfield 7, 3) := by decide +kernel
theorem dX3_raise_29 : decode cX3_raise 29 = .ok (.iconst 1, 1) := by decide +kernel
theorem dX3_raise_30 : decode cX3_raise 30 = .ok (.iaload, 1) := by decide +kernel
theorem dX3_raise_31 : decode cX3_raise 31 = .ok (.sipush 200, 3) := by decide +kernel
theorem dX3_raise_34 : decode cX3_raise 34 = .ok (.if_icmp .ne 6, 3) := by decide +kernel
theorem dX3_raise_37 : decode cX3_raise 37 = .ok (.bipush (-3), 2) := by decide +kernel
theorem dX3_raise_39 : decode cX3_raise 39 = .ok (.ireturn, 1) := by decide +kernel
theorem dX3_raise_40 : decode cX3_raise 40 = .ok (.aload_n 0, 1) := by decide +kernel
theorem dX3_raise_41 : decode cX3_raise 41 = .ok (.invokevirtual 44, 3) := by decide +kernel
theorem dX3_raise_44 : decode cX3_raise 44 = .ok (.aload_n 0, 1) := by decide +kernel
theorem dX3_raise_45 : decode cX3_raise 45 = .ok (.getfield 7, 3) := by decide +kernel
theorem dX3_raise_48 : decode cX3_raise 48 = .ok (.iconst 0, 1) := by decide +kernel
theorem dX3_raise_49 : decode cX3_raise 49 = .ok (.dup2, 1) := by decide +kernel
theorem dX3_raise_50 : decode cX3_raise 50 = .ok (.iaload, 1) := by decide +kernel
theorem dX3_raise_51 : decode cX3_raise 51 = .ok (.iload_n 1, 1) := by decide +kernel
theorem dX3_raise_52 : decode cX3_raise 52 = .ok (.isub, 1) := by decide +kernel
theorem dX3_raise_53 : decode cX3_raise 53 = .ok (.iastore, 1) := by decide +kernel
theorem dX3_raise_54 : decode cX3_raise 54 = .ok (.aload_n 0, 1) := by decide +kernel
theorem dX3_raise_55 : decode cX3_raise 55 = .ok (.getfield 7, 3) := by decide +kernel
theorem dX3_raise_58 : decode cX3_raise 58 = .ok (.bipush 12, 2) := by decide +kernel
theorem dX3_raise_60 : decode cX3_raise 60 = .ok (.aload_n 0, 1) := by decide +kernel
theorem dX3_raise_61 : decode cX3_raise 61 = .ok (.getfield 7, 3) := by decide +kernel
theorem dX3_raise_64 : decode cX3_raise 64 = .ok (.bipush 14, 2) := by decide +kernel
theorem dX3_raise_66 : decode cX3_raise 66 = .ok (.iaload, 1) := by decide +kernel
theorem dX3_raise_67 : decode cX3_raise 67 = .ok (.iconst 1, 1) := by decide +kernel
theorem dX3_raise_68 : decode cX3_raise 68 = .ok (.if_icmp .ne 24, 3) := by decide +kernel
theorem dX3_raise_71 : decode cX3_raise 71 = .ok (.aload_n 0, 1) := by decide +kernel
theorem dX3_raise_72 : decode cX3_raise 72 = .ok (.getfield 7, 3) := by decide +kernel
theorem dX3_raise_75 : decode cX3_raise 75 = .ok (.bipush 12, 2) := by decide +kernel
theorem dX3_raise_77 : decode cX3_raise 77 = .ok (.iaload, 1) := by decide +kernel
theorem dX3_raise_78 : decode cX3_raise 78 = .ok (.iload_n 1, 1) := by decide +kernel
theorem dX3_raise_79 : decode cX3_raise 79 = .ok (.aload_n 0, 1) := by decide +kernel
theorem dX3_raise_80 : decode cX3_raise 80 = .ok (.getfield 7, 3) := by decide +kernel
theorem dX3_raise_83 : decode cX3_raise 83 = .ok (.bipush 11, 2) := by decide +kernel
theorem dX3_raise_85 : decode cX3_raise 85 = .ok (.iaload, 1) := by decide +kernel
theorem dX3_raise_86 : decode cX3_raise 86 = .ok (.invokestatic 66, 3) := by decide +kernel
theorem dX3_raise_89 : decode cX3_raise 89 = .ok (.goto 10, 3) := by decide +kernel
theorem dX3_raise_92 : decode cX3_raise 92 = .ok (.aload_n 0, 1) := by decide +kernel
theorem dX3_raise_93 : decode cX3_raise 93 = .ok (.getfield 7, 3) := by decide +kernel
theorem dX3_raise_96 : decode cX3_raise 96 = .ok (.bipush 12, 2) := by decide +kernel
theorem dX3_raise_98 : decode cX3_raise 98 = .ok (.iaload, 1) := by decide +kernel
theorem dX3_raise_99 : decode cX3_raise 99 = .ok (.iastore, 1) := by decide +kernel
theorem dX3_raise_100 : decode cX3_raise 100 = .ok (.aload_n 0, 1) := by decide +kernel
theorem dX3_raise_101 : decode cX3_raise 101 = .ok (.iconst 3, 1) := by decide +kernel
theorem dX3_raise_102 : decode cX3_raise 102 = .ok (.iload_n 1, 1) := by decide +kernel
theorem dX3_raise_103 : decode cX3_raise 103 = .ok (.invokevirtual 51, 3) := by decide +kernel
theorem dX3_raise_106 : decode cX3_raise 106 = .ok (.aload_n 0, 1) := by decide +kernel
theorem dX3_raise_107 : decode cX3_raise 107 = .ok (.getfield 7, 3) := by decide +kernel
theorem dX3_raise_110 : decode cX3_raise 110 = .ok (.iconst 0, 1) := by decide +kernel
theorem dX3_raise_111 : decode cX3_raise 111 = .ok (.iaload, 1) := by decide +kernel
theorem dX3_raise_112 : decode cX3_raise 112 = .ok (.ireturn, 1) := by decide +kernel
set_option maxRecDepth 20000 in
theorem ggX3_setRepair_X3_in : GoodIn wsX3_setRepair wsX3_in := goodIn_r _ [5] (by decide +kernel) (by decide +kernel)
set_option maxRecDepth 20000 in
theorem gX3_setRepair_X3_in : GoodIn wsX3_setRepair (va_wsS RX3 40 yX3_in wsX3_in) := goodIn_app (goodIn_of _ (by decide +kernel)) ggX3_setRepair_X3_in
set_option maxRecDepth 20000 in
theorem ggX3_setRepair_X3_acts : GoodIn wsX3_setRepair wsX3_acts := goodIn_r _ [9, 10, 11, 12, 1, 13, 14, 15, 16, 17, 18, 19, 20, 21, 22, 23] (by decide +kernel) (by decide +kernel)
set_option maxRecDepth 20000 in
theorem gX3_setRepair_X3_acts : GoodIn wsX3_setRepair (wsV RX3 44 RX3 yX3_acts wsX3_acts) := goodIn_app (goodIn_of _ (by decide +kernel)) ggX3_setRepair_X3_acts
theorem dX3_setRepair_0 : decode cX3_setRepair 0 = .ok (.iload_n 1, 1) := by decide +kernel
theorem dX3_setRepair_1 : decode cX3_setRepair 1 = .ok (.iconst 0, 1) := by decide +kernel
theorem dX3_setRepair_2 : decode cX3_setRepair 2 = .ok (.iconst 1, 1) := by decide +kernel
theorem dX3_setRepair_3 : decode cX3_setRepair 3 = .ok (.invokestatic 40, 3) := by decide +kernel
theorem dX3_setRepair_6 : decode cX3_setRepair 6 = .ok (.ifCond .ne 5, 3) := by decide +kernel
theorem dX3_setRepair_9 : decode cX3_setRepair 9 = .ok (.iconst (-1), 1) := by decide +kernel
theorem dX3_setRepair_10 : decode cX3_setRepair 10 = .ok (.ireturn, 1) := by decide +kernel
theorem dX3_setRepair_11 : decode cX3_setRepair 11 = .ok (.aload_n 0, 1) := by decide +kernel
theorem dX3_setRepair_12 : decode cX3_setRepair 12 = .ok (.invokevirtual 44, 3) := by decide +kernel
theorem dX3_setRepair_15 : decode cX3_setRepair 15 = .ok (.aload_n 0, 1) := by decide +kernel
theorem dX3_setRepair_16 : decode cX3_setRepair 16 = .ok (.getfield 7, 3) := by decide +kernel
theorem dX3_setRepair_19 : decode cX3_setRepair 19 = .ok (.bipush 14, 2) := by decide +kernel
theorem dX3_setRepair_21 : decode cX3_setRepair 21 = .ok (.iaload, 1) := by decide +kernel
theorem dX3_setRepair_22 : decode cX3_setRepair 22 = .ok (.istore_n 2, 1) := by decide +kernel
theorem dX3_setRepair_23 : decode cX3_setRepair 23 = .ok (.aload_n 0, 1) := by decide +kernel
theorem dX3_setRepair_24 : decode cX3_setRepair 24 = .ok (.getfield 7, 3) := by decide +kernel
theorem dX3_setRepair_27 : decode cX3_setRepair 27 = .ok (.bipush 14, 2) := by decide +kernel
theorem dX3_setRepair_29 : decode cX3_setRepair 29 = .ok (.iload_n 1, 1) := by decide +kernel
theorem dX3_setRepair_30 : decode cX3_setRepair 30 = .ok (.iastore, 1) := by decide +kernel
theorem dX3_setRepair_31 : decode cX3_setRepair 31 = .ok (.iload_n 2, 1) := by decide +kernel
theorem dX3_setRepair_32 : decode cX3_setRepair 32 = .ok (.ireturn, 1) := by decide +kernel
set_option maxRecDepth 20000 in
theorem ggX3_begin_X3_in : GoodIn wsX3_begin wsX3_in := goodIn_r _ [5] (by decide +kernel) (by decide +kernel)
set_option maxRecDepth 20000 in
theorem gX3_begin_X3_in : GoodIn wsX3_begin (va_wsS RX3 40 yX3_in wsX3_in) := goodIn_app (goodIn_of _ (by decide +kernel)) ggX3_begin_X3_in
set_option maxRecDepth 20000 in
theorem ggX3_begin_X3_acts : GoodIn wsX3_begin wsX3_acts := goodIn_r _ [9, 10, 11, 12, 1, 17, 18, 19, 20, 21, 22, 23, 24, 25, 26, 27] (by decide +kernel) (by decide +kernel)
set_option maxRecDepth 20000 in
theorem gX3_begin_X3_acts : GoodIn wsX3_begin (wsV RX3 44 RX3 yX3_acts wsX3_acts) := goodIn_app (goodIn_of _ (by decide +kernel)) ggX3_begin_X3_acts
set_option maxRecDepth 20000 in
theorem ggX3_begin_X3_begins : GoodIn wsX3_begin wsX3_begins := goodIn_r _ [16, 1, 17, 18, 19, 20, 21, 22, 23, 24, 25, 26, 27] (by decide +kernel) (by decide +kernel)
set_option maxRecDepth 20000 in
theorem gX3_begin_X3_begins : GoodIn wsX3_begin (wsV RX3 28 RX3 yX3_begins wsX3_begins) := goodIn_app (goodIn_of _ (by decide +kernel)) ggX3_begin_X3_begins
theorem dX3_begin_0 : decode cX3_begin 0 = .ok (.iload_n 1, 1) := by decide +kernel
theorem dX3_begin_1 : decode cX3_begin 1 = .ok (.iconst 2, 1) := by decide +kernel
theorem dX3_begin_2 : decode cX3_begin 2 = .ok (.bipush 16, 2) := by decide +kernel
theorem dX3_begin_4 : decode cX3_begin 4 = .ok (.invokestatic 40, 3) := by decide +kernel
theorem dX3_begin_7 : decode cX3_begin 7 = .ok (.ifCond .ne 5, 3) := by decide +kernel
theorem dX3_begin_10 : decode cX3_begin 10 = .ok (.iconst (-1), 1) := by decide +kernel
theorem dX3_begin_11 : decode cX3_begin 11 = .ok (.ireturn, 1) := by decide +kernel
theorem dX3_begin_12 : decode cX3_begin 12 = .ok (.aload_n 0, 1) := by decide +kernel
theorem dX3_begin_13 : decode cX3_begin 13 = .ok (.invokevirtual 44, 3) := by decide +kernel
theorem dX3_begin_16 : decode cX3_begin 16 = .ok (.aload_n 0, 1) := by decide +kernel
theorem dX3_begin_17 : decode cX3_begin 17 = .ok (.getfield 7, 3) := by decide +kernel
theorem dX3_begin_20 : decode cX3_begin 20 = .ok (.bipush 11, 2) := by decide +kernel
theorem dX3_begin_22 : decode cX3_begin 22 = .ok (.iaload, 1) := by decide +kernel
theorem dX3_begin_23 : decode cX3_begin 23 = .ok (.istore_n 2, 1) := by decide +kernel
theorem dX3_begin_24 : decode cX3_begin 24 = .ok (.aload_n 0, 1) := by decide +kernel
theorem dX3_begin_25 : decode cX3_begin 25 = .ok (.iload_n 1, 1) := by decide +kernel
theorem dX3_begin_26 : decode cX3_begin 26 = .ok (.invokevirtual 28, 3) := by decide +kernel
theorem dX3_begin_29 : decode cX3_begin 29 = .ok (.iload_n 2, 1) := by decide +kernel
theorem dX3_begin_30 : decode cX3_begin 30 = .ok (.ireturn, 1) := by decide +kernel
theorem dX3_undo_0 : decode cX3_undo 0 = .ok (.aload_n 0, 1) := by decide +kernel
theorem dX3_undo_1 : decode cX3_undo 1 = .ok (.getfield 36, 3) := by decide +kernel
theorem dX3_undo_4 : decode cX3_undo 4 = .ok (.ifCond .ne 6, 3) := by decide +kernel
theorem dX3_undo_7 : decode cX3_undo 7 = .ok (.bipush (-2), 2) := by decide +kernel
theorem dX3_undo_9 : decode cX3_undo 9 = .ok (.ireturn, 1) := by decide +kernel
theorem dX3_undo_10 : decode cX3_undo 10 = .ok (.aload_n 0, 1) := by decide +kernel
theorem dX3_undo_11 : decode cX3_undo 11 = .ok (.dup, 1) := by decide +kernel
theorem dX3_undo_12 : decode cX3_undo 12 = .ok (.getfield 36, 3) := by decide +kernel
theorem dX3_undo_15 : decode cX3_undo 15 = .ok (.iconst 1, 1) := by decide +kernel
theorem dX3_undo_16 : decode cX3_undo 16 = .ok (.isub, 1) := by decide +kernel
theorem dX3_undo_17 : decode cX3_undo 17 = .ok (.putfield 36, 3) := by decide +kernel
theorem dX3_undo_20 : decode cX3_undo 20 = .ok (.iconst 0, 1) := by decide +kernel
theorem dX3_undo_21 : decode cX3_undo 21 = .ok (.istore_n 1, 1) := by decide +kernel
theorem dX3_undo_22 : decode cX3_undo 22 = .ok (.iload_n 1, 1) := by decide +kernel
theorem dX3_undo_23 : decode cX3_undo 23 = .ok (.sipush 935, 3) := by decide +kernel
theorem dX3_undo_26 : decode cX3_undo 26 = .ok (.if_icmp .ge 30, 3) := by decide +kernel
theorem dX3_undo_29 : decode cX3_undo 29 = .ok (.aload_n 0, 1) := by decide +kernel
theorem dX3_undo_30 : decode cX3_undo 30 = .ok (.getfield 7, 3) := by decide +kernel
theorem dX3_undo_33 : decode cX3_undo 33 = .ok (.iload_n 1, 1) := by decide +kernel
theorem dX3_undo_34 : decode cX3_undo 34 = .ok (.aload_n 0, 1) := by decide +kernel
theorem dX3_undo_35 : decode cX3_undo 35 = .ok (.getfield 13, 3) := by decide +kernel
theorem dX3_undo_38 : decode cX3_undo 38 = .ok (.sipush 935, 3) := by decide +kernel
theorem dX3_undo_41 : decode cX3_undo 41 = .ok (.aload_n 0, 1) := by decide +kernel
theorem dX3_undo_42 : decode cX3_undo 42 = .ok (.getfield 36, 3) := by decide +kernel
theorem dX3_undo_45 : decode cX3_undo 45 = .ok (.imul, 1) := by decide +kernel
theorem dX3_undo_46 : decode cX3_undo 46 = .ok (.iload_n 1, 1) := by decide +kernel
theorem dX3_undo_47 : decode cX3_undo 47 = .ok (.iadd, 1) := by decide +kernel
theorem dX3_undo_48 : decode cX3_undo 48 = .ok (.iaload, 1) := by decide +kernel
theorem dX3_undo_49 : decode cX3_undo 49 = .ok (.iastore, 1) := by decide +kernel
theorem dX3_undo_50 : decode cX3_undo 50 = .ok (.iinc 1 1, 3) := by decide +kernel
theorem dX3_undo_53 : decode cX3_undo 53 = .ok (.goto (-31), 3) := by decide +kernel
theorem dX3_undo_56 : decode cX3_undo 56 = .ok (.aload_n 0, 1) := by decide +kernel
theorem dX3_undo_57 : decode cX3_undo 57 = .ok (.getfield 36, 3) := by decide +kernel
theorem dX3_undo_60 : decode cX3_undo 60 = .ok (.ireturn, 1) := by decide +kernel
set_option maxRecDepth 20000 in
theorem ggX3_append_X3_in : GoodIn wsX3_append wsX3_in := goodIn_r _ [6] (by decide +kernel) (by decide +kernel)
set_option maxRecDepth 20000 in
theorem gX3_append_X3_in : GoodIn wsX3_append (va_wsS RX3 40 yX3_in wsX3_in) := goodIn_app (goodIn_of _ (by decide +kernel)) ggX3_append_X3_in
theorem dX3_append_0 : decode cX3_append 0 = .ok (.iload_n 1, 1) := by decide +kernel
theorem dX3_append_1 : decode cX3_append 1 = .ok (.iconst 1, 1) := by decide +kernel
theorem dX3_append_2 : decode cX3_append 2 = .ok (.sipush 255, 3) := by decide +kernel
theorem dX3_append_5 : decode cX3_append 5 = .ok (.invokestatic 40, 3) := by decide +kernel
theorem dX3_append_8 : decode cX3_append 8 = .ok (.ifCond .ne 5, 3) := by decide +kernel
theorem dX3_append_11 : decode cX3_append 11 = .ok (.iconst (-1), 1) := by decide +kernel
theorem dX3_append_12 : decode cX3_append 12 = .ok (.ireturn, 1) := by decide +kernel
theorem dX3_append_13 : decode cX3_append 13 = .ok (.aload_n 0, 1) := by decide +kernel
theorem dX3_append_14 : decode cX3_append 14 = .ok (.getfield 70, 3) := by decide +kernel
theorem dX3_append_17 : decode cX3_append 17 = .ok (.bipush 120, 2) := by decide +kernel
theorem dX3_append_19 : decode cX3_append 19 = .ok (.if_icmp .ne 6, 3) := by decide +kernel
theorem dX3_append_22 : decode cX3_append 22 = .ok (.bipush (-3), 2) := by decide +kernel
theorem dX3_append_24 : decode cX3_append 24 = .ok (.ireturn, 1) := by decide +kernel
theorem dX3_append_25 : decode cX3_append 25 = .ok (.aload_n 0, 1) := by decide +kernel
theorem dX3_append_26 : decode cX3_append 26 = .ok (.getfield 19, 3) := by decide +kernel
theorem dX3_append_29 : decode cX3_append 29 = .ok (.aload_n 0, 1) := by decide +kernel
theorem dX3_append_30 : decode cX3_append 30 = .ok (.getfield 70, 3) := by decide +kernel
theorem dX3_append_33 : decode cX3_append 33 = .ok (.iload_n 1, 1) := by decide +kernel
theorem dX3_append_34 : decode cX3_append 34 = .ok (.iastore, 1) := by decide +kernel
theorem dX3_append_35 : decode cX3_append 35 = .ok (.aload_n 0, 1) := by decide +kernel
theorem dX3_append_36 : decode cX3_append 36 = .ok (.dup, 1) := by decide +kernel
theorem dX3_append_37 : decode cX3_append 37 = .ok (.getfield 70, 3) := by decide +kernel
theorem dX3_append_40 : decode cX3_append 40 = .ok (.iconst 1, 1) := by decide +kernel
theorem dX3_append_41 : decode cX3_append 41 = .ok (.iadd, 1) := by decide +kernel
theorem dX3_append_42 : decode cX3_append 42 = .ok (.putfield 70, 3) := by decide +kernel
theorem dX3_append_45 : decode cX3_append 45 = .ok (.aload_n 0, 1) := by decide +kernel
theorem dX3_append_46 : decode cX3_append 46 = .ok (.getfield 70, 3) := by decide +kernel
theorem dX3_append_49 : decode cX3_append 49 = .ok (.ireturn, 1) := by decide +kernel
theorem dX3_clearText_0 : decode cX3_clearText 0 = .ok (.aload_n 0, 1) := by decide +kernel
theorem dX3_clearText_1 : decode cX3_clearText 1 = .ok (.getfield 70, 3) := by decide +kernel
theorem dX3_clearText_4 : decode cX3_clearText 4 = .ok (.istore_n 1, 1) := by decide +kernel
theorem dX3_clearText_5 : decode cX3_clearText 5 = .ok (.aload_n 0, 1) := by decide +kernel
theorem dX3_clearText_6 : decode cX3_clearText 6 = .ok (.iconst 0, 1) := by decide +kernel
theorem dX3_clearText_7 : decode cX3_clearText 7 = .ok (.putfield 70, 3) := by decide +kernel
theorem dX3_clearText_10 : decode cX3_clearText 10 = .ok (.iload_n 1, 1) := by decide +kernel
theorem dX3_clearText_11 : decode cX3_clearText 11 = .ok (.ireturn, 1) := by decide +kernel
theorem dX3_skips_0 : decode cX3_skips 0 = .ok (.aload_n 0, 1) := by decide +kernel
theorem dX3_skips_1 : decode cX3_skips 1 = .ok (.getfield 73, 3) := by decide +kernel
theorem dX3_skips_4 : decode cX3_skips 4 = .ok (.aload_n 0, 1) := by decide +kernel
theorem dX3_skips_5 : decode cX3_skips 5 = .ok (.getfield 70, 3) := by decide +kernel
theorem dX3_skips_8 : decode cX3_skips 8 = .ok (.if_icmp .ge 30, 3) := by decide +kernel
theorem dX3_skips_11 : decode cX3_skips 11 = .ok (.aload_n 0, 1) := by decide +kernel
theorem dX3_skips_12 : decode cX3_skips 12 = .ok (.getfield 19, 3) := by decide +kernel
theorem dX3_skips_15 : decode cX3_skips 15 = .ok (.aload_n 0, 1) := by decide +kernel
theorem dX3_skips_16 : decode cX3_skips 16 = .ok (.getfield 73, 3) := by decide +kernel
theorem dX3_skips_19 : decode cX3_skips 19 = .ok (.iaload, 1) := by decide +kernel
theorem dX3_skips_20 : decode cX3_skips 20 = .ok (.bipush 32, 2) := by decide +kernel
theorem dX3_skips_22 : decode cX3_skips 22 = .ok (.if_icmp .ne 16, 3) := by decide +kernel
theorem dX3_skips_25 : decode cX3_skips 25 = .ok (.aload_n 0, 1) := by decide +kernel
theorem dX3_skips_26 : decode cX3_skips 26 = .ok (.dup, 1) := by decide +kernel
theorem dX3_skips_27 : decode cX3_skips 27 = .ok (.getfield 73, 3) := by decide +kernel
theorem dX3_skips_30 : decode cX3_skips 30 = .ok (.iconst 1, 1) := by decide +kernel
theorem dX3_skips_31 : decode cX3_skips 31 = .ok (.iadd, 1) := by decide +kernel
theorem dX3_skips_32 : decode cX3_skips 32 = .ok (.putfield 73, 3) := by decide +kernel
theorem dX3_skips_35 : decode cX3_skips 35 = .ok (.goto (-35), 3) := by decide +kernel
theorem dX3_skips_38 : decode cX3_skips 38 = .ok (.return_, 1) := by decide +kernel
set_option maxRecDepth 20000 in
theorem ggX3_isDigit_X3_in : GoodIn wsX3_isDigit wsX3_in := goodIn_r _ [6] (by decide +kernel) (by decide +kernel)
set_option maxRecDepth 20000 in
theorem gX3_isDigit_X3_in : GoodIn wsX3_isDigit (va_wsS RX3 40 yX3_in wsX3_in) := goodIn_app (goodIn_of _ (by decide +kernel)) ggX3_isDigit_X3_in
theorem dX3_isDigit_0 : decode cX3_isDigit 0 = .ok (.iload_n 1, 1) := by decide +kernel
theorem dX3_isDigit_1 : decode cX3_isDigit 1 = .ok (.aload_n 0, 1) := by decide +kernel
theorem dX3_isDigit_2 : decode cX3_isDigit 2 = .ok (.getfield 70, 3) := by decide +kernel
theorem dX3_isDigit_5 : decode cX3_isDigit 5 = .ok (.if_icmp .ge 23, 3) := by decide +kernel
theorem dX3_isDigit_8 : decode cX3_isDigit 8 = .ok (.aload_n 0, 1) := by decide +kernel
theorem dX3_isDigit_9 : decode cX3_isDigit 9 = .ok (.getfield 19, 3) := by decide +kernel
theorem dX3_isDigit_12 : decode cX3_isDigit 12 = .ok (.iload_n 1, 1) := by decide +kernel
theorem dX3_isDigit_13 : decode cX3_isDigit 13 = .ok (.iaload, 1) := by decide +kernel
theorem dX3_isDigit_14 : decode cX3_isDigit 14 = .ok (.bipush 48, 2) := by decide +kernel
theorem dX3_isDigit_16 : decode cX3_isDigit 16 = .ok (.bipush 57, 2) := by decide +kernel
theorem dX3_isDigit_18 : decode cX3_isDigit 18 = .ok (.invokestatic 40, 3) := by decide +kernel
theorem dX3_isDigit_21 : decode cX3_isDigit 21 = .ok (.ifCond .eq 7, 3) := by decide +kernel
theorem dX3_isDigit_24 : decode cX3_isDigit 24 = .ok (.iconst 1, 1) := by decide +kernel
theorem dX3_isDigit_25 : decode cX3_isDigit 25 = .ok (.goto 4, 3) := by decide +kernel
theorem dX3_isDigit_28 : decode cX3_isDigit 28 = .ok (.iconst 0, 1) := by decide +kernel
theorem dX3_isDigit_29 : decode cX3_isDigit 29 = .ok (.ireturn, 1) := by decide +kernel
set_option maxRecDepth 20000 in
theorem ggX3_number_X3_skips : GoodIn wsX3_number wsX3_skips := goodIn_r _ [8, 1, 9, 3, 17, 18, 19, 20, 21, 22, 23, 24, 25, 26, 27] (by decide +kernel) (by decide +kernel)
set_option maxRecDepth 20000 in
theorem gX3_number_X3_skips : GoodIn wsX3_number (wsV RX3 76 RX3 yX3_skips wsX3_skips) := goodIn_app (goodIn_of _ (by decide +kernel)) ggX3_number_X3_skips
set_option maxRecDepth 20000 in
theorem ggX3_number_X3_isDigit : GoodIn wsX3_number wsX3_isDigit := goodIn_r _ [13, 9, 3, 14, 15, 7, 16, 17, 18, 19, 20, 21, 22, 23, 24, 25, 26, 27] (by decide +kernel) (by decide +kernel)
set_option maxRecDepth 20000 in
theorem gX3_number_X3_isDigit : GoodIn wsX3_number (wsV RX3 82 RX3 yX3_isDigit wsX3_isDigit) := goodIn_app (goodIn_of _ (by decide +kernel)) ggX3_number_X3_isDigit
theorem dX3_number_0 : decode cX3_number 0 = .ok (.aload_n 0, 1) := by decide +kernel
theorem dX3_number_1 : decode cX3_number 1 = .ok (.invokevirtual 76, 3) := by decide +kernel
theorem dX3_number_4 : decode cX3_number 4 = .ok (.aload_n 0, 1) := by decide +kernel
theorem dX3_number_5 : decode cX3_number 5 = .ok (.getfield 73, 3) := by decide +kernel
theorem dX3_number_8 : decode cX3_number 8 = .ok (.istore_n 1, 1) := by decide +kernel
theorem dX3_number_9 : decode cX3_number 9 = .ok (.aload_n 0, 1) := by decide +kernel
theorem dX3_number_10 : decode cX3_number 10 = .ok (.iconst 0, 1) := by decide +kernel
theorem dX3_number_11 : decode cX3_number 11 = .ok (.putfield 79, 3) := by decide +kernel
theorem dX3_number_14 : decode cX3_number 14 = .ok (.aload_n 0, 1) := by decide +kernel
theorem dX3_number_15 : decode cX3_number 15 = .ok (.aload_n 0, 1) := by decide +kernel
theorem dX3_number_16 : decode cX3_number 16 = .ok (.getfield 73, 3) := by decide +kernel
theorem dX3_number_19 : decode cX3_number 19 = .ok (.invokevirtual 82, 3) := by decide +kernel
theorem dX3_number_22 : decode cX3_number 22 = .ok (.ifCond .eq 57, 3) := by decide +kernel
theorem dX3_number_25 : decode cX3_number 25 = .ok (.aload_n 0, 1) := by decide +kernel
theorem dX3_number_26 : decode cX3_number 26 = .ok (.aload_n 0, 1) := by decide +kernel
theorem dX3_number_27 : decode cX3_number 27 = .ok (.getfield 73, 3) := by decide +kernel
theorem dX3_number_30 : decode cX3_number 30 = .ok (.iload_n 1, 1) := by decide +kernel
theorem dX3_number_31 : decode cX3_number 31 = .ok (.isub, 1) := by decide +kernel
theorem dX3_number_32 : decode cX3_number 32 = .ok (.iconst 3, 1) := by decide +kernel
theorem dX3_number_33 : decode cX3_number 33 = .ok (.if_icmp .ge 26, 3) := by decide +kernel
theorem dX3_number_36 : decode cX3_number 36 = .ok (.bipush 10, 2) := by decide +kernel
theorem dX3_number_38 : decode cX3_number 38 = .ok (.aload_n 0, 1) := by decide +kernel
theorem dX3_number_39 : decode cX3_number 39 = .ok (.getfield 79, 3) := by decide +kernel
theorem dX3_number_42 : decode cX3_number 42 = .ok (.imul, 1) := by decide +kernel
theorem dX3_number_43 : decode cX3_number 43 = .ok (.aload_n 0, 1) := by decide +kernel
theorem dX3_number_44 : decode cX3_number 44 = .ok (.getfield 19, 3) := by decide +kernel
theorem dX3_number_47 : decode cX3_number 47 = .ok (.aload_n 0, 1) := by decide +kernel
theorem dX3_number_48 : decode cX3_number 48 = .ok (.getfield 73, 3) := by decide +kernel
theorem dX3_number_51 : decode cX3_number 51 = .ok (.iaload, 1) := by decide +kernel
theorem dX3_number_52 : decode cX3_number 52 = .ok (.iadd, 1) := by decide +kernel
theorem dX3_number_53 : decode cX3_number 53 = .ok (.bipush 48, 2) := by decide +kernel
theorem dX3_number_55 : decode cX3_number 55 = .ok (.isub, 1) := by decide +kernel
theorem dX3_number_56 : decode cX3_number 56 = .ok (.goto 7, 3) := by decide +kernel
theorem dX3_number_59 : decode cX3_number 59 = .ok (.aload_n 0, 1) := by decide +kernel
theorem dX3_number_60 : decode cX3_number 60 = .ok (.getfield 79, 3) := by decide +kernel
theorem dX3_number_63 : decode cX3_number 63 = .ok (.putfield 79, 3) := by decide +kernel
theorem dX3_number_66 : decode cX3_number 66 = .ok (.aload_n 0, 1) := by decide +kernel
theorem dX3_number_67 : decode cX3_number 67 = .ok (.dup, 1) := by decide +kernel
theorem dX3_number_68 : decode cX3_number 68 = .ok (.getfield 73, 3) := by decide +kernel
theorem dX3_number_71 : decode cX3_number 71 = .ok (.iconst 1, 1) := by decide +kernel
theorem dX3_number_72 : decode cX3_number 72 = .ok (.iadd, 1) := by decide +kernel
theorem dX3_number_73 : decode cX3_number 73 = .ok (.putfield 73, 3) := by decide +kernel
theorem dX3_number_76 : decode cX3_number 76 = .ok (.goto (-62), 3) := by decide +kernel
theorem dX3_number_79 : decode cX3_number 79 = .ok (.aload_n 0, 1) := by decide +kernel
theorem dX3_number_80 : decode cX3_number 80 = .ok (.getfield 73, 3) := by decide +kernel
theorem dX3_number_83 : decode cX3_number 83 = .ok (.iload_n 1, 1) := by decide +kernel
theorem dX3_number_84 : decode cX3_number 84 = .ok (.if_icmp .le 38, 3) := by decide +kernel
theorem dX3_number_87 : decode cX3_number 87 = .ok (.aload_n 0, 1) := by decide +kernel
theorem dX3_number_88 : decode cX3_number 88 = .ok (.getfield 73, 3) := by decide +kernel
theorem dX3_number_91 : decode cX3_number 91 = .ok (.iload_n 1, 1) := by decide +kernel
theorem dX3_number_92 : decode cX3_number 92 = .ok (.isub, 1) := by decide +kernel
theorem dX3_number_93 : decode cX3_number 93 = .ok (.iconst 4, 1) := by decide +kernel
theorem dX3_number_94 : decode cX3_number 94 = .ok (.if_icmp .ge 28, 3) := by decide +kernel
theorem dX3_number_97 : decode cX3_number 97 = .ok (.aload_n 0, 1) := by decide +kernel
theorem dX3_number_98 : decode cX3_number 98 = .ok (.getfield 19, 3) := by decide +kernel
theorem dX3_number_101 : decode cX3_number 101 = .ok (.iload_n 1, 1) := by decide +kernel
theorem dX3_number_102 : decode cX3_number 102 = .ok (.iaload, 1) := by decide +kernel
theorem dX3_number_103 : decode cX3_number 103 = .ok (.bipush 48, 2) := by decide +kernel
theorem dX3_number_105 : decode cX3_number 105 = .ok (.if_icmp .ne 13, 3) := by decide +kernel
theorem dX3_number_108 : decode cX3_number 108 = .ok (.aload_n 0, 1) := by decide +kernel
theorem dX3_number_109 : decode cX3_number 109 = .ok (.getfield 73, 3) := by decide +kernel
theorem dX3_number_112 : decode cX3_number 112 = .ok (.iload_n 1, 1) := by decide +kernel
theorem dX3_number_113 : decode cX3_number 113 = .ok (.isub, 1) := by decide +kernel
theorem dX3_number_114 : decode cX3_number 114 = .ok (.iconst 1, 1) := by decide +kernel
theorem dX3_number_115 : decode cX3_number 115 = .ok (.if_icmp .ne 7, 3) := by decide +kernel
theorem dX3_number_118 : decode cX3_number 118 = .ok (.iconst 1, 1) := by decide +kernel
theorem dX3_number_119 : decode cX3_number 119 = .ok (.goto 4, 3) := by decide +kernel
theorem dX3_number_122 : decode cX3_number 122 = .ok (.iconst 0, 1) := by decide +kernel
theorem dX3_number_123 : decode cX3_number 123 = .ok (.istore_n 2, 1) := by decide +kernel
theorem dX3_number_124 : decode cX3_number 124 = .ok (.aload_n 0, 1) := by decide +kernel
theorem dX3_number_125 : decode cX3_number 125 = .ok (.iload_n 2, 1) := by decide +kernel
theorem dX3_number_126 : decode cX3_number 126 = .ok (.ifCond .eq 10, 3) := by decide +kernel
theorem dX3_number_129 : decode cX3_number 129 = .ok (.aload_n 0, 1) := by decide +kernel
theorem dX3_number_130 : decode cX3_number 130 = .ok (.getfield 73, 3) := by decide +kernel
theorem dX3_number_133 : decode cX3_number 133 = .ok (.goto 4, 3) := by decide +kernel
theorem dX3_number_136 : decode cX3_number 136 = .ok (.iload_n 1, 1) := by decide +kernel
theorem dX3_number_137 : decode cX3_number 137 = .ok (.putfield 73, 3) := by decide +kernel
theorem dX3_number_140 : decode cX3_number 140 = .ok (.iload_n 2, 1) := by decide +kernel
theorem dX3_number_141 : decode cX3_number 141 = .ok (.ireturn, 1) := by decide +kernel
set_option maxRecDepth 20000 in
theorem ggX3_runsOne_X3_number : GoodIn wsX3_runsOne wsX3_number := goodIn_r _ [9, 1, 3, 2, 10, 11, 12, 8, 13, 4, 14, 15, 16, 17, 18, 19, 20, 68, 69, 70, 71, 72, 73, 74, 75, 76, 77, 78] (by decide +kernel) (by decide +kernel)
set_option maxRecDepth 20000 in
theorem gX3_runsOne_X3_number : GoodIn wsX3_runsOne (wsV RX3 86 RX3 yX3_number wsX3_number) := goodIn_app (goodIn_of _ (by decide +kernel)) ggX3_runsOne_X3_number
set_option maxRecDepth 20000 in
theorem ggX3_runsOne_X3_skips : GoodIn wsX3_runsOne wsX3_skips := goodIn_r _ [13, 1, 4, 2, 68, 69, 70, 71, 72, 73, 74, 75, 76, 77, 78] (by decide +kernel) (by decide +kernel)
set_option maxRecDepth 20000 in
theorem gX3_runsOne_X3_skips : GoodIn wsX3_runsOne (wsV RX3 76 RX3 yX3_skips wsX3_skips) := goodIn_app (goodIn_of _ (by decide +kernel)) ggX3_runsOne_X3_skips
set_option maxRecDepth 20000 in
theorem ggX3_runsOne_X3_call : GoodIn wsX3_runsOne wsX3_call := goodIn_r _ [24, 25, 18, 19, 8, 20, 26, 27, 28, 29, 30, 31, 32, 33, 34, 35, 36, 37, 38, 39, 40, 68, 69, 70, 71, 72, 73, 74, 75, 76, 77, 78] (by decide +kernel) (by decide +kernel)
set_option maxRecDepth 20000 in
theorem gX3_runsOne_X3_call : GoodIn wsX3_runsOne (wsV RX3 90 RX3 yX3_call wsX3_call) := goodIn_app (goodIn_of _ (by decide +kernel)) ggX3_runsOne_X3_call
set_option maxRecDepth 20000 in
theorem ggX3_runsOne_X3_tail : GoodIn wsX3_runsOne wsX3_tail := goodIn_r _ [44, 25, 18, 19, 8, 20, 26, 27, 28, 29, 30, 31, 32, 37, 38, 39, 40, 68, 69, 70, 71, 72, 73, 74, 75, 76, 77, 78] (by decide +kernel) (by decide +kernel)
set_option maxRecDepth 20000 in
theorem gX3_runsOne_X3_tail : GoodIn wsX3_runsOne (wsV RX3 93 RX3 yX3_tail wsX3_tail) := goodIn_app (goodIn_of _ (by decide +kernel)) ggX3_runsOne_X3_tail
set_option maxRecDepth 20000 in
theorem ggX3_runsOne_X3_ret : GoodIn wsX3_runsOne wsX3_ret := goodIn_r _ [48, 25, 26, 27, 28, 8, 29, 30, 31, 32, 49, 50, 51, 52, 53, 54, 55, 56, 33, 34, 35, 36, 57, 58, 59, 60, 61, 62, 63, 37, 38, 39, 40, 68, 69, 70, 71, 72, 73, 74, 75, 76, 77, 78] (by decide +kernel) (by decide +kernel)
set_option maxRecDepth 20000 in
theorem gX3_runsOne_X3_ret : GoodIn wsX3_runsOne (wsV RX3 97 RX3 yX3_ret wsX3_ret) := goodIn_app (goodIn_of _ (by decide +kernel)) ggX3_runsOne_X3_ret
set_option maxRecDepth 20000 in
theorem ggX3_runsOne_X3_raise : GoodIn wsX3_runsOne wsX3_raise := goodIn_r _ [67, 25, 18, 19, 8, 20, 26, 27, 28, 29, 30, 31, 32, 61, 62, 63, 37, 38, 39, 40, 68, 69, 70, 71, 72, 73, 74, 75, 76, 77, 78] (by decide +kernel) (by decide +kernel)
set_option maxRecDepth 20000 in
theorem gX3_runsOne_X3_raise : GoodIn wsX3_runsOne (wsV RX3 100 RX3 yX3_raise wsX3_raise) := goodIn_app (goodIn_of _ (by decide +kernel)) ggX3_runsOne_X3_raise
theorem dX3_runsOne_0 : decode cX3_runsOne 0 = .ok (.aload_n 0, 1) := by decide +kernel
theorem dX3_runsOne_1 : decode cX3_runsOne 1 = .ok (.getfield 73, 3) := by decide +kernel
theorem dX3_runsOne_4 : decode cX3_runsOne 4 = .ok (.istore_n 1, 1) := by decide +kernel
theorem dX3_runsOne_5 : decode cX3_runsOne 5 = .ok (.aload_n 0, 1) := by decide +kernel
theorem dX3_runsOne_6 : decode cX3_runsOne 6 = .ok (.getfield 19, 3) := by decide +kernel
theorem dX3_runsOne_9 : decode cX3_runsOne 9 = .ok (.aload_n 0, 1) := by decide +kernel
theorem dX3_runsOne_10 : decode cX3_runsOne 10 = .ok (.getfield 73, 3) := by decide +kernel
theorem dX3_runsOne_13 : decode cX3_runsOne 13 = .ok (.iaload, 1) := by decide +kernel
theorem dX3_runsOne_14 : decode cX3_runsOne 14 = .ok (.istore_n 2, 1) := by decide +kernel
theorem dX3_runsOne_15 : decode cX3_runsOne 15 = .ok (.iload_n 2, 1) := by decide +kernel
theorem dX3_runsOne_16 : decode cX3_runsOne 16 = .ok (.bipush 99, 2) := by decide +kernel
theorem dX3_runsOne_18 : decode cX3_runsOne 18 = .ok (.if_icmp .eq 23, 3) := by decide +kernel
theorem dX3_runsOne_21 : decode cX3_runsOne 21 = .ok (.iload_n 2, 1) := by decide +kernel
theorem dX3_runsOne_22 : decode cX3_runsOne 22 = .ok (.bipush 116, 2) := by decide +kernel
theorem dX3_runsOne_24 : decode cX3_runsOne 24 = .ok (.if_icmp .eq 17, 3) := by decide +kernel
theorem dX3_runsOne_27 : decode cX3_runsOne 27 = .ok (.iload_n 2, 1) := by decide +kernel
theorem dX3_runsOne_28 : decode cX3_runsOne 28 = .ok (.bipush 114, 2) := by decide +kernel
theorem dX3_runsOne_30 : decode cX3_runsOne 30 = .ok (.if_icmp .eq 11, 3) := by decide +kernel
theorem dX3_runsOne_33 : decode cX3_runsOne 33 = .ok (.iload_n 2, 1) := by decide +kernel
theorem dX3_runsOne_34 : decode cX3_runsOne 34 = .ok (.bipush 120, 2) := by decide +kernel
theorem dX3_runsOne_36 : decode cX3_runsOne 36 = .ok (.if_icmp .eq 5, 3) := by decide +kernel
theorem dX3_runsOne_39 : decode cX3_runsOne 39 = .ok (.iload_n 1, 1) := by decide +kernel
theorem dX3_runsOne_40 : decode cX3_runsOne 40 = .ok (.ireturn, 1) := by decide +kernel
theorem dX3_runsOne_41 : decode cX3_runsOne 41 = .ok (.aload_n 0, 1) := by decide +kernel
theorem dX3_runsOne_42 : decode cX3_runsOne 42 = .ok (.dup, 1) := by decide +kernel
theorem dX3_runsOne_43 : decode cX3_runsOne 43 = .ok (.getfield 73, 3) := by decide +kernel
theorem dX3_runsOne_46 : decode cX3_runsOne 46 = .ok (.iconst 1, 1) := by decide +kernel
theorem dX3_runsOne_47 : decode cX3_runsOne 47 = .ok (.iadd, 1) := by decide +kernel
theorem dX3_runsOne_48 : decode cX3_runsOne 48 = .ok (.putfield 73, 3) := by decide +kernel
theorem dX3_runsOne_51 : decode cX3_runsOne 51 = .ok (.iload_n 2, 1) := by decide +kernel
theorem dX3_runsOne_52 : decode cX3_runsOne 52 = .ok (.bipush 114, 2) := by decide +kernel
theorem dX3_runsOne_54 : decode cX3_runsOne 54 = .ok (.if_icmp .eq 15, 3) := by decide +kernel
theorem dX3_runsOne_57 : decode cX3_runsOne 57 = .ok (.aload_n 0, 1) := by decide +kernel
theorem dX3_runsOne_58 : decode cX3_runsOne 58 = .ok (.invokevirtual 86, 3) := by decide +kernel
theorem dX3_runsOne_61 : decode cX3_runsOne 61 = .ok (.ifCond .ne 8, 3) := by decide +kernel
theorem dX3_runsOne_64 : decode cX3_runsOne 64 = .ok (.aload_n 0, 1) := by decide +kernel
theorem dX3_runsOne_65 : decode cX3_runsOne 65 = .ok (.getfield 73, 3) := by decide +kernel
theorem dX3_runsOne_68 : decode cX3_runsOne 68 = .ok (.ireturn, 1) := by decide +kernel
theorem dX3_runsOne_69 : decode cX3_runsOne 69 = .ok (.aload_n 0, 1) := by decide +kernel
theorem dX3_runsOne_70 : decode cX3_runsOne 70 = .ok (.getfield 79, 3) := by decide +kernel
theorem dX3_runsOne_73 : decode cX3_runsOne 73 = .ok (.istore_n 3, 1) := by decide +kernel
theorem dX3_runsOne_74 : decode cX3_runsOne 74 = .ok (.iload_n 2, 1) := by decide +kernel
theorem dX3_runsOne_75 : decode cX3_runsOne 75 = .ok (.bipush 99, 2) := by decide +kernel
theorem dX3_runsOne_77 : decode cX3_runsOne 77 = .ok (.if_icmp .ne 59, 3) := by decide +kernel
theorem dX3_runsOne_80 : decode cX3_runsOne 80 = .ok (.aload_n 0, 1) := by decide +kernel
theorem dX3_runsOne_81 : decode cX3_runsOne 81 = .ok (.invokevirtual 76, 3) := by decide +kernel
theorem dX3_runsOne_84 : decode cX3_runsOne 84 = .ok (.aload_n 0, 1) := by decide +kernel
theorem dX3_runsOne_85 : decode cX3_runsOne 85 = .ok (.getfield 73, 3) := by decide +kernel
theorem dX3_runsOne_88 : decode cX3_runsOne 88 = .ok (.aload_n 0, 1) := by decide +kernel
theorem dX3_runsOne_89 : decode cX3_runsOne 89 = .ok (.getfield 70, 3) := by decide +kernel
theorem dX3_runsOne_92 : decode cX3_runsOne 92 = .ok (.if_icmp .eq 17, 3) := by decide +kernel
theorem dX3_runsOne_95 : decode cX3_runsOne 95 = .ok (.aload_n 0, 1) := by decide +kernel
theorem dX3_runsOne_96 : decode cX3_runsOne 96 = .ok (.getfield 19, 3) := by decide +kernel
theorem dX3_runsOne_99 : decode cX3_runsOne 99 = .ok (.aload_n 0, 1) := by decide +kernel
theorem dX3_runsOne_100 : decode cX3_runsOne 100 = .ok (.getfield 73, 3) := by decide +kernel
theorem dX3_runsOne_103 : decode cX3_runsOne 103 = .ok (.iaload, 1) := by decide +kernel
theorem dX3_runsOne_104 : decode cX3_runsOne 104 = .ok (.bipush 64, 2) := by decide +kernel
theorem dX3_runsOne_106 : decode cX3_runsOne 106 = .ok (.if_icmp .eq 8, 3) := by decide +kernel
theorem dX3_runsOne_109 : decode cX3_runsOne 109 = .ok (.aload_n 0, 1) := by decide +kernel
theorem dX3_runsOne_110 : decode cX3_runsOne 110 = .ok (.getfield 73, 3) := by decide +kernel
theorem dX3_runsOne_113 : decode cX3_runsOne 113 = .ok (.ireturn, 1) := by decide +kernel
theorem dX3_runsOne_114 : decode cX3_runsOne 114 = .ok (.aload_n 0, 1) := by decide +kernel
theorem dX3_runsOne_115 : decode cX3_runsOne 115 = .ok (.dup, 1) := by decide +kernel
theorem dX3_runsOne_116 : decode cX3_runsOne 116 = .ok (.getfield 73, 3) := by decide +kernel
theorem dX3_runsOne_119 : decode cX3_runsOne 119 = .ok (.iconst 1, 1) := by decide +kernel
theorem dX3_runsOne_120 : decode cX3_runsOne 120 = .ok (.iadd, 1) := by decide +kernel
theorem dX3_runsOne_121 : decode cX3_runsOne 121 = .ok (.putfield 73, 3) := by decide +kernel
theorem dX3_runsOne_124 : decode cX3_runsOne 124 = .ok (.aload_n 0, 1) := by decide +kernel
theorem dX3_runsOne_125 : decode cX3_runsOne 125 = .ok (.invokevirtual 86, 3) := by decide +kernel
theorem dX3_runsOne_128 : decode cX3_runsOne 128 = .ok (.ifCond .ne 8, 3) := by decide +kernel
theorem dX3_runsOne_131 : decode cX3_runsOne 131 = .ok (.aload_n 0, 1) := by decide +kernel
theorem dX3_runsOne_132 : decode cX3_runsOne 132 = .ok (.getfield 73, 3) := by decide +kernel
theorem dX3_runsOne_135 : decode cX3_runsOne 135 = .ok (.ireturn, 1) := by decide +kernel
theorem dX3_runsOne_136 : decode cX3_runsOne 136 = .ok (.iload_n 2, 1) := by decide +kernel
theorem dX3_runsOne_137 : decode cX3_runsOne 137 = .ok (.bipush 99, 2) := by decide +kernel
theorem dX3_runsOne_139 : decode cX3_runsOne 139 = .ok (.if_icmp .ne 15, 3) := by decide +kernel
theorem dX3_runsOne_142 : decode cX3_runsOne 142 = .ok (.aload_n 0, 1) := by decide +kernel
theorem dX3_runsOne_143 : decode cX3_runsOne 143 = .ok (.iload_n 3, 1) := by decide +kernel
theorem dX3_runsOne_144 : decode cX3_runsOne 144 = .ok (.aload_n 0, 1) := by decide +kernel
theorem dX3_runsOne_145 : decode cX3_runsOne 145 = .ok (.getfield 79, 3) := by decide +kernel
theorem dX3_runsOne_148 : decode cX3_runsOne 148 = .ok (.invokevirtual 90, 3) := by decide +kernel
theorem dX3_runsOne_151 : decode cX3_runsOne 151 = .ok (.goto 35, 3) := by decide +kernel
theorem dX3_runsOne_154 : decode cX3_runsOne 154 = .ok (.iload_n 2, 1) := by decide +kernel
theorem dX3_runsOne_155 : decode cX3_runsOne 155 = .ok (.bipush 116, 2) := by decide +kernel
theorem dX3_runsOne_157 : decode cX3_runsOne 157 = .ok (.if_icmp .ne 11, 3) := by decide +kernel
theorem dX3_runsOne_160 : decode cX3_runsOne 160 = .ok (.aload_n 0, 1) := by decide +kernel
theorem dX3_runsOne_161 : decode cX3_runsOne 161 = .ok (.iload_n 3, 1) := by decide +kernel
theorem dX3_runsOne_162 : decode cX3_runsOne 162 = .ok (.invokevirtual 93, 3) := by decide +kernel
theorem dX3_runsOne_165 : decode cX3_runsOne 165 = .ok (.goto 21, 3) := by decide +kernel
theorem dX3_runsOne_168 : decode cX3_runsOne 168 = .ok (.iload_n 2, 1) := by decide +kernel
theorem dX3_runsOne_169 : decode cX3_runsOne 169 = .ok (.bipush 114, 2) := by decide +kernel
theorem dX3_runsOne_171 : decode cX3_runsOne 171 = .ok (.if_icmp .ne 10, 3) := by decide +kernel
theorem dX3_runsOne_174 : decode cX3_runsOne 174 = .ok (.aload_n 0, 1) := by decide +kernel
theorem dX3_runsOne_175 : decode cX3_runsOne 175 = .ok (.invokevirtual 97, 3) := by decide +kernel
theorem dX3_runsOne_178 : decode cX3_runsOne 178 = .ok (.goto 8, 3) := by decide +kernel
theorem dX3_runsOne_181 : decode cX3_runsOne 181 = .ok (.aload_n 0, 1) := by decide +kernel
theorem dX3_runsOne_182 : decode cX3_runsOne 182 = .ok (.iload_n 3, 1) := by decide +kernel
theorem dX3_runsOne_183 : decode cX3_runsOne 183 = .ok (.invokevirtual 100, 3) := by decide +kernel
theorem dX3_runsOne_186 : decode cX3_runsOne 186 = .ok (.istore 4, 2) := by decide +kernel
theorem dX3_runsOne_188 : decode cX3_runsOne 188 = .ok (.aload_n 0, 1) := by decide +kernel
theorem dX3_runsOne_189 : decode cX3_runsOne 189 = .ok (.invokevirtual 76, 3) := by decide +kernel
theorem dX3_runsOne_192 : decode cX3_runsOne 192 = .ok (.iload 4, 2) := by decide +kernel
theorem dX3_runsOne_194 : decode cX3_runsOne 194 = .ok (.ifCond .ge 7, 3) := by decide +kernel
theorem dX3_runsOne_197 : decode cX3_runsOne 197 = .ok (.iload_n 1, 1) := by decide +kernel
theorem dX3_runsOne_198 : decode cX3_runsOne 198 = .ok (.goto 5, 3) := by decide +kernel
theorem dX3_runsOne_201 : decode cX3_runsOne 201 = .ok (.bipush (-9), 2) := by decide +kernel
theorem dX3_runsOne_203 : decode cX3_runsOne 203 = .ok (.ireturn, 1) := by decide +kernel
theorem dX3_exchanges_0 : decode cX3_exchanges 0 = .ok (.iconst 0, 1) := by decide +kernel
theorem dX3_exchanges_1 : decode cX3_exchanges 1 = .ok (.istore_n 1, 1) := by decide +kernel
theorem dX3_exchanges_2 : decode cX3_exchanges 2 = .ok (.iload_n 1, 1) := by decide +kernel
theorem dX3_exchanges_3 : decode cX3_exchanges 3 = .ok (.sipush 935, 3) := by decide +kernel
theorem dX3_exchanges_6 : decode cX3_exchanges 6 = .ok (.if_icmp .ge 35, 3) := by decide +kernel
theorem dX3_exchanges_9 : decode cX3_exchanges 9 = .ok (.aload_n 0, 1) := by decide +kernel
theorem dX3_exchanges_10 : decode cX3_exchanges 10 = .ok (.getfield 7, 3) := by decide +kernel
theorem dX3_exchanges_13 : decode cX3_exchanges 13 = .ok (.iload_n 1, 1) := by decide +kernel
theorem dX3_exchanges_14 : decode cX3_exchanges 14 = .ok (.iaload, 1) := by decide +kernel
theorem dX3_exchanges_15 : decode cX3_exchanges 15 = .ok (.istore_n 2, 1) := by decide +kernel
theorem dX3_exchanges_16 : decode cX3_exchanges 16 = .ok (.aload_n 0, 1) := by decide +kernel
theorem dX3_exchanges_17 : decode cX3_exchanges 17 = .ok (.getfield 7, 3) := by decide +kernel
theorem dX3_exchanges_20 : decode cX3_exchanges 20 = .ok (.iload_n 1, 1) := by decide +kernel
theorem dX3_exchanges_21 : decode cX3_exchanges 21 = .ok (.aload_n 0, 1) := by decide +kernel
theorem dX3_exchanges_22 : decode cX3_exchanges 22 = .ok (.getfield 16, 3) := by decide +kernel
theorem dX3_exchanges_25 : decode cX3_exchanges 25 = .ok (.iload_n 1, 1) := by decide +kernel
theorem dX3_exchanges_26 : decode cX3_exchanges 26 = .ok (.iaload, 1) := by decide +kernel
theorem dX3_exchanges_27 : decode cX3_exchanges 27 = .ok (.iastore, 1) := by decide +kernel
theorem dX3_exchanges_28 : decode cX3_exchanges 28 = .ok (.aload_n 0, 1) := by decide +kernel
theorem dX3_exchanges_29 : decode cX3_exchanges 29 = .ok (.getfield 16, 3) := by decide +kernel
theorem dX3_exchanges_32 : decode cX3_exchanges 32 = .ok (.iload_n 1, 1) := by decide +kernel
theorem dX3_exchanges_33 : decode cX3_exchanges 33 = .ok (.iload_n 2, 1) := by decide +kernel
theorem dX3_exchanges_34 : decode cX3_exchanges 34 = .ok (.iastore, 1) := by decide +kernel
theorem dX3_exchanges_35 : decode cX3_exchanges 35 = .ok (.iinc 1 1, 3) := by decide +kernel
theorem dX3_exchanges_38 : decode cX3_exchanges 38 = .ok (.goto (-36), 3) := by decide +kernel
theorem dX3_exchanges_41 : decode cX3_exchanges 41 = .ok (.return_, 1) := by decide +kernel
set_option maxRecDepth 20000 in
theorem ggX3_run_X3_skips : GoodIn wsX3_run wsX3_skips := goodIn_r _ [10, 4, 5, 11, 77, 78, 79, 80, 81, 82, 83, 84, 85, 86, 87] (by decide +kernel) (by decide +kernel)
set_option maxRecDepth 20000 in
theorem gX3_run_X3_skips : GoodIn wsX3_run (wsV RX3 76 RX3 yX3_skips wsX3_skips) := goodIn_app (goodIn_of _ (by decide +kernel)) ggX3_run_X3_skips
set_option maxRecDepth 20000 in
theorem ggX3_run_X3_runsOne : GoodIn wsX3_run wsX3_runsOne := goodIn_r _ [15, 4, 11, 16, 5, 17, 18, 19, 9, 20, 6, 7, 8, 10, 21, 22, 23, 24, 25, 26, 27, 28, 29, 30, 31, 2, 32, 33, 34, 35, 3, 36, 37, 38, 39, 40, 41, 42, 43, 44, 45, 46, 47, 48, 49, 50, 51, 52, 53, 54, 55, 56, 57, 58, 59, 60, 61, 62, 63, 64, 65, 66, 67, 68, 69, 70, 71, 72, 77, 78, 79, 80, 81, 82, 83, 84, 85, 86, 87] (by decide +kernel) (by decide +kernel)
set_option maxRecDepth 20000 in
theorem gX3_run_X3_runsOne : GoodIn wsX3_run (wsV RX3 103 RX3 yX3_runsOne wsX3_runsOne) := goodIn_app (goodIn_of _ (by decide +kernel)) ggX3_run_X3_runsOne
set_option maxRecDepth 20000 in
theorem ggX3_run_X3_exchanges : GoodIn wsX3_run wsX3_exchanges := goodIn_r _ [76, 2, 1, 77, 78, 79, 80, 81, 82, 83, 84, 85, 86, 87] (by decide +kernel) (by decide +kernel)
set_option maxRecDepth 20000 in
theorem gX3_run_X3_exchanges : GoodIn wsX3_run (wsV RX3 106 RX3 yX3_exchanges wsX3_exchanges) := goodIn_app (goodIn_of _ (by decide +kernel)) ggX3_run_X3_exchanges
set_option maxRecDepth 20000 in
theorem ggX3_run_X3_acts : GoodIn wsX3_run wsX3_acts := goodIn_r _ [35, 3, 36, 37, 2, 77, 78, 79, 80, 81, 82, 83, 84, 85, 86, 87] (by decide +kernel) (by decide +kernel)
set_option maxRecDepth 20000 in
theorem gX3_run_X3_acts : GoodIn wsX3_run (wsV RX3 44 RX3 yX3_acts wsX3_acts) := goodIn_app (goodIn_of _ (by decide +kernel)) ggX3_run_X3_acts
theorem dX3_run_0 : decode cX3_run 0 = .ok (.iconst 0, 1) := by decide +kernel
theorem dX3_run_1 : decode cX3_run 1 = .ok (.istore_n 1, 1) := by decide +kernel
theorem dX3_run_2 : decode cX3_run 2 = .ok (.iload_n 1, 1) := by decide +kernel
theorem dX3_run_3 : decode cX3_run 3 = .ok (.sipush 935, 3) := by decide +kernel
theorem dX3_run_6 : decode cX3_run 6 = .ok (.if_icmp .ge 21, 3) := by decide +kernel
theorem dX3_run_9 : decode cX3_run 9 = .ok (.aload_n 0, 1) := by decide +kernel
theorem dX3_run_10 : decode cX3_run 10 = .ok (.getfield 16, 3) := by decide +kernel
theorem dX3_run_13 : decode cX3_run 13 = .ok (.iload_n 1, 1) := by decide +kernel
theorem dX3_run_14 : decode cX3_run 14 = .ok (.aload_n 0, 1) := by decide +kernel
theorem dX3_run_15 : decode cX3_run 15 = .ok (.getfield 7, 3) := by decide +kernel
theorem dX3_run_18 : decode cX3_run 18 = .ok (.iload_n 1, 1) := by decide +kernel
theorem dX3_run_19 : decode cX3_run 19 = .ok (.iaload, 1) := by decide +kernel
theorem dX3_run_20 : decode cX3_run 20 = .ok (.iastore, 1) := by decide +kernel
theorem dX3_run_21 : decode cX3_run 21 = .ok (.iinc 1 1, 3) := by decide +kernel
theorem dX3_run_24 : decode cX3_run 24 = .ok (.goto (-22), 3) := by decide +kernel
theorem dX3_run_27 : decode cX3_run 27 = .ok (.aload_n 0, 1) := by decide +kernel
theorem dX3_run_28 : decode cX3_run 28 = .ok (.iconst 1, 1) := by decide +kernel
theorem dX3_run_29 : decode cX3_run 29 = .ok (.putfield 32, 3) := by decide +kernel
theorem dX3_run_32 : decode cX3_run 32 = .ok (.iconst 0, 1) := by decide +kernel
theorem dX3_run_33 : decode cX3_run 33 = .ok (.istore_n 1, 1) := by decide +kernel
theorem dX3_run_34 : decode cX3_run 34 = .ok (.bipush (-9), 2) := by decide +kernel
theorem dX3_run_36 : decode cX3_run 36 = .ok (.istore_n 2, 1) := by decide +kernel
