theorem dX2_call_4 : decode cX2_call 4 = .ok (.invokevirtual 33, 3) := by decide +kernel
theorem dX2_call_7 : decode cX2_call 7 = .ok (.ireturn, 1) := by decide +kernel
set_option maxRecDepth 20000 in
theorem ggX2_tail_X2_takeAsAction : GoodIn wsX2_tail wsX2_takeAsAction := goodIn_r _ [5, 6, 7, 8, 9, 10, 11, 12, 13, 14, 15, 16, 17, 18, 19, 20, 21, 22, 23, 24, 25, 26, 27, 28, 29, 30, 31, 32, 33, 34, 35, 36, 37, 38, 39, 40, 41, 42, 43, 44, 45, 46, 47, 48, 49, 50, 51, 52, 53, 54, 55, 56, 57, 58, 59, 60, 61, 62, 63, 64, 65, 66, 67, 68, 69, 70, 71, 72, 73, 74, 75, 76, 77, 78, 79, 80, 81, 82, 83, 84, 85, 86, 87, 88, 89, 90, 91, 92, 93, 94, 95, 96, 97, 4, 98, 99, 100, 101, 102, 103, 104, 105, 106, 107, 108, 109, 110, 111, 112, 113, 114, 115, 116, 117, 118, 119, 120, 121, 122, 123, 124] (by decide +kernel) (by decide +kernel)
set_option maxRecDepth 20000 in
theorem gX2_tail_X2_takeAsAction : GoodIn wsX2_tail (wsV RX2 33 RX2 yX2_takeAsAction wsX2_takeAsAction) := goodIn_app (goodIn_of _ (by decide +kernel)) ggX2_tail_X2_takeAsAction
theorem dX2_tail_0 : decode cX2_tail 0 = .ok (.aload_n 0, 1) := by decide +kernel
theorem dX2_tail_1 : decode cX2_tail 1 = .ok (.iconst 1, 1) := by decide +kernel
theorem dX2_tail_2 : decode cX2_tail 2 = .ok (.iload_n 1, 1) := by decide +kernel
theorem dX2_tail_3 : decode cX2_tail 3 = .ok (.iconst 0, 1) := by decide +kernel
theorem dX2_tail_4 : decode cX2_tail 4 = .ok (.invokevirtual 33, 3) := by decide +kernel
theorem dX2_tail_7 : decode cX2_tail 7 = .ok (.ireturn, 1) := by decide +kernel
set_option maxRecDepth 20000 in
theorem ggX2_ret_X2_takeAsAction : GoodIn wsX2_ret wsX2_takeAsAction := goodIn_r _ [5, 6, 7, 8, 9, 10, 11, 12, 13, 14, 15, 16, 17, 18, 19, 20, 21, 22, 23, 24, 25, 26, 27, 28, 29, 30, 31, 32, 33, 34, 35, 36, 37, 38, 39, 40, 41, 42, 43, 44, 45, 46, 47, 48, 49, 50, 51, 52, 53, 54, 55, 56, 57, 58, 59, 60, 61, 62, 63, 64, 65, 66, 67, 68, 69, 70, 71, 72, 73, 74, 75, 76, 77, 78, 79, 80, 81, 82, 83, 84, 85, 86, 87, 88, 89, 90, 91, 92, 93, 94, 95, 96, 97, 4, 98, 99, 100, 101, 102, 103, 104, 105, 106, 107, 108, 109, 110, 111, 112, 113, 114, 115, 116, 117, 118, 119, 120, 121, 122, 123, 124] (by decide +kernel) (by decide +kernel)
set_option maxRecDepth 20000 in
theorem gX2_ret_X2_takeAsAction : GoodIn wsX2_ret (wsV RX2 33 RX2 yX2_takeAsAction wsX2_takeAsAction) := goodIn_app (goodIn_of _ (by decide +kernel)) ggX2_ret_X2_takeAsAction
theorem dX2_ret_0 : decode cX2_ret 0 = .ok (.aload_n 0, 1) := by decide +kernel
theorem dX2_ret_1 : decode cX2_ret 1 = .ok (.iconst 2, 1) := by decide +kernel
theorem dX2_ret_2 : decode cX2_ret 2 = .ok (.iconst 0, 1) := by decide +kernel
theorem dX2_ret_3 : decode cX2_ret 3 = .ok (.iconst 0, 1) := by decide +kernel
theorem dX2_ret_4 : decode cX2_ret 4 = .ok (.invokevirtual 33, 3) := by decide +kernel
theorem dX2_ret_7 : decode cX2_ret 7 = .ok (.ireturn, 1) := by decide +kernel
set_option maxRecDepth 20000 in
theorem ggX2_raise_X2_takeAsAction : GoodIn wsX2_raise wsX2_takeAsAction := goodIn_r _ [5, 6, 7, 8, 9, 10, 11, 12, 13, 14, 15, 16, 17, 18, 19, 20, 21, 22, 23, 24, 25, 26, 27, 28, 29, 30, 31, 32, 33, 34, 35, 36, 37, 38, 39, 40, 41, 42, 43, 44, 45, 46, 47, 48, 49, 50, 51, 52, 53, 54, 55, 56, 57, 58, 59, 60, 61, 62, 63, 64, 65, 66, 67, 68, 69, 70, 71, 72, 73, 74, 75, 76, 77, 78, 79, 80, 81, 82, 83, 84, 85, 86, 87, 88, 89, 90, 91, 92, 93, 94, 95, 96, 97, 4, 98, 99, 100, 101, 102, 103, 104, 105, 106, 107, 108, 109, 110, 111, 112, 113, 114, 115, 116, 117, 118, 119, 120, 121, 122, 123, 124] (by decide +kernel) (by decide +kernel)
set_option maxRecDepth 20000 in
theorem gX2_raise_X2_takeAsAction : GoodIn wsX2_raise (wsV RX2 33 RX2 yX2_takeAsAction wsX2_takeAsAction) := goodIn_app (goodIn_of _ (by decide +kernel)) ggX2_raise_X2_takeAsAction
theorem dX2_raise_0 : decode cX2_raise 0 = .ok (.aload_n 0, 1) := by decide +kernel
theorem dX2_raise_1 : decode cX2_raise 1 = .ok (.iconst 3, 1) := by decide +kernel
theorem dX2_raise_2 : decode cX2_raise 2 = .ok (.iconst 0, 1) := by decide +kernel
theorem dX2_raise_3 : decode cX2_raise 3 = .ok (.iload_n 1, 1) := by decide +kernel
theorem dX2_raise_4 : decode cX2_raise 4 = .ok (.invokevirtual 33, 3) := by decide +kernel
theorem dX2_raise_7 : decode cX2_raise 7 = .ok (.ireturn, 1) := by decide +kernel
set_option maxRecDepth 20000 in
theorem ggX2_setRepair_X2_record : GoodIn wsX2_setRepair wsX2_record := goodIn_r _ [7, 8, 9, 10, 11, 12, 6, 13, 14, 15, 16, 17, 18, 19, 20, 21, 22, 23, 24, 25, 26, 27, 28, 29, 30, 31, 32, 33, 34, 35, 36, 37, 38, 39, 40, 41, 42, 43, 44, 45, 46, 47, 48, 49, 50, 51, 52, 53, 54, 55, 56, 57, 58, 59] (by decide +kernel) (by decide +kernel)
set_option maxRecDepth 20000 in
theorem gX2_setRepair_X2_record : GoodIn wsX2_setRepair (wsV RX2 37 RX2 yX2_record wsX2_record) := goodIn_app (goodIn_of _ (by decide +kernel)) ggX2_setRepair_X2_record
theorem dX2_setRepair_0 : decode cX2_setRepair 0 = .ok (.iload_n 1, 1) := by decide +kernel
theorem dX2_setRepair_1 : decode cX2_setRepair 1 = .ok (.ifCond .lt 8, 3) := by decide +kernel
theorem dX2_setRepair_4 : decode cX2_setRepair 4 = .ok (.iload_n 1, 1) := by decide +kernel
theorem dX2_setRepair_5 : decode cX2_setRepair 5 = .ok (.iconst 1, 1) := by decide +kernel
theorem dX2_setRepair_6 : decode cX2_setRepair 6 = .ok (.if_icmp .le 5, 3) := by decide +kernel
theorem dX2_setRepair_9 : decode cX2_setRepair 9 = .ok (.iconst (-1), 1) := by decide +kernel
theorem dX2_setRepair_10 : decode cX2_setRepair 10 = .ok (.ireturn, 1) := by decide +kernel
theorem dX2_setRepair_11 : decode cX2_setRepair 11 = .ok (.aload_n 0, 1) := by decide +kernel
theorem dX2_setRepair_12 : decode cX2_setRepair 12 = .ok (.aload_n 0, 1) := by decide +kernel
theorem dX2_setRepair_13 : decode cX2_setRepair 13 = .ok (.getfield 10, 3) := by decide +kernel
theorem dX2_setRepair_16 : decode cX2_setRepair 16 = .ok (.invokevirtual 37, 3) := by decide +kernel
theorem dX2_setRepair_19 : decode cX2_setRepair 19 = .ok (.aload_n 0, 1) := by decide +kernel
theorem dX2_setRepair_20 : decode cX2_setRepair 20 = .ok (.getfield 10, 3) := by decide +kernel
theorem dX2_setRepair_23 : decode cX2_setRepair 23 = .ok (.getfield 41, 3) := by decide +kernel
theorem dX2_setRepair_26 : decode cX2_setRepair 26 = .ok (.istore_n 2, 1) := by decide +kernel
theorem dX2_setRepair_27 : decode cX2_setRepair 27 = .ok (.aload_n 0, 1) := by decide +kernel
theorem dX2_setRepair_28 : decode cX2_setRepair 28 = .ok (.getfield 10, 3) := by decide +kernel
theorem dX2_setRepair_31 : decode cX2_setRepair 31 = .ok (.iload_n 1, 1) := by decide +kernel
theorem dX2_setRepair_32 : decode cX2_setRepair 32 = .ok (.putfield 41, 3) := by decide +kernel
theorem dX2_setRepair_35 : decode cX2_setRepair 35 = .ok (.iload_n 2, 1) := by decide +kernel
theorem dX2_setRepair_36 : decode cX2_setRepair 36 = .ok (.ireturn, 1) := by decide +kernel
set_option maxRecDepth 20000 in
theorem ggX2_begin_X2_isSize : GoodIn wsX2_begin wsX2_isSize := goodIn_r _ [6] (by decide +kernel) (by decide +kernel)
set_option maxRecDepth 20000 in
theorem gX2_begin_X2_isSize : GoodIn wsX2_begin (va_wsS RX2 45 yX2_isSize wsX2_isSize) := goodIn_app (goodIn_of _ (by decide +kernel)) ggX2_begin_X2_isSize
set_option maxRecDepth 20000 in
theorem ggX2_begin_X2_record : GoodIn wsX2_begin wsX2_record := goodIn_r _ [10, 11, 12, 13, 14, 15, 5, 16, 17, 18, 19, 20, 21, 22, 23, 24, 25, 26, 27, 28, 29, 30, 31, 32, 33, 34, 35, 36, 37, 38, 39, 40, 41, 42, 51, 52, 53, 54, 55, 56, 57, 58, 59, 60, 61, 62, 63, 64, 65, 66, 67, 68, 69, 70] (by decide +kernel) (by decide +kernel)
set_option maxRecDepth 20000 in
theorem gX2_begin_X2_record : GoodIn wsX2_begin (wsV RX2 37 RX2 yX2_record wsX2_record) := goodIn_app (goodIn_of _ (by decide +kernel)) ggX2_begin_X2_record
set_option maxRecDepth 20000 in
theorem ggX2_begin_X0_beginAnew : GoodIn wsX2_begin wsX0_beginAnew := goodIn_r _ [46, 23, 24, 25, 26, 27, 28, 29, 34, 35, 37, 47, 48, 49, 50, 57, 58, 59, 60, 61, 62, 63, 64, 65, 66, 67, 68, 69, 70] (by decide +kernel) (by decide +kernel)
set_option maxRecDepth 20000 in
theorem gX2_begin_X0_beginAnew : GoodIn wsX2_begin (wsV RX2 52 RX0 yX0_beginAnew wsX0_beginAnew) := goodIn_app (goodIn_of _ (by decide +kernel)) ggX2_begin_X0_beginAnew
theorem dX2_begin_0 : decode cX2_begin 0 = .ok (.iload_n 1, 1) := by decide +kernel
theorem dX2_begin_1 : decode cX2_begin 1 = .ok (.invokestatic 45, 3) := by decide +kernel
theorem dX2_begin_4 : decode cX2_begin 4 = .ok (.ifCond .ne 5, 3) := by decide +kernel
theorem dX2_begin_7 : decode cX2_begin 7 = .ok (.iconst (-1), 1) := by decide +kernel
theorem dX2_begin_8 : decode cX2_begin 8 = .ok (.ireturn, 1) := by decide +kernel
theorem dX2_begin_9 : decode cX2_begin 9 = .ok (.aload_n 0, 1) := by decide +kernel
theorem dX2_begin_10 : decode cX2_begin 10 = .ok (.aload_n 0, 1) := by decide +kernel
theorem dX2_begin_11 : decode cX2_begin 11 = .ok (.getfield 10, 3) := by decide +kernel
theorem dX2_begin_14 : decode cX2_begin 14 = .ok (.invokevirtual 37, 3) := by decide +kernel
theorem dX2_begin_17 : decode cX2_begin 17 = .ok (.aload_n 0, 1) := by decide +kernel
theorem dX2_begin_18 : decode cX2_begin 18 = .ok (.getfield 10, 3) := by decide +kernel
theorem dX2_begin_21 : decode cX2_begin 21 = .ok (.getfield 49, 3) := by decide +kernel
theorem dX2_begin_24 : decode cX2_begin 24 = .ok (.istore_n 2, 1) := by decide +kernel
theorem dX2_begin_25 : decode cX2_begin 25 = .ok (.aload_n 0, 1) := by decide +kernel
theorem dX2_begin_26 : decode cX2_begin 26 = .ok (.getfield 10, 3) := by decide +kernel
theorem dX2_begin_29 : decode cX2_begin 29 = .ok (.iload_n 1, 1) := by decide +kernel
theorem dX2_begin_30 : decode cX2_begin 30 = .ok (.invokevirtual 52, 3) := by decide +kernel
theorem dX2_begin_33 : decode cX2_begin 33 = .ok (.iload_n 2, 1) := by decide +kernel
theorem dX2_begin_34 : decode cX2_begin 34 = .ok (.ireturn, 1) := by decide +kernel
set_option maxRecDepth 20000 in
theorem ggX2_undo_X0_copyFrom : GoodIn wsX2_undo wsX0_copyFrom := goodIn_r _ [8, 9, 10, 11, 12, 13, 14, 15, 16, 17, 18, 19, 20, 21, 22, 23, 24, 25, 26, 27, 28, 7, 29, 36, 37, 38, 39, 40, 41, 42, 43, 44, 45, 46, 47, 48, 49] (by decide +kernel) (by decide +kernel)
set_option maxRecDepth 20000 in
theorem gX2_undo_X0_copyFrom : GoodIn wsX2_undo (wsV RX2 59 RX0 yX0_copyFrom wsX0_copyFrom) := goodIn_app (goodIn_of _ (by decide +kernel)) ggX2_undo_X0_copyFrom
theorem dX2_undo_0 : decode cX2_undo 0 = .ok (.aload_n 0, 1) := by decide +kernel
theorem dX2_undo_1 : decode cX2_undo 1 = .ok (.getfield 56, 3) := by decide +kernel
theorem dX2_undo_4 : decode cX2_undo 4 = .ok (.ifCond .ne 6, 3) := by decide +kernel
theorem dX2_undo_7 : decode cX2_undo 7 = .ok (.bipush (-2), 2) := by decide +kernel
theorem dX2_undo_9 : decode cX2_undo 9 = .ok (.ireturn, 1) := by decide +kernel
theorem dX2_undo_10 : decode cX2_undo 10 = .ok (.aload_n 0, 1) := by decide +kernel
theorem dX2_undo_11 : decode cX2_undo 11 = .ok (.dup, 1) := by decide +kernel
theorem dX2_undo_12 : decode cX2_undo 12 = .ok (.getfield 56, 3) := by decide +kernel
theorem dX2_undo_15 : decode cX2_undo 15 = .ok (.iconst 1, 1) := by decide +kernel
theorem dX2_undo_16 : decode cX2_undo 16 = .ok (.isub, 1) := by decide +kernel
theorem dX2_undo_17 : decode cX2_undo 17 = .ok (.putfield 56, 3) := by decide +kernel
theorem dX2_undo_20 : decode cX2_undo 20 = .ok (.aload_n 0, 1) := by decide +kernel
theorem dX2_undo_21 : decode cX2_undo 21 = .ok (.getfield 10, 3) := by decide +kernel
theorem dX2_undo_24 : decode cX2_undo 24 = .ok (.aload_n 0, 1) := by decide +kernel
theorem dX2_undo_25 : decode cX2_undo 25 = .ok (.getfield 22, 3) := by decide +kernel
theorem dX2_undo_28 : decode cX2_undo 28 = .ok (.aload_n 0, 1) := by decide +kernel
theorem dX2_undo_29 : decode cX2_undo 29 = .ok (.getfield 56, 3) := by decide +kernel
theorem dX2_undo_32 : decode cX2_undo 32 = .ok (.aaload, 1) := by decide +kernel
theorem dX2_undo_33 : decode cX2_undo 33 = .ok (.invokevirtual 59, 3) := by decide +kernel
theorem dX2_undo_36 : decode cX2_undo 36 = .ok (.aload_n 0, 1) := by decide +kernel
theorem dX2_undo_37 : decode cX2_undo 37 = .ok (.getfield 56, 3) := by decide +kernel
theorem dX2_undo_40 : decode cX2_undo 40 = .ok (.ireturn, 1) := by decide +kernel
set_option maxRecDepth 20000 in
theorem ggX2_append_X1_add : GoodIn wsX2_append wsX1_add := goodIn_r _ [7, 8, 9, 16, 17, 18] (by decide +kernel) (by decide +kernel)
set_option maxRecDepth 20000 in
theorem gX2_append_X1_add : GoodIn wsX2_append (wsV RX2 65 RX1 yX1_add wsX1_add) := goodIn_app (goodIn_of _ (by decide +kernel)) ggX2_append_X1_add
theorem dX2_append_0 : decode cX2_append 0 = .ok (.iload_n 1, 1) := by decide +kernel
theorem dX2_append_1 : decode cX2_append 1 = .ok (.iconst 1, 1) := by decide +kernel
theorem dX2_append_2 : decode cX2_append 2 = .ok (.if_icmp .lt 10, 3) := by decide +kernel
theorem dX2_append_5 : decode cX2_append 5 = .ok (.iload_n 1, 1) := by decide +kernel
theorem dX2_append_6 : decode cX2_append 6 = .ok (.sipush 255, 3) := by decide +kernel
theorem dX2_append_9 : decode cX2_append 9 = .ok (.if_icmp .le 5, 3) := by decide +kernel
theorem dX2_append_12 : decode cX2_append 12 = .ok (.iconst (-1), 1) := by decide +kernel
theorem dX2_append_13 : decode cX2_append 13 = .ok (.ireturn, 1) := by decide +kernel
theorem dX2_append_14 : decode cX2_append 14 = .ok (.aload_n 0, 1) := by decide +kernel
theorem dX2_append_15 : decode cX2_append 15 = .ok (.getfield 29, 3) := by decide +kernel
theorem dX2_append_18 : decode cX2_append 18 = .ok (.getfield 62, 3) := by decide +kernel
theorem dX2_append_21 : decode cX2_append 21 = .ok (.bipush 120, 2) := by decide +kernel
theorem dX2_append_23 : decode cX2_append 23 = .ok (.if_icmp .ne 6, 3) := by decide +kernel
theorem dX2_append_26 : decode cX2_append 26 = .ok (.bipush (-3), 2) := by decide +kernel
theorem dX2_append_28 : decode cX2_append 28 = .ok (.ireturn, 1) := by decide +kernel
theorem dX2_append_29 : decode cX2_append 29 = .ok (.aload_n 0, 1) := by decide +kernel
theorem dX2_append_30 : decode cX2_append 30 = .ok (.getfield 29, 3) := by decide +kernel
theorem dX2_append_33 : decode cX2_append 33 = .ok (.iload_n 1, 1) := by decide +kernel
theorem dX2_append_34 : decode cX2_append 34 = .ok (.invokevirtual 65, 3) := by decide +kernel
theorem dX2_append_37 : decode cX2_append 37 = .ok (.aload_n 0, 1) := by decide +kernel
theorem dX2_append_38 : decode cX2_append 38 = .ok (.getfield 29, 3) := by decide +kernel
theorem dX2_append_41 : decode cX2_append 41 = .ok (.getfield 62, 3) := by decide +kernel
theorem dX2_append_44 : decode cX2_append 44 = .ok (.ireturn, 1) := by decide +kernel
theorem dX2_clearText_0 : decode cX2_clearText 0 = .ok (.aload_n 0, 1) := by decide +kernel
theorem dX2_clearText_1 : decode cX2_clearText 1 = .ok (.getfield 29, 3) := by decide +kernel
theorem dX2_clearText_4 : decode cX2_clearText 4 = .ok (.getfield 62, 3) := by decide +kernel
theorem dX2_clearText_7 : decode cX2_clearText 7 = .ok (.istore_n 1, 1) := by decide +kernel
theorem dX2_clearText_8 : decode cX2_clearText 8 = .ok (.aload_n 0, 1) := by decide +kernel
theorem dX2_clearText_9 : decode cX2_clearText 9 = .ok (.getfield 29, 3) := by decide +kernel
theorem dX2_clearText_12 : decode cX2_clearText 12 = .ok (.iconst 0, 1) := by decide +kernel
theorem dX2_clearText_13 : decode cX2_clearText 13 = .ok (.putfield 62, 3) := by decide +kernel
theorem dX2_clearText_16 : decode cX2_clearText 16 = .ok (.iload_n 1, 1) := by decide +kernel
theorem dX2_clearText_17 : decode cX2_clearText 17 = .ok (.ireturn, 1) := by decide +kernel
set_option maxRecDepth 20000 in
theorem ggX2_run_X0_copyFrom : GoodIn wsX2_run wsX0_copyFrom := goodIn_r _ [10, 11, 12, 13, 14, 15, 16, 17, 18, 19, 20, 21, 22, 23, 24, 25, 26, 27, 28, 29, 30, 9, 31, 153, 154, 155, 156, 157, 158, 159, 160, 161, 162, 163, 164, 165, 166] (by decide +kernel) (by decide +kernel)
set_option maxRecDepth 20000 in
theorem gX2_run_X0_copyFrom : GoodIn wsX2_run (wsV RX2 59 RX0 yX0_copyFrom wsX0_copyFrom) := goodIn_app (goodIn_of _ (by decide +kernel)) ggX2_run_X0_copyFrom
set_option maxRecDepth 20000 in
theorem ggX2_run_X2_takeStepsOfText : GoodIn wsX2_run wsX2_takeStepsOfText := goodIn_r _ [36, 3, 4, 37, 38, 39, 40, 41, 42, 43, 44, 45, 46, 47, 48, 49, 50, 51, 35, 52, 2, 53, 54, 55, 56, 57, 58, 59, 60, 61, 62, 63, 64, 65, 66, 67, 68, 69, 70, 71, 72, 73, 74, 75, 9, 76, 77, 78, 79, 80, 14, 16, 81, 82, 83, 84, 85, 86, 87, 88, 89, 90, 18, 13, 12, 26, 25, 15, 91, 92, 93, 94, 95, 96, 97, 98, 99, 100, 101, 102, 103, 104, 105, 106, 107, 108, 109, 110, 23, 111, 112, 113, 114, 115, 116, 117, 118, 28, 19, 20, 21, 22, 17, 119, 120, 121, 24, 122, 123, 124, 125, 126, 127, 128, 129, 11, 130, 131, 132, 133, 27, 144, 145, 146, 147, 148, 149, 150, 151, 152, 153, 154, 155, 156, 157, 158, 159, 160, 161, 162, 163, 164, 165, 166] (by decide +kernel) (by decide +kernel)
set_option maxRecDepth 20000 in
theorem gX2_run_X2_takeStepsOfText : GoodIn wsX2_run (wsV RX2 68 RX2 yX2_takeStepsOfText wsX2_takeStepsOfText) := goodIn_app (goodIn_of _ (by decide +kernel)) ggX2_run_X2_takeStepsOfText
set_option maxRecDepth 20000 in
theorem ggX2_run_X2_record : GoodIn wsX2_run wsX2_record := goodIn_r _ [137, 138, 139, 140, 141, 142, 35, 143, 6, 7, 8, 9, 10, 11, 12, 13, 14, 15, 16, 17, 18, 19, 20, 21, 22, 23, 24, 25, 26, 27, 28, 29, 30, 31, 144, 145, 146, 147, 148, 149, 153, 154, 155, 156, 157, 158, 159, 160, 161, 162, 163, 164, 165, 166] (by decide +kernel) (by decide +kernel)
set_option maxRecDepth 20000 in
theorem gX2_run_X2_record : GoodIn wsX2_run (wsV RX2 37 RX2 yX2_record wsX2_record) := goodIn_app (goodIn_of _ (by decide +kernel)) ggX2_run_X2_record
theorem dX2_run_0 : decode cX2_run 0 = .ok (.aload_n 0, 1) := by decide +kernel
theorem dX2_run_1 : decode cX2_run 1 = .ok (.getfield 16, 3) := by decide +kernel
theorem dX2_run_4 : decode cX2_run 4 = .ok (.aload_n 0, 1) := by decide +kernel
theorem dX2_run_5 : decode cX2_run 5 = .ok (.getfield 10, 3) := by decide +kernel
theorem dX2_run_8 : decode cX2_run 8 = .ok (.invokevirtual 59, 3) := by decide +kernel
theorem dX2_run_11 : decode cX2_run 11 = .ok (.aload_n 0, 1) := by decide +kernel
theorem dX2_run_12 : decode cX2_run 12 = .ok (.invokevirtual 68, 3) := by decide +kernel
theorem dX2_run_15 : decode cX2_run 15 = .ok (.istore_n 1, 1) := by decide +kernel
theorem dX2_run_16 : decode cX2_run 16 = .ok (.iload_n 1, 1) := by decide +kernel
theorem dX2_run_17 : decode cX2_run 17 = .ok (.ifCond .ge 26, 3) := by decide +kernel
theorem dX2_run_20 : decode cX2_run 20 = .ok (.aload_n 0, 1) := by decide +kernel
theorem dX2_run_21 : decode cX2_run 21 = .ok (.getfield 10, 3) := by decide +kernel
theorem dX2_run_24 : decode cX2_run 24 = .ok (.aload_n 0, 1) := by decide +kernel
theorem dX2_run_25 : decode cX2_run 25 = .ok (.getfield 16, 3) := by decide +kernel
theorem dX2_run_28 : decode cX2_run 28 = .ok (.invokevirtual 59, 3) := by decide +kernel
theorem dX2_run_31 : decode cX2_run 31 = .ok (.sipush (-1000), 3) := by decide +kernel
theorem dX2_run_34 : decode cX2_run 34 = .ok (.aload_n 0, 1) := by decide +kernel
theorem dX2_run_35 : decode cX2_run 35 = .ok (.getfield 29, 3) := by decide +kernel
theorem dX2_run_38 : decode cX2_run 38 = .ok (.getfield 72, 3) := by decide +kernel
theorem dX2_run_41 : decode cX2_run 41 = .ok (.isub, 1) := by decide +kernel
theorem dX2_run_42 : decode cX2_run 42 = .ok (.ireturn, 1) := by decide +kernel
theorem dX2_run_43 : decode cX2_run 43 = .ok (.aload_n 0, 1) := by decide +kernel
theorem dX2_run_44 : decode cX2_run 44 = .ok (.aload_n 0, 1) := by decide +kernel
theorem dX2_run_45 : decode cX2_run 45 = .ok (.getfield 16, 3) := by decide +kernel
theorem dX2_run_48 : decode cX2_run 48 = .ok (.invokevirtual 37, 3) := by decide +kernel
theorem dX2_run_51 : decode cX2_run 51 = .ok (.aload_n 0, 1) := by decide +kernel
theorem dX2_run_52 : decode cX2_run 52 = .ok (.getfield 29, 3) := by decide +kernel
theorem dX2_run_55 : decode cX2_run 55 = .ok (.iconst 0, 1) := by decide +kernel
theorem dX2_run_56 : decode cX2_run 56 = .ok (.putfield 62, 3) := by decide +kernel
theorem dX2_run_59 : decode cX2_run 59 = .ok (.iload_n 1, 1) := by decide +kernel
theorem dX2_run_60 : decode cX2_run 60 = .ok (.ireturn, 1) := by decide +kernel
set_option maxRecDepth 20000 in
theorem ggX2_count_X0_overrunFrames : GoodIn wsX2_count wsX0_overrunFrames := goodIn_r _ [18, 19, 20, 21, 22, 17, 23, 24, 31, 32, 33, 34, 35, 36, 37, 38, 39, 40, 41, 42, 43, 44] (by decide +kernel) (by decide +kernel)
set_option maxRecDepth 20000 in
theorem gX2_count_X0_overrunFrames : GoodIn wsX2_count (wsV RX2 97 RX0 yX0_overrunFrames wsX0_overrunFrames) := goodIn_app (goodIn_of _ (by decide +kernel)) ggX2_count_X0_overrunFrames
theorem dX2_count_0 : decode cX2_count 0 = .ok (.iload_n 1, 1) := by decide +kernel
theorem dX2_count_1 : decode cX2_count 1 = .ok (.tableswitch 254 0 17 #[87, 95, 103, 113, 123, 133, 143, 163, 173, 183, 193, 201, 209, 217, 225, 233, 238, 246], 87) := by decide +kernel
theorem dX2_count_88 : decode cX2_count 88 = .ok (.aload_n 0, 1) := by decide +kernel
theorem dX2_count_89 : decode cX2_count 89 = .ok (.getfield 10, 3) := by decide +kernel
theorem dX2_count_92 : decode cX2_count 92 = .ok (.getfield 75, 3) := by decide +kernel
theorem dX2_count_95 : decode cX2_count 95 = .ok (.ireturn, 1) := by decide +kernel
theorem dX2_count_96 : decode cX2_count 96 = .ok (.aload_n 0, 1) := by decide +kernel
theorem dX2_count_97 : decode cX2_count 97 = .ok (.getfield 10, 3) := by decide +kernel
theorem dX2_count_100 : decode cX2_count 100 = .ok (.getfield 78, 3) := by decide +kernel
theorem dX2_count_103 : decode cX2_count 103 = .ok (.ireturn, 1) := by decide +kernel
theorem dX2_count_104 : decode cX2_count 104 = .ok (.aload_n 0, 1) := by decide +kernel
theorem dX2_count_105 : decode cX2_count 105 = .ok (.getfield 10, 3) := by decide +kernel
theorem dX2_count_108 : decode cX2_count 108 = .ok (.getfield 81, 3) := by decide +kernel
theorem dX2_count_111 : decode cX2_count 111 = .ok (.iconst 0, 1) := by decide +kernel
theorem dX2_count_112 : decode cX2_count 112 = .ok (.iaload, 1) := by decide +kernel
theorem dX2_count_113 : decode cX2_count 113 = .ok (.ireturn, 1) := by decide +kernel
theorem dX2_count_114 : decode cX2_count 114 = .ok (.aload_n 0, 1) := by decide +kernel
theorem dX2_count_115 : decode cX2_count 115 = .ok (.getfield 10, 3) := by decide +kernel
theorem dX2_count_118 : decode cX2_count 118 = .ok (.getfield 81, 3) := by decide +kernel
theorem dX2_count_121 : decode cX2_count 121 = .ok (.iconst 1, 1) := by decide +kernel
theorem dX2_count_122 : decode cX2_count 122 = .ok (.iaload, 1) := by decide +kernel
theorem dX2_count_123 : decode cX2_count 123 = .ok (.ireturn, 1) := by decide +kernel
theorem dX2_count_124 : decode cX2_count 124 = .ok (.aload_n 0, 1) := by decide +kernel
theorem dX2_count_125 : decode cX2_count 125 = .ok (.getfield 10, 3) := by decide +kernel
theorem dX2_count_128 : decode cX2_count 128 = .ok (.getfield 81, 3) := by decide +kernel
theorem dX2_count_131 : decode cX2_count 131 = .ok (.iconst 2, 1) := by decide +kernel
theorem dX2_count_132 : decode cX2_count 132 = .ok (.iaload, 1) := by decide +kernel
theorem dX2_count_133 : decode cX2_count 133 = .ok (.ireturn, 1) := by decide +kernel
theorem dX2_count_134 : decode cX2_count 134 = .ok (.aload_n 0, 1) := by decide +kernel
theorem dX2_count_135 : decode cX2_count 135 = .ok (.getfield 10, 3) := by decide +kernel
theorem dX2_count_138 : decode cX2_count 138 = .ok (.getfield 81, 3) := by decide +kernel
theorem dX2_count_141 : decode cX2_count 141 = .ok (.iconst 3, 1) := by decide +kernel
theorem dX2_count_142 : decode cX2_count 142 = .ok (.iaload, 1) := by decide +kernel
theorem dX2_count_143 : decode cX2_count 143 = .ok (.ireturn, 1) := by decide +kernel
theorem dX2_count_144 : decode cX2_count 144 = .ok (.aload_n 0, 1) := by decide +kernel
theorem dX2_count_145 : decode cX2_count 145 = .ok (.getfield 10, 3) := by decide +kernel
theorem dX2_count_148 : decode cX2_count 148 = .ok (.getfield 85, 3) := by decide +kernel
theorem dX2_count_151 : decode cX2_count 151 = .ok (.iconst 0, 1) := by decide +kernel
theorem dX2_count_152 : decode cX2_count 152 = .ok (.iaload, 1) := by decide +kernel
theorem dX2_count_153 : decode cX2_count 153 = .ok (.aload_n 0, 1) := by decide +kernel
theorem dX2_count_154 : decode cX2_count 154 = .ok (.getfield 10, 3) := by decide +kernel
theorem dX2_count_157 : decode cX2_count 157 = .ok (.getfield 85, 3) := by decide +kernel
theorem dX2_count_160 : decode cX2_count 160 = .ok (.iconst 1, 1) := by decide +kernel
theorem dX2_count_161 : decode cX2_count 161 = .ok (.iaload, 1) := by decide +kernel
theorem dX2_count_162 : decode cX2_count 162 = .ok (.iadd, 1) := by decide +kernel
theorem dX2_count_163 : decode cX2_count 163 = .ok (.ireturn, 1) := by decide +kernel
theorem dX2_count_164 : decode cX2_count 164 = .ok (.aload_n 0, 1) := by decide +kernel
theorem dX2_count_165 : decode cX2_count 165 = .ok (.getfield 10, 3) := by decide +kernel
theorem dX2_count_168 : decode cX2_count 168 = .ok (.getfield 85, 3) := by decide +kernel
theorem dX2_count_171 : decode cX2_count 171 = .ok (.iconst 1, 1) := by decide +kernel
theorem dX2_count_172 : decode cX2_count 172 = .ok (.iaload, 1) := by decide +kernel
theorem dX2_count_173 : decode cX2_count 173 = .ok (.ireturn, 1) := by decide +kernel
theorem dX2_count_174 : decode cX2_count 174 = .ok (.aload_n 0, 1) := by decide +kernel
theorem dX2_count_175 : decode cX2_count 175 = .ok (.getfield 10, 3) := by decide +kernel
theorem dX2_count_178 : decode cX2_count 178 = .ok (.getfield 85, 3) := by decide +kernel
theorem dX2_count_181 : decode cX2_count 181 = .ok (.iconst 2, 1) := by decide +kernel
theorem dX2_count_182 : decode cX2_count 182 = .ok (.iaload, 1) := by decide +kernel
theorem dX2_count_183 : decode cX2_count 183 = .ok (.ireturn, 1) := by decide +kernel
theorem dX2_count_184 : decode cX2_count 184 = .ok (.aload_n 0, 1) := by decide +kernel
theorem dX2_count_185 : decode cX2_count 185 = .ok (.getfield 10, 3) := by decide +kernel
theorem dX2_count_188 : decode cX2_count 188 = .ok (.getfield 85, 3) := by decide +kernel
theorem dX2_count_191 : decode cX2_count 191 = .ok (.iconst 3, 1) := by decide +kernel
theorem dX2_count_192 : decode cX2_count 192 = .ok (.iaload, 1) := by decide +kernel
theorem dX2_count_193 : decode cX2_count 193 = .ok (.ireturn, 1) := by decide +kernel
theorem dX2_count_194 : decode cX2_count 194 = .ok (.aload_n 0, 1) := by decide +kernel
theorem dX2_count_195 : decode cX2_count 195 = .ok (.getfield 10, 3) := by decide +kernel
theorem dX2_count_198 : decode cX2_count 198 = .ok (.getfield 88, 3) := by decide +kernel
theorem dX2_count_201 : decode cX2_count 201 = .ok (.ireturn, 1) := by decide +kernel
theorem dX2_count_202 : decode cX2_count 202 = .ok (.aload_n 0, 1) := by decide +kernel
theorem dX2_count_203 : decode cX2_count 203 = .ok (.getfield 10, 3) := by decide +kernel
theorem dX2_count_206 : decode cX2_count 206 = .ok (.getfield 49, 3) := by decide +kernel
theorem dX2_count_209 : decode cX2_count 209 = .ok (.ireturn, 1) := by decide +kernel
theorem dX2_count_210 : decode cX2_count 210 = .ok (.aload_n 0, 1) := by decide +kernel
theorem dX2_count_211 : decode cX2_count 211 = .ok (.getfield 10, 3) := by decide +kernel
theorem dX2_count_214 : decode cX2_count 214 = .ok (.getfield 91, 3) := by decide +kernel
theorem dX2_count_217 : decode cX2_count 217 = .ok (.ireturn, 1) := by decide +kernel
theorem dX2_count_218 : decode cX2_count 218 = .ok (.aload_n 0, 1) := by decide +kernel
theorem dX2_count_219 : decode cX2_count 219 = .ok (.getfield 10, 3) := by decide +kernel
theorem dX2_count_222 : decode cX2_count 222 = .ok (.getfield 94, 3) := by decide +kernel
theorem dX2_count_225 : decode cX2_count 225 = .ok (.ireturn, 1) := by decide +kernel
theorem dX2_count_226 : decode cX2_count 226 = .ok (.aload_n 0, 1) := by decide +kernel
theorem dX2_count_227 : decode cX2_count 227 = .ok (.getfield 10, 3) := by decide +kernel
theorem dX2_count_230 : decode cX2_count 230 = .ok (.getfield 41, 3) := by decide +kernel
theorem dX2_count_233 : decode cX2_count 233 = .ok (.ireturn, 1) := by decide +kernel
theorem dX2_count_234 : decode cX2_count 234 = .ok (.aload_n 0, 1) := by decide +kernel
theorem dX2_count_235 : decode cX2_count 235 = .ok (.getfield 56, 3) := by decide +kernel
theorem dX2_count_238 : decode cX2_count 238 = .ok (.ireturn, 1) := by decide +kernel
theorem dX2_count_239 : decode cX2_count 239 = .ok (.aload_n 0, 1) := by decide +kernel
theorem dX2_count_240 : decode cX2_count 240 = .ok (.getfield 29, 3) := by decide +kernel
theorem dX2_count_243 : decode cX2_count 243 = .ok (.getfield 62, 3) := by decide +kernel
theorem dX2_count_246 : decode cX2_count 246 = .ok (.ireturn, 1) := by decide +kernel
theorem dX2_count_247 : decode cX2_count 247 = .ok (.aload_n 0, 1) := by decide +kernel
theorem dX2_count_248 : decode cX2_count 248 = .ok (.getfield 10, 3) := by decide +kernel
theorem dX2_count_251 : decode cX2_count 251 = .ok (.invokevirtual 97, 3) := by decide +kernel
theorem dX2_count_254 : decode cX2_count 254 = .ok (.ireturn, 1) := by decide +kernel
theorem dX2_count_255 : decode cX2_count 255 = .ok (.iconst (-1), 1) := by decide +kernel
theorem dX2_count_256 : decode cX2_count 256 = .ok (.ireturn, 1) := by decide +kernel
theorem dX2_frame_0 : decode cX2_frame 0 = .ok (.iload_n 1, 1) := by decide +kernel
theorem dX2_frame_1 : decode cX2_frame 1 = .ok (.ifCond .lt 23, 3) := by decide +kernel
theorem dX2_frame_4 : decode cX2_frame 4 = .ok (.iload_n 1, 1) := by decide +kernel
theorem dX2_frame_5 : decode cX2_frame 5 = .ok (.aload_n 0, 1) := by decide +kernel
theorem dX2_frame_6 : decode cX2_frame 6 = .ok (.getfield 10, 3) := by decide +kernel
theorem dX2_frame_9 : decode cX2_frame 9 = .ok (.getfield 75, 3) := by decide +kernel
theorem dX2_frame_12 : decode cX2_frame 12 = .ok (.if_icmp .ge 12, 3) := by decide +kernel
theorem dX2_frame_15 : decode cX2_frame 15 = .ok (.iload_n 2, 1) := by decide +kernel
theorem dX2_frame_16 : decode cX2_frame 16 = .ok (.ifCond .lt 8, 3) := by decide +kernel
theorem dX2_frame_19 : decode cX2_frame 19 = .ok (.iload_n 2, 1) := by decide +kernel
theorem dX2_frame_20 : decode cX2_frame 20 = .ok (.iconst 5, 1) := by decide +kernel
theorem dX2_frame_21 : decode cX2_frame 21 = .ok (.if_icmp .lt 5, 3) := by decide +kernel
theorem dX2_frame_24 : decode cX2_frame 24 = .ok (.iconst (-1), 1) := by decide +kernel
theorem dX2_frame_25 : decode cX2_frame 25 = .ok (.ireturn, 1) := by decide +kernel
theorem dX2_frame_26 : decode cX2_frame 26 = .ok (.aload_n 0, 1) := by decide +kernel
theorem dX2_frame_27 : decode cX2_frame 27 = .ok (.getfield 10, 3) := by decide +kernel
theorem dX2_frame_30 : decode cX2_frame 30 = .ok (.getfield 100, 3) := by decide +kernel
theorem dX2_frame_33 : decode cX2_frame 33 = .ok (.iload_n 2, 1) := by decide +kernel
theorem dX2_frame_34 : decode cX2_frame 34 = .ok (.aaload, 1) := by decide +kernel
theorem dX2_frame_35 : decode cX2_frame 35 = .ok (.aload_n 0, 1) := by decide +kernel
theorem dX2_frame_36 : decode cX2_frame 36 = .ok (.getfield 10, 3) := by decide +kernel
theorem dX2_frame_39 : decode cX2_frame 39 = .ok (.getfield 75, 3) := by decide +kernel
theorem dX2_frame_42 : decode cX2_frame 42 = .ok (.iconst 1, 1) := by decide +kernel
theorem dX2_frame_43 : decode cX2_frame 43 = .ok (.isub, 1) := by decide +kernel
theorem dX2_frame_44 : decode cX2_frame 44 = .ok (.iload_n 1, 1) := by decide +kernel
theorem dX2_frame_45 : decode cX2_frame 45 = .ok (.isub, 1) := by decide +kernel
theorem dX2_frame_46 : decode cX2_frame 46 = .ok (.iaload, 1) := by decide +kernel
theorem dX2_frame_47 : decode cX2_frame 47 = .ok (.ireturn, 1) := by decide +kernel
theorem dX2_slot_0 : decode cX2_slot 0 = .ok (.iload_n 1, 1) := by decide +kernel
theorem dX2_slot_1 : decode cX2_slot 1 = .ok (.ifCond .lt 23, 3) := by decide +kernel
theorem dX2_slot_4 : decode cX2_slot 4 = .ok (.iload_n 1, 1) := by decide +kernel
theorem dX2_slot_5 : decode cX2_slot 5 = .ok (.aload_n 0, 1) := by decide +kernel
theorem dX2_slot_6 : decode cX2_slot 6 = .ok (.getfield 10, 3) := by decide +kernel
theorem dX2_slot_9 : decode cX2_slot 9 = .ok (.getfield 49, 3) := by decide +kernel
theorem dX2_slot_12 : decode cX2_slot 12 = .ok (.if_icmp .ge 12, 3) := by decide +kernel
theorem dX2_slot_15 : decode cX2_slot 15 = .ok (.iload_n 2, 1) := by decide +kernel
theorem dX2_slot_16 : decode cX2_slot 16 = .ok (.ifCond .lt 8, 3) := by decide +kernel
theorem dX2_slot_19 : decode cX2_slot 19 = .ok (.iload_n 2, 1) := by decide +kernel
theorem dX2_slot_20 : decode cX2_slot 20 = .ok (.iconst 3, 1) := by decide +kernel
theorem dX2_slot_21 : decode cX2_slot 21 = .ok (.if_icmp .lt 5, 3) := by decide +kernel
theorem dX2_slot_24 : decode cX2_slot 24 = .ok (.iconst (-1), 1) := by decide +kernel
theorem dX2_slot_25 : decode cX2_slot 25 = .ok (.ireturn, 1) := by decide +kernel
theorem dX2_slot_26 : decode cX2_slot 26 = .ok (.aload_n 0, 1) := by decide +kernel
theorem dX2_slot_27 : decode cX2_slot 27 = .ok (.getfield 10, 3) := by decide +kernel
theorem dX2_slot_30 : decode cX2_slot 30 = .ok (.getfield 104, 3) := by decide +kernel
theorem dX2_slot_33 : decode cX2_slot 33 = .ok (.iload_n 2, 1) := by decide +kernel
theorem dX2_slot_34 : decode cX2_slot 34 = .ok (.aaload, 1) := by decide +kernel
theorem dX2_slot_35 : decode cX2_slot 35 = .ok (.iload_n 1, 1) := by decide +kernel
theorem dX2_slot_36 : decode cX2_slot 36 = .ok (.iaload, 1) := by decide +kernel
theorem dX2_slot_37 : decode cX2_slot 37 = .ok (.ireturn, 1) := by decide +kernel
theorem dX2_confession_0 : decode cX2_confession 0 = .ok (.iload_n 1, 1) := by decide +kernel
theorem dX2_confession_1 : decode cX2_confession 1 = .ok (.ifCond .lt 13, 3) := by decide +kernel
theorem dX2_confession_4 : decode cX2_confession 4 = .ok (.iload_n 2, 1) := by decide +kernel
theorem dX2_confession_5 : decode cX2_confession 5 = .ok (.ifCond .lt 9, 3) := by decide +kernel
theorem dX2_confession_8 : decode cX2_confession 8 = .ok (.iload_n 2, 1) := by decide +kernel
theorem dX2_confession_9 : decode cX2_confession 9 = .ok (.bipush 6, 2) := by decide +kernel
theorem dX2_confession_11 : decode cX2_confession 11 = .ok (.if_icmp .lt 5, 3) := by decide +kernel
theorem dX2_confession_14 : decode cX2_confession 14 = .ok (.iconst (-1), 1) := by decide +kernel
theorem dX2_confession_15 : decode cX2_confession 15 = .ok (.ireturn, 1) := by decide +kernel
theorem dX2_confession_16 : decode cX2_confession 16 = .ok (.iload_n 1, 1) := by decide +kernel
theorem dX2_confession_17 : decode cX2_confession 17 = .ok (.aload_n 0, 1) := by decide +kernel
theorem dX2_confession_18 : decode cX2_confession 18 = .ok (.getfield 10, 3) := by decide +kernel
theorem dX2_confession_21 : decode cX2_confession 21 = .ok (.getfield 88, 3) := by decide +kernel
theorem dX2_confession_24 : decode cX2_confession 24 = .ok (.if_icmp .lt 6, 3) := by decide +kernel
theorem dX2_confession_27 : decode cX2_confession 27 = .ok (.bipush (-9), 2) := by decide +kernel
theorem dX2_confession_29 : decode cX2_confession 29 = .ok (.ireturn, 1) := by decide +kernel
theorem dX2_confession_30 : decode cX2_confession 30 = .ok (.aload_n 0, 1) := by decide +kernel
theorem dX2_confession_31 : decode cX2_confession 31 = .ok (.getfield 10, 3) := by decide +kernel
theorem dX2_confession_34 : decode cX2_confession 34 = .ok (.getfield 107, 3) := by decide +kernel
theorem dX2_confession_37 : decode cX2_confession 37 = .ok (.iload_n 2, 1) := by decide +kernel
theorem dX2_confession_38 : decode cX2_confession 38 = .ok (.aaload, 1) := by decide +kernel
theorem dX2_confession_39 : decode cX2_confession 39 = .ok (.iload_n 1, 1) := by decide +kernel
theorem dX2_confession_40 : decode cX2_confession 40 = .ok (.iaload, 1) := by decide +kernel
theorem dX2_confession_41 : decode cX2_confession 41 = .ok (.ireturn, 1) := by decide +kernel
theorem dX2_named_0 : decode cX2_named 0 = .ok (.iload_n 1, 1) := by decide +kernel
theorem dX2_named_1 : decode cX2_named 1 = .ok (.ifCond .lt 16, 3) := by decide +kernel
theorem dX2_named_4 : decode cX2_named 4 = .ok (.iload_n 1, 1) := by decide +kernel
theorem dX2_named_5 : decode cX2_named 5 = .ok (.aload_n 0, 1) := by decide +kernel
theorem dX2_named_6 : decode cX2_named 6 = .ok (.getfield 10, 3) := by decide +kernel
theorem dX2_named_9 : decode cX2_named 9 = .ok (.getfield 81, 3) := by decide +kernel
theorem dX2_named_12 : decode cX2_named 12 = .ok (.iconst 0, 1) := by decide +kernel
theorem dX2_named_13 : decode cX2_named 13 = .ok (.iaload, 1) := by decide +kernel
theorem dX2_named_14 : decode cX2_named 14 = .ok (.if_icmp .lt 5, 3) := by decide +kernel
theorem dX2_named_17 : decode cX2_named 17 = .ok (.iconst (-1), 1) := by decide +kernel
theorem dX2_named_18 : decode cX2_named 18 = .ok (.ireturn, 1) := by decide +kernel
theorem dX2_named_19 : decode cX2_named 19 = .ok (.aload_n 0, 1) := by decide +kernel
theorem dX2_named_20 : decode cX2_named 20 = .ok (.getfield 10, 3) := by decide +kernel
theorem dX2_named_23 : decode cX2_named 23 = .ok (.getfield 110, 3) := by decide +kernel
theorem dX2_named_26 : decode cX2_named 26 = .ok (.iload_n 1, 1) := by decide +kernel
theorem dX2_named_27 : decode cX2_named 27 = .ok (.iaload, 1) := by decide +kernel
theorem dX2_named_28 : decode cX2_named 28 = .ok (.ireturn, 1) := by decide +kernel
theorem dX2_worst_0 : decode cX2_worst 0 = .ok (.bipush (-9), 2) := by decide +kernel
theorem dX2_worst_2 : decode cX2_worst 2 = .ok (.istore_n 1, 1) := by decide +kernel
theorem dX2_worst_3 : decode cX2_worst 3 = .ok (.iconst 0, 1) := by decide +kernel
theorem dX2_worst_4 : decode cX2_worst 4 = .ok (.istore_n 2, 1) := by decide +kernel
theorem dX2_worst_5 : decode cX2_worst 5 = .ok (.iconst 0, 1) := by decide +kernel
theorem dX2_worst_6 : decode cX2_worst 6 = .ok (.istore_n 3, 1) := by decide +kernel
theorem dX2_worst_7 : decode cX2_worst 7 = .ok (.iload_n 3, 1) := by decide +kernel
theorem dX2_worst_8 : decode cX2_worst 8 = .ok (.aload_n 0, 1) := by decide +kernel
theorem dX2_worst_9 : decode cX2_worst 9 = .ok (.getfield 10, 3) := by decide +kernel
theorem dX2_worst_12 : decode cX2_worst 12 = .ok (.getfield 81, 3) := by decide +kernel
theorem dX2_worst_15 : decode cX2_worst 15 = .ok (.iconst 0, 1) := by decide +kernel
theorem dX2_worst_16 : decode cX2_worst 16 = .ok (.iaload, 1) := by decide +kernel
theorem dX2_worst_17 : decode cX2_worst 17 = .ok (.if_icmp .ge 34, 3) := by decide +kernel
theorem dX2_worst_20 : decode cX2_worst 20 = .ok (.aload_n 0, 1) := by decide +kernel
theorem dX2_worst_21 : decode cX2_worst 21 = .ok (.getfield 10, 3) := by decide +kernel
theorem dX2_worst_24 : decode cX2_worst 24 = .ok (.getfield 110, 3) := by decide +kernel
theorem dX2_worst_27 : decode cX2_worst 27 = .ok (.iload_n 3, 1) := by decide +kernel
theorem dX2_worst_28 : decode cX2_worst 28 = .ok (.iaload, 1) := by decide +kernel
theorem dX2_worst_29 : decode cX2_worst 29 = .ok (.iload_n 2, 1) := by decide +kernel
theorem dX2_worst_30 : decode cX2_worst 30 = .ok (.if_icmp .le 15, 3) := by decide +kernel
theorem dX2_worst_33 : decode cX2_worst 33 = .ok (.aload_n 0, 1) := by decide +kernel
theorem dX2_worst_34 : decode cX2_worst 34 = .ok (.getfield 10, 3) := by decide +kernel
theorem dX2_worst_37 : decode cX2_worst 37 = .ok (.getfield 110, 3) := by decide +kernel
theorem dX2_worst_40 : decode cX2_worst 40 = .ok (.iload_n 3, 1) := by decide +kernel
theorem dX2_worst_41 : decode cX2_worst 41 = .ok (.iaload, 1) := by decide +kernel
theorem dX2_worst_42 : decode cX2_worst 42 = .ok (.istore_n 2, 1) := by decide +kernel
theorem dX2_worst_43 : decode cX2_worst 43 = .ok (.iload_n 3, 1) := by decide +kernel
theorem dX2_worst_44 : decode cX2_worst 44 = .ok (.istore_n 1, 1) := by decide +kernel
theorem dX2_worst_45 : decode cX2_worst 45 = .ok (.iinc 3 1, 3) := by decide +kernel
theorem dX2_worst_48 : decode cX2_worst 48 = .ok (.goto (-41), 3) := by decide +kernel
theorem dX2_worst_51 : decode cX2_worst 51 = .ok (.iload_n 1, 1) := by decide +kernel
theorem dX2_worst_52 : decode cX2_worst 52 = .ok (.ireturn, 1) := by decide +kernel
set_option maxRecDepth 20000 in
theorem ggX2_ahead_X0_hitsAhead : GoodIn wsX2_ahead wsX0_hitsAhead := goodIn_r _ [7, 8, 9, 10, 11, 12, 6, 13, 14, 15, 16, 17, 18, 19, 20, 21, 22, 23, 24, 31, 32, 33, 34, 35, 36, 37, 38, 39, 40, 41, 42, 43, 44] (by decide +kernel) (by decide +kernel)
set_option maxRecDepth 20000 in
theorem gX2_ahead_X0_hitsAhead : GoodIn wsX2_ahead (wsV RX2 113 RX0 yX0_hitsAhead wsX0_hitsAhead) := goodIn_app (goodIn_of _ (by decide +kernel)) ggX2_ahead_X0_hitsAhead
theorem dX2_ahead_0 : decode cX2_ahead 0 = .ok (.iload_n 1, 1) := by decide +kernel
theorem dX2_ahead_1 : decode cX2_ahead 1 = .ok (.iconst 1, 1) := by decide +kernel
theorem dX2_ahead_2 : decode cX2_ahead 2 = .ok (.if_icmp .lt 18, 3) := by decide +kernel
theorem dX2_ahead_5 : decode cX2_ahead 5 = .ok (.iload_n 1, 1) := by decide +kernel
theorem dX2_ahead_6 : decode cX2_ahead 6 = .ok (.bipush 40, 2) := by decide +kernel
theorem dX2_ahead_8 : decode cX2_ahead 8 = .ok (.if_icmp .gt 12, 3) := by decide +kernel
theorem dX2_ahead_11 : decode cX2_ahead 11 = .ok (.iload_n 2, 1) := by decide +kernel
theorem dX2_ahead_12 : decode cX2_ahead 12 = .ok (.ifCond .lt 8, 3) := by decide +kernel
theorem dX2_ahead_15 : decode cX2_ahead 15 = .ok (.iload_n 2, 1) := by decide +kernel
theorem dX2_ahead_16 : decode cX2_ahead 16 = .ok (.iconst 1, 1) := by decide +kernel
theorem dX2_ahead_17 : decode cX2_ahead 17 = .ok (.if_icmp .le 5, 3) := by decide +kernel
theorem dX2_ahead_20 : decode cX2_ahead 20 = .ok (.iconst (-1), 1) := by decide +kernel
theorem dX2_ahead_21 : decode cX2_ahead 21 = .ok (.ireturn, 1) := by decide +kernel
theorem dX2_ahead_22 : decode cX2_ahead 22 = .ok (.iload_n 1, 1) := by decide +kernel
theorem dX2_ahead_23 : decode cX2_ahead 23 = .ok (.aload_n 0, 1) := by decide +kernel
theorem dX2_ahead_24 : decode cX2_ahead 24 = .ok (.getfield 10, 3) := by decide +kernel
theorem dX2_ahead_27 : decode cX2_ahead 27 = .ok (.getfield 75, 3) := by decide +kernel
theorem dX2_ahead_30 : decode cX2_ahead 30 = .ok (.if_icmp .le 6, 3) := by decide +kernel
theorem dX2_ahead_33 : decode cX2_ahead 33 = .ok (.bipush (-2), 2) := by decide +kernel
theorem dX2_ahead_35 : decode cX2_ahead 35 = .ok (.ireturn, 1) := by decide +kernel
theorem dX2_ahead_36 : decode cX2_ahead 36 = .ok (.aload_n 0, 1) := by decide +kernel
theorem dX2_ahead_37 : decode cX2_ahead 37 = .ok (.getfield 10, 3) := by decide +kernel
theorem dX2_ahead_40 : decode cX2_ahead 40 = .ok (.iload_n 1, 1) := by decide +kernel
theorem dX2_ahead_41 : decode cX2_ahead 41 = .ok (.invokevirtual 113, 3) := by decide +kernel
theorem dX2_ahead_44 : decode cX2_ahead 44 = .ok (.istore_n 3, 1) := by decide +kernel
theorem dX2_ahead_45 : decode cX2_ahead 45 = .ok (.iload_n 2, 1) := by decide +kernel
theorem dX2_ahead_46 : decode cX2_ahead 46 = .ok (.ifCond .ne 7, 3) := by decide +kernel
theorem dX2_ahead_49 : decode cX2_ahead 49 = .ok (.iload_n 3, 1) := by decide +kernel
theorem dX2_ahead_50 : decode cX2_ahead 50 = .ok (.goto 6, 3) := by decide +kernel
theorem dX2_ahead_53 : decode cX2_ahead 53 = .ok (.iload_n 1, 1) := by decide +kernel
theorem dX2_ahead_54 : decode cX2_ahead 54 = .ok (.iload_n 3, 1) := by decide +kernel
theorem dX2_ahead_55 : decode cX2_ahead 55 = .ok (.isub, 1) := by decide +kernel
theorem dX2_ahead_56 : decode cX2_ahead 56 = .ok (.ireturn, 1) := by decide +kernel
set_option maxRecDepth 20000 in
theorem ggX2_missesWith_X2_isSize : GoodIn wsX2_missesWith wsX2_isSize := goodIn_r _ [4] (by decide +kernel) (by decide +kernel)
set_option maxRecDepth 20000 in
theorem gX2_missesWith_X2_isSize : GoodIn wsX2_missesWith (va_wsS RX2 45 yX2_isSize wsX2_isSize) := goodIn_app (goodIn_of _ (by decide +kernel)) ggX2_missesWith_X2_isSize
set_option maxRecDepth 20000 in
theorem ggX2_missesWith_X2_missesInTrial : GoodIn wsX2_missesWith wsX2_missesInTrial := goodIn_r _ [8, 9, 10, 11, 12, 13, 14, 15, 16, 17, 18, 19, 20, 21, 22, 23, 24, 25, 26, 27, 28, 29, 30, 31, 32, 33, 34, 35, 36, 37, 38, 39, 40, 41, 42, 43, 44, 45, 46, 47, 48, 49, 50, 51, 52, 53, 54, 55, 56, 57, 58, 59, 60, 61, 62, 63, 64, 65, 66, 67, 68, 69, 70, 71, 72, 73, 74, 75, 76, 77, 78, 79, 80, 81, 82, 83, 84, 85, 86, 87, 88, 89, 90, 91, 92, 93, 94, 95, 96, 97, 98, 99, 100, 101, 102, 103, 104, 105, 106, 107, 108, 109, 110, 111, 112, 113, 114, 115, 116, 117, 118, 119, 120, 121, 122, 123, 124, 125] (by decide +kernel) (by decide +kernel)
set_option maxRecDepth 20000 in
theorem gX2_missesWith_X2_missesInTrial : GoodIn wsX2_missesWith (wsV RX2 117 RX2 yX2_missesInTrial wsX2_missesInTrial) := goodIn_app (goodIn_of _ (by decide +kernel)) ggX2_missesWith_X2_missesInTrial
theorem dX2_missesWith_0 : decode cX2_missesWith 0 = .ok (.iload_n 1, 1) := by decide +kernel
theorem dX2_missesWith_1 : decode cX2_missesWith 1 = .ok (.invokestatic 45, 3) := by decide +kernel
theorem dX2_missesWith_4 : decode cX2_missesWith 4 = .ok (.ifCond .ne 5, 3) := by decide +kernel
theorem dX2_missesWith_7 : decode cX2_missesWith 7 = .ok (.iconst (-1), 1) := by decide +kernel
theorem dX2_missesWith_8 : decode cX2_missesWith 8 = .ok (.ireturn, 1) := by decide +kernel
theorem dX2_missesWith_9 : decode cX2_missesWith 9 = .ok (.aload_n 0, 1) := by decide +kernel
theorem dX2_missesWith_10 : decode cX2_missesWith 10 = .ok (.iload_n 1, 1) := by decide +kernel
theorem dX2_missesWith_11 : decode cX2_missesWith 11 = .ok (.invokevirtual 117, 3) := by decide +kernel
theorem dX2_missesWith_14 : decode cX2_missesWith 14 = .ok (.ireturn, 1) := by decide +kernel
set_option maxRecDepth 20000 in
theorem ggX2_bestSize_X2_missesInTrial : GoodIn wsX2_bestSize wsX2_missesInTrial := goodIn_r _ [5, 6, 7, 8, 9, 10, 11, 12, 13, 14, 15, 16, 17, 18, 19, 20, 21, 22, 23, 24, 25, 26, 27, 28, 29, 30, 31, 32, 33, 34, 35, 36, 37, 38, 39, 40, 41, 42, 43, 44, 45, 46, 47, 48, 49, 50, 51, 52, 53, 54, 55, 56, 57, 58, 59, 60, 61, 62, 63, 64, 65, 66, 67, 68, 69, 70, 71, 72, 73, 74, 75, 76, 77, 78, 79, 80, 81, 82, 83, 84, 85, 86, 87, 88, 89, 90, 91, 92, 93, 94, 95, 96, 97, 98, 99, 100, 101, 102, 103, 104, 105, 106, 107, 108, 109, 110, 111, 112, 113, 114, 115, 116, 117, 118, 119, 120, 121, 122] (by decide +kernel) (by decide +kernel)
set_option maxRecDepth 20000 in
theorem gX2_bestSize_X2_missesInTrial : GoodIn wsX2_bestSize (wsV RX2 117 RX2 yX2_missesInTrial wsX2_missesInTrial) := goodIn_app (goodIn_of _ (by decide +kernel)) ggX2_bestSize_X2_missesInTrial
theorem dX2_bestSize_0 : decode cX2_bestSize 0 = .ok (.iconst 2, 1) := by decide +kernel
theorem dX2_bestSize_1 : decode cX2_bestSize 1 = .ok (.istore_n 1, 1) := by decide +kernel
theorem dX2_bestSize_2 : decode cX2_bestSize 2 = .ok (.aload_n 0, 1) := by decide +kernel
theorem dX2_bestSize_3 : decode cX2_bestSize 3 = .ok (.iconst 2, 1) := by decide +kernel
theorem dX2_bestSize_4 : decode cX2_bestSize 4 = .ok (.invokevirtual 117, 3) := by decide +kernel
theorem dX2_bestSize_7 : decode cX2_bestSize 7 = .ok (.istore_n 2, 1) := by decide +kernel
theorem dX2_bestSize_8 : decode cX2_bestSize 8 = .ok (.iconst 3, 1) := by decide +kernel
theorem dX2_bestSize_9 : decode cX2_bestSize 9 = .ok (.istore_n 3, 1) := by decide +kernel
theorem dX2_bestSize_10 : decode cX2_bestSize 10 = .ok (.iload_n 3, 1) := by decide +kernel
theorem dX2_bestSize_11 : decode cX2_bestSize 11 = .ok (.bipush 16, 2) := by decide +kernel
theorem dX2_bestSize_13 : decode cX2_bestSize 13 = .ok (.if_icmp .gt 27, 3) := by decide +kernel
theorem dX2_bestSize_16 : decode cX2_bestSize 16 = .ok (.aload_n 0, 1) := by decide +kernel
theorem dX2_bestSize_17 : decode cX2_bestSize 17 = .ok (.iload_n 3, 1) := by decide +kernel
theorem dX2_bestSize_18 : decode cX2_bestSize 18 = .ok (.invokevirtual 117, 3) := by decide +kernel
theorem dX2_bestSize_21 : decode cX2_bestSize 21 = .ok (.istore 4, 2) := by decide +kernel
theorem dX2_bestSize_23 : decode cX2_bestSize 23 = .ok (.iload 4, 2) := by decide +kernel
theorem dX2_bestSize_25 : decode cX2_bestSize 25 = .ok (.iload_n 2, 1) := by decide +kernel
theorem dX2_bestSize_26 : decode cX2_bestSize 26 = .ok (.if_icmp .ge 8, 3) := by decide +kernel
theorem dX2_bestSize_29 : decode cX2_bestSize 29 = .ok (.iload 4, 2) := by decide +kernel
theorem dX2_bestSize_31 : decode cX2_bestSize 31 = .ok (.istore_n 2, 1) := by decide +kernel
theorem dX2_bestSize_32 : decode cX2_bestSize 32 = .ok (.iload_n 3, 1) := by decide +kernel
theorem dX2_bestSize_33 : decode cX2_bestSize 33 = .ok (.istore_n 1, 1) := by decide +kernel
theorem dX2_bestSize_34 : decode cX2_bestSize 34 = .ok (.iinc 3 1, 3) := by decide +kernel
theorem dX2_bestSize_37 : decode cX2_bestSize 37 = .ok (.goto (-27), 3) := by decide +kernel
theorem dX2_bestSize_40 : decode cX2_bestSize 40 = .ok (.iload_n 1, 1) := by decide +kernel
theorem dX2_bestSize_41 : decode cX2_bestSize 41 = .ok (.ireturn, 1) := by decide +kernel
set_option maxRecDepth 20000 in
theorem ggX2_callsUntil_X0_isOverrun : GoodIn wsX2_callsUntil wsX0_isOverrun := goodIn_r _ [10, 11, 18, 19, 20, 21, 22, 23, 24, 25, 26, 27, 28, 29, 30, 31] (by decide +kernel) (by decide +kernel)
set_option maxRecDepth 20000 in
theorem gX2_callsUntil_X0_isOverrun : GoodIn wsX2_callsUntil (wsV RX2 120 RX0 yX0_isOverrun wsX0_isOverrun) := goodIn_app (goodIn_of _ (by decide +kernel)) ggX2_callsUntil_X0_isOverrun
theorem dX2_callsUntil_0 : decode cX2_callsUntil 0 = .ok (.iload_n 1, 1) := by decide +kernel
theorem dX2_callsUntil_1 : decode cX2_callsUntil 1 = .ok (.ifCond .lt 14, 3) := by decide +kernel
theorem dX2_callsUntil_4 : decode cX2_callsUntil 4 = .ok (.iload_n 1, 1) := by decide +kernel
theorem dX2_callsUntil_5 : decode cX2_callsUntil 5 = .ok (.aload_n 0, 1) := by decide +kernel
theorem dX2_callsUntil_6 : decode cX2_callsUntil 6 = .ok (.getfield 10, 3) := by decide +kernel
theorem dX2_callsUntil_9 : decode cX2_callsUntil 9 = .ok (.getfield 75, 3) := by decide +kernel
theorem dX2_callsUntil_12 : decode cX2_callsUntil 12 = .ok (.if_icmp .lt 5, 3) := by decide +kernel
theorem dX2_callsUntil_15 : decode cX2_callsUntil 15 = .ok (.iconst (-1), 1) := by decide +kernel
theorem dX2_callsUntil_16 : decode cX2_callsUntil 16 = .ok (.ireturn, 1) := by decide +kernel
theorem dX2_callsUntil_17 : decode cX2_callsUntil 17 = .ok (.aload_n 0, 1) := by decide +kernel
theorem dX2_callsUntil_18 : decode cX2_callsUntil 18 = .ok (.getfield 10, 3) := by decide +kernel
theorem dX2_callsUntil_21 : decode cX2_callsUntil 21 = .ok (.getfield 75, 3) := by decide +kernel
theorem dX2_callsUntil_24 : decode cX2_callsUntil 24 = .ok (.iconst 1, 1) := by decide +kernel
theorem dX2_callsUntil_25 : decode cX2_callsUntil 25 = .ok (.isub, 1) := by decide +kernel
theorem dX2_callsUntil_26 : decode cX2_callsUntil 26 = .ok (.iload_n 1, 1) := by decide +kernel
theorem dX2_callsUntil_27 : decode cX2_callsUntil 27 = .ok (.isub, 1) := by decide +kernel
theorem dX2_callsUntil_28 : decode cX2_callsUntil 28 = .ok (.istore_n 2, 1) := by decide +kernel
theorem dX2_callsUntil_29 : decode cX2_callsUntil 29 = .ok (.aload_n 0, 1) := by decide +kernel
theorem dX2_callsUntil_30 : decode cX2_callsUntil 30 = .ok (.getfield 10, 3) := by decide +kernel
theorem dX2_callsUntil_33 : decode cX2_callsUntil 33 = .ok (.iload_n 2, 1) := by decide +kernel
theorem dX2_callsUntil_34 : decode cX2_callsUntil 34 = .ok (.invokevirtual 120, 3) := by decide +kernel
theorem dX2_callsUntil_37 : decode cX2_callsUntil 37 = .ok (.ifCond .eq 5, 3) := by decide +kernel
theorem dX2_callsUntil_40 : decode cX2_callsUntil 40 = .ok (.iconst 0, 1) := by decide +kernel
theorem dX2_callsUntil_41 : decode cX2_callsUntil 41 = .ok (.ireturn, 1) := by decide +kernel
theorem dX2_callsUntil_42 : decode cX2_callsUntil 42 = .ok (.aload_n 0, 1) := by decide +kernel
theorem dX2_callsUntil_43 : decode cX2_callsUntil 43 = .ok (.getfield 10, 3) := by decide +kernel
theorem dX2_callsUntil_46 : decode cX2_callsUntil 46 = .ok (.getfield 100, 3) := by decide +kernel
theorem dX2_callsUntil_49 : decode cX2_callsUntil 49 = .ok (.iconst 3, 1) := by decide +kernel
theorem dX2_callsUntil_50 : decode cX2_callsUntil 50 = .ok (.aaload, 1) := by decide +kernel
theorem dX2_callsUntil_51 : decode cX2_callsUntil 51 = .ok (.iload_n 2, 1) := by decide +kernel
theorem dX2_callsUntil_52 : decode cX2_callsUntil 52 = .ok (.iaload, 1) := by decide +kernel
theorem dX2_callsUntil_53 : decode cX2_callsUntil 53 = .ok (.aload_n 0, 1) := by decide +kernel
theorem dX2_callsUntil_54 : decode cX2_callsUntil 54 = .ok (.getfield 10, 3) := by decide +kernel
theorem dX2_callsUntil_57 : decode cX2_callsUntil 57 = .ok (.getfield 91, 3) := by decide +kernel
theorem dX2_callsUntil_60 : decode cX2_callsUntil 60 = .ok (.isub, 1) := by decide +kernel
theorem dX2_callsUntil_61 : decode cX2_callsUntil 61 = .ok (.istore_n 3, 1) := by decide +kernel
theorem dX2_callsUntil_62 : decode cX2_callsUntil 62 = .ok (.iload_n 3, 1) := by decide +kernel
theorem dX2_callsUntil_63 : decode cX2_callsUntil 63 = .ok (.ifCond .le 7, 3) := by decide +kernel
theorem dX2_callsUntil_66 : decode cX2_callsUntil 66 = .ok (.iload_n 3, 1) := by decide +kernel
theorem dX2_callsUntil_67 : decode cX2_callsUntil 67 = .ok (.goto 12, 3) := by decide +kernel
theorem dX2_callsUntil_70 : decode cX2_callsUntil 70 = .ok (.iload_n 3, 1) := by decide +kernel
theorem dX2_callsUntil_71 : decode cX2_callsUntil 71 = .ok (.aload_n 0, 1) := by decide +kernel
theorem dX2_callsUntil_72 : decode cX2_callsUntil 72 = .ok (.getfield 10, 3) := by decide +kernel
theorem dX2_callsUntil_75 : decode cX2_callsUntil 75 = .ok (.getfield 49, 3) := by decide +kernel
theorem dX2_callsUntil_78 : decode cX2_callsUntil 78 = .ok (.iadd, 1) := by decide +kernel
theorem dX2_callsUntil_79 : decode cX2_callsUntil 79 = .ok (.ireturn, 1) := by decide +kernel
theorem dX2_isSize_0 : decode cX2_isSize 0 = .ok (.iload_n 0, 1) := by decide +kernel
theorem dX2_isSize_1 : decode cX2_isSize 1 = .ok (.iconst 2, 1) := by decide +kernel
theorem dX2_isSize_2 : decode cX2_isSize 2 = .ok (.if_icmp .lt 13, 3) := by decide +kernel
theorem dX2_isSize_5 : decode cX2_isSize 5 = .ok (.iload_n 0, 1) := by decide +kernel
theorem dX2_isSize_6 : decode cX2_isSize 6 = .ok (.bipush 16, 2) := by decide +kernel
theorem dX2_isSize_8 : decode cX2_isSize 8 = .ok (.if_icmp .gt 7, 3) := by decide +kernel
theorem dX2_isSize_11 : decode cX2_isSize 11 = .ok (.iconst 1, 1) := by decide +kernel
theorem dX2_isSize_12 : decode cX2_isSize 12 = .ok (.goto 4, 3) := by decide +kernel
theorem dX2_isSize_15 : decode cX2_isSize 15 = .ok (.iconst 0, 1) := by decide +kernel
