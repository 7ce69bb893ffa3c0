theorem dX2_slot_15 : decode cX2_slot 15 = .ok (.iload_n 2, 1) := by decide +kernel
theorem dX2_slot_16 : decode cX2_slot 16 = .ok (.ifCond .lt 8, 3) := by decide +kernel
theorem dX2_slot_19 : decode cX2_slot 19 = .ok (.iload_n 2, 1) := by decide +kernel
theorem dX2_slot_20 : decode cX2_slot 20 = .ok (.iconst 3, 1) := by decide +kernel
theorem dX2_slot_21 : decode cX2_slot 21 = .ok (.if_icmp .lt 5, 3) := by decide +kernel
theorem dX2_slot_24 : decode cX2_slot 24 = .ok (.iconst (-1), 1) := by decide +kernel
theorem dX2_slot_25 : decode cX2_slot 25 = .ok (.ireturn, 1) := by decide +kernel
theorem dX2_slot_26 : decode cX2_slot 26 = .ok (.aload_n 0, 1) := by decide +kernel
theorem dX2_slot_27 : decode cX2_slot 27 = .ok (.getfield 10, 3) := by decide +kernel
theorem dX2_slot_30 : decode cX2_slot 30 = .ok (.getfield 104, 3) := by decide +kernel
theorem dX2_slot_33 : decode cX2_slot 33 = .ok (.iload_n 2, 1) := by decide +kernel
theorem dX2_slot_34 : decode cX2_slot 34 = .ok (.aaload, 1) := by decide +kernel
theorem dX2_slot_35 : decode cX2_slot 35 = .ok (.iload_n 1, 1) := by decide +kernel
theorem dX2_slot_36 : decode cX2_slot 36 = .ok (.iaload, 1) := by decide +kernel
theorem dX2_slot_37 : decode cX2_slot 37 = .ok (.ireturn, 1) := by decide +kernel
theorem dX2_confession_0 : decode cX2_confession 0 = .ok (.iload_n 1, 1) := by decide +kernel
theorem dX2_confession_1 : decode cX2_confession 1 = .ok (.ifCond .lt 13, 3) := by decide +kernel
theorem dX2_confession_4 : decode cX2_confession 4 = .ok (.iload_n 2, 1) := by decide +kernel
theorem dX2_confession_5 : decode cX2_confession 5 = .ok (.ifCond .lt 9, 3) := by decide +kernel
theorem dX2_confession_8 : decode cX2_confession 8 = .ok (.iload_n 2, 1) := by decide +kernel
theorem dX2_confession_9 : decode cX2_confession 9 = .ok (.bipush 6, 2) := by decide +kernel
theorem dX2_confession_11 : decode cX2_confession 11 = .ok (.if_icmp .lt 5, 3) := by decide +kernel
theorem dX2_confession_14 : decode cX2_confession 14 = .ok (.iconst (-1), 1) := by decide +kernel
theorem dX2_confession_15 : decode cX2_confession 15 = .ok (.ireturn, 1) := by decide +kernel
theorem dX2_confession_16 : decode cX2_confession 16 = .ok (.iload_n 1, 1) := by decide +kernel
theorem dX2_confession_17 : decode cX2_confession 17 = .ok (.aload_n 0, 1) := by decide +kernel
theorem dX2_confession_18 : decode cX2_confession 18 = .ok (.getfield 10, 3) := by decide +kernel
theorem dX2_confession_21 : decode cX2_confession 21 = .ok (.getfield 88, 3) := by decide +kernel
theorem dX2_confession_24 : decode cX2_confession 24 = .ok (.if_icmp .lt 6, 3) := by decide +kernel
theorem dX2_confession_27 : decode cX2_confession 27 = .ok (.bipush (-9), 2) := by decide +kernel
theorem dX2_confession_29 : decode cX2_confession 29 = .ok (.ireturn, 1) := by decide +kernel
theorem dX2_confession_30 : decode cX2_confession 30 = .ok (.aload_n 0, 1) := by decide +kernel
theorem dX2_confession_31 : decode cX2_confession 31 = .ok (.getfield 10, 3) := by decide +kernel
theorem dX2_confession_34 : decode cX2_confession 34 = .ok (.getfield 107, 3) := by decide +kernel
theorem dX2_confession_37 : decode cX2_confession 37 = .ok (.iload_n 2, 1) := by decide +kernel
theorem dX2_confession_38 : decode cX2_confession 38 = .ok (.aaload, 1) := by decide +kernel
theorem dX2_confession_39 : decode cX2_confession 39 = .ok (.iload_n 1, 1) := by decide +kernel
theorem dX2_confession_40 : decode cX2_confession 40 = .ok (.iaload, 1) := by decide +kernel
theorem dX2_confession_41 : decode cX2_confession 41 = .ok (.ireturn, 1) := by decide +kernel
theorem dX2_named_0 : decode cX2_named 0 = .ok (.iload_n 1, 1) := by decide +kernel
theorem dX2_named_1 : decode cX2_named 1 = .ok (.ifCond .lt 16, 3) := by decide +kernel
theorem dX2_named_4 : decode cX2_named 4 = .ok (.iload_n 1, 1) := by decide +kernel
theorem dX2_named_5 : decode cX2_named 5 = .ok (.aload_n 0, 1) := by decide +kernel
theorem dX2_named_6 : decode cX2_named 6 = .ok (.getfield 10, 3) := by decide +kernel
theorem dX2_named_9 : decode cX2_named 9 = .ok (.getfield 81, 3) := by decide +kernel
theorem dX2_named_12 : decode cX2_named 12 = .ok (.iconst 0, 1) := by decide +kernel
theorem dX2_named_13 : decode cX2_named 13 = .ok (.iaload, 1) := by decide +kernel
theorem dX2_named_14 : decode cX2_named 14 = .ok (.if_icmp .lt 5, 3) := by decide +kernel
theorem dX2_named_17 : decode cX2_named 17 = .ok (.iconst (-1), 1) := by decide +kernel
theorem dX2_named_18 : decode cX2_named 18 = .ok (.ireturn, 1) := by decide +kernel
theorem dX2_named_19 : decode cX2_named 19 = .ok (.aload_n 0, 1) := by decide +kernel
theorem dX2_named_20 : decode cX2_named 20 = .ok (.getfield 10, 3) := by decide +kernel
theorem dX2_named_23 : decode cX2_named 23 = .ok (.getfield 110, 3) := by decide +kernel
theorem dX2_named_26 : decode cX2_named 26 = .ok (.iload_n 1, 1) := by decide +kernel
theorem dX2_named_27 : decode cX2_named 27 = .ok (.iaload, 1) := by decide +kernel
theorem dX2_named_28 : decode cX2_named 28 = .ok (.ireturn, 1) := by decide +kernel
theorem dX2_worst_0 : decode cX2_worst 0 = .ok (.bipush (-9), 2) := by decide +kernel
theorem dX2_worst_2 : decode cX2_worst 2 = .ok (.istore_n 1, 1) := by decide +kernel
theorem dX2_worst_3 : decode cX2_worst 3 = .ok (.iconst 0, 1) := by decide +kernel
theorem dX2_worst_4 : decode cX2_worst 4 = .ok (.istore_n 2, 1) := by decide +kernel
theorem dX2_worst_5 : decode cX2_worst 5 = .ok (.iconst 0, 1) := by decide +kernel
theorem dX2_worst_6 : decode cX2_worst 6 = .ok (.istore_n 3, 1) := by decide +kernel
theorem dX2_worst_7 : decode cX2_worst 7 = .ok (.iload_n 3, 1) := by decide +kernel
theorem dX2_worst_8 : decode cX2_worst 8 = .ok (.aload_n 0, 1) := by decide +kernel
theorem dX2_worst_9 : decode cX2_worst 9 = .ok (.getfield 10, 3) := by decide +kernel
theorem dX2_worst_12 : decode cX2_worst 12 = .ok (.getfield 81, 3) := by decide +kernel
theorem dX2_worst_15 : decode cX2_worst 15 = .ok (.iconst 0, 1) := by decide +kernel
theorem dX2_worst_16 : decode cX2_worst 16 = .ok (.iaload, 1) := by decide +kernel
theorem dX2_worst_17 : decode cX2_worst 17 = .ok (.if_icmp .ge 34, 3) := by decide +kernel
theorem dX2_worst_20 : decode cX2_worst 20 = .ok (.aload_n 0, 1) := by decide +kernel
theorem dX2_worst_21 : decode cX2_worst 21 = .ok (.getfield 10, 3) := by decide +kernel
theorem dX2_worst_24 : decode cX2_worst 24 = .ok (.getfield 110, 3) := by decide +kernel
theorem dX2_worst_27 : decode cX2_worst 27 = .ok (.iload_n 3, 1) := by decide +kernel
theorem dX2_worst_28 : decode cX2_worst 28 = .ok (.iaload, 1) := by decide +kernel
theorem dX2_worst_29 : decode cX2_worst 29 = .ok (.iload_n 2, 1) := by decide +kernel
theorem dX2_worst_30 : decode cX2_worst 30 = .ok (.if_icmp .le 15, 3) := by decide +kernel
theorem dX2_worst_33 : decode cX2_worst 33 = .ok (.aload_n 0, 1) := by decide +kernel
theorem dX2_worst_34 : decode cX2_worst 34 = .ok (.getfield 10, 3) := by decide +kernel
theorem dX2_worst_37 : decode cX2_worst 37 = .ok (.getfield 110, 3) := by decide +kernel
theorem dX2_worst_40 : decode cX2_worst 40 = .ok (.iload_n 3, 1) := by decide +kernel
theorem dX2_worst_41 : decode cX2_worst 41 = .ok (.iaload, 1) := by decide +kernel
theorem dX2_worst_42 : decode cX2_worst 42 = .ok (.istore_n 2, 1) := by decide +kernel
theorem dX2_worst_43 : decode cX2_worst 43 = .ok (.iload_n 3, 1) := by decide +kernel
theorem dX2_worst_44 : decode cX2_worst 44 = .ok (.istore_n 1, 1) := by decide +kernel
theorem dX2_worst_45 : decode cX2_worst 45 = .ok (.iinc 3 1, 3) := by decide +kernel
theorem dX2_worst_48 : decode cX2_worst 48 = .ok (.goto (-41), 3) := by decide +kernel
theorem dX2_worst_51 : decode cX2_worst 51 = .ok (.iload_n 1, 1) := by decide +kernel
theorem dX2_worst_52 : decode cX2_worst 52 = .ok (.ireturn, 1) := by decide +kernel
theorem dX2_isSize_0 : decode cX2_isSize 0 = .ok (.iload_n 0, 1) := by decide +kernel
theorem dX2_isSize_1 : decode cX2_isSize 1 = .ok (.iconst 2, 1) := by decide +kernel
theorem dX2_isSize_2 : decode cX2_isSize 2 = .ok (.if_icmp .lt 13, 3) := by decide +kernel
theorem dX2_isSize_5 : decode cX2_isSize 5 = .ok (.iload_n 0, 1) := by decide +kernel
theorem dX2_isSize_6 : decode cX2_isSize 6 = .ok (.bipush 16, 2) := by decide +kernel
theorem dX2_isSize_8 : decode cX2_isSize 8 = .ok (.if_icmp .gt 7, 3) := by decide +kernel
theorem dX2_isSize_11 : decode cX2_isSize 11 = .ok (.iconst 1, 1) := by decide +kernel
theorem dX2_isSize_12 : decode cX2_isSize 12 = .ok (.goto 4, 3) := by decide +kernel
theorem dX2_isSize_15 : decode cX2_isSize 15 = .ok (.iconst 0, 1) := by decide +kernel
theorem dX2_isSize_16 : decode cX2_isSize 16 = .ok (.ireturn, 1) := by decide +kernel
set_option maxRecDepth 20000 in
theorem ggX2_takeAsAction_X0_copyFrom : GoodIn wsX2_takeAsAction wsX0_copyFrom := goodIn_r _ [7, 8, 9, 10, 11, 12, 13, 14, 15, 16, 17, 18, 19, 20, 21, 22, 23, 24, 25, 26, 27, 6, 28, 107, 108, 109, 110, 111, 112, 113, 114, 115, 116, 117, 118, 119, 120] (by decide +kernel) (by decide +kernel)
set_option maxRecDepth 20000 in
theorem gX2_takeAsAction_X0_copyFrom : GoodIn wsX2_takeAsAction (wsV RX2 59 RX0 yX0_copyFrom wsX0_copyFrom) := goodIn_app (goodIn_of _ (by decide +kernel)) ggX2_takeAsAction_X0_copyFrom
set_option maxRecDepth 20000 in
theorem ggX2_takeAsAction_X0_take : GoodIn wsX2_takeAsAction wsX0_take := goodIn_r _ [32, 33, 34, 35, 6, 36, 11, 13, 37, 38, 39, 40, 41, 42, 43, 44, 45, 46, 15, 10, 9, 23, 22, 12, 47, 48, 49, 50, 51, 52, 53, 54, 55, 56, 57, 58, 59, 60, 61, 62, 63, 64, 65, 66, 20, 67, 68, 69, 70, 71, 72, 73, 74, 25, 16, 17, 18, 19, 14, 75, 76, 77, 21, 78, 79, 80, 81, 82, 83, 84, 85, 8, 86, 87, 88, 89, 24, 107, 108, 109, 110, 111, 112, 113, 114, 115, 116, 117, 118, 119, 120] (by decide +kernel) (by decide +kernel)
set_option maxRecDepth 20000 in
theorem gX2_takeAsAction_X0_take : GoodIn wsX2_takeAsAction (wsV RX2 123 RX0 yX0_take wsX0_take) := goodIn_app (goodIn_of _ (by decide +kernel)) ggX2_takeAsAction_X0_take
set_option maxRecDepth 20000 in
theorem ggX2_takeAsAction_X2_record : GoodIn wsX2_takeAsAction wsX2_record := goodIn_r _ [94, 95, 96, 97, 98, 99, 93, 100, 3, 4, 5, 6, 7, 8, 9, 10, 11, 12, 13, 14, 15, 16, 17, 18, 19, 20, 21, 22, 23, 24, 25, 26, 27, 28, 101, 102, 103, 104, 105, 106, 107, 108, 109, 110, 111, 112, 113, 114, 115, 116, 117, 118, 119, 120] (by decide +kernel) (by decide +kernel)
set_option maxRecDepth 20000 in
theorem gX2_takeAsAction_X2_record : GoodIn wsX2_takeAsAction (wsV RX2 37 RX2 yX2_record wsX2_record) := goodIn_app (goodIn_of _ (by decide +kernel)) ggX2_takeAsAction_X2_record
theorem dX2_takeAsAction_0 : decode cX2_takeAsAction 0 = .ok (.aload_n 0, 1) := by decide +kernel
theorem dX2_takeAsAction_1 : decode cX2_takeAsAction 1 = .ok (.getfield 16, 3) := by decide +kernel
theorem dX2_takeAsAction_4 : decode cX2_takeAsAction 4 = .ok (.aload_n 0, 1) := by decide +kernel
theorem dX2_takeAsAction_5 : decode cX2_takeAsAction 5 = .ok (.getfield 10, 3) := by decide +kernel
theorem dX2_takeAsAction_8 : decode cX2_takeAsAction 8 = .ok (.invokevirtual 59, 3) := by decide +kernel
theorem dX2_takeAsAction_11 : decode cX2_takeAsAction 11 = .ok (.aload_n 0, 1) := by decide +kernel
theorem dX2_takeAsAction_12 : decode cX2_takeAsAction 12 = .ok (.getfield 10, 3) := by decide +kernel
theorem dX2_takeAsAction_15 : decode cX2_takeAsAction 15 = .ok (.iload_n 1, 1) := by decide +kernel
theorem dX2_takeAsAction_16 : decode cX2_takeAsAction 16 = .ok (.iload_n 2, 1) := by decide +kernel
theorem dX2_takeAsAction_17 : decode cX2_takeAsAction 17 = .ok (.iload_n 3, 1) := by decide +kernel
theorem dX2_takeAsAction_18 : decode cX2_takeAsAction 18 = .ok (.invokevirtual 123, 3) := by decide +kernel
theorem dX2_takeAsAction_21 : decode cX2_takeAsAction 21 = .ok (.istore 4, 2) := by decide +kernel
theorem dX2_takeAsAction_23 : decode cX2_takeAsAction 23 = .ok (.iload 4, 2) := by decide +kernel
theorem dX2_takeAsAction_25 : decode cX2_takeAsAction 25 = .ok (.ifCond .lt 11, 3) := by decide +kernel
theorem dX2_takeAsAction_28 : decode cX2_takeAsAction 28 = .ok (.aload_n 0, 1) := by decide +kernel
theorem dX2_takeAsAction_29 : decode cX2_takeAsAction 29 = .ok (.aload_n 0, 1) := by decide +kernel
theorem dX2_takeAsAction_30 : decode cX2_takeAsAction 30 = .ok (.getfield 16, 3) := by decide +kernel
theorem dX2_takeAsAction_33 : decode cX2_takeAsAction 33 = .ok (.invokevirtual 37, 3) := by decide +kernel
theorem dX2_takeAsAction_36 : decode cX2_takeAsAction 36 = .ok (.iload 4, 2) := by decide +kernel
theorem dX2_takeAsAction_38 : decode cX2_takeAsAction 38 = .ok (.ireturn, 1) := by decide +kernel
set_option maxRecDepth 20000 in
theorem ggX2_record_X2_dropOldest : GoodIn wsX2_record wsX2_dropOldest := goodIn_r _ [7, 2, 1, 34, 35, 36, 37, 38, 39] (by decide +kernel) (by decide +kernel)
set_option maxRecDepth 20000 in
theorem gX2_record_X2_dropOldest : GoodIn wsX2_record (wsV RX2 126 RX2 yX2_dropOldest wsX2_dropOldest) := goodIn_app (goodIn_of _ (by decide +kernel)) ggX2_record_X2_dropOldest
set_option maxRecDepth 20000 in
theorem ggX2_record_X0_copyFrom : GoodIn wsX2_record wsX0_copyFrom := goodIn_r _ [12, 13, 14, 15, 16, 17, 18, 19, 20, 21, 22, 23, 24, 25, 26, 27, 28, 29, 30, 31, 32, 11, 33, 40, 41, 42, 43, 44, 45, 46, 47, 48, 49, 50, 51, 52, 53] (by decide +kernel) (by decide +kernel)
set_option maxRecDepth 20000 in
theorem gX2_record_X0_copyFrom : GoodIn wsX2_record (wsV RX2 59 RX0 yX0_copyFrom wsX0_copyFrom) := goodIn_app (goodIn_of _ (by decide +kernel)) ggX2_record_X0_copyFrom
theorem dX2_record_0 : decode cX2_record 0 = .ok (.aload_n 0, 1) := by decide +kernel
theorem dX2_record_1 : decode cX2_record 1 = .ok (.getfield 56, 3) := by decide +kernel
theorem dX2_record_4 : decode cX2_record 4 = .ok (.iconst 5, 1) := by decide +kernel
theorem dX2_record_5 : decode cX2_record 5 = .ok (.if_icmp .ne 7, 3) := by decide +kernel
theorem dX2_record_8 : decode cX2_record 8 = .ok (.aload_n 0, 1) := by decide +kernel
theorem dX2_record_9 : decode cX2_record 9 = .ok (.invokevirtual 126, 3) := by decide +kernel
theorem dX2_record_12 : decode cX2_record 12 = .ok (.aload_n 0, 1) := by decide +kernel
theorem dX2_record_13 : decode cX2_record 13 = .ok (.getfield 22, 3) := by decide +kernel
theorem dX2_record_16 : decode cX2_record 16 = .ok (.aload_n 0, 1) := by decide +kernel
theorem dX2_record_17 : decode cX2_record 17 = .ok (.getfield 56, 3) := by decide +kernel
theorem dX2_record_20 : decode cX2_record 20 = .ok (.aaload, 1) := by decide +kernel
theorem dX2_record_21 : decode cX2_record 21 = .ok (.aload_n 1, 1) := by decide +kernel
theorem dX2_record_22 : decode cX2_record 22 = .ok (.invokevirtual 59, 3) := by decide +kernel
theorem dX2_record_25 : decode cX2_record 25 = .ok (.aload_n 0, 1) := by decide +kernel
theorem dX2_record_26 : decode cX2_record 26 = .ok (.dup, 1) := by decide +kernel
theorem dX2_record_27 : decode cX2_record 27 = .ok (.getfield 56, 3) := by decide +kernel
theorem dX2_record_30 : decode cX2_record 30 = .ok (.iconst 1, 1) := by decide +kernel
theorem dX2_record_31 : decode cX2_record 31 = .ok (.iadd, 1) := by decide +kernel
theorem dX2_record_32 : decode cX2_record 32 = .ok (.putfield 56, 3) := by decide +kernel
theorem dX2_record_35 : decode cX2_record 35 = .ok (.return_, 1) := by decide +kernel
theorem dX2_dropOldest_0 : decode cX2_dropOldest 0 = .ok (.aload_n 0, 1) := by decide +kernel
theorem dX2_dropOldest_1 : decode cX2_dropOldest 1 = .ok (.getfield 22, 3) := by decide +kernel
theorem dX2_dropOldest_4 : decode cX2_dropOldest 4 = .ok (.iconst 0, 1) := by decide +kernel
theorem dX2_dropOldest_5 : decode cX2_dropOldest 5 = .ok (.aaload, 1) := by decide +kernel
theorem dX2_dropOldest_6 : decode cX2_dropOldest 6 = .ok (.astore_n 1, 1) := by decide +kernel
theorem dX2_dropOldest_7 : decode cX2_dropOldest 7 = .ok (.iconst 1, 1) := by decide +kernel
theorem dX2_dropOldest_8 : decode cX2_dropOldest 8 = .ok (.istore_n 2, 1) := by decide +kernel
theorem dX2_dropOldest_9 : decode cX2_dropOldest 9 = .ok (.iload_n 2, 1) := by decide +kernel
theorem dX2_dropOldest_10 : decode cX2_dropOldest 10 = .ok (.iconst 5, 1) := by decide +kernel
theorem dX2_dropOldest_11 : decode cX2_dropOldest 11 = .ok (.if_icmp .ge 23, 3) := by decide +kernel
theorem dX2_dropOldest_14 : decode cX2_dropOldest 14 = .ok (.aload_n 0, 1) := by decide +kernel
theorem dX2_dropOldest_15 : decode cX2_dropOldest 15 = .ok (.getfield 22, 3) := by decide +kernel
theorem dX2_dropOldest_18 : decode cX2_dropOldest 18 = .ok (.iload_n 2, 1) := by decide +kernel
theorem dX2_dropOldest_19 : decode cX2_dropOldest 19 = .ok (.iconst 1, 1) := by decide +kernel
theorem dX2_dropOldest_20 : decode cX2_dropOldest 20 = .ok (.isub, 1) := by decide +kernel
theorem dX2_dropOldest_21 : decode cX2_dropOldest 21 = .ok (.aload_n 0, 1) := by decide +kernel
theorem dX2_dropOldest_22 : decode cX2_dropOldest 22 = .ok (.getfield 22, 3) := by decide +kernel
theorem dX2_dropOldest_25 : decode cX2_dropOldest 25 = .ok (.iload_n 2, 1) := by decide +kernel
theorem dX2_dropOldest_26 : decode cX2_dropOldest 26 = .ok (.aaload, 1) := by decide +kernel
theorem dX2_dropOldest_27 : decode cX2_dropOldest 27 = .ok (.aastore, 1) := by decide +kernel
theorem dX2_dropOldest_28 : decode cX2_dropOldest 28 = .ok (.iinc 2 1, 3) := by decide +kernel
theorem dX2_dropOldest_31 : decode cX2_dropOldest 31 = .ok (.goto (-22), 3) := by decide +kernel
theorem dX2_dropOldest_34 : decode cX2_dropOldest 34 = .ok (.aload_n 0, 1) := by decide +kernel
theorem dX2_dropOldest_35 : decode cX2_dropOldest 35 = .ok (.getfield 22, 3) := by decide +kernel
theorem dX2_dropOldest_38 : decode cX2_dropOldest 38 = .ok (.iconst 4, 1) := by decide +kernel
theorem dX2_dropOldest_39 : decode cX2_dropOldest 39 = .ok (.aload_n 1, 1) := by decide +kernel
theorem dX2_dropOldest_40 : decode cX2_dropOldest 40 = .ok (.aastore, 1) := by decide +kernel
theorem dX2_dropOldest_41 : decode cX2_dropOldest 41 = .ok (.aload_n 0, 1) := by decide +kernel
theorem dX2_dropOldest_42 : decode cX2_dropOldest 42 = .ok (.iconst 4, 1) := by decide +kernel
theorem dX2_dropOldest_43 : decode cX2_dropOldest 43 = .ok (.putfield 56, 3) := by decide +kernel
theorem dX2_dropOldest_46 : decode cX2_dropOldest 46 = .ok (.return_, 1) := by decide +kernel
theorem dJ9_max_7cf53_0 : decode cJ9_max_7cf53 0 = .ok (.iload_n 0, 1) := by decide +kernel
theorem dJ9_max_7cf53_1 : decode cJ9_max_7cf53 1 = .ok (.iload_n 1, 1) := by decide +kernel
theorem dJ9_max_7cf53_2 : decode cJ9_max_7cf53 2 = .ok (.if_icmp .lt 7, 3) := by decide +kernel
theorem dJ9_max_7cf53_5 : decode cJ9_max_7cf53 5 = .ok (.iload_n 0, 1) := by decide +kernel
theorem dJ9_max_7cf53_6 : decode cJ9_max_7cf53 6 = .ok (.goto 4, 3) := by decide +kernel
theorem dJ9_max_7cf53_9 : decode cJ9_max_7cf53 9 = .ok (.iload_n 1, 1) := by decide +kernel
theorem dJ9_max_7cf53_10 : decode cJ9_max_7cf53 10 = .ok (.ireturn, 1) := by decide +kernel
theorem dJ9_min_7cf53_0 : decode cJ9_min_7cf53 0 = .ok (.iload_n 0, 1) := by decide +kernel
theorem dJ9_min_7cf53_1 : decode cJ9_min_7cf53 1 = .ok (.iload_n 1, 1) := by decide +kernel
theorem dJ9_min_7cf53_2 : decode cJ9_min_7cf53 2 = .ok (.if_icmp .gt 7, 3) := by decide +kernel
theorem dJ9_min_7cf53_5 : decode cJ9_min_7cf53 5 = .ok (.iload_n 0, 1) := by decide +kernel
theorem dJ9_min_7cf53_6 : decode cJ9_min_7cf53 6 = .ok (.goto 4, 3) := by decide +kernel
theorem dJ9_min_7cf53_9 : decode cJ9_min_7cf53 9 = .ok (.iload_n 1, 1) := by decide +kernel
theorem dJ9_min_7cf53_10 : decode cJ9_min_7cf53 10 = .ok (.ireturn, 1) := by decide +kernel
theorem dJ7_fill_53178_0 : decode cJ7_fill_53178 0 = .ok (.iconst 0, 1) := by decide +kernel
theorem dJ7_fill_53178_1 : decode cJ7_fill_53178 1 = .ok (.istore_n 2, 1) := by decide +kernel
theorem dJ7_fill_53178_2 : decode cJ7_fill_53178 2 = .ok (.aload_n 0, 1) := by decide +kernel
theorem dJ7_fill_53178_3 : decode cJ7_fill_53178 3 = .ok (.arraylength, 1) := by decide +kernel
theorem dJ7_fill_53178_4 : decode cJ7_fill_53178 4 = .ok (.istore_n 3, 1) := by decide +kernel
theorem dJ7_fill_53178_5 : decode cJ7_fill_53178 5 = .ok (.iload_n 2, 1) := by decide +kernel
theorem dJ7_fill_53178_6 : decode cJ7_fill_53178 6 = .ok (.iload_n 3, 1) := by decide +kernel
theorem dJ7_fill_53178_7 : decode cJ7_fill_53178 7 = .ok (.if_icmp .ge 13, 3) := by decide +kernel
theorem dJ7_fill_53178_10 : decode cJ7_fill_53178 10 = .ok (.aload_n 0, 1) := by decide +kernel
theorem dJ7_fill_53178_11 : decode cJ7_fill_53178 11 = .ok (.iload_n 2, 1) := by decide +kernel
theorem dJ7_fill_53178_12 : decode cJ7_fill_53178 12 = .ok (.iload_n 1, 1) := by decide +kernel
theorem dJ7_fill_53178_13 : decode cJ7_fill_53178 13 = .ok (.iastore, 1) := by decide +kernel
theorem dJ7_fill_53178_14 : decode cJ7_fill_53178 14 = .ok (.iinc 2 1, 3) := by decide +kernel
theorem dJ7_fill_53178_17 : decode cJ7_fill_53178 17 = .ok (.goto (-12), 3) := by decide +kernel
theorem dJ7_fill_53178_20 : decode cJ7_fill_53178 20 = .ok (.return_, 1) := by decide +kernel
theorem dL_cell_0 : decode cL_cell 0 = .ok (.iload_n 1, 1) := by decide +kernel
theorem dL_cell_1 : decode cL_cell 1 = .ok (.aload_n 0, 1) := by decide +kernel
theorem dL_cell_2 : decode cL_cell 2 = .ok (.arraylength, 1) := by decide +kernel
theorem dL_cell_3 : decode cL_cell 3 = .ok (.if_icmp .ge 9, 3) := by decide +kernel
theorem dL_cell_6 : decode cL_cell 6 = .ok (.aload_n 0, 1) := by decide +kernel
theorem dL_cell_7 : decode cL_cell 7 = .ok (.iload_n 1, 1) := by decide +kernel
theorem dL_cell_8 : decode cL_cell 8 = .ok (.iaload, 1) := by decide +kernel
theorem dL_cell_9 : decode cL_cell 9 = .ok (.goto 9, 3) := by decide +kernel
theorem dL_cell_12 : decode cL_cell 12 = .ok (.ldc 7, 2) := by decide +kernel
theorem dL_cell_14 : decode cL_cell 14 = .ok (.iload_n 1, 1) := by decide +kernel
theorem dL_cell_15 : decode cL_cell 15 = .ok (.iconst 3, 1) := by decide +kernel
theorem dL_cell_16 : decode cL_cell 16 = .ok (.iadd, 1) := by decide +kernel
theorem dL_cell_17 : decode cL_cell 17 = .ok (.imul, 1) := by decide +kernel
theorem dL_cell_18 : decode cL_cell 18 = .ok (.ireturn, 1) := by decide +kernel
theorem dL_low_0 : decode cL_low 0 = .ok (.iload_n 0, 1) := by decide +kernel
theorem dL_low_1 : decode cL_low 1 = .ok (.ldc 8, 2) := by decide +kernel
theorem dL_low_3 : decode cL_low 3 = .ok (.iand, 1) := by decide +kernel
theorem dL_low_4 : decode cL_low 4 = .ok (.iload_n 1, 1) := by decide +kernel
theorem dL_low_5 : decode cL_low 5 = .ok (.irem, 1) := by decide +kernel
theorem dL_low_6 : decode cL_low 6 = .ok (.ireturn, 1) := by decide +kernel
theorem dL_by_0 : decode cL_by 0 = .ok (.lload_n 0, 1) := by decide +kernel
theorem dL_by_1 : decode cL_by 1 = .ok (.bipush 26, 2) := by decide +kernel
theorem dL_by_3 : decode cL_by 3 = .ok (.lshr, 1) := by decide +kernel
theorem dL_by_4 : decode cL_by 4 = .ok (.l2i, 1) := by decide +kernel
theorem dL_by_5 : decode cL_by 5 = .ok (.bipush 9, 2) := by decide +kernel
theorem dL_by_7 : decode cL_by 7 = .ok (.isub, 1) := by decide +kernel
theorem dL_by_8 : decode cL_by 8 = .ok (.ireturn, 1) := by decide +kernel
theorem dL_fresh_0 : decode cL_fresh 0 = .ok (.aload_n 0, 1) := by decide +kernel
theorem dL_fresh_1 : decode cL_fresh 1 = .ok (.bipush 14, 2) := by decide +kernel
theorem dL_fresh_3 : decode cL_fresh 3 = .ok (.iaload, 1) := by decide +kernel
theorem dL_fresh_4 : decode cL_fresh 4 = .ok (.istore_n 3, 1) := by decide +kernel
theorem dL_fresh_5 : decode cL_fresh 5 = .ok (.iconst 0, 1) := by decide +kernel
theorem dL_fresh_6 : decode cL_fresh 6 = .ok (.istore 4, 2) := by decide +kernel
theorem dL_fresh_8 : decode cL_fresh 8 = .ok (.iload 4, 2) := by decide +kernel
theorem dL_fresh_10 : decode cL_fresh 10 = .ok (.bipush 15, 2) := by decide +kernel
theorem dL_fresh_12 : decode cL_fresh 12 = .ok (.if_icmp .ge 14, 3) := by decide +kernel
theorem dL_fresh_15 : decode cL_fresh 15 = .ok (.aload_n 0, 1) := by decide +kernel
theorem dL_fresh_16 : decode cL_fresh 16 = .ok (.iload 4, 2) := by decide +kernel
theorem dL_fresh_18 : decode cL_fresh 18 = .ok (.iconst 0, 1) := by decide +kernel
theorem dL_fresh_19 : decode cL_fresh 19 = .ok (.iastore, 1) := by decide +kernel
theorem dL_fresh_20 : decode cL_fresh 20 = .ok (.iinc 4 1, 3) := by decide +kernel
theorem dL_fresh_23 : decode cL_fresh 23 = .ok (.goto (-15), 3) := by decide +kernel
theorem dL_fresh_26 : decode cL_fresh 26 = .ok (.aload_n 0, 1) := by decide +kernel
theorem dL_fresh_27 : decode cL_fresh 27 = .ok (.bipush 14, 2) := by decide +kernel
theorem dL_fresh_29 : decode cL_fresh 29 = .ok (.iload_n 3, 1) := by decide +kernel
theorem dL_fresh_30 : decode cL_fresh 30 = .ok (.iastore, 1) := by decide +kernel
theorem dL_fresh_31 : decode cL_fresh 31 = .ok (.aload_n 0, 1) := by decide +kernel
theorem dL_fresh_32 : decode cL_fresh 32 = .ok (.bipush 11, 2) := by decide +kernel
theorem dL_fresh_34 : decode cL_fresh 34 = .ok (.iload_n 2, 1) := by decide +kernel
theorem dL_fresh_35 : decode cL_fresh 35 = .ok (.iastore, 1) := by decide +kernel
theorem dL_fresh_36 : decode cL_fresh 36 = .ok (.aload_n 0, 1) := by decide +kernel
theorem dL_fresh_37 : decode cL_fresh 37 = .ok (.bipush 12, 2) := by decide +kernel
theorem dL_fresh_39 : decode cL_fresh 39 = .ok (.iload_n 2, 1) := by decide +kernel
theorem dL_fresh_40 : decode cL_fresh 40 = .ok (.iconst 1, 1) := by decide +kernel
theorem dL_fresh_41 : decode cL_fresh 41 = .ok (.isub, 1) := by decide +kernel
theorem dL_fresh_42 : decode cL_fresh 42 = .ok (.iastore, 1) := by decide +kernel
theorem dL_fresh_43 : decode cL_fresh 43 = .ok (.iconst 0, 1) := by decide +kernel
theorem dL_fresh_44 : decode cL_fresh 44 = .ok (.istore 4, 2) := by decide +kernel
theorem dL_fresh_46 : decode cL_fresh 46 = .ok (.iload 4, 2) := by decide +kernel
theorem dL_fresh_48 : decode cL_fresh 48 = .ok (.bipush 48, 2) := by decide +kernel
theorem dL_fresh_50 : decode cL_fresh 50 = .ok (.if_icmp .ge 27, 3) := by decide +kernel
theorem dL_fresh_53 : decode cL_fresh 53 = .ok (.aload_n 1, 1) := by decide +kernel
theorem dL_fresh_54 : decode cL_fresh 54 = .ok (.iload 4, 2) := by decide +kernel
theorem dL_fresh_56 : decode cL_fresh 56 = .ok (.iload 4, 2) := by decide +kernel
theorem dL_fresh_58 : decode cL_fresh 58 = .ok (.iconst 3, 1) := by decide +kernel
theorem dL_fresh_59 : decode cL_fresh 59 = .ok (.irem, 1) := by decide +kernel
theorem dL_fresh_60 : decode cL_fresh 60 = .ok (.iconst 2, 1) := by decide +kernel
theorem dL_fresh_61 : decode cL_fresh 61 = .ok (.if_icmp .ne 7, 3) := by decide +kernel
theorem dL_fresh_64 : decode cL_fresh 64 = .ok (.iconst 0, 1) := by decide +kernel
theorem dL_fresh_65 : decode cL_fresh 65 = .ok (.goto 5, 3) := by decide +kernel
theorem dL_fresh_68 : decode cL_fresh 68 = .ok (.bipush (-9), 2) := by decide +kernel
theorem dL_fresh_70 : decode cL_fresh 70 = .ok (.iastore, 1) := by decide +kernel
theorem dL_fresh_71 : decode cL_fresh 71 = .ok (.iinc 4 1, 3) := by decide +kernel
theorem dL_fresh_74 : decode cL_fresh 74 = .ok (.goto (-28), 3) := by decide +kernel
theorem dL_fresh_77 : decode cL_fresh 77 = .ok (.return_, 1) := by decide +kernel
theorem dL_steps_0 : decode cL_steps 0 = .ok (.aload_n 1, 1) := by decide +kernel
theorem dL_steps_1 : decode cL_steps 1 = .ok (.aload_n 0, 1) := by decide +kernel
theorem dL_steps_2 : decode cL_steps 2 = .ok (.iconst 1, 1) := by decide +kernel
theorem dL_steps_3 : decode cL_steps 3 = .ok (.iaload, 1) := by decide +kernel
theorem dL_steps_4 : decode cL_steps 4 = .ok (.sipush 1000, 3) := by decide +kernel
theorem dL_steps_7 : decode cL_steps 7 = .ok (.iload_n 2, 1) := by decide +kernel
theorem dL_steps_8 : decode cL_steps 8 = .ok (.imul, 1) := by decide +kernel
theorem dL_steps_9 : decode cL_steps 9 = .ok (.iload_n 3, 1) := by decide +kernel
theorem dL_steps_10 : decode cL_steps 10 = .ok (.iadd, 1) := by decide +kernel
theorem dL_steps_11 : decode cL_steps 11 = .ok (.iastore, 1) := by decide +kernel
theorem dL_steps_12 : decode cL_steps 12 = .ok (.aload_n 0, 1) := by decide +kernel
theorem dL_steps_13 : decode cL_steps 13 = .ok (.iconst 1, 1) := by decide +kernel
theorem dL_steps_14 : decode cL_steps 14 = .ok (.dup2, 1) := by decide +kernel
theorem dL_steps_15 : decode cL_steps 15 = .ok (.iaload, 1) := by decide +kernel
theorem dL_steps_16 : decode cL_steps 16 = .ok (.iconst 1, 1) := by decide +kernel
theorem dL_steps_17 : decode cL_steps 17 = .ok (.iadd, 1) := by decide +kernel
theorem dL_steps_18 : decode cL_steps 18 = .ok (.iastore, 1) := by decide +kernel
theorem dL_steps_19 : decode cL_steps 19 = .ok (.aload_n 0, 1) := by decide +kernel
theorem dL_steps_20 : decode cL_steps 20 = .ok (.iconst 2, 1) := by decide +kernel
theorem dL_steps_21 : decode cL_steps 21 = .ok (.iload_n 2, 1) := by decide +kernel
theorem dL_steps_22 : decode cL_steps 22 = .ok (.iadd, 1) := by decide +kernel
theorem dL_steps_23 : decode cL_steps 23 = .ok (.dup2, 1) := by decide +kernel
theorem dL_steps_24 : decode cL_steps 24 = .ok (.iaload, 1) := by decide +kernel
theorem dL_steps_25 : decode cL_steps 25 = .ok (.iconst 1, 1) := by decide +kernel
theorem dL_steps_26 : decode cL_steps 26 = .ok (.iadd, 1) := by decide +kernel
theorem dL_steps_27 : decode cL_steps 27 = .ok (.iastore, 1) := by decide +kernel
theorem dL_steps_28 : decode cL_steps 28 = .ok (.return_, 1) := by decide +kernel
set_option maxRecDepth 20000 in
theorem ggL_called_L_by : GoodIn wsL_called wsL_by := goodIn_r _ [6] (by decide +kernel) (by decide +kernel)
set_option maxRecDepth 20000 in
theorem gL_called_L_by : GoodIn wsL_called (va_wsS RL 11 yL_by wsL_by) := goodIn_app (goodIn_of _ (by decide +kernel)) ggL_called_L_by
set_option maxRecDepth 20000 in
theorem ggL_called_L_steps : GoodIn wsL_called wsL_steps := goodIn_r _ [9] (by decide +kernel) (by decide +kernel)
set_option maxRecDepth 20000 in
theorem gL_called_L_steps : GoodIn wsL_called (va_wsS RL 19 yL_steps wsL_steps) := goodIn_app (goodIn_of _ (by decide +kernel)) ggL_called_L_steps
theorem dL_called_0 : decode cL_called 0 = .ok (.aload_n 0, 1) := by decide +kernel
theorem dL_called_1 : decode cL_called 1 = .ok (.iconst 2, 1) := by decide +kernel
theorem dL_called_2 : decode cL_called 2 = .ok (.iaload, 1) := by decide +kernel
theorem dL_called_3 : decode cL_called 3 = .ok (.istore 7, 2) := by decide +kernel
theorem dL_called_5 : decode cL_called 5 = .ok (.aload_n 0, 1) := by decide +kernel
theorem dL_called_6 : decode cL_called 6 = .ok (.bipush 12, 2) := by decide +kernel
theorem dL_called_8 : decode cL_called 8 = .ok (.aload_n 0, 1) := by decide +kernel
theorem dL_called_9 : decode cL_called 9 = .ok (.bipush 12, 2) := by decide +kernel
theorem dL_called_11 : decode cL_called 11 = .ok (.iaload, 1) := by decide +kernel
theorem dL_called_12 : decode cL_called 12 = .ok (.iconst 1, 1) := by decide +kernel
theorem dL_called_13 : decode cL_called 13 = .ok (.iadd, 1) := by decide +kernel
theorem dL_called_14 : decode cL_called 14 = .ok (.aload_n 0, 1) := by decide +kernel
theorem dL_called_15 : decode cL_called 15 = .ok (.bipush 11, 2) := by decide +kernel
theorem dL_called_17 : decode cL_called 17 = .ok (.iaload, 1) := by decide +kernel
theorem dL_called_18 : decode cL_called 18 = .ok (.if_icmp .ne 7, 3) := by decide +kernel
theorem dL_called_21 : decode cL_called 21 = .ok (.iconst 0, 1) := by decide +kernel
theorem dL_called_22 : decode cL_called 22 = .ok (.goto 9, 3) := by decide +kernel
theorem dL_called_25 : decode cL_called 25 = .ok (.aload_n 0, 1) := by decide +kernel
theorem dL_called_26 : decode cL_called 26 = .ok (.bipush 12, 2) := by decide +kernel
theorem dL_called_28 : decode cL_called 28 = .ok (.iaload, 1) := by decide +kernel
theorem dL_called_29 : decode cL_called 29 = .ok (.iconst 1, 1) := by decide +kernel
theorem dL_called_30 : decode cL_called 30 = .ok (.iadd, 1) := by decide +kernel
theorem dL_called_31 : decode cL_called 31 = .ok (.iastore, 1) := by decide +kernel
theorem dL_called_32 : decode cL_called 32 = .ok (.iconst 0, 1) := by decide +kernel
theorem dL_called_33 : decode cL_called 33 = .ok (.istore 8, 2) := by decide +kernel
theorem dL_called_35 : decode cL_called 35 = .ok (.iload 8, 2) := by decide +kernel
theorem dL_called_37 : decode cL_called 37 = .ok (.aload_n 0, 1) := by decide +kernel
theorem dL_called_38 : decode cL_called 38 = .ok (.iconst 0, 1) := by decide +kernel
theorem dL_called_39 : decode cL_called 39 = .ok (.iaload, 1) := by decide +kernel
theorem dL_called_40 : decode cL_called 40 = .ok (.if_icmp .ge 72, 3) := by decide +kernel
theorem dL_called_43 : decode cL_called 43 = .ok (.aload_n 1, 1) := by decide +kernel
theorem dL_called_44 : decode cL_called 44 = .ok (.iload 8, 2) := by decide +kernel
theorem dL_called_46 : decode cL_called 46 = .ok (.laload, 1) := by decide +kernel
theorem dL_called_47 : decode cL_called 47 = .ok (.bipush 22, 2) := by decide +kernel
theorem dL_called_49 : decode cL_called 49 = .ok (.lshr, 1) := by decide +kernel
theorem dL_called_50 : decode cL_called 50 = .ok (.ldc2_w 9, 3) := by decide +kernel
theorem dL_called_53 : decode cL_called 53 = .ok (.land, 1) := by decide +kernel
theorem dL_called_54 : decode cL_called 54 = .ok (.aload_n 0, 1) := by decide +kernel
theorem dL_called_55 : decode cL_called 55 = .ok (.bipush 12, 2) := by decide +kernel
theorem dL_called_57 : decode cL_called 57 = .ok (.iaload, 1) := by decide +kernel
theorem dL_called_58 : decode cL_called 58 = .ok (.i2l, 1) := by decide +kernel
theorem dL_called_59 : decode cL_called 59 = .ok (.lcmp, 1) := by decide +kernel
theorem dL_called_60 : decode cL_called 60 = .ok (.ifCond .ne 17, 3) := by decide +kernel
theorem dL_called_63 : decode cL_called 63 = .ok (.aload_n 1, 1) := by decide +kernel
theorem dL_called_64 : decode cL_called 64 = .ok (.iload 8, 2) := by decide +kernel
theorem dL_called_66 : decode cL_called 66 = .ok (.laload, 1) := by decide +kernel
theorem dL_called_67 : decode cL_called 67 = .ok (.invokestatic 11, 3) := by decide +kernel
theorem dL_called_70 : decode cL_called 70 = .ok (.ifCond .ge 7, 3) := by decide +kernel
theorem dL_called_73 : decode cL_called 73 = .ok (.iconst 1, 1) := by decide +kernel
theorem dL_called_74 : decode cL_called 74 = .ok (.goto 4, 3) := by decide +kernel
theorem dL_called_77 : decode cL_called 77 = .ok (.iconst 0, 1) := by decide +kernel
theorem dL_called_78 : decode cL_called 78 = .ok (.istore 9, 2) := by decide +kernel
theorem dL_called_80 : decode cL_called 80 = .ok (.aload_n 1, 1) := by decide +kernel
theorem dL_called_81 : decode cL_called 81 = .ok (.iload 8, 2) := by decide +kernel
theorem dL_called_83 : decode cL_called 83 = .ok (.dup2, 1) := by decide +kernel
theorem dL_called_84 : decode cL_called 84 = .ok (.laload, 1) := by decide +kernel
theorem dL_called_85 : decode cL_called 85 = .ok (.iload 9, 2) := by decide +kernel
theorem dL_called_87 : decode cL_called 87 = .ok (.ifCond .eq 16, 3) := by decide +kernel
theorem dL_called_90 : decode cL_called 90 = .ok (.iload 7, 2) := by decide +kernel
theorem dL_called_92 : decode cL_called 92 = .ok (.i2l, 1) := by decide +kernel
theorem dL_called_93 : decode cL_called 93 = .ok (.ldc2_w 17, 3) := by decide +kernel
theorem dL_called_96 : decode cL_called 96 = .ok (.ladd, 1) := by decide +kernel
theorem dL_called_97 : decode cL_called 97 = .ok (.bipush 26, 2) := by decide +kernel
theorem dL_called_99 : decode cL_called 99 = .ok (.lshl, 1) := by decide +kernel
theorem dL_called_100 : decode cL_called 100 = .ok (.goto 4, 3) := by decide +kernel
theorem dL_called_103 : decode cL_called 103 = .ok (.lconst 0, 1) := by decide +kernel
theorem dL_called_104 : decode cL_called 104 = .ok (.ladd, 1) := by decide +kernel
theorem dL_called_105 : decode cL_called 105 = .ok (.lastore, 1) := by decide +kernel
theorem dL_called_106 : decode cL_called 106 = .ok (.iinc 8 1, 3) := by decide +kernel
theorem dL_called_109 : decode cL_called 109 = .ok (.goto (-74), 3) := by decide +kernel
theorem dL_called_112 : decode cL_called 112 = .ok (.aload_n 2, 1) := by decide +kernel
theorem dL_called_113 : decode cL_called 113 = .ok (.iconst 3, 1) := by decide +kernel
theorem dL_called_114 : decode cL_called 114 = .ok (.aload_n 0, 1) := by decide +kernel
theorem dL_called_115 : decode cL_called 115 = .ok (.bipush 12, 2) := by decide +kernel
theorem dL_called_117 : decode cL_called 117 = .ok (.iaload, 1) := by decide +kernel
theorem dL_called_118 : decode cL_called 118 = .ok (.imul, 1) := by decide +kernel
theorem dL_called_119 : decode cL_called 119 = .ok (.iload 7, 2) := by decide +kernel
theorem dL_called_121 : decode cL_called 121 = .ok (.iastore, 1) := by decide +kernel
theorem dL_called_122 : decode cL_called 122 = .ok (.aload_n 2, 1) := by decide +kernel
theorem dL_called_123 : decode cL_called 123 = .ok (.iconst 3, 1) := by decide +kernel
theorem dL_called_124 : decode cL_called 124 = .ok (.aload_n 0, 1) := by decide +kernel
theorem dL_called_125 : decode cL_called 125 = .ok (.bipush 12, 2) := by decide +kernel
theorem dL_called_127 : decode cL_called 127 = .ok (.iaload, 1) := by decide +kernel
theorem dL_called_128 : decode cL_called 128 = .ok (.imul, 1) := by decide +kernel
theorem dL_called_129 : decode cL_called 129 = .ok (.iconst 1, 1) := by decide +kernel
theorem dL_called_130 : decode cL_called 130 = .ok (.iadd, 1) := by decide +kernel
theorem dL_called_131 : decode cL_called 131 = .ok (.iload 6, 2) := by decide +kernel
theorem dL_called_133 : decode cL_called 133 = .ok (.iastore, 1) := by decide +kernel
theorem dL_called_134 : decode cL_called 134 = .ok (.aload_n 2, 1) := by decide +kernel
theorem dL_called_135 : decode cL_called 135 = .ok (.iconst 3, 1) := by decide +kernel
theorem dL_called_136 : decode cL_called 136 = .ok (.aload_n 0, 1) := by decide +kernel
theorem dL_called_137 : decode cL_called 137 = .ok (.bipush 12, 2) := by decide +kernel
theorem dL_called_139 : decode cL_called 139 = .ok (.iaload, 1) := by decide +kernel
theorem dL_called_140 : decode cL_called 140 = .ok (.imul, 1) := by decide +kernel
theorem dL_called_141 : decode cL_called 141 = .ok (.iconst 2, 1) := by decide +kernel
theorem dL_called_142 : decode cL_called 142 = .ok (.iadd, 1) := by decide +kernel
theorem dL_called_143 : decode cL_called 143 = .ok (.dup2, 1) := by decide +kernel
theorem dL_called_144 : decode cL_called 144 = .ok (.iaload, 1) := by decide +kernel
theorem dL_called_145 : decode cL_called 145 = .ok (.iconst 1, 1) := by decide +kernel
theorem dL_called_146 : decode cL_called 146 = .ok (.iadd, 1) := by decide +kernel
theorem dL_called_147 : decode cL_called 147 = .ok (.iastore, 1) := by decide +kernel
theorem dL_called_148 : decode cL_called 148 = .ok (.aload_n 1, 1) := by decide +kernel
theorem dL_called_149 : decode cL_called 149 = .ok (.aload_n 0, 1) := by decide +kernel
theorem dL_called_150 : decode cL_called 150 = .ok (.iconst 0, 1) := by decide +kernel
theorem dL_called_151 : decode cL_called 151 = .ok (.iaload, 1) := by decide +kernel
theorem dL_called_152 : decode cL_called 152 = .ok (.iload 7, 2) := by decide +kernel
theorem dL_called_154 : decode cL_called 154 = .ok (.i2l, 1) := by decide +kernel
theorem dL_called_155 : decode cL_called 155 = .ok (.iload 5, 2) := by decide +kernel
theorem dL_called_157 : decode cL_called 157 = .ok (.i2l, 1) := by decide +kernel
theorem dL_called_158 : decode cL_called 158 = .ok (.bipush 8, 2) := by decide +kernel
theorem dL_called_160 : decode cL_called 160 = .ok (.lshl, 1) := by decide +kernel
theorem dL_called_161 : decode cL_called 161 = .ok (.lor, 1) := by decide +kernel
theorem dL_called_162 : decode cL_called 162 = .ok (.iload 6, 2) := by decide +kernel
theorem dL_called_164 : decode cL_called 164 = .ok (.i2l, 1) := by decide +kernel
theorem dL_called_165 : decode cL_called 165 = .ok (.bipush 12, 2) := by decide +kernel
theorem dL_called_167 : decode cL_called 167 = .ok (.lshl, 1) := by decide +kernel
theorem dL_called_168 : decode cL_called 168 = .ok (.lor, 1) := by decide +kernel
theorem dL_called_169 : decode cL_called 169 = .ok (.aload_n 0, 1) := by decide +kernel
theorem dL_called_170 : decode cL_called 170 = .ok (.bipush 12, 2) := by decide +kernel
theorem dL_called_172 : decode cL_called 172 = .ok (.iaload, 1) := by decide +kernel
theorem dL_called_173 : decode cL_called 173 = .ok (.i2l, 1) := by decide +kernel
theorem dL_called_174 : decode cL_called 174 = .ok (.bipush 22, 2) := by decide +kernel
theorem dL_called_176 : decode cL_called 176 = .ok (.lshl, 1) := by decide +kernel
theorem dL_called_177 : decode cL_called 177 = .ok (.lor, 1) := by decide +kernel
theorem dL_called_178 : decode cL_called 178 = .ok (.lastore, 1) := by decide +kernel
theorem dL_called_179 : decode cL_called 179 = .ok (.aload_n 0, 1) := by decide +kernel
theorem dL_called_180 : decode cL_called 180 = .ok (.iconst 0, 1) := by decide +kernel
theorem dL_called_181 : decode cL_called 181 = .ok (.dup2, 1) := by decide +kernel
theorem dL_called_182 : decode cL_called 182 = .ok (.iaload, 1) := by decide +kernel
theorem dL_called_183 : decode cL_called 183 = .ok (.iconst 1, 1) := by decide +kernel
theorem dL_called_184 : decode cL_called 184 = .ok (.iadd, 1) := by decide +kernel
theorem dL_called_185 : decode cL_called 185 = .ok (.iastore, 1) := by decide +kernel
theorem dL_called_186 : decode cL_called 186 = .ok (.aload_n 0, 1) := by decide +kernel
theorem dL_called_187 : decode cL_called 187 = .ok (.bipush 13, 2) := by decide +kernel
theorem dL_called_189 : decode cL_called 189 = .ok (.aload_n 0, 1) := by decide +kernel
theorem dL_called_190 : decode cL_called 190 = .ok (.iconst 0, 1) := by decide +kernel
theorem dL_called_191 : decode cL_called 191 = .ok (.iaload, 1) := by decide +kernel
theorem dL_called_192 : decode cL_called 192 = .ok (.aload_n 0, 1) := by decide +kernel
theorem dL_called_193 : decode cL_called 193 = .ok (.bipush 13, 2) := by decide +kernel
theorem dL_called_195 : decode cL_called 195 = .ok (.iaload, 1) := by decide +kernel
theorem dL_called_196 : decode cL_called 196 = .ok (.if_icmp .le 9, 3) := by decide +kernel
theorem dL_called_199 : decode cL_called 199 = .ok (.aload_n 0, 1) := by decide +kernel
theorem dL_called_200 : decode cL_called 200 = .ok (.iconst 0, 1) := by decide +kernel
theorem dL_called_201 : decode cL_called 201 = .ok (.iaload, 1) := by decide +kernel
theorem dL_called_202 : decode cL_called 202 = .ok (.goto 7, 3) := by decide +kernel
theorem dL_called_205 : decode cL_called 205 = .ok (.aload_n 0, 1) := by decide +kernel
theorem dL_called_206 : decode cL_called 206 = .ok (.bipush 13, 2) := by decide +kernel
theorem dL_called_208 : decode cL_called 208 = .ok (.iaload, 1) := by decide +kernel
theorem dL_called_209 : decode cL_called 209 = .ok (.iastore, 1) := by decide +kernel
theorem dL_called_210 : decode cL_called 210 = .ok (.aload 4, 2) := by decide +kernel
theorem dL_called_212 : decode cL_called 212 = .ok (.iload 7, 2) := by decide +kernel
theorem dL_called_214 : decode cL_called 214 = .ok (.iconst 0, 1) := by decide +kernel
theorem dL_called_215 : decode cL_called 215 = .ok (.iastore, 1) := by decide +kernel
theorem dL_called_216 : decode cL_called 216 = .ok (.aload_n 0, 1) := by decide +kernel
theorem dL_called_217 : decode cL_called 217 = .ok (.aload_n 3, 1) := by decide +kernel
theorem dL_called_218 : decode cL_called 218 = .ok (.iconst 0, 1) := by decide +kernel
theorem dL_called_219 : decode cL_called 219 = .ok (.iload 6, 2) := by decide +kernel
theorem dL_called_221 : decode cL_called 221 = .ok (.invokestatic 19, 3) := by decide +kernel
theorem dL_called_224 : decode cL_called 224 = .ok (.iload 7, 2) := by decide +kernel
theorem dL_called_226 : decode cL_called 226 = .ok (.ireturn, 1) := by decide +kernel
set_option maxRecDepth 20000 in
theorem ggL_returned_L_by : GoodIn wsL_returned wsL_by := goodIn_r _ [7] (by decide +kernel) (by decide +kernel)
set_option maxRecDepth 20000 in
theorem gL_returned_L_by : GoodIn wsL_returned (va_wsS RL 11 yL_by wsL_by) := goodIn_app (goodIn_of _ (by decide +kernel)) ggL_returned_L_by
set_option maxRecDepth 20000 in
theorem ggL_returned_L_steps : GoodIn wsL_returned wsL_steps := goodIn_r _ [10] (by decide +kernel) (by decide +kernel)
set_option maxRecDepth 20000 in
theorem gL_returned_L_steps : GoodIn wsL_returned (va_wsS RL 19 yL_steps wsL_steps) := goodIn_app (goodIn_of _ (by decide +kernel)) ggL_returned_L_steps
theorem dL_returned_0 : decode cL_returned 0 = .ok (.aload_n 1, 1) := by decide +kernel
theorem dL_returned_1 : decode cL_returned 1 = .ok (.aload_n 0, 1) := by decide +kernel
theorem dL_returned_2 : decode cL_returned 2 = .ok (.iconst 0, 1) := by decide +kernel
theorem dL_returned_3 : decode cL_returned 3 = .ok (.iaload, 1) := by decide +kernel
theorem dL_returned_4 : decode cL_returned 4 = .ok (.iconst 1, 1) := by decide +kernel
theorem dL_returned_5 : decode cL_returned 5 = .ok (.isub, 1) := by decide +kernel
theorem dL_returned_6 : decode cL_returned 6 = .ok (.laload, 1) := by decide +kernel
theorem dL_returned_7 : decode cL_returned 7 = .ok (.lstore 6, 2) := by decide +kernel
theorem dL_returned_9 : decode cL_returned 9 = .ok (.aload_n 2, 1) := by decide +kernel
theorem dL_returned_10 : decode cL_returned 10 = .ok (.iconst 3, 1) := by decide +kernel
theorem dL_returned_11 : decode cL_returned 11 = .ok (.aload_n 0, 1) := by decide +kernel
theorem dL_returned_12 : decode cL_returned 12 = .ok (.bipush 12, 2) := by decide +kernel
theorem dL_returned_14 : decode cL_returned 14 = .ok (.iaload, 1) := by decide +kernel
theorem dL_returned_15 : decode cL_returned 15 = .ok (.imul, 1) := by decide +kernel
theorem dL_returned_16 : decode cL_returned 16 = .ok (.iaload, 1) := by decide +kernel
theorem dL_returned_17 : decode cL_returned 17 = .ok (.istore 8, 2) := by decide +kernel
theorem dL_returned_19 : decode cL_returned 19 = .ok (.aload_n 2, 1) := by decide +kernel
theorem dL_returned_20 : decode cL_returned 20 = .ok (.iconst 3, 1) := by decide +kernel
theorem dL_returned_21 : decode cL_returned 21 = .ok (.aload_n 0, 1) := by decide +kernel
theorem dL_returned_22 : decode cL_returned 22 = .ok (.bipush 12, 2) := by decide +kernel
theorem dL_returned_24 : decode cL_returned 24 = .ok (.iaload, 1) := by decide +kernel
theorem dL_returned_25 : decode cL_returned 25 = .ok (.imul, 1) := by decide +kernel
theorem dL_returned_26 : decode cL_returned 26 = .ok (.iconst 1, 1) := by decide +kernel
theorem dL_returned_27 : decode cL_returned 27 = .ok (.iadd, 1) := by decide +kernel
theorem dL_returned_28 : decode cL_returned 28 = .ok (.iaload, 1) := by decide +kernel
theorem dL_returned_29 : decode cL_returned 29 = .ok (.istore 9, 2) := by decide +kernel
theorem dL_returned_31 : decode cL_returned 31 = .ok (.lload 6, 2) := by decide +kernel
theorem dL_returned_33 : decode cL_returned 33 = .ok (.bipush 12, 2) := by decide +kernel
theorem dL_returned_35 : decode cL_returned 35 = .ok (.lshr, 1) := by decide +kernel
theorem dL_returned_36 : decode cL_returned 36 = .ok (.ldc2_w 23, 3) := by decide +kernel
theorem dL_returned_39 : decode cL_returned 39 = .ok (.land, 1) := by decide +kernel
theorem dL_returned_40 : decode cL_returned 40 = .ok (.l2i, 1) := by decide +kernel
theorem dL_returned_41 : decode cL_returned 41 = .ok (.istore 10, 2) := by decide +kernel
theorem dL_returned_43 : decode cL_returned 43 = .ok (.lload 6, 2) := by decide +kernel
theorem dL_returned_45 : decode cL_returned 45 = .ok (.ldc2_w 25, 3) := by decide +kernel
theorem dL_returned_48 : decode cL_returned 48 = .ok (.land, 1) := by decide +kernel
theorem dL_returned_49 : decode cL_returned 49 = .ok (.l2i, 1) := by decide +kernel
theorem dL_returned_50 : decode cL_returned 50 = .ok (.istore 11, 2) := by decide +kernel
theorem dL_returned_52 : decode cL_returned 52 = .ok (.iload 9, 2) := by decide +kernel
theorem dL_returned_54 : decode cL_returned 54 = .ok (.iload 10, 2) := by decide +kernel
theorem dL_returned_56 : decode cL_returned 56 = .ok (.if_icmp .ne 18, 3) := by decide +kernel
theorem dL_returned_59 : decode cL_returned 59 = .ok (.iload 8, 2) := by decide +kernel
theorem dL_returned_61 : decode cL_returned 61 = .ok (.iload 11, 2) := by decide +kernel
theorem dL_returned_63 : decode cL_returned 63 = .ok (.if_icmp .ne 7, 3) := by decide +kernel
theorem dL_returned_66 : decode cL_returned 66 = .ok (.iconst 0, 1) := by decide +kernel
theorem dL_returned_67 : decode cL_returned 67 = .ok (.goto 20, 3) := by decide +kernel
theorem dL_returned_70 : decode cL_returned 70 = .ok (.iconst 1, 1) := by decide +kernel
theorem dL_returned_71 : decode cL_returned 71 = .ok (.goto 16, 3) := by decide +kernel
theorem dL_returned_74 : decode cL_returned 74 = .ok (.lload 6, 2) := by decide +kernel
theorem dL_returned_76 : decode cL_returned 76 = .ok (.invokestatic 11, 3) := by decide +kernel
theorem dL_returned_79 : decode cL_returned 79 = .ok (.ifCond .lt 7, 3) := by decide +kernel
theorem dL_returned_82 : decode cL_returned 82 = .ok (.iconst 2, 1) := by decide +kernel
theorem dL_returned_83 : decode cL_returned 83 = .ok (.goto 4, 3) := by decide +kernel
theorem dL_returned_86 : decode cL_returned 86 = .ok (.iconst 3, 1) := by decide +kernel
theorem dL_returned_87 : decode cL_returned 87 = .ok (.istore 12, 2) := by decide +kernel
theorem dL_returned_89 : decode cL_returned 89 = .ok (.aload_n 0, 1) := by decide +kernel
theorem dL_returned_90 : decode cL_returned 90 = .ok (.bipush 6, 2) := by decide +kernel
theorem dL_returned_92 : decode cL_returned 92 = .ok (.dup2, 1) := by decide +kernel
theorem dL_returned_93 : decode cL_returned 93 = .ok (.iaload, 1) := by decide +kernel
theorem dL_returned_94 : decode cL_returned 94 = .ok (.iload 12, 2) := by decide +kernel
theorem dL_returned_96 : decode cL_returned 96 = .ok (.iconst 2, 1) := by decide +kernel
theorem dL_returned_97 : decode cL_returned 97 = .ok (.if_icmp .ge 7, 3) := by decide +kernel
theorem dL_returned_100 : decode cL_returned 100 = .ok (.iconst 1, 1) := by decide +kernel
theorem dL_returned_101 : decode cL_returned 101 = .ok (.goto 4, 3) := by decide +kernel
theorem dL_returned_104 : decode cL_returned 104 = .ok (.iconst 0, 1) := by decide +kernel
