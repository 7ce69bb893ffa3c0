theorem dX0_removeFrame_21 : decode cX0_removeFrame 21 = .ok (.iconst 3, 1) := by decide +kernel
theorem dX0_removeFrame_22 : decode cX0_removeFrame 22 = .ok (.if_icmp .ne 8, 3) := by decide +kernel
theorem dX0_removeFrame_25 : decode cX0_removeFrame 25 = .ok (.aload_n 0, 1) := by decide +kernel
theorem dX0_removeFrame_26 : decode cX0_removeFrame 26 = .ok (.iload_n 1, 1) := by decide +kernel
theorem dX0_removeFrame_27 : decode cX0_removeFrame 27 = .ok (.invokevirtual 122, 3) := by decide +kernel
theorem dX0_removeFrame_30 : decode cX0_removeFrame 30 = .ok (.aload_n 0, 1) := by decide +kernel
theorem dX0_removeFrame_31 : decode cX0_removeFrame 31 = .ok (.getfield 15, 3) := by decide +kernel
theorem dX0_removeFrame_34 : decode cX0_removeFrame 34 = .ok (.iload_n 1, 1) := by decide +kernel
theorem dX0_removeFrame_35 : decode cX0_removeFrame 35 = .ok (.dup2, 1) := by decide +kernel
theorem dX0_removeFrame_36 : decode cX0_removeFrame 36 = .ok (.iaload, 1) := by decide +kernel
theorem dX0_removeFrame_37 : decode cX0_removeFrame 37 = .ok (.iconst 1, 1) := by decide +kernel
theorem dX0_removeFrame_38 : decode cX0_removeFrame 38 = .ok (.iadd, 1) := by decide +kernel
theorem dX0_removeFrame_39 : decode cX0_removeFrame 39 = .ok (.iastore, 1) := by decide +kernel
theorem dX0_removeFrame_40 : decode cX0_removeFrame 40 = .ok (.aload_n 0, 1) := by decide +kernel
theorem dX0_removeFrame_41 : decode cX0_removeFrame 41 = .ok (.dup, 1) := by decide +kernel
theorem dX0_removeFrame_42 : decode cX0_removeFrame 42 = .ok (.getfield 46, 3) := by decide +kernel
theorem dX0_removeFrame_45 : decode cX0_removeFrame 45 = .ok (.iconst 1, 1) := by decide +kernel
theorem dX0_removeFrame_46 : decode cX0_removeFrame 46 = .ok (.isub, 1) := by decide +kernel
theorem dX0_removeFrame_47 : decode cX0_removeFrame 47 = .ok (.putfield 46, 3) := by decide +kernel
theorem dX0_removeFrame_50 : decode cX0_removeFrame 50 = .ok (.aload_n 0, 1) := by decide +kernel
theorem dX0_removeFrame_51 : decode cX0_removeFrame 51 = .ok (.aload_n 0, 1) := by decide +kernel
theorem dX0_removeFrame_52 : decode cX0_removeFrame 52 = .ok (.aload_n 0, 1) := by decide +kernel
theorem dX0_removeFrame_53 : decode cX0_removeFrame 53 = .ok (.getfield 43, 3) := by decide +kernel
theorem dX0_removeFrame_56 : decode cX0_removeFrame 56 = .ok (.invokevirtual 125, 3) := by decide +kernel
theorem dX0_removeFrame_59 : decode cX0_removeFrame 59 = .ok (.putfield 43, 3) := by decide +kernel
theorem dX0_removeFrame_62 : decode cX0_removeFrame 62 = .ok (.iload_n 1, 1) := by decide +kernel
theorem dX0_removeFrame_63 : decode cX0_removeFrame 63 = .ok (.ireturn, 1) := by decide +kernel
set_option maxRecDepth 20000 in
theorem ggX0_removeFrames_X0_slotBefore : GoodIn wsX0_removeFrames wsX0_slotBefore := goodIn_r _ [8, 9, 10, 11, 12, 13, 14, 15, 16, 17, 18, 19, 20, 21, 22, 23] (by decide +kernel) (by decide +kernel)
set_option maxRecDepth 20000 in
theorem gX0_removeFrames_X0_slotBefore : GoodIn wsX0_removeFrames (wsV RX0 125 RX0 yX0_slotBefore wsX0_slotBefore) := goodIn_app (goodIn_of _ (by decide +kernel)) ggX0_removeFrames_X0_slotBefore
theorem dX0_removeFrames_0 : decode cX0_removeFrames 0 = .ok (.aload_n 0, 1) := by decide +kernel
theorem dX0_removeFrames_1 : decode cX0_removeFrames 1 = .ok (.dup, 1) := by decide +kernel
theorem dX0_removeFrames_2 : decode cX0_removeFrames 2 = .ok (.getfield 46, 3) := by decide +kernel
theorem dX0_removeFrames_5 : decode cX0_removeFrames 5 = .ok (.iload_n 1, 1) := by decide +kernel
theorem dX0_removeFrames_6 : decode cX0_removeFrames 6 = .ok (.isub, 1) := by decide +kernel
theorem dX0_removeFrames_7 : decode cX0_removeFrames 7 = .ok (.putfield 46, 3) := by decide +kernel
theorem dX0_removeFrames_10 : decode cX0_removeFrames 10 = .ok (.aload_n 0, 1) := by decide +kernel
theorem dX0_removeFrames_11 : decode cX0_removeFrames 11 = .ok (.getfield 64, 3) := by decide +kernel
theorem dX0_removeFrames_14 : decode cX0_removeFrames 14 = .ok (.iconst 1, 1) := by decide +kernel
theorem dX0_removeFrames_15 : decode cX0_removeFrames 15 = .ok (.if_icmp .ne 28, 3) := by decide +kernel
theorem dX0_removeFrames_18 : decode cX0_removeFrames 18 = .ok (.iconst 0, 1) := by decide +kernel
theorem dX0_removeFrames_19 : decode cX0_removeFrames 19 = .ok (.istore_n 2, 1) := by decide +kernel
theorem dX0_removeFrames_20 : decode cX0_removeFrames 20 = .ok (.iload_n 2, 1) := by decide +kernel
theorem dX0_removeFrames_21 : decode cX0_removeFrames 21 = .ok (.iload_n 1, 1) := by decide +kernel
theorem dX0_removeFrames_22 : decode cX0_removeFrames 22 = .ok (.if_icmp .ge 21, 3) := by decide +kernel
theorem dX0_removeFrames_25 : decode cX0_removeFrames 25 = .ok (.aload_n 0, 1) := by decide +kernel
theorem dX0_removeFrames_26 : decode cX0_removeFrames 26 = .ok (.aload_n 0, 1) := by decide +kernel
theorem dX0_removeFrames_27 : decode cX0_removeFrames 27 = .ok (.aload_n 0, 1) := by decide +kernel
theorem dX0_removeFrames_28 : decode cX0_removeFrames 28 = .ok (.getfield 43, 3) := by decide +kernel
theorem dX0_removeFrames_31 : decode cX0_removeFrames 31 = .ok (.invokevirtual 125, 3) := by decide +kernel
theorem dX0_removeFrames_34 : decode cX0_removeFrames 34 = .ok (.putfield 43, 3) := by decide +kernel
theorem dX0_removeFrames_37 : decode cX0_removeFrames 37 = .ok (.iinc 2 1, 3) := by decide +kernel
theorem dX0_removeFrames_40 : decode cX0_removeFrames 40 = .ok (.goto (-20), 3) := by decide +kernel
theorem dX0_removeFrames_43 : decode cX0_removeFrames 43 = .ok (.aload_n 0, 1) := by decide +kernel
theorem dX0_removeFrames_44 : decode cX0_removeFrames 44 = .ok (.getfield 46, 3) := by decide +kernel
theorem dX0_removeFrames_47 : decode cX0_removeFrames 47 = .ok (.ireturn, 1) := by decide +kernel
theorem dX0_slotBefore_0 : decode cX0_slotBefore 0 = .ok (.iload_n 1, 1) := by decide +kernel
theorem dX0_slotBefore_1 : decode cX0_slotBefore 1 = .ok (.ifCond .le 9, 3) := by decide +kernel
theorem dX0_slotBefore_4 : decode cX0_slotBefore 4 = .ok (.iload_n 1, 1) := by decide +kernel
theorem dX0_slotBefore_5 : decode cX0_slotBefore 5 = .ok (.iconst 1, 1) := by decide +kernel
theorem dX0_slotBefore_6 : decode cX0_slotBefore 6 = .ok (.isub, 1) := by decide +kernel
theorem dX0_slotBefore_7 : decode cX0_slotBefore 7 = .ok (.goto 9, 3) := by decide +kernel
theorem dX0_slotBefore_10 : decode cX0_slotBefore 10 = .ok (.aload_n 0, 1) := by decide +kernel
theorem dX0_slotBefore_11 : decode cX0_slotBefore 11 = .ok (.getfield 39, 3) := by decide +kernel
theorem dX0_slotBefore_14 : decode cX0_slotBefore 14 = .ok (.iconst 1, 1) := by decide +kernel
theorem dX0_slotBefore_15 : decode cX0_slotBefore 15 = .ok (.isub, 1) := by decide +kernel
theorem dX0_slotBefore_16 : decode cX0_slotBefore 16 = .ok (.ireturn, 1) := by decide +kernel
set_option maxRecDepth 20000 in
theorem ggX0_outcomeOf_X0_isOverrun : GoodIn wsX0_outcomeOf wsX0_isOverrun := goodIn_r _ [7, 2, 8, 9, 10, 11, 12, 13, 14, 15, 16, 17, 18, 19, 20, 21] (by decide +kernel) (by decide +kernel)
set_option maxRecDepth 20000 in
theorem gX0_outcomeOf_X0_isOverrun : GoodIn wsX0_outcomeOf (wsV RX0 115 RX0 yX0_isOverrun wsX0_isOverrun) := goodIn_app (goodIn_of _ (by decide +kernel)) ggX0_outcomeOf_X0_isOverrun
theorem dX0_outcomeOf_0 : decode cX0_outcomeOf 0 = .ok (.aload_n 0, 1) := by decide +kernel
theorem dX0_outcomeOf_1 : decode cX0_outcomeOf 1 = .ok (.getfield 26, 3) := by decide +kernel
theorem dX0_outcomeOf_4 : decode cX0_outcomeOf 4 = .ok (.iconst 1, 1) := by decide +kernel
theorem dX0_outcomeOf_5 : decode cX0_outcomeOf 5 = .ok (.aaload, 1) := by decide +kernel
theorem dX0_outcomeOf_6 : decode cX0_outcomeOf 6 = .ok (.iload_n 2, 1) := by decide +kernel
theorem dX0_outcomeOf_7 : decode cX0_outcomeOf 7 = .ok (.iaload, 1) := by decide +kernel
theorem dX0_outcomeOf_8 : decode cX0_outcomeOf 8 = .ok (.aload_n 0, 1) := by decide +kernel
theorem dX0_outcomeOf_9 : decode cX0_outcomeOf 9 = .ok (.getfield 23, 3) := by decide +kernel
theorem dX0_outcomeOf_12 : decode cX0_outcomeOf 12 = .ok (.iconst 2, 1) := by decide +kernel
theorem dX0_outcomeOf_13 : decode cX0_outcomeOf 13 = .ok (.aaload, 1) := by decide +kernel
theorem dX0_outcomeOf_14 : decode cX0_outcomeOf 14 = .ok (.iload_n 1, 1) := by decide +kernel
theorem dX0_outcomeOf_15 : decode cX0_outcomeOf 15 = .ok (.iaload, 1) := by decide +kernel
theorem dX0_outcomeOf_16 : decode cX0_outcomeOf 16 = .ok (.if_icmp .ne 28, 3) := by decide +kernel
theorem dX0_outcomeOf_19 : decode cX0_outcomeOf 19 = .ok (.aload_n 0, 1) := by decide +kernel
theorem dX0_outcomeOf_20 : decode cX0_outcomeOf 20 = .ok (.getfield 26, 3) := by decide +kernel
theorem dX0_outcomeOf_23 : decode cX0_outcomeOf 23 = .ok (.iconst 0, 1) := by decide +kernel
theorem dX0_outcomeOf_24 : decode cX0_outcomeOf 24 = .ok (.aaload, 1) := by decide +kernel
theorem dX0_outcomeOf_25 : decode cX0_outcomeOf 25 = .ok (.iload_n 2, 1) := by decide +kernel
theorem dX0_outcomeOf_26 : decode cX0_outcomeOf 26 = .ok (.iaload, 1) := by decide +kernel
theorem dX0_outcomeOf_27 : decode cX0_outcomeOf 27 = .ok (.aload_n 0, 1) := by decide +kernel
theorem dX0_outcomeOf_28 : decode cX0_outcomeOf 28 = .ok (.getfield 23, 3) := by decide +kernel
theorem dX0_outcomeOf_31 : decode cX0_outcomeOf 31 = .ok (.iconst 0, 1) := by decide +kernel
theorem dX0_outcomeOf_32 : decode cX0_outcomeOf 32 = .ok (.aaload, 1) := by decide +kernel
theorem dX0_outcomeOf_33 : decode cX0_outcomeOf 33 = .ok (.iload_n 1, 1) := by decide +kernel
theorem dX0_outcomeOf_34 : decode cX0_outcomeOf 34 = .ok (.iaload, 1) := by decide +kernel
theorem dX0_outcomeOf_35 : decode cX0_outcomeOf 35 = .ok (.if_icmp .ne 7, 3) := by decide +kernel
theorem dX0_outcomeOf_38 : decode cX0_outcomeOf 38 = .ok (.iconst 0, 1) := by decide +kernel
theorem dX0_outcomeOf_39 : decode cX0_outcomeOf 39 = .ok (.goto 4, 3) := by decide +kernel
theorem dX0_outcomeOf_42 : decode cX0_outcomeOf 42 = .ok (.iconst 1, 1) := by decide +kernel
theorem dX0_outcomeOf_43 : decode cX0_outcomeOf 43 = .ok (.ireturn, 1) := by decide +kernel
theorem dX0_outcomeOf_44 : decode cX0_outcomeOf 44 = .ok (.aload_n 0, 1) := by decide +kernel
theorem dX0_outcomeOf_45 : decode cX0_outcomeOf 45 = .ok (.iload_n 1, 1) := by decide +kernel
theorem dX0_outcomeOf_46 : decode cX0_outcomeOf 46 = .ok (.invokevirtual 115, 3) := by decide +kernel
theorem dX0_outcomeOf_49 : decode cX0_outcomeOf 49 = .ok (.ifCond .eq 7, 3) := by decide +kernel
theorem dX0_outcomeOf_52 : decode cX0_outcomeOf 52 = .ok (.iconst 2, 1) := by decide +kernel
theorem dX0_outcomeOf_53 : decode cX0_outcomeOf 53 = .ok (.goto 4, 3) := by decide +kernel
theorem dX0_outcomeOf_56 : decode cX0_outcomeOf 56 = .ok (.iconst 3, 1) := by decide +kernel
theorem dX0_outcomeOf_57 : decode cX0_outcomeOf 57 = .ok (.ireturn, 1) := by decide +kernel
theorem dX0_confess_0 : decode cX0_confess 0 = .ok (.aload_n 0, 1) := by decide +kernel
theorem dX0_confess_1 : decode cX0_confess 1 = .ok (.getfield 46, 3) := by decide +kernel
theorem dX0_confess_4 : decode cX0_confess 4 = .ok (.iconst 1, 1) := by decide +kernel
theorem dX0_confess_5 : decode cX0_confess 5 = .ok (.isub, 1) := by decide +kernel
theorem dX0_confess_6 : decode cX0_confess 6 = .ok (.istore_n 2, 1) := by decide +kernel
theorem dX0_confess_7 : decode cX0_confess 7 = .ok (.iload_n 1, 1) := by decide +kernel
theorem dX0_confess_8 : decode cX0_confess 8 = .ok (.iconst 2, 1) := by decide +kernel
theorem dX0_confess_9 : decode cX0_confess 9 = .ok (.if_icmp .ne 7, 3) := by decide +kernel
theorem dX0_confess_12 : decode cX0_confess 12 = .ok (.iconst 1, 1) := by decide +kernel
theorem dX0_confess_13 : decode cX0_confess 13 = .ok (.goto 4, 3) := by decide +kernel
theorem dX0_confess_16 : decode cX0_confess 16 = .ok (.iconst 0, 1) := by decide +kernel
theorem dX0_confess_17 : decode cX0_confess 17 = .ok (.istore_n 3, 1) := by decide +kernel
theorem dX0_confess_18 : decode cX0_confess 18 = .ok (.iload_n 3, 1) := by decide +kernel
theorem dX0_confess_19 : decode cX0_confess 19 = .ok (.ifCond .eq 14, 3) := by decide +kernel
theorem dX0_confess_22 : decode cX0_confess 22 = .ok (.aload_n 0, 1) := by decide +kernel
theorem dX0_confess_23 : decode cX0_confess 23 = .ok (.getfield 23, 3) := by decide +kernel
theorem dX0_confess_26 : decode cX0_confess 26 = .ok (.iconst 4, 1) := by decide +kernel
theorem dX0_confess_27 : decode cX0_confess 27 = .ok (.aaload, 1) := by decide +kernel
theorem dX0_confess_28 : decode cX0_confess 28 = .ok (.iload_n 2, 1) := by decide +kernel
theorem dX0_confess_29 : decode cX0_confess 29 = .ok (.iaload, 1) := by decide +kernel
theorem dX0_confess_30 : decode cX0_confess 30 = .ok (.goto 14, 3) := by decide +kernel
theorem dX0_confess_33 : decode cX0_confess 33 = .ok (.aload_n 0, 1) := by decide +kernel
theorem dX0_confess_34 : decode cX0_confess 34 = .ok (.getfield 26, 3) := by decide +kernel
theorem dX0_confess_37 : decode cX0_confess 37 = .ok (.iconst 0, 1) := by decide +kernel
theorem dX0_confess_38 : decode cX0_confess 38 = .ok (.aaload, 1) := by decide +kernel
theorem dX0_confess_39 : decode cX0_confess 39 = .ok (.aload_n 0, 1) := by decide +kernel
theorem dX0_confess_40 : decode cX0_confess 40 = .ok (.getfield 43, 3) := by decide +kernel
theorem dX0_confess_43 : decode cX0_confess 43 = .ok (.iaload, 1) := by decide +kernel
theorem dX0_confess_44 : decode cX0_confess 44 = .ok (.istore 4, 2) := by decide +kernel
theorem dX0_confess_46 : decode cX0_confess 46 = .ok (.iconst 0, 1) := by decide +kernel
theorem dX0_confess_47 : decode cX0_confess 47 = .ok (.istore 5, 2) := by decide +kernel
theorem dX0_confess_49 : decode cX0_confess 49 = .ok (.iload 5, 2) := by decide +kernel
theorem dX0_confess_51 : decode cX0_confess 51 = .ok (.bipush 6, 2) := by decide +kernel
theorem dX0_confess_53 : decode cX0_confess 53 = .ok (.if_icmp .ge 30, 3) := by decide +kernel
theorem dX0_confess_56 : decode cX0_confess 56 = .ok (.aload_n 0, 1) := by decide +kernel
theorem dX0_confess_57 : decode cX0_confess 57 = .ok (.getfield 32, 3) := by decide +kernel
theorem dX0_confess_60 : decode cX0_confess 60 = .ok (.iload 5, 2) := by decide +kernel
theorem dX0_confess_62 : decode cX0_confess 62 = .ok (.aaload, 1) := by decide +kernel
theorem dX0_confess_63 : decode cX0_confess 63 = .ok (.iconst 0, 1) := by decide +kernel
theorem dX0_confess_64 : decode cX0_confess 64 = .ok (.aload_n 0, 1) := by decide +kernel
theorem dX0_confess_65 : decode cX0_confess 65 = .ok (.getfield 32, 3) := by decide +kernel
theorem dX0_confess_68 : decode cX0_confess 68 = .ok (.iload 5, 2) := by decide +kernel
theorem dX0_confess_70 : decode cX0_confess 70 = .ok (.aaload, 1) := by decide +kernel
theorem dX0_confess_71 : decode cX0_confess 71 = .ok (.iconst 1, 1) := by decide +kernel
theorem dX0_confess_72 : decode cX0_confess 72 = .ok (.bipush 11, 2) := by decide +kernel
theorem dX0_confess_74 : decode cX0_confess 74 = .ok (.invokestatic 67, 3) := by decide +kernel
theorem dX0_confess_77 : decode cX0_confess 77 = .ok (.iinc 5 1, 3) := by decide +kernel
theorem dX0_confess_80 : decode cX0_confess 80 = .ok (.goto (-31), 3) := by decide +kernel
theorem dX0_confess_83 : decode cX0_confess 83 = .ok (.aload_n 0, 1) := by decide +kernel
theorem dX0_confess_84 : decode cX0_confess 84 = .ok (.getfield 32, 3) := by decide +kernel
theorem dX0_confess_87 : decode cX0_confess 87 = .ok (.iconst 0, 1) := by decide +kernel
theorem dX0_confess_88 : decode cX0_confess 88 = .ok (.aaload, 1) := by decide +kernel
theorem dX0_confess_89 : decode cX0_confess 89 = .ok (.iconst 0, 1) := by decide +kernel
theorem dX0_confess_90 : decode cX0_confess 90 = .ok (.iload_n 3, 1) := by decide +kernel
theorem dX0_confess_91 : decode cX0_confess 91 = .ok (.ifCond .eq 7, 3) := by decide +kernel
theorem dX0_confess_94 : decode cX0_confess 94 = .ok (.iconst 1, 1) := by decide +kernel
theorem dX0_confess_95 : decode cX0_confess 95 = .ok (.goto 4, 3) := by decide +kernel
theorem dX0_confess_98 : decode cX0_confess 98 = .ok (.iconst 2, 1) := by decide +kernel
theorem dX0_confess_99 : decode cX0_confess 99 = .ok (.iastore, 1) := by decide +kernel
theorem dX0_confess_100 : decode cX0_confess 100 = .ok (.aload_n 0, 1) := by decide +kernel
theorem dX0_confess_101 : decode cX0_confess 101 = .ok (.getfield 32, 3) := by decide +kernel
theorem dX0_confess_104 : decode cX0_confess 104 = .ok (.iconst 1, 1) := by decide +kernel
theorem dX0_confess_105 : decode cX0_confess 105 = .ok (.aaload, 1) := by decide +kernel
theorem dX0_confess_106 : decode cX0_confess 106 = .ok (.iconst 0, 1) := by decide +kernel
theorem dX0_confess_107 : decode cX0_confess 107 = .ok (.iload 4, 2) := by decide +kernel
theorem dX0_confess_109 : decode cX0_confess 109 = .ok (.iastore, 1) := by decide +kernel
theorem dX0_confess_110 : decode cX0_confess 110 = .ok (.aload_n 0, 1) := by decide +kernel
theorem dX0_confess_111 : decode cX0_confess 111 = .ok (.getfield 32, 3) := by decide +kernel
theorem dX0_confess_114 : decode cX0_confess 114 = .ok (.iconst 2, 1) := by decide +kernel
theorem dX0_confess_115 : decode cX0_confess 115 = .ok (.aaload, 1) := by decide +kernel
theorem dX0_confess_116 : decode cX0_confess 116 = .ok (.iconst 0, 1) := by decide +kernel
theorem dX0_confess_117 : decode cX0_confess 117 = .ok (.aload_n 0, 1) := by decide +kernel
theorem dX0_confess_118 : decode cX0_confess 118 = .ok (.getfield 23, 3) := by decide +kernel
theorem dX0_confess_121 : decode cX0_confess 121 = .ok (.iconst 0, 1) := by decide +kernel
theorem dX0_confess_122 : decode cX0_confess 122 = .ok (.aaload, 1) := by decide +kernel
theorem dX0_confess_123 : decode cX0_confess 123 = .ok (.iload_n 2, 1) := by decide +kernel
theorem dX0_confess_124 : decode cX0_confess 124 = .ok (.iaload, 1) := by decide +kernel
theorem dX0_confess_125 : decode cX0_confess 125 = .ok (.iastore, 1) := by decide +kernel
theorem dX0_confess_126 : decode cX0_confess 126 = .ok (.aload_n 0, 1) := by decide +kernel
theorem dX0_confess_127 : decode cX0_confess 127 = .ok (.getfield 32, 3) := by decide +kernel
theorem dX0_confess_130 : decode cX0_confess 130 = .ok (.iconst 3, 1) := by decide +kernel
theorem dX0_confess_131 : decode cX0_confess 131 = .ok (.aaload, 1) := by decide +kernel
theorem dX0_confess_132 : decode cX0_confess 132 = .ok (.iconst 0, 1) := by decide +kernel
theorem dX0_confess_133 : decode cX0_confess 133 = .ok (.aload_n 0, 1) := by decide +kernel
theorem dX0_confess_134 : decode cX0_confess 134 = .ok (.getfield 26, 3) := by decide +kernel
theorem dX0_confess_137 : decode cX0_confess 137 = .ok (.iconst 1, 1) := by decide +kernel
theorem dX0_confess_138 : decode cX0_confess 138 = .ok (.aaload, 1) := by decide +kernel
theorem dX0_confess_139 : decode cX0_confess 139 = .ok (.aload_n 0, 1) := by decide +kernel
theorem dX0_confess_140 : decode cX0_confess 140 = .ok (.getfield 43, 3) := by decide +kernel
theorem dX0_confess_143 : decode cX0_confess 143 = .ok (.iaload, 1) := by decide +kernel
theorem dX0_confess_144 : decode cX0_confess 144 = .ok (.iastore, 1) := by decide +kernel
theorem dX0_confess_145 : decode cX0_confess 145 = .ok (.aload_n 0, 1) := by decide +kernel
theorem dX0_confess_146 : decode cX0_confess 146 = .ok (.getfield 32, 3) := by decide +kernel
theorem dX0_confess_149 : decode cX0_confess 149 = .ok (.iconst 4, 1) := by decide +kernel
theorem dX0_confess_150 : decode cX0_confess 150 = .ok (.aaload, 1) := by decide +kernel
theorem dX0_confess_151 : decode cX0_confess 151 = .ok (.iconst 0, 1) := by decide +kernel
theorem dX0_confess_152 : decode cX0_confess 152 = .ok (.aload_n 0, 1) := by decide +kernel
theorem dX0_confess_153 : decode cX0_confess 153 = .ok (.getfield 23, 3) := by decide +kernel
theorem dX0_confess_156 : decode cX0_confess 156 = .ok (.iconst 2, 1) := by decide +kernel
theorem dX0_confess_157 : decode cX0_confess 157 = .ok (.aaload, 1) := by decide +kernel
theorem dX0_confess_158 : decode cX0_confess 158 = .ok (.iload_n 2, 1) := by decide +kernel
theorem dX0_confess_159 : decode cX0_confess 159 = .ok (.iaload, 1) := by decide +kernel
theorem dX0_confess_160 : decode cX0_confess 160 = .ok (.iastore, 1) := by decide +kernel
theorem dX0_confess_161 : decode cX0_confess 161 = .ok (.aload_n 0, 1) := by decide +kernel
theorem dX0_confess_162 : decode cX0_confess 162 = .ok (.getfield 32, 3) := by decide +kernel
theorem dX0_confess_165 : decode cX0_confess 165 = .ok (.iconst 5, 1) := by decide +kernel
theorem dX0_confess_166 : decode cX0_confess 166 = .ok (.aaload, 1) := by decide +kernel
theorem dX0_confess_167 : decode cX0_confess 167 = .ok (.iconst 0, 1) := by decide +kernel
theorem dX0_confess_168 : decode cX0_confess 168 = .ok (.aload_n 0, 1) := by decide +kernel
theorem dX0_confess_169 : decode cX0_confess 169 = .ok (.getfield 52, 3) := by decide +kernel
theorem dX0_confess_172 : decode cX0_confess 172 = .ok (.iastore, 1) := by decide +kernel
theorem dX0_confess_173 : decode cX0_confess 173 = .ok (.aload_n 0, 1) := by decide +kernel
theorem dX0_confess_174 : decode cX0_confess 174 = .ok (.aload_n 0, 1) := by decide +kernel
theorem dX0_confess_175 : decode cX0_confess 175 = .ok (.getfield 55, 3) := by decide +kernel
theorem dX0_confess_178 : decode cX0_confess 178 = .ok (.iconst 1, 1) := by decide +kernel
theorem dX0_confess_179 : decode cX0_confess 179 = .ok (.iadd, 1) := by decide +kernel
theorem dX0_confess_180 : decode cX0_confess 180 = .ok (.bipush 12, 2) := by decide +kernel
theorem dX0_confess_182 : decode cX0_confess 182 = .ok (.invokestatic 128, 3) := by decide +kernel
theorem dX0_confess_185 : decode cX0_confess 185 = .ok (.putfield 55, 3) := by decide +kernel
theorem dX0_confess_188 : decode cX0_confess 188 = .ok (.iload 4, 2) := by decide +kernel
theorem dX0_confess_190 : decode cX0_confess 190 = .ok (.ifCond .lt 14, 3) := by decide +kernel
theorem dX0_confess_193 : decode cX0_confess 193 = .ok (.aload_n 0, 1) := by decide +kernel
theorem dX0_confess_194 : decode cX0_confess 194 = .ok (.getfield 18, 3) := by decide +kernel
theorem dX0_confess_197 : decode cX0_confess 197 = .ok (.iload 4, 2) := by decide +kernel
theorem dX0_confess_199 : decode cX0_confess 199 = .ok (.dup2, 1) := by decide +kernel
theorem dX0_confess_200 : decode cX0_confess 200 = .ok (.iaload, 1) := by decide +kernel
theorem dX0_confess_201 : decode cX0_confess 201 = .ok (.iconst 1, 1) := by decide +kernel
theorem dX0_confess_202 : decode cX0_confess 202 = .ok (.iadd, 1) := by decide +kernel
theorem dX0_confess_203 : decode cX0_confess 203 = .ok (.iastore, 1) := by decide +kernel
theorem dX0_confess_204 : decode cX0_confess 204 = .ok (.return_, 1) := by decide +kernel
theorem dX0_isOverrun_0 : decode cX0_isOverrun 0 = .ok (.aload_n 0, 1) := by decide +kernel
theorem dX0_isOverrun_1 : decode cX0_isOverrun 1 = .ok (.getfield 23, 3) := by decide +kernel
theorem dX0_isOverrun_4 : decode cX0_isOverrun 4 = .ok (.iconst 4, 1) := by decide +kernel
theorem dX0_isOverrun_5 : decode cX0_isOverrun 5 = .ok (.aaload, 1) := by decide +kernel
theorem dX0_isOverrun_6 : decode cX0_isOverrun 6 = .ok (.iload_n 1, 1) := by decide +kernel
theorem dX0_isOverrun_7 : decode cX0_isOverrun 7 = .ok (.iaload, 1) := by decide +kernel
theorem dX0_isOverrun_8 : decode cX0_isOverrun 8 = .ok (.bipush (-9), 2) := by decide +kernel
theorem dX0_isOverrun_10 : decode cX0_isOverrun 10 = .ok (.if_icmp .eq 7, 3) := by decide +kernel
theorem dX0_isOverrun_13 : decode cX0_isOverrun 13 = .ok (.iconst 1, 1) := by decide +kernel
theorem dX0_isOverrun_14 : decode cX0_isOverrun 14 = .ok (.goto 4, 3) := by decide +kernel
theorem dX0_isOverrun_17 : decode cX0_isOverrun 17 = .ok (.iconst 0, 1) := by decide +kernel
theorem dX0_isOverrun_18 : decode cX0_isOverrun 18 = .ok (.ireturn, 1) := by decide +kernel
set_option maxRecDepth 20000 in
theorem ggX0_overrunFrames_X0_isOverrun : GoodIn wsX0_overrunFrames wsX0_isOverrun := goodIn_r _ [6, 7, 8, 9, 10, 11, 12, 13, 14, 15, 16, 17, 18, 19, 20, 21] (by decide +kernel) (by decide +kernel)
set_option maxRecDepth 20000 in
theorem gX0_overrunFrames_X0_isOverrun : GoodIn wsX0_overrunFrames (wsV RX0 115 RX0 yX0_isOverrun wsX0_isOverrun) := goodIn_app (goodIn_of _ (by decide +kernel)) ggX0_overrunFrames_X0_isOverrun
theorem dX0_overrunFrames_0 : decode cX0_overrunFrames 0 = .ok (.iconst 0, 1) := by decide +kernel
theorem dX0_overrunFrames_1 : decode cX0_overrunFrames 1 = .ok (.istore_n 1, 1) := by decide +kernel
theorem dX0_overrunFrames_2 : decode cX0_overrunFrames 2 = .ok (.iconst 0, 1) := by decide +kernel
theorem dX0_overrunFrames_3 : decode cX0_overrunFrames 3 = .ok (.istore_n 2, 1) := by decide +kernel
theorem dX0_overrunFrames_4 : decode cX0_overrunFrames 4 = .ok (.iload_n 2, 1) := by decide +kernel
theorem dX0_overrunFrames_5 : decode cX0_overrunFrames 5 = .ok (.aload_n 0, 1) := by decide +kernel
theorem dX0_overrunFrames_6 : decode cX0_overrunFrames 6 = .ok (.getfield 46, 3) := by decide +kernel
theorem dX0_overrunFrames_9 : decode cX0_overrunFrames 9 = .ok (.if_icmp .ge 20, 3) := by decide +kernel
theorem dX0_overrunFrames_12 : decode cX0_overrunFrames 12 = .ok (.aload_n 0, 1) := by decide +kernel
theorem dX0_overrunFrames_13 : decode cX0_overrunFrames 13 = .ok (.iload_n 2, 1) := by decide +kernel
theorem dX0_overrunFrames_14 : decode cX0_overrunFrames 14 = .ok (.invokevirtual 115, 3) := by decide +kernel
theorem dX0_overrunFrames_17 : decode cX0_overrunFrames 17 = .ok (.ifCond .eq 6, 3) := by decide +kernel
theorem dX0_overrunFrames_20 : decode cX0_overrunFrames 20 = .ok (.iinc 1 1, 3) := by decide +kernel
theorem dX0_overrunFrames_23 : decode cX0_overrunFrames 23 = .ok (.iinc 2 1, 3) := by decide +kernel
theorem dX0_overrunFrames_26 : decode cX0_overrunFrames 26 = .ok (.goto (-22), 3) := by decide +kernel
theorem dX0_overrunFrames_29 : decode cX0_overrunFrames 29 = .ok (.iload_n 1, 1) := by decide +kernel
theorem dX0_overrunFrames_30 : decode cX0_overrunFrames 30 = .ok (.ireturn, 1) := by decide +kernel
theorem dX1_init_0 : decode cX1_init 0 = .ok (.aload_n 0, 1) := by decide +kernel
theorem dX1_init_1 : decode cX1_init 1 = .ok (.invokespecial 3, 3) := by decide +kernel
theorem dX1_init_4 : decode cX1_init 4 = .ok (.aload_n 0, 1) := by decide +kernel
theorem dX1_init_5 : decode cX1_init 5 = .ok (.bipush 120, 2) := by decide +kernel
theorem dX1_init_7 : decode cX1_init 7 = .ok (.newarray .int, 2) := by decide +kernel
theorem dX1_init_9 : decode cX1_init 9 = .ok (.putfield 9, 3) := by decide +kernel
theorem dX1_init_12 : decode cX1_init 12 = .ok (.return_, 1) := by decide +kernel
set_option maxRecDepth 20000 in
theorem ggX2_init_X0_init : GoodIn wsX2_init wsX0_init := goodIn_r _ [17, 18, 2, 3, 19, 20, 21, 22, 23, 24, 25, 26, 27, 28, 29, 30, 6, 31, 32, 33, 34, 35, 36, 37, 38, 39, 40, 41, 46, 47, 48, 49, 50, 51, 52, 53, 54, 55, 56, 57, 58, 59] (by decide +kernel) (by decide +kernel)
set_option maxRecDepth 20000 in
theorem gX2_init_X0_init : GoodIn wsX2_init (wsX0_init) := ggX2_init_X0_init
set_option maxRecDepth 20000 in
theorem ggX2_init_X1_init : GoodIn wsX2_init wsX1_init := goodIn_r _ [43, 44, 2, 3, 19, 45, 66, 67, 68] (by decide +kernel) (by decide +kernel)
set_option maxRecDepth 20000 in
theorem gX2_init_X1_init_n28 : GoodIn wsX2_init (wsX1_init) := ggX2_init_X1_init
theorem dX2_init_0 : decode cX2_init 0 = .ok (.aload_n 0, 1) := by decide +kernel
theorem dX2_init_1 : decode cX2_init 1 = .ok (.invokespecial 1, 3) := by decide +kernel
theorem dX2_init_4 : decode cX2_init 4 = .ok (.aload_n 0, 1) := by decide +kernel
theorem dX2_init_5 : decode cX2_init 5 = .ok (.new 7, 3) := by decide +kernel
theorem dX2_init_8 : decode cX2_init 8 = .ok (.dup, 1) := by decide +kernel
theorem dX2_init_9 : decode cX2_init 9 = .ok (.invokespecial 9, 3) := by decide +kernel
theorem dX2_init_12 : decode cX2_init 12 = .ok (.putfield 10, 3) := by decide +kernel
theorem dX2_init_15 : decode cX2_init 15 = .ok (.aload_n 0, 1) := by decide +kernel
theorem dX2_init_16 : decode cX2_init 16 = .ok (.new 7, 3) := by decide +kernel
theorem dX2_init_19 : decode cX2_init 19 = .ok (.dup, 1) := by decide +kernel
theorem dX2_init_20 : decode cX2_init 20 = .ok (.invokespecial 9, 3) := by decide +kernel
theorem dX2_init_23 : decode cX2_init 23 = .ok (.putfield 16, 3) := by decide +kernel
theorem dX2_init_26 : decode cX2_init 26 = .ok (.aload_n 0, 1) := by decide +kernel
theorem dX2_init_27 : decode cX2_init 27 = .ok (.new 7, 3) := by decide +kernel
theorem dX2_init_30 : decode cX2_init 30 = .ok (.dup, 1) := by decide +kernel
theorem dX2_init_31 : decode cX2_init 31 = .ok (.invokespecial 9, 3) := by decide +kernel
theorem dX2_init_34 : decode cX2_init 34 = .ok (.putfield 19, 3) := by decide +kernel
theorem dX2_init_37 : decode cX2_init 37 = .ok (.aload_n 0, 1) := by decide +kernel
theorem dX2_init_38 : decode cX2_init 38 = .ok (.iconst 5, 1) := by decide +kernel
theorem dX2_init_39 : decode cX2_init 39 = .ok (.anewarray 7, 3) := by decide +kernel
theorem dX2_init_42 : decode cX2_init 42 = .ok (.putfield 22, 3) := by decide +kernel
theorem dX2_init_45 : decode cX2_init 45 = .ok (.aload_n 0, 1) := by decide +kernel
theorem dX2_init_46 : decode cX2_init 46 = .ok (.new 26, 3) := by decide +kernel
theorem dX2_init_49 : decode cX2_init 49 = .ok (.dup, 1) := by decide +kernel
theorem dX2_init_50 : decode cX2_init 50 = .ok (.invokespecial 28, 3) := by decide +kernel
theorem dX2_init_53 : decode cX2_init 53 = .ok (.putfield 29, 3) := by decide +kernel
theorem dX2_init_56 : decode cX2_init 56 = .ok (.iconst 0, 1) := by decide +kernel
theorem dX2_init_57 : decode cX2_init 57 = .ok (.istore_n 1, 1) := by decide +kernel
theorem dX2_init_58 : decode cX2_init 58 = .ok (.iload_n 1, 1) := by decide +kernel
theorem dX2_init_59 : decode cX2_init 59 = .ok (.iconst 5, 1) := by decide +kernel
theorem dX2_init_60 : decode cX2_init 60 = .ok (.if_icmp .ge 22, 3) := by decide +kernel
theorem dX2_init_63 : decode cX2_init 63 = .ok (.aload_n 0, 1) := by decide +kernel
theorem dX2_init_64 : decode cX2_init 64 = .ok (.getfield 22, 3) := by decide +kernel
theorem dX2_init_67 : decode cX2_init 67 = .ok (.iload_n 1, 1) := by decide +kernel
theorem dX2_init_68 : decode cX2_init 68 = .ok (.new 7, 3) := by decide +kernel
theorem dX2_init_71 : decode cX2_init 71 = .ok (.dup, 1) := by decide +kernel
theorem dX2_init_72 : decode cX2_init 72 = .ok (.invokespecial 9, 3) := by decide +kernel
theorem dX2_init_75 : decode cX2_init 75 = .ok (.aastore, 1) := by decide +kernel
theorem dX2_init_76 : decode cX2_init 76 = .ok (.iinc 1 1, 3) := by decide +kernel
theorem dX2_init_79 : decode cX2_init 79 = .ok (.goto (-21), 3) := by decide +kernel
theorem dX2_init_82 : decode cX2_init 82 = .ok (.return_, 1) := by decide +kernel
set_option maxRecDepth 20000 in
theorem ggX2_call_X2_takeAsAction : GoodIn wsX2_call wsX2_takeAsAction := goodIn_r _ [5, 6, 7, 8, 9, 10, 11, 12, 13, 14, 15, 16, 17, 18, 19, 20, 21, 22, 23, 24, 25, 26, 27, 28, 29, 30, 31, 32, 33, 34, 35, 36, 37, 38, 39, 40, 41, 42, 43, 44, 45, 46, 47, 48, 49, 50, 51, 52, 53, 54, 55, 56, 57, 58, 59, 60, 61, 62, 63, 64, 65, 66, 67, 68, 69, 70, 71, 72, 73, 74, 75, 76, 77, 78, 79, 80, 81, 82, 83, 84, 85, 86, 87, 88, 89, 90, 91, 92, 93, 94, 95, 96, 97, 4, 98, 99, 100, 101, 102, 103, 104, 105, 106, 107, 108, 109, 110, 111, 112, 113, 114, 115, 116, 117, 118, 119, 120, 121, 122, 123, 124] (by decide +kernel) (by decide +kernel)
set_option maxRecDepth 20000 in
theorem gX2_call_X2_takeAsAction : GoodIn wsX2_call (wsV RX2 33 RX2 yX2_takeAsAction wsX2_takeAsAction) := goodIn_app (goodIn_of _ (by decide +kernel)) ggX2_call_X2_takeAsAction
theorem dX2_call_0 : decode cX2_call 0 = .ok (.aload_n 0, 1) := by decide +kernel
theorem dX2_call_1 : decode cX2_call 1 = .ok (.iconst 0, 1) := by decide +kernel
theorem dX2_call_2 : decode cX2_call 2 = .ok (.iload_n 1, 1) := by decide +kernel
theorem dX2_call_3 : decode cX2_call 3 = .ok (.iload_n 2, 1) := by decide +kernel
theorem dX2_call_4 : decode cX2_call 4 = .ok (.invokevirtual 33, 3) := by decide +kernel
theorem dX2_call_7 : decode cX2_call 7 = .ok (.ireturn, 1) := by decide +kernel
set_option maxRecDepth 20000 in
theorem ggX2_tail_X2_takeAsAction : GoodIn wsX2_tail wsX2_takeAsAction := goodIn_r _ [5, 6, 7, 8, 9, 10, 11, 12, 13, 14, 15, 16, 17, 18, 19, 20, 21, 22, 23, 24, 25, 26, 27, 28, 29, 30, 31, 32, 33, 34, 35, 36, 37, 38, 39, 40, 41, 42, 43, 44, 45, 46, 47, 48, 49, 50, 51, 52, 53, 54, 55, 56, 57, 58, 59, 60, 61, 62, 63, 64, 65, 66, 67, 68, 69, 70, 71, 72, 73, 74, 75, 76, 77, 78, 79, 80, 81, 82, 83, 84, 85, 86, 87, 88, 89, 90, 91, 92, 93, 94, 95, 96, 97, 4, 98, 99, 100, 101, 102, 103, 104, 105, 106, 107, 108, 109, 110, 111, 112, 113, 114, 115, 116, 117, 118, 119, 120, 121, 122, 123, 124] (by decide +kernel) (by decide +kernel)
set_option maxRecDepth 20000 in
theorem gX2_tail_X2_takeAsAction : GoodIn wsX2_tail (wsV RX2 33 RX2 yX2_takeAsAction wsX2_takeAsAction) := goodIn_app (goodIn_of _ (by decide +kernel)) ggX2_tail_X2_takeAsAction
theorem dX2_tail_0 : decode cX2_tail 0 = .ok (.aload_n 0, 1) := by decide +kernel
theorem dX2_tail_1 : decode cX2_tail 1 = .ok (.iconst 1, 1) := by decide +kernel
theorem dX2_tail_2 : decode cX2_tail 2 = .ok (.iload_n 1, 1) := by decide +kernel
theorem dX2_tail_3 : decode cX2_tail 3 = .ok (.iconst 0, 1) := by decide +kernel
theorem dX2_tail_4 : decode cX2_tail 4 = .ok (.invokevirtual 33, 3) := by decide +kernel
theorem dX2_tail_7 : decode cX2_tail 7 = .ok (.ireturn, 1) := by decide +kernel
set_option maxRecDepth 20000 in
theorem ggX2_ret_X2_takeAsAction : GoodIn wsX2_ret wsX2_takeAsAction := goodIn_r _ [5, 6, 7, 8, 9, 10, 11, 12, 13, 14, 15, 16, 17, 18, 19, 20, 21, 22, 23, 24, 25, 26, 27, 28, 29, 30, 31, 32, 33, 34, 35, 36, 37, 38, 39, 40, 41, 42, 43, 44, 45, 46, 47, 48, 49, 50, 51, 52, 53, 54, 55, 56, 57, 58, 59, 60, 61, 62, 63, 64, 65, 66, 67, 68, 69, 70, 71, 72, 73, 74, 75, 76, 77, 78, 79, 80, 81, 82, 83, 84, 85, 86, 87, 88, 89, 90, 91, 92, 93, 94, 95, 96, 97, 4, 98, 99, 100, 101, 102, 103, 104, 105, 106, 107, 108, 109, 110, 111, 112, 113, 114, 115, 116, 117, 118, 119, 120, 121, 122, 123, 124] (by decide +kernel) (by decide +kernel)
set_option maxRecDepth 20000 in
theorem gX2_ret_X2_takeAsAction : GoodIn wsX2_ret (wsV RX2 33 RX2 yX2_takeAsAction wsX2_takeAsAction) := goodIn_app (goodIn_of _ (by decide +kernel)) ggX2_ret_X2_takeAsAction
theorem dX2_ret_0 : decode cX2_ret 0 = .ok (.aload_n 0, 1) := by decide +kernel
theorem dX2_ret_1 : decode cX2_ret 1 = .ok (.iconst 2, 1) := by decide +kernel
theorem dX2_ret_2 : decode cX2_ret 2 = .ok (.iconst 0, 1) := by decide +kernel
theorem dX2_ret_3 : decode cX2_ret 3 = .ok (.iconst 0, 1) := by decide +kernel
theorem dX2_ret_4 : decode cX2_ret 4 = .ok (.invokevirtual 33, 3) := by decide +kernel
theorem dX2_ret_7 : decode cX2_ret 7 = .ok (.ireturn, 1) := by decide +kernel
set_option maxRecDepth 20000 in
theorem ggX2_raise_X2_takeAsAction : GoodIn wsX2_raise wsX2_takeAsAction := goodIn_r _ [5, 6, 7, 8, 9, 10, 11, 12, 13, 14, 15, 16, 17, 18, 19, 20, 21, 22, 23, 24, 25, 26, 27, 28, 29, 30, 31, 32, 33, 34, 35, 36, 37, 38, 39, 40, 41, 42, 43, 44, 45, 46, 47, 48, 49, 50, 51, 52, 53, 54, 55, 56, 57, 58, 59, 60, 61, 62, 63, 64, 65, 66, 67, 68, 69, 70, 71, 72, 73, 74, 75, 76, 77, 78, 79, 80, 81, 82, 83, 84, 85, 86, 87, 88, 89, 90, 91, 92, 93, 94, 95, 96, 97, 4, 98, 99, 100, 101, 102, 103, 104, 105, 106, 107, 108, 109, 110, 111, 112, 113, 114, 115, 116, 117, 118, 119, 120, 121, 122, 123, 124] (by decide +kernel) (by decide +kernel)
set_option maxRecDepth 20000 in
theorem gX2_raise_X2_takeAsAction : GoodIn wsX2_raise (wsV RX2 33 RX2 yX2_takeAsAction wsX2_takeAsAction) := goodIn_app (goodIn_of _ (by decide +kernel)) ggX2_raise_X2_takeAsAction
theorem dX2_raise_0 : decode cX2_raise 0 = .ok (.aload_n 0, 1) := by decide +kernel
theorem dX2_raise_1 : decode cX2_raise 1 = .ok (.iconst 3, 1) := by decide +kernel
theorem dX2_raise_2 : decode cX2_raise 2 = .ok (.iconst 0, 1) := by decide +kernel
theorem dX2_raise_3 : decode cX2_raise 3 = .ok (.iload_n 1, 1) := by decide +kernel
theorem dX2_raise_4 : decode cX2_raise 4 = .ok (.invokevirtual 33, 3) := by decide +kernel
theorem dX2_raise_7 : decode cX2_raise 7 = .ok (.ireturn, 1) := by decide +kernel
set_option maxRecDepth 20000 in
theorem ggX2_setRepair_X2_record : GoodIn wsX2_setRepair wsX2_record := goodIn_r _ [7, 8, 9, 10, 11, 12, 6, 13, 14, 15, 16, 17, 18, 19, 20, 21, 22, 23, 24, 25, 26, 27, 28, 29, 30, 31, 32, 33, 34, 35, 36, 37, 38, 39, 40, 41, 42, 43, 44, 45, 46, 47, 48, 49, 50, 51, 52, 53, 54, 55, 56, 57, 58, 59] (by decide +kernel) (by decide +kernel)
set_option maxRecDepth 20000 in
theorem gX2_setRepair_X2_record : GoodIn wsX2_setRepair (wsV RX2 37 RX2 yX2_record wsX2_record) := goodIn_app (goodIn_of _ (by decide +kernel)) ggX2_setRepair_X2_record
theorem dX2_setRepair_0 : decode cX2_setRepair 0 = .ok (.iload_n 1, 1) := by decide +kernel
theorem dX2_setRepair_1 : decode cX2_setRepair 1 = .ok (.ifCond .lt 8, 3) := by decide +kernel
theorem dX2_setRepair_4 : decode cX2_setRepair 4 = .ok (.iload_n 1, 1) := by decide +kernel
theorem dX2_setRepair_5 : decode cX2_setRepair 5 = .ok (.iconst 1, 1) := by decide +kernel
theorem dX2_setRepair_6 : decode cX2_setRepair 6 = .ok (.if_icmp .le 5, 3) := by decide +kernel
theorem dX2_setRepair_9 : decode cX2_setRepair 9 = .ok (.iconst (-1), 1) := by decide +kernel
theorem dX2_setRepair_10 : decode cX2_setRepair 10 = .ok (.ireturn, 1) := by decide +kernel
theorem dX2_setRepair_11 : decode cX2_setRepair 11 = .ok (.aload_n 0, 1) := by decide +kernel
theorem dX2_setRepair_12 : decode cX2_setRepair 12 = .ok (.aload_n 0, 1) := by decide +kernel
theorem dX2_setRepair_13 : decode cX2_setRepair 13 = .ok (.getfield 10, 3) := by decide +kernel
theorem dX2_setRepair_16 : decode cX2_setRepair 16 = .ok (.invokevirtual 37, 3) := by decide +kernel
theorem dX2_setRepair_19 : decode cX2_setRepair 19 = .ok (.aload_n 0, 1) := by decide +kernel
theorem dX2_setRepair_20 : decode cX2_setRepair 20 = .ok (.getfield 10, 3) := by decide +kernel
theorem dX2_setRepair_23 : decode cX2_setRepair 23 = .ok (.getfield 41, 3) := by decide +kernel
theorem dX2_setRepair_26 : decode cX2_setRepair 26 = .ok (.istore_n 2, 1) := by decide +kernel
theorem dX2_setRepair_27 : decode cX2_setRepair 27 = .ok (.aload_n 0, 1) := by decide +kernel
theorem dX2_setRepair_28 : decode cX2_setRepair 28 = .ok (.getfield 10, 3) := by decide +kernel
theorem dX2_setRepair_31 : decode cX2_setRepair 31 = .ok (.iload_n 1, 1) := by decide +kernel
theorem dX2_setRepair_32 : decode cX2_setRepair 32 = .ok (.putfield 41, 3) := by decide +kernel
theorem dX2_setRepair_35 : decode cX2_setRepair 35 = .ok (.iload_n 2, 1) := by decide +kernel
theorem dX2_setRepair_36 : decode cX2_setRepair 36 = .ok (.ireturn, 1) := by decide +kernel
set_option maxRecDepth 20000 in
theorem ggX2_begin_X2_isSize : GoodIn wsX2_begin wsX2_isSize := goodIn_r _ [6] (by decide +kernel) (by decide +kernel)
set_option maxRecDepth 20000 in
theorem gX2_begin_X2_isSize : GoodIn wsX2_begin (va_wsS RX2 45 yX2_isSize wsX2_isSize) := goodIn_app (goodIn_of _ (by decide +kernel)) ggX2_begin_X2_isSize
set_option maxRecDepth 20000 in
theorem ggX2_begin_X2_record : GoodIn wsX2_begin wsX2_record := goodIn_r _ [10, 11, 12, 13, 14, 15, 5, 16, 17, 18, 19, 20, 21, 22, 23, 24, 25, 26, 27, 28, 29, 30, 31, 32, 33, 34, 35, 36, 37, 38, 39, 40, 41, 42, 51, 52, 53, 54, 55, 56, 57, 58, 59, 60, 61, 62, 63, 64, 65, 66, 67, 68, 69, 70] (by decide +kernel) (by decide +kernel)
set_option maxRecDepth 20000 in
theorem gX2_begin_X2_record : GoodIn wsX2_begin (wsV RX2 37 RX2 yX2_record wsX2_record) := goodIn_app (goodIn_of _ (by decide +kernel)) ggX2_begin_X2_record
set_option maxRecDepth 20000 in
theorem ggX2_begin_X0_beginAnew : GoodIn wsX2_begin wsX0_beginAnew := goodIn_r _ [46, 23, 24, 25, 26, 27, 28, 29, 34, 35, 37, 47, 48, 49, 50, 57, 58, 59, 60, 61, 62, 63, 64, 65, 66, 67, 68, 69, 70] (by decide +kernel) (by decide +kernel)
set_option maxRecDepth 20000 in
theorem gX2_begin_X0_beginAnew : GoodIn wsX2_begin (wsV RX2 52 RX0 yX0_beginAnew wsX0_beginAnew) := goodIn_app (goodIn_of _ (by decide +kernel)) ggX2_begin_X0_beginAnew
theorem dX2_begin_0 : decode cX2_begin 0 = .ok (.iload_n 1, 1) := by decide +kernel
theorem dX2_begin_1 : decode cX2_begin 1 = .ok (.invokestatic 45, 3) := by decide +kernel
theorem dX2_begin_4 : decode cX2_begin 4 = .ok (.ifCond .ne 5, 3) := by decide +kernel
theorem dX2_begin_7 : decode cX2_begin 7 = .ok (.iconst (-1), 1) := by decide +kernel
theorem dX2_begin_8 : decode cX2_begin 8 = .ok (.ireturn, 1) := by decide +kernel
theorem dX2_begin_9 : decode cX2_begin 9 = .ok (.aload_n 0, 1) := by decide +kernel
theorem dX2_begin_10 : decode cX2_begin 10 = .ok (.aload_n 0, 1) := by decide +kernel
theorem dX2_begin_11 : decode cX2_begin 11 = .ok (.getfield 10, 3) := by decide +kernel
theorem dX2_begin_14 : decode cX2_begin 14 = .ok (.invokevirtual 37, 3) := by decide +kernel
theorem dX2_begin_17 : decode cX2_begin 17 = .ok (.aload_n 0, 1) := by decide +kernel
theorem dX2_begin_18 : decode cX2_begin 18 = .ok (.getfield 10, 3) := by decide +kernel
theorem dX2_begin_21 : decode cX2_begin 21 = .ok (.getfield 49, 3) := by decide +kernel
theorem dX2_begin_24 : decode cX2_begin 24 = .ok (.istore_n 2, 1) := by decide +kernel
theorem dX2_begin_25 : decode cX2_begin 25 = .ok (.aload_n 0, 1) := by decide +kernel
theorem dX2_begin_26 : decode cX2_begin 26 = .ok (.getfield 10, 3) := by decide +kernel
theorem dX2_begin_29 : decode cX2_begin 29 = .ok (.iload_n 1, 1) := by decide +kernel
theorem dX2_begin_30 : decode cX2_begin 30 = .ok (.invokevirtual 52, 3) := by decide +kernel
theorem dX2_begin_33 : decode cX2_begin 33 = .ok (.iload_n 2, 1) := by decide +kernel
theorem dX2_begin_34 : decode cX2_begin 34 = .ok (.ireturn, 1) := by decide +kernel
set_option maxRecDepth 20000 in
theorem ggX2_count_X0_overrunFrames : GoodIn wsX2_count wsX0_overrunFrames := goodIn_r _ [18, 19, 20, 21, 22, 17, 23, 24, 31, 32, 33, 34, 35, 36, 37, 38, 39, 40, 41, 42, 43, 44] (by decide +kernel) (by decide +kernel)
set_option maxRecDepth 20000 in
theorem gX2_count_X0_overrunFrames : GoodIn wsX2_count (wsV RX2 97 RX0 yX0_overrunFrames wsX0_overrunFrames) := goodIn_app (goodIn_of _ (by decide +kernel)) ggX2_count_X0_overrunFrames
theorem dX2_count_0 : decode cX2_count 0 = .ok (.iload_n 1, 1) := by decide +kernel
theorem dX2_count_1 : decode cX2_count 1 = .ok (.tableswitch 254 0 17 #[87, 95, 103, 113, 123, 133, 143, 163, 173, 183, 193, 201, 209, 217, 225, 233, 238, 246], 87) := by decide +kernel
theorem dX2_count_88 : decode cX2_count 88 = .ok (.aload_n 0, 1) := by decide +kernel
theorem dX2_count_89 : decode cX2_count 89 = .ok (.getfield 10, 3) := by decide +kernel
theorem dX2_count_92 : decode cX2_count 92 = .ok (.getfield 75, 3) := by decide +kernel
theorem dX2_count_95 : decode cX2_count 95 = .ok (.ireturn, 1) := by decide +kernel
theorem dX2_count_96 : decode cX2_count 96 = .ok (.aload_n 0, 1) := by decide +kernel
theorem dX2_count_97 : decode cX2_count 97 = .ok (.getfield 10, 3) := by decide +kernel
theorem dX2_count_100 : decode cX2_count 100 = .ok (.getfield 78, 3) := by decide +kernel
theorem dX2_count_103 : decode cX2_count 103 = .ok (.ireturn, 1) := by decide +kernel
theorem dX2_count_104 : decode cX2_count 104 = .ok (.aload_n 0, 1) := by decide +kernel
theorem dX2_count_105 : decode cX2_count 105 = .ok (.getfield 10, 3) := by decide +kernel
theorem dX2_count_108 : decode cX2_count 108 = .ok (.getfield 81, 3) := by decide +kernel
theorem dX2_count_111 : decode cX2_count 111 = .ok (.iconst 0, 1) := by decide +kernel
theorem dX2_count_112 : decode cX2_count 112 = .ok (.iaload, 1) := by decide +kernel
theorem dX2_count_113 : decode cX2_count 113 = .ok (.ireturn, 1) := by decide +kernel
theorem dX2_count_114 : decode cX2_count 114 = .ok (.aload_n 0, 1) := by decide +kernel
theorem dX2_count_115 : decode cX2_count 115 = .ok (.getfield 10, 3) := by decide +kernel
theorem dX2_count_118 : decode cX2_count 118 = .ok (.getfield 81, 3) := by decide +kernel
theorem dX2_count_121 : decode cX2_count 121 = .ok (.iconst 1, 1) := by decide +kernel
theorem dX2_count_122 : decode cX2_count 122 = .ok (.iaload, 1) := by decide +kernel
theorem dX2_count_123 : decode cX2_count 123 = .ok (.ireturn, 1) := by decide +kernel
theorem dX2_count_124 : decode cX2_count 124 = .ok (.aload_n 0, 1) := by decide +kernel
theorem dX2_count_125 : decode cX2_count 125 = .ok (.getfield 10, 3) := by decide +kernel
theorem dX2_count_128 : decode cX2_count 128 = .ok (.getfield 81, 3) := by decide +kernel
theorem dX2_count_131 : decode cX2_count 131 = .ok (.iconst 2, 1) := by decide +kernel
theorem dX2_count_132 : decode cX2_count 132 = .ok (.iaload, 1) := by decide +kernel
theorem dX2_count_133 : decode cX2_count 133 = .ok (.ireturn, 1) := by decide +kernel
theorem dX2_count_134 : decode cX2_count 134 = .ok (.aload_n 0, 1) := by decide +kernel
theorem dX2_count_135 : decode cX2_count 135 = .ok (.getfield 10, 3) := by decide +kernel
theorem dX2_count_138 : decode cX2_count 138 = .ok (.getfield 81, 3) := by decide +kernel
theorem dX2_count_141 : decode cX2_count 141 = .ok (.iconst 3, 1) := by decide +kernel
theorem dX2_count_142 : decode cX2_count 142 = .ok (.iaload, 1) := by decide +kernel
theorem dX2_count_143 : decode cX2_count 143 = .ok (.ireturn, 1) := by decide +kernel
theorem dX2_count_144 : decode cX2_count 144 = .ok (.aload_n 0, 1) := by decide +kernel
theorem dX2_count_145 : decode cX2_count 145 = .ok (.getfield 10, 3) := by decide +kernel
theorem dX2_count_148 : decode cX2_count 148 = .ok (.getfield 85, 3) := by decide +kernel
theorem dX2_count_151 : decode cX2_count 151 = .ok (.iconst 0, 1) := by decide +kernel
theorem dX2_count_152 : decode cX2_count 152 = .ok (.iaload, 1) := by decide +kernel
theorem dX2_count_153 : decode cX2_count 153 = .ok (.aload_n 0, 1) := by decide +kernel
theorem dX2_count_154 : decode cX2_count 154 = .ok (.getfield 10, 3) := by decide +kernel
theorem dX2_count_157 : decode cX2_count 157 = .ok (.getfield 85, 3) := by decide +kernel
theorem dX2_count_160 : decode cX2_count 160 = .ok (.iconst 1, 1) := by decide +kernel
theorem dX2_count_161 : decode cX2_count 161 = .ok (.iaload, 1) := by decide +kernel
theorem dX2_count_162 : decode cX2_count 162 = .ok (.iadd, 1) := by decide +kernel
theorem dX2_count_163 : decode cX2_count 163 = .ok (.ireturn, 1) := by decide +kernel
theorem dX2_count_164 : decode cX2_count 164 = .ok (.aload_n 0, 1) := by decide +kernel
theorem dX2_count_165 : decode cX2_count 165 = .ok (.getfield 10, 3) := by decide +kernel
theorem dX2_count_168 : decode cX2_count 168 = .ok (.getfield 85, 3) := by decide +kernel
theorem dX2_count_171 : decode cX2_count 171 = .ok (.iconst 1, 1) := by decide +kernel
theorem dX2_count_172 : decode cX2_count 172 = .ok (.iaload, 1) := by decide +kernel
theorem dX2_count_173 : decode cX2_count 173 = .ok (.ireturn, 1) := by decide +kernel
theorem dX2_count_174 : decode cX2_count 174 = .ok (.aload_n 0, 1) := by decide +kernel
theorem dX2_count_175 : decode cX2_count 175 = .ok (.getfield 10, 3) := by decide +kernel
theorem dX2_count_178 : decode cX2_count 178 = .ok (.getfield 85, 3) := by decide +kernel
theorem dX2_count_181 : decode cX2_count 181 = .ok (.iconst 2, 1) := by decide +kernel
theorem dX2_count_182 : decode cX2_count 182 = .ok (.iaload, 1) := by decide +kernel
theorem dX2_count_183 : decode cX2_count 183 = .ok (.ireturn, 1) := by decide +kernel
theorem dX2_count_184 : decode cX2_count 184 = .ok (.aload_n 0, 1) := by decide +kernel
theorem dX2_count_185 : decode cX2_count 185 = .ok (.getfield 10, 3) := by decide +kernel
theorem dX2_count_188 : decode cX2_count 188 = .ok (.getfield 85, 3) := by decide +kernel
theorem dX2_count_191 : decode cX2_count 191 = .ok (.iconst 3, 1) := by decide +kernel
theorem dX2_count_192 : decode cX2_count 192 = .ok (.iaload, 1) := by decide +kernel
theorem dX2_count_193 : decode cX2_count 193 = .ok (.ireturn, 1) := by decide +kernel
theorem dX2_count_194 : decode cX2_count 194 = .ok (.aload_n 0, 1) := by decide +kernel
theorem dX2_count_195 : decode cX2_count 195 = .ok (.getfield 10, 3) := by decide +kernel
theorem dX2_count_198 : decode cX2_count 198 = .ok (.getfield 88, 3) := by decide +kernel
theorem dX2_count_201 : decode cX2_count 201 = .ok (.ireturn, 1) := by decide +kernel
theorem dX2_count_202 : decode cX2_count 202 = .ok (.aload_n 0, 1) := by decide +kernel
theorem dX2_count_203 : decode cX2_count 203 = .ok (.getfield 10, 3) := by decide +kernel
theorem dX2_count_206 : decode cX2_count 206 = .ok (.getfield 49, 3) := by decide +kernel
theorem dX2_count_209 : decode cX2_count 209 = .ok (.ireturn, 1) := by decide +kernel
theorem dX2_count_210 : decode cX2_count 210 = .ok (.aload_n 0, 1) := by decide +kernel
theorem dX2_count_211 : decode cX2_count 211 = .ok (.getfield 10, 3) := by decide +kernel
theorem dX2_count_214 : decode cX2_count 214 = .ok (.getfield 91, 3) := by decide +kernel
theorem dX2_count_217 : decode cX2_count 217 = .ok (.ireturn, 1) := by decide +kernel
theorem dX2_count_218 : decode cX2_count 218 = .ok (.aload_n 0, 1) := by decide +kernel
theorem dX2_count_219 : decode cX2_count 219 = .ok (.getfield 10, 3) := by decide +kernel
theorem dX2_count_222 : decode cX2_count 222 = .ok (.getfield 94, 3) := by decide +kernel
theorem dX2_count_225 : decode cX2_count 225 = .ok (.ireturn, 1) := by decide +kernel
theorem dX2_count_226 : decode cX2_count 226 = .ok (.aload_n 0, 1) := by decide +kernel
theorem dX2_count_227 : decode cX2_count 227 = .ok (.getfield 10, 3) := by decide +kernel
theorem dX2_count_230 : decode cX2_count 230 = .ok (.getfield 41, 3) := by decide +kernel
theorem dX2_count_233 : decode cX2_count 233 = .ok (.ireturn, 1) := by decide +kernel
theorem dX2_count_234 : decode cX2_count 234 = .ok (.aload_n 0, 1) := by decide +kernel
theorem dX2_count_235 : decode cX2_count 235 = .ok (.getfield 56, 3) := by decide +kernel
theorem dX2_count_238 : decode cX2_count 238 = .ok (.ireturn, 1) := by decide +kernel
theorem dX2_count_239 : decode cX2_count 239 = .ok (.aload_n 0, 1) := by decide +kernel
theorem dX2_count_240 : decode cX2_count 240 = .ok (.getfield 29, 3) := by decide +kernel
theorem dX2_count_243 : decode cX2_count 243 = .ok (.getfield 62, 3) := by decide +kernel
theorem dX2_count_246 : decode cX2_count 246 = .ok (.ireturn, 1) := by decide +kernel
theorem dX2_count_247 : decode cX2_count 247 = .ok (.aload_n 0, 1) := by decide +kernel
theorem dX2_count_248 : decode cX2_count 248 = .ok (.getfield 10, 3) := by decide +kernel
theorem dX2_count_251 : decode cX2_count 251 = .ok (.invokevirtual 97, 3) := by decide +kernel
theorem dX2_count_254 : decode cX2_count 254 = .ok (.ireturn, 1) := by decide +kernel
theorem dX2_count_255 : decode cX2_count 255 = .ok (.iconst (-1), 1) := by decide +kernel
theorem dX2_count_256 : decode cX2_count 256 = .ok (.ireturn, 1) := by decide +kernel
theorem dX2_frame_0 : decode cX2_frame 0 = .ok (.iload_n 1, 1) := by decide +kernel
theorem dX2_frame_1 : decode cX2_frame 1 = .ok (.ifCond .lt 23, 3) := by decide +kernel
theorem dX2_frame_4 : decode cX2_frame 4 = .ok (.iload_n 1, 1) := by decide +kernel
theorem dX2_frame_5 : decode cX2_frame 5 = .ok (.aload_n 0, 1) := by decide +kernel
theorem dX2_frame_6 : decode cX2_frame 6 = .ok (.getfield 10, 3) := by decide +kernel
theorem dX2_frame_9 : decode cX2_frame 9 = .ok (.getfield 75, 3) := by decide +kernel
theorem dX2_frame_12 : decode cX2_frame 12 = .ok (.if_icmp .ge 12, 3) := by decide +kernel
theorem dX2_frame_15 : decode cX2_frame 15 = .ok (.iload_n 2, 1) := by decide +kernel
theorem dX2_frame_16 : decode cX2_frame 16 = .ok (.ifCond .lt 8, 3) := by decide +kernel
theorem dX2_frame_19 : decode cX2_frame 19 = .ok (.iload_n 2, 1) := by decide +kernel
theorem dX2_frame_20 : decode cX2_frame 20 = .ok (.iconst 5, 1) := by decide +kernel
theorem dX2_frame_21 : decode cX2_frame 21 = .ok (.if_icmp .lt 5, 3) := by decide +kernel
theorem dX2_frame_24 : decode cX2_frame 24 = .ok (.iconst (-1), 1) := by decide +kernel
theorem dX2_frame_25 : decode cX2_frame 25 = .ok (.ireturn, 1) := by decide +kernel
theorem dX2_frame_26 : decode cX2_frame 26 = .ok (.aload_n 0, 1) := by decide +kernel
theorem dX2_frame_27 : decode cX2_frame 27 = .ok (.getfield 10, 3) := by decide +kernel
theorem dX2_frame_30 : decode cX2_frame 30 = .ok (.getfield 100, 3) := by decide +kernel
theorem dX2_frame_33 : decode cX2_frame 33 = .ok (.iload_n 2, 1) := by decide +kernel
theorem dX2_frame_34 : decode cX2_frame 34 = .ok (.aaload, 1) := by decide +kernel
theorem dX2_frame_35 : decode cX2_frame 35 = .ok (.aload_n 0, 1) := by decide +kernel
theorem dX2_frame_36 : decode cX2_frame 36 = .ok (.getfield 10, 3) := by decide +kernel
theorem dX2_frame_39 : decode cX2_frame 39 = .ok (.getfield 75, 3) := by decide +kernel
theorem dX2_frame_42 : decode cX2_frame 42 = .ok (.iconst 1, 1) := by decide +kernel
theorem dX2_frame_43 : decode cX2_frame 43 = .ok (.isub, 1) := by decide +kernel
theorem dX2_frame_44 : decode cX2_frame 44 = .ok (.iload_n 1, 1) := by decide +kernel
theorem dX2_frame_45 : decode cX2_frame 45 = .ok (.isub, 1) := by decide +kernel
theorem dX2_frame_46 : decode cX2_frame 46 = .ok (.iaload, 1) := by decide +kernel
theorem dX2_frame_47 : decode cX2_frame 47 = .ok (.ireturn, 1) := by decide +kernel
theorem dX2_slot_0 : decode cX2_slot 0 = .ok (.iload_n 1, 1) := by decide +kernel
theorem dX2_slot_1 : decode cX2_slot 1 = .ok (.ifCond .lt 23, 3) := by decide +kernel
theorem dX2_slot_4 : decode cX2_slot 4 = .ok (.iload_n 1, 1) := by decide +kernel
theorem dX2_slot_5 : decode cX2_slot 5 = .ok (.aload_n 0, 1) := by decide +kernel
theorem dX2_slot_6 : decode cX2_slot 6 = .ok (.getfield 10, 3) := by decide +kernel
theorem dX2_slot_9 : decode cX2_slot 9 = .ok (.getfield 49, 3) := by decide +kernel
theorem dX2_slot_12 : decode cX2_slot 12 = .ok (.if_icmp .ge 12, 3) := by decide +kernel
