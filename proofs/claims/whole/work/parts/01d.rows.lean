theorem dX0_removeFrame_21 : decode cX0_removeFrame 21 = .ok (.iconst 3, 1) := by decide +kernel
theorem dX0_removeFrame_22 : decode cX0_removeFrame 22 = .ok (.if_icmp .ne 8, 3) := by decide +kernel
theorem dX0_removeFrame_25 : decode cX0_removeFrame 25 = .ok (.aload_n 0, 1) := by decide +kernel
theorem dX0_removeFrame_26 : decode cX0_removeFrame 26 = .ok (.iload_n 1, 1) := by decide +kernel
theorem dX0_removeFrame_27 : decode cX0_removeFrame 27 = .ok (.invokevirtual 122, 3) := by decide +kernel
theorem dX0_removeFrame_30 : decode cX0_removeFrame 30 = .ok (.aload_n 0, 1) := by decide +kernel
theorem dX0_removeFrame_31 : decode cX0_removeFrame 31 = .ok (.getfield 15, 3) := by decide +kernel
theorem dX0_removeFrame_34 : decode cX0_removeFrame 34 = .ok (.iload_n 1, 1) := by decide +kernel
theorem dX0_removeFrame_35 : decode cX0_removeFrame 35 = .ok (.dup2, 1) := by decide +kernel
theorem dX0_removeFrame_36 : decode cX0_removeFrame 36 = .ok (.iaload, 1) := by decide +kernel
theorem dX0_removeFrame_37 : decode cX0_removeFrame 37 = .ok (.iconst 1, 1) := by decide +kernel
theorem dX0_removeFrame_38 : decode cX0_removeFrame 38 = .ok (.iadd, 1) := by decide +kernel
theorem dX0_removeFrame_39 : decode cX0_removeFrame 39 = .ok (.iastore, 1) := by decide +kernel
theorem dX0_removeFrame_40 : decode cX0_removeFrame 40 = .ok (.aload_n 0, 1) := by decide +kernel
theorem dX0_removeFrame_41 : decode cX0_removeFrame 41 = .ok (.dup, 1) := by decide +kernel
theorem dX0_removeFrame_42 : decode cX0_removeFrame 42 = .ok (.getfield 46, 3) := by decide +kernel
theorem dX0_removeFrame_45 : decode cX0_removeFrame 45 = .ok (.iconst 1, 1) := by decide +kernel
theorem dX0_removeFrame_46 : decode cX0_removeFrame 46 = .ok (.isub, 1) := by decide +kernel
theorem dX0_removeFrame_47 : decode cX0_removeFrame 47 = .ok (.putfield 46, 3) := by decide +kernel
theorem dX0_removeFrame_50 : decode cX0_removeFrame 50 = .ok (.aload_n 0, 1) := by decide +kernel
theorem dX0_removeFrame_51 : decode cX0_removeFrame 51 = .ok (.aload_n 0, 1) := by decide +kernel
theorem dX0_removeFrame_52 : decode cX0_removeFrame 52 = .ok (.aload_n 0, 1) := by decide +kernel
theorem dX0_removeFrame_53 : decode cX0_removeFrame 53 = .ok (.getfield 43, 3) := by decide +kernel
theorem dX0_removeFrame_56 : decode cX0_removeFrame 56 = .ok (.invokevirtual 125, 3) := by decide +kernel
theorem dX0_removeFrame_59 : decode cX0_removeFrame 59 = .ok (.putfield 43, 3) := by decide +kernel
theorem dX0_removeFrame_62 : decode cX0_removeFrame 62 = .ok (.iload_n 1, 1) := by decide +kernel
theorem dX0_removeFrame_63 : decode cX0_removeFrame 63 = .ok (.ireturn, 1) := by decide +kernel
set_option maxRecDepth 20000 in
theorem ggX0_removeFrames_X0_slotBefore : GoodIn wsX0_removeFrames wsX0_slotBefore := goodIn_r _ [8, 9, 10, 11, 12, 13, 14, 15, 16, 17, 18, 19, 20, 21, 22, 23] (by decide +kernel) (by decide +kernel)
set_option maxRecDepth 20000 in
theorem gX0_removeFrames_X0_slotBefore : GoodIn wsX0_removeFrames (wsV RX0 125 RX0 yX0_slotBefore wsX0_slotBefore) := goodIn_app (goodIn_of _ (by decide +kernel)) ggX0_removeFrames_X0_slotBefore
theorem dX0_removeFrames_0 : decode cX0_removeFrames 0 = .ok (.aload_n 0, 1) := by decide +kernel
theorem dX0_removeFrames_1 : decode cX0_removeFrames 1 = .ok (.dup, 1) := by decide +kernel
theorem dX0_removeFrames_2 : decode cX0_removeFrames 2 = .ok (.getfield 46, 3) := by decide +kernel
theorem dX0_removeFrames_5 : decode cX0_removeFrames 5 = .ok (.iload_n 1, 1) := by decide +kernel
theorem dX0_removeFrames_6 : decode cX0_removeFrames 6 = .ok (.isub, 1) := by decide +kernel
theorem dX0_removeFrames_7 : decode cX0_removeFrames 7 = .ok (.putfield 46, 3) := by decide +kernel
theorem dX0_removeFrames_10 : decode cX0_removeFrames 10 = .ok (.aload_n 0, 1) := by decide +kernel
theorem dX0_removeFrames_11 : decode cX0_removeFrames 11 = .ok (.getfield 64, 3) := by decide +kernel
theorem dX0_removeFrames_14 : decode cX0_removeFrames 14 = .ok (.iconst 1, 1) := by decide +kernel
theorem dX0_removeFrames_15 : decode cX0_removeFrames 15 = .ok (.if_icmp .ne 28, 3) := by decide +kernel
theorem dX0_removeFrames_18 : decode cX0_removeFrames 18 = .ok (.iconst 0, 1) := by decide +kernel
theorem dX0_removeFrames_19 : decode cX0_removeFrames 19 = .ok (.istore_n 2, 1) := by decide +kernel
theorem dX0_removeFrames_20 : decode cX0_removeFrames 20 = .ok (.iload_n 2, 1) := by decide +kernel
theorem dX0_removeFrames_21 : decode cX0_removeFrames 21 = .ok (.iload_n 1, 1) := by decide +kernel
theorem dX0_removeFrames_22 : decode cX0_removeFrames 22 = .ok (.if_icmp .ge 21, 3) := by decide +kernel
theorem dX0_removeFrames_25 : decode cX0_removeFrames 25 = .ok (.aload_n 0, 1) := by decide +kernel
theorem dX0_removeFrames_26 : decode cX0_removeFrames 26 = .ok (.aload_n 0, 1) := by decide +kernel
theorem dX0_removeFrames_27 : decode cX0_removeFrames 27 = .ok (.aload_n 0, 1) := by decide +kernel
theorem dX0_removeFrames_28 : decode cX0_removeFrames 28 = .ok (.getfield 43, 3) := by decide +kernel
theorem dX0_removeFrames_31 : decode cX0_removeFrames 31 = .ok (.invokevirtual 125, 3) := by decide +kernel
theorem dX0_removeFrames_34 : decode cX0_removeFrames 34 = .ok (.putfield 43, 3) := by decide +kernel
theorem dX0_removeFrames_37 : decode cX0_removeFrames 37 = .ok (.iinc 2 1, 3) := by decide +kernel
theorem dX0_removeFrames_40 : decode cX0_removeFrames 40 = .ok (.goto (-20), 3) := by decide +kernel
theorem dX0_removeFrames_43 : decode cX0_removeFrames 43 = .ok (.aload_n 0, 1) := by decide +kernel
theorem dX0_removeFrames_44 : decode cX0_removeFrames 44 = .ok (.getfield 46, 3) := by decide +kernel
theorem dX0_removeFrames_47 : decode cX0_removeFrames 47 = .ok (.ireturn, 1) := by decide +kernel
theorem dX0_slotBefore_0 : decode cX0_slotBefore 0 = .ok (.iload_n 1, 1) := by decide +kernel
theorem dX0_slotBefore_1 : decode cX0_slotBefore 1 = .ok (.ifCond .le 9, 3) := by decide +kernel
theorem dX0_slotBefore_4 : decode cX0_slotBefore 4 = .ok (.iload_n 1, 1) := by decide +kernel
theorem dX0_slotBefore_5 : decode cX0_slotBefore 5 = .ok (.iconst 1, 1) := by decide +kernel
theorem dX0_slotBefore_6 : decode cX0_slotBefore 6 = .ok (.isub, 1) := by decide +kernel
theorem dX0_slotBefore_7 : decode cX0_slotBefore 7 = .ok (.goto 9, 3) := by decide +kernel
theorem dX0_slotBefore_10 : decode cX0_slotBefore 10 = .ok (.aload_n 0, 1) := by decide +kernel
theorem dX0_slotBefore_11 : decode cX0_slotBefore 11 = .ok (.getfield 39, 3) := by decide +kernel
theorem dX0_slotBefore_14 : decode cX0_slotBefore 14 = .ok (.iconst 1, 1) := by decide +kernel
theorem dX0_slotBefore_15 : decode cX0_slotBefore 15 = .ok (.isub, 1) := by decide +kernel
theorem dX0_slotBefore_16 : decode cX0_slotBefore 16 = .ok (.ireturn, 1) := by decide +kernel
set_option maxRecDepth 20000 in
theorem ggX0_outcomeOf_X0_isOverrun : GoodIn wsX0_outcomeOf wsX0_isOverrun := goodIn_r _ [7, 2, 8, 9, 10, 11, 12, 13, 14, 15, 16, 17, 18, 19, 20, 21] (by decide +kernel) (by decide +kernel)
set_option maxRecDepth 20000 in
theorem gX0_outcomeOf_X0_isOverrun : GoodIn wsX0_outcomeOf (wsV RX0 115 RX0 yX0_isOverrun wsX0_isOverrun) := goodIn_app (goodIn_of _ (by decide +kernel)) ggX0_outcomeOf_X0_isOverrun
theorem dX0_outcomeOf_0 : decode cX0_outcomeOf 0 = .ok (.aload_n 0, 1) := by decide +kernel
theorem dX0_outcomeOf_1 : decode cX0_outcomeOf 1 = .ok (.getfield 26, 3) := by decide +kernel
theorem dX0_outcomeOf_4 : decode cX0_outcomeOf 4 = .ok (.iconst 1, 1) := by decide +kernel
theorem dX0_outcomeOf_5 : decode cX0_outcomeOf 5 = .ok (.aaload, 1) := by decide +kernel
theorem dX0_outcomeOf_6 : decode cX0_outcomeOf 6 = .ok (.iload_n 2, 1) := by decide +kernel
theorem dX0_outcomeOf_7 : decode cX0_outcomeOf 7 = .ok (.iaload, 1) := by decide +kernel
theorem dX0_outcomeOf_8 : decode cX0_outcomeOf 8 = .ok (.aload_n 0, 1) := by decide +kernel
theorem dX0_outcomeOf_9 : decode cX0_outcomeOf 9 = .ok (.getfield 23, 3) := by decide +kernel
theorem dX0_outcomeOf_12 : decode cX0_outcomeOf 12 = .ok (.iconst 2, 1) := by decide +kernel
theorem dX0_outcomeOf_13 : decode cX0_outcomeOf 13 = .ok (.aaload, 1) := by decide +kernel
theorem dX0_outcomeOf_14 : decode cX0_outcomeOf 14 = .ok (.iload_n 1, 1) := by decide +kernel
theorem dX0_outcomeOf_15 : decode cX0_outcomeOf 15 = .ok (.iaload, 1) := by decide +kernel
theorem dX0_outcomeOf_16 : decode cX0_outcomeOf 16 = .ok (.if_icmp .ne 28, 3) := by decide +kernel
theorem dX0_outcomeOf_19 : decode cX0_outcomeOf 19 = .ok (.aload_n 0, 1) := by decide +kernel
theorem dX0_outcomeOf_20 : decode cX0_outcomeOf 20 = .ok (.getfield 26, 3) := by decide +kernel
theorem dX0_outcomeOf_23 : decode cX0_outcomeOf 23 = .ok (.iconst 0, 1) := by decide +kernel
theorem dX0_outcomeOf_24 : decode cX0_outcomeOf 24 = .ok (.aaload, 1) := by decide +kernel
theorem dX0_outcomeOf_25 : decode cX0_outcomeOf 25 = .ok (.iload_n 2, 1) := by decide +kernel
theorem dX0_outcomeOf_26 : decode cX0_outcomeOf 26 = .ok (.iaload, 1) := by decide +kernel
theorem dX0_outcomeOf_27 : decode cX0_outcomeOf 27 = .ok (.aload_n 0, 1) := by decide +kernel
theorem dX0_outcomeOf_28 : decode cX0_outcomeOf 28 = .ok (.getfield 23, 3) := by decide +kernel
theorem dX0_outcomeOf_31 : decode cX0_outcomeOf 31 = .ok (.iconst 0, 1) := by decide +kernel
theorem dX0_outcomeOf_32 : decode cX0_outcomeOf 32 = .ok (.aaload, 1) := by decide +kernel
theorem dX0_outcomeOf_33 : decode cX0_outcomeOf 33 = .ok (.iload_n 1, 1) := by decide +kernel
theorem dX0_outcomeOf_34 : decode cX0_outcomeOf 34 = .ok (.iaload, 1) := by decide +kernel
theorem dX0_outcomeOf_35 : decode cX0_outcomeOf 35 = .ok (.if_icmp .ne 7, 3) := by decide +kernel
theorem dX0_outcomeOf_38 : decode cX0_outcomeOf 38 = .ok (.iconst 0, 1) := by decide +kernel
theorem dX0_outcomeOf_39 : decode cX0_outcomeOf 39 = .ok (.goto 4, 3) := by decide +kernel
theorem dX0_outcomeOf_42 : decode cX0_outcomeOf 42 = .ok (.iconst 1, 1) := by decide +kernel
theorem dX0_outcomeOf_43 : decode cX0_outcomeOf 43 = .ok (.ireturn, 1) := by decide +kernel
theorem dX0_outcomeOf_44 : decode cX0_outcomeOf 44 = .ok (.aload_n 0, 1) := by decide +kernel
theorem dX0_outcomeOf_45 : decode cX0_outcomeOf 45 = .ok (.iload_n 1, 1) := by decide +kernel
theorem dX0_outcomeOf_46 : decode cX0_outcomeOf 46 = .ok (.invokevirtual 115, 3) := by decide +kernel
theorem dX0_outcomeOf_49 : decode cX0_outcomeOf 49 = .ok (.ifCond .eq 7, 3) := by decide +kernel
theorem dX0_outcomeOf_52 : decode cX0_outcomeOf 52 = .ok (.iconst 2, 1) := by decide +kernel
theorem dX0_outcomeOf_53 : decode cX0_outcomeOf 53 = .ok (.goto 4, 3) := by decide +kernel
theorem dX0_outcomeOf_56 : decode cX0_outcomeOf 56 = .ok (.iconst 3, 1) := by decide +kernel
theorem dX0_outcomeOf_57 : decode cX0_outcomeOf 57 = .ok (.ireturn, 1) := by decide +kernel
theorem dX0_confess_0 : decode cX0_confess 0 = .ok (.aload_n 0, 1) := by decide +kernel
theorem dX0_confess_1 : decode cX0_confess 1 = .ok (.getfield 46, 3) := by decide +kernel
theorem dX0_confess_4 : decode cX0_confess 4 = .ok (.iconst 1, 1) := by decide +kernel
theorem dX0_confess_5 : decode cX0_confess 5 = .ok (.isub, 1) := by decide +kernel
theorem dX0_confess_6 : decode cX0_confess 6 = .ok (.istore_n 2, 1) := by decide +kernel
theorem dX0_confess_7 : decode cX0_confess 7 = .ok (.iload_n 1, 1) := by decide +kernel
theorem dX0_confess_8 : decode cX0_confess 8 = .ok (.iconst 2, 1) := by decide +kernel
theorem dX0_confess_9 : decode cX0_confess 9 = .ok (.if_icmp .ne 7, 3) := by decide +kernel
theorem dX0_confess_12 : decode cX0_confess 12 = .ok (.iconst 1, 1) := by decide +kernel
theorem dX0_confess_13 : decode cX0_confess 13 = .ok (.goto 4, 3) := by decide +kernel
theorem dX0_confess_16 : decode cX0_confess 16 = .ok (.iconst 0, 1) := by decide +kernel
theorem dX0_confess_17 : decode cX0_confess 17 = .ok (.istore_n 3, 1) := by decide +kernel
theorem dX0_confess_18 : decode cX0_confess 18 = .ok (.iload_n 3, 1) := by decide +kernel
theorem dX0_confess_19 : decode cX0_confess 19 = .ok (.ifCond .eq 14, 3) := by decide +kernel
theorem dX0_confess_22 : decode cX0_confess 22 = .ok (.aload_n 0, 1) := by decide +kernel
theorem dX0_confess_23 : decode cX0_confess 23 = .ok (.getfield 23, 3) := by decide +kernel
theorem dX0_confess_26 : decode cX0_confess 26 = .ok (.iconst 4, 1) := by decide +kernel
theorem dX0_confess_27 : decode cX0_confess 27 = .ok (.aaload, 1) := by decide +kernel
theorem dX0_confess_28 : decode cX0_confess 28 = .ok (.iload_n 2, 1) := by decide +kernel
theorem dX0_confess_29 : decode cX0_confess 29 = .ok (.iaload, 1) := by decide +kernel
theorem dX0_confess_30 : decode cX0_confess 30 = .ok (.goto 14, 3) := by decide +kernel
theorem dX0_confess_33 : decode cX0_confess 33 = .ok (.aload_n 0, 1) := by decide +kernel
theorem dX0_confess_34 : decode cX0_confess 34 = .ok (.getfield 26, 3) := by decide +kernel
theorem dX0_confess_37 : decode cX0_confess 37 = .ok (.iconst 0, 1) := by decide +kernel
theorem dX0_confess_38 : decode cX0_confess 38 = .ok (.aaload, 1) := by decide +kernel
theorem dX0_confess_39 : decode cX0_confess 39 = .ok (.aload_n 0, 1) := by decide +kernel
theorem dX0_confess_40 : decode cX0_confess 40 = .ok (.getfield 43, 3) := by decide +kernel
theorem dX0_confess_43 : decode cX0_confess 43 = .ok (.iaload, 1) := by decide +kernel
theorem dX0_confess_44 : decode cX0_confess 44 = .ok (.istore 4, 2) := by decide +kernel
theorem dX0_confess_46 : decode cX0_confess 46 = .ok (.iconst 0, 1) := by decide +kernel
theorem dX0_confess_47 : decode cX0_confess 47 = .ok (.istore 5, 2) := by decide +kernel
theorem dX0_confess_49 : decode cX0_confess 49 = .ok (.iload 5, 2) := by decide +kernel
theorem dX0_confess_51 : decode cX0_confess 51 = .ok (.bipush 6, 2) := by decide +kernel
theorem dX0_confess_53 : decode cX0_confess 53 = .ok (.if_icmp .ge 30, 3) := by decide +kernel
theorem dX0_confess_56 : decode cX0_confess 56 = .ok (.aload_n 0, 1) := by decide +kernel
theorem dX0_confess_57 : decode cX0_confess 57 = .ok (.getfield 32, 3) := by decide +kernel
theorem dX0_confess_60 : decode cX0_confess 60 = .ok (.iload 5, 2) := by decide +kernel
theorem dX0_confess_62 : decode cX0_confess 62 = .ok (.aaload, 1) := by decide +kernel
theorem dX0_confess_63 : decode cX0_confess 63 = .ok (.iconst 0, 1) := by decide +kernel
theorem dX0_confess_64 : decode cX0_confess 64 = .ok (.aload_n 0, 1) := by decide +kernel
theorem dX0_confess_65 : decode cX0_confess 65 = .ok (.getfield 32, 3) := by decide +kernel
theorem dX0_confess_68 : decode cX0_confess 68 = .ok (.iload 5, 2) := by decide +kernel
theorem dX0_confess_70 : decode cX0_confess 70 = .ok (.aaload, 1) := by decide +kernel
theorem dX0_confess_71 : decode cX0_confess 71 = .ok (.iconst 1, 1) := by decide +kernel
theorem dX0_confess_72 : decode cX0_confess 72 = .ok (.bipush 11, 2) := by decide +kernel
theorem dX0_confess_74 : decode cX0_confess 74 = .ok (.invokestatic 67, 3) := by decide +kernel
theorem dX0_confess_77 : decode cX0_confess 77 = .ok (.iinc 5 1, 3) := by decide +kernel
theorem dX0_confess_80 : decode cX0_confess 80 = .ok (.goto (-31), 3) := by decide +kernel
theorem dX0_confess_83 : decode cX0_confess 83 = .ok (.aload_n 0, 1) := by decide +kernel
theorem dX0_confess_84 : decode cX0_confess 84 = .ok (.getfield 32, 3) := by decide +kernel
theorem dX0_confess_87 : decode cX0_confess 87 = .ok (.iconst 0, 1) := by decide +kernel
theorem dX0_confess_88 : decode cX0_confess 88 = .ok (.aaload, 1) := by decide +kernel
theorem dX0_confess_89 : decode cX0_confess 89 = .ok (.iconst 0, 1) := by decide +kernel
theorem dX0_confess_90 : decode cX0_confess 90 = .ok (.iload_n 3, 1) := by decide +kernel
theorem dX0_confess_91 : decode cX0_confess 91 = .ok (.ifCond .eq 7, 3) := by decide +kernel
theorem dX0_confess_94 : decode cX0_confess 94 = .ok (.iconst 1, 1) := by decide +kernel
theorem dX0_confess_95 : decode cX0_confess 95 = .ok (.goto 4, 3) := by decide +kernel
theorem dX0_confess_98 : decode cX0_confess 98 = .ok (.iconst 2, 1) := by decide +kernel
theorem dX0_confess_99 : decode cX0_confess 99 = .ok (.iastore, 1) := by decide +kernel
theorem dX0_confess_100 : decode cX0_confess 100 = .ok (.aload_n 0, 1) := by decide +kernel
theorem dX0_confess_101 : decode cX0_confess 101 = .ok (.getfield 32, 3) := by decide +kernel
theorem dX0_confess_104 : decode cX0_confess 104 = .ok (.iconst 1, 1) := by decide +kernel
theorem dX0_confess_105 : decode cX0_confess 105 = .ok (.aaload, 1) := by decide +kernel
theorem dX0_confess_106 : decode cX0_confess 106 = .ok (.iconst 0, 1) := by decide +kernel
theorem dX0_confess_107 : decode cX0_confess 107 = .ok (.iload 4, 2) := by decide +kernel
theorem dX0_confess_109 : decode cX0_confess 109 = .ok (.iastore, 1) := by decide +kernel
theorem dX0_confess_110 : decode cX0_confess 110 = .ok (.aload_n 0, 1) := by decide +kernel
theorem dX0_confess_111 : decode cX0_confess 111 = .ok (.getfield 32, 3) := by decide +kernel
theorem dX0_confess_114 : decode cX0_confess 114 = .ok (.iconst 2, 1) := by decide +kernel
theorem dX0_confess_115 : decode cX0_confess 115 = .ok (.aaload, 1) := by decide +kernel
theorem dX0_confess_116 : decode cX0_confess 116 = .ok (.iconst 0, 1) := by decide +kernel
theorem dX0_confess_117 : decode cX0_confess 117 = .ok (.aload_n 0, 1) := by decide +kernel
theorem dX0_confess_118 : decode cX0_confess 118 = .ok (.getfield 23, 3) := by decide +kernel
theorem dX0_confess_121 : decode cX0_confess 121 = .ok (.iconst 0, 1) := by decide +kernel
theorem dX0_confess_122 : decode cX0_confess 122 = .ok (.aaload, 1) := by decide +kernel
theorem dX0_confess_123 : decode cX0_confess 123 = .ok (.iload_n 2, 1) := by decide +kernel
theorem dX0_confess_124 : decode cX0_confess 124 = .ok (.iaload, 1) := by decide +kernel
theorem dX0_confess_125 : decode cX0_confess 125 = .ok (.iastore, 1) := by decide +kernel
theorem dX0_confess_126 : decode cX0_confess 126 = .ok (.aload_n 0, 1) := by decide +kernel
theorem dX0_confess_127 : decode cX0_confess 127 = .ok (.getfield 32, 3) := by decide +kernel
theorem dX0_confess_130 : decode cX0_confess 130 = .ok (.iconst 3, 1) := by decide +kernel
theorem dX0_confess_131 : decode cX0_confess 131 = .ok (.aaload, 1) := by decide +kernel
theorem dX0_confess_132 : decode cX0_confess 132 = .ok (.iconst 0, 1) := by decide +kernel
theorem dX0_confess_133 : decode cX0_confess 133 = .ok (.aload_n 0, 1) := by decide +kernel
theorem dX0_confess_134 : decode cX0_confess 134 = .ok (.getfield 26, 3) := by decide +kernel
theorem dX0_confess_137 : decode cX0_confess 137 = .ok (.iconst 1, 1) := by decide +kernel
theorem dX0_confess_138 : decode cX0_confess 138 = .ok (.aaload, 1) := by decide +kernel
theorem dX0_confess_139 : decode cX0_confess 139 = .ok (.aload_n 0, 1) := by decide +kernel
theorem dX0_confess_140 : decode cX0_confess 140 = .ok (.getfield 43, 3) := by decide +kernel
theorem dX0_confess_143 : decode cX0_confess 143 = .ok (.iaload, 1) := by decide +kernel
theorem dX0_confess_144 : decode cX0_confess 144 = .ok (.iastore, 1) := by decide +kernel
theorem dX0_confess_145 : decode cX0_confess 145 = .ok (.aload_n 0, 1) := by decide +kernel
theorem dX0_confess_146 : decode cX0_confess 146 = .ok (.getfield 32, 3) := by decide +kernel
theorem dX0_confess_149 : decode cX0_confess 149 = .ok (.iconst 4, 1) := by decide +kernel
theorem dX0_confess_150 : decode cX0_confess 150 = .ok (.aaload, 1) := by decide +kernel
theorem dX0_confess_151 : decode cX0_confess 151 = .ok (.iconst 0, 1) := by decide +kernel
theorem dX0_confess_152 : decode cX0_confess 152 = .ok (.aload_n 0, 1) := by decide +kernel
theorem dX0_confess_153 : decode cX0_confess 153 = .ok (.getfield 23, 3) := by decide +kernel
theorem dX0_confess_156 : decode cX0_confess 156 = .ok (.iconst 2, 1) := by decide +kernel
theorem dX0_confess_157 : decode cX0_confess 157 = .ok (.aaload, 1) := by decide +kernel
theorem dX0_confess_158 : decode cX0_confess 158 = .ok (.iload_n 2, 1) := by decide +kernel
theorem dX0_confess_159 : decode cX0_confess 159 = .ok (.iaload, 1) := by decide +kernel
theorem dX0_confess_160 : decode cX0_confess 160 = .ok (.iastore, 1) := by decide +kernel
theorem dX0_confess_161 : decode cX0_confess 161 = .ok (.aload_n 0, 1) := by decide +kernel
theorem dX0_confess_162 : decode cX0_confess 162 = .ok (.getfield 32, 3) := by decide +kernel
theorem dX0_confess_165 : decode cX0_confess 165 = .ok (.iconst 5, 1) := by decide +kernel
theorem dX0_confess_166 : decode cX0_confess 166 = .ok (.aaload, 1) := by decide +kernel
theorem dX0_confess_167 : decode cX0_confess 167 = .ok (.iconst 0, 1) := by decide +kernel
theorem dX0_confess_168 : decode cX0_confess 168 = .ok (.aload_n 0, 1) := by decide +kernel
theorem dX0_confess_169 : decode cX0_confess 169 = .ok (.getfield 52, 3) := by decide +kernel
theorem dX0_confess_172 : decode cX0_confess 172 = .ok (.iastore, 1) := by decide +kernel
theorem dX0_confess_173 : decode cX0_confess 173 = .ok (.aload_n 0, 1) := by decide +kernel
theorem dX0_confess_174 : decode cX0_confess 174 = .ok (.aload_n 0, 1) := by decide +kernel
theorem dX0_confess_175 : decode cX0_confess 175 = .ok (.getfield 55, 3) := by decide +kernel
theorem dX0_confess_178 : decode cX0_confess 178 = .ok (.iconst 1, 1) := by decide +kernel
theorem dX0_confess_179 : decode cX0_confess 179 = .ok (.iadd, 1) := by decide +kernel
theorem dX0_confess_180 : decode cX0_confess 180 = .ok (.bipush 12, 2) := by decide +kernel
theorem dX0_confess_182 : decode cX0_confess 182 = .ok (.invokestatic 128, 3) := by decide +kernel
theorem dX0_confess_185 : decode cX0_confess 185 = .ok (.putfield 55, 3) := by decide +kernel
theorem dX0_confess_188 : decode cX0_confess 188 = .ok (.iload 4, 2) := by decide +kernel
theorem dX0_confess_190 : decode cX0_confess 190 = .ok (.ifCond .lt 14, 3) := by decide +kernel
theorem dX0_confess_193 : decode cX0_confess 193 = .ok (.aload_n 0, 1) := by decide +kernel
theorem dX0_confess_194 : decode cX0_confess 194 = .ok (.getfield 18, 3) := by decide +kernel
theorem dX0_confess_197 : decode cX0_confess 197 = .ok (.iload 4, 2) := by decide +kernel
theorem dX0_confess_199 : decode cX0_confess 199 = .ok (.dup2, 1) := by decide +kernel
theorem dX0_confess_200 : decode cX0_confess 200 = .ok (.iaload, 1) := by decide +kernel
theorem dX0_confess_201 : decode cX0_confess 201 = .ok (.iconst 1, 1) := by decide +kernel
theorem dX0_confess_202 : decode cX0_confess 202 = .ok (.iadd, 1) := by decide +kernel
theorem dX0_confess_203 : decode cX0_confess 203 = .ok (.iastore, 1) := by decide +kernel
theorem dX0_confess_204 : decode cX0_confess 204 = .ok (.return_, 1) := by decide +kernel
theorem dX0_isOverrun_0 : decode cX0_isOverrun 0 = .ok (.aload_n 0, 1) := by decide +kernel
theorem dX0_isOverrun_1 : decode cX0_isOverrun 1 = .ok (.getfield 23, 3) := by decide +kernel
theorem dX0_isOverrun_4 : decode cX0_isOverrun 4 = .ok (.iconst 4, 1) := by decide +kernel
theorem dX0_isOverrun_5 : decode cX0_isOverrun 5 = .ok (.aaload, 1) := by decide +kernel
theorem dX0_isOverrun_6 : decode cX0_isOverrun 6 = .ok (.iload_n 1, 1) := by decide +kernel
theorem dX0_isOverrun_7 : decode cX0_isOverrun 7 = .ok (.iaload, 1) := by decide +kernel
theorem dX0_isOverrun_8 : decode cX0_isOverrun 8 = .ok (.bipush (-9), 2) := by decide +kernel
theorem dX0_isOverrun_10 : decode cX0_isOverrun 10 = .ok (.if_icmp .eq 7, 3) := by decide +kernel
theorem dX0_isOverrun_13 : decode cX0_isOverrun 13 = .ok (.iconst 1, 1) := by decide +kernel
theorem dX0_isOverrun_14 : decode cX0_isOverrun 14 = .ok (.goto 4, 3) := by decide +kernel
theorem dX0_isOverrun_17 : decode cX0_isOverrun 17 = .ok (.iconst 0, 1) := by decide +kernel
theorem dX0_isOverrun_18 : decode cX0_isOverrun 18 = .ok (.ireturn, 1) := by decide +kernel
set_option maxRecDepth 20000 in
theorem ggX0_overrunFrames_X0_isOverrun : GoodIn wsX0_overrunFrames wsX0_isOverrun := goodIn_r _ [6, 7, 8, 9, 10, 11, 12, 13, 14, 15, 16, 17, 18, 19, 20, 21] (by decide +kernel) (by decide +kernel)
set_option maxRecDepth 20000 in
theorem gX0_overrunFrames_X0_isOverrun : GoodIn wsX0_overrunFrames (wsV RX0 115 RX0 yX0_isOverrun wsX0_isOverrun) := goodIn_app (goodIn_of _ (by decide +kernel)) ggX0_overrunFrames_X0_isOverrun
theorem dX0_overrunFrames_0 : decode cX0_overrunFrames 0 = .ok (.iconst 0, 1) := by decide +kernel
theorem dX0_overrunFrames_1 : decode cX0_overrunFrames 1 = .ok (.istore_n 1, 1) := by decide +kernel
theorem dX0_overrunFrames_2 : decode cX0_overrunFrames 2 = .ok (.iconst 0, 1) := by decide +kernel
theorem dX0_overrunFrames_3 : decode cX0_overrunFrames 3 = .ok (.istore_n 2, 1) := by decide +kernel
theorem dX0_overrunFrames_4 : decode cX0_overrunFrames 4 = .ok (.iload_n 2, 1) := by decide +kernel
theorem dX0_overrunFrames_5 : decode cX0_overrunFrames 5 = .ok (.aload_n 0, 1) := by decide +kernel
theorem dX0_overrunFrames_6 : decode cX0_overrunFrames 6 = .ok (.getfield 46, 3) := by decide +kernel
theorem dX0_overrunFrames_9 : decode cX0_overrunFrames 9 = .ok (.if_icmp .ge 20, 3) := by decide +kernel
theorem dX0_overrunFrames_12 : decode cX0_overrunFrames 12 = .ok (.aload_n 0, 1) := by decide +kernel
theorem dX0_overrunFrames_13 : decode cX0_overrunFrames 13 = .ok (.iload_n 2, 1) := by decide +kernel
theorem dX0_overrunFrames_14 : decode cX0_overrunFrames 14 = .ok (.invokevirtual 115, 3) := by decide +kernel
theorem dX0_overrunFrames_17 : decode cX0_overrunFrames 17 = .ok (.ifCond .eq 6, 3) := by decide +kernel
theorem dX0_overrunFrames_20 : decode cX0_overrunFrames 20 = .ok (.iinc 1 1, 3) := by decide +kernel
theorem dX0_overrunFrames_23 : decode cX0_overrunFrames 23 = .ok (.iinc 2 1, 3) := by decide +kernel
theorem dX0_overrunFrames_26 : decode cX0_overrunFrames 26 = .ok (.goto (-22), 3) := by decide +kernel
theorem dX0_overrunFrames_29 : decode cX0_overrunFrames 29 = .ok (.iload_n 1, 1) := by decide +kernel
theorem dX0_overrunFrames_30 : decode cX0_overrunFrames 30 = .ok (.ireturn, 1) := by decide +kernel
set_option maxRecDepth 20000 in
theorem ggX0_hitsAhead_X0_outcomeOf : GoodIn wsX0_hitsAhead wsX0_outcomeOf := goodIn_r _ [7, 8, 9, 10, 11, 12, 6, 13, 19, 20, 21, 22, 23, 24, 25, 26, 27, 28, 29, 30, 31, 32] (by decide +kernel) (by decide +kernel)
set_option maxRecDepth 20000 in
theorem gX0_hitsAhead_X0_outcomeOf : GoodIn wsX0_hitsAhead (wsV RX0 119 RX0 yX0_outcomeOf wsX0_outcomeOf) := goodIn_app (goodIn_of _ (by decide +kernel)) ggX0_hitsAhead_X0_outcomeOf
set_option maxRecDepth 20000 in
theorem ggX0_hitsAhead_X0_slotBefore : GoodIn wsX0_hitsAhead wsX0_slotBefore := goodIn_r _ [17, 18, 19, 20, 21, 22, 23, 24, 25, 26, 27, 28, 29, 30, 31, 32] (by decide +kernel) (by decide +kernel)
set_option maxRecDepth 20000 in
theorem gX0_hitsAhead_X0_slotBefore : GoodIn wsX0_hitsAhead (wsV RX0 125 RX0 yX0_slotBefore wsX0_slotBefore) := goodIn_app (goodIn_of _ (by decide +kernel)) ggX0_hitsAhead_X0_slotBefore
theorem dX0_hitsAhead_0 : decode cX0_hitsAhead 0 = .ok (.iconst 0, 1) := by decide +kernel
theorem dX0_hitsAhead_1 : decode cX0_hitsAhead 1 = .ok (.istore_n 2, 1) := by decide +kernel
theorem dX0_hitsAhead_2 : decode cX0_hitsAhead 2 = .ok (.aload_n 0, 1) := by decide +kernel
theorem dX0_hitsAhead_3 : decode cX0_hitsAhead 3 = .ok (.getfield 43, 3) := by decide +kernel
theorem dX0_hitsAhead_6 : decode cX0_hitsAhead 6 = .ok (.istore_n 3, 1) := by decide +kernel
theorem dX0_hitsAhead_7 : decode cX0_hitsAhead 7 = .ok (.iconst 1, 1) := by decide +kernel
theorem dX0_hitsAhead_8 : decode cX0_hitsAhead 8 = .ok (.istore 4, 2) := by decide +kernel
theorem dX0_hitsAhead_10 : decode cX0_hitsAhead 10 = .ok (.iload 4, 2) := by decide +kernel
theorem dX0_hitsAhead_12 : decode cX0_hitsAhead 12 = .ok (.iload_n 1, 1) := by decide +kernel
theorem dX0_hitsAhead_13 : decode cX0_hitsAhead 13 = .ok (.if_icmp .gt 43, 3) := by decide +kernel
theorem dX0_hitsAhead_16 : decode cX0_hitsAhead 16 = .ok (.aload_n 0, 1) := by decide +kernel
theorem dX0_hitsAhead_17 : decode cX0_hitsAhead 17 = .ok (.aload_n 0, 1) := by decide +kernel
theorem dX0_hitsAhead_18 : decode cX0_hitsAhead 18 = .ok (.getfield 46, 3) := by decide +kernel
theorem dX0_hitsAhead_21 : decode cX0_hitsAhead 21 = .ok (.iload 4, 2) := by decide +kernel
theorem dX0_hitsAhead_23 : decode cX0_hitsAhead 23 = .ok (.isub, 1) := by decide +kernel
theorem dX0_hitsAhead_24 : decode cX0_hitsAhead 24 = .ok (.iload_n 3, 1) := by decide +kernel
theorem dX0_hitsAhead_25 : decode cX0_hitsAhead 25 = .ok (.invokevirtual 119, 3) := by decide +kernel
theorem dX0_hitsAhead_28 : decode cX0_hitsAhead 28 = .ok (.istore 5, 2) := by decide +kernel
theorem dX0_hitsAhead_30 : decode cX0_hitsAhead 30 = .ok (.iload 5, 2) := by decide +kernel
theorem dX0_hitsAhead_32 : decode cX0_hitsAhead 32 = .ok (.ifCond .eq 9, 3) := by decide +kernel
theorem dX0_hitsAhead_35 : decode cX0_hitsAhead 35 = .ok (.iload 5, 2) := by decide +kernel
theorem dX0_hitsAhead_37 : decode cX0_hitsAhead 37 = .ok (.iconst 1, 1) := by decide +kernel
theorem dX0_hitsAhead_38 : decode cX0_hitsAhead 38 = .ok (.if_icmp .ne 6, 3) := by decide +kernel
theorem dX0_hitsAhead_41 : decode cX0_hitsAhead 41 = .ok (.iinc 2 1, 3) := by decide +kernel
theorem dX0_hitsAhead_44 : decode cX0_hitsAhead 44 = .ok (.aload_n 0, 1) := by decide +kernel
theorem dX0_hitsAhead_45 : decode cX0_hitsAhead 45 = .ok (.iload_n 3, 1) := by decide +kernel
theorem dX0_hitsAhead_46 : decode cX0_hitsAhead 46 = .ok (.invokevirtual 125, 3) := by decide +kernel
theorem dX0_hitsAhead_49 : decode cX0_hitsAhead 49 = .ok (.istore_n 3, 1) := by decide +kernel
theorem dX0_hitsAhead_50 : decode cX0_hitsAhead 50 = .ok (.iinc 4 1, 3) := by decide +kernel
theorem dX0_hitsAhead_53 : decode cX0_hitsAhead 53 = .ok (.goto (-43), 3) := by decide +kernel
theorem dX0_hitsAhead_56 : decode cX0_hitsAhead 56 = .ok (.iload_n 2, 1) := by decide +kernel
theorem dX0_hitsAhead_57 : decode cX0_hitsAhead 57 = .ok (.ireturn, 1) := by decide +kernel
theorem dX0_misses_0 : decode cX0_misses 0 = .ok (.aload_n 0, 1) := by decide +kernel
theorem dX0_misses_1 : decode cX0_misses 1 = .ok (.getfield 15, 3) := by decide +kernel
theorem dX0_misses_4 : decode cX0_misses 4 = .ok (.iconst 2, 1) := by decide +kernel
theorem dX0_misses_5 : decode cX0_misses 5 = .ok (.iaload, 1) := by decide +kernel
theorem dX0_misses_6 : decode cX0_misses 6 = .ok (.aload_n 0, 1) := by decide +kernel
theorem dX0_misses_7 : decode cX0_misses 7 = .ok (.getfield 15, 3) := by decide +kernel
theorem dX0_misses_10 : decode cX0_misses 10 = .ok (.iconst 3, 1) := by decide +kernel
theorem dX0_misses_11 : decode cX0_misses 11 = .ok (.iaload, 1) := by decide +kernel
theorem dX0_misses_12 : decode cX0_misses 12 = .ok (.iadd, 1) := by decide +kernel
theorem dX0_misses_13 : decode cX0_misses 13 = .ok (.ireturn, 1) := by decide +kernel
theorem dX1_init_0 : decode cX1_init 0 = .ok (.aload_n 0, 1) := by decide +kernel
theorem dX1_init_1 : decode cX1_init 1 = .ok (.invokespecial 3, 3) := by decide +kernel
theorem dX1_init_4 : decode cX1_init 4 = .ok (.aload_n 0, 1) := by decide +kernel
theorem dX1_init_5 : decode cX1_init 5 = .ok (.bipush 120, 2) := by decide +kernel
theorem dX1_init_7 : decode cX1_init 7 = .ok (.newarray .int, 2) := by decide +kernel
theorem dX1_init_9 : decode cX1_init 9 = .ok (.putfield 9, 3) := by decide +kernel
theorem dX1_init_12 : decode cX1_init 12 = .ok (.return_, 1) := by decide +kernel
theorem dX1_add_0 : decode cX1_add 0 = .ok (.aload_n 0, 1) := by decide +kernel
theorem dX1_add_1 : decode cX1_add 1 = .ok (.getfield 9, 3) := by decide +kernel
theorem dX1_add_4 : decode cX1_add 4 = .ok (.aload_n 0, 1) := by decide +kernel
theorem dX1_add_5 : decode cX1_add 5 = .ok (.getfield 15, 3) := by decide +kernel
theorem dX1_add_8 : decode cX1_add 8 = .ok (.iload_n 1, 1) := by decide +kernel
theorem dX1_add_9 : decode cX1_add 9 = .ok (.iastore, 1) := by decide +kernel
theorem dX1_add_10 : decode cX1_add 10 = .ok (.aload_n 0, 1) := by decide +kernel
theorem dX1_add_11 : decode cX1_add 11 = .ok (.dup, 1) := by decide +kernel
theorem dX1_add_12 : decode cX1_add 12 = .ok (.getfield 15, 3) := by decide +kernel
theorem dX1_add_15 : decode cX1_add 15 = .ok (.iconst 1, 1) := by decide +kernel
theorem dX1_add_16 : decode cX1_add 16 = .ok (.iadd, 1) := by decide +kernel
theorem dX1_add_17 : decode cX1_add 17 = .ok (.putfield 15, 3) := by decide +kernel
theorem dX1_add_20 : decode cX1_add 20 = .ok (.return_, 1) := by decide +kernel
theorem dX1_isAtEnd_0 : decode cX1_isAtEnd 0 = .ok (.aload_n 0, 1) := by decide +kernel
theorem dX1_isAtEnd_1 : decode cX1_isAtEnd 1 = .ok (.getfield 19, 3) := by decide +kernel
theorem dX1_isAtEnd_4 : decode cX1_isAtEnd 4 = .ok (.aload_n 0, 1) := by decide +kernel
theorem dX1_isAtEnd_5 : decode cX1_isAtEnd 5 = .ok (.getfield 15, 3) := by decide +kernel
theorem dX1_isAtEnd_8 : decode cX1_isAtEnd 8 = .ok (.if_icmp .lt 7, 3) := by decide +kernel
theorem dX1_isAtEnd_11 : decode cX1_isAtEnd 11 = .ok (.iconst 1, 1) := by decide +kernel
theorem dX1_isAtEnd_12 : decode cX1_isAtEnd 12 = .ok (.goto 4, 3) := by decide +kernel
theorem dX1_isAtEnd_15 : decode cX1_isAtEnd 15 = .ok (.iconst 0, 1) := by decide +kernel
theorem dX1_isAtEnd_16 : decode cX1_isAtEnd 16 = .ok (.ireturn, 1) := by decide +kernel
theorem dX1_sign_0 : decode cX1_sign 0 = .ok (.aload_n 0, 1) := by decide +kernel
theorem dX1_sign_1 : decode cX1_sign 1 = .ok (.getfield 19, 3) := by decide +kernel
theorem dX1_sign_4 : decode cX1_sign 4 = .ok (.aload_n 0, 1) := by decide +kernel
theorem dX1_sign_5 : decode cX1_sign 5 = .ok (.getfield 15, 3) := by decide +kernel
theorem dX1_sign_8 : decode cX1_sign 8 = .ok (.if_icmp .ge 15, 3) := by decide +kernel
theorem dX1_sign_11 : decode cX1_sign 11 = .ok (.aload_n 0, 1) := by decide +kernel
theorem dX1_sign_12 : decode cX1_sign 12 = .ok (.getfield 9, 3) := by decide +kernel
theorem dX1_sign_15 : decode cX1_sign 15 = .ok (.aload_n 0, 1) := by decide +kernel
theorem dX1_sign_16 : decode cX1_sign 16 = .ok (.getfield 19, 3) := by decide +kernel
theorem dX1_sign_19 : decode cX1_sign 19 = .ok (.iaload, 1) := by decide +kernel
theorem dX1_sign_20 : decode cX1_sign 20 = .ok (.goto 4, 3) := by decide +kernel
theorem dX1_sign_23 : decode cX1_sign 23 = .ok (.iconst 0, 1) := by decide +kernel
theorem dX1_sign_24 : decode cX1_sign 24 = .ok (.ireturn, 1) := by decide +kernel
theorem dX1_skipSpaces_0 : decode cX1_skipSpaces 0 = .ok (.aload_n 0, 1) := by decide +kernel
theorem dX1_skipSpaces_1 : decode cX1_skipSpaces 1 = .ok (.getfield 19, 3) := by decide +kernel
theorem dX1_skipSpaces_4 : decode cX1_skipSpaces 4 = .ok (.aload_n 0, 1) := by decide +kernel
theorem dX1_skipSpaces_5 : decode cX1_skipSpaces 5 = .ok (.getfield 15, 3) := by decide +kernel
theorem dX1_skipSpaces_8 : decode cX1_skipSpaces 8 = .ok (.if_icmp .ge 30, 3) := by decide +kernel
theorem dX1_skipSpaces_11 : decode cX1_skipSpaces 11 = .ok (.aload_n 0, 1) := by decide +kernel
theorem dX1_skipSpaces_12 : decode cX1_skipSpaces 12 = .ok (.getfield 9, 3) := by decide +kernel
theorem dX1_skipSpaces_15 : decode cX1_skipSpaces 15 = .ok (.aload_n 0, 1) := by decide +kernel
theorem dX1_skipSpaces_16 : decode cX1_skipSpaces 16 = .ok (.getfield 19, 3) := by decide +kernel
theorem dX1_skipSpaces_19 : decode cX1_skipSpaces 19 = .ok (.iaload, 1) := by decide +kernel
theorem dX1_skipSpaces_20 : decode cX1_skipSpaces 20 = .ok (.bipush 32, 2) := by decide +kernel
theorem dX1_skipSpaces_22 : decode cX1_skipSpaces 22 = .ok (.if_icmp .ne 16, 3) := by decide +kernel
theorem dX1_skipSpaces_25 : decode cX1_skipSpaces 25 = .ok (.aload_n 0, 1) := by decide +kernel
theorem dX1_skipSpaces_26 : decode cX1_skipSpaces 26 = .ok (.dup, 1) := by decide +kernel
theorem dX1_skipSpaces_27 : decode cX1_skipSpaces 27 = .ok (.getfield 19, 3) := by decide +kernel
theorem dX1_skipSpaces_30 : decode cX1_skipSpaces 30 = .ok (.iconst 1, 1) := by decide +kernel
theorem dX1_skipSpaces_31 : decode cX1_skipSpaces 31 = .ok (.iadd, 1) := by decide +kernel
theorem dX1_skipSpaces_32 : decode cX1_skipSpaces 32 = .ok (.putfield 19, 3) := by decide +kernel
theorem dX1_skipSpaces_35 : decode cX1_skipSpaces 35 = .ok (.goto (-35), 3) := by decide +kernel
theorem dX1_skipSpaces_38 : decode cX1_skipSpaces 38 = .ok (.return_, 1) := by decide +kernel
set_option maxRecDepth 20000 in
theorem ggX1_readSign_X1_skipSpaces : GoodIn wsX1_readSign wsX1_skipSpaces := goodIn_r _ [6, 1, 7, 8, 13, 14, 15] (by decide +kernel) (by decide +kernel)
set_option maxRecDepth 20000 in
theorem gX1_readSign_X1_skipSpaces : GoodIn wsX1_readSign (wsV RX1 22 RX1 yX1_skipSpaces wsX1_skipSpaces) := goodIn_app (goodIn_of _ (by decide +kernel)) ggX1_readSign_X1_skipSpaces
set_option maxRecDepth 20000 in
theorem ggX1_readSign_X1_sign : GoodIn wsX1_readSign wsX1_sign := goodIn_r _ [12, 1, 7, 8, 13, 14, 15] (by decide +kernel) (by decide +kernel)
set_option maxRecDepth 20000 in
theorem gX1_readSign_X1_sign : GoodIn wsX1_readSign (wsV RX1 25 RX1 yX1_sign wsX1_sign) := goodIn_app (goodIn_of _ (by decide +kernel)) ggX1_readSign_X1_sign
theorem dX1_readSign_0 : decode cX1_readSign 0 = .ok (.aload_n 0, 1) := by decide +kernel
theorem dX1_readSign_1 : decode cX1_readSign 1 = .ok (.invokevirtual 22, 3) := by decide +kernel
theorem dX1_readSign_4 : decode cX1_readSign 4 = .ok (.aload_n 0, 1) := by decide +kernel
theorem dX1_readSign_5 : decode cX1_readSign 5 = .ok (.invokevirtual 25, 3) := by decide +kernel
theorem dX1_readSign_8 : decode cX1_readSign 8 = .ok (.iload_n 1, 1) := by decide +kernel
theorem dX1_readSign_9 : decode cX1_readSign 9 = .ok (.if_icmp .eq 5, 3) := by decide +kernel
theorem dX1_readSign_12 : decode cX1_readSign 12 = .ok (.iconst 0, 1) := by decide +kernel
theorem dX1_readSign_13 : decode cX1_readSign 13 = .ok (.ireturn, 1) := by decide +kernel
theorem dX1_readSign_14 : decode cX1_readSign 14 = .ok (.aload_n 0, 1) := by decide +kernel
theorem dX1_readSign_15 : decode cX1_readSign 15 = .ok (.dup, 1) := by decide +kernel
theorem dX1_readSign_16 : decode cX1_readSign 16 = .ok (.getfield 19, 3) := by decide +kernel
theorem dX1_readSign_19 : decode cX1_readSign 19 = .ok (.iconst 1, 1) := by decide +kernel
theorem dX1_readSign_20 : decode cX1_readSign 20 = .ok (.iadd, 1) := by decide +kernel
theorem dX1_readSign_21 : decode cX1_readSign 21 = .ok (.putfield 19, 3) := by decide +kernel
theorem dX1_readSign_24 : decode cX1_readSign 24 = .ok (.iconst 1, 1) := by decide +kernel
theorem dX1_readSign_25 : decode cX1_readSign 25 = .ok (.ireturn, 1) := by decide +kernel
set_option maxRecDepth 20000 in
theorem ggX1_readNumber_X1_skipSpaces : GoodIn wsX1_readNumber wsX1_skipSpaces := goodIn_r _ [8, 1, 2, 3, 12, 13, 14] (by decide +kernel) (by decide +kernel)
set_option maxRecDepth 20000 in
theorem gX1_readNumber_X1_skipSpaces : GoodIn wsX1_readNumber (wsV RX1 22 RX1 yX1_skipSpaces wsX1_skipSpaces) := goodIn_app (goodIn_of _ (by decide +kernel)) ggX1_readNumber_X1_skipSpaces
set_option maxRecDepth 20000 in
theorem ggX1_readNumber_X1_isDigit : GoodIn wsX1_readNumber wsX1_isDigit := goodIn_r _ [11] (by decide +kernel) (by decide +kernel)
set_option maxRecDepth 20000 in
theorem gX1_readNumber_X1_isDigit : GoodIn wsX1_readNumber (va_wsS RX1 29 yX1_isDigit wsX1_isDigit) := goodIn_app (goodIn_of _ (by decide +kernel)) ggX1_readNumber_X1_isDigit
theorem dX1_readNumber_0 : decode cX1_readNumber 0 = .ok (.aload_n 0, 1) := by decide +kernel
theorem dX1_readNumber_1 : decode cX1_readNumber 1 = .ok (.invokevirtual 22, 3) := by decide +kernel
theorem dX1_readNumber_4 : decode cX1_readNumber 4 = .ok (.aload_n 0, 1) := by decide +kernel
theorem dX1_readNumber_5 : decode cX1_readNumber 5 = .ok (.getfield 19, 3) := by decide +kernel
theorem dX1_readNumber_8 : decode cX1_readNumber 8 = .ok (.istore_n 1, 1) := by decide +kernel
theorem dX1_readNumber_9 : decode cX1_readNumber 9 = .ok (.iconst 0, 1) := by decide +kernel
theorem dX1_readNumber_10 : decode cX1_readNumber 10 = .ok (.istore_n 2, 1) := by decide +kernel
theorem dX1_readNumber_11 : decode cX1_readNumber 11 = .ok (.aload_n 0, 1) := by decide +kernel
theorem dX1_readNumber_12 : decode cX1_readNumber 12 = .ok (.getfield 19, 3) := by decide +kernel
theorem dX1_readNumber_15 : decode cX1_readNumber 15 = .ok (.aload_n 0, 1) := by decide +kernel
theorem dX1_readNumber_16 : decode cX1_readNumber 16 = .ok (.getfield 15, 3) := by decide +kernel
theorem dX1_readNumber_19 : decode cX1_readNumber 19 = .ok (.if_icmp .ge 59, 3) := by decide +kernel
theorem dX1_readNumber_22 : decode cX1_readNumber 22 = .ok (.aload_n 0, 1) := by decide +kernel
theorem dX1_readNumber_23 : decode cX1_readNumber 23 = .ok (.getfield 19, 3) := by decide +kernel
theorem dX1_readNumber_26 : decode cX1_readNumber 26 = .ok (.iload_n 1, 1) := by decide +kernel
theorem dX1_readNumber_27 : decode cX1_readNumber 27 = .ok (.isub, 1) := by decide +kernel
theorem dX1_readNumber_28 : decode cX1_readNumber 28 = .ok (.iconst 3, 1) := by decide +kernel
theorem dX1_readNumber_29 : decode cX1_readNumber 29 = .ok (.if_icmp .gt 49, 3) := by decide +kernel
theorem dX1_readNumber_32 : decode cX1_readNumber 32 = .ok (.aload_n 0, 1) := by decide +kernel
theorem dX1_readNumber_33 : decode cX1_readNumber 33 = .ok (.getfield 9, 3) := by decide +kernel
theorem dX1_readNumber_36 : decode cX1_readNumber 36 = .ok (.aload_n 0, 1) := by decide +kernel
theorem dX1_readNumber_37 : decode cX1_readNumber 37 = .ok (.getfield 19, 3) := by decide +kernel
theorem dX1_readNumber_40 : decode cX1_readNumber 40 = .ok (.iaload, 1) := by decide +kernel
theorem dX1_readNumber_41 : decode cX1_readNumber 41 = .ok (.invokestatic 29, 3) := by decide +kernel
theorem dX1_readNumber_44 : decode cX1_readNumber 44 = .ok (.ifCond .eq 34, 3) := by decide +kernel
theorem dX1_readNumber_47 : decode cX1_readNumber 47 = .ok (.bipush 10, 2) := by decide +kernel
theorem dX1_readNumber_49 : decode cX1_readNumber 49 = .ok (.iload_n 2, 1) := by decide +kernel
theorem dX1_readNumber_50 : decode cX1_readNumber 50 = .ok (.imul, 1) := by decide +kernel
theorem dX1_readNumber_51 : decode cX1_readNumber 51 = .ok (.aload_n 0, 1) := by decide +kernel
theorem dX1_readNumber_52 : decode cX1_readNumber 52 = .ok (.getfield 9, 3) := by decide +kernel
theorem dX1_readNumber_55 : decode cX1_readNumber 55 = .ok (.aload_n 0, 1) := by decide +kernel
theorem dX1_readNumber_56 : decode cX1_readNumber 56 = .ok (.getfield 19, 3) := by decide +kernel
theorem dX1_readNumber_59 : decode cX1_readNumber 59 = .ok (.iaload, 1) := by decide +kernel
theorem dX1_readNumber_60 : decode cX1_readNumber 60 = .ok (.iadd, 1) := by decide +kernel
theorem dX1_readNumber_61 : decode cX1_readNumber 61 = .ok (.bipush 48, 2) := by decide +kernel
theorem dX1_readNumber_63 : decode cX1_readNumber 63 = .ok (.isub, 1) := by decide +kernel
theorem dX1_readNumber_64 : decode cX1_readNumber 64 = .ok (.istore_n 2, 1) := by decide +kernel
theorem dX1_readNumber_65 : decode cX1_readNumber 65 = .ok (.aload_n 0, 1) := by decide +kernel
theorem dX1_readNumber_66 : decode cX1_readNumber 66 = .ok (.dup, 1) := by decide +kernel
theorem dX1_readNumber_67 : decode cX1_readNumber 67 = .ok (.getfield 19, 3) := by decide +kernel
theorem dX1_readNumber_70 : decode cX1_readNumber 70 = .ok (.iconst 1, 1) := by decide +kernel
theorem dX1_readNumber_71 : decode cX1_readNumber 71 = .ok (.iadd, 1) := by decide +kernel
theorem dX1_readNumber_72 : decode cX1_readNumber 72 = .ok (.putfield 19, 3) := by decide +kernel
theorem dX1_readNumber_75 : decode cX1_readNumber 75 = .ok (.goto (-64), 3) := by decide +kernel
theorem dX1_readNumber_78 : decode cX1_readNumber 78 = .ok (.aload_n 0, 1) := by decide +kernel
theorem dX1_readNumber_79 : decode cX1_readNumber 79 = .ok (.getfield 19, 3) := by decide +kernel
theorem dX1_readNumber_82 : decode cX1_readNumber 82 = .ok (.iload_n 1, 1) := by decide +kernel
theorem dX1_readNumber_83 : decode cX1_readNumber 83 = .ok (.isub, 1) := by decide +kernel
theorem dX1_readNumber_84 : decode cX1_readNumber 84 = .ok (.istore_n 3, 1) := by decide +kernel
theorem dX1_readNumber_85 : decode cX1_readNumber 85 = .ok (.iload_n 3, 1) := by decide +kernel
theorem dX1_readNumber_86 : decode cX1_readNumber 86 = .ok (.iconst 1, 1) := by decide +kernel
theorem dX1_readNumber_87 : decode cX1_readNumber 87 = .ok (.if_icmp .eq 24, 3) := by decide +kernel
theorem dX1_readNumber_90 : decode cX1_readNumber 90 = .ok (.iload_n 3, 1) := by decide +kernel
theorem dX1_readNumber_91 : decode cX1_readNumber 91 = .ok (.iconst 1, 1) := by decide +kernel
theorem dX1_readNumber_92 : decode cX1_readNumber 92 = .ok (.if_icmp .le 23, 3) := by decide +kernel
theorem dX1_readNumber_95 : decode cX1_readNumber 95 = .ok (.iload_n 3, 1) := by decide +kernel
theorem dX1_readNumber_96 : decode cX1_readNumber 96 = .ok (.iconst 3, 1) := by decide +kernel
theorem dX1_readNumber_97 : decode cX1_readNumber 97 = .ok (.if_icmp .gt 18, 3) := by decide +kernel
theorem dX1_readNumber_100 : decode cX1_readNumber 100 = .ok (.aload_n 0, 1) := by decide +kernel
theorem dX1_readNumber_101 : decode cX1_readNumber 101 = .ok (.getfield 9, 3) := by decide +kernel
theorem dX1_readNumber_104 : decode cX1_readNumber 104 = .ok (.iload_n 1, 1) := by decide +kernel
theorem dX1_readNumber_105 : decode cX1_readNumber 105 = .ok (.iaload, 1) := by decide +kernel
theorem dX1_readNumber_106 : decode cX1_readNumber 106 = .ok (.bipush 48, 2) := by decide +kernel
theorem dX1_readNumber_108 : decode cX1_readNumber 108 = .ok (.if_icmp .eq 7, 3) := by decide +kernel
theorem dX1_readNumber_111 : decode cX1_readNumber 111 = .ok (.iconst 1, 1) := by decide +kernel
theorem dX1_readNumber_112 : decode cX1_readNumber 112 = .ok (.goto 4, 3) := by decide +kernel
theorem dX1_readNumber_115 : decode cX1_readNumber 115 = .ok (.iconst 0, 1) := by decide +kernel
theorem dX1_readNumber_116 : decode cX1_readNumber 116 = .ok (.istore 4, 2) := by decide +kernel
theorem dX1_readNumber_118 : decode cX1_readNumber 118 = .ok (.iload 4, 2) := by decide +kernel
theorem dX1_readNumber_120 : decode cX1_readNumber 120 = .ok (.ifCond .ne 10, 3) := by decide +kernel
theorem dX1_readNumber_123 : decode cX1_readNumber 123 = .ok (.aload_n 0, 1) := by decide +kernel
theorem dX1_readNumber_124 : decode cX1_readNumber 124 = .ok (.iload_n 1, 1) := by decide +kernel
theorem dX1_readNumber_125 : decode cX1_readNumber 125 = .ok (.putfield 19, 3) := by decide +kernel
theorem dX1_readNumber_128 : decode cX1_readNumber 128 = .ok (.iconst (-1), 1) := by decide +kernel
theorem dX1_readNumber_129 : decode cX1_readNumber 129 = .ok (.ireturn, 1) := by decide +kernel
theorem dX1_readNumber_130 : decode cX1_readNumber 130 = .ok (.iload_n 2, 1) := by decide +kernel
theorem dX1_readNumber_131 : decode cX1_readNumber 131 = .ok (.ireturn, 1) := by decide +kernel
theorem dX1_isDigit_0 : decode cX1_isDigit 0 = .ok (.iload_n 0, 1) := by decide +kernel
theorem dX1_isDigit_1 : decode cX1_isDigit 1 = .ok (.bipush 48, 2) := by decide +kernel
theorem dX1_isDigit_3 : decode cX1_isDigit 3 = .ok (.if_icmp .lt 13, 3) := by decide +kernel
theorem dX1_isDigit_6 : decode cX1_isDigit 6 = .ok (.iload_n 0, 1) := by decide +kernel
theorem dX1_isDigit_7 : decode cX1_isDigit 7 = .ok (.bipush 57, 2) := by decide +kernel
theorem dX1_isDigit_9 : decode cX1_isDigit 9 = .ok (.if_icmp .gt 7, 3) := by decide +kernel
theorem dX1_isDigit_12 : decode cX1_isDigit 12 = .ok (.iconst 1, 1) := by decide +kernel
theorem dX1_isDigit_13 : decode cX1_isDigit 13 = .ok (.goto 4, 3) := by decide +kernel
theorem dX1_isDigit_16 : decode cX1_isDigit 16 = .ok (.iconst 0, 1) := by decide +kernel
theorem dX1_isDigit_17 : decode cX1_isDigit 17 = .ok (.ireturn, 1) := by decide +kernel
set_option maxRecDepth 20000 in
theorem ggX2_init_X0_init : GoodIn wsX2_init wsX0_init := goodIn_r _ [17, 18, 2, 3, 19, 20, 21, 22, 23, 24, 25, 26, 27, 28, 29, 30, 6, 31, 32, 33, 34, 35, 36, 37, 38, 39, 40, 41, 46, 47, 48, 49, 50, 51, 52, 53, 54, 55, 56, 57, 58, 59] (by decide +kernel) (by decide +kernel)
set_option maxRecDepth 20000 in
theorem gX2_init_X0_init : GoodIn wsX2_init (wsX0_init) := ggX2_init_X0_init
set_option maxRecDepth 20000 in
theorem ggX2_init_X1_init : GoodIn wsX2_init wsX1_init := goodIn_r _ [43, 44, 2, 3, 19, 45, 66, 67, 68] (by decide +kernel) (by decide +kernel)
set_option maxRecDepth 20000 in
theorem gX2_init_X1_init_n28 : GoodIn wsX2_init (wsX1_init) := ggX2_init_X1_init
theorem dX2_init_0 : decode cX2_init 0 = .ok (.aload_n 0, 1) := by decide +kernel
theorem dX2_init_1 : decode cX2_init 1 = .ok (.invokespecial 1, 3) := by decide +kernel
theorem dX2_init_4 : decode cX2_init 4 = .ok (.aload_n 0, 1) := by decide +kernel
theorem dX2_init_5 : decode cX2_init 5 = .ok (.new 7, 3) := by decide +kernel
theorem dX2_init_8 : decode cX2_init 8 = .ok (.dup, 1) := by decide +kernel
theorem dX2_init_9 : decode cX2_init 9 = .ok (.invokespecial 9, 3) := by decide +kernel
theorem dX2_init_12 : decode cX2_init 12 = .ok (.putfield 10, 3) := by decide +kernel
theorem dX2_init_15 : decode cX2_init 15 = .ok (.aload_n 0, 1) := by decide +kernel
theorem dX2_init_16 : decode cX2_init 16 = .ok (.new 7, 3) := by decide +kernel
theorem dX2_init_19 : decode cX2_init 19 = .ok (.dup, 1) := by decide +kernel
theorem dX2_init_20 : decode cX2_init 20 = .ok (.invokespecial 9, 3) := by decide +kernel
theorem dX2_init_23 : decode cX2_init 23 = .ok (.putfield 16, 3) := by decide +kernel
theorem dX2_init_26 : decode cX2_init 26 = .ok (.aload_n 0, 1) := by decide +kernel
theorem dX2_init_27 : decode cX2_init 27 = .ok (.new 7, 3) := by decide +kernel
theorem dX2_init_30 : decode cX2_init 30 = .ok (.dup, 1) := by decide +kernel
theorem dX2_init_31 : decode cX2_init 31 = .ok (.invokespecial 9, 3) := by decide +kernel
theorem dX2_init_34 : decode cX2_init 34 = .ok (.putfield 19, 3) := by decide +kernel
theorem dX2_init_37 : decode cX2_init 37 = .ok (.aload_n 0, 1) := by decide +kernel
theorem dX2_init_38 : decode cX2_init 38 = .ok (.iconst 5, 1) := by decide +kernel
theorem dX2_init_39 : decode cX2_init 39 = .ok (.anewarray 7, 3) := by decide +kernel
theorem dX2_init_42 : decode cX2_init 42 = .ok (.putfield 22, 3) := by decide +kernel
theorem dX2_init_45 : decode cX2_init 45 = .ok (.aload_n 0, 1) := by decide +kernel
theorem dX2_init_46 : decode cX2_init 46 = .ok (.new 26, 3) := by decide +kernel
theorem dX2_init_49 : decode cX2_init 49 = .ok (.dup, 1) := by decide +kernel
theorem dX2_init_50 : decode cX2_init 50 = .ok (.invokespecial 28, 3) := by decide +kernel
theorem dX2_init_53 : decode cX2_init 53 = .ok (.putfield 29, 3) := by decide +kernel
theorem dX2_init_56 : decode cX2_init 56 = .ok (.iconst 0, 1) := by decide +kernel
theorem dX2_init_57 : decode cX2_init 57 = .ok (.istore_n 1, 1) := by decide +kernel
theorem dX2_init_58 : decode cX2_init 58 = .ok (.iload_n 1, 1) := by decide +kernel
theorem dX2_init_59 : decode cX2_init 59 = .ok (.iconst 5, 1) := by decide +kernel
theorem dX2_init_60 : decode cX2_init 60 = .ok (.if_icmp .ge 22, 3) := by decide +kernel
theorem dX2_init_63 : decode cX2_init 63 = .ok (.aload_n 0, 1) := by decide +kernel
theorem dX2_init_64 : decode cX2_init 64 = .ok (.getfield 22, 3) := by decide +kernel
theorem dX2_init_67 : decode cX2_init 67 = .ok (.iload_n 1, 1) := by decide +kernel
theorem dX2_init_68 : decode cX2_init 68 = .ok (.new 7, 3) := by decide +kernel
theorem dX2_init_71 : decode cX2_init 71 = .ok (.dup, 1) := by decide +kernel
theorem dX2_init_72 : decode cX2_init 72 = .ok (.invokespecial 9, 3) := by decide +kernel
theorem dX2_init_75 : decode cX2_init 75 = .ok (.aastore, 1) := by decide +kernel
theorem dX2_init_76 : decode cX2_init 76 = .ok (.iinc 1 1, 3) := by decide +kernel
theorem dX2_init_79 : decode cX2_init 79 = .ok (.goto (-21), 3) := by decide +kernel
theorem dX2_init_82 : decode cX2_init 82 = .ok (.return_, 1) := by decide +kernel
set_option maxRecDepth 20000 in
theorem ggX2_call_X2_takeAsAction : GoodIn wsX2_call wsX2_takeAsAction := goodIn_r _ [5, 6, 7, 8, 9, 10, 11, 12, 13, 14, 15, 16, 17, 18, 19, 20, 21, 22, 23, 24, 25, 26, 27, 28, 29, 30, 31, 32, 33, 34, 35, 36, 37, 38, 39, 40, 41, 42, 43, 44, 45, 46, 47, 48, 49, 50, 51, 52, 53, 54, 55, 56, 57, 58, 59, 60, 61, 62, 63, 64, 65, 66, 67, 68, 69, 70, 71, 72, 73, 74, 75, 76, 77, 78, 79, 80, 81, 82, 83, 84, 85, 86, 87, 88, 89, 90, 91, 92, 93, 94, 95, 96, 97, 4, 98, 99, 100, 101, 102, 103, 104, 105, 106, 107, 108, 109, 110, 111, 112, 113, 114, 115, 116, 117, 118, 119, 120, 121, 122, 123, 124] (by decide +kernel) (by decide +kernel)
set_option maxRecDepth 20000 in
theorem gX2_call_X2_takeAsAction : GoodIn wsX2_call (wsV RX2 33 RX2 yX2_takeAsAction wsX2_takeAsAction) := goodIn_app (goodIn_of _ (by decide +kernel)) ggX2_call_X2_takeAsAction
theorem dX2_call_0 : decode cX2_call 0 = .ok (.aload_n 0, 1) := by decide +kernel
theorem dX2_call_1 : decode cX2_call 1 = .ok (.iconst 0, 1) := by decide +kernel
theorem dX2_call_2 : decode cX2_call 2 = .ok (.iload_n 1, 1) := by decide +kernel
theorem dX2_call_3 : decode cX2_call 3 = .ok (.iload_n 2, 1) := by decide +kernel
