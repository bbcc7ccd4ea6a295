theorem dX10_good_46 : decode cX10_good 46 = .ok (.aload_n 0, 1) := by decide +kernel
theorem dX10_good_47 : decode cX10_good 47 = .ok (.getfield 12, 3) := by decide +kernel
theorem dX10_good_50 : decode cX10_good 50 = .ok (.getfield 90, 3) := by decide +kernel
theorem dX10_good_53 : decode cX10_good 53 = .ok (.iload 4, 2) := by decide +kernel
theorem dX10_good_55 : decode cX10_good 55 = .ok (.iaload, 1) := by decide +kernel
theorem dX10_good_56 : decode cX10_good 56 = .ok (.ireturn, 1) := by decide +kernel
set_option maxRecDepth 20000 in
theorem ggX10_chart_X10_sheetAt : GoodIn wsX10_chart wsX10_sheetAt := goodIn_r _ [9, 10, 11, 12, 8, 13, 82, 83, 84, 85, 86, 87, 88, 89, 90, 91, 92, 93, 94] (by decide +kernel) (by decide +kernel)
set_option maxRecDepth 20000 in
theorem gX10_chart_X10_sheetAt : GoodIn wsX10_chart (wsV RX10 93 RX10 yX10_sheetAt wsX10_sheetAt) := goodIn_app (goodIn_r _ [5, 6, 7, 8] (by decide +kernel) (by decide +kernel)) ggX10_chart_X10_sheetAt
set_option maxRecDepth 20000 in
theorem ggX10_chart_X10_isWithin : GoodIn wsX10_chart wsX10_isWithin := goodIn_r _ [13] (by decide +kernel) (by decide +kernel)
set_option maxRecDepth 20000 in
theorem gX10_chart_X10_isWithin : GoodIn wsX10_chart (va_wsS RX10 64 yX10_isWithin wsX10_isWithin) := goodIn_app (goodIn_r _ [11, 12, 8] (by decide +kernel) (by decide +kernel)) ggX10_chart_X10_isWithin
set_option maxRecDepth 20000 in
theorem ggX10_chart_X7_isLane : GoodIn wsX10_chart wsX7_isLane := goodIn_r _ [17, 12, 8, 13] (by decide +kernel) (by decide +kernel)
set_option maxRecDepth 20000 in
theorem gX10_chart_X7_isLane : GoodIn wsX10_chart (va_wsS RX10 97 yX7_isLane wsX7_isLane) := goodIn_app (goodIn_r _ [14, 15, 16] (by decide +kernel) (by decide +kernel)) ggX10_chart_X7_isLane
set_option maxRecDepth 20000 in
theorem ggX10_chart_X10_chartFault : GoodIn wsX10_chart wsX10_chartFault := goodIn_r _ [20, 21, 22, 23, 16, 24, 25, 26, 27, 28, 29, 30, 31, 32, 33, 34, 95, 96, 97] (by decide +kernel) (by decide +kernel)
set_option maxRecDepth 20000 in
theorem gX10_chart_X10_chartFault : GoodIn wsX10_chart (va_wsS RX10 101 yX10_chartFault wsX10_chartFault) := goodIn_app (goodIn_r _ [18, 19, 8] (by decide +kernel) (by decide +kernel)) ggX10_chart_X10_chartFault
set_option maxRecDepth 20000 in
theorem ggX10_chart_X10_faulted : GoodIn wsX10_chart wsX10_faulted := goodIn_r _ [38, 1, 82, 83, 84, 85, 86, 87, 88, 89, 90, 91, 92, 93, 94] (by decide +kernel) (by decide +kernel)
set_option maxRecDepth 20000 in
theorem gX10_chart_X10_faulted : GoodIn wsX10_chart (wsV RX10 105 RX10 yX10_faulted wsX10_faulted) := goodIn_app (goodIn_r _ [35, 36, 37, 8] (by decide +kernel) (by decide +kernel)) ggX10_chart_X10_faulted
set_option maxRecDepth 20000 in
theorem ggX10_chart_X7_hasAbove : GoodIn wsX10_chart wsX7_hasAbove := goodIn_r _ [42, 43, 95, 96, 97] (by decide +kernel) (by decide +kernel)
set_option maxRecDepth 20000 in
theorem gX10_chart_X7_hasAbove : GoodIn wsX10_chart (wsV RX10 108 RX7 yX7_hasAbove wsX7_hasAbove) := goodIn_app (goodIn_r _ [39, 40, 41, 16] (by decide +kernel) (by decide +kernel)) ggX10_chart_X7_hasAbove
set_option maxRecDepth 20000 in
theorem ggX10_chart_X3_beginTrial : GoodIn wsX10_chart wsX3_beginTrial := goodIn_r _ [48, 49, 50, 51, 52, 53, 54, 55, 56, 98, 99, 100, 101, 102] (by decide +kernel) (by decide +kernel)
set_option maxRecDepth 20000 in
theorem gX10_chart_X3_beginTrial : GoodIn wsX10_chart (wsV RX10 68 RX3 yX3_beginTrial wsX3_beginTrial) := goodIn_app (goodIn_r _ [44, 45, 46, 47] (by decide +kernel) (by decide +kernel)) ggX10_chart_X3_beginTrial
set_option maxRecDepth 20000 in
theorem ggX10_chart_X3_tryCommon : GoodIn wsX10_chart wsX3_tryCommon := goodIn_r _ [60, 50, 61, 62, 63, 64, 56, 65, 66, 67, 98, 99, 100, 101, 102] (by decide +kernel) (by decide +kernel)
set_option maxRecDepth 20000 in
theorem gX10_chart_X3_tryCommon : GoodIn wsX10_chart (wsV RX10 75 RX3 yX3_tryCommon wsX3_tryCommon) := goodIn_app (goodIn_r _ [57, 58, 59, 47] (by decide +kernel) (by decide +kernel)) ggX10_chart_X3_tryCommon
set_option maxRecDepth 20000 in
theorem ggX10_chart_X3_endTrial : GoodIn wsX10_chart wsX3_endTrial := goodIn_r _ [71, 50, 56, 49, 55, 51, 52, 53, 54, 72, 73, 74, 75, 47, 76, 77, 78, 79, 80, 81, 58, 59, 60, 61, 62, 63, 64, 65, 66, 67, 98, 99, 100, 101, 102] (by decide +kernel) (by decide +kernel)
set_option maxRecDepth 20000 in
theorem gX10_chart_X3_endTrial : GoodIn wsX10_chart (wsV RX10 82 RX3 yX3_endTrial wsX3_endTrial) := goodIn_app (goodIn_r _ [68, 69, 70, 47] (by decide +kernel) (by decide +kernel)) ggX10_chart_X3_endTrial
theorem dX10_chart_0 : decode cX10_chart 0 = .ok (.aload_n 0, 1) := by decide +kernel
theorem dX10_chart_1 : decode cX10_chart 1 = .ok (.iconst 0, 1) := by decide +kernel
theorem dX10_chart_2 : decode cX10_chart 2 = .ok (.putfield 56, 3) := by decide +kernel
theorem dX10_chart_5 : decode cX10_chart 5 = .ok (.aload_n 0, 1) := by decide +kernel
theorem dX10_chart_6 : decode cX10_chart 6 = .ok (.iload_n 1, 1) := by decide +kernel
theorem dX10_chart_7 : decode cX10_chart 7 = .ok (.invokevirtual 93, 3) := by decide +kernel
theorem dX10_chart_10 : decode cX10_chart 10 = .ok (.astore 6, 2) := by decide +kernel
theorem dX10_chart_12 : decode cX10_chart 12 = .ok (.aload 6, 2) := by decide +kernel
theorem dX10_chart_14 : decode cX10_chart 14 = .ok (.ifnull 14, 3) := by decide +kernel
theorem dX10_chart_17 : decode cX10_chart 17 = .ok (.iload 5, 2) := by decide +kernel
theorem dX10_chart_19 : decode cX10_chart 19 = .ok (.iconst 0, 1) := by decide +kernel
theorem dX10_chart_20 : decode cX10_chart 20 = .ok (.bipush 47, 2) := by decide +kernel
theorem dX10_chart_22 : decode cX10_chart 22 = .ok (.invokestatic 64, 3) := by decide +kernel
theorem dX10_chart_25 : decode cX10_chart 25 = .ok (.ifCond .ne 5, 3) := by decide +kernel
theorem dX10_chart_28 : decode cX10_chart 28 = .ok (.iconst (-1), 1) := by decide +kernel
theorem dX10_chart_29 : decode cX10_chart 29 = .ok (.ireturn, 1) := by decide +kernel
theorem dX10_chart_30 : decode cX10_chart 30 = .ok (.iload_n 2, 1) := by decide +kernel
theorem dX10_chart_31 : decode cX10_chart 31 = .ok (.invokestatic 97, 3) := by decide +kernel
theorem dX10_chart_34 : decode cX10_chart 34 = .ok (.ifCond .ne 6, 3) := by decide +kernel
theorem dX10_chart_37 : decode cX10_chart 37 = .ok (.bipush (-2), 2) := by decide +kernel
theorem dX10_chart_39 : decode cX10_chart 39 = .ok (.ireturn, 1) := by decide +kernel
theorem dX10_chart_40 : decode cX10_chart 40 = .ok (.aload 6, 2) := by decide +kernel
theorem dX10_chart_42 : decode cX10_chart 42 = .ok (.iload_n 2, 1) := by decide +kernel
theorem dX10_chart_43 : decode cX10_chart 43 = .ok (.iload_n 3, 1) := by decide +kernel
theorem dX10_chart_44 : decode cX10_chart 44 = .ok (.iload 4, 2) := by decide +kernel
theorem dX10_chart_46 : decode cX10_chart 46 = .ok (.iload 5, 2) := by decide +kernel
theorem dX10_chart_48 : decode cX10_chart 48 = .ok (.invokestatic 101, 3) := by decide +kernel
theorem dX10_chart_51 : decode cX10_chart 51 = .ok (.istore 7, 2) := by decide +kernel
theorem dX10_chart_53 : decode cX10_chart 53 = .ok (.iload 7, 2) := by decide +kernel
theorem dX10_chart_55 : decode cX10_chart 55 = .ok (.ifCond .eq 10, 3) := by decide +kernel
theorem dX10_chart_58 : decode cX10_chart 58 = .ok (.aload_n 0, 1) := by decide +kernel
theorem dX10_chart_59 : decode cX10_chart 59 = .ok (.iload 7, 2) := by decide +kernel
theorem dX10_chart_61 : decode cX10_chart 61 = .ok (.invokevirtual 105, 3) := by decide +kernel
theorem dX10_chart_64 : decode cX10_chart 64 = .ok (.ireturn, 1) := by decide +kernel
theorem dX10_chart_65 : decode cX10_chart 65 = .ok (.aload 6, 2) := by decide +kernel
theorem dX10_chart_67 : decode cX10_chart 67 = .ok (.sipush 1000, 3) := by decide +kernel
theorem dX10_chart_70 : decode cX10_chart 70 = .ok (.iload_n 3, 1) := by decide +kernel
theorem dX10_chart_71 : decode cX10_chart 71 = .ok (.iload 4, 2) := by decide +kernel
theorem dX10_chart_73 : decode cX10_chart 73 = .ok (.invokevirtual 108, 3) := by decide +kernel
theorem dX10_chart_76 : decode cX10_chart 76 = .ok (.ifCond .eq 6, 3) := by decide +kernel
theorem dX10_chart_79 : decode cX10_chart 79 = .ok (.bipush (-2), 2) := by decide +kernel
theorem dX10_chart_81 : decode cX10_chart 81 = .ok (.ireturn, 1) := by decide +kernel
theorem dX10_chart_82 : decode cX10_chart 82 = .ok (.aload_n 0, 1) := by decide +kernel
theorem dX10_chart_83 : decode cX10_chart 83 = .ok (.getfield 12, 3) := by decide +kernel
theorem dX10_chart_86 : decode cX10_chart 86 = .ok (.invokevirtual 68, 3) := by decide +kernel
theorem dX10_chart_89 : decode cX10_chart 89 = .ok (.iconst 0, 1) := by decide +kernel
theorem dX10_chart_90 : decode cX10_chart 90 = .ok (.istore 8, 2) := by decide +kernel
theorem dX10_chart_92 : decode cX10_chart 92 = .ok (.iload 8, 2) := by decide +kernel
theorem dX10_chart_94 : decode cX10_chart 94 = .ok (.iload 4, 2) := by decide +kernel
theorem dX10_chart_96 : decode cX10_chart 96 = .ok (.if_icmp .ge 42, 3) := by decide +kernel
theorem dX10_chart_99 : decode cX10_chart 99 = .ok (.aload 6, 2) := by decide +kernel
theorem dX10_chart_101 : decode cX10_chart 101 = .ok (.getfield 111, 3) := by decide +kernel
theorem dX10_chart_104 : decode cX10_chart 104 = .ok (.iload_n 3, 1) := by decide +kernel
theorem dX10_chart_105 : decode cX10_chart 105 = .ok (.iload 8, 2) := by decide +kernel
theorem dX10_chart_107 : decode cX10_chart 107 = .ok (.iadd, 1) := by decide +kernel
theorem dX10_chart_108 : decode cX10_chart 108 = .ok (.iaload, 1) := by decide +kernel
theorem dX10_chart_109 : decode cX10_chart 109 = .ok (.istore 9, 2) := by decide +kernel
theorem dX10_chart_111 : decode cX10_chart 111 = .ok (.iload 9, 2) := by decide +kernel
theorem dX10_chart_113 : decode cX10_chart 113 = .ok (.ifCond .lt 19, 3) := by decide +kernel
theorem dX10_chart_116 : decode cX10_chart 116 = .ok (.aload_n 0, 1) := by decide +kernel
theorem dX10_chart_117 : decode cX10_chart 117 = .ok (.getfield 12, 3) := by decide +kernel
theorem dX10_chart_120 : decode cX10_chart 120 = .ok (.iload 5, 2) := by decide +kernel
theorem dX10_chart_122 : decode cX10_chart 122 = .ok (.iload 8, 2) := by decide +kernel
theorem dX10_chart_124 : decode cX10_chart 124 = .ok (.iadd, 1) := by decide +kernel
theorem dX10_chart_125 : decode cX10_chart 125 = .ok (.iload 9, 2) := by decide +kernel
theorem dX10_chart_127 : decode cX10_chart 127 = .ok (.iload 9, 2) := by decide +kernel
theorem dX10_chart_129 : decode cX10_chart 129 = .ok (.invokevirtual 75, 3) := by decide +kernel
theorem dX10_chart_132 : decode cX10_chart 132 = .ok (.iinc 8 1, 3) := by decide +kernel
theorem dX10_chart_135 : decode cX10_chart 135 = .ok (.goto (-43), 3) := by decide +kernel
theorem dX10_chart_138 : decode cX10_chart 138 = .ok (.aload_n 0, 1) := by decide +kernel
theorem dX10_chart_139 : decode cX10_chart 139 = .ok (.getfield 12, 3) := by decide +kernel
theorem dX10_chart_142 : decode cX10_chart 142 = .ok (.aload_n 0, 1) := by decide +kernel
theorem dX10_chart_143 : decode cX10_chart 143 = .ok (.getfield 12, 3) := by decide +kernel
theorem dX10_chart_146 : decode cX10_chart 146 = .ok (.getfield 79, 3) := by decide +kernel
theorem dX10_chart_149 : decode cX10_chart 149 = .ok (.invokevirtual 82, 3) := by decide +kernel
theorem dX10_chart_152 : decode cX10_chart 152 = .ok (.ireturn, 1) := by decide +kernel
set_option maxRecDepth 20000 in
theorem ggX10_chartFault_X7_faultAs : GoodIn wsX10_chartFault wsX7_faultAs := goodIn_r _ [5, 6, 7, 8, 9, 4, 10, 16, 17, 18] (by decide +kernel) (by decide +kernel)
set_option maxRecDepth 20000 in
theorem gX10_chartFault_X7_faultAs : GoodIn wsX10_chartFault (wsV RX10 114 RX7 yX7_faultAs wsX7_faultAs) := goodIn_app (goodIn_r _ [1, 2, 3, 4] (by decide +kernel) (by decide +kernel)) ggX10_chartFault_X7_faultAs
set_option maxRecDepth 20000 in
theorem ggX10_chartFault_X7_holds : GoodIn wsX10_chartFault wsX7_holds := goodIn_r _ [14, 15, 16, 17, 18] (by decide +kernel) (by decide +kernel)
set_option maxRecDepth 20000 in
theorem gX10_chartFault_X7_holds : GoodIn wsX10_chartFault (wsV RX10 117 RX7 yX7_holds wsX7_holds) := goodIn_app (goodIn_r _ [11, 12, 13, 4] (by decide +kernel) (by decide +kernel)) ggX10_chartFault_X7_holds
theorem dX10_chartFault_0 : decode cX10_chartFault 0 = .ok (.aload_n 0, 1) := by decide +kernel
theorem dX10_chartFault_1 : decode cX10_chartFault 1 = .ok (.iload_n 1, 1) := by decide +kernel
theorem dX10_chartFault_2 : decode cX10_chartFault 2 = .ok (.invokevirtual 114, 3) := by decide +kernel
theorem dX10_chartFault_5 : decode cX10_chartFault 5 = .ok (.istore 5, 2) := by decide +kernel
theorem dX10_chartFault_7 : decode cX10_chartFault 7 = .ok (.iload 5, 2) := by decide +kernel
theorem dX10_chartFault_9 : decode cX10_chartFault 9 = .ok (.ifCond .eq 6, 3) := by decide +kernel
theorem dX10_chartFault_12 : decode cX10_chartFault 12 = .ok (.iload 5, 2) := by decide +kernel
theorem dX10_chartFault_14 : decode cX10_chartFault 14 = .ok (.ireturn, 1) := by decide +kernel
theorem dX10_chartFault_15 : decode cX10_chartFault 15 = .ok (.iload_n 3, 1) := by decide +kernel
theorem dX10_chartFault_16 : decode cX10_chartFault 16 = .ok (.ifCond .ge 5, 3) := by decide +kernel
theorem dX10_chartFault_19 : decode cX10_chartFault 19 = .ok (.iconst 4, 1) := by decide +kernel
theorem dX10_chartFault_20 : decode cX10_chartFault 20 = .ok (.ireturn, 1) := by decide +kernel
theorem dX10_chartFault_21 : decode cX10_chartFault 21 = .ok (.iload_n 3, 1) := by decide +kernel
theorem dX10_chartFault_22 : decode cX10_chartFault 22 = .ok (.ifCond .le 14, 3) := by decide +kernel
theorem dX10_chartFault_25 : decode cX10_chartFault 25 = .ok (.aload_n 0, 1) := by decide +kernel
theorem dX10_chartFault_26 : decode cX10_chartFault 26 = .ok (.iload_n 2, 1) := by decide +kernel
theorem dX10_chartFault_27 : decode cX10_chartFault 27 = .ok (.iload_n 3, 1) := by decide +kernel
theorem dX10_chartFault_28 : decode cX10_chartFault 28 = .ok (.invokevirtual 117, 3) := by decide +kernel
theorem dX10_chartFault_31 : decode cX10_chartFault 31 = .ok (.ifCond .ne 5, 3) := by decide +kernel
theorem dX10_chartFault_34 : decode cX10_chartFault 34 = .ok (.iconst 3, 1) := by decide +kernel
theorem dX10_chartFault_35 : decode cX10_chartFault 35 = .ok (.ireturn, 1) := by decide +kernel
theorem dX10_chartFault_36 : decode cX10_chartFault 36 = .ok (.iload_n 3, 1) := by decide +kernel
theorem dX10_chartFault_37 : decode cX10_chartFault 37 = .ok (.bipush 48, 2) := by decide +kernel
theorem dX10_chartFault_39 : decode cX10_chartFault 39 = .ok (.iload 4, 2) := by decide +kernel
theorem dX10_chartFault_41 : decode cX10_chartFault 41 = .ok (.isub, 1) := by decide +kernel
theorem dX10_chartFault_42 : decode cX10_chartFault 42 = .ok (.if_icmp .le 7, 3) := by decide +kernel
theorem dX10_chartFault_45 : decode cX10_chartFault 45 = .ok (.iconst 3, 1) := by decide +kernel
theorem dX10_chartFault_46 : decode cX10_chartFault 46 = .ok (.goto 4, 3) := by decide +kernel
theorem dX10_chartFault_49 : decode cX10_chartFault 49 = .ok (.iconst 0, 1) := by decide +kernel
theorem dX10_chartFault_50 : decode cX10_chartFault 50 = .ok (.ireturn, 1) := by decide +kernel
set_option maxRecDepth 20000 in
theorem ggX10_pitch_X3_hasSquare : GoodIn wsX10_pitch wsX3_hasSquare := goodIn_r _ [9, 10, 11, 12] (by decide +kernel) (by decide +kernel)
set_option maxRecDepth 20000 in
theorem gX10_pitch_X3_hasSquare : GoodIn wsX10_pitch (va_wsS RX10 60 yX3_hasSquare wsX3_hasSquare) := goodIn_app (goodIn_r _ [6, 7, 8] (by decide +kernel) (by decide +kernel)) ggX10_pitch_X3_hasSquare
set_option maxRecDepth 20000 in
theorem ggX10_pitch_X10_isWithin : GoodIn wsX10_pitch wsX10_isWithin := goodIn_r _ [12] (by decide +kernel) (by decide +kernel)
set_option maxRecDepth 20000 in
theorem gX10_pitch_X10_isWithin : GoodIn wsX10_pitch (va_wsS RX10 64 yX10_isWithin wsX10_isWithin) := goodIn_app (goodIn_r _ [13, 10, 11] (by decide +kernel) (by decide +kernel)) ggX10_pitch_X10_isWithin
set_option maxRecDepth 20000 in
theorem ggX10_pitch_X10_isAnyPitched : GoodIn wsX10_pitch wsX10_isAnyPitched := goodIn_r _ [17, 1, 2, 18, 19, 20, 5, 21, 22, 23, 24, 25, 34, 35, 36, 37, 38, 39, 40, 41, 42, 43, 44, 45, 46, 47, 48, 49, 50, 51, 52, 53, 54] (by decide +kernel) (by decide +kernel)
set_option maxRecDepth 20000 in
theorem gX10_pitch_X10_isAnyPitched : GoodIn wsX10_pitch (wsV RX10 120 RX10 yX10_isAnyPitched wsX10_isAnyPitched) := goodIn_app (goodIn_r _ [14, 15, 16, 11] (by decide +kernel) (by decide +kernel)) ggX10_pitch_X10_isAnyPitched
set_option maxRecDepth 20000 in
theorem ggX10_pitch_X6_init : GoodIn wsX10_pitch wsX6_init := goodIn_r _ [28, 29, 30, 31, 32, 22, 24, 23, 25, 33, 47, 48, 49, 50, 51, 52, 53, 54] (by decide +kernel) (by decide +kernel)
set_option maxRecDepth 20000 in
theorem gX10_pitch_X6_init : GoodIn wsX10_pitch (wsX6_init) := ggX10_pitch_X6_init
theorem dX10_pitch_0 : decode cX10_pitch 0 = .ok (.iload_n 1, 1) := by decide +kernel
theorem dX10_pitch_1 : decode cX10_pitch 1 = .ok (.iload_n 2, 1) := by decide +kernel
theorem dX10_pitch_2 : decode cX10_pitch 2 = .ok (.invokestatic 60, 3) := by decide +kernel
theorem dX10_pitch_5 : decode cX10_pitch 5 = .ok (.ifCond .eq 12, 3) := by decide +kernel
theorem dX10_pitch_8 : decode cX10_pitch 8 = .ok (.iload_n 3, 1) := by decide +kernel
theorem dX10_pitch_9 : decode cX10_pitch 9 = .ok (.iload 4, 2) := by decide +kernel
theorem dX10_pitch_11 : decode cX10_pitch 11 = .ok (.invokestatic 60, 3) := by decide +kernel
theorem dX10_pitch_14 : decode cX10_pitch 14 = .ok (.ifCond .ne 5, 3) := by decide +kernel
theorem dX10_pitch_17 : decode cX10_pitch 17 = .ok (.iconst (-1), 1) := by decide +kernel
theorem dX10_pitch_18 : decode cX10_pitch 18 = .ok (.ireturn, 1) := by decide +kernel
theorem dX10_pitch_19 : decode cX10_pitch 19 = .ok (.iload_n 1, 1) := by decide +kernel
theorem dX10_pitch_20 : decode cX10_pitch 20 = .ok (.iload_n 3, 1) := by decide +kernel
theorem dX10_pitch_21 : decode cX10_pitch 21 = .ok (.if_icmp .gt 20, 3) := by decide +kernel
theorem dX10_pitch_24 : decode cX10_pitch 24 = .ok (.iload_n 2, 1) := by decide +kernel
theorem dX10_pitch_25 : decode cX10_pitch 25 = .ok (.iload 4, 2) := by decide +kernel
theorem dX10_pitch_27 : decode cX10_pitch 27 = .ok (.if_icmp .gt 14, 3) := by decide +kernel
theorem dX10_pitch_30 : decode cX10_pitch 30 = .ok (.iload 5, 2) := by decide +kernel
theorem dX10_pitch_32 : decode cX10_pitch 32 = .ok (.iconst 1, 1) := by decide +kernel
theorem dX10_pitch_33 : decode cX10_pitch 33 = .ok (.bipush 100, 2) := by decide +kernel
theorem dX10_pitch_35 : decode cX10_pitch 35 = .ok (.invokestatic 64, 3) := by decide +kernel
theorem dX10_pitch_38 : decode cX10_pitch 38 = .ok (.ifCond .ne 6, 3) := by decide +kernel
theorem dX10_pitch_41 : decode cX10_pitch 41 = .ok (.bipush (-2), 2) := by decide +kernel
theorem dX10_pitch_43 : decode cX10_pitch 43 = .ok (.ireturn, 1) := by decide +kernel
theorem dX10_pitch_44 : decode cX10_pitch 44 = .ok (.aload_n 0, 1) := by decide +kernel
theorem dX10_pitch_45 : decode cX10_pitch 45 = .ok (.iload_n 1, 1) := by decide +kernel
theorem dX10_pitch_46 : decode cX10_pitch 46 = .ok (.iload_n 2, 1) := by decide +kernel
theorem dX10_pitch_47 : decode cX10_pitch 47 = .ok (.iload_n 3, 1) := by decide +kernel
theorem dX10_pitch_48 : decode cX10_pitch 48 = .ok (.iload 4, 2) := by decide +kernel
theorem dX10_pitch_50 : decode cX10_pitch 50 = .ok (.invokevirtual 120, 3) := by decide +kernel
theorem dX10_pitch_53 : decode cX10_pitch 53 = .ok (.ifCond .eq 6, 3) := by decide +kernel
theorem dX10_pitch_56 : decode cX10_pitch 56 = .ok (.bipush (-3), 2) := by decide +kernel
theorem dX10_pitch_58 : decode cX10_pitch 58 = .ok (.ireturn, 1) := by decide +kernel
theorem dX10_pitch_59 : decode cX10_pitch 59 = .ok (.aload_n 0, 1) := by decide +kernel
theorem dX10_pitch_60 : decode cX10_pitch 60 = .ok (.getfield 124, 3) := by decide +kernel
theorem dX10_pitch_63 : decode cX10_pitch 63 = .ok (.bipush 12, 2) := by decide +kernel
theorem dX10_pitch_65 : decode cX10_pitch 65 = .ok (.if_icmp .lt 6, 3) := by decide +kernel
theorem dX10_pitch_68 : decode cX10_pitch 68 = .ok (.bipush (-4), 2) := by decide +kernel
theorem dX10_pitch_70 : decode cX10_pitch 70 = .ok (.ireturn, 1) := by decide +kernel
theorem dX10_pitch_71 : decode cX10_pitch 71 = .ok (.aload_n 0, 1) := by decide +kernel
theorem dX10_pitch_72 : decode cX10_pitch 72 = .ok (.getfield 20, 3) := by decide +kernel
theorem dX10_pitch_75 : decode cX10_pitch 75 = .ok (.aload_n 0, 1) := by decide +kernel
theorem dX10_pitch_76 : decode cX10_pitch 76 = .ok (.getfield 124, 3) := by decide +kernel
theorem dX10_pitch_79 : decode cX10_pitch 79 = .ok (.new 18, 3) := by decide +kernel
theorem dX10_pitch_82 : decode cX10_pitch 82 = .ok (.dup, 1) := by decide +kernel
theorem dX10_pitch_83 : decode cX10_pitch 83 = .ok (.aload_n 0, 1) := by decide +kernel
theorem dX10_pitch_84 : decode cX10_pitch 84 = .ok (.getfield 124, 3) := by decide +kernel
theorem dX10_pitch_87 : decode cX10_pitch 87 = .ok (.iload_n 1, 1) := by decide +kernel
theorem dX10_pitch_88 : decode cX10_pitch 88 = .ok (.iload_n 2, 1) := by decide +kernel
theorem dX10_pitch_89 : decode cX10_pitch 89 = .ok (.iload_n 3, 1) := by decide +kernel
theorem dX10_pitch_90 : decode cX10_pitch 90 = .ok (.iload 4, 2) := by decide +kernel
theorem dX10_pitch_92 : decode cX10_pitch 92 = .ok (.iload 5, 2) := by decide +kernel
theorem dX10_pitch_94 : decode cX10_pitch 94 = .ok (.invokespecial 127, 3) := by decide +kernel
theorem dX10_pitch_97 : decode cX10_pitch 97 = .ok (.aastore, 1) := by decide +kernel
theorem dX10_pitch_98 : decode cX10_pitch 98 = .ok (.aload_n 0, 1) := by decide +kernel
theorem dX10_pitch_99 : decode cX10_pitch 99 = .ok (.dup, 1) := by decide +kernel
theorem dX10_pitch_100 : decode cX10_pitch 100 = .ok (.getfield 124, 3) := by decide +kernel
theorem dX10_pitch_103 : decode cX10_pitch 103 = .ok (.dup_x1, 1) := by decide +kernel
theorem dX10_pitch_104 : decode cX10_pitch 104 = .ok (.iconst 1, 1) := by decide +kernel
theorem dX10_pitch_105 : decode cX10_pitch 105 = .ok (.iadd, 1) := by decide +kernel
theorem dX10_pitch_106 : decode cX10_pitch 106 = .ok (.putfield 124, 3) := by decide +kernel
theorem dX10_pitch_109 : decode cX10_pitch 109 = .ok (.ireturn, 1) := by decide +kernel
set_option maxRecDepth 20000 in
theorem ggX10_isAnyPitched_X6_meets : GoodIn wsX10_isAnyPitched wsX6_meets := goodIn_r _ [7, 8, 9, 10, 11, 25, 26, 27, 28, 29, 30, 31, 32] (by decide +kernel) (by decide +kernel)
set_option maxRecDepth 20000 in
theorem gX10_isAnyPitched_X6_meets : GoodIn wsX10_isAnyPitched (wsV RX10 130 RX6 yX6_meets wsX6_meets) := goodIn_app (goodIn_r _ [3, 4, 5, 6] (by decide +kernel) (by decide +kernel)) ggX10_isAnyPitched_X6_meets
theorem dX10_isAnyPitched_0 : decode cX10_isAnyPitched 0 = .ok (.iconst 0, 1) := by decide +kernel
theorem dX10_isAnyPitched_1 : decode cX10_isAnyPitched 1 = .ok (.istore 5, 2) := by decide +kernel
theorem dX10_isAnyPitched_3 : decode cX10_isAnyPitched 3 = .ok (.iload 5, 2) := by decide +kernel
theorem dX10_isAnyPitched_5 : decode cX10_isAnyPitched 5 = .ok (.aload_n 0, 1) := by decide +kernel
theorem dX10_isAnyPitched_6 : decode cX10_isAnyPitched 6 = .ok (.getfield 124, 3) := by decide +kernel
theorem dX10_isAnyPitched_9 : decode cX10_isAnyPitched 9 = .ok (.if_icmp .ge 29, 3) := by decide +kernel
theorem dX10_isAnyPitched_12 : decode cX10_isAnyPitched 12 = .ok (.aload_n 0, 1) := by decide +kernel
theorem dX10_isAnyPitched_13 : decode cX10_isAnyPitched 13 = .ok (.getfield 20, 3) := by decide +kernel
theorem dX10_isAnyPitched_16 : decode cX10_isAnyPitched 16 = .ok (.iload 5, 2) := by decide +kernel
theorem dX10_isAnyPitched_18 : decode cX10_isAnyPitched 18 = .ok (.aaload, 1) := by decide +kernel
theorem dX10_isAnyPitched_19 : decode cX10_isAnyPitched 19 = .ok (.iload_n 1, 1) := by decide +kernel
theorem dX10_isAnyPitched_20 : decode cX10_isAnyPitched 20 = .ok (.iload_n 2, 1) := by decide +kernel
theorem dX10_isAnyPitched_21 : decode cX10_isAnyPitched 21 = .ok (.iload_n 3, 1) := by decide +kernel
theorem dX10_isAnyPitched_22 : decode cX10_isAnyPitched 22 = .ok (.iload 4, 2) := by decide +kernel
theorem dX10_isAnyPitched_24 : decode cX10_isAnyPitched 24 = .ok (.invokevirtual 130, 3) := by decide +kernel
theorem dX10_isAnyPitched_27 : decode cX10_isAnyPitched 27 = .ok (.ifCond .eq 5, 3) := by decide +kernel
theorem dX10_isAnyPitched_30 : decode cX10_isAnyPitched 30 = .ok (.iconst 1, 1) := by decide +kernel
theorem dX10_isAnyPitched_31 : decode cX10_isAnyPitched 31 = .ok (.ireturn, 1) := by decide +kernel
theorem dX10_isAnyPitched_32 : decode cX10_isAnyPitched 32 = .ok (.iinc 5 1, 3) := by decide +kernel
theorem dX10_isAnyPitched_35 : decode cX10_isAnyPitched 35 = .ok (.goto (-32), 3) := by decide +kernel
theorem dX10_isAnyPitched_38 : decode cX10_isAnyPitched 38 = .ok (.iconst 0, 1) := by decide +kernel
theorem dX10_isAnyPitched_39 : decode cX10_isAnyPitched 39 = .ok (.ireturn, 1) := by decide +kernel
set_option maxRecDepth 20000 in
theorem ggX10_foretold_X10_pitchAt : GoodIn wsX10_foretold wsX10_pitchAt := goodIn_r _ [9, 10, 11, 12, 13, 8, 14, 29, 30, 31, 32, 33, 34, 35, 36, 37, 38, 39, 40, 41] (by decide +kernel) (by decide +kernel)
set_option maxRecDepth 20000 in
theorem gX10_foretold_X10_pitchAt : GoodIn wsX10_foretold (wsV RX10 133 RX10 yX10_pitchAt wsX10_pitchAt) := goodIn_app (goodIn_r _ [5, 6, 7, 8] (by decide +kernel) (by decide +kernel)) ggX10_foretold_X10_pitchAt
set_option maxRecDepth 20000 in
theorem ggX10_foretold_X10_isWithin : GoodIn wsX10_foretold wsX10_isWithin := goodIn_r _ [14] (by decide +kernel) (by decide +kernel)
set_option maxRecDepth 20000 in
theorem gX10_foretold_X10_isWithin : GoodIn wsX10_foretold (va_wsS RX10 64 yX10_isWithin wsX10_isWithin) := goodIn_app (goodIn_r _ [12, 13, 8] (by decide +kernel) (by decide +kernel)) ggX10_foretold_X10_isWithin
set_option maxRecDepth 20000 in
theorem ggX10_foretold_X6_foretoldBy : GoodIn wsX10_foretold wsX6_foretoldBy := goodIn_r _ [19, 20, 21, 22, 23, 24, 25, 26, 27, 28, 47, 48, 49, 50, 51, 52, 53, 54] (by decide +kernel) (by decide +kernel)
set_option maxRecDepth 20000 in
theorem gX10_foretold_X6_foretoldBy : GoodIn wsX10_foretold (wsV RX10 139 RX6 yX6_foretoldBy wsX6_foretoldBy) := goodIn_app (goodIn_r _ [15, 16, 17, 18] (by decide +kernel) (by decide +kernel)) ggX10_foretold_X6_foretoldBy
theorem dX10_foretold_0 : decode cX10_foretold 0 = .ok (.aload_n 0, 1) := by decide +kernel
theorem dX10_foretold_1 : decode cX10_foretold 1 = .ok (.iload_n 1, 1) := by decide +kernel
theorem dX10_foretold_2 : decode cX10_foretold 2 = .ok (.invokevirtual 133, 3) := by decide +kernel
theorem dX10_foretold_5 : decode cX10_foretold 5 = .ok (.astore_n 3, 1) := by decide +kernel
theorem dX10_foretold_6 : decode cX10_foretold 6 = .ok (.aload_n 3, 1) := by decide +kernel
theorem dX10_foretold_7 : decode cX10_foretold 7 = .ok (.ifnull 12, 3) := by decide +kernel
theorem dX10_foretold_10 : decode cX10_foretold 10 = .ok (.iload_n 2, 1) := by decide +kernel
theorem dX10_foretold_11 : decode cX10_foretold 11 = .ok (.iconst 0, 1) := by decide +kernel
theorem dX10_foretold_12 : decode cX10_foretold 12 = .ok (.iconst 1, 1) := by decide +kernel
theorem dX10_foretold_13 : decode cX10_foretold 13 = .ok (.invokestatic 64, 3) := by decide +kernel
theorem dX10_foretold_16 : decode cX10_foretold 16 = .ok (.ifCond .ne 7, 3) := by decide +kernel
theorem dX10_foretold_19 : decode cX10_foretold 19 = .ok (.ldc2_w 137, 3) := by decide +kernel
theorem dX10_foretold_22 : decode cX10_foretold 22 = .ok (.lreturn, 1) := by decide +kernel
theorem dX10_foretold_23 : decode cX10_foretold 23 = .ok (.iload_n 2, 1) := by decide +kernel
theorem dX10_foretold_24 : decode cX10_foretold 24 = .ok (.ifCond .ne 17, 3) := by decide +kernel
theorem dX10_foretold_27 : decode cX10_foretold 27 = .ok (.aload_n 3, 1) := by decide +kernel
theorem dX10_foretold_28 : decode cX10_foretold 28 = .ok (.aload_n 0, 1) := by decide +kernel
theorem dX10_foretold_29 : decode cX10_foretold 29 = .ok (.getfield 12, 3) := by decide +kernel
theorem dX10_foretold_32 : decode cX10_foretold 32 = .ok (.getfield 86, 3) := by decide +kernel
theorem dX10_foretold_35 : decode cX10_foretold 35 = .ok (.invokevirtual 139, 3) := by decide +kernel
theorem dX10_foretold_38 : decode cX10_foretold 38 = .ok (.goto 14, 3) := by decide +kernel
theorem dX10_foretold_41 : decode cX10_foretold 41 = .ok (.aload_n 3, 1) := by decide +kernel
theorem dX10_foretold_42 : decode cX10_foretold 42 = .ok (.aload_n 0, 1) := by decide +kernel
theorem dX10_foretold_43 : decode cX10_foretold 43 = .ok (.getfield 12, 3) := by decide +kernel
theorem dX10_foretold_46 : decode cX10_foretold 46 = .ok (.getfield 90, 3) := by decide +kernel
theorem dX10_foretold_49 : decode cX10_foretold 49 = .ok (.invokevirtual 139, 3) := by decide +kernel
theorem dX10_foretold_52 : decode cX10_foretold 52 = .ok (.lreturn, 1) := by decide +kernel
set_option maxRecDepth 20000 in
theorem ggX10_gang_X10_isWithin : GoodIn wsX10_gang wsX10_isWithin := goodIn_r _ [6] (by decide +kernel) (by decide +kernel)
set_option maxRecDepth 20000 in
theorem gX10_gang_X10_isWithin : GoodIn wsX10_gang (va_wsS RX10 64 yX10_isWithin wsX10_isWithin) := goodIn_app (goodIn_r _ [3, 4, 5] (by decide +kernel) (by decide +kernel)) ggX10_gang_X10_isWithin
set_option maxRecDepth 20000 in
theorem ggX10_gang_X10_newGang : GoodIn wsX10_gang wsX10_newGang := goodIn_r _ [9, 10, 11, 12, 13, 14, 15, 16, 17, 18, 19, 20, 21, 22, 23, 24, 25, 26, 27, 28, 29, 30, 31, 32, 33, 47, 48, 49, 50, 51, 52, 53, 54, 55, 56, 57, 58] (by decide +kernel) (by decide +kernel)
set_option maxRecDepth 20000 in
theorem gX10_gang_X10_newGang : GoodIn wsX10_gang (va_wsS RX10 146 yX10_newGang wsX10_newGang) := goodIn_app (goodIn_r _ [7, 8, 5] (by decide +kernel) (by decide +kernel)) ggX10_gang_X10_newGang
theorem dX10_gang_0 : decode cX10_gang 0 = .ok (.iload_n 1, 1) := by decide +kernel
theorem dX10_gang_1 : decode cX10_gang 1 = .ok (.iconst 0, 1) := by decide +kernel
theorem dX10_gang_2 : decode cX10_gang 2 = .ok (.iconst 2, 1) := by decide +kernel
theorem dX10_gang_3 : decode cX10_gang 3 = .ok (.invokestatic 64, 3) := by decide +kernel
theorem dX10_gang_6 : decode cX10_gang 6 = .ok (.ifCond .ne 6, 3) := by decide +kernel
theorem dX10_gang_9 : decode cX10_gang 9 = .ok (.bipush (-2), 2) := by decide +kernel
theorem dX10_gang_11 : decode cX10_gang 11 = .ok (.ireturn, 1) := by decide +kernel
theorem dX10_gang_12 : decode cX10_gang 12 = .ok (.aload_n 0, 1) := by decide +kernel
theorem dX10_gang_13 : decode cX10_gang 13 = .ok (.getfield 143, 3) := by decide +kernel
theorem dX10_gang_16 : decode cX10_gang 16 = .ok (.bipush 8, 2) := by decide +kernel
theorem dX10_gang_18 : decode cX10_gang 18 = .ok (.if_icmp .lt 6, 3) := by decide +kernel
theorem dX10_gang_21 : decode cX10_gang 21 = .ok (.bipush (-4), 2) := by decide +kernel
theorem dX10_gang_23 : decode cX10_gang 23 = .ok (.ireturn, 1) := by decide +kernel
theorem dX10_gang_24 : decode cX10_gang 24 = .ok (.aload_n 0, 1) := by decide +kernel
theorem dX10_gang_25 : decode cX10_gang 25 = .ok (.getfield 26, 3) := by decide +kernel
theorem dX10_gang_28 : decode cX10_gang 28 = .ok (.aload_n 0, 1) := by decide +kernel
theorem dX10_gang_29 : decode cX10_gang 29 = .ok (.getfield 143, 3) := by decide +kernel
theorem dX10_gang_32 : decode cX10_gang 32 = .ok (.iload_n 1, 1) := by decide +kernel
theorem dX10_gang_33 : decode cX10_gang 33 = .ok (.aload_n 0, 1) := by decide +kernel
theorem dX10_gang_34 : decode cX10_gang 34 = .ok (.getfield 143, 3) := by decide +kernel
theorem dX10_gang_37 : decode cX10_gang 37 = .ok (.invokestatic 146, 3) := by decide +kernel
theorem dX10_gang_40 : decode cX10_gang 40 = .ok (.aastore, 1) := by decide +kernel
theorem dX10_gang_41 : decode cX10_gang 41 = .ok (.aload_n 0, 1) := by decide +kernel
theorem dX10_gang_42 : decode cX10_gang 42 = .ok (.dup, 1) := by decide +kernel
theorem dX10_gang_43 : decode cX10_gang 43 = .ok (.getfield 143, 3) := by decide +kernel
theorem dX10_gang_46 : decode cX10_gang 46 = .ok (.dup_x1, 1) := by decide +kernel
theorem dX10_gang_47 : decode cX10_gang 47 = .ok (.iconst 1, 1) := by decide +kernel
theorem dX10_gang_48 : decode cX10_gang 48 = .ok (.iadd, 1) := by decide +kernel
theorem dX10_gang_49 : decode cX10_gang 49 = .ok (.putfield 143, 3) := by decide +kernel
theorem dX10_gang_52 : decode cX10_gang 52 = .ok (.ireturn, 1) := by decide +kernel
set_option maxRecDepth 20000 in
theorem ggX10_newGang_X4_init : GoodIn wsX10_newGang wsX4_init := goodIn_r _ [12, 13, 14, 6, 15, 16, 17, 9, 18, 19, 20, 21, 22, 29, 30, 31, 32, 33, 34, 35, 36, 25, 26, 27, 28] (by decide +kernel) (by decide +kernel)
set_option maxRecDepth 20000 in
theorem gX10_newGang_X4_init : GoodIn wsX10_newGang (wsX4_init) := ggX10_newGang_X4_init
set_option maxRecDepth 20000 in
theorem ggX10_newGang_X1_init : GoodIn wsX10_newGang wsX1_init := goodIn_r _ [15, 16, 17, 9, 18, 19, 20, 21, 22, 29, 30, 31, 32, 33, 34, 35, 36, 25, 26, 27, 28] (by decide +kernel) (by decide +kernel)
set_option maxRecDepth 20000 in
theorem gX10_newGang_X1_init : GoodIn wsX10_newGang (wsX1_init) := ggX10_newGang_X1_init
set_option maxRecDepth 20000 in
theorem ggX10_newGang_X2_init : GoodIn wsX10_newGang wsX2_init := goodIn_r _ [18, 19, 20, 21, 22, 29, 30, 31, 32, 33, 34, 35, 36, 25, 26, 27, 28] (by decide +kernel) (by decide +kernel)
set_option maxRecDepth 20000 in
theorem gX10_newGang_X2_init : GoodIn wsX10_newGang (wsX2_init) := ggX10_newGang_X2_init
theorem dX10_newGang_0 : decode cX10_newGang 0 = .ok (.iload_n 0, 1) := by decide +kernel
theorem dX10_newGang_1 : decode cX10_newGang 1 = .ok (.lookupswitch 45 #[(1, 36), (2, 27)], 27) := by decide +kernel
theorem dX10_newGang_28 : decode cX10_newGang 28 = .ok (.new 150, 3) := by decide +kernel
theorem dX10_newGang_31 : decode cX10_newGang 31 = .ok (.dup, 1) := by decide +kernel
theorem dX10_newGang_32 : decode cX10_newGang 32 = .ok (.iload_n 1, 1) := by decide +kernel
theorem dX10_newGang_33 : decode cX10_newGang 33 = .ok (.invokespecial 152, 3) := by decide +kernel
theorem dX10_newGang_36 : decode cX10_newGang 36 = .ok (.areturn, 1) := by decide +kernel
theorem dX10_newGang_37 : decode cX10_newGang 37 = .ok (.new 155, 3) := by decide +kernel
theorem dX10_newGang_40 : decode cX10_newGang 40 = .ok (.dup, 1) := by decide +kernel
theorem dX10_newGang_41 : decode cX10_newGang 41 = .ok (.iload_n 1, 1) := by decide +kernel
theorem dX10_newGang_42 : decode cX10_newGang 42 = .ok (.invokespecial 157, 3) := by decide +kernel
theorem dX10_newGang_45 : decode cX10_newGang 45 = .ok (.areturn, 1) := by decide +kernel
theorem dX10_newGang_46 : decode cX10_newGang 46 = .ok (.new 24, 3) := by decide +kernel
theorem dX10_newGang_49 : decode cX10_newGang 49 = .ok (.dup, 1) := by decide +kernel
theorem dX10_newGang_50 : decode cX10_newGang 50 = .ok (.iload_n 1, 1) := by decide +kernel
theorem dX10_newGang_51 : decode cX10_newGang 51 = .ok (.invokespecial 158, 3) := by decide +kernel
theorem dX10_newGang_54 : decode cX10_newGang 54 = .ok (.areturn, 1) := by decide +kernel
set_option maxRecDepth 20000 in
theorem ggX10_auction_X10_pitchAt : GoodIn wsX10_auction wsX10_pitchAt := goodIn_r _ [10, 11, 12, 13, 14, 9, 15, 32, 33, 34, 35, 36, 37, 38, 39, 40, 41, 42, 43, 44] (by decide +kernel) (by decide +kernel)
set_option maxRecDepth 20000 in
theorem gX10_auction_X10_pitchAt : GoodIn wsX10_auction (wsV RX10 133 RX10 yX10_pitchAt wsX10_pitchAt) := goodIn_app (goodIn_r _ [6, 7, 8, 9] (by decide +kernel) (by decide +kernel)) ggX10_auction_X10_pitchAt
set_option maxRecDepth 20000 in
theorem ggX10_auction_X10_isWithin : GoodIn wsX10_auction wsX10_isWithin := goodIn_r _ [15] (by decide +kernel) (by decide +kernel)
set_option maxRecDepth 20000 in
theorem gX10_auction_X10_isWithin : GoodIn wsX10_auction (va_wsS RX10 64 yX10_isWithin wsX10_isWithin) := goodIn_app (goodIn_r _ [13, 14, 9] (by decide +kernel) (by decide +kernel)) ggX10_auction_X10_isWithin
set_option maxRecDepth 20000 in
theorem ggX10_auction_X0_init : GoodIn wsX10_auction wsX0_init := goodIn_r _ [18, 19, 20, 21, 22, 23, 45, 46, 47, 48] (by decide +kernel) (by decide +kernel)
set_option maxRecDepth 20000 in
theorem gX10_auction_X0_init : GoodIn wsX10_auction (wsX0_init) := ggX10_auction_X0_init
theorem dX10_auction_0 : decode cX10_auction 0 = .ok (.aload_n 0, 1) := by decide +kernel
theorem dX10_auction_1 : decode cX10_auction 1 = .ok (.iload_n 1, 1) := by decide +kernel
theorem dX10_auction_2 : decode cX10_auction 2 = .ok (.invokevirtual 133, 3) := by decide +kernel
theorem dX10_auction_5 : decode cX10_auction 5 = .ok (.astore_n 3, 1) := by decide +kernel
theorem dX10_auction_6 : decode cX10_auction 6 = .ok (.aload_n 3, 1) := by decide +kernel
theorem dX10_auction_7 : decode cX10_auction 7 = .ok (.ifnonnull 5, 3) := by decide +kernel
theorem dX10_auction_10 : decode cX10_auction 10 = .ok (.iconst (-1), 1) := by decide +kernel
theorem dX10_auction_11 : decode cX10_auction 11 = .ok (.ireturn, 1) := by decide +kernel
theorem dX10_auction_12 : decode cX10_auction 12 = .ok (.iload_n 2, 1) := by decide +kernel
theorem dX10_auction_13 : decode cX10_auction 13 = .ok (.iconst 1, 1) := by decide +kernel
theorem dX10_auction_14 : decode cX10_auction 14 = .ok (.sipush 240, 3) := by decide +kernel
theorem dX10_auction_17 : decode cX10_auction 17 = .ok (.invokestatic 64, 3) := by decide +kernel
theorem dX10_auction_20 : decode cX10_auction 20 = .ok (.ifCond .ne 6, 3) := by decide +kernel
theorem dX10_auction_23 : decode cX10_auction 23 = .ok (.bipush (-2), 2) := by decide +kernel
theorem dX10_auction_25 : decode cX10_auction 25 = .ok (.ireturn, 1) := by decide +kernel
theorem dX10_auction_26 : decode cX10_auction 26 = .ok (.aload_n 3, 1) := by decide +kernel
theorem dX10_auction_27 : decode cX10_auction 27 = .ok (.getfield 159, 3) := by decide +kernel
theorem dX10_auction_30 : decode cX10_auction 30 = .ok (.ifnonnull 10, 3) := by decide +kernel
theorem dX10_auction_33 : decode cX10_auction 33 = .ok (.aload_n 0, 1) := by decide +kernel
theorem dX10_auction_34 : decode cX10_auction 34 = .ok (.getfield 163, 3) := by decide +kernel
theorem dX10_auction_37 : decode cX10_auction 37 = .ok (.ifnull 6, 3) := by decide +kernel
theorem dX10_auction_40 : decode cX10_auction 40 = .ok (.bipush (-3), 2) := by decide +kernel
theorem dX10_auction_42 : decode cX10_auction 42 = .ok (.ireturn, 1) := by decide +kernel
theorem dX10_auction_43 : decode cX10_auction 43 = .ok (.aload_n 0, 1) := by decide +kernel
theorem dX10_auction_44 : decode cX10_auction 44 = .ok (.new 167, 3) := by decide +kernel
theorem dX10_auction_47 : decode cX10_auction 47 = .ok (.dup, 1) := by decide +kernel
theorem dX10_auction_48 : decode cX10_auction 48 = .ok (.aload_n 3, 1) := by decide +kernel
theorem dX10_auction_49 : decode cX10_auction 49 = .ok (.iload_n 2, 1) := by decide +kernel
theorem dX10_auction_50 : decode cX10_auction 50 = .ok (.invokespecial 169, 3) := by decide +kernel
theorem dX10_auction_53 : decode cX10_auction 53 = .ok (.putfield 163, 3) := by decide +kernel
theorem dX10_auction_56 : decode cX10_auction 56 = .ok (.iconst 1, 1) := by decide +kernel
theorem dX10_auction_57 : decode cX10_auction 57 = .ok (.ireturn, 1) := by decide +kernel
set_option maxRecDepth 20000 in
theorem ggX10_bid_X10_gangAt : GoodIn wsX10_bid wsX10_gangAt := goodIn_r _ [10, 11, 12, 13, 14, 9, 15, 23, 24, 25, 26, 27, 28, 29, 30, 31, 32, 33, 34, 35] (by decide +kernel) (by decide +kernel)
set_option maxRecDepth 20000 in
theorem gX10_bid_X10_gangAt : GoodIn wsX10_bid (wsV RX10 172 RX10 yX10_gangAt wsX10_gangAt) := goodIn_app (goodIn_r _ [6, 7, 8, 9] (by decide +kernel) (by decide +kernel)) ggX10_bid_X10_gangAt
set_option maxRecDepth 20000 in
theorem ggX10_bid_X0_mostShare : GoodIn wsX10_bid wsX0_mostShare := goodIn_r _ [20, 21, 22, 36, 37, 38, 39] (by decide +kernel) (by decide +kernel)
set_option maxRecDepth 20000 in
theorem gX10_bid_X0_mostShare : GoodIn wsX10_bid (wsV RX10 176 RX0 yX0_mostShare wsX0_mostShare) := goodIn_app (goodIn_r _ [16, 17, 18, 19] (by decide +kernel) (by decide +kernel)) ggX10_bid_X0_mostShare
set_option maxRecDepth 20000 in
theorem ggX10_bid_X10_isWithin : GoodIn wsX10_bid wsX10_isWithin := goodIn_r _ [15] (by decide +kernel) (by decide +kernel)
set_option maxRecDepth 20000 in
theorem gX10_bid_X10_isWithin : GoodIn wsX10_bid (va_wsS RX10 64 yX10_isWithin wsX10_isWithin) := goodIn_app (goodIn_r _ [13, 14, 9] (by decide +kernel) (by decide +kernel)) ggX10_bid_X10_isWithin
theorem dX10_bid_0 : decode cX10_bid 0 = .ok (.aload_n 0, 1) := by decide +kernel
theorem dX10_bid_1 : decode cX10_bid 1 = .ok (.iload_n 1, 1) := by decide +kernel
theorem dX10_bid_2 : decode cX10_bid 2 = .ok (.invokevirtual 172, 3) := by decide +kernel
theorem dX10_bid_5 : decode cX10_bid 5 = .ok (.astore_n 3, 1) := by decide +kernel
theorem dX10_bid_6 : decode cX10_bid 6 = .ok (.aload_n 3, 1) := by decide +kernel
theorem dX10_bid_7 : decode cX10_bid 7 = .ok (.ifnonnull 5, 3) := by decide +kernel
theorem dX10_bid_10 : decode cX10_bid 10 = .ok (.iconst (-1), 1) := by decide +kernel
theorem dX10_bid_11 : decode cX10_bid 11 = .ok (.ireturn, 1) := by decide +kernel
theorem dX10_bid_12 : decode cX10_bid 12 = .ok (.aload_n 0, 1) := by decide +kernel
theorem dX10_bid_13 : decode cX10_bid 13 = .ok (.getfield 163, 3) := by decide +kernel
theorem dX10_bid_16 : decode cX10_bid 16 = .ok (.ifnonnull 6, 3) := by decide +kernel
theorem dX10_bid_19 : decode cX10_bid 19 = .ok (.bipush (-3), 2) := by decide +kernel
theorem dX10_bid_21 : decode cX10_bid 21 = .ok (.ireturn, 1) := by decide +kernel
theorem dX10_bid_22 : decode cX10_bid 22 = .ok (.iload_n 2, 1) := by decide +kernel
theorem dX10_bid_23 : decode cX10_bid 23 = .ok (.iconst 1, 1) := by decide +kernel
theorem dX10_bid_24 : decode cX10_bid 24 = .ok (.aload_n 0, 1) := by decide +kernel
theorem dX10_bid_25 : decode cX10_bid 25 = .ok (.getfield 163, 3) := by decide +kernel
theorem dX10_bid_28 : decode cX10_bid 28 = .ok (.invokevirtual 176, 3) := by decide +kernel
theorem dX10_bid_31 : decode cX10_bid 31 = .ok (.invokestatic 64, 3) := by decide +kernel
theorem dX10_bid_34 : decode cX10_bid 34 = .ok (.ifCond .ne 6, 3) := by decide +kernel
theorem dX10_bid_37 : decode cX10_bid 37 = .ok (.bipush (-2), 2) := by decide +kernel
theorem dX10_bid_39 : decode cX10_bid 39 = .ok (.ireturn, 1) := by decide +kernel
theorem dX10_bid_40 : decode cX10_bid 40 = .ok (.aload_n 0, 1) := by decide +kernel
theorem dX10_bid_41 : decode cX10_bid 41 = .ok (.getfield 163, 3) := by decide +kernel
theorem dX10_bid_44 : decode cX10_bid 44 = .ok (.getfield 180, 3) := by decide +kernel
theorem dX10_bid_47 : decode cX10_bid 47 = .ok (.aload_n 3, 1) := by decide +kernel
theorem dX10_bid_48 : decode cX10_bid 48 = .ok (.if_acmp .eq 11, 3) := by decide +kernel
theorem dX10_bid_51 : decode cX10_bid 51 = .ok (.aload_n 3, 1) := by decide +kernel
theorem dX10_bid_52 : decode cX10_bid 52 = .ok (.getfield 184, 3) := by decide +kernel
theorem dX10_bid_55 : decode cX10_bid 55 = .ok (.iconst 3, 1) := by decide +kernel
theorem dX10_bid_56 : decode cX10_bid 56 = .ok (.if_icmp .lt 6, 3) := by decide +kernel
theorem dX10_bid_59 : decode cX10_bid 59 = .ok (.bipush (-3), 2) := by decide +kernel
theorem dX10_bid_61 : decode cX10_bid 61 = .ok (.ireturn, 1) := by decide +kernel
theorem dX10_bid_62 : decode cX10_bid 62 = .ok (.aload_n 0, 1) := by decide +kernel
theorem dX10_bid_63 : decode cX10_bid 63 = .ok (.getfield 163, 3) := by decide +kernel
theorem dX10_bid_66 : decode cX10_bid 66 = .ok (.getfield 187, 3) := by decide +kernel
theorem dX10_bid_69 : decode cX10_bid 69 = .ok (.bipush 20, 2) := by decide +kernel
theorem dX10_bid_71 : decode cX10_bid 71 = .ok (.if_icmp .lt 6, 3) := by decide +kernel
theorem dX10_bid_74 : decode cX10_bid 74 = .ok (.bipush (-4), 2) := by decide +kernel
theorem dX10_bid_76 : decode cX10_bid 76 = .ok (.ireturn, 1) := by decide +kernel
theorem dX10_bid_77 : decode cX10_bid 77 = .ok (.aload_n 0, 1) := by decide +kernel
theorem dX10_bid_78 : decode cX10_bid 78 = .ok (.getfield 163, 3) := by decide +kernel
theorem dX10_bid_81 : decode cX10_bid 81 = .ok (.aload_n 3, 1) := by decide +kernel
theorem dX10_bid_82 : decode cX10_bid 82 = .ok (.putfield 180, 3) := by decide +kernel
theorem dX10_bid_85 : decode cX10_bid 85 = .ok (.aload_n 0, 1) := by decide +kernel
theorem dX10_bid_86 : decode cX10_bid 86 = .ok (.getfield 163, 3) := by decide +kernel
theorem dX10_bid_89 : decode cX10_bid 89 = .ok (.iload_n 2, 1) := by decide +kernel
theorem dX10_bid_90 : decode cX10_bid 90 = .ok (.putfield 190, 3) := by decide +kernel
theorem dX10_bid_93 : decode cX10_bid 93 = .ok (.aload_n 0, 1) := by decide +kernel
theorem dX10_bid_94 : decode cX10_bid 94 = .ok (.getfield 163, 3) := by decide +kernel
theorem dX10_bid_97 : decode cX10_bid 97 = .ok (.dup, 1) := by decide +kernel
theorem dX10_bid_98 : decode cX10_bid 98 = .ok (.getfield 187, 3) := by decide +kernel
theorem dX10_bid_101 : decode cX10_bid 101 = .ok (.iconst 1, 1) := by decide +kernel
theorem dX10_bid_102 : decode cX10_bid 102 = .ok (.iadd, 1) := by decide +kernel
theorem dX10_bid_103 : decode cX10_bid 103 = .ok (.putfield 187, 3) := by decide +kernel
theorem dX10_bid_106 : decode cX10_bid 106 = .ok (.aload_n 0, 1) := by decide +kernel
theorem dX10_bid_107 : decode cX10_bid 107 = .ok (.getfield 163, 3) := by decide +kernel
theorem dX10_bid_110 : decode cX10_bid 110 = .ok (.getfield 187, 3) := by decide +kernel
theorem dX10_bid_113 : decode cX10_bid 113 = .ok (.ireturn, 1) := by decide +kernel
set_option maxRecDepth 20000 in
theorem ggX10_strike_X8_init : GoodIn wsX10_strike wsX8_init := goodIn_r _ [17, 18, 19, 20, 21, 22, 23, 24, 64, 65, 66, 67, 68, 69, 70, 71, 72, 73, 74, 75] (by decide +kernel) (by decide +kernel)
set_option maxRecDepth 20000 in
theorem gX10_strike_X8_init : GoodIn wsX10_strike (wsX8_init) := ggX10_strike_X8_init
set_option maxRecDepth 20000 in
theorem ggX10_strike_X6_foretoldBy : GoodIn wsX10_strike wsX6_foretoldBy := goodIn_r _ [29, 30, 31, 32, 33, 34, 35, 36, 37, 38, 81, 82, 83, 84, 85, 86, 87, 88] (by decide +kernel) (by decide +kernel)
set_option maxRecDepth 20000 in
theorem gX10_strike_X6_foretoldBy : GoodIn wsX10_strike (wsV RX10 139 RX6 yX6_foretoldBy wsX6_foretoldBy) := goodIn_app (goodIn_r _ [25, 26, 27, 28] (by decide +kernel) (by decide +kernel)) ggX10_strike_X6_foretoldBy
set_option maxRecDepth 20000 in
theorem ggX10_strike_X8_begin : GoodIn wsX10_strike wsX8_begin := goodIn_r _ [42, 23, 43, 44, 22, 45, 46, 64, 65, 66, 67, 68, 69, 70, 71, 72, 73, 74, 75, 81, 82, 83, 84, 85, 86, 87, 88, 89, 90, 91, 92, 93, 94, 95, 96, 97, 98, 99, 100] (by decide +kernel) (by decide +kernel)
set_option maxRecDepth 20000 in
theorem gX10_strike_X8_begin : GoodIn wsX10_strike (wsV RX10 210 RX8 yX8_begin wsX8_begin) := goodIn_app (goodIn_r _ [39, 40, 41, 7] (by decide +kernel) (by decide +kernel)) ggX10_strike_X8_begin
theorem dX10_strike_0 : decode cX10_strike 0 = .ok (.aload_n 0, 1) := by decide +kernel
theorem dX10_strike_1 : decode cX10_strike 1 = .ok (.getfield 163, 3) := by decide +kernel
theorem dX10_strike_4 : decode cX10_strike 4 = .ok (.ifnonnull 6, 3) := by decide +kernel
theorem dX10_strike_7 : decode cX10_strike 7 = .ok (.bipush (-3), 2) := by decide +kernel
theorem dX10_strike_9 : decode cX10_strike 9 = .ok (.ireturn, 1) := by decide +kernel
theorem dX10_strike_10 : decode cX10_strike 10 = .ok (.aload_n 0, 1) := by decide +kernel
theorem dX10_strike_11 : decode cX10_strike 11 = .ok (.getfield 163, 3) := by decide +kernel
theorem dX10_strike_14 : decode cX10_strike 14 = .ok (.getfield 193, 3) := by decide +kernel
theorem dX10_strike_17 : decode cX10_strike 17 = .ok (.astore_n 1, 1) := by decide +kernel
theorem dX10_strike_18 : decode cX10_strike 18 = .ok (.aload_n 0, 1) := by decide +kernel
theorem dX10_strike_19 : decode cX10_strike 19 = .ok (.getfield 163, 3) := by decide +kernel
theorem dX10_strike_22 : decode cX10_strike 22 = .ok (.getfield 180, 3) := by decide +kernel
theorem dX10_strike_25 : decode cX10_strike 25 = .ok (.astore_n 2, 1) := by decide +kernel
theorem dX10_strike_26 : decode cX10_strike 26 = .ok (.aload_n 2, 1) := by decide +kernel
theorem dX10_strike_27 : decode cX10_strike 27 = .ok (.ifnonnull 11, 3) := by decide +kernel
theorem dX10_strike_30 : decode cX10_strike 30 = .ok (.aload_n 0, 1) := by decide +kernel
theorem dX10_strike_31 : decode cX10_strike 31 = .ok (.aconst_null, 1) := by decide +kernel
theorem dX10_strike_32 : decode cX10_strike 32 = .ok (.putfield 163, 3) := by decide +kernel
theorem dX10_strike_35 : decode cX10_strike 35 = .ok (.bipush (-9), 2) := by decide +kernel
theorem dX10_strike_37 : decode cX10_strike 37 = .ok (.ireturn, 1) := by decide +kernel
theorem dX10_strike_38 : decode cX10_strike 38 = .ok (.aload_n 0, 1) := by decide +kernel
theorem dX10_strike_39 : decode cX10_strike 39 = .ok (.getfield 197, 3) := by decide +kernel
theorem dX10_strike_42 : decode cX10_strike 42 = .ok (.bipush 40, 2) := by decide +kernel
theorem dX10_strike_44 : decode cX10_strike 44 = .ok (.if_icmp .lt 6, 3) := by decide +kernel
theorem dX10_strike_47 : decode cX10_strike 47 = .ok (.bipush (-4), 2) := by decide +kernel
theorem dX10_strike_49 : decode cX10_strike 49 = .ok (.ireturn, 1) := by decide +kernel
theorem dX10_strike_50 : decode cX10_strike 50 = .ok (.new 30, 3) := by decide +kernel
theorem dX10_strike_53 : decode cX10_strike 53 = .ok (.dup, 1) := by decide +kernel
theorem dX10_strike_54 : decode cX10_strike 54 = .ok (.aload_n 0, 1) := by decide +kernel
theorem dX10_strike_55 : decode cX10_strike 55 = .ok (.getfield 197, 3) := by decide +kernel
theorem dX10_strike_58 : decode cX10_strike 58 = .ok (.aload_n 2, 1) := by decide +kernel
theorem dX10_strike_59 : decode cX10_strike 59 = .ok (.aload_n 1, 1) := by decide +kernel
theorem dX10_strike_60 : decode cX10_strike 60 = .ok (.aload_n 0, 1) := by decide +kernel
theorem dX10_strike_61 : decode cX10_strike 61 = .ok (.getfield 163, 3) := by decide +kernel
theorem dX10_strike_64 : decode cX10_strike 64 = .ok (.getfield 190, 3) := by decide +kernel
theorem dX10_strike_67 : decode cX10_strike 67 = .ok (.invokespecial 200, 3) := by decide +kernel
theorem dX10_strike_70 : decode cX10_strike 70 = .ok (.astore_n 3, 1) := by decide +kernel
theorem dX10_strike_71 : decode cX10_strike 71 = .ok (.aload_n 3, 1) := by decide +kernel
theorem dX10_strike_72 : decode cX10_strike 72 = .ok (.aload_n 1, 1) := by decide +kernel
theorem dX10_strike_73 : decode cX10_strike 73 = .ok (.aload_n 0, 1) := by decide +kernel
theorem dX10_strike_74 : decode cX10_strike 74 = .ok (.getfield 12, 3) := by decide +kernel
theorem dX10_strike_77 : decode cX10_strike 77 = .ok (.getfield 86, 3) := by decide +kernel
theorem dX10_strike_80 : decode cX10_strike 80 = .ok (.invokevirtual 139, 3) := by decide +kernel
theorem dX10_strike_83 : decode cX10_strike 83 = .ok (.putfield 203, 3) := by decide +kernel
theorem dX10_strike_86 : decode cX10_strike 86 = .ok (.aload_n 3, 1) := by decide +kernel
theorem dX10_strike_87 : decode cX10_strike 87 = .ok (.aload_n 1, 1) := by decide +kernel
theorem dX10_strike_88 : decode cX10_strike 88 = .ok (.aload_n 0, 1) := by decide +kernel
theorem dX10_strike_89 : decode cX10_strike 89 = .ok (.getfield 12, 3) := by decide +kernel
theorem dX10_strike_92 : decode cX10_strike 92 = .ok (.getfield 90, 3) := by decide +kernel
theorem dX10_strike_95 : decode cX10_strike 95 = .ok (.invokevirtual 139, 3) := by decide +kernel
theorem dX10_strike_98 : decode cX10_strike 98 = .ok (.putfield 207, 3) := by decide +kernel
theorem dX10_strike_101 : decode cX10_strike 101 = .ok (.aload_n 3, 1) := by decide +kernel
theorem dX10_strike_102 : decode cX10_strike 102 = .ok (.invokevirtual 210, 3) := by decide +kernel
theorem dX10_strike_105 : decode cX10_strike 105 = .ok (.aload_n 0, 1) := by decide +kernel
theorem dX10_strike_106 : decode cX10_strike 106 = .ok (.getfield 32, 3) := by decide +kernel
theorem dX10_strike_109 : decode cX10_strike 109 = .ok (.aload_n 0, 1) := by decide +kernel
theorem dX10_strike_110 : decode cX10_strike 110 = .ok (.getfield 197, 3) := by decide +kernel
theorem dX10_strike_113 : decode cX10_strike 113 = .ok (.aload_n 3, 1) := by decide +kernel
theorem dX10_strike_114 : decode cX10_strike 114 = .ok (.aastore, 1) := by decide +kernel
theorem dX10_strike_115 : decode cX10_strike 115 = .ok (.aload_n 0, 1) := by decide +kernel
theorem dX10_strike_116 : decode cX10_strike 116 = .ok (.aconst_null, 1) := by decide +kernel
theorem dX10_strike_117 : decode cX10_strike 117 = .ok (.putfield 163, 3) := by decide +kernel
theorem dX10_strike_120 : decode cX10_strike 120 = .ok (.aload_n 0, 1) := by decide +kernel
theorem dX10_strike_121 : decode cX10_strike 121 = .ok (.dup, 1) := by decide +kernel
theorem dX10_strike_122 : decode cX10_strike 122 = .ok (.getfield 197, 3) := by decide +kernel
theorem dX10_strike_125 : decode cX10_strike 125 = .ok (.dup_x1, 1) := by decide +kernel
theorem dX10_strike_126 : decode cX10_strike 126 = .ok (.iconst 1, 1) := by decide +kernel
theorem dX10_strike_127 : decode cX10_strike 127 = .ok (.iadd, 1) := by decide +kernel
theorem dX10_strike_128 : decode cX10_strike 128 = .ok (.putfield 197, 3) := by decide +kernel
theorem dX10_strike_131 : decode cX10_strike 131 = .ok (.ireturn, 1) := by decide +kernel
set_option maxRecDepth 20000 in
theorem ggX10_about_X10_pitchAt : GoodIn wsX10_about wsX10_pitchAt := goodIn_r _ [13, 14, 15, 16, 17, 12, 18, 39, 40, 41, 42, 43, 44, 45, 46, 47, 48, 49, 50, 51] (by decide +kernel) (by decide +kernel)
set_option maxRecDepth 20000 in
theorem gX10_about_X10_pitchAt : GoodIn wsX10_about (wsV RX10 133 RX10 yX10_pitchAt wsX10_pitchAt) := goodIn_app (goodIn_r _ [9, 10, 11, 12] (by decide +kernel) (by decide +kernel)) ggX10_about_X10_pitchAt
theorem dX10_about_0 : decode cX10_about 0 = .ok (.aload_n 0, 1) := by decide +kernel
theorem dX10_about_1 : decode cX10_about 1 = .ok (.iload_n 1, 1) := by decide +kernel
theorem dX10_about_2 : decode cX10_about 2 = .ok (.invokevirtual 133, 3) := by decide +kernel
theorem dX10_about_5 : decode cX10_about 5 = .ok (.astore_n 3, 1) := by decide +kernel
theorem dX10_about_6 : decode cX10_about 6 = .ok (.aload_n 3, 1) := by decide +kernel
theorem dX10_about_7 : decode cX10_about 7 = .ok (.ifnonnull 5, 3) := by decide +kernel
theorem dX10_about_10 : decode cX10_about 10 = .ok (.iconst (-1), 1) := by decide +kernel
theorem dX10_about_11 : decode cX10_about 11 = .ok (.ireturn, 1) := by decide +kernel
theorem dX10_about_12 : decode cX10_about 12 = .ok (.iload_n 2, 1) := by decide +kernel
theorem dX10_about_13 : decode cX10_about 13 = .ok (.tableswitch 93 0 6 #[43, 48, 53, 58, 63, 68, 88], 43) := by decide +kernel
theorem dX10_about_56 : decode cX10_about 56 = .ok (.aload_n 3, 1) := by decide +kernel
theorem dX10_about_57 : decode cX10_about 57 = .ok (.getfield 213, 3) := by decide +kernel
theorem dX10_about_60 : decode cX10_about 60 = .ok (.ireturn, 1) := by decide +kernel
theorem dX10_about_61 : decode cX10_about 61 = .ok (.aload_n 3, 1) := by decide +kernel
theorem dX10_about_62 : decode cX10_about 62 = .ok (.getfield 216, 3) := by decide +kernel
theorem dX10_about_65 : decode cX10_about 65 = .ok (.ireturn, 1) := by decide +kernel
theorem dX10_about_66 : decode cX10_about 66 = .ok (.aload_n 3, 1) := by decide +kernel
theorem dX10_about_67 : decode cX10_about 67 = .ok (.getfield 219, 3) := by decide +kernel
theorem dX10_about_70 : decode cX10_about 70 = .ok (.ireturn, 1) := by decide +kernel
theorem dX10_about_71 : decode cX10_about 71 = .ok (.aload_n 3, 1) := by decide +kernel
theorem dX10_about_72 : decode cX10_about 72 = .ok (.getfield 222, 3) := by decide +kernel
theorem dX10_about_75 : decode cX10_about 75 = .ok (.ireturn, 1) := by decide +kernel
theorem dX10_about_76 : decode cX10_about 76 = .ok (.aload_n 3, 1) := by decide +kernel
theorem dX10_about_77 : decode cX10_about 77 = .ok (.getfield 225, 3) := by decide +kernel
theorem dX10_about_80 : decode cX10_about 80 = .ok (.ireturn, 1) := by decide +kernel
theorem dX10_about_81 : decode cX10_about 81 = .ok (.aload_n 3, 1) := by decide +kernel
theorem dX10_about_82 : decode cX10_about 82 = .ok (.getfield 159, 3) := by decide +kernel
theorem dX10_about_85 : decode cX10_about 85 = .ok (.ifnonnull 8, 3) := by decide +kernel
theorem dX10_about_88 : decode cX10_about 88 = .ok (.bipush (-9), 2) := by decide +kernel
theorem dX10_about_90 : decode cX10_about 90 = .ok (.goto 10, 3) := by decide +kernel
theorem dX10_about_93 : decode cX10_about 93 = .ok (.aload_n 3, 1) := by decide +kernel
theorem dX10_about_94 : decode cX10_about 94 = .ok (.getfield 159, 3) := by decide +kernel
theorem dX10_about_97 : decode cX10_about 97 = .ok (.getfield 228, 3) := by decide +kernel
theorem dX10_about_100 : decode cX10_about 100 = .ok (.ireturn, 1) := by decide +kernel
theorem dX10_about_101 : decode cX10_about 101 = .ok (.aload_n 3, 1) := by decide +kernel
theorem dX10_about_102 : decode cX10_about 102 = .ok (.getfield 231, 3) := by decide +kernel
theorem dX10_about_105 : decode cX10_about 105 = .ok (.ireturn, 1) := by decide +kernel
theorem dX10_about_106 : decode cX10_about 106 = .ok (.bipush (-2), 2) := by decide +kernel
theorem dX10_about_108 : decode cX10_about 108 = .ok (.ireturn, 1) := by decide +kernel
set_option maxRecDepth 20000 in
theorem ggX10_parcel_X10_takeAt : GoodIn wsX10_parcel wsX10_takeAt := goodIn_r _ [14, 15, 16, 17, 18, 13, 19, 40, 41, 42, 43, 44, 45, 46, 47, 48, 49, 50, 51, 52] (by decide +kernel) (by decide +kernel)
set_option maxRecDepth 20000 in
theorem gX10_parcel_X10_takeAt : GoodIn wsX10_parcel (wsV RX10 234 RX10 yX10_takeAt wsX10_takeAt) := goodIn_app (goodIn_r _ [10, 11, 12, 13] (by decide +kernel) (by decide +kernel)) ggX10_parcel_X10_takeAt
set_option maxRecDepth 20000 in
theorem ggX10_parcel_X10_isWithin : GoodIn wsX10_parcel wsX10_isWithin := goodIn_r _ [19] (by decide +kernel) (by decide +kernel)
set_option maxRecDepth 20000 in
theorem gX10_parcel_X10_isWithin : GoodIn wsX10_parcel (va_wsS RX10 64 yX10_isWithin wsX10_isWithin) := goodIn_app (goodIn_r _ [17, 18, 13] (by decide +kernel) (by decide +kernel)) ggX10_parcel_X10_isWithin
set_option maxRecDepth 20000 in
theorem ggX10_parcel_X5_init : GoodIn wsX10_parcel wsX5_init := goodIn_r _ [22, 23, 24, 25, 26, 27, 53, 54] (by decide +kernel) (by decide +kernel)
set_option maxRecDepth 20000 in
theorem gX10_parcel_X5_init : GoodIn wsX10_parcel (wsX5_init) := ggX10_parcel_X5_init
theorem dX10_parcel_0 : decode cX10_parcel 0 = .ok (.aload_n 0, 1) := by decide +kernel
theorem dX10_parcel_1 : decode cX10_parcel 1 = .ok (.iload_n 1, 1) := by decide +kernel
theorem dX10_parcel_2 : decode cX10_parcel 2 = .ok (.invokevirtual 234, 3) := by decide +kernel
theorem dX10_parcel_5 : decode cX10_parcel 5 = .ok (.astore 4, 2) := by decide +kernel
theorem dX10_parcel_7 : decode cX10_parcel 7 = .ok (.aload 4, 2) := by decide +kernel
theorem dX10_parcel_9 : decode cX10_parcel 9 = .ok (.ifnonnull 5, 3) := by decide +kernel
theorem dX10_parcel_12 : decode cX10_parcel 12 = .ok (.iconst (-1), 1) := by decide +kernel
theorem dX10_parcel_13 : decode cX10_parcel 13 = .ok (.ireturn, 1) := by decide +kernel
theorem dX10_parcel_14 : decode cX10_parcel 14 = .ok (.iload_n 2, 1) := by decide +kernel
theorem dX10_parcel_15 : decode cX10_parcel 15 = .ok (.iconst 1, 1) := by decide +kernel
theorem dX10_parcel_16 : decode cX10_parcel 16 = .ok (.sipush 1000, 3) := by decide +kernel
theorem dX10_parcel_19 : decode cX10_parcel 19 = .ok (.invokestatic 64, 3) := by decide +kernel
theorem dX10_parcel_22 : decode cX10_parcel 22 = .ok (.ifCond .eq 14, 3) := by decide +kernel
theorem dX10_parcel_25 : decode cX10_parcel 25 = .ok (.iload_n 3, 1) := by decide +kernel
theorem dX10_parcel_26 : decode cX10_parcel 26 = .ok (.iconst 0, 1) := by decide +kernel
theorem dX10_parcel_27 : decode cX10_parcel 27 = .ok (.sipush 1000, 3) := by decide +kernel
theorem dX10_parcel_30 : decode cX10_parcel 30 = .ok (.invokestatic 64, 3) := by decide +kernel
theorem dX10_parcel_33 : decode cX10_parcel 33 = .ok (.ifCond .ne 6, 3) := by decide +kernel
theorem dX10_parcel_36 : decode cX10_parcel 36 = .ok (.bipush (-2), 2) := by decide +kernel
theorem dX10_parcel_38 : decode cX10_parcel 38 = .ok (.ireturn, 1) := by decide +kernel
theorem dX10_parcel_39 : decode cX10_parcel 39 = .ok (.aload 4, 2) := by decide +kernel
theorem dX10_parcel_41 : decode cX10_parcel 41 = .ok (.getfield 238, 3) := by decide +kernel
theorem dX10_parcel_44 : decode cX10_parcel 44 = .ok (.ifCond .eq 6, 3) := by decide +kernel
theorem dX10_parcel_47 : decode cX10_parcel 47 = .ok (.bipush (-3), 2) := by decide +kernel
theorem dX10_parcel_49 : decode cX10_parcel 49 = .ok (.ireturn, 1) := by decide +kernel
theorem dX10_parcel_50 : decode cX10_parcel 50 = .ok (.aload_n 0, 1) := by decide +kernel
theorem dX10_parcel_51 : decode cX10_parcel 51 = .ok (.getfield 242, 3) := by decide +kernel
theorem dX10_parcel_54 : decode cX10_parcel 54 = .ok (.bipush 80, 2) := by decide +kernel
theorem dX10_parcel_56 : decode cX10_parcel 56 = .ok (.if_icmp .lt 6, 3) := by decide +kernel
theorem dX10_parcel_59 : decode cX10_parcel 59 = .ok (.bipush (-4), 2) := by decide +kernel
theorem dX10_parcel_61 : decode cX10_parcel 61 = .ok (.ireturn, 1) := by decide +kernel
theorem dX10_parcel_62 : decode cX10_parcel 62 = .ok (.aload_n 0, 1) := by decide +kernel
theorem dX10_parcel_63 : decode cX10_parcel 63 = .ok (.getfield 38, 3) := by decide +kernel
theorem dX10_parcel_66 : decode cX10_parcel 66 = .ok (.aload_n 0, 1) := by decide +kernel
theorem dX10_parcel_67 : decode cX10_parcel 67 = .ok (.getfield 242, 3) := by decide +kernel
theorem dX10_parcel_70 : decode cX10_parcel 70 = .ok (.new 36, 3) := by decide +kernel
theorem dX10_parcel_73 : decode cX10_parcel 73 = .ok (.dup, 1) := by decide +kernel
theorem dX10_parcel_74 : decode cX10_parcel 74 = .ok (.aload 4, 2) := by decide +kernel
theorem dX10_parcel_76 : decode cX10_parcel 76 = .ok (.getfield 245, 3) := by decide +kernel
theorem dX10_parcel_79 : decode cX10_parcel 79 = .ok (.iload_n 3, 1) := by decide +kernel
theorem dX10_parcel_80 : decode cX10_parcel 80 = .ok (.invokespecial 246, 3) := by decide +kernel
theorem dX10_parcel_83 : decode cX10_parcel 83 = .ok (.aastore, 1) := by decide +kernel
theorem dX10_parcel_84 : decode cX10_parcel 84 = .ok (.aload 4, 2) := by decide +kernel
theorem dX10_parcel_86 : decode cX10_parcel 86 = .ok (.dup, 1) := by decide +kernel
theorem dX10_parcel_87 : decode cX10_parcel 87 = .ok (.getfield 247, 3) := by decide +kernel
theorem dX10_parcel_90 : decode cX10_parcel 90 = .ok (.iconst 1, 1) := by decide +kernel
theorem dX10_parcel_91 : decode cX10_parcel 91 = .ok (.iadd, 1) := by decide +kernel
theorem dX10_parcel_92 : decode cX10_parcel 92 = .ok (.putfield 247, 3) := by decide +kernel
theorem dX10_parcel_95 : decode cX10_parcel 95 = .ok (.aload 4, 2) := by decide +kernel
theorem dX10_parcel_97 : decode cX10_parcel 97 = .ok (.dup, 1) := by decide +kernel
theorem dX10_parcel_98 : decode cX10_parcel 98 = .ok (.getfield 249, 3) := by decide +kernel
theorem dX10_parcel_101 : decode cX10_parcel 101 = .ok (.iload_n 2, 1) := by decide +kernel
theorem dX10_parcel_102 : decode cX10_parcel 102 = .ok (.i2l, 1) := by decide +kernel
theorem dX10_parcel_103 : decode cX10_parcel 103 = .ok (.iload_n 3, 1) := by decide +kernel
theorem dX10_parcel_104 : decode cX10_parcel 104 = .ok (.i2l, 1) := by decide +kernel
theorem dX10_parcel_105 : decode cX10_parcel 105 = .ok (.lmul, 1) := by decide +kernel
theorem dX10_parcel_106 : decode cX10_parcel 106 = .ok (.ladd, 1) := by decide +kernel
theorem dX10_parcel_107 : decode cX10_parcel 107 = .ok (.putfield 249, 3) := by decide +kernel
theorem dX10_parcel_110 : decode cX10_parcel 110 = .ok (.aload_n 0, 1) := by decide +kernel
theorem dX10_parcel_111 : decode cX10_parcel 111 = .ok (.dup, 1) := by decide +kernel
theorem dX10_parcel_112 : decode cX10_parcel 112 = .ok (.getfield 242, 3) := by decide +kernel
theorem dX10_parcel_115 : decode cX10_parcel 115 = .ok (.dup_x1, 1) := by decide +kernel
theorem dX10_parcel_116 : decode cX10_parcel 116 = .ok (.iconst 1, 1) := by decide +kernel
theorem dX10_parcel_117 : decode cX10_parcel 117 = .ok (.iadd, 1) := by decide +kernel
theorem dX10_parcel_118 : decode cX10_parcel 118 = .ok (.putfield 242, 3) := by decide +kernel
theorem dX10_parcel_121 : decode cX10_parcel 121 = .ok (.ireturn, 1) := by decide +kernel
set_option maxRecDepth 20000 in
theorem ggX10_spend_X10_takeAt : GoodIn wsX10_spend wsX10_takeAt := goodIn_r _ [10, 11, 12, 13, 14, 9, 15, 28, 29, 30, 31, 32, 33, 34, 35, 36, 37, 38, 39, 40] (by decide +kernel) (by decide +kernel)
set_option maxRecDepth 20000 in
theorem gX10_spend_X10_takeAt : GoodIn wsX10_spend (wsV RX10 234 RX10 yX10_takeAt wsX10_takeAt) := goodIn_app (goodIn_r _ [6, 7, 8, 9] (by decide +kernel) (by decide +kernel)) ggX10_spend_X10_takeAt
set_option maxRecDepth 20000 in
theorem ggX10_spend_X10_isWithin : GoodIn wsX10_spend wsX10_isWithin := goodIn_r _ [15] (by decide +kernel) (by decide +kernel)
set_option maxRecDepth 20000 in
theorem gX10_spend_X10_isWithin : GoodIn wsX10_spend (va_wsS RX10 64 yX10_isWithin wsX10_isWithin) := goodIn_app (goodIn_r _ [13, 14, 9] (by decide +kernel) (by decide +kernel)) ggX10_spend_X10_isWithin
theorem dX10_spend_0 : decode cX10_spend 0 = .ok (.aload_n 0, 1) := by decide +kernel
theorem dX10_spend_1 : decode cX10_spend 1 = .ok (.iload_n 1, 1) := by decide +kernel
theorem dX10_spend_2 : decode cX10_spend 2 = .ok (.invokevirtual 234, 3) := by decide +kernel
theorem dX10_spend_5 : decode cX10_spend 5 = .ok (.astore 4, 2) := by decide +kernel
theorem dX10_spend_7 : decode cX10_spend 7 = .ok (.aload 4, 2) := by decide +kernel
theorem dX10_spend_9 : decode cX10_spend 9 = .ok (.ifnull 22, 3) := by decide +kernel
theorem dX10_spend_12 : decode cX10_spend 12 = .ok (.iload_n 2, 1) := by decide +kernel
theorem dX10_spend_13 : decode cX10_spend 13 = .ok (.iconst 0, 1) := by decide +kernel
theorem dX10_spend_14 : decode cX10_spend 14 = .ok (.iconst 1, 1) := by decide +kernel
theorem dX10_spend_15 : decode cX10_spend 15 = .ok (.invokestatic 64, 3) := by decide +kernel
theorem dX10_spend_18 : decode cX10_spend 18 = .ok (.ifCond .eq 13, 3) := by decide +kernel
theorem dX10_spend_21 : decode cX10_spend 21 = .ok (.iload_n 3, 1) := by decide +kernel
theorem dX10_spend_22 : decode cX10_spend 22 = .ok (.iconst 0, 1) := by decide +kernel
theorem dX10_spend_23 : decode cX10_spend 23 = .ok (.ldc 252, 2) := by decide +kernel
theorem dX10_spend_25 : decode cX10_spend 25 = .ok (.invokestatic 64, 3) := by decide +kernel
theorem dX10_spend_28 : decode cX10_spend 28 = .ok (.ifCond .ne 7, 3) := by decide +kernel
theorem dX10_spend_31 : decode cX10_spend 31 = .ok (.ldc2_w 137, 3) := by decide +kernel
theorem dX10_spend_34 : decode cX10_spend 34 = .ok (.lreturn, 1) := by decide +kernel
theorem dX10_spend_35 : decode cX10_spend 35 = .ok (.aload 4, 2) := by decide +kernel
theorem dX10_spend_37 : decode cX10_spend 37 = .ok (.getfield 238, 3) := by decide +kernel
theorem dX10_spend_40 : decode cX10_spend 40 = .ok (.ifCond .eq 7, 3) := by decide +kernel
theorem dX10_spend_43 : decode cX10_spend 43 = .ok (.ldc2_w 137, 3) := by decide +kernel
theorem dX10_spend_46 : decode cX10_spend 46 = .ok (.lreturn, 1) := by decide +kernel
theorem dX10_spend_47 : decode cX10_spend 47 = .ok (.iload_n 2, 1) := by decide +kernel
theorem dX10_spend_48 : decode cX10_spend 48 = .ok (.ifCond .ne 21, 3) := by decide +kernel
theorem dX10_spend_51 : decode cX10_spend 51 = .ok (.aload 4, 2) := by decide +kernel
theorem dX10_spend_53 : decode cX10_spend 53 = .ok (.dup, 1) := by decide +kernel
theorem dX10_spend_54 : decode cX10_spend 54 = .ok (.getfield 253, 3) := by decide +kernel
theorem dX10_spend_57 : decode cX10_spend 57 = .ok (.iload_n 3, 1) := by decide +kernel
theorem dX10_spend_58 : decode cX10_spend 58 = .ok (.i2l, 1) := by decide +kernel
theorem dX10_spend_59 : decode cX10_spend 59 = .ok (.ladd, 1) := by decide +kernel
theorem dX10_spend_60 : decode cX10_spend 60 = .ok (.putfield 253, 3) := by decide +kernel
theorem dX10_spend_63 : decode cX10_spend 63 = .ok (.aload 4, 2) := by decide +kernel
theorem dX10_spend_65 : decode cX10_spend 65 = .ok (.getfield 253, 3) := by decide +kernel
theorem dX10_spend_68 : decode cX10_spend 68 = .ok (.lreturn, 1) := by decide +kernel
theorem dX10_spend_69 : decode cX10_spend 69 = .ok (.aload 4, 2) := by decide +kernel
theorem dX10_spend_71 : decode cX10_spend 71 = .ok (.dup, 1) := by decide +kernel
theorem dX10_spend_72 : decode cX10_spend 72 = .ok (.getfield 256, 3) := by decide +kernel
theorem dX10_spend_75 : decode cX10_spend 75 = .ok (.iload_n 3, 1) := by decide +kernel
theorem dX10_spend_76 : decode cX10_spend 76 = .ok (.i2l, 1) := by decide +kernel
theorem dX10_spend_77 : decode cX10_spend 77 = .ok (.ladd, 1) := by decide +kernel
theorem dX10_spend_78 : decode cX10_spend 78 = .ok (.putfield 256, 3) := by decide +kernel
theorem dX10_spend_81 : decode cX10_spend 81 = .ok (.aload 4, 2) := by decide +kernel
theorem dX10_spend_83 : decode cX10_spend 83 = .ok (.getfield 256, 3) := by decide +kernel
theorem dX10_spend_86 : decode cX10_spend 86 = .ok (.lreturn, 1) := by decide +kernel
set_option maxRecDepth 20000 in
theorem ggX10_settle_X10_takeAt : GoodIn wsX10_settle wsX10_takeAt := goodIn_r _ [8, 9, 10, 11, 12, 7, 13, 77, 78, 79, 80, 81, 82, 83, 84, 85, 86, 87, 88, 89] (by decide +kernel) (by decide +kernel)
set_option maxRecDepth 20000 in
theorem gX10_settle_X10_takeAt : GoodIn wsX10_settle (wsV RX10 234 RX10 yX10_takeAt wsX10_takeAt) := goodIn_app (goodIn_r _ [4, 5, 6, 7] (by decide +kernel) (by decide +kernel)) ggX10_settle_X10_takeAt
set_option maxRecDepth 20000 in
theorem ggX10_settle_X8_end : GoodIn wsX10_settle wsX8_end := goodIn_r _ [18, 19, 20, 21, 22, 23, 24, 25, 26, 27, 28, 29, 30, 31, 32, 33, 34, 35, 36, 37, 38, 39, 40, 41, 42, 43, 44, 45, 46, 47, 48, 49, 50, 51, 52, 53, 54, 55, 56, 57, 58, 59, 60, 61, 62, 63, 64, 65, 66, 67, 68, 69, 70, 71, 72, 73, 74, 75, 76, 90, 91, 92, 93, 94, 95, 96, 97, 98, 99, 100, 101, 102, 103, 104, 105, 106, 107, 108, 109] (by decide +kernel) (by decide +kernel)
set_option maxRecDepth 20000 in
theorem gX10_settle_X8_end : GoodIn wsX10_settle (wsV RX10 259 RX8 yX8_end wsX8_end) := goodIn_app (goodIn_r _ [14, 15, 16, 17] (by decide +kernel) (by decide +kernel)) ggX10_settle_X8_end
theorem dX10_settle_0 : decode cX10_settle 0 = .ok (.aload_n 0, 1) := by decide +kernel
theorem dX10_settle_1 : decode cX10_settle 1 = .ok (.iload_n 1, 1) := by decide +kernel
theorem dX10_settle_2 : decode cX10_settle 2 = .ok (.invokevirtual 234, 3) := by decide +kernel
theorem dX10_settle_5 : decode cX10_settle 5 = .ok (.astore_n 2, 1) := by decide +kernel
theorem dX10_settle_6 : decode cX10_settle 6 = .ok (.aload_n 2, 1) := by decide +kernel
theorem dX10_settle_7 : decode cX10_settle 7 = .ok (.ifnull 10, 3) := by decide +kernel
theorem dX10_settle_10 : decode cX10_settle 10 = .ok (.aload_n 2, 1) := by decide +kernel
theorem dX10_settle_11 : decode cX10_settle 11 = .ok (.getfield 238, 3) := by decide +kernel
theorem dX10_settle_14 : decode cX10_settle 14 = .ok (.ifCond .eq 7, 3) := by decide +kernel
theorem dX10_settle_17 : decode cX10_settle 17 = .ok (.ldc2_w 137, 3) := by decide +kernel
theorem dX10_settle_20 : decode cX10_settle 20 = .ok (.lreturn, 1) := by decide +kernel
theorem dX10_settle_21 : decode cX10_settle 21 = .ok (.aload_n 2, 1) := by decide +kernel
theorem dX10_settle_22 : decode cX10_settle 22 = .ok (.invokevirtual 259, 3) := by decide +kernel
theorem dX10_settle_25 : decode cX10_settle 25 = .ok (.aload_n 2, 1) := by decide +kernel
theorem dX10_settle_26 : decode cX10_settle 26 = .ok (.getfield 262, 3) := by decide +kernel
theorem dX10_settle_29 : decode cX10_settle 29 = .ok (.lreturn, 1) := by decide +kernel
set_option maxRecDepth 20000 in
theorem ggX10_taken_X10_takeAt : GoodIn wsX10_taken wsX10_takeAt := goodIn_r _ [12, 13, 14, 15, 16, 11, 17, 50, 51, 52, 53, 54, 55, 56, 57, 58, 59, 60, 61, 62] (by decide +kernel) (by decide +kernel)
set_option maxRecDepth 20000 in
theorem gX10_taken_X10_takeAt : GoodIn wsX10_taken (wsV RX10 234 RX10 yX10_takeAt wsX10_takeAt) := goodIn_app (goodIn_r _ [8, 9, 10, 11] (by decide +kernel) (by decide +kernel)) ggX10_taken_X10_takeAt
theorem dX10_taken_0 : decode cX10_taken 0 = .ok (.aload_n 0, 1) := by decide +kernel
theorem dX10_taken_1 : decode cX10_taken 1 = .ok (.iload_n 1, 1) := by decide +kernel
theorem dX10_taken_2 : decode cX10_taken 2 = .ok (.invokevirtual 234, 3) := by decide +kernel
theorem dX10_taken_5 : decode cX10_taken 5 = .ok (.astore_n 3, 1) := by decide +kernel
theorem dX10_taken_6 : decode cX10_taken 6 = .ok (.aload_n 3, 1) := by decide +kernel
theorem dX10_taken_7 : decode cX10_taken 7 = .ok (.ifnonnull 5, 3) := by decide +kernel
theorem dX10_taken_10 : decode cX10_taken 10 = .ok (.iconst (-1), 1) := by decide +kernel
theorem dX10_taken_11 : decode cX10_taken 11 = .ok (.ireturn, 1) := by decide +kernel
theorem dX10_taken_12 : decode cX10_taken 12 = .ok (.iload_n 2, 1) := by decide +kernel
theorem dX10_taken_13 : decode cX10_taken 13 = .ok (.tableswitch 74 0 4 #[35, 43, 51, 56, 69], 35) := by decide +kernel
theorem dX10_taken_48 : decode cX10_taken 48 = .ok (.aload_n 3, 1) := by decide +kernel
theorem dX10_taken_49 : decode cX10_taken 49 = .ok (.getfield 265, 3) := by decide +kernel
theorem dX10_taken_52 : decode cX10_taken 52 = .ok (.getfield 268, 3) := by decide +kernel
theorem dX10_taken_55 : decode cX10_taken 55 = .ok (.ireturn, 1) := by decide +kernel
theorem dX10_taken_56 : decode cX10_taken 56 = .ok (.aload_n 3, 1) := by decide +kernel
theorem dX10_taken_57 : decode cX10_taken 57 = .ok (.getfield 245, 3) := by decide +kernel
theorem dX10_taken_60 : decode cX10_taken 60 = .ok (.getfield 269, 3) := by decide +kernel
theorem dX10_taken_63 : decode cX10_taken 63 = .ok (.ireturn, 1) := by decide +kernel
theorem dX10_taken_64 : decode cX10_taken 64 = .ok (.aload_n 3, 1) := by decide +kernel
theorem dX10_taken_65 : decode cX10_taken 65 = .ok (.getfield 270, 3) := by decide +kernel
theorem dX10_taken_68 : decode cX10_taken 68 = .ok (.ireturn, 1) := by decide +kernel
theorem dX10_taken_69 : decode cX10_taken 69 = .ok (.aload_n 3, 1) := by decide +kernel
theorem dX10_taken_70 : decode cX10_taken 70 = .ok (.getfield 238, 3) := by decide +kernel
theorem dX10_taken_73 : decode cX10_taken 73 = .ok (.ifCond .eq 7, 3) := by decide +kernel
theorem dX10_taken_76 : decode cX10_taken 76 = .ok (.iconst 1, 1) := by decide +kernel
theorem dX10_taken_77 : decode cX10_taken 77 = .ok (.goto 4, 3) := by decide +kernel
theorem dX10_taken_80 : decode cX10_taken 80 = .ok (.iconst 0, 1) := by decide +kernel
theorem dX10_taken_81 : decode cX10_taken 81 = .ok (.ireturn, 1) := by decide +kernel
theorem dX10_taken_82 : decode cX10_taken 82 = .ok (.aload_n 3, 1) := by decide +kernel
theorem dX10_taken_83 : decode cX10_taken 83 = .ok (.getfield 247, 3) := by decide +kernel
theorem dX10_taken_86 : decode cX10_taken 86 = .ok (.ireturn, 1) := by decide +kernel
theorem dX10_taken_87 : decode cX10_taken 87 = .ok (.bipush (-2), 2) := by decide +kernel
theorem dX10_taken_89 : decode cX10_taken 89 = .ok (.ireturn, 1) := by decide +kernel
set_option maxRecDepth 20000 in
theorem ggX10_money_X10_takeAt : GoodIn wsX10_money wsX10_takeAt := goodIn_r _ [12, 13, 14, 15, 16, 11, 17, 30, 31, 32, 33, 34, 35, 36, 37, 38, 39, 40, 41, 42] (by decide +kernel) (by decide +kernel)
set_option maxRecDepth 20000 in
theorem gX10_money_X10_takeAt : GoodIn wsX10_money (wsV RX10 234 RX10 yX10_takeAt wsX10_takeAt) := goodIn_app (goodIn_r _ [8, 9, 10, 11] (by decide +kernel) (by decide +kernel)) ggX10_money_X10_takeAt
theorem dX10_money_0 : decode cX10_money 0 = .ok (.aload_n 0, 1) := by decide +kernel
theorem dX10_money_1 : decode cX10_money 1 = .ok (.iload_n 1, 1) := by decide +kernel
theorem dX10_money_2 : decode cX10_money 2 = .ok (.invokevirtual 234, 3) := by decide +kernel
theorem dX10_money_5 : decode cX10_money 5 = .ok (.astore_n 3, 1) := by decide +kernel
theorem dX10_money_6 : decode cX10_money 6 = .ok (.aload_n 3, 1) := by decide +kernel
theorem dX10_money_7 : decode cX10_money 7 = .ok (.ifnonnull 7, 3) := by decide +kernel
theorem dX10_money_10 : decode cX10_money 10 = .ok (.ldc2_w 137, 3) := by decide +kernel
theorem dX10_money_13 : decode cX10_money 13 = .ok (.lreturn, 1) := by decide +kernel
theorem dX10_money_14 : decode cX10_money 14 = .ok (.iload_n 2, 1) := by decide +kernel
theorem dX10_money_15 : decode cX10_money 15 = .ok (.tableswitch 67 0 5 #[37, 42, 47, 52, 57, 62], 37) := by decide +kernel
theorem dX10_money_52 : decode cX10_money 52 = .ok (.aload_n 3, 1) := by decide +kernel
theorem dX10_money_53 : decode cX10_money 53 = .ok (.getfield 249, 3) := by decide +kernel
theorem dX10_money_56 : decode cX10_money 56 = .ok (.lreturn, 1) := by decide +kernel
theorem dX10_money_57 : decode cX10_money 57 = .ok (.aload_n 3, 1) := by decide +kernel
theorem dX10_money_58 : decode cX10_money 58 = .ok (.getfield 253, 3) := by decide +kernel
theorem dX10_money_61 : decode cX10_money 61 = .ok (.lreturn, 1) := by decide +kernel
theorem dX10_money_62 : decode cX10_money 62 = .ok (.aload_n 3, 1) := by decide +kernel
theorem dX10_money_63 : decode cX10_money 63 = .ok (.getfield 256, 3) := by decide +kernel
theorem dX10_money_66 : decode cX10_money 66 = .ok (.lreturn, 1) := by decide +kernel
theorem dX10_money_67 : decode cX10_money 67 = .ok (.aload_n 3, 1) := by decide +kernel
theorem dX10_money_68 : decode cX10_money 68 = .ok (.getfield 262, 3) := by decide +kernel
theorem dX10_money_71 : decode cX10_money 71 = .ok (.lreturn, 1) := by decide +kernel
theorem dX10_money_72 : decode cX10_money 72 = .ok (.aload_n 3, 1) := by decide +kernel
theorem dX10_money_73 : decode cX10_money 73 = .ok (.getfield 203, 3) := by decide +kernel
theorem dX10_money_76 : decode cX10_money 76 = .ok (.lreturn, 1) := by decide +kernel
theorem dX10_money_77 : decode cX10_money 77 = .ok (.aload_n 3, 1) := by decide +kernel
theorem dX10_money_78 : decode cX10_money 78 = .ok (.getfield 207, 3) := by decide +kernel
theorem dX10_money_81 : decode cX10_money 81 = .ok (.lreturn, 1) := by decide +kernel
theorem dX10_money_82 : decode cX10_money 82 = .ok (.ldc2_w 137, 3) := by decide +kernel
theorem dX10_money_85 : decode cX10_money 85 = .ok (.lreturn, 1) := by decide +kernel
set_option maxRecDepth 20000 in
theorem ggX10_debt_X10_gangAt : GoodIn wsX10_debt wsX10_gangAt := goodIn_r _ [7, 8, 9, 10, 11, 6, 12, 25, 26, 27, 28, 29, 30, 31, 32, 33, 34, 35, 36, 37] (by decide +kernel) (by decide +kernel)
set_option maxRecDepth 20000 in
theorem gX10_debt_X10_gangAt : GoodIn wsX10_debt (wsV RX10 172 RX10 yX10_gangAt wsX10_gangAt) := goodIn_app (goodIn_r _ [3, 4, 5, 6] (by decide +kernel) (by decide +kernel)) ggX10_debt_X10_gangAt
theorem dX10_debt_0 : decode cX10_debt 0 = .ok (.aload_n 0, 1) := by decide +kernel
theorem dX10_debt_1 : decode cX10_debt 1 = .ok (.iload_n 1, 1) := by decide +kernel
theorem dX10_debt_2 : decode cX10_debt 2 = .ok (.invokevirtual 172, 3) := by decide +kernel
theorem dX10_debt_5 : decode cX10_debt 5 = .ok (.astore_n 2, 1) := by decide +kernel
theorem dX10_debt_6 : decode cX10_debt 6 = .ok (.aload_n 2, 1) := by decide +kernel
theorem dX10_debt_7 : decode cX10_debt 7 = .ok (.ifnonnull 9, 3) := by decide +kernel
theorem dX10_debt_10 : decode cX10_debt 10 = .ok (.ldc2_w 137, 3) := by decide +kernel
theorem dX10_debt_13 : decode cX10_debt 13 = .ok (.goto 7, 3) := by decide +kernel
theorem dX10_debt_16 : decode cX10_debt 16 = .ok (.aload_n 2, 1) := by decide +kernel
theorem dX10_debt_17 : decode cX10_debt 17 = .ok (.getfield 271, 3) := by decide +kernel
theorem dX10_debt_20 : decode cX10_debt 20 = .ok (.lreturn, 1) := by decide +kernel
set_option maxRecDepth 20000 in
theorem ggX10_suspects_X5_isSuspect : GoodIn wsX10_suspects wsX5_isSuspect := goodIn_r _ [8, 9, 10, 11, 12, 13, 14, 15, 16, 17, 18, 19, 20, 21, 22, 23, 24, 25, 26, 27, 28, 42, 43, 44, 45, 46, 47, 48, 49, 50, 51, 52, 53, 54, 55, 56] (by decide +kernel) (by decide +kernel)
set_option maxRecDepth 20000 in
theorem gX10_suspects_X5_isSuspect : GoodIn wsX10_suspects (wsV RX10 274 RX5 yX5_isSuspect wsX5_isSuspect) := goodIn_app (goodIn_r _ [4, 5, 6, 7] (by decide +kernel) (by decide +kernel)) ggX10_suspects_X5_isSuspect
theorem dX10_suspects_0 : decode cX10_suspects 0 = .ok (.iconst 0, 1) := by decide +kernel
theorem dX10_suspects_1 : decode cX10_suspects 1 = .ok (.istore_n 1, 1) := by decide +kernel
theorem dX10_suspects_2 : decode cX10_suspects 2 = .ok (.iconst 0, 1) := by decide +kernel
theorem dX10_suspects_3 : decode cX10_suspects 3 = .ok (.istore_n 2, 1) := by decide +kernel
theorem dX10_suspects_4 : decode cX10_suspects 4 = .ok (.iload_n 2, 1) := by decide +kernel
theorem dX10_suspects_5 : decode cX10_suspects 5 = .ok (.aload_n 0, 1) := by decide +kernel
theorem dX10_suspects_6 : decode cX10_suspects 6 = .ok (.getfield 242, 3) := by decide +kernel
theorem dX10_suspects_9 : decode cX10_suspects 9 = .ok (.if_icmp .ge 28, 3) := by decide +kernel
theorem dX10_suspects_12 : decode cX10_suspects 12 = .ok (.aload_n 0, 1) := by decide +kernel
theorem dX10_suspects_13 : decode cX10_suspects 13 = .ok (.getfield 38, 3) := by decide +kernel
theorem dX10_suspects_16 : decode cX10_suspects 16 = .ok (.iload_n 2, 1) := by decide +kernel
theorem dX10_suspects_17 : decode cX10_suspects 17 = .ok (.aaload, 1) := by decide +kernel
theorem dX10_suspects_18 : decode cX10_suspects 18 = .ok (.aload_n 0, 1) := by decide +kernel
theorem dX10_suspects_19 : decode cX10_suspects 19 = .ok (.getfield 12, 3) := by decide +kernel
theorem dX10_suspects_22 : decode cX10_suspects 22 = .ok (.invokevirtual 274, 3) := by decide +kernel
theorem dX10_suspects_25 : decode cX10_suspects 25 = .ok (.ifCond .eq 6, 3) := by decide +kernel
theorem dX10_suspects_28 : decode cX10_suspects 28 = .ok (.iinc 1 1, 3) := by decide +kernel
theorem dX10_suspects_31 : decode cX10_suspects 31 = .ok (.iinc 2 1, 3) := by decide +kernel
theorem dX10_suspects_34 : decode cX10_suspects 34 = .ok (.goto (-30), 3) := by decide +kernel
theorem dX10_suspects_37 : decode cX10_suspects 37 = .ok (.iload_n 1, 1) := by decide +kernel
theorem dX10_suspects_38 : decode cX10_suspects 38 = .ok (.ireturn, 1) := by decide +kernel
set_option maxRecDepth 20000 in
theorem ggX10_suspect_X5_isSuspect : GoodIn wsX10_suspect wsX5_isSuspect := goodIn_r _ [8, 9, 10, 11, 12, 13, 14, 15, 16, 17, 18, 19, 20, 21, 22, 23, 24, 25, 26, 27, 28, 42, 43, 44, 45, 46, 47, 48, 49, 50, 51, 52, 53, 54, 55, 56] (by decide +kernel) (by decide +kernel)
set_option maxRecDepth 20000 in
theorem gX10_suspect_X5_isSuspect : GoodIn wsX10_suspect (wsV RX10 274 RX5 yX5_isSuspect wsX5_isSuspect) := goodIn_app (goodIn_r _ [4, 5, 6, 7] (by decide +kernel) (by decide +kernel)) ggX10_suspect_X5_isSuspect
theorem dX10_suspect_0 : decode cX10_suspect 0 = .ok (.iconst 0, 1) := by decide +kernel
theorem dX10_suspect_1 : decode cX10_suspect 1 = .ok (.istore_n 2, 1) := by decide +kernel
theorem dX10_suspect_2 : decode cX10_suspect 2 = .ok (.iconst 0, 1) := by decide +kernel
theorem dX10_suspect_3 : decode cX10_suspect 3 = .ok (.istore_n 3, 1) := by decide +kernel
theorem dX10_suspect_4 : decode cX10_suspect 4 = .ok (.iload_n 3, 1) := by decide +kernel
theorem dX10_suspect_5 : decode cX10_suspect 5 = .ok (.aload_n 0, 1) := by decide +kernel
theorem dX10_suspect_6 : decode cX10_suspect 6 = .ok (.getfield 242, 3) := by decide +kernel
theorem dX10_suspect_9 : decode cX10_suspect 9 = .ok (.if_icmp .ge 38, 3) := by decide +kernel
theorem dX10_suspect_12 : decode cX10_suspect 12 = .ok (.aload_n 0, 1) := by decide +kernel
theorem dX10_suspect_13 : decode cX10_suspect 13 = .ok (.getfield 38, 3) := by decide +kernel
theorem dX10_suspect_16 : decode cX10_suspect 16 = .ok (.iload_n 3, 1) := by decide +kernel
theorem dX10_suspect_17 : decode cX10_suspect 17 = .ok (.aaload, 1) := by decide +kernel
theorem dX10_suspect_18 : decode cX10_suspect 18 = .ok (.aload_n 0, 1) := by decide +kernel
theorem dX10_suspect_19 : decode cX10_suspect 19 = .ok (.getfield 12, 3) := by decide +kernel
theorem dX10_suspect_22 : decode cX10_suspect 22 = .ok (.invokevirtual 274, 3) := by decide +kernel
theorem dX10_suspect_25 : decode cX10_suspect 25 = .ok (.ifCond .ne 6, 3) := by decide +kernel
theorem dX10_suspect_28 : decode cX10_suspect 28 = .ok (.goto 13, 3) := by decide +kernel
theorem dX10_suspect_31 : decode cX10_suspect 31 = .ok (.iload_n 2, 1) := by decide +kernel
theorem dX10_suspect_32 : decode cX10_suspect 32 = .ok (.iload_n 1, 1) := by decide +kernel
theorem dX10_suspect_33 : decode cX10_suspect 33 = .ok (.if_icmp .ne 5, 3) := by decide +kernel
theorem dX10_suspect_36 : decode cX10_suspect 36 = .ok (.iload_n 3, 1) := by decide +kernel
theorem dX10_suspect_37 : decode cX10_suspect 37 = .ok (.ireturn, 1) := by decide +kernel
theorem dX10_suspect_38 : decode cX10_suspect 38 = .ok (.iinc 2 1, 3) := by decide +kernel
theorem dX10_suspect_41 : decode cX10_suspect 41 = .ok (.iinc 3 1, 3) := by decide +kernel
theorem dX10_suspect_44 : decode cX10_suspect 44 = .ok (.goto (-40), 3) := by decide +kernel
theorem dX10_suspect_47 : decode cX10_suspect 47 = .ok (.iconst (-1), 1) := by decide +kernel
theorem dX10_suspect_48 : decode cX10_suspect 48 = .ok (.ireturn, 1) := by decide +kernel
set_option maxRecDepth 20000 in
theorem ggX10_skill_X10_gangAt : GoodIn wsX10_skill wsX10_gangAt := goodIn_r _ [14, 15, 16, 17, 18, 13, 19, 23, 24, 25, 26, 27, 28, 29, 30, 31, 32, 33, 34, 35] (by decide +kernel) (by decide +kernel)
set_option maxRecDepth 20000 in
theorem gX10_skill_X10_gangAt : GoodIn wsX10_skill (wsV RX10 172 RX10 yX10_gangAt wsX10_gangAt) := goodIn_app (goodIn_r _ [10, 11, 12, 13] (by decide +kernel) (by decide +kernel)) ggX10_skill_X10_gangAt
set_option maxRecDepth 20000 in
theorem ggX10_skill_X10_isWithin : GoodIn wsX10_skill wsX10_isWithin := goodIn_r _ [19] (by decide +kernel) (by decide +kernel)
set_option maxRecDepth 20000 in
theorem gX10_skill_X10_isWithin : GoodIn wsX10_skill (va_wsS RX10 64 yX10_isWithin wsX10_isWithin) := goodIn_app (goodIn_r _ [17, 18, 13] (by decide +kernel) (by decide +kernel)) ggX10_skill_X10_isWithin
set_option maxRecDepth 20000 in
theorem ggX10_skill_X10_commonDivisor : GoodIn wsX10_skill wsX10_commonDivisor := goodIn_r _ [22] (by decide +kernel) (by decide +kernel)
set_option maxRecDepth 20000 in
theorem gX10_skill_X10_commonDivisor : GoodIn wsX10_skill (va_wsS RX10 280 yX10_commonDivisor wsX10_commonDivisor) := goodIn_app (goodIn_r _ [20, 21, 13] (by decide +kernel) (by decide +kernel)) ggX10_skill_X10_commonDivisor
theorem dX10_skill_0 : decode cX10_skill 0 = .ok (.aload_n 0, 1) := by decide +kernel
theorem dX10_skill_1 : decode cX10_skill 1 = .ok (.iload_n 1, 1) := by decide +kernel
theorem dX10_skill_2 : decode cX10_skill 2 = .ok (.invokevirtual 172, 3) := by decide +kernel
theorem dX10_skill_5 : decode cX10_skill 5 = .ok (.astore_n 3, 1) := by decide +kernel
theorem dX10_skill_6 : decode cX10_skill 6 = .ok (.aload_n 3, 1) := by decide +kernel
theorem dX10_skill_7 : decode cX10_skill 7 = .ok (.ifnull 12, 3) := by decide +kernel
theorem dX10_skill_10 : decode cX10_skill 10 = .ok (.iload_n 2, 1) := by decide +kernel
theorem dX10_skill_11 : decode cX10_skill 11 = .ok (.iconst 0, 1) := by decide +kernel
theorem dX10_skill_12 : decode cX10_skill 12 = .ok (.iconst 1, 1) := by decide +kernel
theorem dX10_skill_13 : decode cX10_skill 13 = .ok (.invokestatic 64, 3) := by decide +kernel
theorem dX10_skill_16 : decode cX10_skill 16 = .ok (.ifCond .ne 7, 3) := by decide +kernel
theorem dX10_skill_19 : decode cX10_skill 19 = .ok (.ldc2_w 137, 3) := by decide +kernel
theorem dX10_skill_22 : decode cX10_skill 22 = .ok (.lreturn, 1) := by decide +kernel
theorem dX10_skill_23 : decode cX10_skill 23 = .ok (.lconst 0, 1) := by decide +kernel
theorem dX10_skill_24 : decode cX10_skill 24 = .ok (.lstore 4, 2) := by decide +kernel
theorem dX10_skill_26 : decode cX10_skill 26 = .ok (.lconst 0, 1) := by decide +kernel
theorem dX10_skill_27 : decode cX10_skill 27 = .ok (.lstore 6, 2) := by decide +kernel
theorem dX10_skill_29 : decode cX10_skill 29 = .ok (.iconst 0, 1) := by decide +kernel
theorem dX10_skill_30 : decode cX10_skill 30 = .ok (.istore 8, 2) := by decide +kernel
theorem dX10_skill_32 : decode cX10_skill 32 = .ok (.iload 8, 2) := by decide +kernel
theorem dX10_skill_34 : decode cX10_skill 34 = .ok (.aload_n 0, 1) := by decide +kernel
theorem dX10_skill_35 : decode cX10_skill 35 = .ok (.getfield 197, 3) := by decide +kernel
theorem dX10_skill_38 : decode cX10_skill 38 = .ok (.if_icmp .ge 78, 3) := by decide +kernel
theorem dX10_skill_41 : decode cX10_skill 41 = .ok (.aload_n 0, 1) := by decide +kernel
theorem dX10_skill_42 : decode cX10_skill 42 = .ok (.getfield 32, 3) := by decide +kernel
theorem dX10_skill_45 : decode cX10_skill 45 = .ok (.iload 8, 2) := by decide +kernel
theorem dX10_skill_47 : decode cX10_skill 47 = .ok (.aaload, 1) := by decide +kernel
theorem dX10_skill_48 : decode cX10_skill 48 = .ok (.astore 9, 2) := by decide +kernel
theorem dX10_skill_50 : decode cX10_skill 50 = .ok (.aload 9, 2) := by decide +kernel
theorem dX10_skill_52 : decode cX10_skill 52 = .ok (.getfield 265, 3) := by decide +kernel
theorem dX10_skill_55 : decode cX10_skill 55 = .ok (.aload_n 3, 1) := by decide +kernel
theorem dX10_skill_56 : decode cX10_skill 56 = .ok (.if_acmp .ne 54, 3) := by decide +kernel
theorem dX10_skill_59 : decode cX10_skill 59 = .ok (.aload 9, 2) := by decide +kernel
theorem dX10_skill_61 : decode cX10_skill 61 = .ok (.getfield 238, 3) := by decide +kernel
theorem dX10_skill_64 : decode cX10_skill 64 = .ok (.ifCond .ne 6, 3) := by decide +kernel
theorem dX10_skill_67 : decode cX10_skill 67 = .ok (.goto 43, 3) := by decide +kernel
theorem dX10_skill_70 : decode cX10_skill 70 = .ok (.aload 9, 2) := by decide +kernel
theorem dX10_skill_72 : decode cX10_skill 72 = .ok (.getfield 203, 3) := by decide +kernel
theorem dX10_skill_75 : decode cX10_skill 75 = .ok (.aload 9, 2) := by decide +kernel
theorem dX10_skill_77 : decode cX10_skill 77 = .ok (.getfield 207, 3) := by decide +kernel
theorem dX10_skill_80 : decode cX10_skill 80 = .ok (.ladd, 1) := by decide +kernel
theorem dX10_skill_81 : decode cX10_skill 81 = .ok (.lstore 10, 2) := by decide +kernel
theorem dX10_skill_83 : decode cX10_skill 83 = .ok (.lload 4, 2) := by decide +kernel
theorem dX10_skill_85 : decode cX10_skill 85 = .ok (.lload 10, 2) := by decide +kernel
theorem dX10_skill_87 : decode cX10_skill 87 = .ok (.ldc2_w 278, 3) := by decide +kernel
theorem dX10_skill_90 : decode cX10_skill 90 = .ok (.aload 9, 2) := by decide +kernel
theorem dX10_skill_92 : decode cX10_skill 92 = .ok (.getfield 249, 3) := by decide +kernel
theorem dX10_skill_95 : decode cX10_skill 95 = .ok (.lmul, 1) := by decide +kernel
theorem dX10_skill_96 : decode cX10_skill 96 = .ok (.lmul, 1) := by decide +kernel
theorem dX10_skill_97 : decode cX10_skill 97 = .ok (.ladd, 1) := by decide +kernel
theorem dX10_skill_98 : decode cX10_skill 98 = .ok (.lstore 4, 2) := by decide +kernel
theorem dX10_skill_100 : decode cX10_skill 100 = .ok (.lload 6, 2) := by decide +kernel
theorem dX10_skill_102 : decode cX10_skill 102 = .ok (.lload 10, 2) := by decide +kernel
theorem dX10_skill_104 : decode cX10_skill 104 = .ok (.lload 10, 2) := by decide +kernel
theorem dX10_skill_106 : decode cX10_skill 106 = .ok (.lmul, 1) := by decide +kernel
theorem dX10_skill_107 : decode cX10_skill 107 = .ok (.ladd, 1) := by decide +kernel
theorem dX10_skill_108 : decode cX10_skill 108 = .ok (.lstore 6, 2) := by decide +kernel
theorem dX10_skill_110 : decode cX10_skill 110 = .ok (.iinc 8 1, 3) := by decide +kernel
theorem dX10_skill_113 : decode cX10_skill 113 = .ok (.goto (-81), 3) := by decide +kernel
theorem dX10_skill_116 : decode cX10_skill 116 = .ok (.lload 4, 2) := by decide +kernel
theorem dX10_skill_118 : decode cX10_skill 118 = .ok (.lload 6, 2) := by decide +kernel
theorem dX10_skill_120 : decode cX10_skill 120 = .ok (.invokestatic 280, 3) := by decide +kernel
theorem dX10_skill_123 : decode cX10_skill 123 = .ok (.lstore 8, 2) := by decide +kernel
theorem dX10_skill_125 : decode cX10_skill 125 = .ok (.lload 8, 2) := by decide +kernel
theorem dX10_skill_127 : decode cX10_skill 127 = .ok (.lconst 0, 1) := by decide +kernel
theorem dX10_skill_128 : decode cX10_skill 128 = .ok (.lcmp, 1) := by decide +kernel
theorem dX10_skill_129 : decode cX10_skill 129 = .ok (.ifCond .ne 13, 3) := by decide +kernel
theorem dX10_skill_132 : decode cX10_skill 132 = .ok (.iload_n 2, 1) := by decide +kernel
theorem dX10_skill_133 : decode cX10_skill 133 = .ok (.ifCond .ne 7, 3) := by decide +kernel
theorem dX10_skill_136 : decode cX10_skill 136 = .ok (.lconst 0, 1) := by decide +kernel
theorem dX10_skill_137 : decode cX10_skill 137 = .ok (.goto 4, 3) := by decide +kernel
theorem dX10_skill_140 : decode cX10_skill 140 = .ok (.lconst 1, 1) := by decide +kernel
theorem dX10_skill_141 : decode cX10_skill 141 = .ok (.lreturn, 1) := by decide +kernel
theorem dX10_skill_142 : decode cX10_skill 142 = .ok (.iload_n 2, 1) := by decide +kernel
theorem dX10_skill_143 : decode cX10_skill 143 = .ok (.ifCond .ne 11, 3) := by decide +kernel
theorem dX10_skill_146 : decode cX10_skill 146 = .ok (.lload 4, 2) := by decide +kernel
theorem dX10_skill_148 : decode cX10_skill 148 = .ok (.lload 8, 2) := by decide +kernel
theorem dX10_skill_150 : decode cX10_skill 150 = .ok (.ldiv, 1) := by decide +kernel
theorem dX10_skill_151 : decode cX10_skill 151 = .ok (.goto 8, 3) := by decide +kernel
theorem dX10_skill_154 : decode cX10_skill 154 = .ok (.lload 6, 2) := by decide +kernel
theorem dX10_skill_156 : decode cX10_skill 156 = .ok (.lload 8, 2) := by decide +kernel
theorem dX10_skill_158 : decode cX10_skill 158 = .ok (.ldiv, 1) := by decide +kernel
theorem dX10_skill_159 : decode cX10_skill 159 = .ok (.lreturn, 1) := by decide +kernel
theorem dX10_commonDivisor_0 : decode cX10_commonDivisor 0 = .ok (.lload_n 0, 1) := by decide +kernel
theorem dX10_commonDivisor_1 : decode cX10_commonDivisor 1 = .ok (.lstore 4, 2) := by decide +kernel
theorem dX10_commonDivisor_3 : decode cX10_commonDivisor 3 = .ok (.lload_n 2, 1) := by decide +kernel
theorem dX10_commonDivisor_4 : decode cX10_commonDivisor 4 = .ok (.lstore 6, 2) := by decide +kernel
theorem dX10_commonDivisor_6 : decode cX10_commonDivisor 6 = .ok (.iconst 0, 1) := by decide +kernel
theorem dX10_commonDivisor_7 : decode cX10_commonDivisor 7 = .ok (.istore 8, 2) := by decide +kernel
theorem dX10_commonDivisor_9 : decode cX10_commonDivisor 9 = .ok (.iload 8, 2) := by decide +kernel
theorem dX10_commonDivisor_11 : decode cX10_commonDivisor 11 = .ok (.sipush 128, 3) := by decide +kernel
theorem dX10_commonDivisor_14 : decode cX10_commonDivisor 14 = .ok (.if_icmp .ge 31, 3) := by decide +kernel
theorem dX10_commonDivisor_17 : decode cX10_commonDivisor 17 = .ok (.lload 6, 2) := by decide +kernel
theorem dX10_commonDivisor_19 : decode cX10_commonDivisor 19 = .ok (.lconst 0, 1) := by decide +kernel
theorem dX10_commonDivisor_20 : decode cX10_commonDivisor 20 = .ok (.lcmp, 1) := by decide +kernel
theorem dX10_commonDivisor_21 : decode cX10_commonDivisor 21 = .ok (.ifCond .eq 24, 3) := by decide +kernel
theorem dX10_commonDivisor_24 : decode cX10_commonDivisor 24 = .ok (.lload 4, 2) := by decide +kernel
theorem dX10_commonDivisor_26 : decode cX10_commonDivisor 26 = .ok (.lload 6, 2) := by decide +kernel
theorem dX10_commonDivisor_28 : decode cX10_commonDivisor 28 = .ok (.lrem, 1) := by decide +kernel
theorem dX10_commonDivisor_29 : decode cX10_commonDivisor 29 = .ok (.lstore 9, 2) := by decide +kernel
theorem dX10_commonDivisor_31 : decode cX10_commonDivisor 31 = .ok (.lload 6, 2) := by decide +kernel
theorem dX10_commonDivisor_33 : decode cX10_commonDivisor 33 = .ok (.lstore 4, 2) := by decide +kernel
theorem dX10_commonDivisor_35 : decode cX10_commonDivisor 35 = .ok (.lload 9, 2) := by decide +kernel
theorem dX10_commonDivisor_37 : decode cX10_commonDivisor 37 = .ok (.lstore 6, 2) := by decide +kernel
theorem dX10_commonDivisor_39 : decode cX10_commonDivisor 39 = .ok (.iinc 8 1, 3) := by decide +kernel
theorem dX10_commonDivisor_42 : decode cX10_commonDivisor 42 = .ok (.goto (-33), 3) := by decide +kernel
theorem dX10_commonDivisor_45 : decode cX10_commonDivisor 45 = .ok (.lload 4, 2) := by decide +kernel
theorem dX10_commonDivisor_47 : decode cX10_commonDivisor 47 = .ok (.lreturn, 1) := by decide +kernel
set_option maxRecDepth 20000 in
theorem ggX10_sheet_X10_sheetAt : GoodIn wsX10_sheet wsX10_sheetAt := goodIn_r _ [6, 7, 8, 9, 5, 10, 30, 31, 32, 33, 34, 35, 36, 37, 38, 39, 40, 41, 42] (by decide +kernel) (by decide +kernel)
set_option maxRecDepth 20000 in
theorem gX10_sheet_X10_sheetAt : GoodIn wsX10_sheet (wsV RX10 93 RX10 yX10_sheetAt wsX10_sheetAt) := goodIn_app (goodIn_r _ [2, 3, 4, 5] (by decide +kernel) (by decide +kernel)) ggX10_sheet_X10_sheetAt
set_option maxRecDepth 20000 in
theorem ggX10_sheet_X7_isLane : GoodIn wsX10_sheet wsX7_isLane := goodIn_r _ [14, 9, 5, 10] (by decide +kernel) (by decide +kernel)
set_option maxRecDepth 20000 in
theorem gX10_sheet_X7_isLane : GoodIn wsX10_sheet (va_wsS RX10 97 yX7_isLane wsX7_isLane) := goodIn_app (goodIn_r _ [11, 12, 13] (by decide +kernel) (by decide +kernel)) ggX10_sheet_X7_isLane
set_option maxRecDepth 20000 in
theorem ggX10_sheet_X10_faulted : GoodIn wsX10_sheet wsX10_faulted := goodIn_r _ [18, 1, 30, 31, 32, 33, 34, 35, 36, 37, 38, 39, 40, 41, 42] (by decide +kernel) (by decide +kernel)
set_option maxRecDepth 20000 in
theorem gX10_sheet_X10_faulted : GoodIn wsX10_sheet (wsV RX10 105 RX10 yX10_faulted wsX10_faulted) := goodIn_app (goodIn_r _ [15, 16, 17, 5] (by decide +kernel) (by decide +kernel)) ggX10_sheet_X10_faulted
set_option maxRecDepth 20000 in
theorem ggX10_sheet_X7_renew : GoodIn wsX10_sheet wsX7_renew := goodIn_r _ [22, 23, 24, 25, 26, 27, 28, 29, 43, 44, 45] (by decide +kernel) (by decide +kernel)
set_option maxRecDepth 20000 in
theorem gX10_sheet_X7_renew : GoodIn wsX10_sheet (wsV RX10 284 RX7 yX7_renew wsX7_renew) := goodIn_app (goodIn_r _ [19, 20, 21, 13] (by decide +kernel) (by decide +kernel)) ggX10_sheet_X7_renew
theorem dX10_sheet_0 : decode cX10_sheet 0 = .ok (.aload_n 0, 1) := by decide +kernel
theorem dX10_sheet_1 : decode cX10_sheet 1 = .ok (.iconst 0, 1) := by decide +kernel
theorem dX10_sheet_2 : decode cX10_sheet 2 = .ok (.putfield 56, 3) := by decide +kernel
theorem dX10_sheet_5 : decode cX10_sheet 5 = .ok (.aload_n 0, 1) := by decide +kernel
theorem dX10_sheet_6 : decode cX10_sheet 6 = .ok (.iload_n 1, 1) := by decide +kernel
theorem dX10_sheet_7 : decode cX10_sheet 7 = .ok (.invokevirtual 93, 3) := by decide +kernel
theorem dX10_sheet_10 : decode cX10_sheet 10 = .ok (.astore 4, 2) := by decide +kernel
theorem dX10_sheet_12 : decode cX10_sheet 12 = .ok (.aload 4, 2) := by decide +kernel
theorem dX10_sheet_14 : decode cX10_sheet 14 = .ok (.ifnonnull 5, 3) := by decide +kernel
theorem dX10_sheet_17 : decode cX10_sheet 17 = .ok (.iconst (-1), 1) := by decide +kernel
theorem dX10_sheet_18 : decode cX10_sheet 18 = .ok (.ireturn, 1) := by decide +kernel
theorem dX10_sheet_19 : decode cX10_sheet 19 = .ok (.iload_n 2, 1) := by decide +kernel
theorem dX10_sheet_20 : decode cX10_sheet 20 = .ok (.invokestatic 97, 3) := by decide +kernel
theorem dX10_sheet_23 : decode cX10_sheet 23 = .ok (.ifCond .eq 9, 3) := by decide +kernel
theorem dX10_sheet_26 : decode cX10_sheet 26 = .ok (.iload_n 3, 1) := by decide +kernel
theorem dX10_sheet_27 : decode cX10_sheet 27 = .ok (.bipush 48, 2) := by decide +kernel
theorem dX10_sheet_29 : decode cX10_sheet 29 = .ok (.if_icmp .le 6, 3) := by decide +kernel
theorem dX10_sheet_32 : decode cX10_sheet 32 = .ok (.bipush (-2), 2) := by decide +kernel
theorem dX10_sheet_34 : decode cX10_sheet 34 = .ok (.ireturn, 1) := by decide +kernel
theorem dX10_sheet_35 : decode cX10_sheet 35 = .ok (.iload_n 3, 1) := by decide +kernel
theorem dX10_sheet_36 : decode cX10_sheet 36 = .ok (.ifCond .ge 9, 3) := by decide +kernel
theorem dX10_sheet_39 : decode cX10_sheet 39 = .ok (.aload_n 0, 1) := by decide +kernel
theorem dX10_sheet_40 : decode cX10_sheet 40 = .ok (.iconst 4, 1) := by decide +kernel
theorem dX10_sheet_41 : decode cX10_sheet 41 = .ok (.invokevirtual 105, 3) := by decide +kernel
theorem dX10_sheet_44 : decode cX10_sheet 44 = .ok (.ireturn, 1) := by decide +kernel
theorem dX10_sheet_45 : decode cX10_sheet 45 = .ok (.aload 4, 2) := by decide +kernel
theorem dX10_sheet_47 : decode cX10_sheet 47 = .ok (.iload_n 2, 1) := by decide +kernel
theorem dX10_sheet_48 : decode cX10_sheet 48 = .ok (.iload_n 3, 1) := by decide +kernel
theorem dX10_sheet_49 : decode cX10_sheet 49 = .ok (.invokevirtual 284, 3) := by decide +kernel
theorem dX10_sheet_52 : decode cX10_sheet 52 = .ok (.iconst 1, 1) := by decide +kernel
theorem dX10_sheet_53 : decode cX10_sheet 53 = .ok (.ireturn, 1) := by decide +kernel
set_option maxRecDepth 20000 in
theorem ggX10_lose_X10_sheetAt : GoodIn wsX10_lose wsX10_sheetAt := goodIn_r _ [5, 6, 7, 8, 4, 9, 26, 27, 28, 29, 30, 31, 32, 33, 34, 35, 36, 37, 38] (by decide +kernel) (by decide +kernel)
set_option maxRecDepth 20000 in
theorem gX10_lose_X10_sheetAt : GoodIn wsX10_lose (wsV RX10 93 RX10 yX10_sheetAt wsX10_sheetAt) := goodIn_app (goodIn_r _ [1, 2, 3, 4] (by decide +kernel) (by decide +kernel)) ggX10_lose_X10_sheetAt
set_option maxRecDepth 20000 in
theorem ggX10_lose_X7_hasNothing : GoodIn wsX10_lose wsX7_hasNothing := goodIn_r _ [14, 15, 39, 40, 41] (by decide +kernel) (by decide +kernel)
set_option maxRecDepth 20000 in
theorem gX10_lose_X7_hasNothing : GoodIn wsX10_lose (wsV RX10 288 RX7 yX7_hasNothing wsX7_hasNothing) := goodIn_app (goodIn_r _ [10, 11, 12, 13] (by decide +kernel) (by decide +kernel)) ggX10_lose_X7_hasNothing
set_option maxRecDepth 20000 in
theorem ggX10_lose_X7_renew : GoodIn wsX10_lose wsX7_renew := goodIn_r _ [19, 20, 15, 21, 22, 23, 24, 25, 39, 40, 41] (by decide +kernel) (by decide +kernel)
set_option maxRecDepth 20000 in
theorem gX10_lose_X7_renew : GoodIn wsX10_lose (wsV RX10 284 RX7 yX7_renew wsX7_renew) := goodIn_app (goodIn_r _ [16, 17, 18, 13] (by decide +kernel) (by decide +kernel)) ggX10_lose_X7_renew
theorem dX10_lose_0 : decode cX10_lose 0 = .ok (.aload_n 0, 1) := by decide +kernel
theorem dX10_lose_1 : decode cX10_lose 1 = .ok (.iload_n 1, 1) := by decide +kernel
theorem dX10_lose_2 : decode cX10_lose 2 = .ok (.invokevirtual 93, 3) := by decide +kernel
theorem dX10_lose_5 : decode cX10_lose 5 = .ok (.astore_n 2, 1) := by decide +kernel
theorem dX10_lose_6 : decode cX10_lose 6 = .ok (.aload_n 2, 1) := by decide +kernel
theorem dX10_lose_7 : decode cX10_lose 7 = .ok (.ifnonnull 5, 3) := by decide +kernel
theorem dX10_lose_10 : decode cX10_lose 10 = .ok (.iconst (-1), 1) := by decide +kernel
theorem dX10_lose_11 : decode cX10_lose 11 = .ok (.ireturn, 1) := by decide +kernel
theorem dX10_lose_12 : decode cX10_lose 12 = .ok (.aload_n 2, 1) := by decide +kernel
theorem dX10_lose_13 : decode cX10_lose 13 = .ok (.invokevirtual 288, 3) := by decide +kernel
theorem dX10_lose_16 : decode cX10_lose 16 = .ok (.ifCond .eq 5, 3) := by decide +kernel
theorem dX10_lose_19 : decode cX10_lose 19 = .ok (.iconst 0, 1) := by decide +kernel
theorem dX10_lose_20 : decode cX10_lose 20 = .ok (.ireturn, 1) := by decide +kernel
theorem dX10_lose_21 : decode cX10_lose 21 = .ok (.aload_n 2, 1) := by decide +kernel
theorem dX10_lose_22 : decode cX10_lose 22 = .ok (.iconst (-1), 1) := by decide +kernel
theorem dX10_lose_23 : decode cX10_lose 23 = .ok (.iconst 0, 1) := by decide +kernel
theorem dX10_lose_24 : decode cX10_lose 24 = .ok (.invokevirtual 284, 3) := by decide +kernel
theorem dX10_lose_27 : decode cX10_lose 27 = .ok (.iconst 1, 1) := by decide +kernel
theorem dX10_lose_28 : decode cX10_lose 28 = .ok (.ireturn, 1) := by decide +kernel
