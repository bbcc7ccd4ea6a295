def l_dX10_good_46 : List (Nat × List Nat) := [(46, [42]), (47, [180, 0, 12]), (50, [180, 0, 90]), (53, [21, 4]), (55, [46]), (56, [172])]
theorem b_dX10_good_46 : chkB l_dX10_good_46 46 (cX10_good.data.toList.drop 46) = true := by decide +kernel
theorem dX10_good_46 : decode cX10_good 46 = .ok (.aload_n 0, 1) := oo_42 (dl3 b_dX10_good_46 0 rfl)
theorem dX10_good_47 : decode cX10_good 47 = .ok (.getfield 12, 3) := oo_180 (b1 := 0) (b2 := 12) rfl (dl3 b_dX10_good_46 1 rfl)
theorem dX10_good_50 : decode cX10_good 50 = .ok (.getfield 90, 3) := oo_180 (b1 := 0) (b2 := 90) rfl (dl3 b_dX10_good_46 2 rfl)
theorem dX10_good_53 : decode cX10_good 53 = .ok (.iload 4, 2) := oo_21 (b1 := 4) (dl3 b_dX10_good_46 3 rfl)
theorem dX10_good_55 : decode cX10_good 55 = .ok (.iaload, 1) := oo_46 (dl3 b_dX10_good_46 4 rfl)
theorem dX10_good_56 : decode cX10_good 56 = .ok (.ireturn, 1) := oo_172 (dl3 b_dX10_good_46 5 rfl)
set_option maxRecDepth 20000 in
theorem ggX10_chart_X10_sheetAt : GoodIn wsX10_chart wsX10_sheetAt := goodIn_r _ [9, 10, 11, 12, 8, 13, 82, 83, 84, 85, 86, 87, 88, 89, 90, 91, 92, 93, 94] rfl (by decide +kernel)
set_option maxRecDepth 20000 in
theorem gX10_chart_X10_sheetAt : GoodIn wsX10_chart (wsV RX10 93 RX10 yX10_sheetAt wsX10_sheetAt) := goodIn_app (goodIn_r _ [5, 6, 7, 8] rfl (by decide +kernel)) ggX10_chart_X10_sheetAt
set_option maxRecDepth 20000 in
theorem ggX10_chart_X10_isWithin : GoodIn wsX10_chart wsX10_isWithin := goodIn_r _ [13] rfl (by decide +kernel)
set_option maxRecDepth 20000 in
theorem gX10_chart_X10_isWithin : GoodIn wsX10_chart (va_wsS RX10 64 yX10_isWithin wsX10_isWithin) := goodIn_app (goodIn_r _ [11, 12, 8] rfl (by decide +kernel)) ggX10_chart_X10_isWithin
set_option maxRecDepth 20000 in
theorem ggX10_chart_X7_isLane : GoodIn wsX10_chart wsX7_isLane := goodIn_r _ [17, 12, 8, 13] rfl (by decide +kernel)
set_option maxRecDepth 20000 in
theorem gX10_chart_X7_isLane : GoodIn wsX10_chart (va_wsS RX10 97 yX7_isLane wsX7_isLane) := goodIn_app (goodIn_r _ [14, 15, 16] rfl (by decide +kernel)) ggX10_chart_X7_isLane
set_option maxRecDepth 20000 in
theorem ggX10_chart_X10_chartFault : GoodIn wsX10_chart wsX10_chartFault := goodIn_r _ [20, 21, 22, 23, 16, 24, 25, 26, 27, 28, 29, 30, 31, 32, 33, 34, 95, 96, 97] rfl (by decide +kernel)
set_option maxRecDepth 20000 in
theorem gX10_chart_X10_chartFault : GoodIn wsX10_chart (va_wsS RX10 101 yX10_chartFault wsX10_chartFault) := goodIn_app (goodIn_r _ [18, 19, 8] rfl (by decide +kernel)) ggX10_chart_X10_chartFault
set_option maxRecDepth 20000 in
theorem ggX10_chart_X10_faulted : GoodIn wsX10_chart wsX10_faulted := goodIn_r _ [38, 1, 82, 83, 84, 85, 86, 87, 88, 89, 90, 91, 92, 93, 94] rfl (by decide +kernel)
set_option maxRecDepth 20000 in
theorem gX10_chart_X10_faulted : GoodIn wsX10_chart (wsV RX10 105 RX10 yX10_faulted wsX10_faulted) := goodIn_app (goodIn_r _ [35, 36, 37, 8] rfl (by decide +kernel)) ggX10_chart_X10_faulted
set_option maxRecDepth 20000 in
theorem ggX10_chart_X7_hasAbove : GoodIn wsX10_chart wsX7_hasAbove := goodIn_r _ [42, 43, 95, 96, 97] rfl (by decide +kernel)
set_option maxRecDepth 20000 in
theorem gX10_chart_X7_hasAbove : GoodIn wsX10_chart (wsV RX10 108 RX7 yX7_hasAbove wsX7_hasAbove) := goodIn_app (goodIn_r _ [39, 40, 41, 16] rfl (by decide +kernel)) ggX10_chart_X7_hasAbove
set_option maxRecDepth 20000 in
theorem ggX10_chart_X3_beginTrial : GoodIn wsX10_chart wsX3_beginTrial := goodIn_r _ [48, 49, 50, 51, 52, 53, 54, 55, 56, 98, 99, 100, 101, 102] rfl (by decide +kernel)
set_option maxRecDepth 20000 in
theorem gX10_chart_X3_beginTrial : GoodIn wsX10_chart (wsV RX10 68 RX3 yX3_beginTrial wsX3_beginTrial) := goodIn_app (goodIn_r _ [44, 45, 46, 47] rfl (by decide +kernel)) ggX10_chart_X3_beginTrial
set_option maxRecDepth 20000 in
theorem ggX10_chart_X3_tryCommon : GoodIn wsX10_chart wsX3_tryCommon := goodIn_r _ [60, 50, 61, 62, 63, 64, 56, 65, 66, 67, 98, 99, 100, 101, 102] rfl (by decide +kernel)
set_option maxRecDepth 20000 in
theorem gX10_chart_X3_tryCommon : GoodIn wsX10_chart (wsV RX10 75 RX3 yX3_tryCommon wsX3_tryCommon) := goodIn_app (goodIn_r _ [57, 58, 59, 47] rfl (by decide +kernel)) ggX10_chart_X3_tryCommon
set_option maxRecDepth 20000 in
theorem ggX10_chart_X3_endTrial : GoodIn wsX10_chart wsX3_endTrial := goodIn_r _ [71, 50, 56, 49, 55, 51, 52, 53, 54, 72, 73, 74, 75, 47, 76, 77, 78, 79, 80, 81, 58, 59, 60, 61, 62, 63, 64, 65, 66, 67, 98, 99, 100, 101, 102] rfl (by decide +kernel)
set_option maxRecDepth 20000 in
theorem gX10_chart_X3_endTrial : GoodIn wsX10_chart (wsV RX10 82 RX3 yX3_endTrial wsX3_endTrial) := goodIn_app (goodIn_r _ [68, 69, 70, 47] rfl (by decide +kernel)) ggX10_chart_X3_endTrial
def l_dX10_chart_0 : List (Nat × List Nat) := [(0, [42]), (1, [3]), (2, [181, 0, 56]), (5, [42]), (6, [27]), (7, [182, 0, 93]), (10, [58, 6]), (12, [25, 6]), (14, [198, 0, 14]), (17, [21, 5]), (19, [3]), (20, [16, 47]), (22, [184, 0, 64]), (25, [154, 0, 5]), (28, [2]), (29, [172]), (30, [28]), (31, [184, 0, 97]), (34, [154, 0, 6]), (37, [16, 254]), (39, [172]), (40, [25, 6]), (42, [28]), (43, [29]), (44, [21, 4]), (46, [21, 5]), (48, [184, 0, 101]), (51, [54, 7]), (53, [21, 7]), (55, [153, 0, 10]), (58, [42]), (59, [21, 7]), (61, [182, 0, 105]), (64, [172]), (65, [25, 6]), (67, [17, 3, 232]), (70, [29]), (71, [21, 4]), (73, [182, 0, 108]), (76, [153, 0, 6]), (79, [16, 254]), (81, [172]), (82, [42]), (83, [180, 0, 12]), (86, [182, 0, 68]), (89, [3]), (90, [54, 8]), (92, [21, 8]), (94, [21, 4]), (96, [162, 0, 42]), (99, [25, 6]), (101, [180, 0, 111]), (104, [29]), (105, [21, 8]), (107, [96]), (108, [46]), (109, [54, 9]), (111, [21, 9]), (113, [155, 0, 19]), (116, [42])]
theorem b_dX10_chart_0 : chkB l_dX10_chart_0 0 (cX10_chart.data.toList.drop 0) = true := by decide +kernel
theorem dX10_chart_0 : decode cX10_chart 0 = .ok (.aload_n 0, 1) := oo_42 (dl3 b_dX10_chart_0 0 rfl)
theorem dX10_chart_1 : decode cX10_chart 1 = .ok (.iconst 0, 1) := oo_3 (dl3 b_dX10_chart_0 1 rfl)
theorem dX10_chart_2 : decode cX10_chart 2 = .ok (.putfield 56, 3) := oo_181 (b1 := 0) (b2 := 56) rfl (dl3 b_dX10_chart_0 2 rfl)
theorem dX10_chart_5 : decode cX10_chart 5 = .ok (.aload_n 0, 1) := oo_42 (dl3 b_dX10_chart_0 3 rfl)
theorem dX10_chart_6 : decode cX10_chart 6 = .ok (.iload_n 1, 1) := oo_27 (dl3 b_dX10_chart_0 4 rfl)
theorem dX10_chart_7 : decode cX10_chart 7 = .ok (.invokevirtual 93, 3) := oo_182 (b1 := 0) (b2 := 93) rfl (dl3 b_dX10_chart_0 5 rfl)
theorem dX10_chart_10 : decode cX10_chart 10 = .ok (.astore 6, 2) := oo_58 (b1 := 6) (dl3 b_dX10_chart_0 6 rfl)
theorem dX10_chart_12 : decode cX10_chart 12 = .ok (.aload 6, 2) := oo_25 (b1 := 6) (dl3 b_dX10_chart_0 7 rfl)
theorem dX10_chart_14 : decode cX10_chart 14 = .ok (.ifnull 14, 3) := oo_198 (b1 := 0) (b2 := 14) rfl (dl3 b_dX10_chart_0 8 rfl)
theorem dX10_chart_17 : decode cX10_chart 17 = .ok (.iload 5, 2) := oo_21 (b1 := 5) (dl3 b_dX10_chart_0 9 rfl)
theorem dX10_chart_19 : decode cX10_chart 19 = .ok (.iconst 0, 1) := oo_3 (dl3 b_dX10_chart_0 10 rfl)
theorem dX10_chart_20 : decode cX10_chart 20 = .ok (.bipush 47, 2) := oo_16 (b1 := 47) rfl (dl3 b_dX10_chart_0 11 rfl)
theorem dX10_chart_22 : decode cX10_chart 22 = .ok (.invokestatic 64, 3) := oo_184 (b1 := 0) (b2 := 64) rfl (dl3 b_dX10_chart_0 12 rfl)
theorem dX10_chart_25 : decode cX10_chart 25 = .ok (.ifCond .ne 5, 3) := oo_154 (b1 := 0) (b2 := 5) rfl (dl3 b_dX10_chart_0 13 rfl)
theorem dX10_chart_28 : decode cX10_chart 28 = .ok (.iconst (-1), 1) := oo_2 (dl3 b_dX10_chart_0 14 rfl)
theorem dX10_chart_29 : decode cX10_chart 29 = .ok (.ireturn, 1) := oo_172 (dl3 b_dX10_chart_0 15 rfl)
theorem dX10_chart_30 : decode cX10_chart 30 = .ok (.iload_n 2, 1) := oo_28 (dl3 b_dX10_chart_0 16 rfl)
theorem dX10_chart_31 : decode cX10_chart 31 = .ok (.invokestatic 97, 3) := oo_184 (b1 := 0) (b2 := 97) rfl (dl3 b_dX10_chart_0 17 rfl)
theorem dX10_chart_34 : decode cX10_chart 34 = .ok (.ifCond .ne 6, 3) := oo_154 (b1 := 0) (b2 := 6) rfl (dl3 b_dX10_chart_0 18 rfl)
theorem dX10_chart_37 : decode cX10_chart 37 = .ok (.bipush (-2), 2) := oo_16 (b1 := 254) rfl (dl3 b_dX10_chart_0 19 rfl)
theorem dX10_chart_39 : decode cX10_chart 39 = .ok (.ireturn, 1) := oo_172 (dl3 b_dX10_chart_0 20 rfl)
theorem dX10_chart_40 : decode cX10_chart 40 = .ok (.aload 6, 2) := oo_25 (b1 := 6) (dl3 b_dX10_chart_0 21 rfl)
theorem dX10_chart_42 : decode cX10_chart 42 = .ok (.iload_n 2, 1) := oo_28 (dl3 b_dX10_chart_0 22 rfl)
theorem dX10_chart_43 : decode cX10_chart 43 = .ok (.iload_n 3, 1) := oo_29 (dl3 b_dX10_chart_0 23 rfl)
theorem dX10_chart_44 : decode cX10_chart 44 = .ok (.iload 4, 2) := oo_21 (b1 := 4) (dl3 b_dX10_chart_0 24 rfl)
theorem dX10_chart_46 : decode cX10_chart 46 = .ok (.iload 5, 2) := oo_21 (b1 := 5) (dl3 b_dX10_chart_0 25 rfl)
theorem dX10_chart_48 : decode cX10_chart 48 = .ok (.invokestatic 101, 3) := oo_184 (b1 := 0) (b2 := 101) rfl (dl3 b_dX10_chart_0 26 rfl)
theorem dX10_chart_51 : decode cX10_chart 51 = .ok (.istore 7, 2) := oo_54 (b1 := 7) (dl3 b_dX10_chart_0 27 rfl)
theorem dX10_chart_53 : decode cX10_chart 53 = .ok (.iload 7, 2) := oo_21 (b1 := 7) (dl3 b_dX10_chart_0 28 rfl)
theorem dX10_chart_55 : decode cX10_chart 55 = .ok (.ifCond .eq 10, 3) := oo_153 (b1 := 0) (b2 := 10) rfl (dl3 b_dX10_chart_0 29 rfl)
theorem dX10_chart_58 : decode cX10_chart 58 = .ok (.aload_n 0, 1) := oo_42 (dl3 b_dX10_chart_0 30 rfl)
theorem dX10_chart_59 : decode cX10_chart 59 = .ok (.iload 7, 2) := oo_21 (b1 := 7) (dl3 b_dX10_chart_0 31 rfl)
theorem dX10_chart_61 : decode cX10_chart 61 = .ok (.invokevirtual 105, 3) := oo_182 (b1 := 0) (b2 := 105) rfl (dl3 b_dX10_chart_0 32 rfl)
theorem dX10_chart_64 : decode cX10_chart 64 = .ok (.ireturn, 1) := oo_172 (dl3 b_dX10_chart_0 33 rfl)
theorem dX10_chart_65 : decode cX10_chart 65 = .ok (.aload 6, 2) := oo_25 (b1 := 6) (dl3 b_dX10_chart_0 34 rfl)
theorem dX10_chart_67 : decode cX10_chart 67 = .ok (.sipush 1000, 3) := oo_17 (b1 := 3) (b2 := 232) rfl (dl3 b_dX10_chart_0 35 rfl)
theorem dX10_chart_70 : decode cX10_chart 70 = .ok (.iload_n 3, 1) := oo_29 (dl3 b_dX10_chart_0 36 rfl)
theorem dX10_chart_71 : decode cX10_chart 71 = .ok (.iload 4, 2) := oo_21 (b1 := 4) (dl3 b_dX10_chart_0 37 rfl)
theorem dX10_chart_73 : decode cX10_chart 73 = .ok (.invokevirtual 108, 3) := oo_182 (b1 := 0) (b2 := 108) rfl (dl3 b_dX10_chart_0 38 rfl)
theorem dX10_chart_76 : decode cX10_chart 76 = .ok (.ifCond .eq 6, 3) := oo_153 (b1 := 0) (b2 := 6) rfl (dl3 b_dX10_chart_0 39 rfl)
theorem dX10_chart_79 : decode cX10_chart 79 = .ok (.bipush (-2), 2) := oo_16 (b1 := 254) rfl (dl3 b_dX10_chart_0 40 rfl)
theorem dX10_chart_81 : decode cX10_chart 81 = .ok (.ireturn, 1) := oo_172 (dl3 b_dX10_chart_0 41 rfl)
theorem dX10_chart_82 : decode cX10_chart 82 = .ok (.aload_n 0, 1) := oo_42 (dl3 b_dX10_chart_0 42 rfl)
theorem dX10_chart_83 : decode cX10_chart 83 = .ok (.getfield 12, 3) := oo_180 (b1 := 0) (b2 := 12) rfl (dl3 b_dX10_chart_0 43 rfl)
theorem dX10_chart_86 : decode cX10_chart 86 = .ok (.invokevirtual 68, 3) := oo_182 (b1 := 0) (b2 := 68) rfl (dl3 b_dX10_chart_0 44 rfl)
theorem dX10_chart_89 : decode cX10_chart 89 = .ok (.iconst 0, 1) := oo_3 (dl3 b_dX10_chart_0 45 rfl)
theorem dX10_chart_90 : decode cX10_chart 90 = .ok (.istore 8, 2) := oo_54 (b1 := 8) (dl3 b_dX10_chart_0 46 rfl)
theorem dX10_chart_92 : decode cX10_chart 92 = .ok (.iload 8, 2) := oo_21 (b1 := 8) (dl3 b_dX10_chart_0 47 rfl)
theorem dX10_chart_94 : decode cX10_chart 94 = .ok (.iload 4, 2) := oo_21 (b1 := 4) (dl3 b_dX10_chart_0 48 rfl)
theorem dX10_chart_96 : decode cX10_chart 96 = .ok (.if_icmp .ge 42, 3) := oo_162 (b1 := 0) (b2 := 42) rfl (dl3 b_dX10_chart_0 49 rfl)
theorem dX10_chart_99 : decode cX10_chart 99 = .ok (.aload 6, 2) := oo_25 (b1 := 6) (dl3 b_dX10_chart_0 50 rfl)
theorem dX10_chart_101 : decode cX10_chart 101 = .ok (.getfield 111, 3) := oo_180 (b1 := 0) (b2 := 111) rfl (dl3 b_dX10_chart_0 51 rfl)
theorem dX10_chart_104 : decode cX10_chart 104 = .ok (.iload_n 3, 1) := oo_29 (dl3 b_dX10_chart_0 52 rfl)
theorem dX10_chart_105 : decode cX10_chart 105 = .ok (.iload 8, 2) := oo_21 (b1 := 8) (dl3 b_dX10_chart_0 53 rfl)
theorem dX10_chart_107 : decode cX10_chart 107 = .ok (.iadd, 1) := oo_96 (dl3 b_dX10_chart_0 54 rfl)
theorem dX10_chart_108 : decode cX10_chart 108 = .ok (.iaload, 1) := oo_46 (dl3 b_dX10_chart_0 55 rfl)
theorem dX10_chart_109 : decode cX10_chart 109 = .ok (.istore 9, 2) := oo_54 (b1 := 9) (dl3 b_dX10_chart_0 56 rfl)
theorem dX10_chart_111 : decode cX10_chart 111 = .ok (.iload 9, 2) := oo_21 (b1 := 9) (dl3 b_dX10_chart_0 57 rfl)
theorem dX10_chart_113 : decode cX10_chart 113 = .ok (.ifCond .lt 19, 3) := oo_155 (b1 := 0) (b2 := 19) rfl (dl3 b_dX10_chart_0 58 rfl)
theorem dX10_chart_116 : decode cX10_chart 116 = .ok (.aload_n 0, 1) := oo_42 (dl3 b_dX10_chart_0 59 rfl)
def l_dX10_chart_117 : List (Nat × List Nat) := [(117, [180, 0, 12]), (120, [21, 5]), (122, [21, 8]), (124, [96]), (125, [21, 9]), (127, [21, 9]), (129, [182, 0, 75]), (132, [132, 8, 1]), (135, [167, 255, 213]), (138, [42]), (139, [180, 0, 12]), (142, [42]), (143, [180, 0, 12]), (146, [180, 0, 79]), (149, [182, 0, 82]), (152, [172])]
theorem b_dX10_chart_117 : chkB l_dX10_chart_117 117 (cX10_chart.data.toList.drop 117) = true := by decide +kernel
theorem dX10_chart_117 : decode cX10_chart 117 = .ok (.getfield 12, 3) := oo_180 (b1 := 0) (b2 := 12) rfl (dl3 b_dX10_chart_117 0 rfl)
theorem dX10_chart_120 : decode cX10_chart 120 = .ok (.iload 5, 2) := oo_21 (b1 := 5) (dl3 b_dX10_chart_117 1 rfl)
theorem dX10_chart_122 : decode cX10_chart 122 = .ok (.iload 8, 2) := oo_21 (b1 := 8) (dl3 b_dX10_chart_117 2 rfl)
theorem dX10_chart_124 : decode cX10_chart 124 = .ok (.iadd, 1) := oo_96 (dl3 b_dX10_chart_117 3 rfl)
theorem dX10_chart_125 : decode cX10_chart 125 = .ok (.iload 9, 2) := oo_21 (b1 := 9) (dl3 b_dX10_chart_117 4 rfl)
theorem dX10_chart_127 : decode cX10_chart 127 = .ok (.iload 9, 2) := oo_21 (b1 := 9) (dl3 b_dX10_chart_117 5 rfl)
theorem dX10_chart_129 : decode cX10_chart 129 = .ok (.invokevirtual 75, 3) := oo_182 (b1 := 0) (b2 := 75) rfl (dl3 b_dX10_chart_117 6 rfl)
theorem dX10_chart_132 : decode cX10_chart 132 = .ok (.iinc 8 1, 3) := oo_132 (b1 := 8) (b2 := 1) rfl (dl3 b_dX10_chart_117 7 rfl)
theorem dX10_chart_135 : decode cX10_chart 135 = .ok (.goto (-43), 3) := oo_167 (b1 := 255) (b2 := 213) rfl (dl3 b_dX10_chart_117 8 rfl)
theorem dX10_chart_138 : decode cX10_chart 138 = .ok (.aload_n 0, 1) := oo_42 (dl3 b_dX10_chart_117 9 rfl)
theorem dX10_chart_139 : decode cX10_chart 139 = .ok (.getfield 12, 3) := oo_180 (b1 := 0) (b2 := 12) rfl (dl3 b_dX10_chart_117 10 rfl)
theorem dX10_chart_142 : decode cX10_chart 142 = .ok (.aload_n 0, 1) := oo_42 (dl3 b_dX10_chart_117 11 rfl)
theorem dX10_chart_143 : decode cX10_chart 143 = .ok (.getfield 12, 3) := oo_180 (b1 := 0) (b2 := 12) rfl (dl3 b_dX10_chart_117 12 rfl)
theorem dX10_chart_146 : decode cX10_chart 146 = .ok (.getfield 79, 3) := oo_180 (b1 := 0) (b2 := 79) rfl (dl3 b_dX10_chart_117 13 rfl)
theorem dX10_chart_149 : decode cX10_chart 149 = .ok (.invokevirtual 82, 3) := oo_182 (b1 := 0) (b2 := 82) rfl (dl3 b_dX10_chart_117 14 rfl)
theorem dX10_chart_152 : decode cX10_chart 152 = .ok (.ireturn, 1) := oo_172 (dl3 b_dX10_chart_117 15 rfl)
set_option maxRecDepth 20000 in
theorem ggX10_chartFault_X7_faultAs : GoodIn wsX10_chartFault wsX7_faultAs := goodIn_r _ [5, 6, 7, 8, 9, 4, 10, 16, 17, 18] rfl (by decide +kernel)
set_option maxRecDepth 20000 in
theorem gX10_chartFault_X7_faultAs : GoodIn wsX10_chartFault (wsV RX10 114 RX7 yX7_faultAs wsX7_faultAs) := goodIn_app (goodIn_r _ [1, 2, 3, 4] rfl (by decide +kernel)) ggX10_chartFault_X7_faultAs
set_option maxRecDepth 20000 in
theorem ggX10_chartFault_X7_holds : GoodIn wsX10_chartFault wsX7_holds := goodIn_r _ [14, 15, 16, 17, 18] rfl (by decide +kernel)
set_option maxRecDepth 20000 in
theorem gX10_chartFault_X7_holds : GoodIn wsX10_chartFault (wsV RX10 117 RX7 yX7_holds wsX7_holds) := goodIn_app (goodIn_r _ [11, 12, 13, 4] rfl (by decide +kernel)) ggX10_chartFault_X7_holds
def l_dX10_chartFault_0 : List (Nat × List Nat) := [(0, [42]), (1, [27]), (2, [182, 0, 114]), (5, [54, 5]), (7, [21, 5]), (9, [153, 0, 6]), (12, [21, 5]), (14, [172]), (15, [29]), (16, [156, 0, 5]), (19, [7]), (20, [172]), (21, [29]), (22, [158, 0, 14]), (25, [42]), (26, [28]), (27, [29]), (28, [182, 0, 117]), (31, [154, 0, 5]), (34, [6]), (35, [172]), (36, [29]), (37, [16, 48]), (39, [21, 4]), (41, [100]), (42, [164, 0, 7]), (45, [6]), (46, [167, 0, 4]), (49, [3]), (50, [172])]
theorem b_dX10_chartFault_0 : chkB l_dX10_chartFault_0 0 (cX10_chartFault.data.toList.drop 0) = true := by decide +kernel
theorem dX10_chartFault_0 : decode cX10_chartFault 0 = .ok (.aload_n 0, 1) := oo_42 (dl3 b_dX10_chartFault_0 0 rfl)
theorem dX10_chartFault_1 : decode cX10_chartFault 1 = .ok (.iload_n 1, 1) := oo_27 (dl3 b_dX10_chartFault_0 1 rfl)
theorem dX10_chartFault_2 : decode cX10_chartFault 2 = .ok (.invokevirtual 114, 3) := oo_182 (b1 := 0) (b2 := 114) rfl (dl3 b_dX10_chartFault_0 2 rfl)
theorem dX10_chartFault_5 : decode cX10_chartFault 5 = .ok (.istore 5, 2) := oo_54 (b1 := 5) (dl3 b_dX10_chartFault_0 3 rfl)
theorem dX10_chartFault_7 : decode cX10_chartFault 7 = .ok (.iload 5, 2) := oo_21 (b1 := 5) (dl3 b_dX10_chartFault_0 4 rfl)
theorem dX10_chartFault_9 : decode cX10_chartFault 9 = .ok (.ifCond .eq 6, 3) := oo_153 (b1 := 0) (b2 := 6) rfl (dl3 b_dX10_chartFault_0 5 rfl)
theorem dX10_chartFault_12 : decode cX10_chartFault 12 = .ok (.iload 5, 2) := oo_21 (b1 := 5) (dl3 b_dX10_chartFault_0 6 rfl)
theorem dX10_chartFault_14 : decode cX10_chartFault 14 = .ok (.ireturn, 1) := oo_172 (dl3 b_dX10_chartFault_0 7 rfl)
theorem dX10_chartFault_15 : decode cX10_chartFault 15 = .ok (.iload_n 3, 1) := oo_29 (dl3 b_dX10_chartFault_0 8 rfl)
theorem dX10_chartFault_16 : decode cX10_chartFault 16 = .ok (.ifCond .ge 5, 3) := oo_156 (b1 := 0) (b2 := 5) rfl (dl3 b_dX10_chartFault_0 9 rfl)
theorem dX10_chartFault_19 : decode cX10_chartFault 19 = .ok (.iconst 4, 1) := oo_7 (dl3 b_dX10_chartFault_0 10 rfl)
theorem dX10_chartFault_20 : decode cX10_chartFault 20 = .ok (.ireturn, 1) := oo_172 (dl3 b_dX10_chartFault_0 11 rfl)
theorem dX10_chartFault_21 : decode cX10_chartFault 21 = .ok (.iload_n 3, 1) := oo_29 (dl3 b_dX10_chartFault_0 12 rfl)
theorem dX10_chartFault_22 : decode cX10_chartFault 22 = .ok (.ifCond .le 14, 3) := oo_158 (b1 := 0) (b2 := 14) rfl (dl3 b_dX10_chartFault_0 13 rfl)
theorem dX10_chartFault_25 : decode cX10_chartFault 25 = .ok (.aload_n 0, 1) := oo_42 (dl3 b_dX10_chartFault_0 14 rfl)
theorem dX10_chartFault_26 : decode cX10_chartFault 26 = .ok (.iload_n 2, 1) := oo_28 (dl3 b_dX10_chartFault_0 15 rfl)
theorem dX10_chartFault_27 : decode cX10_chartFault 27 = .ok (.iload_n 3, 1) := oo_29 (dl3 b_dX10_chartFault_0 16 rfl)
theorem dX10_chartFault_28 : decode cX10_chartFault 28 = .ok (.invokevirtual 117, 3) := oo_182 (b1 := 0) (b2 := 117) rfl (dl3 b_dX10_chartFault_0 17 rfl)
theorem dX10_chartFault_31 : decode cX10_chartFault 31 = .ok (.ifCond .ne 5, 3) := oo_154 (b1 := 0) (b2 := 5) rfl (dl3 b_dX10_chartFault_0 18 rfl)
theorem dX10_chartFault_34 : decode cX10_chartFault 34 = .ok (.iconst 3, 1) := oo_6 (dl3 b_dX10_chartFault_0 19 rfl)
theorem dX10_chartFault_35 : decode cX10_chartFault 35 = .ok (.ireturn, 1) := oo_172 (dl3 b_dX10_chartFault_0 20 rfl)
theorem dX10_chartFault_36 : decode cX10_chartFault 36 = .ok (.iload_n 3, 1) := oo_29 (dl3 b_dX10_chartFault_0 21 rfl)
theorem dX10_chartFault_37 : decode cX10_chartFault 37 = .ok (.bipush 48, 2) := oo_16 (b1 := 48) rfl (dl3 b_dX10_chartFault_0 22 rfl)
theorem dX10_chartFault_39 : decode cX10_chartFault 39 = .ok (.iload 4, 2) := oo_21 (b1 := 4) (dl3 b_dX10_chartFault_0 23 rfl)
theorem dX10_chartFault_41 : decode cX10_chartFault 41 = .ok (.isub, 1) := oo_100 (dl3 b_dX10_chartFault_0 24 rfl)
theorem dX10_chartFault_42 : decode cX10_chartFault 42 = .ok (.if_icmp .le 7, 3) := oo_164 (b1 := 0) (b2 := 7) rfl (dl3 b_dX10_chartFault_0 25 rfl)
theorem dX10_chartFault_45 : decode cX10_chartFault 45 = .ok (.iconst 3, 1) := oo_6 (dl3 b_dX10_chartFault_0 26 rfl)
theorem dX10_chartFault_46 : decode cX10_chartFault 46 = .ok (.goto 4, 3) := oo_167 (b1 := 0) (b2 := 4) rfl (dl3 b_dX10_chartFault_0 27 rfl)
theorem dX10_chartFault_49 : decode cX10_chartFault 49 = .ok (.iconst 0, 1) := oo_3 (dl3 b_dX10_chartFault_0 28 rfl)
theorem dX10_chartFault_50 : decode cX10_chartFault 50 = .ok (.ireturn, 1) := oo_172 (dl3 b_dX10_chartFault_0 29 rfl)
set_option maxRecDepth 20000 in
theorem ggX10_pitch_X3_hasSquare : GoodIn wsX10_pitch wsX3_hasSquare := goodIn_r _ [9, 10, 11, 12] rfl (by decide +kernel)
set_option maxRecDepth 20000 in
theorem gX10_pitch_X3_hasSquare : GoodIn wsX10_pitch (va_wsS RX10 60 yX3_hasSquare wsX3_hasSquare) := goodIn_app (goodIn_r _ [6, 7, 8] rfl (by decide +kernel)) ggX10_pitch_X3_hasSquare
set_option maxRecDepth 20000 in
theorem ggX10_pitch_X10_isWithin : GoodIn wsX10_pitch wsX10_isWithin := goodIn_r _ [12] rfl (by decide +kernel)
set_option maxRecDepth 20000 in
theorem gX10_pitch_X10_isWithin : GoodIn wsX10_pitch (va_wsS RX10 64 yX10_isWithin wsX10_isWithin) := goodIn_app (goodIn_r _ [13, 10, 11] rfl (by decide +kernel)) ggX10_pitch_X10_isWithin
set_option maxRecDepth 20000 in
theorem ggX10_pitch_X10_isAnyPitched : GoodIn wsX10_pitch wsX10_isAnyPitched := goodIn_r _ [17, 1, 2, 18, 19, 20, 5, 21, 22, 23, 24, 25, 34, 35, 36, 37, 38, 39, 40, 41, 42, 43, 44, 45, 46, 47, 48, 49, 50, 51, 52, 53, 54] rfl (by decide +kernel)
set_option maxRecDepth 20000 in
theorem gX10_pitch_X10_isAnyPitched : GoodIn wsX10_pitch (wsV RX10 120 RX10 yX10_isAnyPitched wsX10_isAnyPitched) := goodIn_app (goodIn_r _ [14, 15, 16, 11] rfl (by decide +kernel)) ggX10_pitch_X10_isAnyPitched
set_option maxRecDepth 20000 in
theorem ggX10_pitch_X6_init : GoodIn wsX10_pitch wsX6_init := goodIn_r _ [28, 29, 30, 31, 32, 22, 24, 23, 25, 33, 47, 48, 49, 50, 51, 52, 53, 54] rfl (by decide +kernel)
set_option maxRecDepth 20000 in
theorem gX10_pitch_X6_init : GoodIn wsX10_pitch (wsX6_init) := ggX10_pitch_X6_init
def l_dX10_pitch_0 : List (Nat × List Nat) := [(0, [27]), (1, [28]), (2, [184, 0, 60]), (5, [153, 0, 12]), (8, [29]), (9, [21, 4]), (11, [184, 0, 60]), (14, [154, 0, 5]), (17, [2]), (18, [172]), (19, [27]), (20, [29]), (21, [163, 0, 20]), (24, [28]), (25, [21, 4]), (27, [163, 0, 14]), (30, [21, 5]), (32, [4]), (33, [16, 100]), (35, [184, 0, 64]), (38, [154, 0, 6]), (41, [16, 254]), (43, [172]), (44, [42]), (45, [27]), (46, [28]), (47, [29]), (48, [21, 4]), (50, [182, 0, 120]), (53, [153, 0, 6]), (56, [16, 253]), (58, [172]), (59, [42]), (60, [180, 0, 124]), (63, [16, 12]), (65, [161, 0, 6]), (68, [16, 252]), (70, [172]), (71, [42]), (72, [180, 0, 20]), (75, [42]), (76, [180, 0, 124]), (79, [187, 0, 18]), (82, [89]), (83, [42]), (84, [180, 0, 124]), (87, [27]), (88, [28]), (89, [29]), (90, [21, 4]), (92, [21, 5]), (94, [183, 0, 127]), (97, [83]), (98, [42]), (99, [89]), (100, [180, 0, 124]), (103, [90]), (104, [4]), (105, [96]), (106, [181, 0, 124])]
theorem b_dX10_pitch_0 : chkB l_dX10_pitch_0 0 (cX10_pitch.data.toList.drop 0) = true := by decide +kernel
theorem dX10_pitch_0 : decode cX10_pitch 0 = .ok (.iload_n 1, 1) := oo_27 (dl3 b_dX10_pitch_0 0 rfl)
theorem dX10_pitch_1 : decode cX10_pitch 1 = .ok (.iload_n 2, 1) := oo_28 (dl3 b_dX10_pitch_0 1 rfl)
theorem dX10_pitch_2 : decode cX10_pitch 2 = .ok (.invokestatic 60, 3) := oo_184 (b1 := 0) (b2 := 60) rfl (dl3 b_dX10_pitch_0 2 rfl)
theorem dX10_pitch_5 : decode cX10_pitch 5 = .ok (.ifCond .eq 12, 3) := oo_153 (b1 := 0) (b2 := 12) rfl (dl3 b_dX10_pitch_0 3 rfl)
theorem dX10_pitch_8 : decode cX10_pitch 8 = .ok (.iload_n 3, 1) := oo_29 (dl3 b_dX10_pitch_0 4 rfl)
theorem dX10_pitch_9 : decode cX10_pitch 9 = .ok (.iload 4, 2) := oo_21 (b1 := 4) (dl3 b_dX10_pitch_0 5 rfl)
theorem dX10_pitch_11 : decode cX10_pitch 11 = .ok (.invokestatic 60, 3) := oo_184 (b1 := 0) (b2 := 60) rfl (dl3 b_dX10_pitch_0 6 rfl)
theorem dX10_pitch_14 : decode cX10_pitch 14 = .ok (.ifCond .ne 5, 3) := oo_154 (b1 := 0) (b2 := 5) rfl (dl3 b_dX10_pitch_0 7 rfl)
theorem dX10_pitch_17 : decode cX10_pitch 17 = .ok (.iconst (-1), 1) := oo_2 (dl3 b_dX10_pitch_0 8 rfl)
theorem dX10_pitch_18 : decode cX10_pitch 18 = .ok (.ireturn, 1) := oo_172 (dl3 b_dX10_pitch_0 9 rfl)
theorem dX10_pitch_19 : decode cX10_pitch 19 = .ok (.iload_n 1, 1) := oo_27 (dl3 b_dX10_pitch_0 10 rfl)
theorem dX10_pitch_20 : decode cX10_pitch 20 = .ok (.iload_n 3, 1) := oo_29 (dl3 b_dX10_pitch_0 11 rfl)
theorem dX10_pitch_21 : decode cX10_pitch 21 = .ok (.if_icmp .gt 20, 3) := oo_163 (b1 := 0) (b2 := 20) rfl (dl3 b_dX10_pitch_0 12 rfl)
theorem dX10_pitch_24 : decode cX10_pitch 24 = .ok (.iload_n 2, 1) := oo_28 (dl3 b_dX10_pitch_0 13 rfl)
theorem dX10_pitch_25 : decode cX10_pitch 25 = .ok (.iload 4, 2) := oo_21 (b1 := 4) (dl3 b_dX10_pitch_0 14 rfl)
theorem dX10_pitch_27 : decode cX10_pitch 27 = .ok (.if_icmp .gt 14, 3) := oo_163 (b1 := 0) (b2 := 14) rfl (dl3 b_dX10_pitch_0 15 rfl)
theorem dX10_pitch_30 : decode cX10_pitch 30 = .ok (.iload 5, 2) := oo_21 (b1 := 5) (dl3 b_dX10_pitch_0 16 rfl)
theorem dX10_pitch_32 : decode cX10_pitch 32 = .ok (.iconst 1, 1) := oo_4 (dl3 b_dX10_pitch_0 17 rfl)
theorem dX10_pitch_33 : decode cX10_pitch 33 = .ok (.bipush 100, 2) := oo_16 (b1 := 100) rfl (dl3 b_dX10_pitch_0 18 rfl)
theorem dX10_pitch_35 : decode cX10_pitch 35 = .ok (.invokestatic 64, 3) := oo_184 (b1 := 0) (b2 := 64) rfl (dl3 b_dX10_pitch_0 19 rfl)
theorem dX10_pitch_38 : decode cX10_pitch 38 = .ok (.ifCond .ne 6, 3) := oo_154 (b1 := 0) (b2 := 6) rfl (dl3 b_dX10_pitch_0 20 rfl)
theorem dX10_pitch_41 : decode cX10_pitch 41 = .ok (.bipush (-2), 2) := oo_16 (b1 := 254) rfl (dl3 b_dX10_pitch_0 21 rfl)
theorem dX10_pitch_43 : decode cX10_pitch 43 = .ok (.ireturn, 1) := oo_172 (dl3 b_dX10_pitch_0 22 rfl)
theorem dX10_pitch_44 : decode cX10_pitch 44 = .ok (.aload_n 0, 1) := oo_42 (dl3 b_dX10_pitch_0 23 rfl)
theorem dX10_pitch_45 : decode cX10_pitch 45 = .ok (.iload_n 1, 1) := oo_27 (dl3 b_dX10_pitch_0 24 rfl)
theorem dX10_pitch_46 : decode cX10_pitch 46 = .ok (.iload_n 2, 1) := oo_28 (dl3 b_dX10_pitch_0 25 rfl)
theorem dX10_pitch_47 : decode cX10_pitch 47 = .ok (.iload_n 3, 1) := oo_29 (dl3 b_dX10_pitch_0 26 rfl)
theorem dX10_pitch_48 : decode cX10_pitch 48 = .ok (.iload 4, 2) := oo_21 (b1 := 4) (dl3 b_dX10_pitch_0 27 rfl)
theorem dX10_pitch_50 : decode cX10_pitch 50 = .ok (.invokevirtual 120, 3) := oo_182 (b1 := 0) (b2 := 120) rfl (dl3 b_dX10_pitch_0 28 rfl)
theorem dX10_pitch_53 : decode cX10_pitch 53 = .ok (.ifCond .eq 6, 3) := oo_153 (b1 := 0) (b2 := 6) rfl (dl3 b_dX10_pitch_0 29 rfl)
theorem dX10_pitch_56 : decode cX10_pitch 56 = .ok (.bipush (-3), 2) := oo_16 (b1 := 253) rfl (dl3 b_dX10_pitch_0 30 rfl)
theorem dX10_pitch_58 : decode cX10_pitch 58 = .ok (.ireturn, 1) := oo_172 (dl3 b_dX10_pitch_0 31 rfl)
theorem dX10_pitch_59 : decode cX10_pitch 59 = .ok (.aload_n 0, 1) := oo_42 (dl3 b_dX10_pitch_0 32 rfl)
theorem dX10_pitch_60 : decode cX10_pitch 60 = .ok (.getfield 124, 3) := oo_180 (b1 := 0) (b2 := 124) rfl (dl3 b_dX10_pitch_0 33 rfl)
theorem dX10_pitch_63 : decode cX10_pitch 63 = .ok (.bipush 12, 2) := oo_16 (b1 := 12) rfl (dl3 b_dX10_pitch_0 34 rfl)
theorem dX10_pitch_65 : decode cX10_pitch 65 = .ok (.if_icmp .lt 6, 3) := oo_161 (b1 := 0) (b2 := 6) rfl (dl3 b_dX10_pitch_0 35 rfl)
theorem dX10_pitch_68 : decode cX10_pitch 68 = .ok (.bipush (-4), 2) := oo_16 (b1 := 252) rfl (dl3 b_dX10_pitch_0 36 rfl)
theorem dX10_pitch_70 : decode cX10_pitch 70 = .ok (.ireturn, 1) := oo_172 (dl3 b_dX10_pitch_0 37 rfl)
theorem dX10_pitch_71 : decode cX10_pitch 71 = .ok (.aload_n 0, 1) := oo_42 (dl3 b_dX10_pitch_0 38 rfl)
theorem dX10_pitch_72 : decode cX10_pitch 72 = .ok (.getfield 20, 3) := oo_180 (b1 := 0) (b2 := 20) rfl (dl3 b_dX10_pitch_0 39 rfl)
theorem dX10_pitch_75 : decode cX10_pitch 75 = .ok (.aload_n 0, 1) := oo_42 (dl3 b_dX10_pitch_0 40 rfl)
theorem dX10_pitch_76 : decode cX10_pitch 76 = .ok (.getfield 124, 3) := oo_180 (b1 := 0) (b2 := 124) rfl (dl3 b_dX10_pitch_0 41 rfl)
theorem dX10_pitch_79 : decode cX10_pitch 79 = .ok (.new 18, 3) := oo_187 (b1 := 0) (b2 := 18) rfl (dl3 b_dX10_pitch_0 42 rfl)
theorem dX10_pitch_82 : decode cX10_pitch 82 = .ok (.dup, 1) := oo_89 (dl3 b_dX10_pitch_0 43 rfl)
theorem dX10_pitch_83 : decode cX10_pitch 83 = .ok (.aload_n 0, 1) := oo_42 (dl3 b_dX10_pitch_0 44 rfl)
theorem dX10_pitch_84 : decode cX10_pitch 84 = .ok (.getfield 124, 3) := oo_180 (b1 := 0) (b2 := 124) rfl (dl3 b_dX10_pitch_0 45 rfl)
theorem dX10_pitch_87 : decode cX10_pitch 87 = .ok (.iload_n 1, 1) := oo_27 (dl3 b_dX10_pitch_0 46 rfl)
theorem dX10_pitch_88 : decode cX10_pitch 88 = .ok (.iload_n 2, 1) := oo_28 (dl3 b_dX10_pitch_0 47 rfl)
theorem dX10_pitch_89 : decode cX10_pitch 89 = .ok (.iload_n 3, 1) := oo_29 (dl3 b_dX10_pitch_0 48 rfl)
theorem dX10_pitch_90 : decode cX10_pitch 90 = .ok (.iload 4, 2) := oo_21 (b1 := 4) (dl3 b_dX10_pitch_0 49 rfl)
theorem dX10_pitch_92 : decode cX10_pitch 92 = .ok (.iload 5, 2) := oo_21 (b1 := 5) (dl3 b_dX10_pitch_0 50 rfl)
theorem dX10_pitch_94 : decode cX10_pitch 94 = .ok (.invokespecial 127, 3) := oo_183 (b1 := 0) (b2 := 127) rfl (dl3 b_dX10_pitch_0 51 rfl)
theorem dX10_pitch_97 : decode cX10_pitch 97 = .ok (.aastore, 1) := oo_83 (dl3 b_dX10_pitch_0 52 rfl)
theorem dX10_pitch_98 : decode cX10_pitch 98 = .ok (.aload_n 0, 1) := oo_42 (dl3 b_dX10_pitch_0 53 rfl)
theorem dX10_pitch_99 : decode cX10_pitch 99 = .ok (.dup, 1) := oo_89 (dl3 b_dX10_pitch_0 54 rfl)
theorem dX10_pitch_100 : decode cX10_pitch 100 = .ok (.getfield 124, 3) := oo_180 (b1 := 0) (b2 := 124) rfl (dl3 b_dX10_pitch_0 55 rfl)
theorem dX10_pitch_103 : decode cX10_pitch 103 = .ok (.dup_x1, 1) := oo_90 (dl3 b_dX10_pitch_0 56 rfl)
theorem dX10_pitch_104 : decode cX10_pitch 104 = .ok (.iconst 1, 1) := oo_4 (dl3 b_dX10_pitch_0 57 rfl)
theorem dX10_pitch_105 : decode cX10_pitch 105 = .ok (.iadd, 1) := oo_96 (dl3 b_dX10_pitch_0 58 rfl)
theorem dX10_pitch_106 : decode cX10_pitch 106 = .ok (.putfield 124, 3) := oo_181 (b1 := 0) (b2 := 124) rfl (dl3 b_dX10_pitch_0 59 rfl)
def l_dX10_pitch_109 : List (Nat × List Nat) := [(109, [172])]
theorem b_dX10_pitch_109 : chkB l_dX10_pitch_109 109 (cX10_pitch.data.toList.drop 109) = true := by decide +kernel
theorem dX10_pitch_109 : decode cX10_pitch 109 = .ok (.ireturn, 1) := oo_172 (dl3 b_dX10_pitch_109 0 rfl)
set_option maxRecDepth 20000 in
theorem ggX10_isAnyPitched_X6_meets : GoodIn wsX10_isAnyPitched wsX6_meets := goodIn_r _ [7, 8, 9, 10, 11, 25, 26, 27, 28, 29, 30, 31, 32] rfl (by decide +kernel)
set_option maxRecDepth 20000 in
theorem gX10_isAnyPitched_X6_meets : GoodIn wsX10_isAnyPitched (wsV RX10 130 RX6 yX6_meets wsX6_meets) := goodIn_app (goodIn_r _ [3, 4, 5, 6] rfl (by decide +kernel)) ggX10_isAnyPitched_X6_meets
def l_dX10_isAnyPitched_0 : List (Nat × List Nat) := [(0, [3]), (1, [54, 5]), (3, [21, 5]), (5, [42]), (6, [180, 0, 124]), (9, [162, 0, 29]), (12, [42]), (13, [180, 0, 20]), (16, [21, 5]), (18, [50]), (19, [27]), (20, [28]), (21, [29]), (22, [21, 4]), (24, [182, 0, 130]), (27, [153, 0, 5]), (30, [4]), (31, [172]), (32, [132, 5, 1]), (35, [167, 255, 224]), (38, [3]), (39, [172])]
theorem b_dX10_isAnyPitched_0 : chkB l_dX10_isAnyPitched_0 0 (cX10_isAnyPitched.data.toList.drop 0) = true := by decide +kernel
theorem dX10_isAnyPitched_0 : decode cX10_isAnyPitched 0 = .ok (.iconst 0, 1) := oo_3 (dl3 b_dX10_isAnyPitched_0 0 rfl)
theorem dX10_isAnyPitched_1 : decode cX10_isAnyPitched 1 = .ok (.istore 5, 2) := oo_54 (b1 := 5) (dl3 b_dX10_isAnyPitched_0 1 rfl)
theorem dX10_isAnyPitched_3 : decode cX10_isAnyPitched 3 = .ok (.iload 5, 2) := oo_21 (b1 := 5) (dl3 b_dX10_isAnyPitched_0 2 rfl)
theorem dX10_isAnyPitched_5 : decode cX10_isAnyPitched 5 = .ok (.aload_n 0, 1) := oo_42 (dl3 b_dX10_isAnyPitched_0 3 rfl)
theorem dX10_isAnyPitched_6 : decode cX10_isAnyPitched 6 = .ok (.getfield 124, 3) := oo_180 (b1 := 0) (b2 := 124) rfl (dl3 b_dX10_isAnyPitched_0 4 rfl)
theorem dX10_isAnyPitched_9 : decode cX10_isAnyPitched 9 = .ok (.if_icmp .ge 29, 3) := oo_162 (b1 := 0) (b2 := 29) rfl (dl3 b_dX10_isAnyPitched_0 5 rfl)
theorem dX10_isAnyPitched_12 : decode cX10_isAnyPitched 12 = .ok (.aload_n 0, 1) := oo_42 (dl3 b_dX10_isAnyPitched_0 6 rfl)
theorem dX10_isAnyPitched_13 : decode cX10_isAnyPitched 13 = .ok (.getfield 20, 3) := oo_180 (b1 := 0) (b2 := 20) rfl (dl3 b_dX10_isAnyPitched_0 7 rfl)
theorem dX10_isAnyPitched_16 : decode cX10_isAnyPitched 16 = .ok (.iload 5, 2) := oo_21 (b1 := 5) (dl3 b_dX10_isAnyPitched_0 8 rfl)
theorem dX10_isAnyPitched_18 : decode cX10_isAnyPitched 18 = .ok (.aaload, 1) := oo_50 (dl3 b_dX10_isAnyPitched_0 9 rfl)
theorem dX10_isAnyPitched_19 : decode cX10_isAnyPitched 19 = .ok (.iload_n 1, 1) := oo_27 (dl3 b_dX10_isAnyPitched_0 10 rfl)
theorem dX10_isAnyPitched_20 : decode cX10_isAnyPitched 20 = .ok (.iload_n 2, 1) := oo_28 (dl3 b_dX10_isAnyPitched_0 11 rfl)
theorem dX10_isAnyPitched_21 : decode cX10_isAnyPitched 21 = .ok (.iload_n 3, 1) := oo_29 (dl3 b_dX10_isAnyPitched_0 12 rfl)
theorem dX10_isAnyPitched_22 : decode cX10_isAnyPitched 22 = .ok (.iload 4, 2) := oo_21 (b1 := 4) (dl3 b_dX10_isAnyPitched_0 13 rfl)
theorem dX10_isAnyPitched_24 : decode cX10_isAnyPitched 24 = .ok (.invokevirtual 130, 3) := oo_182 (b1 := 0) (b2 := 130) rfl (dl3 b_dX10_isAnyPitched_0 14 rfl)
theorem dX10_isAnyPitched_27 : decode cX10_isAnyPitched 27 = .ok (.ifCond .eq 5, 3) := oo_153 (b1 := 0) (b2 := 5) rfl (dl3 b_dX10_isAnyPitched_0 15 rfl)
theorem dX10_isAnyPitched_30 : decode cX10_isAnyPitched 30 = .ok (.iconst 1, 1) := oo_4 (dl3 b_dX10_isAnyPitched_0 16 rfl)
theorem dX10_isAnyPitched_31 : decode cX10_isAnyPitched 31 = .ok (.ireturn, 1) := oo_172 (dl3 b_dX10_isAnyPitched_0 17 rfl)
theorem dX10_isAnyPitched_32 : decode cX10_isAnyPitched 32 = .ok (.iinc 5 1, 3) := oo_132 (b1 := 5) (b2 := 1) rfl (dl3 b_dX10_isAnyPitched_0 18 rfl)
theorem dX10_isAnyPitched_35 : decode cX10_isAnyPitched 35 = .ok (.goto (-32), 3) := oo_167 (b1 := 255) (b2 := 224) rfl (dl3 b_dX10_isAnyPitched_0 19 rfl)
theorem dX10_isAnyPitched_38 : decode cX10_isAnyPitched 38 = .ok (.iconst 0, 1) := oo_3 (dl3 b_dX10_isAnyPitched_0 20 rfl)
theorem dX10_isAnyPitched_39 : decode cX10_isAnyPitched 39 = .ok (.ireturn, 1) := oo_172 (dl3 b_dX10_isAnyPitched_0 21 rfl)
set_option maxRecDepth 20000 in
theorem ggX10_foretold_X10_pitchAt : GoodIn wsX10_foretold wsX10_pitchAt := goodIn_r _ [9, 10, 11, 12, 13, 8, 14, 29, 30, 31, 32, 33, 34, 35, 36, 37, 38, 39, 40, 41] rfl (by decide +kernel)
set_option maxRecDepth 20000 in
theorem gX10_foretold_X10_pitchAt : GoodIn wsX10_foretold (wsV RX10 133 RX10 yX10_pitchAt wsX10_pitchAt) := goodIn_app (goodIn_r _ [5, 6, 7, 8] rfl (by decide +kernel)) ggX10_foretold_X10_pitchAt
set_option maxRecDepth 20000 in
theorem ggX10_foretold_X10_isWithin : GoodIn wsX10_foretold wsX10_isWithin := goodIn_r _ [14] rfl (by decide +kernel)
set_option maxRecDepth 20000 in
theorem gX10_foretold_X10_isWithin : GoodIn wsX10_foretold (va_wsS RX10 64 yX10_isWithin wsX10_isWithin) := goodIn_app (goodIn_r _ [12, 13, 8] rfl (by decide +kernel)) ggX10_foretold_X10_isWithin
set_option maxRecDepth 20000 in
theorem ggX10_foretold_X6_foretoldBy : GoodIn wsX10_foretold wsX6_foretoldBy := goodIn_r _ [19, 20, 21, 22, 23, 24, 25, 26, 27, 28, 47, 48, 49, 50, 51, 52, 53, 54] rfl (by decide +kernel)
set_option maxRecDepth 20000 in
theorem gX10_foretold_X6_foretoldBy : GoodIn wsX10_foretold (wsV RX10 139 RX6 yX6_foretoldBy wsX6_foretoldBy) := goodIn_app (goodIn_r _ [15, 16, 17, 18] rfl (by decide +kernel)) ggX10_foretold_X6_foretoldBy
def l_dX10_foretold_0 : List (Nat × List Nat) := [(0, [42]), (1, [27]), (2, [182, 0, 133]), (5, [78]), (6, [45]), (7, [198, 0, 12]), (10, [28]), (11, [3]), (12, [4]), (13, [184, 0, 64]), (16, [154, 0, 7]), (19, [20, 0, 137]), (22, [173]), (23, [28]), (24, [154, 0, 17]), (27, [45]), (28, [42]), (29, [180, 0, 12]), (32, [180, 0, 86]), (35, [182, 0, 139]), (38, [167, 0, 14]), (41, [45]), (42, [42]), (43, [180, 0, 12]), (46, [180, 0, 90]), (49, [182, 0, 139]), (52, [173])]
theorem b_dX10_foretold_0 : chkB l_dX10_foretold_0 0 (cX10_foretold.data.toList.drop 0) = true := by decide +kernel
theorem dX10_foretold_0 : decode cX10_foretold 0 = .ok (.aload_n 0, 1) := oo_42 (dl3 b_dX10_foretold_0 0 rfl)
theorem dX10_foretold_1 : decode cX10_foretold 1 = .ok (.iload_n 1, 1) := oo_27 (dl3 b_dX10_foretold_0 1 rfl)
theorem dX10_foretold_2 : decode cX10_foretold 2 = .ok (.invokevirtual 133, 3) := oo_182 (b1 := 0) (b2 := 133) rfl (dl3 b_dX10_foretold_0 2 rfl)
theorem dX10_foretold_5 : decode cX10_foretold 5 = .ok (.astore_n 3, 1) := oo_78 (dl3 b_dX10_foretold_0 3 rfl)
theorem dX10_foretold_6 : decode cX10_foretold 6 = .ok (.aload_n 3, 1) := oo_45 (dl3 b_dX10_foretold_0 4 rfl)
theorem dX10_foretold_7 : decode cX10_foretold 7 = .ok (.ifnull 12, 3) := oo_198 (b1 := 0) (b2 := 12) rfl (dl3 b_dX10_foretold_0 5 rfl)
theorem dX10_foretold_10 : decode cX10_foretold 10 = .ok (.iload_n 2, 1) := oo_28 (dl3 b_dX10_foretold_0 6 rfl)
theorem dX10_foretold_11 : decode cX10_foretold 11 = .ok (.iconst 0, 1) := oo_3 (dl3 b_dX10_foretold_0 7 rfl)
theorem dX10_foretold_12 : decode cX10_foretold 12 = .ok (.iconst 1, 1) := oo_4 (dl3 b_dX10_foretold_0 8 rfl)
theorem dX10_foretold_13 : decode cX10_foretold 13 = .ok (.invokestatic 64, 3) := oo_184 (b1 := 0) (b2 := 64) rfl (dl3 b_dX10_foretold_0 9 rfl)
theorem dX10_foretold_16 : decode cX10_foretold 16 = .ok (.ifCond .ne 7, 3) := oo_154 (b1 := 0) (b2 := 7) rfl (dl3 b_dX10_foretold_0 10 rfl)
theorem dX10_foretold_19 : decode cX10_foretold 19 = .ok (.ldc2_w 137, 3) := oo_20 (b1 := 0) (b2 := 137) rfl (dl3 b_dX10_foretold_0 11 rfl)
theorem dX10_foretold_22 : decode cX10_foretold 22 = .ok (.lreturn, 1) := oo_173 (dl3 b_dX10_foretold_0 12 rfl)
theorem dX10_foretold_23 : decode cX10_foretold 23 = .ok (.iload_n 2, 1) := oo_28 (dl3 b_dX10_foretold_0 13 rfl)
theorem dX10_foretold_24 : decode cX10_foretold 24 = .ok (.ifCond .ne 17, 3) := oo_154 (b1 := 0) (b2 := 17) rfl (dl3 b_dX10_foretold_0 14 rfl)
theorem dX10_foretold_27 : decode cX10_foretold 27 = .ok (.aload_n 3, 1) := oo_45 (dl3 b_dX10_foretold_0 15 rfl)
theorem dX10_foretold_28 : decode cX10_foretold 28 = .ok (.aload_n 0, 1) := oo_42 (dl3 b_dX10_foretold_0 16 rfl)
theorem dX10_foretold_29 : decode cX10_foretold 29 = .ok (.getfield 12, 3) := oo_180 (b1 := 0) (b2 := 12) rfl (dl3 b_dX10_foretold_0 17 rfl)
theorem dX10_foretold_32 : decode cX10_foretold 32 = .ok (.getfield 86, 3) := oo_180 (b1 := 0) (b2 := 86) rfl (dl3 b_dX10_foretold_0 18 rfl)
theorem dX10_foretold_35 : decode cX10_foretold 35 = .ok (.invokevirtual 139, 3) := oo_182 (b1 := 0) (b2 := 139) rfl (dl3 b_dX10_foretold_0 19 rfl)
theorem dX10_foretold_38 : decode cX10_foretold 38 = .ok (.goto 14, 3) := oo_167 (b1 := 0) (b2 := 14) rfl (dl3 b_dX10_foretold_0 20 rfl)
theorem dX10_foretold_41 : decode cX10_foretold 41 = .ok (.aload_n 3, 1) := oo_45 (dl3 b_dX10_foretold_0 21 rfl)
theorem dX10_foretold_42 : decode cX10_foretold 42 = .ok (.aload_n 0, 1) := oo_42 (dl3 b_dX10_foretold_0 22 rfl)
theorem dX10_foretold_43 : decode cX10_foretold 43 = .ok (.getfield 12, 3) := oo_180 (b1 := 0) (b2 := 12) rfl (dl3 b_dX10_foretold_0 23 rfl)
theorem dX10_foretold_46 : decode cX10_foretold 46 = .ok (.getfield 90, 3) := oo_180 (b1 := 0) (b2 := 90) rfl (dl3 b_dX10_foretold_0 24 rfl)
theorem dX10_foretold_49 : decode cX10_foretold 49 = .ok (.invokevirtual 139, 3) := oo_182 (b1 := 0) (b2 := 139) rfl (dl3 b_dX10_foretold_0 25 rfl)
theorem dX10_foretold_52 : decode cX10_foretold 52 = .ok (.lreturn, 1) := oo_173 (dl3 b_dX10_foretold_0 26 rfl)
set_option maxRecDepth 20000 in
theorem ggX10_gang_X10_isWithin : GoodIn wsX10_gang wsX10_isWithin := goodIn_r _ [6] rfl (by decide +kernel)
set_option maxRecDepth 20000 in
theorem gX10_gang_X10_isWithin : GoodIn wsX10_gang (va_wsS RX10 64 yX10_isWithin wsX10_isWithin) := goodIn_app (goodIn_r _ [3, 4, 5] rfl (by decide +kernel)) ggX10_gang_X10_isWithin
set_option maxRecDepth 20000 in
theorem ggX10_gang_X10_newGang : GoodIn wsX10_gang wsX10_newGang := goodIn_r _ [9, 10, 11, 12, 13, 14, 15, 16, 17, 18, 19, 20, 21, 22, 23, 24, 25, 26, 27, 28, 29, 30, 31, 32, 33, 47, 48, 49, 50, 51, 52, 53, 54, 55, 56, 57, 58] rfl (by decide +kernel)
set_option maxRecDepth 20000 in
theorem gX10_gang_X10_newGang : GoodIn wsX10_gang (va_wsS RX10 146 yX10_newGang wsX10_newGang) := goodIn_app (goodIn_r _ [7, 8, 5] rfl (by decide +kernel)) ggX10_gang_X10_newGang
def l_dX10_gang_0 : List (Nat × List Nat) := [(0, [27]), (1, [3]), (2, [5]), (3, [184, 0, 64]), (6, [154, 0, 6]), (9, [16, 254]), (11, [172]), (12, [42]), (13, [180, 0, 143]), (16, [16, 8]), (18, [161, 0, 6]), (21, [16, 252]), (23, [172]), (24, [42]), (25, [180, 0, 26]), (28, [42]), (29, [180, 0, 143]), (32, [27]), (33, [42]), (34, [180, 0, 143]), (37, [184, 0, 146]), (40, [83]), (41, [42]), (42, [89]), (43, [180, 0, 143]), (46, [90]), (47, [4]), (48, [96]), (49, [181, 0, 143]), (52, [172])]
theorem b_dX10_gang_0 : chkB l_dX10_gang_0 0 (cX10_gang.data.toList.drop 0) = true := by decide +kernel
theorem dX10_gang_0 : decode cX10_gang 0 = .ok (.iload_n 1, 1) := oo_27 (dl3 b_dX10_gang_0 0 rfl)
theorem dX10_gang_1 : decode cX10_gang 1 = .ok (.iconst 0, 1) := oo_3 (dl3 b_dX10_gang_0 1 rfl)
theorem dX10_gang_2 : decode cX10_gang 2 = .ok (.iconst 2, 1) := oo_5 (dl3 b_dX10_gang_0 2 rfl)
theorem dX10_gang_3 : decode cX10_gang 3 = .ok (.invokestatic 64, 3) := oo_184 (b1 := 0) (b2 := 64) rfl (dl3 b_dX10_gang_0 3 rfl)
theorem dX10_gang_6 : decode cX10_gang 6 = .ok (.ifCond .ne 6, 3) := oo_154 (b1 := 0) (b2 := 6) rfl (dl3 b_dX10_gang_0 4 rfl)
theorem dX10_gang_9 : decode cX10_gang 9 = .ok (.bipush (-2), 2) := oo_16 (b1 := 254) rfl (dl3 b_dX10_gang_0 5 rfl)
theorem dX10_gang_11 : decode cX10_gang 11 = .ok (.ireturn, 1) := oo_172 (dl3 b_dX10_gang_0 6 rfl)
theorem dX10_gang_12 : decode cX10_gang 12 = .ok (.aload_n 0, 1) := oo_42 (dl3 b_dX10_gang_0 7 rfl)
theorem dX10_gang_13 : decode cX10_gang 13 = .ok (.getfield 143, 3) := oo_180 (b1 := 0) (b2 := 143) rfl (dl3 b_dX10_gang_0 8 rfl)
theorem dX10_gang_16 : decode cX10_gang 16 = .ok (.bipush 8, 2) := oo_16 (b1 := 8) rfl (dl3 b_dX10_gang_0 9 rfl)
theorem dX10_gang_18 : decode cX10_gang 18 = .ok (.if_icmp .lt 6, 3) := oo_161 (b1 := 0) (b2 := 6) rfl (dl3 b_dX10_gang_0 10 rfl)
theorem dX10_gang_21 : decode cX10_gang 21 = .ok (.bipush (-4), 2) := oo_16 (b1 := 252) rfl (dl3 b_dX10_gang_0 11 rfl)
theorem dX10_gang_23 : decode cX10_gang 23 = .ok (.ireturn, 1) := oo_172 (dl3 b_dX10_gang_0 12 rfl)
theorem dX10_gang_24 : decode cX10_gang 24 = .ok (.aload_n 0, 1) := oo_42 (dl3 b_dX10_gang_0 13 rfl)
theorem dX10_gang_25 : decode cX10_gang 25 = .ok (.getfield 26, 3) := oo_180 (b1 := 0) (b2 := 26) rfl (dl3 b_dX10_gang_0 14 rfl)
theorem dX10_gang_28 : decode cX10_gang 28 = .ok (.aload_n 0, 1) := oo_42 (dl3 b_dX10_gang_0 15 rfl)
theorem dX10_gang_29 : decode cX10_gang 29 = .ok (.getfield 143, 3) := oo_180 (b1 := 0) (b2 := 143) rfl (dl3 b_dX10_gang_0 16 rfl)
theorem dX10_gang_32 : decode cX10_gang 32 = .ok (.iload_n 1, 1) := oo_27 (dl3 b_dX10_gang_0 17 rfl)
theorem dX10_gang_33 : decode cX10_gang 33 = .ok (.aload_n 0, 1) := oo_42 (dl3 b_dX10_gang_0 18 rfl)
theorem dX10_gang_34 : decode cX10_gang 34 = .ok (.getfield 143, 3) := oo_180 (b1 := 0) (b2 := 143) rfl (dl3 b_dX10_gang_0 19 rfl)
theorem dX10_gang_37 : decode cX10_gang 37 = .ok (.invokestatic 146, 3) := oo_184 (b1 := 0) (b2 := 146) rfl (dl3 b_dX10_gang_0 20 rfl)
theorem dX10_gang_40 : decode cX10_gang 40 = .ok (.aastore, 1) := oo_83 (dl3 b_dX10_gang_0 21 rfl)
theorem dX10_gang_41 : decode cX10_gang 41 = .ok (.aload_n 0, 1) := oo_42 (dl3 b_dX10_gang_0 22 rfl)
theorem dX10_gang_42 : decode cX10_gang 42 = .ok (.dup, 1) := oo_89 (dl3 b_dX10_gang_0 23 rfl)
theorem dX10_gang_43 : decode cX10_gang 43 = .ok (.getfield 143, 3) := oo_180 (b1 := 0) (b2 := 143) rfl (dl3 b_dX10_gang_0 24 rfl)
theorem dX10_gang_46 : decode cX10_gang 46 = .ok (.dup_x1, 1) := oo_90 (dl3 b_dX10_gang_0 25 rfl)
theorem dX10_gang_47 : decode cX10_gang 47 = .ok (.iconst 1, 1) := oo_4 (dl3 b_dX10_gang_0 26 rfl)
theorem dX10_gang_48 : decode cX10_gang 48 = .ok (.iadd, 1) := oo_96 (dl3 b_dX10_gang_0 27 rfl)
theorem dX10_gang_49 : decode cX10_gang 49 = .ok (.putfield 143, 3) := oo_181 (b1 := 0) (b2 := 143) rfl (dl3 b_dX10_gang_0 28 rfl)
theorem dX10_gang_52 : decode cX10_gang 52 = .ok (.ireturn, 1) := oo_172 (dl3 b_dX10_gang_0 29 rfl)
set_option maxRecDepth 20000 in
theorem ggX10_newGang_X4_init : GoodIn wsX10_newGang wsX4_init := goodIn_r _ [12, 13, 14, 6, 15, 16, 17, 9, 18, 19, 20, 21, 22, 29, 30, 31, 32, 33, 34, 35, 36, 25, 26, 27, 28] rfl (by decide +kernel)
set_option maxRecDepth 20000 in
theorem gX10_newGang_X4_init : GoodIn wsX10_newGang (wsX4_init) := ggX10_newGang_X4_init
set_option maxRecDepth 20000 in
theorem ggX10_newGang_X1_init : GoodIn wsX10_newGang wsX1_init := goodIn_r _ [15, 16, 17, 9, 18, 19, 20, 21, 22, 29, 30, 31, 32, 33, 34, 35, 36, 25, 26, 27, 28] rfl (by decide +kernel)
set_option maxRecDepth 20000 in
theorem gX10_newGang_X1_init : GoodIn wsX10_newGang (wsX1_init) := ggX10_newGang_X1_init
set_option maxRecDepth 20000 in
theorem ggX10_newGang_X2_init : GoodIn wsX10_newGang wsX2_init := goodIn_r _ [18, 19, 20, 21, 22, 29, 30, 31, 32, 33, 34, 35, 36, 25, 26, 27, 28] rfl (by decide +kernel)
set_option maxRecDepth 20000 in
theorem gX10_newGang_X2_init : GoodIn wsX10_newGang (wsX2_init) := ggX10_newGang_X2_init
def l_dX10_newGang_0 : List (Nat × List Nat) := [(0, [26])]
theorem b_dX10_newGang_0 : chkB l_dX10_newGang_0 0 (cX10_newGang.data.toList.drop 0) = true := by decide +kernel
theorem dX10_newGang_0 : decode cX10_newGang 0 = .ok (.iload_n 0, 1) := oo_26 (dl3 b_dX10_newGang_0 0 rfl)
theorem dX10_newGang_1 : decode cX10_newGang 1 = .ok (.lookupswitch 45 #[(1, 36), (2, 27)], 27) := by decide +kernel
def l_dX10_newGang_28 : List (Nat × List Nat) := [(28, [187, 0, 150]), (31, [89]), (32, [27]), (33, [183, 0, 152]), (36, [176]), (37, [187, 0, 155]), (40, [89]), (41, [27]), (42, [183, 0, 157]), (45, [176]), (46, [187, 0, 24]), (49, [89]), (50, [27]), (51, [183, 0, 158]), (54, [176])]
theorem b_dX10_newGang_28 : chkB l_dX10_newGang_28 28 (cX10_newGang.data.toList.drop 28) = true := by decide +kernel
theorem dX10_newGang_28 : decode cX10_newGang 28 = .ok (.new 150, 3) := oo_187 (b1 := 0) (b2 := 150) rfl (dl3 b_dX10_newGang_28 0 rfl)
theorem dX10_newGang_31 : decode cX10_newGang 31 = .ok (.dup, 1) := oo_89 (dl3 b_dX10_newGang_28 1 rfl)
theorem dX10_newGang_32 : decode cX10_newGang 32 = .ok (.iload_n 1, 1) := oo_27 (dl3 b_dX10_newGang_28 2 rfl)
theorem dX10_newGang_33 : decode cX10_newGang 33 = .ok (.invokespecial 152, 3) := oo_183 (b1 := 0) (b2 := 152) rfl (dl3 b_dX10_newGang_28 3 rfl)
theorem dX10_newGang_36 : decode cX10_newGang 36 = .ok (.areturn, 1) := oo_176 (dl3 b_dX10_newGang_28 4 rfl)
theorem dX10_newGang_37 : decode cX10_newGang 37 = .ok (.new 155, 3) := oo_187 (b1 := 0) (b2 := 155) rfl (dl3 b_dX10_newGang_28 5 rfl)
theorem dX10_newGang_40 : decode cX10_newGang 40 = .ok (.dup, 1) := oo_89 (dl3 b_dX10_newGang_28 6 rfl)
theorem dX10_newGang_41 : decode cX10_newGang 41 = .ok (.iload_n 1, 1) := oo_27 (dl3 b_dX10_newGang_28 7 rfl)
theorem dX10_newGang_42 : decode cX10_newGang 42 = .ok (.invokespecial 157, 3) := oo_183 (b1 := 0) (b2 := 157) rfl (dl3 b_dX10_newGang_28 8 rfl)
theorem dX10_newGang_45 : decode cX10_newGang 45 = .ok (.areturn, 1) := oo_176 (dl3 b_dX10_newGang_28 9 rfl)
theorem dX10_newGang_46 : decode cX10_newGang 46 = .ok (.new 24, 3) := oo_187 (b1 := 0) (b2 := 24) rfl (dl3 b_dX10_newGang_28 10 rfl)
theorem dX10_newGang_49 : decode cX10_newGang 49 = .ok (.dup, 1) := oo_89 (dl3 b_dX10_newGang_28 11 rfl)
theorem dX10_newGang_50 : decode cX10_newGang 50 = .ok (.iload_n 1, 1) := oo_27 (dl3 b_dX10_newGang_28 12 rfl)
theorem dX10_newGang_51 : decode cX10_newGang 51 = .ok (.invokespecial 158, 3) := oo_183 (b1 := 0) (b2 := 158) rfl (dl3 b_dX10_newGang_28 13 rfl)
theorem dX10_newGang_54 : decode cX10_newGang 54 = .ok (.areturn, 1) := oo_176 (dl3 b_dX10_newGang_28 14 rfl)
set_option maxRecDepth 20000 in
theorem ggX10_auction_X10_pitchAt : GoodIn wsX10_auction wsX10_pitchAt := goodIn_r _ [10, 11, 12, 13, 14, 9, 15, 32, 33, 34, 35, 36, 37, 38, 39, 40, 41, 42, 43, 44] rfl (by decide +kernel)
set_option maxRecDepth 20000 in
theorem gX10_auction_X10_pitchAt : GoodIn wsX10_auction (wsV RX10 133 RX10 yX10_pitchAt wsX10_pitchAt) := goodIn_app (goodIn_r _ [6, 7, 8, 9] rfl (by decide +kernel)) ggX10_auction_X10_pitchAt
set_option maxRecDepth 20000 in
theorem ggX10_auction_X10_isWithin : GoodIn wsX10_auction wsX10_isWithin := goodIn_r _ [15] rfl (by decide +kernel)
set_option maxRecDepth 20000 in
theorem gX10_auction_X10_isWithin : GoodIn wsX10_auction (va_wsS RX10 64 yX10_isWithin wsX10_isWithin) := goodIn_app (goodIn_r _ [13, 14, 9] rfl (by decide +kernel)) ggX10_auction_X10_isWithin
set_option maxRecDepth 20000 in
theorem ggX10_auction_X0_init : GoodIn wsX10_auction wsX0_init := goodIn_r _ [18, 19, 20, 21, 22, 23, 45, 46, 47, 48] rfl (by decide +kernel)
set_option maxRecDepth 20000 in
theorem gX10_auction_X0_init : GoodIn wsX10_auction (wsX0_init) := ggX10_auction_X0_init
def l_dX10_auction_0 : List (Nat × List Nat) := [(0, [42]), (1, [27]), (2, [182, 0, 133]), (5, [78]), (6, [45]), (7, [199, 0, 5]), (10, [2]), (11, [172]), (12, [28]), (13, [4]), (14, [17, 0, 240]), (17, [184, 0, 64]), (20, [154, 0, 6]), (23, [16, 254]), (25, [172]), (26, [45]), (27, [180, 0, 159]), (30, [199, 0, 10]), (33, [42]), (34, [180, 0, 163]), (37, [198, 0, 6]), (40, [16, 253]), (42, [172]), (43, [42]), (44, [187, 0, 167]), (47, [89]), (48, [45]), (49, [28]), (50, [183, 0, 169]), (53, [181, 0, 163]), (56, [4]), (57, [172])]
theorem b_dX10_auction_0 : chkB l_dX10_auction_0 0 (cX10_auction.data.toList.drop 0) = true := by decide +kernel
theorem dX10_auction_0 : decode cX10_auction 0 = .ok (.aload_n 0, 1) := oo_42 (dl3 b_dX10_auction_0 0 rfl)
theorem dX10_auction_1 : decode cX10_auction 1 = .ok (.iload_n 1, 1) := oo_27 (dl3 b_dX10_auction_0 1 rfl)
theorem dX10_auction_2 : decode cX10_auction 2 = .ok (.invokevirtual 133, 3) := oo_182 (b1 := 0) (b2 := 133) rfl (dl3 b_dX10_auction_0 2 rfl)
theorem dX10_auction_5 : decode cX10_auction 5 = .ok (.astore_n 3, 1) := oo_78 (dl3 b_dX10_auction_0 3 rfl)
theorem dX10_auction_6 : decode cX10_auction 6 = .ok (.aload_n 3, 1) := oo_45 (dl3 b_dX10_auction_0 4 rfl)
theorem dX10_auction_7 : decode cX10_auction 7 = .ok (.ifnonnull 5, 3) := oo_199 (b1 := 0) (b2 := 5) rfl (dl3 b_dX10_auction_0 5 rfl)
theorem dX10_auction_10 : decode cX10_auction 10 = .ok (.iconst (-1), 1) := oo_2 (dl3 b_dX10_auction_0 6 rfl)
theorem dX10_auction_11 : decode cX10_auction 11 = .ok (.ireturn, 1) := oo_172 (dl3 b_dX10_auction_0 7 rfl)
theorem dX10_auction_12 : decode cX10_auction 12 = .ok (.iload_n 2, 1) := oo_28 (dl3 b_dX10_auction_0 8 rfl)
theorem dX10_auction_13 : decode cX10_auction 13 = .ok (.iconst 1, 1) := oo_4 (dl3 b_dX10_auction_0 9 rfl)
theorem dX10_auction_14 : decode cX10_auction 14 = .ok (.sipush 240, 3) := oo_17 (b1 := 0) (b2 := 240) rfl (dl3 b_dX10_auction_0 10 rfl)
theorem dX10_auction_17 : decode cX10_auction 17 = .ok (.invokestatic 64, 3) := oo_184 (b1 := 0) (b2 := 64) rfl (dl3 b_dX10_auction_0 11 rfl)
theorem dX10_auction_20 : decode cX10_auction 20 = .ok (.ifCond .ne 6, 3) := oo_154 (b1 := 0) (b2 := 6) rfl (dl3 b_dX10_auction_0 12 rfl)
theorem dX10_auction_23 : decode cX10_auction 23 = .ok (.bipush (-2), 2) := oo_16 (b1 := 254) rfl (dl3 b_dX10_auction_0 13 rfl)
theorem dX10_auction_25 : decode cX10_auction 25 = .ok (.ireturn, 1) := oo_172 (dl3 b_dX10_auction_0 14 rfl)
theorem dX10_auction_26 : decode cX10_auction 26 = .ok (.aload_n 3, 1) := oo_45 (dl3 b_dX10_auction_0 15 rfl)
theorem dX10_auction_27 : decode cX10_auction 27 = .ok (.getfield 159, 3) := oo_180 (b1 := 0) (b2 := 159) rfl (dl3 b_dX10_auction_0 16 rfl)
theorem dX10_auction_30 : decode cX10_auction 30 = .ok (.ifnonnull 10, 3) := oo_199 (b1 := 0) (b2 := 10) rfl (dl3 b_dX10_auction_0 17 rfl)
theorem dX10_auction_33 : decode cX10_auction 33 = .ok (.aload_n 0, 1) := oo_42 (dl3 b_dX10_auction_0 18 rfl)
theorem dX10_auction_34 : decode cX10_auction 34 = .ok (.getfield 163, 3) := oo_180 (b1 := 0) (b2 := 163) rfl (dl3 b_dX10_auction_0 19 rfl)
theorem dX10_auction_37 : decode cX10_auction 37 = .ok (.ifnull 6, 3) := oo_198 (b1 := 0) (b2 := 6) rfl (dl3 b_dX10_auction_0 20 rfl)
theorem dX10_auction_40 : decode cX10_auction 40 = .ok (.bipush (-3), 2) := oo_16 (b1 := 253) rfl (dl3 b_dX10_auction_0 21 rfl)
theorem dX10_auction_42 : decode cX10_auction 42 = .ok (.ireturn, 1) := oo_172 (dl3 b_dX10_auction_0 22 rfl)
theorem dX10_auction_43 : decode cX10_auction 43 = .ok (.aload_n 0, 1) := oo_42 (dl3 b_dX10_auction_0 23 rfl)
theorem dX10_auction_44 : decode cX10_auction 44 = .ok (.new 167, 3) := oo_187 (b1 := 0) (b2 := 167) rfl (dl3 b_dX10_auction_0 24 rfl)
theorem dX10_auction_47 : decode cX10_auction 47 = .ok (.dup, 1) := oo_89 (dl3 b_dX10_auction_0 25 rfl)
theorem dX10_auction_48 : decode cX10_auction 48 = .ok (.aload_n 3, 1) := oo_45 (dl3 b_dX10_auction_0 26 rfl)
theorem dX10_auction_49 : decode cX10_auction 49 = .ok (.iload_n 2, 1) := oo_28 (dl3 b_dX10_auction_0 27 rfl)
theorem dX10_auction_50 : decode cX10_auction 50 = .ok (.invokespecial 169, 3) := oo_183 (b1 := 0) (b2 := 169) rfl (dl3 b_dX10_auction_0 28 rfl)
theorem dX10_auction_53 : decode cX10_auction 53 = .ok (.putfield 163, 3) := oo_181 (b1 := 0) (b2 := 163) rfl (dl3 b_dX10_auction_0 29 rfl)
theorem dX10_auction_56 : decode cX10_auction 56 = .ok (.iconst 1, 1) := oo_4 (dl3 b_dX10_auction_0 30 rfl)
theorem dX10_auction_57 : decode cX10_auction 57 = .ok (.ireturn, 1) := oo_172 (dl3 b_dX10_auction_0 31 rfl)
set_option maxRecDepth 20000 in
theorem ggX10_bid_X10_gangAt : GoodIn wsX10_bid wsX10_gangAt := goodIn_r _ [10, 11, 12, 13, 14, 9, 15, 23, 24, 25, 26, 27, 28, 29, 30, 31, 32, 33, 34, 35] rfl (by decide +kernel)
set_option maxRecDepth 20000 in
theorem gX10_bid_X10_gangAt : GoodIn wsX10_bid (wsV RX10 172 RX10 yX10_gangAt wsX10_gangAt) := goodIn_app (goodIn_r _ [6, 7, 8, 9] rfl (by decide +kernel)) ggX10_bid_X10_gangAt
set_option maxRecDepth 20000 in
theorem ggX10_bid_X0_mostShare : GoodIn wsX10_bid wsX0_mostShare := goodIn_r _ [20, 21, 22, 36, 37, 38, 39] rfl (by decide +kernel)
set_option maxRecDepth 20000 in
theorem gX10_bid_X0_mostShare : GoodIn wsX10_bid (wsV RX10 176 RX0 yX0_mostShare wsX0_mostShare) := goodIn_app (goodIn_r _ [16, 17, 18, 19] rfl (by decide +kernel)) ggX10_bid_X0_mostShare
set_option maxRecDepth 20000 in
theorem ggX10_bid_X10_isWithin : GoodIn wsX10_bid wsX10_isWithin := goodIn_r _ [15] rfl (by decide +kernel)
set_option maxRecDepth 20000 in
theorem gX10_bid_X10_isWithin : GoodIn wsX10_bid (va_wsS RX10 64 yX10_isWithin wsX10_isWithin) := goodIn_app (goodIn_r _ [13, 14, 9] rfl (by decide +kernel)) ggX10_bid_X10_isWithin
def l_dX10_bid_0 : List (Nat × List Nat) := [(0, [42]), (1, [27]), (2, [182, 0, 172]), (5, [78]), (6, [45]), (7, [199, 0, 5]), (10, [2]), (11, [172]), (12, [42]), (13, [180, 0, 163]), (16, [199, 0, 6]), (19, [16, 253]), (21, [172]), (22, [28]), (23, [4]), (24, [42]), (25, [180, 0, 163]), (28, [182, 0, 176]), (31, [184, 0, 64]), (34, [154, 0, 6]), (37, [16, 254]), (39, [172]), (40, [42]), (41, [180, 0, 163]), (44, [180, 0, 180]), (47, [45]), (48, [165, 0, 11]), (51, [45]), (52, [180, 0, 184]), (55, [6]), (56, [161, 0, 6]), (59, [16, 253]), (61, [172]), (62, [42]), (63, [180, 0, 163]), (66, [180, 0, 187]), (69, [16, 20]), (71, [161, 0, 6]), (74, [16, 252]), (76, [172]), (77, [42]), (78, [180, 0, 163]), (81, [45]), (82, [181, 0, 180]), (85, [42]), (86, [180, 0, 163]), (89, [28]), (90, [181, 0, 190]), (93, [42]), (94, [180, 0, 163]), (97, [89]), (98, [180, 0, 187]), (101, [4]), (102, [96]), (103, [181, 0, 187]), (106, [42]), (107, [180, 0, 163]), (110, [180, 0, 187]), (113, [172])]
theorem b_dX10_bid_0 : chkB l_dX10_bid_0 0 (cX10_bid.data.toList.drop 0) = true := by decide +kernel
theorem dX10_bid_0 : decode cX10_bid 0 = .ok (.aload_n 0, 1) := oo_42 (dl3 b_dX10_bid_0 0 rfl)
theorem dX10_bid_1 : decode cX10_bid 1 = .ok (.iload_n 1, 1) := oo_27 (dl3 b_dX10_bid_0 1 rfl)
theorem dX10_bid_2 : decode cX10_bid 2 = .ok (.invokevirtual 172, 3) := oo_182 (b1 := 0) (b2 := 172) rfl (dl3 b_dX10_bid_0 2 rfl)
theorem dX10_bid_5 : decode cX10_bid 5 = .ok (.astore_n 3, 1) := oo_78 (dl3 b_dX10_bid_0 3 rfl)
theorem dX10_bid_6 : decode cX10_bid 6 = .ok (.aload_n 3, 1) := oo_45 (dl3 b_dX10_bid_0 4 rfl)
theorem dX10_bid_7 : decode cX10_bid 7 = .ok (.ifnonnull 5, 3) := oo_199 (b1 := 0) (b2 := 5) rfl (dl3 b_dX10_bid_0 5 rfl)
theorem dX10_bid_10 : decode cX10_bid 10 = .ok (.iconst (-1), 1) := oo_2 (dl3 b_dX10_bid_0 6 rfl)
theorem dX10_bid_11 : decode cX10_bid 11 = .ok (.ireturn, 1) := oo_172 (dl3 b_dX10_bid_0 7 rfl)
theorem dX10_bid_12 : decode cX10_bid 12 = .ok (.aload_n 0, 1) := oo_42 (dl3 b_dX10_bid_0 8 rfl)
theorem dX10_bid_13 : decode cX10_bid 13 = .ok (.getfield 163, 3) := oo_180 (b1 := 0) (b2 := 163) rfl (dl3 b_dX10_bid_0 9 rfl)
theorem dX10_bid_16 : decode cX10_bid 16 = .ok (.ifnonnull 6, 3) := oo_199 (b1 := 0) (b2 := 6) rfl (dl3 b_dX10_bid_0 10 rfl)
theorem dX10_bid_19 : decode cX10_bid 19 = .ok (.bipush (-3), 2) := oo_16 (b1 := 253) rfl (dl3 b_dX10_bid_0 11 rfl)
theorem dX10_bid_21 : decode cX10_bid 21 = .ok (.ireturn, 1) := oo_172 (dl3 b_dX10_bid_0 12 rfl)
theorem dX10_bid_22 : decode cX10_bid 22 = .ok (.iload_n 2, 1) := oo_28 (dl3 b_dX10_bid_0 13 rfl)
theorem dX10_bid_23 : decode cX10_bid 23 = .ok (.iconst 1, 1) := oo_4 (dl3 b_dX10_bid_0 14 rfl)
theorem dX10_bid_24 : decode cX10_bid 24 = .ok (.aload_n 0, 1) := oo_42 (dl3 b_dX10_bid_0 15 rfl)
theorem dX10_bid_25 : decode cX10_bid 25 = .ok (.getfield 163, 3) := oo_180 (b1 := 0) (b2 := 163) rfl (dl3 b_dX10_bid_0 16 rfl)
theorem dX10_bid_28 : decode cX10_bid 28 = .ok (.invokevirtual 176, 3) := oo_182 (b1 := 0) (b2 := 176) rfl (dl3 b_dX10_bid_0 17 rfl)
theorem dX10_bid_31 : decode cX10_bid 31 = .ok (.invokestatic 64, 3) := oo_184 (b1 := 0) (b2 := 64) rfl (dl3 b_dX10_bid_0 18 rfl)
theorem dX10_bid_34 : decode cX10_bid 34 = .ok (.ifCond .ne 6, 3) := oo_154 (b1 := 0) (b2 := 6) rfl (dl3 b_dX10_bid_0 19 rfl)
theorem dX10_bid_37 : decode cX10_bid 37 = .ok (.bipush (-2), 2) := oo_16 (b1 := 254) rfl (dl3 b_dX10_bid_0 20 rfl)
theorem dX10_bid_39 : decode cX10_bid 39 = .ok (.ireturn, 1) := oo_172 (dl3 b_dX10_bid_0 21 rfl)
theorem dX10_bid_40 : decode cX10_bid 40 = .ok (.aload_n 0, 1) := oo_42 (dl3 b_dX10_bid_0 22 rfl)
theorem dX10_bid_41 : decode cX10_bid 41 = .ok (.getfield 163, 3) := oo_180 (b1 := 0) (b2 := 163) rfl (dl3 b_dX10_bid_0 23 rfl)
theorem dX10_bid_44 : decode cX10_bid 44 = .ok (.getfield 180, 3) := oo_180 (b1 := 0) (b2 := 180) rfl (dl3 b_dX10_bid_0 24 rfl)
theorem dX10_bid_47 : decode cX10_bid 47 = .ok (.aload_n 3, 1) := oo_45 (dl3 b_dX10_bid_0 25 rfl)
theorem dX10_bid_48 : decode cX10_bid 48 = .ok (.if_acmp .eq 11, 3) := oo_165 (b1 := 0) (b2 := 11) rfl (dl3 b_dX10_bid_0 26 rfl)
theorem dX10_bid_51 : decode cX10_bid 51 = .ok (.aload_n 3, 1) := oo_45 (dl3 b_dX10_bid_0 27 rfl)
theorem dX10_bid_52 : decode cX10_bid 52 = .ok (.getfield 184, 3) := oo_180 (b1 := 0) (b2 := 184) rfl (dl3 b_dX10_bid_0 28 rfl)
theorem dX10_bid_55 : decode cX10_bid 55 = .ok (.iconst 3, 1) := oo_6 (dl3 b_dX10_bid_0 29 rfl)
theorem dX10_bid_56 : decode cX10_bid 56 = .ok (.if_icmp .lt 6, 3) := oo_161 (b1 := 0) (b2 := 6) rfl (dl3 b_dX10_bid_0 30 rfl)
theorem dX10_bid_59 : decode cX10_bid 59 = .ok (.bipush (-3), 2) := oo_16 (b1 := 253) rfl (dl3 b_dX10_bid_0 31 rfl)
theorem dX10_bid_61 : decode cX10_bid 61 = .ok (.ireturn, 1) := oo_172 (dl3 b_dX10_bid_0 32 rfl)
theorem dX10_bid_62 : decode cX10_bid 62 = .ok (.aload_n 0, 1) := oo_42 (dl3 b_dX10_bid_0 33 rfl)
theorem dX10_bid_63 : decode cX10_bid 63 = .ok (.getfield 163, 3) := oo_180 (b1 := 0) (b2 := 163) rfl (dl3 b_dX10_bid_0 34 rfl)
theorem dX10_bid_66 : decode cX10_bid 66 = .ok (.getfield 187, 3) := oo_180 (b1 := 0) (b2 := 187) rfl (dl3 b_dX10_bid_0 35 rfl)
theorem dX10_bid_69 : decode cX10_bid 69 = .ok (.bipush 20, 2) := oo_16 (b1 := 20) rfl (dl3 b_dX10_bid_0 36 rfl)
theorem dX10_bid_71 : decode cX10_bid 71 = .ok (.if_icmp .lt 6, 3) := oo_161 (b1 := 0) (b2 := 6) rfl (dl3 b_dX10_bid_0 37 rfl)
theorem dX10_bid_74 : decode cX10_bid 74 = .ok (.bipush (-4), 2) := oo_16 (b1 := 252) rfl (dl3 b_dX10_bid_0 38 rfl)
theorem dX10_bid_76 : decode cX10_bid 76 = .ok (.ireturn, 1) := oo_172 (dl3 b_dX10_bid_0 39 rfl)
theorem dX10_bid_77 : decode cX10_bid 77 = .ok (.aload_n 0, 1) := oo_42 (dl3 b_dX10_bid_0 40 rfl)
theorem dX10_bid_78 : decode cX10_bid 78 = .ok (.getfield 163, 3) := oo_180 (b1 := 0) (b2 := 163) rfl (dl3 b_dX10_bid_0 41 rfl)
theorem dX10_bid_81 : decode cX10_bid 81 = .ok (.aload_n 3, 1) := oo_45 (dl3 b_dX10_bid_0 42 rfl)
theorem dX10_bid_82 : decode cX10_bid 82 = .ok (.putfield 180, 3) := oo_181 (b1 := 0) (b2 := 180) rfl (dl3 b_dX10_bid_0 43 rfl)
theorem dX10_bid_85 : decode cX10_bid 85 = .ok (.aload_n 0, 1) := oo_42 (dl3 b_dX10_bid_0 44 rfl)
theorem dX10_bid_86 : decode cX10_bid 86 = .ok (.getfield 163, 3) := oo_180 (b1 := 0) (b2 := 163) rfl (dl3 b_dX10_bid_0 45 rfl)
theorem dX10_bid_89 : decode cX10_bid 89 = .ok (.iload_n 2, 1) := oo_28 (dl3 b_dX10_bid_0 46 rfl)
theorem dX10_bid_90 : decode cX10_bid 90 = .ok (.putfield 190, 3) := oo_181 (b1 := 0) (b2 := 190) rfl (dl3 b_dX10_bid_0 47 rfl)
theorem dX10_bid_93 : decode cX10_bid 93 = .ok (.aload_n 0, 1) := oo_42 (dl3 b_dX10_bid_0 48 rfl)
theorem dX10_bid_94 : decode cX10_bid 94 = .ok (.getfield 163, 3) := oo_180 (b1 := 0) (b2 := 163) rfl (dl3 b_dX10_bid_0 49 rfl)
theorem dX10_bid_97 : decode cX10_bid 97 = .ok (.dup, 1) := oo_89 (dl3 b_dX10_bid_0 50 rfl)
theorem dX10_bid_98 : decode cX10_bid 98 = .ok (.getfield 187, 3) := oo_180 (b1 := 0) (b2 := 187) rfl (dl3 b_dX10_bid_0 51 rfl)
theorem dX10_bid_101 : decode cX10_bid 101 = .ok (.iconst 1, 1) := oo_4 (dl3 b_dX10_bid_0 52 rfl)
theorem dX10_bid_102 : decode cX10_bid 102 = .ok (.iadd, 1) := oo_96 (dl3 b_dX10_bid_0 53 rfl)
theorem dX10_bid_103 : decode cX10_bid 103 = .ok (.putfield 187, 3) := oo_181 (b1 := 0) (b2 := 187) rfl (dl3 b_dX10_bid_0 54 rfl)
theorem dX10_bid_106 : decode cX10_bid 106 = .ok (.aload_n 0, 1) := oo_42 (dl3 b_dX10_bid_0 55 rfl)
theorem dX10_bid_107 : decode cX10_bid 107 = .ok (.getfield 163, 3) := oo_180 (b1 := 0) (b2 := 163) rfl (dl3 b_dX10_bid_0 56 rfl)
theorem dX10_bid_110 : decode cX10_bid 110 = .ok (.getfield 187, 3) := oo_180 (b1 := 0) (b2 := 187) rfl (dl3 b_dX10_bid_0 57 rfl)
theorem dX10_bid_113 : decode cX10_bid 113 = .ok (.ireturn, 1) := oo_172 (dl3 b_dX10_bid_0 58 rfl)
set_option maxRecDepth 20000 in
theorem ggX10_strike_X8_init : GoodIn wsX10_strike wsX8_init := goodIn_r _ [17, 18, 19, 20, 21, 22, 23, 24, 64, 65, 66, 67, 68, 69, 70, 71, 72, 73, 74, 75] rfl (by decide +kernel)
set_option maxRecDepth 20000 in
theorem gX10_strike_X8_init : GoodIn wsX10_strike (wsX8_init) := ggX10_strike_X8_init
set_option maxRecDepth 20000 in
theorem ggX10_strike_X6_foretoldBy : GoodIn wsX10_strike wsX6_foretoldBy := goodIn_r _ [29, 30, 31, 32, 33, 34, 35, 36, 37, 38, 81, 82, 83, 84, 85, 86, 87, 88] rfl (by decide +kernel)
set_option maxRecDepth 20000 in
theorem gX10_strike_X6_foretoldBy : GoodIn wsX10_strike (wsV RX10 139 RX6 yX6_foretoldBy wsX6_foretoldBy) := goodIn_app (goodIn_r _ [25, 26, 27, 28] rfl (by decide +kernel)) ggX10_strike_X6_foretoldBy
set_option maxRecDepth 20000 in
theorem ggX10_strike_X8_begin : GoodIn wsX10_strike wsX8_begin := goodIn_r _ [42, 23, 43, 44, 22, 45, 46, 64, 65, 66, 67, 68, 69, 70, 71, 72, 73, 74, 75, 81, 82, 83, 84, 85, 86, 87, 88, 89, 90, 91, 92, 93, 94, 95, 96, 97, 98, 99, 100] rfl (by decide +kernel)
set_option maxRecDepth 20000 in
theorem gX10_strike_X8_begin : GoodIn wsX10_strike (wsV RX10 210 RX8 yX8_begin wsX8_begin) := goodIn_app (goodIn_r _ [39, 40, 41, 7] rfl (by decide +kernel)) ggX10_strike_X8_begin
def l_dX10_strike_0 : List (Nat × List Nat) := [(0, [42]), (1, [180, 0, 163]), (4, [199, 0, 6]), (7, [16, 253]), (9, [172]), (10, [42]), (11, [180, 0, 163]), (14, [180, 0, 193]), (17, [76]), (18, [42]), (19, [180, 0, 163]), (22, [180, 0, 180]), (25, [77]), (26, [44]), (27, [199, 0, 11]), (30, [42]), (31, [1]), (32, [181, 0, 163]), (35, [16, 247]), (37, [172]), (38, [42]), (39, [180, 0, 197]), (42, [16, 40]), (44, [161, 0, 6]), (47, [16, 252]), (49, [172]), (50, [187, 0, 30]), (53, [89]), (54, [42]), (55, [180, 0, 197]), (58, [44]), (59, [43]), (60, [42]), (61, [180, 0, 163]), (64, [180, 0, 190]), (67, [183, 0, 200]), (70, [78]), (71, [45]), (72, [43]), (73, [42]), (74, [180, 0, 12]), (77, [180, 0, 86]), (80, [182, 0, 139]), (83, [181, 0, 203]), (86, [45]), (87, [43]), (88, [42]), (89, [180, 0, 12]), (92, [180, 0, 90]), (95, [182, 0, 139]), (98, [181, 0, 207]), (101, [45]), (102, [182, 0, 210]), (105, [42]), (106, [180, 0, 32]), (109, [42]), (110, [180, 0, 197]), (113, [45]), (114, [83]), (115, [42])]
theorem b_dX10_strike_0 : chkB l_dX10_strike_0 0 (cX10_strike.data.toList.drop 0) = true := by decide +kernel
theorem dX10_strike_0 : decode cX10_strike 0 = .ok (.aload_n 0, 1) := oo_42 (dl3 b_dX10_strike_0 0 rfl)
theorem dX10_strike_1 : decode cX10_strike 1 = .ok (.getfield 163, 3) := oo_180 (b1 := 0) (b2 := 163) rfl (dl3 b_dX10_strike_0 1 rfl)
theorem dX10_strike_4 : decode cX10_strike 4 = .ok (.ifnonnull 6, 3) := oo_199 (b1 := 0) (b2 := 6) rfl (dl3 b_dX10_strike_0 2 rfl)
theorem dX10_strike_7 : decode cX10_strike 7 = .ok (.bipush (-3), 2) := oo_16 (b1 := 253) rfl (dl3 b_dX10_strike_0 3 rfl)
theorem dX10_strike_9 : decode cX10_strike 9 = .ok (.ireturn, 1) := oo_172 (dl3 b_dX10_strike_0 4 rfl)
theorem dX10_strike_10 : decode cX10_strike 10 = .ok (.aload_n 0, 1) := oo_42 (dl3 b_dX10_strike_0 5 rfl)
theorem dX10_strike_11 : decode cX10_strike 11 = .ok (.getfield 163, 3) := oo_180 (b1 := 0) (b2 := 163) rfl (dl3 b_dX10_strike_0 6 rfl)
theorem dX10_strike_14 : decode cX10_strike 14 = .ok (.getfield 193, 3) := oo_180 (b1 := 0) (b2 := 193) rfl (dl3 b_dX10_strike_0 7 rfl)
theorem dX10_strike_17 : decode cX10_strike 17 = .ok (.astore_n 1, 1) := oo_76 (dl3 b_dX10_strike_0 8 rfl)
theorem dX10_strike_18 : decode cX10_strike 18 = .ok (.aload_n 0, 1) := oo_42 (dl3 b_dX10_strike_0 9 rfl)
theorem dX10_strike_19 : decode cX10_strike 19 = .ok (.getfield 163, 3) := oo_180 (b1 := 0) (b2 := 163) rfl (dl3 b_dX10_strike_0 10 rfl)
theorem dX10_strike_22 : decode cX10_strike 22 = .ok (.getfield 180, 3) := oo_180 (b1 := 0) (b2 := 180) rfl (dl3 b_dX10_strike_0 11 rfl)
theorem dX10_strike_25 : decode cX10_strike 25 = .ok (.astore_n 2, 1) := oo_77 (dl3 b_dX10_strike_0 12 rfl)
theorem dX10_strike_26 : decode cX10_strike 26 = .ok (.aload_n 2, 1) := oo_44 (dl3 b_dX10_strike_0 13 rfl)
theorem dX10_strike_27 : decode cX10_strike 27 = .ok (.ifnonnull 11, 3) := oo_199 (b1 := 0) (b2 := 11) rfl (dl3 b_dX10_strike_0 14 rfl)
theorem dX10_strike_30 : decode cX10_strike 30 = .ok (.aload_n 0, 1) := oo_42 (dl3 b_dX10_strike_0 15 rfl)
theorem dX10_strike_31 : decode cX10_strike 31 = .ok (.aconst_null, 1) := oo_1 (dl3 b_dX10_strike_0 16 rfl)
theorem dX10_strike_32 : decode cX10_strike 32 = .ok (.putfield 163, 3) := oo_181 (b1 := 0) (b2 := 163) rfl (dl3 b_dX10_strike_0 17 rfl)
theorem dX10_strike_35 : decode cX10_strike 35 = .ok (.bipush (-9), 2) := oo_16 (b1 := 247) rfl (dl3 b_dX10_strike_0 18 rfl)
theorem dX10_strike_37 : decode cX10_strike 37 = .ok (.ireturn, 1) := oo_172 (dl3 b_dX10_strike_0 19 rfl)
theorem dX10_strike_38 : decode cX10_strike 38 = .ok (.aload_n 0, 1) := oo_42 (dl3 b_dX10_strike_0 20 rfl)
theorem dX10_strike_39 : decode cX10_strike 39 = .ok (.getfield 197, 3) := oo_180 (b1 := 0) (b2 := 197) rfl (dl3 b_dX10_strike_0 21 rfl)
theorem dX10_strike_42 : decode cX10_strike 42 = .ok (.bipush 40, 2) := oo_16 (b1 := 40) rfl (dl3 b_dX10_strike_0 22 rfl)
theorem dX10_strike_44 : decode cX10_strike 44 = .ok (.if_icmp .lt 6, 3) := oo_161 (b1 := 0) (b2 := 6) rfl (dl3 b_dX10_strike_0 23 rfl)
theorem dX10_strike_47 : decode cX10_strike 47 = .ok (.bipush (-4), 2) := oo_16 (b1 := 252) rfl (dl3 b_dX10_strike_0 24 rfl)
theorem dX10_strike_49 : decode cX10_strike 49 = .ok (.ireturn, 1) := oo_172 (dl3 b_dX10_strike_0 25 rfl)
theorem dX10_strike_50 : decode cX10_strike 50 = .ok (.new 30, 3) := oo_187 (b1 := 0) (b2 := 30) rfl (dl3 b_dX10_strike_0 26 rfl)
theorem dX10_strike_53 : decode cX10_strike 53 = .ok (.dup, 1) := oo_89 (dl3 b_dX10_strike_0 27 rfl)
theorem dX10_strike_54 : decode cX10_strike 54 = .ok (.aload_n 0, 1) := oo_42 (dl3 b_dX10_strike_0 28 rfl)
theorem dX10_strike_55 : decode cX10_strike 55 = .ok (.getfield 197, 3) := oo_180 (b1 := 0) (b2 := 197) rfl (dl3 b_dX10_strike_0 29 rfl)
theorem dX10_strike_58 : decode cX10_strike 58 = .ok (.aload_n 2, 1) := oo_44 (dl3 b_dX10_strike_0 30 rfl)
theorem dX10_strike_59 : decode cX10_strike 59 = .ok (.aload_n 1, 1) := oo_43 (dl3 b_dX10_strike_0 31 rfl)
theorem dX10_strike_60 : decode cX10_strike 60 = .ok (.aload_n 0, 1) := oo_42 (dl3 b_dX10_strike_0 32 rfl)
theorem dX10_strike_61 : decode cX10_strike 61 = .ok (.getfield 163, 3) := oo_180 (b1 := 0) (b2 := 163) rfl (dl3 b_dX10_strike_0 33 rfl)
theorem dX10_strike_64 : decode cX10_strike 64 = .ok (.getfield 190, 3) := oo_180 (b1 := 0) (b2 := 190) rfl (dl3 b_dX10_strike_0 34 rfl)
theorem dX10_strike_67 : decode cX10_strike 67 = .ok (.invokespecial 200, 3) := oo_183 (b1 := 0) (b2 := 200) rfl (dl3 b_dX10_strike_0 35 rfl)
theorem dX10_strike_70 : decode cX10_strike 70 = .ok (.astore_n 3, 1) := oo_78 (dl3 b_dX10_strike_0 36 rfl)
theorem dX10_strike_71 : decode cX10_strike 71 = .ok (.aload_n 3, 1) := oo_45 (dl3 b_dX10_strike_0 37 rfl)
theorem dX10_strike_72 : decode cX10_strike 72 = .ok (.aload_n 1, 1) := oo_43 (dl3 b_dX10_strike_0 38 rfl)
theorem dX10_strike_73 : decode cX10_strike 73 = .ok (.aload_n 0, 1) := oo_42 (dl3 b_dX10_strike_0 39 rfl)
theorem dX10_strike_74 : decode cX10_strike 74 = .ok (.getfield 12, 3) := oo_180 (b1 := 0) (b2 := 12) rfl (dl3 b_dX10_strike_0 40 rfl)
theorem dX10_strike_77 : decode cX10_strike 77 = .ok (.getfield 86, 3) := oo_180 (b1 := 0) (b2 := 86) rfl (dl3 b_dX10_strike_0 41 rfl)
theorem dX10_strike_80 : decode cX10_strike 80 = .ok (.invokevirtual 139, 3) := oo_182 (b1 := 0) (b2 := 139) rfl (dl3 b_dX10_strike_0 42 rfl)
theorem dX10_strike_83 : decode cX10_strike 83 = .ok (.putfield 203, 3) := oo_181 (b1 := 0) (b2 := 203) rfl (dl3 b_dX10_strike_0 43 rfl)
theorem dX10_strike_86 : decode cX10_strike 86 = .ok (.aload_n 3, 1) := oo_45 (dl3 b_dX10_strike_0 44 rfl)
theorem dX10_strike_87 : decode cX10_strike 87 = .ok (.aload_n 1, 1) := oo_43 (dl3 b_dX10_strike_0 45 rfl)
theorem dX10_strike_88 : decode cX10_strike 88 = .ok (.aload_n 0, 1) := oo_42 (dl3 b_dX10_strike_0 46 rfl)
theorem dX10_strike_89 : decode cX10_strike 89 = .ok (.getfield 12, 3) := oo_180 (b1 := 0) (b2 := 12) rfl (dl3 b_dX10_strike_0 47 rfl)
theorem dX10_strike_92 : decode cX10_strike 92 = .ok (.getfield 90, 3) := oo_180 (b1 := 0) (b2 := 90) rfl (dl3 b_dX10_strike_0 48 rfl)
theorem dX10_strike_95 : decode cX10_strike 95 = .ok (.invokevirtual 139, 3) := oo_182 (b1 := 0) (b2 := 139) rfl (dl3 b_dX10_strike_0 49 rfl)
theorem dX10_strike_98 : decode cX10_strike 98 = .ok (.putfield 207, 3) := oo_181 (b1 := 0) (b2 := 207) rfl (dl3 b_dX10_strike_0 50 rfl)
theorem dX10_strike_101 : decode cX10_strike 101 = .ok (.aload_n 3, 1) := oo_45 (dl3 b_dX10_strike_0 51 rfl)
theorem dX10_strike_102 : decode cX10_strike 102 = .ok (.invokevirtual 210, 3) := oo_182 (b1 := 0) (b2 := 210) rfl (dl3 b_dX10_strike_0 52 rfl)
theorem dX10_strike_105 : decode cX10_strike 105 = .ok (.aload_n 0, 1) := oo_42 (dl3 b_dX10_strike_0 53 rfl)
theorem dX10_strike_106 : decode cX10_strike 106 = .ok (.getfield 32, 3) := oo_180 (b1 := 0) (b2 := 32) rfl (dl3 b_dX10_strike_0 54 rfl)
theorem dX10_strike_109 : decode cX10_strike 109 = .ok (.aload_n 0, 1) := oo_42 (dl3 b_dX10_strike_0 55 rfl)
theorem dX10_strike_110 : decode cX10_strike 110 = .ok (.getfield 197, 3) := oo_180 (b1 := 0) (b2 := 197) rfl (dl3 b_dX10_strike_0 56 rfl)
theorem dX10_strike_113 : decode cX10_strike 113 = .ok (.aload_n 3, 1) := oo_45 (dl3 b_dX10_strike_0 57 rfl)
theorem dX10_strike_114 : decode cX10_strike 114 = .ok (.aastore, 1) := oo_83 (dl3 b_dX10_strike_0 58 rfl)
theorem dX10_strike_115 : decode cX10_strike 115 = .ok (.aload_n 0, 1) := oo_42 (dl3 b_dX10_strike_0 59 rfl)
def l_dX10_strike_116 : List (Nat × List Nat) := [(116, [1]), (117, [181, 0, 163]), (120, [42]), (121, [89]), (122, [180, 0, 197]), (125, [90]), (126, [4]), (127, [96]), (128, [181, 0, 197]), (131, [172])]
theorem b_dX10_strike_116 : chkB l_dX10_strike_116 116 (cX10_strike.data.toList.drop 116) = true := by decide +kernel
theorem dX10_strike_116 : decode cX10_strike 116 = .ok (.aconst_null, 1) := oo_1 (dl3 b_dX10_strike_116 0 rfl)
theorem dX10_strike_117 : decode cX10_strike 117 = .ok (.putfield 163, 3) := oo_181 (b1 := 0) (b2 := 163) rfl (dl3 b_dX10_strike_116 1 rfl)
theorem dX10_strike_120 : decode cX10_strike 120 = .ok (.aload_n 0, 1) := oo_42 (dl3 b_dX10_strike_116 2 rfl)
theorem dX10_strike_121 : decode cX10_strike 121 = .ok (.dup, 1) := oo_89 (dl3 b_dX10_strike_116 3 rfl)
theorem dX10_strike_122 : decode cX10_strike 122 = .ok (.getfield 197, 3) := oo_180 (b1 := 0) (b2 := 197) rfl (dl3 b_dX10_strike_116 4 rfl)
theorem dX10_strike_125 : decode cX10_strike 125 = .ok (.dup_x1, 1) := oo_90 (dl3 b_dX10_strike_116 5 rfl)
theorem dX10_strike_126 : decode cX10_strike 126 = .ok (.iconst 1, 1) := oo_4 (dl3 b_dX10_strike_116 6 rfl)
theorem dX10_strike_127 : decode cX10_strike 127 = .ok (.iadd, 1) := oo_96 (dl3 b_dX10_strike_116 7 rfl)
theorem dX10_strike_128 : decode cX10_strike 128 = .ok (.putfield 197, 3) := oo_181 (b1 := 0) (b2 := 197) rfl (dl3 b_dX10_strike_116 8 rfl)
theorem dX10_strike_131 : decode cX10_strike 131 = .ok (.ireturn, 1) := oo_172 (dl3 b_dX10_strike_116 9 rfl)
set_option maxRecDepth 20000 in
theorem ggX10_about_X10_pitchAt : GoodIn wsX10_about wsX10_pitchAt := goodIn_r _ [13, 14, 15, 16, 17, 12, 18, 39, 40, 41, 42, 43, 44, 45, 46, 47, 48, 49, 50, 51] rfl (by decide +kernel)
set_option maxRecDepth 20000 in
theorem gX10_about_X10_pitchAt : GoodIn wsX10_about (wsV RX10 133 RX10 yX10_pitchAt wsX10_pitchAt) := goodIn_app (goodIn_r _ [9, 10, 11, 12] rfl (by decide +kernel)) ggX10_about_X10_pitchAt
def l_dX10_about_0 : List (Nat × List Nat) := [(0, [42]), (1, [27]), (2, [182, 0, 133]), (5, [78]), (6, [45]), (7, [199, 0, 5]), (10, [2]), (11, [172]), (12, [28])]
theorem b_dX10_about_0 : chkB l_dX10_about_0 0 (cX10_about.data.toList.drop 0) = true := by decide +kernel
theorem dX10_about_0 : decode cX10_about 0 = .ok (.aload_n 0, 1) := oo_42 (dl3 b_dX10_about_0 0 rfl)
theorem dX10_about_1 : decode cX10_about 1 = .ok (.iload_n 1, 1) := oo_27 (dl3 b_dX10_about_0 1 rfl)
theorem dX10_about_2 : decode cX10_about 2 = .ok (.invokevirtual 133, 3) := oo_182 (b1 := 0) (b2 := 133) rfl (dl3 b_dX10_about_0 2 rfl)
theorem dX10_about_5 : decode cX10_about 5 = .ok (.astore_n 3, 1) := oo_78 (dl3 b_dX10_about_0 3 rfl)
theorem dX10_about_6 : decode cX10_about 6 = .ok (.aload_n 3, 1) := oo_45 (dl3 b_dX10_about_0 4 rfl)
theorem dX10_about_7 : decode cX10_about 7 = .ok (.ifnonnull 5, 3) := oo_199 (b1 := 0) (b2 := 5) rfl (dl3 b_dX10_about_0 5 rfl)
theorem dX10_about_10 : decode cX10_about 10 = .ok (.iconst (-1), 1) := oo_2 (dl3 b_dX10_about_0 6 rfl)
theorem dX10_about_11 : decode cX10_about 11 = .ok (.ireturn, 1) := oo_172 (dl3 b_dX10_about_0 7 rfl)
theorem dX10_about_12 : decode cX10_about 12 = .ok (.iload_n 2, 1) := oo_28 (dl3 b_dX10_about_0 8 rfl)
theorem dX10_about_13 : decode cX10_about 13 = .ok (.tableswitch 93 0 6 #[43, 48, 53, 58, 63, 68, 88], 43) := by decide +kernel
def l_dX10_about_56 : List (Nat × List Nat) := [(56, [45]), (57, [180, 0, 213]), (60, [172]), (61, [45]), (62, [180, 0, 216]), (65, [172]), (66, [45]), (67, [180, 0, 219]), (70, [172]), (71, [45]), (72, [180, 0, 222]), (75, [172]), (76, [45]), (77, [180, 0, 225]), (80, [172]), (81, [45]), (82, [180, 0, 159]), (85, [199, 0, 8]), (88, [16, 247]), (90, [167, 0, 10]), (93, [45]), (94, [180, 0, 159]), (97, [180, 0, 228]), (100, [172]), (101, [45]), (102, [180, 0, 231]), (105, [172]), (106, [16, 254]), (108, [172])]
theorem b_dX10_about_56 : chkB l_dX10_about_56 56 (cX10_about.data.toList.drop 56) = true := by decide +kernel
theorem dX10_about_56 : decode cX10_about 56 = .ok (.aload_n 3, 1) := oo_45 (dl3 b_dX10_about_56 0 rfl)
theorem dX10_about_57 : decode cX10_about 57 = .ok (.getfield 213, 3) := oo_180 (b1 := 0) (b2 := 213) rfl (dl3 b_dX10_about_56 1 rfl)
theorem dX10_about_60 : decode cX10_about 60 = .ok (.ireturn, 1) := oo_172 (dl3 b_dX10_about_56 2 rfl)
theorem dX10_about_61 : decode cX10_about 61 = .ok (.aload_n 3, 1) := oo_45 (dl3 b_dX10_about_56 3 rfl)
theorem dX10_about_62 : decode cX10_about 62 = .ok (.getfield 216, 3) := oo_180 (b1 := 0) (b2 := 216) rfl (dl3 b_dX10_about_56 4 rfl)
theorem dX10_about_65 : decode cX10_about 65 = .ok (.ireturn, 1) := oo_172 (dl3 b_dX10_about_56 5 rfl)
theorem dX10_about_66 : decode cX10_about 66 = .ok (.aload_n 3, 1) := oo_45 (dl3 b_dX10_about_56 6 rfl)
theorem dX10_about_67 : decode cX10_about 67 = .ok (.getfield 219, 3) := oo_180 (b1 := 0) (b2 := 219) rfl (dl3 b_dX10_about_56 7 rfl)
theorem dX10_about_70 : decode cX10_about 70 = .ok (.ireturn, 1) := oo_172 (dl3 b_dX10_about_56 8 rfl)
theorem dX10_about_71 : decode cX10_about 71 = .ok (.aload_n 3, 1) := oo_45 (dl3 b_dX10_about_56 9 rfl)
theorem dX10_about_72 : decode cX10_about 72 = .ok (.getfield 222, 3) := oo_180 (b1 := 0) (b2 := 222) rfl (dl3 b_dX10_about_56 10 rfl)
theorem dX10_about_75 : decode cX10_about 75 = .ok (.ireturn, 1) := oo_172 (dl3 b_dX10_about_56 11 rfl)
theorem dX10_about_76 : decode cX10_about 76 = .ok (.aload_n 3, 1) := oo_45 (dl3 b_dX10_about_56 12 rfl)
theorem dX10_about_77 : decode cX10_about 77 = .ok (.getfield 225, 3) := oo_180 (b1 := 0) (b2 := 225) rfl (dl3 b_dX10_about_56 13 rfl)
theorem dX10_about_80 : decode cX10_about 80 = .ok (.ireturn, 1) := oo_172 (dl3 b_dX10_about_56 14 rfl)
theorem dX10_about_81 : decode cX10_about 81 = .ok (.aload_n 3, 1) := oo_45 (dl3 b_dX10_about_56 15 rfl)
theorem dX10_about_82 : decode cX10_about 82 = .ok (.getfield 159, 3) := oo_180 (b1 := 0) (b2 := 159) rfl (dl3 b_dX10_about_56 16 rfl)
theorem dX10_about_85 : decode cX10_about 85 = .ok (.ifnonnull 8, 3) := oo_199 (b1 := 0) (b2 := 8) rfl (dl3 b_dX10_about_56 17 rfl)
theorem dX10_about_88 : decode cX10_about 88 = .ok (.bipush (-9), 2) := oo_16 (b1 := 247) rfl (dl3 b_dX10_about_56 18 rfl)
theorem dX10_about_90 : decode cX10_about 90 = .ok (.goto 10, 3) := oo_167 (b1 := 0) (b2 := 10) rfl (dl3 b_dX10_about_56 19 rfl)
theorem dX10_about_93 : decode cX10_about 93 = .ok (.aload_n 3, 1) := oo_45 (dl3 b_dX10_about_56 20 rfl)
theorem dX10_about_94 : decode cX10_about 94 = .ok (.getfield 159, 3) := oo_180 (b1 := 0) (b2 := 159) rfl (dl3 b_dX10_about_56 21 rfl)
theorem dX10_about_97 : decode cX10_about 97 = .ok (.getfield 228, 3) := oo_180 (b1 := 0) (b2 := 228) rfl (dl3 b_dX10_about_56 22 rfl)
theorem dX10_about_100 : decode cX10_about 100 = .ok (.ireturn, 1) := oo_172 (dl3 b_dX10_about_56 23 rfl)
theorem dX10_about_101 : decode cX10_about 101 = .ok (.aload_n 3, 1) := oo_45 (dl3 b_dX10_about_56 24 rfl)
theorem dX10_about_102 : decode cX10_about 102 = .ok (.getfield 231, 3) := oo_180 (b1 := 0) (b2 := 231) rfl (dl3 b_dX10_about_56 25 rfl)
theorem dX10_about_105 : decode cX10_about 105 = .ok (.ireturn, 1) := oo_172 (dl3 b_dX10_about_56 26 rfl)
theorem dX10_about_106 : decode cX10_about 106 = .ok (.bipush (-2), 2) := oo_16 (b1 := 254) rfl (dl3 b_dX10_about_56 27 rfl)
theorem dX10_about_108 : decode cX10_about 108 = .ok (.ireturn, 1) := oo_172 (dl3 b_dX10_about_56 28 rfl)
set_option maxRecDepth 20000 in
theorem ggX10_parcel_X10_takeAt : GoodIn wsX10_parcel wsX10_takeAt := goodIn_r _ [14, 15, 16, 17, 18, 13, 19, 40, 41, 42, 43, 44, 45, 46, 47, 48, 49, 50, 51, 52] rfl (by decide +kernel)
set_option maxRecDepth 20000 in
theorem gX10_parcel_X10_takeAt : GoodIn wsX10_parcel (wsV RX10 234 RX10 yX10_takeAt wsX10_takeAt) := goodIn_app (goodIn_r _ [10, 11, 12, 13] rfl (by decide +kernel)) ggX10_parcel_X10_takeAt
set_option maxRecDepth 20000 in
theorem ggX10_parcel_X10_isWithin : GoodIn wsX10_parcel wsX10_isWithin := goodIn_r _ [19] rfl (by decide +kernel)
set_option maxRecDepth 20000 in
theorem gX10_parcel_X10_isWithin : GoodIn wsX10_parcel (va_wsS RX10 64 yX10_isWithin wsX10_isWithin) := goodIn_app (goodIn_r _ [17, 18, 13] rfl (by decide +kernel)) ggX10_parcel_X10_isWithin
set_option maxRecDepth 20000 in
theorem ggX10_parcel_X5_init : GoodIn wsX10_parcel wsX5_init := goodIn_r _ [22, 23, 24, 25, 26, 27, 53, 54] rfl (by decide +kernel)
set_option maxRecDepth 20000 in
theorem gX10_parcel_X5_init : GoodIn wsX10_parcel (wsX5_init) := ggX10_parcel_X5_init
def l_dX10_parcel_0 : List (Nat × List Nat) := [(0, [42]), (1, [27]), (2, [182, 0, 234]), (5, [58, 4]), (7, [25, 4]), (9, [199, 0, 5]), (12, [2]), (13, [172]), (14, [28]), (15, [4]), (16, [17, 3, 232]), (19, [184, 0, 64]), (22, [153, 0, 14]), (25, [29]), (26, [3]), (27, [17, 3, 232]), (30, [184, 0, 64]), (33, [154, 0, 6]), (36, [16, 254]), (38, [172]), (39, [25, 4]), (41, [180, 0, 238]), (44, [153, 0, 6]), (47, [16, 253]), (49, [172]), (50, [42]), (51, [180, 0, 242]), (54, [16, 80]), (56, [161, 0, 6]), (59, [16, 252]), (61, [172]), (62, [42]), (63, [180, 0, 38]), (66, [42]), (67, [180, 0, 242]), (70, [187, 0, 36]), (73, [89]), (74, [25, 4]), (76, [180, 0, 245]), (79, [29]), (80, [183, 0, 246]), (83, [83]), (84, [25, 4]), (86, [89]), (87, [180, 0, 247]), (90, [4]), (91, [96]), (92, [181, 0, 247]), (95, [25, 4]), (97, [89]), (98, [180, 0, 249]), (101, [28]), (102, [133]), (103, [29]), (104, [133]), (105, [105]), (106, [97]), (107, [181, 0, 249]), (110, [42]), (111, [89])]
theorem b_dX10_parcel_0 : chkB l_dX10_parcel_0 0 (cX10_parcel.data.toList.drop 0) = true := by decide +kernel
theorem dX10_parcel_0 : decode cX10_parcel 0 = .ok (.aload_n 0, 1) := oo_42 (dl3 b_dX10_parcel_0 0 rfl)
theorem dX10_parcel_1 : decode cX10_parcel 1 = .ok (.iload_n 1, 1) := oo_27 (dl3 b_dX10_parcel_0 1 rfl)
theorem dX10_parcel_2 : decode cX10_parcel 2 = .ok (.invokevirtual 234, 3) := oo_182 (b1 := 0) (b2 := 234) rfl (dl3 b_dX10_parcel_0 2 rfl)
theorem dX10_parcel_5 : decode cX10_parcel 5 = .ok (.astore 4, 2) := oo_58 (b1 := 4) (dl3 b_dX10_parcel_0 3 rfl)
theorem dX10_parcel_7 : decode cX10_parcel 7 = .ok (.aload 4, 2) := oo_25 (b1 := 4) (dl3 b_dX10_parcel_0 4 rfl)
theorem dX10_parcel_9 : decode cX10_parcel 9 = .ok (.ifnonnull 5, 3) := oo_199 (b1 := 0) (b2 := 5) rfl (dl3 b_dX10_parcel_0 5 rfl)
theorem dX10_parcel_12 : decode cX10_parcel 12 = .ok (.iconst (-1), 1) := oo_2 (dl3 b_dX10_parcel_0 6 rfl)
theorem dX10_parcel_13 : decode cX10_parcel 13 = .ok (.ireturn, 1) := oo_172 (dl3 b_dX10_parcel_0 7 rfl)
theorem dX10_parcel_14 : decode cX10_parcel 14 = .ok (.iload_n 2, 1) := oo_28 (dl3 b_dX10_parcel_0 8 rfl)
theorem dX10_parcel_15 : decode cX10_parcel 15 = .ok (.iconst 1, 1) := oo_4 (dl3 b_dX10_parcel_0 9 rfl)
theorem dX10_parcel_16 : decode cX10_parcel 16 = .ok (.sipush 1000, 3) := oo_17 (b1 := 3) (b2 := 232) rfl (dl3 b_dX10_parcel_0 10 rfl)
theorem dX10_parcel_19 : decode cX10_parcel 19 = .ok (.invokestatic 64, 3) := oo_184 (b1 := 0) (b2 := 64) rfl (dl3 b_dX10_parcel_0 11 rfl)
theorem dX10_parcel_22 : decode cX10_parcel 22 = .ok (.ifCond .eq 14, 3) := oo_153 (b1 := 0) (b2 := 14) rfl (dl3 b_dX10_parcel_0 12 rfl)
theorem dX10_parcel_25 : decode cX10_parcel 25 = .ok (.iload_n 3, 1) := oo_29 (dl3 b_dX10_parcel_0 13 rfl)
theorem dX10_parcel_26 : decode cX10_parcel 26 = .ok (.iconst 0, 1) := oo_3 (dl3 b_dX10_parcel_0 14 rfl)
theorem dX10_parcel_27 : decode cX10_parcel 27 = .ok (.sipush 1000, 3) := oo_17 (b1 := 3) (b2 := 232) rfl (dl3 b_dX10_parcel_0 15 rfl)
theorem dX10_parcel_30 : decode cX10_parcel 30 = .ok (.invokestatic 64, 3) := oo_184 (b1 := 0) (b2 := 64) rfl (dl3 b_dX10_parcel_0 16 rfl)
theorem dX10_parcel_33 : decode cX10_parcel 33 = .ok (.ifCond .ne 6, 3) := oo_154 (b1 := 0) (b2 := 6) rfl (dl3 b_dX10_parcel_0 17 rfl)
theorem dX10_parcel_36 : decode cX10_parcel 36 = .ok (.bipush (-2), 2) := oo_16 (b1 := 254) rfl (dl3 b_dX10_parcel_0 18 rfl)
theorem dX10_parcel_38 : decode cX10_parcel 38 = .ok (.ireturn, 1) := oo_172 (dl3 b_dX10_parcel_0 19 rfl)
theorem dX10_parcel_39 : decode cX10_parcel 39 = .ok (.aload 4, 2) := oo_25 (b1 := 4) (dl3 b_dX10_parcel_0 20 rfl)
theorem dX10_parcel_41 : decode cX10_parcel 41 = .ok (.getfield 238, 3) := oo_180 (b1 := 0) (b2 := 238) rfl (dl3 b_dX10_parcel_0 21 rfl)
theorem dX10_parcel_44 : decode cX10_parcel 44 = .ok (.ifCond .eq 6, 3) := oo_153 (b1 := 0) (b2 := 6) rfl (dl3 b_dX10_parcel_0 22 rfl)
theorem dX10_parcel_47 : decode cX10_parcel 47 = .ok (.bipush (-3), 2) := oo_16 (b1 := 253) rfl (dl3 b_dX10_parcel_0 23 rfl)
theorem dX10_parcel_49 : decode cX10_parcel 49 = .ok (.ireturn, 1) := oo_172 (dl3 b_dX10_parcel_0 24 rfl)
theorem dX10_parcel_50 : decode cX10_parcel 50 = .ok (.aload_n 0, 1) := oo_42 (dl3 b_dX10_parcel_0 25 rfl)
theorem dX10_parcel_51 : decode cX10_parcel 51 = .ok (.getfield 242, 3) := oo_180 (b1 := 0) (b2 := 242) rfl (dl3 b_dX10_parcel_0 26 rfl)
theorem dX10_parcel_54 : decode cX10_parcel 54 = .ok (.bipush 80, 2) := oo_16 (b1 := 80) rfl (dl3 b_dX10_parcel_0 27 rfl)
theorem dX10_parcel_56 : decode cX10_parcel 56 = .ok (.if_icmp .lt 6, 3) := oo_161 (b1 := 0) (b2 := 6) rfl (dl3 b_dX10_parcel_0 28 rfl)
theorem dX10_parcel_59 : decode cX10_parcel 59 = .ok (.bipush (-4), 2) := oo_16 (b1 := 252) rfl (dl3 b_dX10_parcel_0 29 rfl)
theorem dX10_parcel_61 : decode cX10_parcel 61 = .ok (.ireturn, 1) := oo_172 (dl3 b_dX10_parcel_0 30 rfl)
theorem dX10_parcel_62 : decode cX10_parcel 62 = .ok (.aload_n 0, 1) := oo_42 (dl3 b_dX10_parcel_0 31 rfl)
theorem dX10_parcel_63 : decode cX10_parcel 63 = .ok (.getfield 38, 3) := oo_180 (b1 := 0) (b2 := 38) rfl (dl3 b_dX10_parcel_0 32 rfl)
theorem dX10_parcel_66 : decode cX10_parcel 66 = .ok (.aload_n 0, 1) := oo_42 (dl3 b_dX10_parcel_0 33 rfl)
theorem dX10_parcel_67 : decode cX10_parcel 67 = .ok (.getfield 242, 3) := oo_180 (b1 := 0) (b2 := 242) rfl (dl3 b_dX10_parcel_0 34 rfl)
theorem dX10_parcel_70 : decode cX10_parcel 70 = .ok (.new 36, 3) := oo_187 (b1 := 0) (b2 := 36) rfl (dl3 b_dX10_parcel_0 35 rfl)
theorem dX10_parcel_73 : decode cX10_parcel 73 = .ok (.dup, 1) := oo_89 (dl3 b_dX10_parcel_0 36 rfl)
theorem dX10_parcel_74 : decode cX10_parcel 74 = .ok (.aload 4, 2) := oo_25 (b1 := 4) (dl3 b_dX10_parcel_0 37 rfl)
theorem dX10_parcel_76 : decode cX10_parcel 76 = .ok (.getfield 245, 3) := oo_180 (b1 := 0) (b2 := 245) rfl (dl3 b_dX10_parcel_0 38 rfl)
theorem dX10_parcel_79 : decode cX10_parcel 79 = .ok (.iload_n 3, 1) := oo_29 (dl3 b_dX10_parcel_0 39 rfl)
theorem dX10_parcel_80 : decode cX10_parcel 80 = .ok (.invokespecial 246, 3) := oo_183 (b1 := 0) (b2 := 246) rfl (dl3 b_dX10_parcel_0 40 rfl)
theorem dX10_parcel_83 : decode cX10_parcel 83 = .ok (.aastore, 1) := oo_83 (dl3 b_dX10_parcel_0 41 rfl)
theorem dX10_parcel_84 : decode cX10_parcel 84 = .ok (.aload 4, 2) := oo_25 (b1 := 4) (dl3 b_dX10_parcel_0 42 rfl)
theorem dX10_parcel_86 : decode cX10_parcel 86 = .ok (.dup, 1) := oo_89 (dl3 b_dX10_parcel_0 43 rfl)
theorem dX10_parcel_87 : decode cX10_parcel 87 = .ok (.getfield 247, 3) := oo_180 (b1 := 0) (b2 := 247) rfl (dl3 b_dX10_parcel_0 44 rfl)
theorem dX10_parcel_90 : decode cX10_parcel 90 = .ok (.iconst 1, 1) := oo_4 (dl3 b_dX10_parcel_0 45 rfl)
theorem dX10_parcel_91 : decode cX10_parcel 91 = .ok (.iadd, 1) := oo_96 (dl3 b_dX10_parcel_0 46 rfl)
theorem dX10_parcel_92 : decode cX10_parcel 92 = .ok (.putfield 247, 3) := oo_181 (b1 := 0) (b2 := 247) rfl (dl3 b_dX10_parcel_0 47 rfl)
theorem dX10_parcel_95 : decode cX10_parcel 95 = .ok (.aload 4, 2) := oo_25 (b1 := 4) (dl3 b_dX10_parcel_0 48 rfl)
theorem dX10_parcel_97 : decode cX10_parcel 97 = .ok (.dup, 1) := oo_89 (dl3 b_dX10_parcel_0 49 rfl)
theorem dX10_parcel_98 : decode cX10_parcel 98 = .ok (.getfield 249, 3) := oo_180 (b1 := 0) (b2 := 249) rfl (dl3 b_dX10_parcel_0 50 rfl)
theorem dX10_parcel_101 : decode cX10_parcel 101 = .ok (.iload_n 2, 1) := oo_28 (dl3 b_dX10_parcel_0 51 rfl)
theorem dX10_parcel_102 : decode cX10_parcel 102 = .ok (.i2l, 1) := oo_133 (dl3 b_dX10_parcel_0 52 rfl)
theorem dX10_parcel_103 : decode cX10_parcel 103 = .ok (.iload_n 3, 1) := oo_29 (dl3 b_dX10_parcel_0 53 rfl)
theorem dX10_parcel_104 : decode cX10_parcel 104 = .ok (.i2l, 1) := oo_133 (dl3 b_dX10_parcel_0 54 rfl)
theorem dX10_parcel_105 : decode cX10_parcel 105 = .ok (.lmul, 1) := oo_105 (dl3 b_dX10_parcel_0 55 rfl)
theorem dX10_parcel_106 : decode cX10_parcel 106 = .ok (.ladd, 1) := oo_97 (dl3 b_dX10_parcel_0 56 rfl)
theorem dX10_parcel_107 : decode cX10_parcel 107 = .ok (.putfield 249, 3) := oo_181 (b1 := 0) (b2 := 249) rfl (dl3 b_dX10_parcel_0 57 rfl)
theorem dX10_parcel_110 : decode cX10_parcel 110 = .ok (.aload_n 0, 1) := oo_42 (dl3 b_dX10_parcel_0 58 rfl)
theorem dX10_parcel_111 : decode cX10_parcel 111 = .ok (.dup, 1) := oo_89 (dl3 b_dX10_parcel_0 59 rfl)
def l_dX10_parcel_112 : List (Nat × List Nat) := [(112, [180, 0, 242]), (115, [90]), (116, [4]), (117, [96]), (118, [181, 0, 242]), (121, [172])]
theorem b_dX10_parcel_112 : chkB l_dX10_parcel_112 112 (cX10_parcel.data.toList.drop 112) = true := by decide +kernel
theorem dX10_parcel_112 : decode cX10_parcel 112 = .ok (.getfield 242, 3) := oo_180 (b1 := 0) (b2 := 242) rfl (dl3 b_dX10_parcel_112 0 rfl)
theorem dX10_parcel_115 : decode cX10_parcel 115 = .ok (.dup_x1, 1) := oo_90 (dl3 b_dX10_parcel_112 1 rfl)
theorem dX10_parcel_116 : decode cX10_parcel 116 = .ok (.iconst 1, 1) := oo_4 (dl3 b_dX10_parcel_112 2 rfl)
theorem dX10_parcel_117 : decode cX10_parcel 117 = .ok (.iadd, 1) := oo_96 (dl3 b_dX10_parcel_112 3 rfl)
theorem dX10_parcel_118 : decode cX10_parcel 118 = .ok (.putfield 242, 3) := oo_181 (b1 := 0) (b2 := 242) rfl (dl3 b_dX10_parcel_112 4 rfl)
theorem dX10_parcel_121 : decode cX10_parcel 121 = .ok (.ireturn, 1) := oo_172 (dl3 b_dX10_parcel_112 5 rfl)
set_option maxRecDepth 20000 in
theorem ggX10_spend_X10_takeAt : GoodIn wsX10_spend wsX10_takeAt := goodIn_r _ [10, 11, 12, 13, 14, 9, 15, 28, 29, 30, 31, 32, 33, 34, 35, 36, 37, 38, 39, 40] rfl (by decide +kernel)
set_option maxRecDepth 20000 in
theorem gX10_spend_X10_takeAt : GoodIn wsX10_spend (wsV RX10 234 RX10 yX10_takeAt wsX10_takeAt) := goodIn_app (goodIn_r _ [6, 7, 8, 9] rfl (by decide +kernel)) ggX10_spend_X10_takeAt
set_option maxRecDepth 20000 in
theorem ggX10_spend_X10_isWithin : GoodIn wsX10_spend wsX10_isWithin := goodIn_r _ [15] rfl (by decide +kernel)
set_option maxRecDepth 20000 in
theorem gX10_spend_X10_isWithin : GoodIn wsX10_spend (va_wsS RX10 64 yX10_isWithin wsX10_isWithin) := goodIn_app (goodIn_r _ [13, 14, 9] rfl (by decide +kernel)) ggX10_spend_X10_isWithin
def l_dX10_spend_0 : List (Nat × List Nat) := [(0, [42]), (1, [27]), (2, [182, 0, 234]), (5, [58, 4]), (7, [25, 4]), (9, [198, 0, 22]), (12, [28]), (13, [3]), (14, [4]), (15, [184, 0, 64]), (18, [153, 0, 13]), (21, [29]), (22, [3]), (23, [18, 252]), (25, [184, 0, 64]), (28, [154, 0, 7]), (31, [20, 0, 137]), (34, [173]), (35, [25, 4]), (37, [180, 0, 238]), (40, [153, 0, 7]), (43, [20, 0, 137]), (46, [173]), (47, [28]), (48, [154, 0, 21]), (51, [25, 4]), (53, [89]), (54, [180, 0, 253]), (57, [29]), (58, [133]), (59, [97]), (60, [181, 0, 253]), (63, [25, 4]), (65, [180, 0, 253]), (68, [173]), (69, [25, 4]), (71, [89]), (72, [180, 1, 0]), (75, [29]), (76, [133]), (77, [97]), (78, [181, 1, 0]), (81, [25, 4]), (83, [180, 1, 0]), (86, [173])]
theorem b_dX10_spend_0 : chkB l_dX10_spend_0 0 (cX10_spend.data.toList.drop 0) = true := by decide +kernel
theorem dX10_spend_0 : decode cX10_spend 0 = .ok (.aload_n 0, 1) := oo_42 (dl3 b_dX10_spend_0 0 rfl)
theorem dX10_spend_1 : decode cX10_spend 1 = .ok (.iload_n 1, 1) := oo_27 (dl3 b_dX10_spend_0 1 rfl)
theorem dX10_spend_2 : decode cX10_spend 2 = .ok (.invokevirtual 234, 3) := oo_182 (b1 := 0) (b2 := 234) rfl (dl3 b_dX10_spend_0 2 rfl)
theorem dX10_spend_5 : decode cX10_spend 5 = .ok (.astore 4, 2) := oo_58 (b1 := 4) (dl3 b_dX10_spend_0 3 rfl)
theorem dX10_spend_7 : decode cX10_spend 7 = .ok (.aload 4, 2) := oo_25 (b1 := 4) (dl3 b_dX10_spend_0 4 rfl)
theorem dX10_spend_9 : decode cX10_spend 9 = .ok (.ifnull 22, 3) := oo_198 (b1 := 0) (b2 := 22) rfl (dl3 b_dX10_spend_0 5 rfl)
theorem dX10_spend_12 : decode cX10_spend 12 = .ok (.iload_n 2, 1) := oo_28 (dl3 b_dX10_spend_0 6 rfl)
theorem dX10_spend_13 : decode cX10_spend 13 = .ok (.iconst 0, 1) := oo_3 (dl3 b_dX10_spend_0 7 rfl)
theorem dX10_spend_14 : decode cX10_spend 14 = .ok (.iconst 1, 1) := oo_4 (dl3 b_dX10_spend_0 8 rfl)
theorem dX10_spend_15 : decode cX10_spend 15 = .ok (.invokestatic 64, 3) := oo_184 (b1 := 0) (b2 := 64) rfl (dl3 b_dX10_spend_0 9 rfl)
theorem dX10_spend_18 : decode cX10_spend 18 = .ok (.ifCond .eq 13, 3) := oo_153 (b1 := 0) (b2 := 13) rfl (dl3 b_dX10_spend_0 10 rfl)
theorem dX10_spend_21 : decode cX10_spend 21 = .ok (.iload_n 3, 1) := oo_29 (dl3 b_dX10_spend_0 11 rfl)
theorem dX10_spend_22 : decode cX10_spend 22 = .ok (.iconst 0, 1) := oo_3 (dl3 b_dX10_spend_0 12 rfl)
theorem dX10_spend_23 : decode cX10_spend 23 = .ok (.ldc 252, 2) := oo_18 (b1 := 252) (dl3 b_dX10_spend_0 13 rfl)
theorem dX10_spend_25 : decode cX10_spend 25 = .ok (.invokestatic 64, 3) := oo_184 (b1 := 0) (b2 := 64) rfl (dl3 b_dX10_spend_0 14 rfl)
theorem dX10_spend_28 : decode cX10_spend 28 = .ok (.ifCond .ne 7, 3) := oo_154 (b1 := 0) (b2 := 7) rfl (dl3 b_dX10_spend_0 15 rfl)
theorem dX10_spend_31 : decode cX10_spend 31 = .ok (.ldc2_w 137, 3) := oo_20 (b1 := 0) (b2 := 137) rfl (dl3 b_dX10_spend_0 16 rfl)
theorem dX10_spend_34 : decode cX10_spend 34 = .ok (.lreturn, 1) := oo_173 (dl3 b_dX10_spend_0 17 rfl)
theorem dX10_spend_35 : decode cX10_spend 35 = .ok (.aload 4, 2) := oo_25 (b1 := 4) (dl3 b_dX10_spend_0 18 rfl)
theorem dX10_spend_37 : decode cX10_spend 37 = .ok (.getfield 238, 3) := oo_180 (b1 := 0) (b2 := 238) rfl (dl3 b_dX10_spend_0 19 rfl)
theorem dX10_spend_40 : decode cX10_spend 40 = .ok (.ifCond .eq 7, 3) := oo_153 (b1 := 0) (b2 := 7) rfl (dl3 b_dX10_spend_0 20 rfl)
theorem dX10_spend_43 : decode cX10_spend 43 = .ok (.ldc2_w 137, 3) := oo_20 (b1 := 0) (b2 := 137) rfl (dl3 b_dX10_spend_0 21 rfl)
theorem dX10_spend_46 : decode cX10_spend 46 = .ok (.lreturn, 1) := oo_173 (dl3 b_dX10_spend_0 22 rfl)
theorem dX10_spend_47 : decode cX10_spend 47 = .ok (.iload_n 2, 1) := oo_28 (dl3 b_dX10_spend_0 23 rfl)
theorem dX10_spend_48 : decode cX10_spend 48 = .ok (.ifCond .ne 21, 3) := oo_154 (b1 := 0) (b2 := 21) rfl (dl3 b_dX10_spend_0 24 rfl)
theorem dX10_spend_51 : decode cX10_spend 51 = .ok (.aload 4, 2) := oo_25 (b1 := 4) (dl3 b_dX10_spend_0 25 rfl)
theorem dX10_spend_53 : decode cX10_spend 53 = .ok (.dup, 1) := oo_89 (dl3 b_dX10_spend_0 26 rfl)
theorem dX10_spend_54 : decode cX10_spend 54 = .ok (.getfield 253, 3) := oo_180 (b1 := 0) (b2 := 253) rfl (dl3 b_dX10_spend_0 27 rfl)
theorem dX10_spend_57 : decode cX10_spend 57 = .ok (.iload_n 3, 1) := oo_29 (dl3 b_dX10_spend_0 28 rfl)
theorem dX10_spend_58 : decode cX10_spend 58 = .ok (.i2l, 1) := oo_133 (dl3 b_dX10_spend_0 29 rfl)
theorem dX10_spend_59 : decode cX10_spend 59 = .ok (.ladd, 1) := oo_97 (dl3 b_dX10_spend_0 30 rfl)
theorem dX10_spend_60 : decode cX10_spend 60 = .ok (.putfield 253, 3) := oo_181 (b1 := 0) (b2 := 253) rfl (dl3 b_dX10_spend_0 31 rfl)
theorem dX10_spend_63 : decode cX10_spend 63 = .ok (.aload 4, 2) := oo_25 (b1 := 4) (dl3 b_dX10_spend_0 32 rfl)
theorem dX10_spend_65 : decode cX10_spend 65 = .ok (.getfield 253, 3) := oo_180 (b1 := 0) (b2 := 253) rfl (dl3 b_dX10_spend_0 33 rfl)
theorem dX10_spend_68 : decode cX10_spend 68 = .ok (.lreturn, 1) := oo_173 (dl3 b_dX10_spend_0 34 rfl)
theorem dX10_spend_69 : decode cX10_spend 69 = .ok (.aload 4, 2) := oo_25 (b1 := 4) (dl3 b_dX10_spend_0 35 rfl)
theorem dX10_spend_71 : decode cX10_spend 71 = .ok (.dup, 1) := oo_89 (dl3 b_dX10_spend_0 36 rfl)
theorem dX10_spend_72 : decode cX10_spend 72 = .ok (.getfield 256, 3) := oo_180 (b1 := 1) (b2 := 0) rfl (dl3 b_dX10_spend_0 37 rfl)
theorem dX10_spend_75 : decode cX10_spend 75 = .ok (.iload_n 3, 1) := oo_29 (dl3 b_dX10_spend_0 38 rfl)
theorem dX10_spend_76 : decode cX10_spend 76 = .ok (.i2l, 1) := oo_133 (dl3 b_dX10_spend_0 39 rfl)
theorem dX10_spend_77 : decode cX10_spend 77 = .ok (.ladd, 1) := oo_97 (dl3 b_dX10_spend_0 40 rfl)
theorem dX10_spend_78 : decode cX10_spend 78 = .ok (.putfield 256, 3) := oo_181 (b1 := 1) (b2 := 0) rfl (dl3 b_dX10_spend_0 41 rfl)
theorem dX10_spend_81 : decode cX10_spend 81 = .ok (.aload 4, 2) := oo_25 (b1 := 4) (dl3 b_dX10_spend_0 42 rfl)
theorem dX10_spend_83 : decode cX10_spend 83 = .ok (.getfield 256, 3) := oo_180 (b1 := 1) (b2 := 0) rfl (dl3 b_dX10_spend_0 43 rfl)
theorem dX10_spend_86 : decode cX10_spend 86 = .ok (.lreturn, 1) := oo_173 (dl3 b_dX10_spend_0 44 rfl)
set_option maxRecDepth 20000 in
theorem ggX10_settle_X10_takeAt : GoodIn wsX10_settle wsX10_takeAt := goodIn_r _ [8, 9, 10, 11, 12, 7, 13, 77, 78, 79, 80, 81, 82, 83, 84, 85, 86, 87, 88, 89] rfl (by decide +kernel)
set_option maxRecDepth 20000 in
theorem gX10_settle_X10_takeAt : GoodIn wsX10_settle (wsV RX10 234 RX10 yX10_takeAt wsX10_takeAt) := goodIn_app (goodIn_r _ [4, 5, 6, 7] rfl (by decide +kernel)) ggX10_settle_X10_takeAt
set_option maxRecDepth 20000 in
theorem ggX10_settle_X8_end : GoodIn wsX10_settle wsX8_end := goodIn_r _ [18, 19, 20, 21, 22, 23, 24, 25, 26, 27, 28, 29, 30, 31, 32, 33, 34, 35, 36, 37, 38, 39, 40, 41, 42, 43, 44, 45, 46, 47, 48, 49, 50, 51, 52, 53, 54, 55, 56, 57, 58, 59, 60, 61, 62, 63, 64, 65, 66, 67, 68, 69, 70, 71, 72, 73, 74, 75, 76, 90, 91, 92, 93, 94, 95, 96, 97, 98, 99, 100, 101, 102, 103, 104, 105, 106, 107, 108, 109] rfl (by decide +kernel)
set_option maxRecDepth 20000 in
theorem gX10_settle_X8_end : GoodIn wsX10_settle (wsV RX10 259 RX8 yX8_end wsX8_end) := goodIn_app (goodIn_r _ [14, 15, 16, 17] rfl (by decide +kernel)) ggX10_settle_X8_end
def l_dX10_settle_0 : List (Nat × List Nat) := [(0, [42]), (1, [27]), (2, [182, 0, 234]), (5, [77]), (6, [44]), (7, [198, 0, 10]), (10, [44]), (11, [180, 0, 238]), (14, [153, 0, 7]), (17, [20, 0, 137]), (20, [173]), (21, [44]), (22, [182, 1, 3]), (25, [44]), (26, [180, 1, 6]), (29, [173])]
theorem b_dX10_settle_0 : chkB l_dX10_settle_0 0 (cX10_settle.data.toList.drop 0) = true := by decide +kernel
theorem dX10_settle_0 : decode cX10_settle 0 = .ok (.aload_n 0, 1) := oo_42 (dl3 b_dX10_settle_0 0 rfl)
theorem dX10_settle_1 : decode cX10_settle 1 = .ok (.iload_n 1, 1) := oo_27 (dl3 b_dX10_settle_0 1 rfl)
theorem dX10_settle_2 : decode cX10_settle 2 = .ok (.invokevirtual 234, 3) := oo_182 (b1 := 0) (b2 := 234) rfl (dl3 b_dX10_settle_0 2 rfl)
theorem dX10_settle_5 : decode cX10_settle 5 = .ok (.astore_n 2, 1) := oo_77 (dl3 b_dX10_settle_0 3 rfl)
theorem dX10_settle_6 : decode cX10_settle 6 = .ok (.aload_n 2, 1) := oo_44 (dl3 b_dX10_settle_0 4 rfl)
theorem dX10_settle_7 : decode cX10_settle 7 = .ok (.ifnull 10, 3) := oo_198 (b1 := 0) (b2 := 10) rfl (dl3 b_dX10_settle_0 5 rfl)
theorem dX10_settle_10 : decode cX10_settle 10 = .ok (.aload_n 2, 1) := oo_44 (dl3 b_dX10_settle_0 6 rfl)
theorem dX10_settle_11 : decode cX10_settle 11 = .ok (.getfield 238, 3) := oo_180 (b1 := 0) (b2 := 238) rfl (dl3 b_dX10_settle_0 7 rfl)
theorem dX10_settle_14 : decode cX10_settle 14 = .ok (.ifCond .eq 7, 3) := oo_153 (b1 := 0) (b2 := 7) rfl (dl3 b_dX10_settle_0 8 rfl)
theorem dX10_settle_17 : decode cX10_settle 17 = .ok (.ldc2_w 137, 3) := oo_20 (b1 := 0) (b2 := 137) rfl (dl3 b_dX10_settle_0 9 rfl)
theorem dX10_settle_20 : decode cX10_settle 20 = .ok (.lreturn, 1) := oo_173 (dl3 b_dX10_settle_0 10 rfl)
theorem dX10_settle_21 : decode cX10_settle 21 = .ok (.aload_n 2, 1) := oo_44 (dl3 b_dX10_settle_0 11 rfl)
theorem dX10_settle_22 : decode cX10_settle 22 = .ok (.invokevirtual 259, 3) := oo_182 (b1 := 1) (b2 := 3) rfl (dl3 b_dX10_settle_0 12 rfl)
theorem dX10_settle_25 : decode cX10_settle 25 = .ok (.aload_n 2, 1) := oo_44 (dl3 b_dX10_settle_0 13 rfl)
theorem dX10_settle_26 : decode cX10_settle 26 = .ok (.getfield 262, 3) := oo_180 (b1 := 1) (b2 := 6) rfl (dl3 b_dX10_settle_0 14 rfl)
theorem dX10_settle_29 : decode cX10_settle 29 = .ok (.lreturn, 1) := oo_173 (dl3 b_dX10_settle_0 15 rfl)
set_option maxRecDepth 20000 in
theorem ggX10_taken_X10_takeAt : GoodIn wsX10_taken wsX10_takeAt := goodIn_r _ [12, 13, 14, 15, 16, 11, 17, 50, 51, 52, 53, 54, 55, 56, 57, 58, 59, 60, 61, 62] rfl (by decide +kernel)
set_option maxRecDepth 20000 in
theorem gX10_taken_X10_takeAt : GoodIn wsX10_taken (wsV RX10 234 RX10 yX10_takeAt wsX10_takeAt) := goodIn_app (goodIn_r _ [8, 9, 10, 11] rfl (by decide +kernel)) ggX10_taken_X10_takeAt
def l_dX10_taken_0 : List (Nat × List Nat) := [(0, [42]), (1, [27]), (2, [182, 0, 234]), (5, [78]), (6, [45]), (7, [199, 0, 5]), (10, [2]), (11, [172]), (12, [28])]
theorem b_dX10_taken_0 : chkB l_dX10_taken_0 0 (cX10_taken.data.toList.drop 0) = true := by decide +kernel
theorem dX10_taken_0 : decode cX10_taken 0 = .ok (.aload_n 0, 1) := oo_42 (dl3 b_dX10_taken_0 0 rfl)
theorem dX10_taken_1 : decode cX10_taken 1 = .ok (.iload_n 1, 1) := oo_27 (dl3 b_dX10_taken_0 1 rfl)
theorem dX10_taken_2 : decode cX10_taken 2 = .ok (.invokevirtual 234, 3) := oo_182 (b1 := 0) (b2 := 234) rfl (dl3 b_dX10_taken_0 2 rfl)
theorem dX10_taken_5 : decode cX10_taken 5 = .ok (.astore_n 3, 1) := oo_78 (dl3 b_dX10_taken_0 3 rfl)
theorem dX10_taken_6 : decode cX10_taken 6 = .ok (.aload_n 3, 1) := oo_45 (dl3 b_dX10_taken_0 4 rfl)
theorem dX10_taken_7 : decode cX10_taken 7 = .ok (.ifnonnull 5, 3) := oo_199 (b1 := 0) (b2 := 5) rfl (dl3 b_dX10_taken_0 5 rfl)
theorem dX10_taken_10 : decode cX10_taken 10 = .ok (.iconst (-1), 1) := oo_2 (dl3 b_dX10_taken_0 6 rfl)
theorem dX10_taken_11 : decode cX10_taken 11 = .ok (.ireturn, 1) := oo_172 (dl3 b_dX10_taken_0 7 rfl)
theorem dX10_taken_12 : decode cX10_taken 12 = .ok (.iload_n 2, 1) := oo_28 (dl3 b_dX10_taken_0 8 rfl)
theorem dX10_taken_13 : decode cX10_taken 13 = .ok (.tableswitch 74 0 4 #[35, 43, 51, 56, 69], 35) := by decide +kernel
def l_dX10_taken_48 : List (Nat × List Nat) := [(48, [45]), (49, [180, 1, 9]), (52, [180, 1, 12]), (55, [172]), (56, [45]), (57, [180, 0, 245]), (60, [180, 1, 13]), (63, [172]), (64, [45]), (65, [180, 1, 14]), (68, [172]), (69, [45]), (70, [180, 0, 238]), (73, [153, 0, 7]), (76, [4]), (77, [167, 0, 4]), (80, [3]), (81, [172]), (82, [45]), (83, [180, 0, 247]), (86, [172]), (87, [16, 254]), (89, [172])]
theorem b_dX10_taken_48 : chkB l_dX10_taken_48 48 (cX10_taken.data.toList.drop 48) = true := by decide +kernel
theorem dX10_taken_48 : decode cX10_taken 48 = .ok (.aload_n 3, 1) := oo_45 (dl3 b_dX10_taken_48 0 rfl)
theorem dX10_taken_49 : decode cX10_taken 49 = .ok (.getfield 265, 3) := oo_180 (b1 := 1) (b2 := 9) rfl (dl3 b_dX10_taken_48 1 rfl)
theorem dX10_taken_52 : decode cX10_taken 52 = .ok (.getfield 268, 3) := oo_180 (b1 := 1) (b2 := 12) rfl (dl3 b_dX10_taken_48 2 rfl)
theorem dX10_taken_55 : decode cX10_taken 55 = .ok (.ireturn, 1) := oo_172 (dl3 b_dX10_taken_48 3 rfl)
theorem dX10_taken_56 : decode cX10_taken 56 = .ok (.aload_n 3, 1) := oo_45 (dl3 b_dX10_taken_48 4 rfl)
theorem dX10_taken_57 : decode cX10_taken 57 = .ok (.getfield 245, 3) := oo_180 (b1 := 0) (b2 := 245) rfl (dl3 b_dX10_taken_48 5 rfl)
theorem dX10_taken_60 : decode cX10_taken 60 = .ok (.getfield 269, 3) := oo_180 (b1 := 1) (b2 := 13) rfl (dl3 b_dX10_taken_48 6 rfl)
theorem dX10_taken_63 : decode cX10_taken 63 = .ok (.ireturn, 1) := oo_172 (dl3 b_dX10_taken_48 7 rfl)
theorem dX10_taken_64 : decode cX10_taken 64 = .ok (.aload_n 3, 1) := oo_45 (dl3 b_dX10_taken_48 8 rfl)
theorem dX10_taken_65 : decode cX10_taken 65 = .ok (.getfield 270, 3) := oo_180 (b1 := 1) (b2 := 14) rfl (dl3 b_dX10_taken_48 9 rfl)
theorem dX10_taken_68 : decode cX10_taken 68 = .ok (.ireturn, 1) := oo_172 (dl3 b_dX10_taken_48 10 rfl)
theorem dX10_taken_69 : decode cX10_taken 69 = .ok (.aload_n 3, 1) := oo_45 (dl3 b_dX10_taken_48 11 rfl)
theorem dX10_taken_70 : decode cX10_taken 70 = .ok (.getfield 238, 3) := oo_180 (b1 := 0) (b2 := 238) rfl (dl3 b_dX10_taken_48 12 rfl)
theorem dX10_taken_73 : decode cX10_taken 73 = .ok (.ifCond .eq 7, 3) := oo_153 (b1 := 0) (b2 := 7) rfl (dl3 b_dX10_taken_48 13 rfl)
theorem dX10_taken_76 : decode cX10_taken 76 = .ok (.iconst 1, 1) := oo_4 (dl3 b_dX10_taken_48 14 rfl)
theorem dX10_taken_77 : decode cX10_taken 77 = .ok (.goto 4, 3) := oo_167 (b1 := 0) (b2 := 4) rfl (dl3 b_dX10_taken_48 15 rfl)
theorem dX10_taken_80 : decode cX10_taken 80 = .ok (.iconst 0, 1) := oo_3 (dl3 b_dX10_taken_48 16 rfl)
theorem dX10_taken_81 : decode cX10_taken 81 = .ok (.ireturn, 1) := oo_172 (dl3 b_dX10_taken_48 17 rfl)
theorem dX10_taken_82 : decode cX10_taken 82 = .ok (.aload_n 3, 1) := oo_45 (dl3 b_dX10_taken_48 18 rfl)
theorem dX10_taken_83 : decode cX10_taken 83 = .ok (.getfield 247, 3) := oo_180 (b1 := 0) (b2 := 247) rfl (dl3 b_dX10_taken_48 19 rfl)
theorem dX10_taken_86 : decode cX10_taken 86 = .ok (.ireturn, 1) := oo_172 (dl3 b_dX10_taken_48 20 rfl)
theorem dX10_taken_87 : decode cX10_taken 87 = .ok (.bipush (-2), 2) := oo_16 (b1 := 254) rfl (dl3 b_dX10_taken_48 21 rfl)
theorem dX10_taken_89 : decode cX10_taken 89 = .ok (.ireturn, 1) := oo_172 (dl3 b_dX10_taken_48 22 rfl)
set_option maxRecDepth 20000 in
theorem ggX10_money_X10_takeAt : GoodIn wsX10_money wsX10_takeAt := goodIn_r _ [12, 13, 14, 15, 16, 11, 17, 30, 31, 32, 33, 34, 35, 36, 37, 38, 39, 40, 41, 42] rfl (by decide +kernel)
set_option maxRecDepth 20000 in
theorem gX10_money_X10_takeAt : GoodIn wsX10_money (wsV RX10 234 RX10 yX10_takeAt wsX10_takeAt) := goodIn_app (goodIn_r _ [8, 9, 10, 11] rfl (by decide +kernel)) ggX10_money_X10_takeAt
def l_dX10_money_0 : List (Nat × List Nat) := [(0, [42]), (1, [27]), (2, [182, 0, 234]), (5, [78]), (6, [45]), (7, [199, 0, 7]), (10, [20, 0, 137]), (13, [173]), (14, [28])]
theorem b_dX10_money_0 : chkB l_dX10_money_0 0 (cX10_money.data.toList.drop 0) = true := by decide +kernel
theorem dX10_money_0 : decode cX10_money 0 = .ok (.aload_n 0, 1) := oo_42 (dl3 b_dX10_money_0 0 rfl)
theorem dX10_money_1 : decode cX10_money 1 = .ok (.iload_n 1, 1) := oo_27 (dl3 b_dX10_money_0 1 rfl)
theorem dX10_money_2 : decode cX10_money 2 = .ok (.invokevirtual 234, 3) := oo_182 (b1 := 0) (b2 := 234) rfl (dl3 b_dX10_money_0 2 rfl)
theorem dX10_money_5 : decode cX10_money 5 = .ok (.astore_n 3, 1) := oo_78 (dl3 b_dX10_money_0 3 rfl)
theorem dX10_money_6 : decode cX10_money 6 = .ok (.aload_n 3, 1) := oo_45 (dl3 b_dX10_money_0 4 rfl)
theorem dX10_money_7 : decode cX10_money 7 = .ok (.ifnonnull 7, 3) := oo_199 (b1 := 0) (b2 := 7) rfl (dl3 b_dX10_money_0 5 rfl)
theorem dX10_money_10 : decode cX10_money 10 = .ok (.ldc2_w 137, 3) := oo_20 (b1 := 0) (b2 := 137) rfl (dl3 b_dX10_money_0 6 rfl)
theorem dX10_money_13 : decode cX10_money 13 = .ok (.lreturn, 1) := oo_173 (dl3 b_dX10_money_0 7 rfl)
theorem dX10_money_14 : decode cX10_money 14 = .ok (.iload_n 2, 1) := oo_28 (dl3 b_dX10_money_0 8 rfl)
theorem dX10_money_15 : decode cX10_money 15 = .ok (.tableswitch 67 0 5 #[37, 42, 47, 52, 57, 62], 37) := by decide +kernel
def l_dX10_money_52 : List (Nat × List Nat) := [(52, [45]), (53, [180, 0, 249]), (56, [173]), (57, [45]), (58, [180, 0, 253]), (61, [173]), (62, [45]), (63, [180, 1, 0]), (66, [173]), (67, [45]), (68, [180, 1, 6]), (71, [173]), (72, [45]), (73, [180, 0, 203]), (76, [173]), (77, [45]), (78, [180, 0, 207]), (81, [173]), (82, [20, 0, 137]), (85, [173])]
theorem b_dX10_money_52 : chkB l_dX10_money_52 52 (cX10_money.data.toList.drop 52) = true := by decide +kernel
theorem dX10_money_52 : decode cX10_money 52 = .ok (.aload_n 3, 1) := oo_45 (dl3 b_dX10_money_52 0 rfl)
theorem dX10_money_53 : decode cX10_money 53 = .ok (.getfield 249, 3) := oo_180 (b1 := 0) (b2 := 249) rfl (dl3 b_dX10_money_52 1 rfl)
theorem dX10_money_56 : decode cX10_money 56 = .ok (.lreturn, 1) := oo_173 (dl3 b_dX10_money_52 2 rfl)
theorem dX10_money_57 : decode cX10_money 57 = .ok (.aload_n 3, 1) := oo_45 (dl3 b_dX10_money_52 3 rfl)
theorem dX10_money_58 : decode cX10_money 58 = .ok (.getfield 253, 3) := oo_180 (b1 := 0) (b2 := 253) rfl (dl3 b_dX10_money_52 4 rfl)
theorem dX10_money_61 : decode cX10_money 61 = .ok (.lreturn, 1) := oo_173 (dl3 b_dX10_money_52 5 rfl)
theorem dX10_money_62 : decode cX10_money 62 = .ok (.aload_n 3, 1) := oo_45 (dl3 b_dX10_money_52 6 rfl)
theorem dX10_money_63 : decode cX10_money 63 = .ok (.getfield 256, 3) := oo_180 (b1 := 1) (b2 := 0) rfl (dl3 b_dX10_money_52 7 rfl)
theorem dX10_money_66 : decode cX10_money 66 = .ok (.lreturn, 1) := oo_173 (dl3 b_dX10_money_52 8 rfl)
theorem dX10_money_67 : decode cX10_money 67 = .ok (.aload_n 3, 1) := oo_45 (dl3 b_dX10_money_52 9 rfl)
theorem dX10_money_68 : decode cX10_money 68 = .ok (.getfield 262, 3) := oo_180 (b1 := 1) (b2 := 6) rfl (dl3 b_dX10_money_52 10 rfl)
theorem dX10_money_71 : decode cX10_money 71 = .ok (.lreturn, 1) := oo_173 (dl3 b_dX10_money_52 11 rfl)
theorem dX10_money_72 : decode cX10_money 72 = .ok (.aload_n 3, 1) := oo_45 (dl3 b_dX10_money_52 12 rfl)
theorem dX10_money_73 : decode cX10_money 73 = .ok (.getfield 203, 3) := oo_180 (b1 := 0) (b2 := 203) rfl (dl3 b_dX10_money_52 13 rfl)
theorem dX10_money_76 : decode cX10_money 76 = .ok (.lreturn, 1) := oo_173 (dl3 b_dX10_money_52 14 rfl)
theorem dX10_money_77 : decode cX10_money 77 = .ok (.aload_n 3, 1) := oo_45 (dl3 b_dX10_money_52 15 rfl)
theorem dX10_money_78 : decode cX10_money 78 = .ok (.getfield 207, 3) := oo_180 (b1 := 0) (b2 := 207) rfl (dl3 b_dX10_money_52 16 rfl)
theorem dX10_money_81 : decode cX10_money 81 = .ok (.lreturn, 1) := oo_173 (dl3 b_dX10_money_52 17 rfl)
theorem dX10_money_82 : decode cX10_money 82 = .ok (.ldc2_w 137, 3) := oo_20 (b1 := 0) (b2 := 137) rfl (dl3 b_dX10_money_52 18 rfl)
theorem dX10_money_85 : decode cX10_money 85 = .ok (.lreturn, 1) := oo_173 (dl3 b_dX10_money_52 19 rfl)
set_option maxRecDepth 20000 in
theorem ggX10_debt_X10_gangAt : GoodIn wsX10_debt wsX10_gangAt := goodIn_r _ [7, 8, 9, 10, 11, 6, 12, 25, 26, 27, 28, 29, 30, 31, 32, 33, 34, 35, 36, 37] rfl (by decide +kernel)
set_option maxRecDepth 20000 in
theorem gX10_debt_X10_gangAt : GoodIn wsX10_debt (wsV RX10 172 RX10 yX10_gangAt wsX10_gangAt) := goodIn_app (goodIn_r _ [3, 4, 5, 6] rfl (by decide +kernel)) ggX10_debt_X10_gangAt
def l_dX10_debt_0 : List (Nat × List Nat) := [(0, [42]), (1, [27]), (2, [182, 0, 172]), (5, [77]), (6, [44]), (7, [199, 0, 9]), (10, [20, 0, 137]), (13, [167, 0, 7]), (16, [44]), (17, [180, 1, 15]), (20, [173])]
theorem b_dX10_debt_0 : chkB l_dX10_debt_0 0 (cX10_debt.data.toList.drop 0) = true := by decide +kernel
theorem dX10_debt_0 : decode cX10_debt 0 = .ok (.aload_n 0, 1) := oo_42 (dl3 b_dX10_debt_0 0 rfl)
theorem dX10_debt_1 : decode cX10_debt 1 = .ok (.iload_n 1, 1) := oo_27 (dl3 b_dX10_debt_0 1 rfl)
theorem dX10_debt_2 : decode cX10_debt 2 = .ok (.invokevirtual 172, 3) := oo_182 (b1 := 0) (b2 := 172) rfl (dl3 b_dX10_debt_0 2 rfl)
theorem dX10_debt_5 : decode cX10_debt 5 = .ok (.astore_n 2, 1) := oo_77 (dl3 b_dX10_debt_0 3 rfl)
theorem dX10_debt_6 : decode cX10_debt 6 = .ok (.aload_n 2, 1) := oo_44 (dl3 b_dX10_debt_0 4 rfl)
theorem dX10_debt_7 : decode cX10_debt 7 = .ok (.ifnonnull 9, 3) := oo_199 (b1 := 0) (b2 := 9) rfl (dl3 b_dX10_debt_0 5 rfl)
theorem dX10_debt_10 : decode cX10_debt 10 = .ok (.ldc2_w 137, 3) := oo_20 (b1 := 0) (b2 := 137) rfl (dl3 b_dX10_debt_0 6 rfl)
theorem dX10_debt_13 : decode cX10_debt 13 = .ok (.goto 7, 3) := oo_167 (b1 := 0) (b2 := 7) rfl (dl3 b_dX10_debt_0 7 rfl)
theorem dX10_debt_16 : decode cX10_debt 16 = .ok (.aload_n 2, 1) := oo_44 (dl3 b_dX10_debt_0 8 rfl)
theorem dX10_debt_17 : decode cX10_debt 17 = .ok (.getfield 271, 3) := oo_180 (b1 := 1) (b2 := 15) rfl (dl3 b_dX10_debt_0 9 rfl)
theorem dX10_debt_20 : decode cX10_debt 20 = .ok (.lreturn, 1) := oo_173 (dl3 b_dX10_debt_0 10 rfl)
set_option maxRecDepth 20000 in
theorem ggX10_suspects_X5_isSuspect : GoodIn wsX10_suspects wsX5_isSuspect := goodIn_r _ [8, 9, 10, 11, 12, 13, 14, 15, 16, 17, 18, 19, 20, 21, 22, 23, 24, 25, 26, 27, 28, 42, 43, 44, 45, 46, 47, 48, 49, 50, 51, 52, 53, 54, 55, 56] rfl (by decide +kernel)
set_option maxRecDepth 20000 in
theorem gX10_suspects_X5_isSuspect : GoodIn wsX10_suspects (wsV RX10 274 RX5 yX5_isSuspect wsX5_isSuspect) := goodIn_app (goodIn_r _ [4, 5, 6, 7] rfl (by decide +kernel)) ggX10_suspects_X5_isSuspect
def l_dX10_suspects_0 : List (Nat × List Nat) := [(0, [3]), (1, [60]), (2, [3]), (3, [61]), (4, [28]), (5, [42]), (6, [180, 0, 242]), (9, [162, 0, 28]), (12, [42]), (13, [180, 0, 38]), (16, [28]), (17, [50]), (18, [42]), (19, [180, 0, 12]), (22, [182, 1, 18]), (25, [153, 0, 6]), (28, [132, 1, 1]), (31, [132, 2, 1]), (34, [167, 255, 226]), (37, [27]), (38, [172])]
theorem b_dX10_suspects_0 : chkB l_dX10_suspects_0 0 (cX10_suspects.data.toList.drop 0) = true := by decide +kernel
theorem dX10_suspects_0 : decode cX10_suspects 0 = .ok (.iconst 0, 1) := oo_3 (dl3 b_dX10_suspects_0 0 rfl)
theorem dX10_suspects_1 : decode cX10_suspects 1 = .ok (.istore_n 1, 1) := oo_60 (dl3 b_dX10_suspects_0 1 rfl)
theorem dX10_suspects_2 : decode cX10_suspects 2 = .ok (.iconst 0, 1) := oo_3 (dl3 b_dX10_suspects_0 2 rfl)
theorem dX10_suspects_3 : decode cX10_suspects 3 = .ok (.istore_n 2, 1) := oo_61 (dl3 b_dX10_suspects_0 3 rfl)
theorem dX10_suspects_4 : decode cX10_suspects 4 = .ok (.iload_n 2, 1) := oo_28 (dl3 b_dX10_suspects_0 4 rfl)
theorem dX10_suspects_5 : decode cX10_suspects 5 = .ok (.aload_n 0, 1) := oo_42 (dl3 b_dX10_suspects_0 5 rfl)
theorem dX10_suspects_6 : decode cX10_suspects 6 = .ok (.getfield 242, 3) := oo_180 (b1 := 0) (b2 := 242) rfl (dl3 b_dX10_suspects_0 6 rfl)
theorem dX10_suspects_9 : decode cX10_suspects 9 = .ok (.if_icmp .ge 28, 3) := oo_162 (b1 := 0) (b2 := 28) rfl (dl3 b_dX10_suspects_0 7 rfl)
theorem dX10_suspects_12 : decode cX10_suspects 12 = .ok (.aload_n 0, 1) := oo_42 (dl3 b_dX10_suspects_0 8 rfl)
theorem dX10_suspects_13 : decode cX10_suspects 13 = .ok (.getfield 38, 3) := oo_180 (b1 := 0) (b2 := 38) rfl (dl3 b_dX10_suspects_0 9 rfl)
theorem dX10_suspects_16 : decode cX10_suspects 16 = .ok (.iload_n 2, 1) := oo_28 (dl3 b_dX10_suspects_0 10 rfl)
theorem dX10_suspects_17 : decode cX10_suspects 17 = .ok (.aaload, 1) := oo_50 (dl3 b_dX10_suspects_0 11 rfl)
theorem dX10_suspects_18 : decode cX10_suspects 18 = .ok (.aload_n 0, 1) := oo_42 (dl3 b_dX10_suspects_0 12 rfl)
theorem dX10_suspects_19 : decode cX10_suspects 19 = .ok (.getfield 12, 3) := oo_180 (b1 := 0) (b2 := 12) rfl (dl3 b_dX10_suspects_0 13 rfl)
theorem dX10_suspects_22 : decode cX10_suspects 22 = .ok (.invokevirtual 274, 3) := oo_182 (b1 := 1) (b2 := 18) rfl (dl3 b_dX10_suspects_0 14 rfl)
theorem dX10_suspects_25 : decode cX10_suspects 25 = .ok (.ifCond .eq 6, 3) := oo_153 (b1 := 0) (b2 := 6) rfl (dl3 b_dX10_suspects_0 15 rfl)
theorem dX10_suspects_28 : decode cX10_suspects 28 = .ok (.iinc 1 1, 3) := oo_132 (b1 := 1) (b2 := 1) rfl (dl3 b_dX10_suspects_0 16 rfl)
theorem dX10_suspects_31 : decode cX10_suspects 31 = .ok (.iinc 2 1, 3) := oo_132 (b1 := 2) (b2 := 1) rfl (dl3 b_dX10_suspects_0 17 rfl)
theorem dX10_suspects_34 : decode cX10_suspects 34 = .ok (.goto (-30), 3) := oo_167 (b1 := 255) (b2 := 226) rfl (dl3 b_dX10_suspects_0 18 rfl)
theorem dX10_suspects_37 : decode cX10_suspects 37 = .ok (.iload_n 1, 1) := oo_27 (dl3 b_dX10_suspects_0 19 rfl)
theorem dX10_suspects_38 : decode cX10_suspects 38 = .ok (.ireturn, 1) := oo_172 (dl3 b_dX10_suspects_0 20 rfl)
set_option maxRecDepth 20000 in
theorem ggX10_suspect_X5_isSuspect : GoodIn wsX10_suspect wsX5_isSuspect := goodIn_r _ [8, 9, 10, 11, 12, 13, 14, 15, 16, 17, 18, 19, 20, 21, 22, 23, 24, 25, 26, 27, 28, 42, 43, 44, 45, 46, 47, 48, 49, 50, 51, 52, 53, 54, 55, 56] rfl (by decide +kernel)
set_option maxRecDepth 20000 in
theorem gX10_suspect_X5_isSuspect : GoodIn wsX10_suspect (wsV RX10 274 RX5 yX5_isSuspect wsX5_isSuspect) := goodIn_app (goodIn_r _ [4, 5, 6, 7] rfl (by decide +kernel)) ggX10_suspect_X5_isSuspect
def l_dX10_suspect_0 : List (Nat × List Nat) := [(0, [3]), (1, [61]), (2, [3]), (3, [62]), (4, [29]), (5, [42]), (6, [180, 0, 242]), (9, [162, 0, 38]), (12, [42]), (13, [180, 0, 38]), (16, [29]), (17, [50]), (18, [42]), (19, [180, 0, 12]), (22, [182, 1, 18]), (25, [154, 0, 6]), (28, [167, 0, 13]), (31, [28]), (32, [27]), (33, [160, 0, 5]), (36, [29]), (37, [172]), (38, [132, 2, 1]), (41, [132, 3, 1]), (44, [167, 255, 216]), (47, [2]), (48, [172])]
theorem b_dX10_suspect_0 : chkB l_dX10_suspect_0 0 (cX10_suspect.data.toList.drop 0) = true := by decide +kernel
theorem dX10_suspect_0 : decode cX10_suspect 0 = .ok (.iconst 0, 1) := oo_3 (dl3 b_dX10_suspect_0 0 rfl)
theorem dX10_suspect_1 : decode cX10_suspect 1 = .ok (.istore_n 2, 1) := oo_61 (dl3 b_dX10_suspect_0 1 rfl)
theorem dX10_suspect_2 : decode cX10_suspect 2 = .ok (.iconst 0, 1) := oo_3 (dl3 b_dX10_suspect_0 2 rfl)
theorem dX10_suspect_3 : decode cX10_suspect 3 = .ok (.istore_n 3, 1) := oo_62 (dl3 b_dX10_suspect_0 3 rfl)
theorem dX10_suspect_4 : decode cX10_suspect 4 = .ok (.iload_n 3, 1) := oo_29 (dl3 b_dX10_suspect_0 4 rfl)
theorem dX10_suspect_5 : decode cX10_suspect 5 = .ok (.aload_n 0, 1) := oo_42 (dl3 b_dX10_suspect_0 5 rfl)
theorem dX10_suspect_6 : decode cX10_suspect 6 = .ok (.getfield 242, 3) := oo_180 (b1 := 0) (b2 := 242) rfl (dl3 b_dX10_suspect_0 6 rfl)
theorem dX10_suspect_9 : decode cX10_suspect 9 = .ok (.if_icmp .ge 38, 3) := oo_162 (b1 := 0) (b2 := 38) rfl (dl3 b_dX10_suspect_0 7 rfl)
theorem dX10_suspect_12 : decode cX10_suspect 12 = .ok (.aload_n 0, 1) := oo_42 (dl3 b_dX10_suspect_0 8 rfl)
theorem dX10_suspect_13 : decode cX10_suspect 13 = .ok (.getfield 38, 3) := oo_180 (b1 := 0) (b2 := 38) rfl (dl3 b_dX10_suspect_0 9 rfl)
theorem dX10_suspect_16 : decode cX10_suspect 16 = .ok (.iload_n 3, 1) := oo_29 (dl3 b_dX10_suspect_0 10 rfl)
theorem dX10_suspect_17 : decode cX10_suspect 17 = .ok (.aaload, 1) := oo_50 (dl3 b_dX10_suspect_0 11 rfl)
theorem dX10_suspect_18 : decode cX10_suspect 18 = .ok (.aload_n 0, 1) := oo_42 (dl3 b_dX10_suspect_0 12 rfl)
theorem dX10_suspect_19 : decode cX10_suspect 19 = .ok (.getfield 12, 3) := oo_180 (b1 := 0) (b2 := 12) rfl (dl3 b_dX10_suspect_0 13 rfl)
theorem dX10_suspect_22 : decode cX10_suspect 22 = .ok (.invokevirtual 274, 3) := oo_182 (b1 := 1) (b2 := 18) rfl (dl3 b_dX10_suspect_0 14 rfl)
theorem dX10_suspect_25 : decode cX10_suspect 25 = .ok (.ifCond .ne 6, 3) := oo_154 (b1 := 0) (b2 := 6) rfl (dl3 b_dX10_suspect_0 15 rfl)
theorem dX10_suspect_28 : decode cX10_suspect 28 = .ok (.goto 13, 3) := oo_167 (b1 := 0) (b2 := 13) rfl (dl3 b_dX10_suspect_0 16 rfl)
theorem dX10_suspect_31 : decode cX10_suspect 31 = .ok (.iload_n 2, 1) := oo_28 (dl3 b_dX10_suspect_0 17 rfl)
theorem dX10_suspect_32 : decode cX10_suspect 32 = .ok (.iload_n 1, 1) := oo_27 (dl3 b_dX10_suspect_0 18 rfl)
theorem dX10_suspect_33 : decode cX10_suspect 33 = .ok (.if_icmp .ne 5, 3) := oo_160 (b1 := 0) (b2 := 5) rfl (dl3 b_dX10_suspect_0 19 rfl)
theorem dX10_suspect_36 : decode cX10_suspect 36 = .ok (.iload_n 3, 1) := oo_29 (dl3 b_dX10_suspect_0 20 rfl)
theorem dX10_suspect_37 : decode cX10_suspect 37 = .ok (.ireturn, 1) := oo_172 (dl3 b_dX10_suspect_0 21 rfl)
theorem dX10_suspect_38 : decode cX10_suspect 38 = .ok (.iinc 2 1, 3) := oo_132 (b1 := 2) (b2 := 1) rfl (dl3 b_dX10_suspect_0 22 rfl)
theorem dX10_suspect_41 : decode cX10_suspect 41 = .ok (.iinc 3 1, 3) := oo_132 (b1 := 3) (b2 := 1) rfl (dl3 b_dX10_suspect_0 23 rfl)
theorem dX10_suspect_44 : decode cX10_suspect 44 = .ok (.goto (-40), 3) := oo_167 (b1 := 255) (b2 := 216) rfl (dl3 b_dX10_suspect_0 24 rfl)
theorem dX10_suspect_47 : decode cX10_suspect 47 = .ok (.iconst (-1), 1) := oo_2 (dl3 b_dX10_suspect_0 25 rfl)
theorem dX10_suspect_48 : decode cX10_suspect 48 = .ok (.ireturn, 1) := oo_172 (dl3 b_dX10_suspect_0 26 rfl)
set_option maxRecDepth 20000 in
theorem ggX10_skill_X10_gangAt : GoodIn wsX10_skill wsX10_gangAt := goodIn_r _ [14, 15, 16, 17, 18, 13, 19, 23, 24, 25, 26, 27, 28, 29, 30, 31, 32, 33, 34, 35] rfl (by decide +kernel)
set_option maxRecDepth 20000 in
theorem gX10_skill_X10_gangAt : GoodIn wsX10_skill (wsV RX10 172 RX10 yX10_gangAt wsX10_gangAt) := goodIn_app (goodIn_r _ [10, 11, 12, 13] rfl (by decide +kernel)) ggX10_skill_X10_gangAt
set_option maxRecDepth 20000 in
theorem ggX10_skill_X10_isWithin : GoodIn wsX10_skill wsX10_isWithin := goodIn_r _ [19] rfl (by decide +kernel)
set_option maxRecDepth 20000 in
theorem gX10_skill_X10_isWithin : GoodIn wsX10_skill (va_wsS RX10 64 yX10_isWithin wsX10_isWithin) := goodIn_app (goodIn_r _ [17, 18, 13] rfl (by decide +kernel)) ggX10_skill_X10_isWithin
set_option maxRecDepth 20000 in
theorem ggX10_skill_X10_commonDivisor : GoodIn wsX10_skill wsX10_commonDivisor := goodIn_r _ [22] rfl (by decide +kernel)
set_option maxRecDepth 20000 in
theorem gX10_skill_X10_commonDivisor : GoodIn wsX10_skill (va_wsS RX10 280 yX10_commonDivisor wsX10_commonDivisor) := goodIn_app (goodIn_r _ [20, 21, 13] rfl (by decide +kernel)) ggX10_skill_X10_commonDivisor
def l_dX10_skill_0 : List (Nat × List Nat) := [(0, [42]), (1, [27]), (2, [182, 0, 172]), (5, [78]), (6, [45]), (7, [198, 0, 12]), (10, [28]), (11, [3]), (12, [4]), (13, [184, 0, 64]), (16, [154, 0, 7]), (19, [20, 0, 137]), (22, [173]), (23, [9]), (24, [55, 4]), (26, [9]), (27, [55, 6]), (29, [3]), (30, [54, 8]), (32, [21, 8]), (34, [42]), (35, [180, 0, 197]), (38, [162, 0, 78]), (41, [42]), (42, [180, 0, 32]), (45, [21, 8]), (47, [50]), (48, [58, 9]), (50, [25, 9]), (52, [180, 1, 9]), (55, [45]), (56, [166, 0, 54]), (59, [25, 9]), (61, [180, 0, 238]), (64, [154, 0, 6]), (67, [167, 0, 43]), (70, [25, 9]), (72, [180, 0, 203]), (75, [25, 9]), (77, [180, 0, 207]), (80, [97]), (81, [55, 10]), (83, [22, 4]), (85, [22, 10]), (87, [20, 1, 22]), (90, [25, 9]), (92, [180, 0, 249]), (95, [105]), (96, [105]), (97, [97]), (98, [55, 4]), (100, [22, 6]), (102, [22, 10]), (104, [22, 10]), (106, [105]), (107, [97]), (108, [55, 6]), (110, [132, 8, 1]), (113, [167, 255, 175]), (116, [22, 4])]
theorem b_dX10_skill_0 : chkB l_dX10_skill_0 0 (cX10_skill.data.toList.drop 0) = true := by decide +kernel
theorem dX10_skill_0 : decode cX10_skill 0 = .ok (.aload_n 0, 1) := oo_42 (dl3 b_dX10_skill_0 0 rfl)
theorem dX10_skill_1 : decode cX10_skill 1 = .ok (.iload_n 1, 1) := oo_27 (dl3 b_dX10_skill_0 1 rfl)
theorem dX10_skill_2 : decode cX10_skill 2 = .ok (.invokevirtual 172, 3) := oo_182 (b1 := 0) (b2 := 172) rfl (dl3 b_dX10_skill_0 2 rfl)
theorem dX10_skill_5 : decode cX10_skill 5 = .ok (.astore_n 3, 1) := oo_78 (dl3 b_dX10_skill_0 3 rfl)
theorem dX10_skill_6 : decode cX10_skill 6 = .ok (.aload_n 3, 1) := oo_45 (dl3 b_dX10_skill_0 4 rfl)
theorem dX10_skill_7 : decode cX10_skill 7 = .ok (.ifnull 12, 3) := oo_198 (b1 := 0) (b2 := 12) rfl (dl3 b_dX10_skill_0 5 rfl)
theorem dX10_skill_10 : decode cX10_skill 10 = .ok (.iload_n 2, 1) := oo_28 (dl3 b_dX10_skill_0 6 rfl)
theorem dX10_skill_11 : decode cX10_skill 11 = .ok (.iconst 0, 1) := oo_3 (dl3 b_dX10_skill_0 7 rfl)
theorem dX10_skill_12 : decode cX10_skill 12 = .ok (.iconst 1, 1) := oo_4 (dl3 b_dX10_skill_0 8 rfl)
theorem dX10_skill_13 : decode cX10_skill 13 = .ok (.invokestatic 64, 3) := oo_184 (b1 := 0) (b2 := 64) rfl (dl3 b_dX10_skill_0 9 rfl)
theorem dX10_skill_16 : decode cX10_skill 16 = .ok (.ifCond .ne 7, 3) := oo_154 (b1 := 0) (b2 := 7) rfl (dl3 b_dX10_skill_0 10 rfl)
theorem dX10_skill_19 : decode cX10_skill 19 = .ok (.ldc2_w 137, 3) := oo_20 (b1 := 0) (b2 := 137) rfl (dl3 b_dX10_skill_0 11 rfl)
theorem dX10_skill_22 : decode cX10_skill 22 = .ok (.lreturn, 1) := oo_173 (dl3 b_dX10_skill_0 12 rfl)
theorem dX10_skill_23 : decode cX10_skill 23 = .ok (.lconst 0, 1) := oo_9 (dl3 b_dX10_skill_0 13 rfl)
theorem dX10_skill_24 : decode cX10_skill 24 = .ok (.lstore 4, 2) := oo_55 (b1 := 4) (dl3 b_dX10_skill_0 14 rfl)
theorem dX10_skill_26 : decode cX10_skill 26 = .ok (.lconst 0, 1) := oo_9 (dl3 b_dX10_skill_0 15 rfl)
theorem dX10_skill_27 : decode cX10_skill 27 = .ok (.lstore 6, 2) := oo_55 (b1 := 6) (dl3 b_dX10_skill_0 16 rfl)
theorem dX10_skill_29 : decode cX10_skill 29 = .ok (.iconst 0, 1) := oo_3 (dl3 b_dX10_skill_0 17 rfl)
theorem dX10_skill_30 : decode cX10_skill 30 = .ok (.istore 8, 2) := oo_54 (b1 := 8) (dl3 b_dX10_skill_0 18 rfl)
theorem dX10_skill_32 : decode cX10_skill 32 = .ok (.iload 8, 2) := oo_21 (b1 := 8) (dl3 b_dX10_skill_0 19 rfl)
theorem dX10_skill_34 : decode cX10_skill 34 = .ok (.aload_n 0, 1) := oo_42 (dl3 b_dX10_skill_0 20 rfl)
theorem dX10_skill_35 : decode cX10_skill 35 = .ok (.getfield 197, 3) := oo_180 (b1 := 0) (b2 := 197) rfl (dl3 b_dX10_skill_0 21 rfl)
theorem dX10_skill_38 : decode cX10_skill 38 = .ok (.if_icmp .ge 78, 3) := oo_162 (b1 := 0) (b2 := 78) rfl (dl3 b_dX10_skill_0 22 rfl)
theorem dX10_skill_41 : decode cX10_skill 41 = .ok (.aload_n 0, 1) := oo_42 (dl3 b_dX10_skill_0 23 rfl)
theorem dX10_skill_42 : decode cX10_skill 42 = .ok (.getfield 32, 3) := oo_180 (b1 := 0) (b2 := 32) rfl (dl3 b_dX10_skill_0 24 rfl)
theorem dX10_skill_45 : decode cX10_skill 45 = .ok (.iload 8, 2) := oo_21 (b1 := 8) (dl3 b_dX10_skill_0 25 rfl)
theorem dX10_skill_47 : decode cX10_skill 47 = .ok (.aaload, 1) := oo_50 (dl3 b_dX10_skill_0 26 rfl)
theorem dX10_skill_48 : decode cX10_skill 48 = .ok (.astore 9, 2) := oo_58 (b1 := 9) (dl3 b_dX10_skill_0 27 rfl)
theorem dX10_skill_50 : decode cX10_skill 50 = .ok (.aload 9, 2) := oo_25 (b1 := 9) (dl3 b_dX10_skill_0 28 rfl)
theorem dX10_skill_52 : decode cX10_skill 52 = .ok (.getfield 265, 3) := oo_180 (b1 := 1) (b2 := 9) rfl (dl3 b_dX10_skill_0 29 rfl)
theorem dX10_skill_55 : decode cX10_skill 55 = .ok (.aload_n 3, 1) := oo_45 (dl3 b_dX10_skill_0 30 rfl)
theorem dX10_skill_56 : decode cX10_skill 56 = .ok (.if_acmp .ne 54, 3) := oo_166 (b1 := 0) (b2 := 54) rfl (dl3 b_dX10_skill_0 31 rfl)
theorem dX10_skill_59 : decode cX10_skill 59 = .ok (.aload 9, 2) := oo_25 (b1 := 9) (dl3 b_dX10_skill_0 32 rfl)
theorem dX10_skill_61 : decode cX10_skill 61 = .ok (.getfield 238, 3) := oo_180 (b1 := 0) (b2 := 238) rfl (dl3 b_dX10_skill_0 33 rfl)
theorem dX10_skill_64 : decode cX10_skill 64 = .ok (.ifCond .ne 6, 3) := oo_154 (b1 := 0) (b2 := 6) rfl (dl3 b_dX10_skill_0 34 rfl)
theorem dX10_skill_67 : decode cX10_skill 67 = .ok (.goto 43, 3) := oo_167 (b1 := 0) (b2 := 43) rfl (dl3 b_dX10_skill_0 35 rfl)
theorem dX10_skill_70 : decode cX10_skill 70 = .ok (.aload 9, 2) := oo_25 (b1 := 9) (dl3 b_dX10_skill_0 36 rfl)
theorem dX10_skill_72 : decode cX10_skill 72 = .ok (.getfield 203, 3) := oo_180 (b1 := 0) (b2 := 203) rfl (dl3 b_dX10_skill_0 37 rfl)
theorem dX10_skill_75 : decode cX10_skill 75 = .ok (.aload 9, 2) := oo_25 (b1 := 9) (dl3 b_dX10_skill_0 38 rfl)
theorem dX10_skill_77 : decode cX10_skill 77 = .ok (.getfield 207, 3) := oo_180 (b1 := 0) (b2 := 207) rfl (dl3 b_dX10_skill_0 39 rfl)
theorem dX10_skill_80 : decode cX10_skill 80 = .ok (.ladd, 1) := oo_97 (dl3 b_dX10_skill_0 40 rfl)
theorem dX10_skill_81 : decode cX10_skill 81 = .ok (.lstore 10, 2) := oo_55 (b1 := 10) (dl3 b_dX10_skill_0 41 rfl)
theorem dX10_skill_83 : decode cX10_skill 83 = .ok (.lload 4, 2) := oo_22 (b1 := 4) (dl3 b_dX10_skill_0 42 rfl)
theorem dX10_skill_85 : decode cX10_skill 85 = .ok (.lload 10, 2) := oo_22 (b1 := 10) (dl3 b_dX10_skill_0 43 rfl)
theorem dX10_skill_87 : decode cX10_skill 87 = .ok (.ldc2_w 278, 3) := oo_20 (b1 := 1) (b2 := 22) rfl (dl3 b_dX10_skill_0 44 rfl)
theorem dX10_skill_90 : decode cX10_skill 90 = .ok (.aload 9, 2) := oo_25 (b1 := 9) (dl3 b_dX10_skill_0 45 rfl)
theorem dX10_skill_92 : decode cX10_skill 92 = .ok (.getfield 249, 3) := oo_180 (b1 := 0) (b2 := 249) rfl (dl3 b_dX10_skill_0 46 rfl)
theorem dX10_skill_95 : decode cX10_skill 95 = .ok (.lmul, 1) := oo_105 (dl3 b_dX10_skill_0 47 rfl)
theorem dX10_skill_96 : decode cX10_skill 96 = .ok (.lmul, 1) := oo_105 (dl3 b_dX10_skill_0 48 rfl)
theorem dX10_skill_97 : decode cX10_skill 97 = .ok (.ladd, 1) := oo_97 (dl3 b_dX10_skill_0 49 rfl)
theorem dX10_skill_98 : decode cX10_skill 98 = .ok (.lstore 4, 2) := oo_55 (b1 := 4) (dl3 b_dX10_skill_0 50 rfl)
theorem dX10_skill_100 : decode cX10_skill 100 = .ok (.lload 6, 2) := oo_22 (b1 := 6) (dl3 b_dX10_skill_0 51 rfl)
theorem dX10_skill_102 : decode cX10_skill 102 = .ok (.lload 10, 2) := oo_22 (b1 := 10) (dl3 b_dX10_skill_0 52 rfl)
theorem dX10_skill_104 : decode cX10_skill 104 = .ok (.lload 10, 2) := oo_22 (b1 := 10) (dl3 b_dX10_skill_0 53 rfl)
theorem dX10_skill_106 : decode cX10_skill 106 = .ok (.lmul, 1) := oo_105 (dl3 b_dX10_skill_0 54 rfl)
theorem dX10_skill_107 : decode cX10_skill 107 = .ok (.ladd, 1) := oo_97 (dl3 b_dX10_skill_0 55 rfl)
theorem dX10_skill_108 : decode cX10_skill 108 = .ok (.lstore 6, 2) := oo_55 (b1 := 6) (dl3 b_dX10_skill_0 56 rfl)
theorem dX10_skill_110 : decode cX10_skill 110 = .ok (.iinc 8 1, 3) := oo_132 (b1 := 8) (b2 := 1) rfl (dl3 b_dX10_skill_0 57 rfl)
theorem dX10_skill_113 : decode cX10_skill 113 = .ok (.goto (-81), 3) := oo_167 (b1 := 255) (b2 := 175) rfl (dl3 b_dX10_skill_0 58 rfl)
theorem dX10_skill_116 : decode cX10_skill 116 = .ok (.lload 4, 2) := oo_22 (b1 := 4) (dl3 b_dX10_skill_0 59 rfl)
def l_dX10_skill_118 : List (Nat × List Nat) := [(118, [22, 6]), (120, [184, 1, 24]), (123, [55, 8]), (125, [22, 8]), (127, [9]), (128, [148]), (129, [154, 0, 13]), (132, [28]), (133, [154, 0, 7]), (136, [9]), (137, [167, 0, 4]), (140, [10]), (141, [173]), (142, [28]), (143, [154, 0, 11]), (146, [22, 4]), (148, [22, 8]), (150, [109]), (151, [167, 0, 8]), (154, [22, 6]), (156, [22, 8]), (158, [109]), (159, [173])]
theorem b_dX10_skill_118 : chkB l_dX10_skill_118 118 (cX10_skill.data.toList.drop 118) = true := by decide +kernel
theorem dX10_skill_118 : decode cX10_skill 118 = .ok (.lload 6, 2) := oo_22 (b1 := 6) (dl3 b_dX10_skill_118 0 rfl)
theorem dX10_skill_120 : decode cX10_skill 120 = .ok (.invokestatic 280, 3) := oo_184 (b1 := 1) (b2 := 24) rfl (dl3 b_dX10_skill_118 1 rfl)
theorem dX10_skill_123 : decode cX10_skill 123 = .ok (.lstore 8, 2) := oo_55 (b1 := 8) (dl3 b_dX10_skill_118 2 rfl)
theorem dX10_skill_125 : decode cX10_skill 125 = .ok (.lload 8, 2) := oo_22 (b1 := 8) (dl3 b_dX10_skill_118 3 rfl)
theorem dX10_skill_127 : decode cX10_skill 127 = .ok (.lconst 0, 1) := oo_9 (dl3 b_dX10_skill_118 4 rfl)
theorem dX10_skill_128 : decode cX10_skill 128 = .ok (.lcmp, 1) := oo_148 (dl3 b_dX10_skill_118 5 rfl)
theorem dX10_skill_129 : decode cX10_skill 129 = .ok (.ifCond .ne 13, 3) := oo_154 (b1 := 0) (b2 := 13) rfl (dl3 b_dX10_skill_118 6 rfl)
theorem dX10_skill_132 : decode cX10_skill 132 = .ok (.iload_n 2, 1) := oo_28 (dl3 b_dX10_skill_118 7 rfl)
theorem dX10_skill_133 : decode cX10_skill 133 = .ok (.ifCond .ne 7, 3) := oo_154 (b1 := 0) (b2 := 7) rfl (dl3 b_dX10_skill_118 8 rfl)
theorem dX10_skill_136 : decode cX10_skill 136 = .ok (.lconst 0, 1) := oo_9 (dl3 b_dX10_skill_118 9 rfl)
theorem dX10_skill_137 : decode cX10_skill 137 = .ok (.goto 4, 3) := oo_167 (b1 := 0) (b2 := 4) rfl (dl3 b_dX10_skill_118 10 rfl)
theorem dX10_skill_140 : decode cX10_skill 140 = .ok (.lconst 1, 1) := oo_10 (dl3 b_dX10_skill_118 11 rfl)
theorem dX10_skill_141 : decode cX10_skill 141 = .ok (.lreturn, 1) := oo_173 (dl3 b_dX10_skill_118 12 rfl)
theorem dX10_skill_142 : decode cX10_skill 142 = .ok (.iload_n 2, 1) := oo_28 (dl3 b_dX10_skill_118 13 rfl)
theorem dX10_skill_143 : decode cX10_skill 143 = .ok (.ifCond .ne 11, 3) := oo_154 (b1 := 0) (b2 := 11) rfl (dl3 b_dX10_skill_118 14 rfl)
theorem dX10_skill_146 : decode cX10_skill 146 = .ok (.lload 4, 2) := oo_22 (b1 := 4) (dl3 b_dX10_skill_118 15 rfl)
theorem dX10_skill_148 : decode cX10_skill 148 = .ok (.lload 8, 2) := oo_22 (b1 := 8) (dl3 b_dX10_skill_118 16 rfl)
theorem dX10_skill_150 : decode cX10_skill 150 = .ok (.ldiv, 1) := oo_109 (dl3 b_dX10_skill_118 17 rfl)
theorem dX10_skill_151 : decode cX10_skill 151 = .ok (.goto 8, 3) := oo_167 (b1 := 0) (b2 := 8) rfl (dl3 b_dX10_skill_118 18 rfl)
theorem dX10_skill_154 : decode cX10_skill 154 = .ok (.lload 6, 2) := oo_22 (b1 := 6) (dl3 b_dX10_skill_118 19 rfl)
theorem dX10_skill_156 : decode cX10_skill 156 = .ok (.lload 8, 2) := oo_22 (b1 := 8) (dl3 b_dX10_skill_118 20 rfl)
theorem dX10_skill_158 : decode cX10_skill 158 = .ok (.ldiv, 1) := oo_109 (dl3 b_dX10_skill_118 21 rfl)
theorem dX10_skill_159 : decode cX10_skill 159 = .ok (.lreturn, 1) := oo_173 (dl3 b_dX10_skill_118 22 rfl)
def l_dX10_commonDivisor_0 : List (Nat × List Nat) := [(0, [30]), (1, [55, 4]), (3, [32]), (4, [55, 6]), (6, [3]), (7, [54, 8]), (9, [21, 8]), (11, [17, 0, 128]), (14, [162, 0, 31]), (17, [22, 6]), (19, [9]), (20, [148]), (21, [153, 0, 24]), (24, [22, 4]), (26, [22, 6]), (28, [113]), (29, [55, 9]), (31, [22, 6]), (33, [55, 4]), (35, [22, 9]), (37, [55, 6]), (39, [132, 8, 1]), (42, [167, 255, 223]), (45, [22, 4]), (47, [173])]
theorem b_dX10_commonDivisor_0 : chkB l_dX10_commonDivisor_0 0 (cX10_commonDivisor.data.toList.drop 0) = true := by decide +kernel
theorem dX10_commonDivisor_0 : decode cX10_commonDivisor 0 = .ok (.lload_n 0, 1) := oo_30 (dl3 b_dX10_commonDivisor_0 0 rfl)
theorem dX10_commonDivisor_1 : decode cX10_commonDivisor 1 = .ok (.lstore 4, 2) := oo_55 (b1 := 4) (dl3 b_dX10_commonDivisor_0 1 rfl)
theorem dX10_commonDivisor_3 : decode cX10_commonDivisor 3 = .ok (.lload_n 2, 1) := oo_32 (dl3 b_dX10_commonDivisor_0 2 rfl)
theorem dX10_commonDivisor_4 : decode cX10_commonDivisor 4 = .ok (.lstore 6, 2) := oo_55 (b1 := 6) (dl3 b_dX10_commonDivisor_0 3 rfl)
theorem dX10_commonDivisor_6 : decode cX10_commonDivisor 6 = .ok (.iconst 0, 1) := oo_3 (dl3 b_dX10_commonDivisor_0 4 rfl)
theorem dX10_commonDivisor_7 : decode cX10_commonDivisor 7 = .ok (.istore 8, 2) := oo_54 (b1 := 8) (dl3 b_dX10_commonDivisor_0 5 rfl)
theorem dX10_commonDivisor_9 : decode cX10_commonDivisor 9 = .ok (.iload 8, 2) := oo_21 (b1 := 8) (dl3 b_dX10_commonDivisor_0 6 rfl)
theorem dX10_commonDivisor_11 : decode cX10_commonDivisor 11 = .ok (.sipush 128, 3) := oo_17 (b1 := 0) (b2 := 128) rfl (dl3 b_dX10_commonDivisor_0 7 rfl)
theorem dX10_commonDivisor_14 : decode cX10_commonDivisor 14 = .ok (.if_icmp .ge 31, 3) := oo_162 (b1 := 0) (b2 := 31) rfl (dl3 b_dX10_commonDivisor_0 8 rfl)
theorem dX10_commonDivisor_17 : decode cX10_commonDivisor 17 = .ok (.lload 6, 2) := oo_22 (b1 := 6) (dl3 b_dX10_commonDivisor_0 9 rfl)
theorem dX10_commonDivisor_19 : decode cX10_commonDivisor 19 = .ok (.lconst 0, 1) := oo_9 (dl3 b_dX10_commonDivisor_0 10 rfl)
theorem dX10_commonDivisor_20 : decode cX10_commonDivisor 20 = .ok (.lcmp, 1) := oo_148 (dl3 b_dX10_commonDivisor_0 11 rfl)
theorem dX10_commonDivisor_21 : decode cX10_commonDivisor 21 = .ok (.ifCond .eq 24, 3) := oo_153 (b1 := 0) (b2 := 24) rfl (dl3 b_dX10_commonDivisor_0 12 rfl)
theorem dX10_commonDivisor_24 : decode cX10_commonDivisor 24 = .ok (.lload 4, 2) := oo_22 (b1 := 4) (dl3 b_dX10_commonDivisor_0 13 rfl)
theorem dX10_commonDivisor_26 : decode cX10_commonDivisor 26 = .ok (.lload 6, 2) := oo_22 (b1 := 6) (dl3 b_dX10_commonDivisor_0 14 rfl)
theorem dX10_commonDivisor_28 : decode cX10_commonDivisor 28 = .ok (.lrem, 1) := oo_113 (dl3 b_dX10_commonDivisor_0 15 rfl)
theorem dX10_commonDivisor_29 : decode cX10_commonDivisor 29 = .ok (.lstore 9, 2) := oo_55 (b1 := 9) (dl3 b_dX10_commonDivisor_0 16 rfl)
theorem dX10_commonDivisor_31 : decode cX10_commonDivisor 31 = .ok (.lload 6, 2) := oo_22 (b1 := 6) (dl3 b_dX10_commonDivisor_0 17 rfl)
theorem dX10_commonDivisor_33 : decode cX10_commonDivisor 33 = .ok (.lstore 4, 2) := oo_55 (b1 := 4) (dl3 b_dX10_commonDivisor_0 18 rfl)
theorem dX10_commonDivisor_35 : decode cX10_commonDivisor 35 = .ok (.lload 9, 2) := oo_22 (b1 := 9) (dl3 b_dX10_commonDivisor_0 19 rfl)
theorem dX10_commonDivisor_37 : decode cX10_commonDivisor 37 = .ok (.lstore 6, 2) := oo_55 (b1 := 6) (dl3 b_dX10_commonDivisor_0 20 rfl)
theorem dX10_commonDivisor_39 : decode cX10_commonDivisor 39 = .ok (.iinc 8 1, 3) := oo_132 (b1 := 8) (b2 := 1) rfl (dl3 b_dX10_commonDivisor_0 21 rfl)
theorem dX10_commonDivisor_42 : decode cX10_commonDivisor 42 = .ok (.goto (-33), 3) := oo_167 (b1 := 255) (b2 := 223) rfl (dl3 b_dX10_commonDivisor_0 22 rfl)
theorem dX10_commonDivisor_45 : decode cX10_commonDivisor 45 = .ok (.lload 4, 2) := oo_22 (b1 := 4) (dl3 b_dX10_commonDivisor_0 23 rfl)
theorem dX10_commonDivisor_47 : decode cX10_commonDivisor 47 = .ok (.lreturn, 1) := oo_173 (dl3 b_dX10_commonDivisor_0 24 rfl)
set_option maxRecDepth 20000 in
theorem ggX10_sheet_X10_sheetAt : GoodIn wsX10_sheet wsX10_sheetAt := goodIn_r _ [6, 7, 8, 9, 5, 10, 30, 31, 32, 33, 34, 35, 36, 37, 38, 39, 40, 41, 42] rfl (by decide +kernel)
set_option maxRecDepth 20000 in
theorem gX10_sheet_X10_sheetAt : GoodIn wsX10_sheet (wsV RX10 93 RX10 yX10_sheetAt wsX10_sheetAt) := goodIn_app (goodIn_r _ [2, 3, 4, 5] rfl (by decide +kernel)) ggX10_sheet_X10_sheetAt
set_option maxRecDepth 20000 in
theorem ggX10_sheet_X7_isLane : GoodIn wsX10_sheet wsX7_isLane := goodIn_r _ [14, 9, 5, 10] rfl (by decide +kernel)
set_option maxRecDepth 20000 in
theorem gX10_sheet_X7_isLane : GoodIn wsX10_sheet (va_wsS RX10 97 yX7_isLane wsX7_isLane) := goodIn_app (goodIn_r _ [11, 12, 13] rfl (by decide +kernel)) ggX10_sheet_X7_isLane
set_option maxRecDepth 20000 in
theorem ggX10_sheet_X10_faulted : GoodIn wsX10_sheet wsX10_faulted := goodIn_r _ [18, 1, 30, 31, 32, 33, 34, 35, 36, 37, 38, 39, 40, 41, 42] rfl (by decide +kernel)
set_option maxRecDepth 20000 in
theorem gX10_sheet_X10_faulted : GoodIn wsX10_sheet (wsV RX10 105 RX10 yX10_faulted wsX10_faulted) := goodIn_app (goodIn_r _ [15, 16, 17, 5] rfl (by decide +kernel)) ggX10_sheet_X10_faulted
set_option maxRecDepth 20000 in
theorem ggX10_sheet_X7_renew : GoodIn wsX10_sheet wsX7_renew := goodIn_r _ [22, 23, 24, 25, 26, 27, 28, 29, 43, 44, 45] rfl (by decide +kernel)
set_option maxRecDepth 20000 in
theorem gX10_sheet_X7_renew : GoodIn wsX10_sheet (wsV RX10 284 RX7 yX7_renew wsX7_renew) := goodIn_app (goodIn_r _ [19, 20, 21, 13] rfl (by decide +kernel)) ggX10_sheet_X7_renew
def l_dX10_sheet_0 : List (Nat × List Nat) := [(0, [42]), (1, [3]), (2, [181, 0, 56]), (5, [42]), (6, [27]), (7, [182, 0, 93]), (10, [58, 4]), (12, [25, 4]), (14, [199, 0, 5]), (17, [2]), (18, [172]), (19, [28]), (20, [184, 0, 97]), (23, [153, 0, 9]), (26, [29]), (27, [16, 48]), (29, [164, 0, 6]), (32, [16, 254]), (34, [172]), (35, [29]), (36, [156, 0, 9]), (39, [42]), (40, [7]), (41, [182, 0, 105]), (44, [172]), (45, [25, 4]), (47, [28]), (48, [29]), (49, [182, 1, 28]), (52, [4]), (53, [172])]
theorem b_dX10_sheet_0 : chkB l_dX10_sheet_0 0 (cX10_sheet.data.toList.drop 0) = true := by decide +kernel
theorem dX10_sheet_0 : decode cX10_sheet 0 = .ok (.aload_n 0, 1) := oo_42 (dl3 b_dX10_sheet_0 0 rfl)
theorem dX10_sheet_1 : decode cX10_sheet 1 = .ok (.iconst 0, 1) := oo_3 (dl3 b_dX10_sheet_0 1 rfl)
theorem dX10_sheet_2 : decode cX10_sheet 2 = .ok (.putfield 56, 3) := oo_181 (b1 := 0) (b2 := 56) rfl (dl3 b_dX10_sheet_0 2 rfl)
theorem dX10_sheet_5 : decode cX10_sheet 5 = .ok (.aload_n 0, 1) := oo_42 (dl3 b_dX10_sheet_0 3 rfl)
theorem dX10_sheet_6 : decode cX10_sheet 6 = .ok (.iload_n 1, 1) := oo_27 (dl3 b_dX10_sheet_0 4 rfl)
theorem dX10_sheet_7 : decode cX10_sheet 7 = .ok (.invokevirtual 93, 3) := oo_182 (b1 := 0) (b2 := 93) rfl (dl3 b_dX10_sheet_0 5 rfl)
theorem dX10_sheet_10 : decode cX10_sheet 10 = .ok (.astore 4, 2) := oo_58 (b1 := 4) (dl3 b_dX10_sheet_0 6 rfl)
theorem dX10_sheet_12 : decode cX10_sheet 12 = .ok (.aload 4, 2) := oo_25 (b1 := 4) (dl3 b_dX10_sheet_0 7 rfl)
theorem dX10_sheet_14 : decode cX10_sheet 14 = .ok (.ifnonnull 5, 3) := oo_199 (b1 := 0) (b2 := 5) rfl (dl3 b_dX10_sheet_0 8 rfl)
theorem dX10_sheet_17 : decode cX10_sheet 17 = .ok (.iconst (-1), 1) := oo_2 (dl3 b_dX10_sheet_0 9 rfl)
theorem dX10_sheet_18 : decode cX10_sheet 18 = .ok (.ireturn, 1) := oo_172 (dl3 b_dX10_sheet_0 10 rfl)
theorem dX10_sheet_19 : decode cX10_sheet 19 = .ok (.iload_n 2, 1) := oo_28 (dl3 b_dX10_sheet_0 11 rfl)
theorem dX10_sheet_20 : decode cX10_sheet 20 = .ok (.invokestatic 97, 3) := oo_184 (b1 := 0) (b2 := 97) rfl (dl3 b_dX10_sheet_0 12 rfl)
theorem dX10_sheet_23 : decode cX10_sheet 23 = .ok (.ifCond .eq 9, 3) := oo_153 (b1 := 0) (b2 := 9) rfl (dl3 b_dX10_sheet_0 13 rfl)
theorem dX10_sheet_26 : decode cX10_sheet 26 = .ok (.iload_n 3, 1) := oo_29 (dl3 b_dX10_sheet_0 14 rfl)
theorem dX10_sheet_27 : decode cX10_sheet 27 = .ok (.bipush 48, 2) := oo_16 (b1 := 48) rfl (dl3 b_dX10_sheet_0 15 rfl)
theorem dX10_sheet_29 : decode cX10_sheet 29 = .ok (.if_icmp .le 6, 3) := oo_164 (b1 := 0) (b2 := 6) rfl (dl3 b_dX10_sheet_0 16 rfl)
theorem dX10_sheet_32 : decode cX10_sheet 32 = .ok (.bipush (-2), 2) := oo_16 (b1 := 254) rfl (dl3 b_dX10_sheet_0 17 rfl)
theorem dX10_sheet_34 : decode cX10_sheet 34 = .ok (.ireturn, 1) := oo_172 (dl3 b_dX10_sheet_0 18 rfl)
theorem dX10_sheet_35 : decode cX10_sheet 35 = .ok (.iload_n 3, 1) := oo_29 (dl3 b_dX10_sheet_0 19 rfl)
theorem dX10_sheet_36 : decode cX10_sheet 36 = .ok (.ifCond .ge 9, 3) := oo_156 (b1 := 0) (b2 := 9) rfl (dl3 b_dX10_sheet_0 20 rfl)
theorem dX10_sheet_39 : decode cX10_sheet 39 = .ok (.aload_n 0, 1) := oo_42 (dl3 b_dX10_sheet_0 21 rfl)
theorem dX10_sheet_40 : decode cX10_sheet 40 = .ok (.iconst 4, 1) := oo_7 (dl3 b_dX10_sheet_0 22 rfl)
theorem dX10_sheet_41 : decode cX10_sheet 41 = .ok (.invokevirtual 105, 3) := oo_182 (b1 := 0) (b2 := 105) rfl (dl3 b_dX10_sheet_0 23 rfl)
theorem dX10_sheet_44 : decode cX10_sheet 44 = .ok (.ireturn, 1) := oo_172 (dl3 b_dX10_sheet_0 24 rfl)
theorem dX10_sheet_45 : decode cX10_sheet 45 = .ok (.aload 4, 2) := oo_25 (b1 := 4) (dl3 b_dX10_sheet_0 25 rfl)
theorem dX10_sheet_47 : decode cX10_sheet 47 = .ok (.iload_n 2, 1) := oo_28 (dl3 b_dX10_sheet_0 26 rfl)
theorem dX10_sheet_48 : decode cX10_sheet 48 = .ok (.iload_n 3, 1) := oo_29 (dl3 b_dX10_sheet_0 27 rfl)
theorem dX10_sheet_49 : decode cX10_sheet 49 = .ok (.invokevirtual 284, 3) := oo_182 (b1 := 1) (b2 := 28) rfl (dl3 b_dX10_sheet_0 28 rfl)
theorem dX10_sheet_52 : decode cX10_sheet 52 = .ok (.iconst 1, 1) := oo_4 (dl3 b_dX10_sheet_0 29 rfl)
theorem dX10_sheet_53 : decode cX10_sheet 53 = .ok (.ireturn, 1) := oo_172 (dl3 b_dX10_sheet_0 30 rfl)
set_option maxRecDepth 20000 in
theorem ggX10_lose_X10_sheetAt : GoodIn wsX10_lose wsX10_sheetAt := goodIn_r _ [5, 6, 7, 8, 4, 9, 26, 27, 28, 29, 30, 31, 32, 33, 34, 35, 36, 37, 38] rfl (by decide +kernel)
set_option maxRecDepth 20000 in
theorem gX10_lose_X10_sheetAt : GoodIn wsX10_lose (wsV RX10 93 RX10 yX10_sheetAt wsX10_sheetAt) := goodIn_app (goodIn_r _ [1, 2, 3, 4] rfl (by decide +kernel)) ggX10_lose_X10_sheetAt
set_option maxRecDepth 20000 in
theorem ggX10_lose_X7_hasNothing : GoodIn wsX10_lose wsX7_hasNothing := goodIn_r _ [14, 15, 39, 40, 41] rfl (by decide +kernel)
set_option maxRecDepth 20000 in
theorem gX10_lose_X7_hasNothing : GoodIn wsX10_lose (wsV RX10 288 RX7 yX7_hasNothing wsX7_hasNothing) := goodIn_app (goodIn_r _ [10, 11, 12, 13] rfl (by decide +kernel)) ggX10_lose_X7_hasNothing
set_option maxRecDepth 20000 in
theorem ggX10_lose_X7_renew : GoodIn wsX10_lose wsX7_renew := goodIn_r _ [19, 20, 15, 21, 22, 23, 24, 25, 39, 40, 41] rfl (by decide +kernel)
set_option maxRecDepth 20000 in
theorem gX10_lose_X7_renew : GoodIn wsX10_lose (wsV RX10 284 RX7 yX7_renew wsX7_renew) := goodIn_app (goodIn_r _ [16, 17, 18, 13] rfl (by decide +kernel)) ggX10_lose_X7_renew
def l_dX10_lose_0 : List (Nat × List Nat) := [(0, [42]), (1, [27]), (2, [182, 0, 93]), (5, [77]), (6, [44]), (7, [199, 0, 5]), (10, [2]), (11, [172]), (12, [44]), (13, [182, 1, 32]), (16, [153, 0, 5]), (19, [3]), (20, [172]), (21, [44]), (22, [2]), (23, [3]), (24, [182, 1, 28]), (27, [4]), (28, [172])]
theorem b_dX10_lose_0 : chkB l_dX10_lose_0 0 (cX10_lose.data.toList.drop 0) = true := by decide +kernel
theorem dX10_lose_0 : decode cX10_lose 0 = .ok (.aload_n 0, 1) := oo_42 (dl3 b_dX10_lose_0 0 rfl)
theorem dX10_lose_1 : decode cX10_lose 1 = .ok (.iload_n 1, 1) := oo_27 (dl3 b_dX10_lose_0 1 rfl)
theorem dX10_lose_2 : decode cX10_lose 2 = .ok (.invokevirtual 93, 3) := oo_182 (b1 := 0) (b2 := 93) rfl (dl3 b_dX10_lose_0 2 rfl)
theorem dX10_lose_5 : decode cX10_lose 5 = .ok (.astore_n 2, 1) := oo_77 (dl3 b_dX10_lose_0 3 rfl)
theorem dX10_lose_6 : decode cX10_lose 6 = .ok (.aload_n 2, 1) := oo_44 (dl3 b_dX10_lose_0 4 rfl)
theorem dX10_lose_7 : decode cX10_lose 7 = .ok (.ifnonnull 5, 3) := oo_199 (b1 := 0) (b2 := 5) rfl (dl3 b_dX10_lose_0 5 rfl)
theorem dX10_lose_10 : decode cX10_lose 10 = .ok (.iconst (-1), 1) := oo_2 (dl3 b_dX10_lose_0 6 rfl)
theorem dX10_lose_11 : decode cX10_lose 11 = .ok (.ireturn, 1) := oo_172 (dl3 b_dX10_lose_0 7 rfl)
theorem dX10_lose_12 : decode cX10_lose 12 = .ok (.aload_n 2, 1) := oo_44 (dl3 b_dX10_lose_0 8 rfl)
theorem dX10_lose_13 : decode cX10_lose 13 = .ok (.invokevirtual 288, 3) := oo_182 (b1 := 1) (b2 := 32) rfl (dl3 b_dX10_lose_0 9 rfl)
theorem dX10_lose_16 : decode cX10_lose 16 = .ok (.ifCond .eq 5, 3) := oo_153 (b1 := 0) (b2 := 5) rfl (dl3 b_dX10_lose_0 10 rfl)
theorem dX10_lose_19 : decode cX10_lose 19 = .ok (.iconst 0, 1) := oo_3 (dl3 b_dX10_lose_0 11 rfl)
theorem dX10_lose_20 : decode cX10_lose 20 = .ok (.ireturn, 1) := oo_172 (dl3 b_dX10_lose_0 12 rfl)
theorem dX10_lose_21 : decode cX10_lose 21 = .ok (.aload_n 2, 1) := oo_44 (dl3 b_dX10_lose_0 13 rfl)
theorem dX10_lose_22 : decode cX10_lose 22 = .ok (.iconst (-1), 1) := oo_2 (dl3 b_dX10_lose_0 14 rfl)
theorem dX10_lose_23 : decode cX10_lose 23 = .ok (.iconst 0, 1) := oo_3 (dl3 b_dX10_lose_0 15 rfl)
theorem dX10_lose_24 : decode cX10_lose 24 = .ok (.invokevirtual 284, 3) := oo_182 (b1 := 1) (b2 := 28) rfl (dl3 b_dX10_lose_0 16 rfl)
theorem dX10_lose_27 : decode cX10_lose 27 = .ok (.iconst 1, 1) := oo_4 (dl3 b_dX10_lose_0 17 rfl)
theorem dX10_lose_28 : decode cX10_lose 28 = .ok (.ireturn, 1) := oo_172 (dl3 b_dX10_lose_0 18 rfl)
