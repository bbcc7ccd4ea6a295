set_option maxRecDepth 20000 in
theorem ggX10_put_X10_sheetAt : GoodIn wsX10_put wsX10_sheetAt := goodIn_r _ [7, 8, 9, 10, 6, 11, 31, 32, 33, 34, 35, 36, 37, 38, 39, 40, 41, 42, 43] (by decide +kernel) (by decide +kernel)
set_option maxRecDepth 20000 in
theorem gX10_put_X10_sheetAt : GoodIn wsX10_put (wsV RX10 93 RX10 yX10_sheetAt wsX10_sheetAt) := goodIn_app (goodIn_r _ [3, 4, 5, 6] (by decide +kernel) (by decide +kernel)) ggX10_put_X10_sheetAt
set_option maxRecDepth 20000 in
theorem ggX10_put_X7_hasNothing : GoodIn wsX10_put wsX7_hasNothing := goodIn_r _ [16, 17, 44, 45, 46] (by decide +kernel) (by decide +kernel)
set_option maxRecDepth 20000 in
theorem gX10_put_X7_hasNothing : GoodIn wsX10_put (wsV RX10 288 RX7 yX7_hasNothing wsX7_hasNothing) := goodIn_app (goodIn_r _ [12, 13, 14, 15] (by decide +kernel) (by decide +kernel)) ggX10_put_X7_hasNothing
set_option maxRecDepth 20000 in
theorem ggX10_put_X10_faulted : GoodIn wsX10_put wsX10_faulted := goodIn_r _ [21, 1, 31, 32, 33, 34, 35, 36, 37, 38, 39, 40, 41, 42, 43] (by decide +kernel) (by decide +kernel)
set_option maxRecDepth 20000 in
theorem gX10_put_X10_faulted : GoodIn wsX10_put (wsV RX10 105 RX10 yX10_faulted wsX10_faulted) := goodIn_app (goodIn_r _ [18, 19, 20, 6] (by decide +kernel) (by decide +kernel)) ggX10_put_X10_faulted
set_option maxRecDepth 20000 in
theorem ggX10_put_X7_holds : GoodIn wsX10_put wsX7_holds := goodIn_r _ [25, 26, 44, 45, 46] (by decide +kernel) (by decide +kernel)
set_option maxRecDepth 20000 in
theorem gX10_put_X7_holds : GoodIn wsX10_put (wsV RX10 117 RX7 yX7_holds wsX7_holds) := goodIn_app (goodIn_r _ [22, 23, 24, 15] (by decide +kernel) (by decide +kernel)) ggX10_put_X7_holds
set_option maxRecDepth 20000 in
theorem ggX10_put_X7_cut : GoodIn wsX10_put wsX7_cut := goodIn_r _ [30, 17, 44, 45, 46] (by decide +kernel) (by decide +kernel)
set_option maxRecDepth 20000 in
theorem gX10_put_X7_cut : GoodIn wsX10_put (wsV RX10 292 RX7 yX7_cut wsX7_cut) := goodIn_app (goodIn_r _ [27, 28, 29, 15] (by decide +kernel) (by decide +kernel)) ggX10_put_X7_cut
theorem dX10_put_0 : decode cX10_put 0 = .ok (.aload_n 0, 1) := by decide +kernel
theorem dX10_put_1 : decode cX10_put 1 = .ok (.iconst 0, 1) := by decide +kernel
theorem dX10_put_2 : decode cX10_put 2 = .ok (.putfield 56, 3) := by decide +kernel
theorem dX10_put_5 : decode cX10_put 5 = .ok (.aload_n 0, 1) := by decide +kernel
theorem dX10_put_6 : decode cX10_put 6 = .ok (.iload_n 1, 1) := by decide +kernel
theorem dX10_put_7 : decode cX10_put 7 = .ok (.invokevirtual 93, 3) := by decide +kernel
theorem dX10_put_10 : decode cX10_put 10 = .ok (.astore 4, 2) := by decide +kernel
theorem dX10_put_12 : decode cX10_put 12 = .ok (.aload 4, 2) := by decide +kernel
theorem dX10_put_14 : decode cX10_put 14 = .ok (.ifnonnull 5, 3) := by decide +kernel
theorem dX10_put_17 : decode cX10_put 17 = .ok (.iconst (-1), 1) := by decide +kernel
theorem dX10_put_18 : decode cX10_put 18 = .ok (.ireturn, 1) := by decide +kernel
theorem dX10_put_19 : decode cX10_put 19 = .ok (.aload 4, 2) := by decide +kernel
theorem dX10_put_21 : decode cX10_put 21 = .ok (.invokevirtual 288, 3) := by decide +kernel
theorem dX10_put_24 : decode cX10_put 24 = .ok (.ifCond .eq 9, 3) := by decide +kernel
theorem dX10_put_27 : decode cX10_put 27 = .ok (.aload_n 0, 1) := by decide +kernel
theorem dX10_put_28 : decode cX10_put 28 = .ok (.iconst 1, 1) := by decide +kernel
theorem dX10_put_29 : decode cX10_put 29 = .ok (.invokevirtual 105, 3) := by decide +kernel
theorem dX10_put_32 : decode cX10_put 32 = .ok (.ireturn, 1) := by decide +kernel
theorem dX10_put_33 : decode cX10_put 33 = .ok (.aload 4, 2) := by decide +kernel
theorem dX10_put_35 : decode cX10_put 35 = .ok (.iload_n 2, 1) := by decide +kernel
theorem dX10_put_36 : decode cX10_put 36 = .ok (.iconst 1, 1) := by decide +kernel
theorem dX10_put_37 : decode cX10_put 37 = .ok (.invokevirtual 117, 3) := by decide +kernel
theorem dX10_put_40 : decode cX10_put 40 = .ok (.ifCond .ne 9, 3) := by decide +kernel
theorem dX10_put_43 : decode cX10_put 43 = .ok (.aload_n 0, 1) := by decide +kernel
theorem dX10_put_44 : decode cX10_put 44 = .ok (.iconst 3, 1) := by decide +kernel
theorem dX10_put_45 : decode cX10_put 45 = .ok (.invokevirtual 105, 3) := by decide +kernel
theorem dX10_put_48 : decode cX10_put 48 = .ok (.ireturn, 1) := by decide +kernel
theorem dX10_put_49 : decode cX10_put 49 = .ok (.aload 4, 2) := by decide +kernel
theorem dX10_put_51 : decode cX10_put 51 = .ok (.getfield 111, 3) := by decide +kernel
theorem dX10_put_54 : decode cX10_put 54 = .ok (.iload_n 2, 1) := by decide +kernel
theorem dX10_put_55 : decode cX10_put 55 = .ok (.aload 4, 2) := by decide +kernel
theorem dX10_put_57 : decode cX10_put 57 = .ok (.iload_n 3, 1) := by decide +kernel
theorem dX10_put_58 : decode cX10_put 58 = .ok (.invokevirtual 292, 3) := by decide +kernel
theorem dX10_put_61 : decode cX10_put 61 = .ok (.iastore, 1) := by decide +kernel
theorem dX10_put_62 : decode cX10_put 62 = .ok (.iconst 1, 1) := by decide +kernel
theorem dX10_put_63 : decode cX10_put 63 = .ok (.ireturn, 1) := by decide +kernel
set_option maxRecDepth 20000 in
theorem ggX10_cell_X10_sheetAt : GoodIn wsX10_cell wsX10_sheetAt := goodIn_r _ [8, 9, 10, 11, 7, 12, 31, 32, 33, 34, 35, 36, 37, 38, 39, 40, 41, 42, 43] (by decide +kernel) (by decide +kernel)
set_option maxRecDepth 20000 in
theorem gX10_cell_X10_sheetAt : GoodIn wsX10_cell (wsV RX10 93 RX10 yX10_sheetAt wsX10_sheetAt) := goodIn_app (goodIn_r _ [4, 5, 6, 7] (by decide +kernel) (by decide +kernel)) ggX10_cell_X10_sheetAt
set_option maxRecDepth 20000 in
theorem ggX10_cell_X7_isLane : GoodIn wsX10_cell wsX7_isLane := goodIn_r _ [16, 11, 7, 12] (by decide +kernel) (by decide +kernel)
set_option maxRecDepth 20000 in
theorem gX10_cell_X7_isLane : GoodIn wsX10_cell (va_wsS RX10 97 yX7_isLane wsX7_isLane) := goodIn_app (goodIn_r _ [13, 14, 15] (by decide +kernel) (by decide +kernel)) ggX10_cell_X7_isLane
set_option maxRecDepth 20000 in
theorem ggX10_cell_X7_faultAs : GoodIn wsX10_cell wsX7_faultAs := goodIn_r _ [20, 21, 22, 23, 24, 15, 25, 44, 45, 46] (by decide +kernel) (by decide +kernel)
set_option maxRecDepth 20000 in
theorem gX10_cell_X7_faultAs : GoodIn wsX10_cell (wsV RX10 114 RX7 yX7_faultAs wsX7_faultAs) := goodIn_app (goodIn_r _ [17, 18, 19, 15] (by decide +kernel) (by decide +kernel)) ggX10_cell_X7_faultAs
set_option maxRecDepth 20000 in
theorem ggX10_cell_X7_holds : GoodIn wsX10_cell wsX7_holds := goodIn_r _ [29, 30, 44, 45, 46] (by decide +kernel) (by decide +kernel)
set_option maxRecDepth 20000 in
theorem gX10_cell_X7_holds : GoodIn wsX10_cell (wsV RX10 117 RX7 yX7_holds wsX7_holds) := goodIn_app (goodIn_r _ [26, 27, 28, 15] (by decide +kernel) (by decide +kernel)) ggX10_cell_X7_holds
theorem dX10_cell_0 : decode cX10_cell 0 = .ok (.aload_n 0, 1) := by decide +kernel
theorem dX10_cell_1 : decode cX10_cell 1 = .ok (.iconst 0, 1) := by decide +kernel
theorem dX10_cell_2 : decode cX10_cell 2 = .ok (.putfield 56, 3) := by decide +kernel
theorem dX10_cell_5 : decode cX10_cell 5 = .ok (.aload_n 0, 1) := by decide +kernel
theorem dX10_cell_6 : decode cX10_cell 6 = .ok (.iload_n 1, 1) := by decide +kernel
theorem dX10_cell_7 : decode cX10_cell 7 = .ok (.invokevirtual 93, 3) := by decide +kernel
theorem dX10_cell_10 : decode cX10_cell 10 = .ok (.astore 4, 2) := by decide +kernel
theorem dX10_cell_12 : decode cX10_cell 12 = .ok (.aload 4, 2) := by decide +kernel
theorem dX10_cell_14 : decode cX10_cell 14 = .ok (.ifnull 10, 3) := by decide +kernel
theorem dX10_cell_17 : decode cX10_cell 17 = .ok (.iload_n 3, 1) := by decide +kernel
theorem dX10_cell_18 : decode cX10_cell 18 = .ok (.invokestatic 97, 3) := by decide +kernel
theorem dX10_cell_21 : decode cX10_cell 21 = .ok (.ifCond .ne 7, 3) := by decide +kernel
theorem dX10_cell_24 : decode cX10_cell 24 = .ok (.ldc2_w 137, 3) := by decide +kernel
theorem dX10_cell_27 : decode cX10_cell 27 = .ok (.lreturn, 1) := by decide +kernel
theorem dX10_cell_28 : decode cX10_cell 28 = .ok (.aload_n 0, 1) := by decide +kernel
theorem dX10_cell_29 : decode cX10_cell 29 = .ok (.aload 4, 2) := by decide +kernel
theorem dX10_cell_31 : decode cX10_cell 31 = .ok (.iload_n 3, 1) := by decide +kernel
theorem dX10_cell_32 : decode cX10_cell 32 = .ok (.invokevirtual 114, 3) := by decide +kernel
theorem dX10_cell_35 : decode cX10_cell 35 = .ok (.putfield 56, 3) := by decide +kernel
theorem dX10_cell_38 : decode cX10_cell 38 = .ok (.aload_n 0, 1) := by decide +kernel
theorem dX10_cell_39 : decode cX10_cell 39 = .ok (.getfield 56, 3) := by decide +kernel
theorem dX10_cell_42 : decode cX10_cell 42 = .ok (.ifCond .ne 18, 3) := by decide +kernel
theorem dX10_cell_45 : decode cX10_cell 45 = .ok (.aload 4, 2) := by decide +kernel
theorem dX10_cell_47 : decode cX10_cell 47 = .ok (.iload_n 2, 1) := by decide +kernel
theorem dX10_cell_48 : decode cX10_cell 48 = .ok (.iconst 1, 1) := by decide +kernel
theorem dX10_cell_49 : decode cX10_cell 49 = .ok (.invokevirtual 117, 3) := by decide +kernel
theorem dX10_cell_52 : decode cX10_cell 52 = .ok (.ifCond .ne 8, 3) := by decide +kernel
theorem dX10_cell_55 : decode cX10_cell 55 = .ok (.aload_n 0, 1) := by decide +kernel
theorem dX10_cell_56 : decode cX10_cell 56 = .ok (.iconst 3, 1) := by decide +kernel
theorem dX10_cell_57 : decode cX10_cell 57 = .ok (.putfield 56, 3) := by decide +kernel
theorem dX10_cell_60 : decode cX10_cell 60 = .ok (.aload_n 0, 1) := by decide +kernel
theorem dX10_cell_61 : decode cX10_cell 61 = .ok (.getfield 56, 3) := by decide +kernel
theorem dX10_cell_64 : decode cX10_cell 64 = .ok (.ifCond .ne 14, 3) := by decide +kernel
theorem dX10_cell_67 : decode cX10_cell 67 = .ok (.aload 4, 2) := by decide +kernel
theorem dX10_cell_69 : decode cX10_cell 69 = .ok (.getfield 111, 3) := by decide +kernel
theorem dX10_cell_72 : decode cX10_cell 72 = .ok (.iload_n 2, 1) := by decide +kernel
theorem dX10_cell_73 : decode cX10_cell 73 = .ok (.iaload, 1) := by decide +kernel
theorem dX10_cell_74 : decode cX10_cell 74 = .ok (.i2l, 1) := by decide +kernel
theorem dX10_cell_75 : decode cX10_cell 75 = .ok (.goto 6, 3) := by decide +kernel
theorem dX10_cell_78 : decode cX10_cell 78 = .ok (.ldc2_w 137, 3) := by decide +kernel
theorem dX10_cell_81 : decode cX10_cell 81 = .ok (.lreturn, 1) := by decide +kernel
set_option maxRecDepth 20000 in
theorem ggX10_copy_X10_sheetAt : GoodIn wsX10_copy wsX10_sheetAt := goodIn_r _ [12, 13, 14, 15, 11, 16, 32, 33, 34, 35, 36, 37, 38, 39, 40, 41, 42, 43, 44] (by decide +kernel) (by decide +kernel)
set_option maxRecDepth 20000 in
theorem gX10_copy_X10_sheetAt : GoodIn wsX10_copy (wsV RX10 93 RX10 yX10_sheetAt wsX10_sheetAt) := goodIn_app (goodIn_r _ [8, 9, 10, 11] (by decide +kernel) (by decide +kernel)) ggX10_copy_X10_sheetAt
set_option maxRecDepth 20000 in
theorem ggX10_copy_X7_hasNothing : GoodIn wsX10_copy wsX7_hasNothing := goodIn_r _ [21, 22, 45, 46, 47] (by decide +kernel) (by decide +kernel)
set_option maxRecDepth 20000 in
theorem gX10_copy_X7_hasNothing : GoodIn wsX10_copy (wsV RX10 288 RX7 yX7_hasNothing wsX7_hasNothing) := goodIn_app (goodIn_r _ [17, 18, 19, 20] (by decide +kernel) (by decide +kernel)) ggX10_copy_X7_hasNothing
set_option maxRecDepth 20000 in
theorem ggX10_copy_X10_faulted : GoodIn wsX10_copy wsX10_faulted := goodIn_r _ [26, 1, 32, 33, 34, 35, 36, 37, 38, 39, 40, 41, 42, 43, 44] (by decide +kernel) (by decide +kernel)
set_option maxRecDepth 20000 in
theorem gX10_copy_X10_faulted : GoodIn wsX10_copy (wsV RX10 105 RX10 yX10_faulted wsX10_faulted) := goodIn_app (goodIn_r _ [23, 24, 25, 11] (by decide +kernel) (by decide +kernel)) ggX10_copy_X10_faulted
set_option maxRecDepth 20000 in
theorem ggX10_copy_X7_holds : GoodIn wsX10_copy wsX7_holds := goodIn_r _ [30, 31, 45, 46, 47] (by decide +kernel) (by decide +kernel)
set_option maxRecDepth 20000 in
theorem gX10_copy_X7_holds : GoodIn wsX10_copy (wsV RX10 117 RX7 yX7_holds wsX7_holds) := goodIn_app (goodIn_r _ [27, 28, 29, 20] (by decide +kernel) (by decide +kernel)) ggX10_copy_X7_holds
theorem dX10_copy_0 : decode cX10_copy 0 = .ok (.aload_n 0, 1) := by decide +kernel
theorem dX10_copy_1 : decode cX10_copy 1 = .ok (.iconst 0, 1) := by decide +kernel
theorem dX10_copy_2 : decode cX10_copy 2 = .ok (.putfield 56, 3) := by decide +kernel
theorem dX10_copy_5 : decode cX10_copy 5 = .ok (.aload_n 0, 1) := by decide +kernel
theorem dX10_copy_6 : decode cX10_copy 6 = .ok (.iload_n 1, 1) := by decide +kernel
theorem dX10_copy_7 : decode cX10_copy 7 = .ok (.invokevirtual 93, 3) := by decide +kernel
theorem dX10_copy_10 : decode cX10_copy 10 = .ok (.astore 6, 2) := by decide +kernel
theorem dX10_copy_12 : decode cX10_copy 12 = .ok (.aload_n 0, 1) := by decide +kernel
theorem dX10_copy_13 : decode cX10_copy 13 = .ok (.iload_n 3, 1) := by decide +kernel
theorem dX10_copy_14 : decode cX10_copy 14 = .ok (.invokevirtual 93, 3) := by decide +kernel
theorem dX10_copy_17 : decode cX10_copy 17 = .ok (.astore 7, 2) := by decide +kernel
theorem dX10_copy_19 : decode cX10_copy 19 = .ok (.aload 6, 2) := by decide +kernel
theorem dX10_copy_21 : decode cX10_copy 21 = .ok (.ifnull 8, 3) := by decide +kernel
theorem dX10_copy_24 : decode cX10_copy 24 = .ok (.aload 7, 2) := by decide +kernel
theorem dX10_copy_26 : decode cX10_copy 26 = .ok (.ifnonnull 5, 3) := by decide +kernel
theorem dX10_copy_29 : decode cX10_copy 29 = .ok (.iconst (-1), 1) := by decide +kernel
theorem dX10_copy_30 : decode cX10_copy 30 = .ok (.ireturn, 1) := by decide +kernel
theorem dX10_copy_31 : decode cX10_copy 31 = .ok (.aload 6, 2) := by decide +kernel
theorem dX10_copy_33 : decode cX10_copy 33 = .ok (.invokevirtual 288, 3) := by decide +kernel
theorem dX10_copy_36 : decode cX10_copy 36 = .ok (.ifCond .ne 11, 3) := by decide +kernel
theorem dX10_copy_39 : decode cX10_copy 39 = .ok (.aload 7, 2) := by decide +kernel
theorem dX10_copy_41 : decode cX10_copy 41 = .ok (.invokevirtual 288, 3) := by decide +kernel
theorem dX10_copy_44 : decode cX10_copy 44 = .ok (.ifCond .eq 9, 3) := by decide +kernel
theorem dX10_copy_47 : decode cX10_copy 47 = .ok (.aload_n 0, 1) := by decide +kernel
theorem dX10_copy_48 : decode cX10_copy 48 = .ok (.iconst 1, 1) := by decide +kernel
theorem dX10_copy_49 : decode cX10_copy 49 = .ok (.invokevirtual 105, 3) := by decide +kernel
theorem dX10_copy_52 : decode cX10_copy 52 = .ok (.ireturn, 1) := by decide +kernel
theorem dX10_copy_53 : decode cX10_copy 53 = .ok (.aload 6, 2) := by decide +kernel
theorem dX10_copy_55 : decode cX10_copy 55 = .ok (.getfield 295, 3) := by decide +kernel
theorem dX10_copy_58 : decode cX10_copy 58 = .ok (.aload 7, 2) := by decide +kernel
theorem dX10_copy_60 : decode cX10_copy 60 = .ok (.getfield 295, 3) := by decide +kernel
theorem dX10_copy_63 : decode cX10_copy 63 = .ok (.if_icmp .eq 9, 3) := by decide +kernel
theorem dX10_copy_66 : decode cX10_copy 66 = .ok (.aload_n 0, 1) := by decide +kernel
theorem dX10_copy_67 : decode cX10_copy 67 = .ok (.iconst 2, 1) := by decide +kernel
theorem dX10_copy_68 : decode cX10_copy 68 = .ok (.invokevirtual 105, 3) := by decide +kernel
theorem dX10_copy_71 : decode cX10_copy 71 = .ok (.ireturn, 1) := by decide +kernel
theorem dX10_copy_72 : decode cX10_copy 72 = .ok (.aload 6, 2) := by decide +kernel
theorem dX10_copy_74 : decode cX10_copy 74 = .ok (.iload_n 2, 1) := by decide +kernel
theorem dX10_copy_75 : decode cX10_copy 75 = .ok (.iload 5, 2) := by decide +kernel
theorem dX10_copy_77 : decode cX10_copy 77 = .ok (.invokevirtual 117, 3) := by decide +kernel
theorem dX10_copy_80 : decode cX10_copy 80 = .ok (.ifCond .eq 15, 3) := by decide +kernel
theorem dX10_copy_83 : decode cX10_copy 83 = .ok (.aload 7, 2) := by decide +kernel
theorem dX10_copy_85 : decode cX10_copy 85 = .ok (.iload 4, 2) := by decide +kernel
theorem dX10_copy_87 : decode cX10_copy 87 = .ok (.iload 5, 2) := by decide +kernel
theorem dX10_copy_89 : decode cX10_copy 89 = .ok (.invokevirtual 117, 3) := by decide +kernel
theorem dX10_copy_92 : decode cX10_copy 92 = .ok (.ifCond .ne 9, 3) := by decide +kernel
theorem dX10_copy_95 : decode cX10_copy 95 = .ok (.aload_n 0, 1) := by decide +kernel
theorem dX10_copy_96 : decode cX10_copy 96 = .ok (.iconst 3, 1) := by decide +kernel
theorem dX10_copy_97 : decode cX10_copy 97 = .ok (.invokevirtual 105, 3) := by decide +kernel
theorem dX10_copy_100 : decode cX10_copy 100 = .ok (.ireturn, 1) := by decide +kernel
theorem dX10_copy_101 : decode cX10_copy 101 = .ok (.aload 6, 2) := by decide +kernel
theorem dX10_copy_103 : decode cX10_copy 103 = .ok (.getfield 111, 3) := by decide +kernel
theorem dX10_copy_106 : decode cX10_copy 106 = .ok (.iload_n 2, 1) := by decide +kernel
theorem dX10_copy_107 : decode cX10_copy 107 = .ok (.aload 7, 2) := by decide +kernel
theorem dX10_copy_109 : decode cX10_copy 109 = .ok (.getfield 111, 3) := by decide +kernel
theorem dX10_copy_112 : decode cX10_copy 112 = .ok (.iload 4, 2) := by decide +kernel
theorem dX10_copy_114 : decode cX10_copy 114 = .ok (.iload 5, 2) := by decide +kernel
theorem dX10_copy_116 : decode cX10_copy 116 = .ok (.invokestatic 298, 3) := by decide +kernel
theorem dX10_copy_119 : decode cX10_copy 119 = .ok (.iload 5, 2) := by decide +kernel
theorem dX10_copy_121 : decode cX10_copy 121 = .ok (.ireturn, 1) := by decide +kernel
set_option maxRecDepth 20000 in
theorem ggX10_tell_X10_gangAt : GoodIn wsX10_tell wsX10_gangAt := goodIn_r _ [6, 7, 8, 9, 10, 5, 11, 52, 53, 54, 55, 56, 57, 58, 59, 60, 61, 62, 63, 64] (by decide +kernel) (by decide +kernel)
set_option maxRecDepth 20000 in
theorem gX10_tell_X10_gangAt : GoodIn wsX10_tell (wsV RX10 172 RX10 yX10_gangAt wsX10_gangAt) := goodIn_app (goodIn_r _ [2, 3, 4, 5] (by decide +kernel) (by decide +kernel)) ggX10_tell_X10_gangAt
set_option maxRecDepth 20000 in
theorem ggX10_tell_X1_telling : GoodIn wsX10_tell wsX1_telling := goodIn_r _ [18, 19, 20, 21, 22, 23, 24, 25, 26, 27, 28, 29, 30, 31, 32, 33, 65, 66, 67, 68, 69, 70, 71, 72, 73, 74, 75, 76, 77] (by decide +kernel) (by decide +kernel)
set_option maxRecDepth 20000 in
theorem gX10_tell_X1_telling_u304X1 : GoodIn wsX10_tell (va_wsO RX10 304 RX1 "TributePitches$Gang" ⟨"TributePitches$Gang", "telling", "(LTributePitches$Trace;)I"⟩ yX1_telling wsX1_telling) := goodIn_app (goodIn_of _ (by decide +kernel)) ggX10_tell_X1_telling
set_option maxRecDepth 20000 in
theorem ggX10_tell_X2_telling : GoodIn wsX10_tell wsX2_telling := goodIn_r _ [34, 38, 39, 40, 28, 29, 30, 31, 32, 20, 21, 22, 23, 24, 41, 42, 43, 66, 67, 68, 69, 70, 71, 72, 73, 74, 75, 76, 77, 65] (by decide +kernel) (by decide +kernel)
set_option maxRecDepth 20000 in
theorem gX10_tell_X2_telling : GoodIn wsX10_tell (wsV RX10 304 RX2 yX2_telling wsX2_telling) := goodIn_app (goodIn_r _ [35, 36, 37, 29] (by decide +kernel) (by decide +kernel)) ggX10_tell_X2_telling
set_option maxRecDepth 20000 in
theorem ggX10_tell_X4_telling : GoodIn wsX10_tell wsX4_telling := goodIn_r _ [47, 48, 20, 21, 22, 23, 24, 49, 50, 51, 28, 29, 30, 31, 32, 65, 66, 67, 68, 69, 70, 71, 72, 73, 74, 75, 76, 77] (by decide +kernel) (by decide +kernel)
set_option maxRecDepth 20000 in
theorem gX10_tell_X4_telling_u304X4 : GoodIn wsX10_tell (va_wsO RX10 304 RX4 "TributePitches$Gang" ⟨"TributePitches$Gang", "telling", "(LTributePitches$Trace;)I"⟩ yX4_telling wsX4_telling) := goodIn_app (goodIn_of _ (by decide +kernel)) ggX10_tell_X4_telling
theorem dX10_tell_0 : decode cX10_tell 0 = .ok (.aload_n 0, 1) := by decide +kernel
theorem dX10_tell_1 : decode cX10_tell 1 = .ok (.iload_n 1, 1) := by decide +kernel
theorem dX10_tell_2 : decode cX10_tell 2 = .ok (.invokevirtual 172, 3) := by decide +kernel
theorem dX10_tell_5 : decode cX10_tell 5 = .ok (.astore_n 2, 1) := by decide +kernel
theorem dX10_tell_6 : decode cX10_tell 6 = .ok (.aload_n 2, 1) := by decide +kernel
theorem dX10_tell_7 : decode cX10_tell 7 = .ok (.ifnonnull 7, 3) := by decide +kernel
theorem dX10_tell_10 : decode cX10_tell 10 = .ok (.iconst (-1), 1) := by decide +kernel
theorem dX10_tell_11 : decode cX10_tell 11 = .ok (.goto 11, 3) := by decide +kernel
theorem dX10_tell_14 : decode cX10_tell 14 = .ok (.aload_n 2, 1) := by decide +kernel
theorem dX10_tell_15 : decode cX10_tell 15 = .ok (.aload_n 0, 1) := by decide +kernel
theorem dX10_tell_16 : decode cX10_tell 16 = .ok (.getfield 52, 3) := by decide +kernel
theorem dX10_tell_19 : decode cX10_tell 19 = .ok (.invokevirtual 304, 3) := by decide +kernel
theorem dX10_tell_22 : decode cX10_tell 22 = .ok (.ireturn, 1) := by decide +kernel
set_option maxRecDepth 20000 in
theorem ggX10_greet_X10_gangAt : GoodIn wsX10_greet wsX10_gangAt := goodIn_r _ [6, 7, 8, 9, 10, 5, 11, 40, 41, 42, 43, 44, 45, 46, 47, 48, 49, 50, 51, 52] (by decide +kernel) (by decide +kernel)
set_option maxRecDepth 20000 in
theorem gX10_greet_X10_gangAt : GoodIn wsX10_greet (wsV RX10 172 RX10 yX10_gangAt wsX10_gangAt) := goodIn_app (goodIn_r _ [2, 3, 4, 5] (by decide +kernel) (by decide +kernel)) ggX10_greet_X10_gangAt
set_option maxRecDepth 20000 in
theorem ggX10_greet_X1_greeting : GoodIn wsX10_greet wsX1_greeting := goodIn_r _ [18, 19, 20, 21, 22, 23, 24, 53] (by decide +kernel) (by decide +kernel)
set_option maxRecDepth 20000 in
theorem gX10_greet_X1_greeting_u308X1 : GoodIn wsX10_greet (va_wsO RX10 308 RX1 "TributePitches$Gang" ⟨"TributePitches$Gang", "greeting", "(LTributePitches$Trace;)I"⟩ yX1_greeting wsX1_greeting) := goodIn_app (goodIn_of _ (by decide +kernel)) ggX10_greet_X1_greeting
set_option maxRecDepth 20000 in
theorem ggX10_greet_X2_greeting : GoodIn wsX10_greet wsX2_greeting := goodIn_r _ [25, 30, 31, 20, 21, 22, 23, 24, 54, 55, 56, 57, 58, 59, 60, 61, 62, 63, 64, 65, 53] (by decide +kernel) (by decide +kernel)
set_option maxRecDepth 20000 in
theorem gX10_greet_X2_greeting : GoodIn wsX10_greet (wsV RX10 308 RX2 yX2_greeting wsX2_greeting) := goodIn_app (goodIn_r _ [26, 27, 28, 29] (by decide +kernel) (by decide +kernel)) ggX10_greet_X2_greeting
set_option maxRecDepth 20000 in
theorem ggX10_greet_X4_greeting : GoodIn wsX10_greet wsX4_greeting := goodIn_r _ [35, 36, 20, 21, 22, 23, 24, 37, 38, 39, 16, 17, 18, 19, 53] (by decide +kernel) (by decide +kernel)
set_option maxRecDepth 20000 in
theorem gX10_greet_X4_greeting_u308X4 : GoodIn wsX10_greet (va_wsO RX10 308 RX4 "TributePitches$Gang" ⟨"TributePitches$Gang", "greeting", "(LTributePitches$Trace;)I"⟩ yX4_greeting wsX4_greeting) := goodIn_app (goodIn_of _ (by decide +kernel)) ggX10_greet_X4_greeting
theorem dX10_greet_0 : decode cX10_greet 0 = .ok (.aload_n 0, 1) := by decide +kernel
theorem dX10_greet_1 : decode cX10_greet 1 = .ok (.iload_n 1, 1) := by decide +kernel
theorem dX10_greet_2 : decode cX10_greet 2 = .ok (.invokevirtual 172, 3) := by decide +kernel
theorem dX10_greet_5 : decode cX10_greet 5 = .ok (.astore_n 2, 1) := by decide +kernel
theorem dX10_greet_6 : decode cX10_greet 6 = .ok (.aload_n 2, 1) := by decide +kernel
theorem dX10_greet_7 : decode cX10_greet 7 = .ok (.ifnonnull 7, 3) := by decide +kernel
theorem dX10_greet_10 : decode cX10_greet 10 = .ok (.iconst (-1), 1) := by decide +kernel
theorem dX10_greet_11 : decode cX10_greet 11 = .ok (.goto 11, 3) := by decide +kernel
theorem dX10_greet_14 : decode cX10_greet 14 = .ok (.aload_n 2, 1) := by decide +kernel
theorem dX10_greet_15 : decode cX10_greet 15 = .ok (.aload_n 0, 1) := by decide +kernel
theorem dX10_greet_16 : decode cX10_greet 16 = .ok (.getfield 52, 3) := by decide +kernel
theorem dX10_greet_19 : decode cX10_greet 19 = .ok (.invokevirtual 308, 3) := by decide +kernel
theorem dX10_greet_22 : decode cX10_greet 22 = .ok (.ireturn, 1) := by decide +kernel
set_option maxRecDepth 20000 in
theorem ggX10_as_X10_gangAt : GoodIn wsX10_as wsX10_gangAt := goodIn_r _ [6, 7, 8, 9, 10, 5, 11, 21, 22, 23, 24, 25, 26, 27, 28, 29, 30, 31, 32, 33] (by decide +kernel) (by decide +kernel)
set_option maxRecDepth 20000 in
theorem gX10_as_X10_gangAt : GoodIn wsX10_as (wsV RX10 172 RX10 yX10_gangAt wsX10_gangAt) := goodIn_app (goodIn_r _ [2, 3, 4, 5] (by decide +kernel) (by decide +kernel)) ggX10_as_X10_gangAt
set_option maxRecDepth 20000 in
theorem ggX10_as_X10_isWithin : GoodIn wsX10_as wsX10_isWithin := goodIn_r _ [11] (by decide +kernel) (by decide +kernel)
set_option maxRecDepth 20000 in
theorem gX10_as_X10_isWithin : GoodIn wsX10_as (va_wsS RX10 64 yX10_isWithin wsX10_isWithin) := goodIn_app (goodIn_r _ [9, 10, 5] (by decide +kernel) (by decide +kernel)) ggX10_as_X10_isWithin
set_option maxRecDepth 20000 in
theorem ggX10_as_X10_isOfKind : GoodIn wsX10_as wsX10_isOfKind := goodIn_r _ [14, 15, 16] (by decide +kernel) (by decide +kernel)
set_option maxRecDepth 20000 in
theorem gX10_as_X10_isOfKind : GoodIn wsX10_as (va_wsS RX10 311 yX10_isOfKind wsX10_isOfKind) := goodIn_app (goodIn_r _ [12, 13, 5] (by decide +kernel) (by decide +kernel)) ggX10_as_X10_isOfKind
set_option maxRecDepth 20000 in
theorem ggX10_as_X10_faulted : GoodIn wsX10_as wsX10_faulted := goodIn_r _ [20, 1, 21, 22, 23, 24, 25, 26, 27, 28, 29, 30, 31, 32, 33] (by decide +kernel) (by decide +kernel)
set_option maxRecDepth 20000 in
theorem gX10_as_X10_faulted : GoodIn wsX10_as (wsV RX10 105 RX10 yX10_faulted wsX10_faulted) := goodIn_app (goodIn_r _ [17, 18, 19, 5] (by decide +kernel) (by decide +kernel)) ggX10_as_X10_faulted
theorem dX10_as_0 : decode cX10_as 0 = .ok (.aload_n 0, 1) := by decide +kernel
theorem dX10_as_1 : decode cX10_as 1 = .ok (.iconst 0, 1) := by decide +kernel
theorem dX10_as_2 : decode cX10_as 2 = .ok (.putfield 56, 3) := by decide +kernel
theorem dX10_as_5 : decode cX10_as 5 = .ok (.aload_n 0, 1) := by decide +kernel
theorem dX10_as_6 : decode cX10_as 6 = .ok (.iload_n 1, 1) := by decide +kernel
theorem dX10_as_7 : decode cX10_as 7 = .ok (.invokevirtual 172, 3) := by decide +kernel
theorem dX10_as_10 : decode cX10_as 10 = .ok (.astore_n 3, 1) := by decide +kernel
theorem dX10_as_11 : decode cX10_as 11 = .ok (.aload_n 3, 1) := by decide +kernel
theorem dX10_as_12 : decode cX10_as 12 = .ok (.ifnonnull 5, 3) := by decide +kernel
theorem dX10_as_15 : decode cX10_as 15 = .ok (.iconst (-1), 1) := by decide +kernel
theorem dX10_as_16 : decode cX10_as 16 = .ok (.ireturn, 1) := by decide +kernel
theorem dX10_as_17 : decode cX10_as 17 = .ok (.iload_n 2, 1) := by decide +kernel
theorem dX10_as_18 : decode cX10_as 18 = .ok (.iconst 0, 1) := by decide +kernel
theorem dX10_as_19 : decode cX10_as 19 = .ok (.iconst 2, 1) := by decide +kernel
theorem dX10_as_20 : decode cX10_as 20 = .ok (.invokestatic 64, 3) := by decide +kernel
theorem dX10_as_23 : decode cX10_as 23 = .ok (.ifCond .ne 6, 3) := by decide +kernel
theorem dX10_as_26 : decode cX10_as 26 = .ok (.bipush (-2), 2) := by decide +kernel
theorem dX10_as_28 : decode cX10_as 28 = .ok (.ireturn, 1) := by decide +kernel
theorem dX10_as_29 : decode cX10_as 29 = .ok (.aload_n 3, 1) := by decide +kernel
theorem dX10_as_30 : decode cX10_as 30 = .ok (.iload_n 2, 1) := by decide +kernel
theorem dX10_as_31 : decode cX10_as 31 = .ok (.invokestatic 311, 3) := by decide +kernel
theorem dX10_as_34 : decode cX10_as 34 = .ok (.ifCond .eq 7, 3) := by decide +kernel
theorem dX10_as_37 : decode cX10_as 37 = .ok (.iconst 1, 1) := by decide +kernel
theorem dX10_as_38 : decode cX10_as 38 = .ok (.goto 8, 3) := by decide +kernel
theorem dX10_as_41 : decode cX10_as 41 = .ok (.aload_n 0, 1) := by decide +kernel
theorem dX10_as_42 : decode cX10_as 42 = .ok (.iconst 2, 1) := by decide +kernel
theorem dX10_as_43 : decode cX10_as 43 = .ok (.invokevirtual 105, 3) := by decide +kernel
theorem dX10_as_46 : decode cX10_as 46 = .ok (.ireturn, 1) := by decide +kernel
theorem dX10_isOfKind_0 : decode cX10_isOfKind 0 = .ok (.iload_n 1, 1) := by decide +kernel
theorem dX10_isOfKind_1 : decode cX10_isOfKind 1 = .ok (.lookupswitch 37 #[(1, 32), (2, 27)], 27) := by decide +kernel
theorem dX10_isOfKind_28 : decode cX10_isOfKind 28 = .ok (.aload_n 0, 1) := by decide +kernel
theorem dX10_isOfKind_29 : decode cX10_isOfKind 29 = .ok (.instanceof 150, 3) := by decide +kernel
theorem dX10_isOfKind_32 : decode cX10_isOfKind 32 = .ok (.ireturn, 1) := by decide +kernel
theorem dX10_isOfKind_33 : decode cX10_isOfKind 33 = .ok (.aload_n 0, 1) := by decide +kernel
theorem dX10_isOfKind_34 : decode cX10_isOfKind 34 = .ok (.instanceof 155, 3) := by decide +kernel
theorem dX10_isOfKind_37 : decode cX10_isOfKind 37 = .ok (.ireturn, 1) := by decide +kernel
theorem dX10_isOfKind_38 : decode cX10_isOfKind 38 = .ok (.iconst 1, 1) := by decide +kernel
theorem dX10_isOfKind_39 : decode cX10_isOfKind 39 = .ok (.ireturn, 1) := by decide +kernel
theorem dX10_trace_0 : decode cX10_trace 0 = .ok (.aload_n 0, 1) := by decide +kernel
theorem dX10_trace_1 : decode cX10_trace 1 = .ok (.getfield 52, 3) := by decide +kernel
theorem dX10_trace_4 : decode cX10_trace 4 = .ok (.getfield 315, 3) := by decide +kernel
theorem dX10_trace_7 : decode cX10_trace 7 = .ok (.ireturn, 1) := by decide +kernel
theorem dX10_fault_0 : decode cX10_fault 0 = .ok (.aload_n 0, 1) := by decide +kernel
theorem dX10_fault_1 : decode cX10_fault 1 = .ok (.getfield 56, 3) := by decide +kernel
theorem dX10_fault_4 : decode cX10_fault 4 = .ok (.ireturn, 1) := by decide +kernel
theorem dX10_told_0 : decode cX10_told 0 = .ok (.iload_n 1, 1) := by decide +kernel
theorem dX10_told_1 : decode cX10_told 1 = .ok (.tableswitch 138 0 7 #[47, 52, 57, 62, 67, 75, 95, 118], 47) := by decide +kernel
theorem dX10_told_48 : decode cX10_told 48 = .ok (.aload_n 0, 1) := by decide +kernel
theorem dX10_told_49 : decode cX10_told 49 = .ok (.getfield 124, 3) := by decide +kernel
theorem dX10_told_52 : decode cX10_told 52 = .ok (.ireturn, 1) := by decide +kernel
theorem dX10_told_53 : decode cX10_told 53 = .ok (.aload_n 0, 1) := by decide +kernel
theorem dX10_told_54 : decode cX10_told 54 = .ok (.getfield 143, 3) := by decide +kernel
theorem dX10_told_57 : decode cX10_told 57 = .ok (.ireturn, 1) := by decide +kernel
theorem dX10_told_58 : decode cX10_told 58 = .ok (.aload_n 0, 1) := by decide +kernel
theorem dX10_told_59 : decode cX10_told 59 = .ok (.getfield 197, 3) := by decide +kernel
theorem dX10_told_62 : decode cX10_told 62 = .ok (.ireturn, 1) := by decide +kernel
theorem dX10_told_63 : decode cX10_told 63 = .ok (.aload_n 0, 1) := by decide +kernel
theorem dX10_told_64 : decode cX10_told 64 = .ok (.getfield 242, 3) := by decide +kernel
theorem dX10_told_67 : decode cX10_told 67 = .ok (.ireturn, 1) := by decide +kernel
theorem dX10_told_68 : decode cX10_told 68 = .ok (.aload_n 0, 1) := by decide +kernel
theorem dX10_told_69 : decode cX10_told 69 = .ok (.getfield 12, 3) := by decide +kernel
theorem dX10_told_72 : decode cX10_told 72 = .ok (.getfield 79, 3) := by decide +kernel
theorem dX10_told_75 : decode cX10_told 75 = .ok (.ireturn, 1) := by decide +kernel
theorem dX10_told_76 : decode cX10_told 76 = .ok (.aload_n 0, 1) := by decide +kernel
theorem dX10_told_77 : decode cX10_told 77 = .ok (.getfield 163, 3) := by decide +kernel
theorem dX10_told_80 : decode cX10_told 80 = .ok (.ifnonnull 8, 3) := by decide +kernel
theorem dX10_told_83 : decode cX10_told 83 = .ok (.bipush (-9), 2) := by decide +kernel
theorem dX10_told_85 : decode cX10_told 85 = .ok (.goto 10, 3) := by decide +kernel
theorem dX10_told_88 : decode cX10_told 88 = .ok (.aload_n 0, 1) := by decide +kernel
theorem dX10_told_89 : decode cX10_told 89 = .ok (.getfield 163, 3) := by decide +kernel
theorem dX10_told_92 : decode cX10_told 92 = .ok (.getfield 187, 3) := by decide +kernel
theorem dX10_told_95 : decode cX10_told 95 = .ok (.ireturn, 1) := by decide +kernel
theorem dX10_told_96 : decode cX10_told 96 = .ok (.aload_n 0, 1) := by decide +kernel
theorem dX10_told_97 : decode cX10_told 97 = .ok (.getfield 163, 3) := by decide +kernel
theorem dX10_told_100 : decode cX10_told 100 = .ok (.ifnonnull 8, 3) := by decide +kernel
theorem dX10_told_103 : decode cX10_told 103 = .ok (.bipush (-9), 2) := by decide +kernel
theorem dX10_told_105 : decode cX10_told 105 = .ok (.goto 13, 3) := by decide +kernel
theorem dX10_told_108 : decode cX10_told 108 = .ok (.aload_n 0, 1) := by decide +kernel
theorem dX10_told_109 : decode cX10_told 109 = .ok (.getfield 163, 3) := by decide +kernel
theorem dX10_told_112 : decode cX10_told 112 = .ok (.getfield 193, 3) := by decide +kernel
theorem dX10_told_115 : decode cX10_told 115 = .ok (.getfield 269, 3) := by decide +kernel
theorem dX10_told_118 : decode cX10_told 118 = .ok (.ireturn, 1) := by decide +kernel
theorem dX10_told_119 : decode cX10_told 119 = .ok (.aload_n 0, 1) := by decide +kernel
theorem dX10_told_120 : decode cX10_told 120 = .ok (.getfield 163, 3) := by decide +kernel
theorem dX10_told_123 : decode cX10_told 123 = .ok (.ifnonnull 8, 3) := by decide +kernel
theorem dX10_told_126 : decode cX10_told 126 = .ok (.bipush (-9), 2) := by decide +kernel
theorem dX10_told_128 : decode cX10_told 128 = .ok (.goto 10, 3) := by decide +kernel
theorem dX10_told_131 : decode cX10_told 131 = .ok (.aload_n 0, 1) := by decide +kernel
theorem dX10_told_132 : decode cX10_told 132 = .ok (.getfield 163, 3) := by decide +kernel
theorem dX10_told_135 : decode cX10_told 135 = .ok (.getfield 190, 3) := by decide +kernel
theorem dX10_told_138 : decode cX10_told 138 = .ok (.ireturn, 1) := by decide +kernel
theorem dX10_told_139 : decode cX10_told 139 = .ok (.bipush (-2), 2) := by decide +kernel
theorem dX10_told_141 : decode cX10_told 141 = .ok (.ireturn, 1) := by decide +kernel
theorem dX10_isWithin_0 : decode cX10_isWithin 0 = .ok (.iload_n 0, 1) := by decide +kernel
theorem dX10_isWithin_1 : decode cX10_isWithin 1 = .ok (.iload_n 1, 1) := by decide +kernel
theorem dX10_isWithin_2 : decode cX10_isWithin 2 = .ok (.if_icmp .lt 12, 3) := by decide +kernel
theorem dX10_isWithin_5 : decode cX10_isWithin 5 = .ok (.iload_n 0, 1) := by decide +kernel
theorem dX10_isWithin_6 : decode cX10_isWithin 6 = .ok (.iload_n 2, 1) := by decide +kernel
theorem dX10_isWithin_7 : decode cX10_isWithin 7 = .ok (.if_icmp .gt 7, 3) := by decide +kernel
theorem dX10_isWithin_10 : decode cX10_isWithin 10 = .ok (.iconst 1, 1) := by decide +kernel
theorem dX10_isWithin_11 : decode cX10_isWithin 11 = .ok (.goto 4, 3) := by decide +kernel
theorem dX10_isWithin_14 : decode cX10_isWithin 14 = .ok (.iconst 0, 1) := by decide +kernel
theorem dX10_isWithin_15 : decode cX10_isWithin 15 = .ok (.ireturn, 1) := by decide +kernel
set_option maxRecDepth 20000 in
theorem ggX10_pitchAt_X10_isWithin : GoodIn wsX10_pitchAt wsX10_isWithin := goodIn_r _ [6] (by decide +kernel) (by decide +kernel)
set_option maxRecDepth 20000 in
theorem gX10_pitchAt_X10_isWithin : GoodIn wsX10_pitchAt (va_wsS RX10 64 yX10_isWithin wsX10_isWithin) := goodIn_app (goodIn_r _ [3, 4, 5] (by decide +kernel) (by decide +kernel)) ggX10_pitchAt_X10_isWithin
theorem dX10_pitchAt_0 : decode cX10_pitchAt 0 = .ok (.iload_n 1, 1) := by decide +kernel
theorem dX10_pitchAt_1 : decode cX10_pitchAt 1 = .ok (.iconst 0, 1) := by decide +kernel
theorem dX10_pitchAt_2 : decode cX10_pitchAt 2 = .ok (.aload_n 0, 1) := by decide +kernel
theorem dX10_pitchAt_3 : decode cX10_pitchAt 3 = .ok (.getfield 124, 3) := by decide +kernel
theorem dX10_pitchAt_6 : decode cX10_pitchAt 6 = .ok (.iconst 1, 1) := by decide +kernel
theorem dX10_pitchAt_7 : decode cX10_pitchAt 7 = .ok (.isub, 1) := by decide +kernel
theorem dX10_pitchAt_8 : decode cX10_pitchAt 8 = .ok (.invokestatic 64, 3) := by decide +kernel
theorem dX10_pitchAt_11 : decode cX10_pitchAt 11 = .ok (.ifCond .eq 12, 3) := by decide +kernel
theorem dX10_pitchAt_14 : decode cX10_pitchAt 14 = .ok (.aload_n 0, 1) := by decide +kernel
theorem dX10_pitchAt_15 : decode cX10_pitchAt 15 = .ok (.getfield 20, 3) := by decide +kernel
theorem dX10_pitchAt_18 : decode cX10_pitchAt 18 = .ok (.iload_n 1, 1) := by decide +kernel
theorem dX10_pitchAt_19 : decode cX10_pitchAt 19 = .ok (.aaload, 1) := by decide +kernel
theorem dX10_pitchAt_20 : decode cX10_pitchAt 20 = .ok (.goto 4, 3) := by decide +kernel
theorem dX10_pitchAt_23 : decode cX10_pitchAt 23 = .ok (.aconst_null, 1) := by decide +kernel
theorem dX10_pitchAt_24 : decode cX10_pitchAt 24 = .ok (.areturn, 1) := by decide +kernel
set_option maxRecDepth 20000 in
theorem ggX10_gangAt_X10_isWithin : GoodIn wsX10_gangAt wsX10_isWithin := goodIn_r _ [6] (by decide +kernel) (by decide +kernel)
set_option maxRecDepth 20000 in
theorem gX10_gangAt_X10_isWithin : GoodIn wsX10_gangAt (va_wsS RX10 64 yX10_isWithin wsX10_isWithin) := goodIn_app (goodIn_r _ [3, 4, 5] (by decide +kernel) (by decide +kernel)) ggX10_gangAt_X10_isWithin
theorem dX10_gangAt_0 : decode cX10_gangAt 0 = .ok (.iload_n 1, 1) := by decide +kernel
theorem dX10_gangAt_1 : decode cX10_gangAt 1 = .ok (.iconst 0, 1) := by decide +kernel
theorem dX10_gangAt_2 : decode cX10_gangAt 2 = .ok (.aload_n 0, 1) := by decide +kernel
theorem dX10_gangAt_3 : decode cX10_gangAt 3 = .ok (.getfield 143, 3) := by decide +kernel
theorem dX10_gangAt_6 : decode cX10_gangAt 6 = .ok (.iconst 1, 1) := by decide +kernel
theorem dX10_gangAt_7 : decode cX10_gangAt 7 = .ok (.isub, 1) := by decide +kernel
theorem dX10_gangAt_8 : decode cX10_gangAt 8 = .ok (.invokestatic 64, 3) := by decide +kernel
theorem dX10_gangAt_11 : decode cX10_gangAt 11 = .ok (.ifCond .eq 12, 3) := by decide +kernel
theorem dX10_gangAt_14 : decode cX10_gangAt 14 = .ok (.aload_n 0, 1) := by decide +kernel
theorem dX10_gangAt_15 : decode cX10_gangAt 15 = .ok (.getfield 26, 3) := by decide +kernel
theorem dX10_gangAt_18 : decode cX10_gangAt 18 = .ok (.iload_n 1, 1) := by decide +kernel
theorem dX10_gangAt_19 : decode cX10_gangAt 19 = .ok (.aaload, 1) := by decide +kernel
theorem dX10_gangAt_20 : decode cX10_gangAt 20 = .ok (.goto 4, 3) := by decide +kernel
theorem dX10_gangAt_23 : decode cX10_gangAt 23 = .ok (.aconst_null, 1) := by decide +kernel
theorem dX10_gangAt_24 : decode cX10_gangAt 24 = .ok (.areturn, 1) := by decide +kernel
set_option maxRecDepth 20000 in
theorem ggX10_takeAt_X10_isWithin : GoodIn wsX10_takeAt wsX10_isWithin := goodIn_r _ [6] (by decide +kernel) (by decide +kernel)
set_option maxRecDepth 20000 in
theorem gX10_takeAt_X10_isWithin : GoodIn wsX10_takeAt (va_wsS RX10 64 yX10_isWithin wsX10_isWithin) := goodIn_app (goodIn_r _ [3, 4, 5] (by decide +kernel) (by decide +kernel)) ggX10_takeAt_X10_isWithin
theorem dX10_takeAt_0 : decode cX10_takeAt 0 = .ok (.iload_n 1, 1) := by decide +kernel
theorem dX10_takeAt_1 : decode cX10_takeAt 1 = .ok (.iconst 0, 1) := by decide +kernel
theorem dX10_takeAt_2 : decode cX10_takeAt 2 = .ok (.aload_n 0, 1) := by decide +kernel
theorem dX10_takeAt_3 : decode cX10_takeAt 3 = .ok (.getfield 197, 3) := by decide +kernel
theorem dX10_takeAt_6 : decode cX10_takeAt 6 = .ok (.iconst 1, 1) := by decide +kernel
theorem dX10_takeAt_7 : decode cX10_takeAt 7 = .ok (.isub, 1) := by decide +kernel
theorem dX10_takeAt_8 : decode cX10_takeAt 8 = .ok (.invokestatic 64, 3) := by decide +kernel
theorem dX10_takeAt_11 : decode cX10_takeAt 11 = .ok (.ifCond .eq 12, 3) := by decide +kernel
theorem dX10_takeAt_14 : decode cX10_takeAt 14 = .ok (.aload_n 0, 1) := by decide +kernel
theorem dX10_takeAt_15 : decode cX10_takeAt 15 = .ok (.getfield 32, 3) := by decide +kernel
theorem dX10_takeAt_18 : decode cX10_takeAt 18 = .ok (.iload_n 1, 1) := by decide +kernel
theorem dX10_takeAt_19 : decode cX10_takeAt 19 = .ok (.aaload, 1) := by decide +kernel
theorem dX10_takeAt_20 : decode cX10_takeAt 20 = .ok (.goto 4, 3) := by decide +kernel
theorem dX10_takeAt_23 : decode cX10_takeAt 23 = .ok (.aconst_null, 1) := by decide +kernel
theorem dX10_takeAt_24 : decode cX10_takeAt 24 = .ok (.areturn, 1) := by decide +kernel
set_option maxRecDepth 20000 in
theorem ggX10_sheetAt_X10_isWithin : GoodIn wsX10_sheetAt wsX10_isWithin := goodIn_r _ [5] (by decide +kernel) (by decide +kernel)
set_option maxRecDepth 20000 in
theorem gX10_sheetAt_X10_isWithin : GoodIn wsX10_sheetAt (va_wsS RX10 64 yX10_isWithin wsX10_isWithin) := goodIn_app (goodIn_r _ [2, 3, 4] (by decide +kernel) (by decide +kernel)) ggX10_sheetAt_X10_isWithin
theorem dX10_sheetAt_0 : decode cX10_sheetAt 0 = .ok (.iload_n 1, 1) := by decide +kernel
theorem dX10_sheetAt_1 : decode cX10_sheetAt 1 = .ok (.iconst 0, 1) := by decide +kernel
theorem dX10_sheetAt_2 : decode cX10_sheetAt 2 = .ok (.aload_n 0, 1) := by decide +kernel
theorem dX10_sheetAt_3 : decode cX10_sheetAt 3 = .ok (.getfield 45, 3) := by decide +kernel
theorem dX10_sheetAt_6 : decode cX10_sheetAt 6 = .ok (.arraylength, 1) := by decide +kernel
theorem dX10_sheetAt_7 : decode cX10_sheetAt 7 = .ok (.iconst 1, 1) := by decide +kernel
theorem dX10_sheetAt_8 : decode cX10_sheetAt 8 = .ok (.isub, 1) := by decide +kernel
theorem dX10_sheetAt_9 : decode cX10_sheetAt 9 = .ok (.invokestatic 64, 3) := by decide +kernel
theorem dX10_sheetAt_12 : decode cX10_sheetAt 12 = .ok (.ifCond .eq 12, 3) := by decide +kernel
theorem dX10_sheetAt_15 : decode cX10_sheetAt 15 = .ok (.aload_n 0, 1) := by decide +kernel
theorem dX10_sheetAt_16 : decode cX10_sheetAt 16 = .ok (.getfield 45, 3) := by decide +kernel
theorem dX10_sheetAt_19 : decode cX10_sheetAt 19 = .ok (.iload_n 1, 1) := by decide +kernel
theorem dX10_sheetAt_20 : decode cX10_sheetAt 20 = .ok (.aaload, 1) := by decide +kernel
theorem dX10_sheetAt_21 : decode cX10_sheetAt 21 = .ok (.goto 4, 3) := by decide +kernel
theorem dX10_sheetAt_24 : decode cX10_sheetAt 24 = .ok (.aconst_null, 1) := by decide +kernel
theorem dX10_sheetAt_25 : decode cX10_sheetAt 25 = .ok (.areturn, 1) := by decide +kernel
theorem dX10_faulted_0 : decode cX10_faulted 0 = .ok (.aload_n 0, 1) := by decide +kernel
theorem dX10_faulted_1 : decode cX10_faulted 1 = .ok (.iload_n 1, 1) := by decide +kernel
theorem dX10_faulted_2 : decode cX10_faulted 2 = .ok (.putfield 56, 3) := by decide +kernel
theorem dX10_faulted_5 : decode cX10_faulted 5 = .ok (.bipush (-10), 2) := by decide +kernel
theorem dX10_faulted_7 : decode cX10_faulted 7 = .ok (.iload_n 1, 1) := by decide +kernel
theorem dX10_faulted_8 : decode cX10_faulted 8 = .ok (.isub, 1) := by decide +kernel
theorem dX10_faulted_9 : decode cX10_faulted 9 = .ok (.ireturn, 1) := by decide +kernel
theorem dX11_init_0 : decode cX11_init 0 = .ok (.aload_n 0, 1) := by decide +kernel
theorem dX11_init_1 : decode cX11_init 1 = .ok (.invokespecial 1, 3) := by decide +kernel
theorem dX11_init_4 : decode cX11_init 4 = .ok (.aload_n 0, 1) := by decide +kernel
theorem dX11_init_5 : decode cX11_init 5 = .ok (.bipush 48, 2) := by decide +kernel
theorem dX11_init_7 : decode cX11_init 7 = .ok (.newarray .int, 2) := by decide +kernel
theorem dX11_init_9 : decode cX11_init 9 = .ok (.putfield 7, 3) := by decide +kernel
theorem dX11_init_12 : decode cX11_init 12 = .ok (.aload_n 0, 1) := by decide +kernel
theorem dX11_init_13 : decode cX11_init 13 = .ok (.bipush 48, 2) := by decide +kernel
theorem dX11_init_15 : decode cX11_init 15 = .ok (.newarray .int, 2) := by decide +kernel
theorem dX11_init_17 : decode cX11_init 17 = .ok (.putfield 13, 3) := by decide +kernel
theorem dX11_init_20 : decode cX11_init 20 = .ok (.aload_n 0, 1) := by decide +kernel
theorem dX11_init_21 : decode cX11_init 21 = .ok (.bipush 48, 2) := by decide +kernel
theorem dX11_init_23 : decode cX11_init 23 = .ok (.newarray .int, 2) := by decide +kernel
theorem dX11_init_25 : decode cX11_init 25 = .ok (.putfield 16, 3) := by decide +kernel
theorem dX11_init_28 : decode cX11_init 28 = .ok (.aload_n 0, 1) := by decide +kernel
theorem dX11_init_29 : decode cX11_init 29 = .ok (.bipush 48, 2) := by decide +kernel
theorem dX11_init_31 : decode cX11_init 31 = .ok (.newarray .int, 2) := by decide +kernel
theorem dX11_init_33 : decode cX11_init 33 = .ok (.putfield 19, 3) := by decide +kernel
theorem dX11_init_36 : decode cX11_init 36 = .ok (.aload_n 0, 1) := by decide +kernel
theorem dX11_init_37 : decode cX11_init 37 = .ok (.iconst 4, 1) := by decide +kernel
theorem dX11_init_38 : decode cX11_init 38 = .ok (.newarray .int, 2) := by decide +kernel
theorem dX11_init_40 : decode cX11_init 40 = .ok (.putfield 22, 3) := by decide +kernel
theorem dX11_init_43 : decode cX11_init 43 = .ok (.aload_n 0, 1) := by decide +kernel
theorem dX11_init_44 : decode cX11_init 44 = .ok (.iconst 4, 1) := by decide +kernel
theorem dX11_init_45 : decode cX11_init 45 = .ok (.newarray .int, 2) := by decide +kernel
theorem dX11_init_47 : decode cX11_init 47 = .ok (.putfield 25, 3) := by decide +kernel
theorem dX11_init_50 : decode cX11_init 50 = .ok (.aload_n 0, 1) := by decide +kernel
theorem dX11_init_51 : decode cX11_init 51 = .ok (.sipush 192, 3) := by decide +kernel
theorem dX11_init_54 : decode cX11_init 54 = .ok (.newarray .int, 2) := by decide +kernel
theorem dX11_init_56 : decode cX11_init 56 = .ok (.putfield 28, 3) := by decide +kernel
theorem dX11_init_59 : decode cX11_init 59 = .ok (.aload_n 0, 1) := by decide +kernel
theorem dX11_init_60 : decode cX11_init 60 = .ok (.bipush 48, 2) := by decide +kernel
theorem dX11_init_62 : decode cX11_init 62 = .ok (.newarray .int, 2) := by decide +kernel
theorem dX11_init_64 : decode cX11_init 64 = .ok (.putfield 31, 3) := by decide +kernel
theorem dX11_init_67 : decode cX11_init 67 = .ok (.aload_n 0, 1) := by decide +kernel
theorem dX11_init_68 : decode cX11_init 68 = .ok (.bipush 12, 2) := by decide +kernel
theorem dX11_init_70 : decode cX11_init 70 = .ok (.newarray .int, 2) := by decide +kernel
theorem dX11_init_72 : decode cX11_init 72 = .ok (.putfield 34, 3) := by decide +kernel
theorem dX11_init_75 : decode cX11_init 75 = .ok (.aload_n 0, 1) := by decide +kernel
theorem dX11_init_76 : decode cX11_init 76 = .ok (.bipush 12, 2) := by decide +kernel
theorem dX11_init_78 : decode cX11_init 78 = .ok (.newarray .int, 2) := by decide +kernel
theorem dX11_init_80 : decode cX11_init 80 = .ok (.putfield 37, 3) := by decide +kernel
theorem dX11_init_83 : decode cX11_init 83 = .ok (.aload_n 0, 1) := by decide +kernel
theorem dX11_init_84 : decode cX11_init 84 = .ok (.bipush 12, 2) := by decide +kernel
theorem dX11_init_86 : decode cX11_init 86 = .ok (.newarray .int, 2) := by decide +kernel
theorem dX11_init_88 : decode cX11_init 88 = .ok (.putfield 40, 3) := by decide +kernel
theorem dX11_init_91 : decode cX11_init 91 = .ok (.aload_n 0, 1) := by decide +kernel
theorem dX11_init_92 : decode cX11_init 92 = .ok (.bipush 12, 2) := by decide +kernel
theorem dX11_init_94 : decode cX11_init 94 = .ok (.newarray .int, 2) := by decide +kernel
theorem dX11_init_96 : decode cX11_init 96 = .ok (.putfield 43, 3) := by decide +kernel
theorem dX11_init_99 : decode cX11_init 99 = .ok (.aload_n 0, 1) := by decide +kernel
theorem dX11_init_100 : decode cX11_init 100 = .ok (.bipush 12, 2) := by decide +kernel
theorem dX11_init_102 : decode cX11_init 102 = .ok (.newarray .int, 2) := by decide +kernel
theorem dX11_init_104 : decode cX11_init 104 = .ok (.putfield 46, 3) := by decide +kernel
theorem dX11_init_107 : decode cX11_init 107 = .ok (.aload_n 0, 1) := by decide +kernel
theorem dX11_init_108 : decode cX11_init 108 = .ok (.bipush 8, 2) := by decide +kernel
theorem dX11_init_110 : decode cX11_init 110 = .ok (.newarray .int, 2) := by decide +kernel
theorem dX11_init_112 : decode cX11_init 112 = .ok (.putfield 49, 3) := by decide +kernel
theorem dX11_init_115 : decode cX11_init 115 = .ok (.aload_n 0, 1) := by decide +kernel
theorem dX11_init_116 : decode cX11_init 116 = .ok (.bipush 8, 2) := by decide +kernel
theorem dX11_init_118 : decode cX11_init 118 = .ok (.newarray .long, 2) := by decide +kernel
theorem dX11_init_120 : decode cX11_init 120 = .ok (.putfield 52, 3) := by decide +kernel
theorem dX11_init_123 : decode cX11_init 123 = .ok (.aload_n 0, 1) := by decide +kernel
theorem dX11_init_124 : decode cX11_init 124 = .ok (.bipush 40, 2) := by decide +kernel
theorem dX11_init_126 : decode cX11_init 126 = .ok (.newarray .int, 2) := by decide +kernel
theorem dX11_init_128 : decode cX11_init 128 = .ok (.putfield 56, 3) := by decide +kernel
theorem dX11_init_131 : decode cX11_init 131 = .ok (.aload_n 0, 1) := by decide +kernel
theorem dX11_init_132 : decode cX11_init 132 = .ok (.bipush 40, 2) := by decide +kernel
theorem dX11_init_134 : decode cX11_init 134 = .ok (.newarray .int, 2) := by decide +kernel
theorem dX11_init_136 : decode cX11_init 136 = .ok (.putfield 59, 3) := by decide +kernel
theorem dX11_init_139 : decode cX11_init 139 = .ok (.aload_n 0, 1) := by decide +kernel
theorem dX11_init_140 : decode cX11_init 140 = .ok (.bipush 40, 2) := by decide +kernel
theorem dX11_init_142 : decode cX11_init 142 = .ok (.newarray .int, 2) := by decide +kernel
theorem dX11_init_144 : decode cX11_init 144 = .ok (.putfield 62, 3) := by decide +kernel
theorem dX11_init_147 : decode cX11_init 147 = .ok (.aload_n 0, 1) := by decide +kernel
theorem dX11_init_148 : decode cX11_init 148 = .ok (.bipush 40, 2) := by decide +kernel
theorem dX11_init_150 : decode cX11_init 150 = .ok (.newarray .boolean, 2) := by decide +kernel
theorem dX11_init_152 : decode cX11_init 152 = .ok (.putfield 65, 3) := by decide +kernel
theorem dX11_init_155 : decode cX11_init 155 = .ok (.aload_n 0, 1) := by decide +kernel
theorem dX11_init_156 : decode cX11_init 156 = .ok (.bipush 40, 2) := by decide +kernel
theorem dX11_init_158 : decode cX11_init 158 = .ok (.newarray .long, 2) := by decide +kernel
theorem dX11_init_160 : decode cX11_init 160 = .ok (.putfield 69, 3) := by decide +kernel
theorem dX11_init_163 : decode cX11_init 163 = .ok (.aload_n 0, 1) := by decide +kernel
theorem dX11_init_164 : decode cX11_init 164 = .ok (.bipush 40, 2) := by decide +kernel
theorem dX11_init_166 : decode cX11_init 166 = .ok (.newarray .long, 2) := by decide +kernel
theorem dX11_init_168 : decode cX11_init 168 = .ok (.putfield 72, 3) := by decide +kernel
theorem dX11_init_171 : decode cX11_init 171 = .ok (.aload_n 0, 1) := by decide +kernel
theorem dX11_init_172 : decode cX11_init 172 = .ok (.bipush 40, 2) := by decide +kernel
theorem dX11_init_174 : decode cX11_init 174 = .ok (.newarray .long, 2) := by decide +kernel
theorem dX11_init_176 : decode cX11_init 176 = .ok (.putfield 75, 3) := by decide +kernel
theorem dX11_init_179 : decode cX11_init 179 = .ok (.aload_n 0, 1) := by decide +kernel
theorem dX11_init_180 : decode cX11_init 180 = .ok (.bipush 40, 2) := by decide +kernel
theorem dX11_init_182 : decode cX11_init 182 = .ok (.newarray .long, 2) := by decide +kernel
theorem dX11_init_184 : decode cX11_init 184 = .ok (.putfield 78, 3) := by decide +kernel
theorem dX11_init_187 : decode cX11_init 187 = .ok (.aload_n 0, 1) := by decide +kernel
theorem dX11_init_188 : decode cX11_init 188 = .ok (.bipush 40, 2) := by decide +kernel
theorem dX11_init_190 : decode cX11_init 190 = .ok (.newarray .long, 2) := by decide +kernel
theorem dX11_init_192 : decode cX11_init 192 = .ok (.putfield 81, 3) := by decide +kernel
theorem dX11_init_195 : decode cX11_init 195 = .ok (.aload_n 0, 1) := by decide +kernel
theorem dX11_init_196 : decode cX11_init 196 = .ok (.bipush 80, 2) := by decide +kernel
theorem dX11_init_198 : decode cX11_init 198 = .ok (.newarray .int, 2) := by decide +kernel
theorem dX11_init_200 : decode cX11_init 200 = .ok (.putfield 84, 3) := by decide +kernel
theorem dX11_init_203 : decode cX11_init 203 = .ok (.aload_n 0, 1) := by decide +kernel
theorem dX11_init_204 : decode cX11_init 204 = .ok (.bipush 80, 2) := by decide +kernel
theorem dX11_init_206 : decode cX11_init 206 = .ok (.newarray .int, 2) := by decide +kernel
theorem dX11_init_208 : decode cX11_init 208 = .ok (.putfield 87, 3) := by decide +kernel
theorem dX11_init_211 : decode cX11_init 211 = .ok (.aload_n 0, 1) := by decide +kernel
theorem dX11_init_212 : decode cX11_init 212 = .ok (.bipush 80, 2) := by decide +kernel
theorem dX11_init_214 : decode cX11_init 214 = .ok (.newarray .int, 2) := by decide +kernel
theorem dX11_init_216 : decode cX11_init 216 = .ok (.putfield 90, 3) := by decide +kernel
theorem dX11_init_219 : decode cX11_init 219 = .ok (.aload_n 0, 1) := by decide +kernel
theorem dX11_init_220 : decode cX11_init 220 = .ok (.sipush 1000, 3) := by decide +kernel
theorem dX11_init_223 : decode cX11_init 223 = .ok (.putfield 93, 3) := by decide +kernel
theorem dX11_init_226 : decode cX11_init 226 = .ok (.iconst 0, 1) := by decide +kernel
theorem dX11_init_227 : decode cX11_init 227 = .ok (.istore_n 1, 1) := by decide +kernel
theorem dX11_init_228 : decode cX11_init 228 = .ok (.iload_n 1, 1) := by decide +kernel
theorem dX11_init_229 : decode cX11_init 229 = .ok (.bipush 48, 2) := by decide +kernel
theorem dX11_init_231 : decode cX11_init 231 = .ok (.if_icmp .ge 18, 3) := by decide +kernel
theorem dX11_init_234 : decode cX11_init 234 = .ok (.aload_n 0, 1) := by decide +kernel
theorem dX11_init_235 : decode cX11_init 235 = .ok (.getfield 13, 3) := by decide +kernel
theorem dX11_init_238 : decode cX11_init 238 = .ok (.iload_n 1, 1) := by decide +kernel
theorem dX11_init_239 : decode cX11_init 239 = .ok (.sipush 1000, 3) := by decide +kernel
theorem dX11_init_242 : decode cX11_init 242 = .ok (.iastore, 1) := by decide +kernel
theorem dX11_init_243 : decode cX11_init 243 = .ok (.iinc 1 1, 3) := by decide +kernel
theorem dX11_init_246 : decode cX11_init 246 = .ok (.goto (-18), 3) := by decide +kernel
theorem dX11_init_249 : decode cX11_init 249 = .ok (.iconst 0, 1) := by decide +kernel
theorem dX11_init_250 : decode cX11_init 250 = .ok (.istore_n 1, 1) := by decide +kernel
theorem dX11_init_251 : decode cX11_init 251 = .ok (.iload_n 1, 1) := by decide +kernel
theorem dX11_init_252 : decode cX11_init 252 = .ok (.iconst 4, 1) := by decide +kernel
theorem dX11_init_253 : decode cX11_init 253 = .ok (.if_icmp .ge 16, 3) := by decide +kernel
theorem dX11_init_256 : decode cX11_init 256 = .ok (.aload_n 0, 1) := by decide +kernel
theorem dX11_init_257 : decode cX11_init 257 = .ok (.getfield 22, 3) := by decide +kernel
theorem dX11_init_260 : decode cX11_init 260 = .ok (.iload_n 1, 1) := by decide +kernel
theorem dX11_init_261 : decode cX11_init 261 = .ok (.iconst (-1), 1) := by decide +kernel
theorem dX11_init_262 : decode cX11_init 262 = .ok (.iastore, 1) := by decide +kernel
theorem dX11_init_263 : decode cX11_init 263 = .ok (.iinc 1 1, 3) := by decide +kernel
theorem dX11_init_266 : decode cX11_init 266 = .ok (.goto (-15), 3) := by decide +kernel
theorem dX11_init_269 : decode cX11_init 269 = .ok (.aload_n 0, 1) := by decide +kernel
theorem dX11_init_270 : decode cX11_init 270 = .ok (.bipush (-9), 2) := by decide +kernel
theorem dX11_init_272 : decode cX11_init 272 = .ok (.putfield 97, 3) := by decide +kernel
theorem dX11_init_275 : decode cX11_init 275 = .ok (.return_, 1) := by decide +kernel
theorem dX11_in_0 : decode cX11_in 0 = .ok (.lload_n 0, 1) := by decide +kernel
theorem dX11_in_1 : decode cX11_in 1 = .ok (.lload_n 2, 1) := by decide +kernel
theorem dX11_in_2 : decode cX11_in 2 = .ok (.lcmp, 1) := by decide +kernel
theorem dX11_in_3 : decode cX11_in 3 = .ok (.ifCond .lt 14, 3) := by decide +kernel
theorem dX11_in_6 : decode cX11_in 6 = .ok (.lload_n 0, 1) := by decide +kernel
theorem dX11_in_7 : decode cX11_in 7 = .ok (.lload 4, 2) := by decide +kernel
theorem dX11_in_9 : decode cX11_in 9 = .ok (.lcmp, 1) := by decide +kernel
theorem dX11_in_10 : decode cX11_in 10 = .ok (.ifCond .gt 7, 3) := by decide +kernel
theorem dX11_in_13 : decode cX11_in 13 = .ok (.iconst 1, 1) := by decide +kernel
theorem dX11_in_14 : decode cX11_in 14 = .ok (.goto 4, 3) := by decide +kernel
theorem dX11_in_17 : decode cX11_in 17 = .ok (.iconst 0, 1) := by decide +kernel
theorem dX11_in_18 : decode cX11_in 18 = .ok (.ireturn, 1) := by decide +kernel
theorem dX11_lost_0 : decode cX11_lost 0 = .ok (.ldc2_w 100, 3) := by decide +kernel
theorem dX11_lost_3 : decode cX11_lost 3 = .ok (.lreturn, 1) := by decide +kernel
theorem dX11_refused_0 : decode cX11_refused 0 = .ok (.aload_n 0, 1) := by decide +kernel
theorem dX11_refused_1 : decode cX11_refused 1 = .ok (.iconst 0, 1) := by decide +kernel
theorem dX11_refused_2 : decode cX11_refused 2 = .ok (.putfield 102, 3) := by decide +kernel
theorem dX11_refused_5 : decode cX11_refused 5 = .ok (.iload_n 1, 1) := by decide +kernel
theorem dX11_refused_6 : decode cX11_refused 6 = .ok (.ireturn, 1) := by decide +kernel
theorem dX11_failed_0 : decode cX11_failed 0 = .ok (.aload_n 0, 1) := by decide +kernel
theorem dX11_failed_1 : decode cX11_failed 1 = .ok (.iload_n 1, 1) := by decide +kernel
theorem dX11_failed_2 : decode cX11_failed 2 = .ok (.putfield 102, 3) := by decide +kernel
theorem dX11_failed_5 : decode cX11_failed 5 = .ok (.bipush (-10), 2) := by decide +kernel
theorem dX11_failed_7 : decode cX11_failed 7 = .ok (.iload_n 1, 1) := by decide +kernel
theorem dX11_failed_8 : decode cX11_failed 8 = .ok (.isub, 1) := by decide +kernel
theorem dX11_failed_9 : decode cX11_failed 9 = .ok (.ireturn, 1) := by decide +kernel
set_option maxRecDepth 20000 in
theorem ggX11_failedLong_X11_lost : GoodIn wsX11_failedLong wsX11_lost := goodIn_r _ [5, 6] (by decide +kernel) (by decide +kernel)
set_option maxRecDepth 20000 in
theorem gX11_failedLong_X11_lost : GoodIn wsX11_failedLong (va_wsS RX11 105 yX11_lost wsX11_lost) := goodIn_app (goodIn_r _ [2, 3, 4] (by decide +kernel) (by decide +kernel)) ggX11_failedLong_X11_lost
theorem dX11_failedLong_0 : decode cX11_failedLong 0 = .ok (.aload_n 0, 1) := by decide +kernel
theorem dX11_failedLong_1 : decode cX11_failedLong 1 = .ok (.iload_n 1, 1) := by decide +kernel
theorem dX11_failedLong_2 : decode cX11_failedLong 2 = .ok (.putfield 102, 3) := by decide +kernel
theorem dX11_failedLong_5 : decode cX11_failedLong 5 = .ok (.invokestatic 105, 3) := by decide +kernel
theorem dX11_failedLong_8 : decode cX11_failedLong 8 = .ok (.lreturn, 1) := by decide +kernel
set_option maxRecDepth 20000 in
theorem ggX11_isSquare_X11_in : GoodIn wsX11_isSquare wsX11_in := goodIn_r _ [6] (by decide +kernel) (by decide +kernel)
set_option maxRecDepth 20000 in
theorem gX11_isSquare_X11_in : GoodIn wsX11_isSquare (va_wsS RX11 111 yX11_in wsX11_in) := goodIn_app (goodIn_r _ [3, 4, 5] (by decide +kernel) (by decide +kernel)) ggX11_isSquare_X11_in
theorem dX11_isSquare_0 : decode cX11_isSquare 0 = .ok (.iload_n 0, 1) := by decide +kernel
theorem dX11_isSquare_1 : decode cX11_isSquare 1 = .ok (.i2l, 1) := by decide +kernel
theorem dX11_isSquare_2 : decode cX11_isSquare 2 = .ok (.lconst 0, 1) := by decide +kernel
theorem dX11_isSquare_3 : decode cX11_isSquare 3 = .ok (.ldc2_w 109, 3) := by decide +kernel
theorem dX11_isSquare_6 : decode cX11_isSquare 6 = .ok (.invokestatic 111, 3) := by decide +kernel
theorem dX11_isSquare_9 : decode cX11_isSquare 9 = .ok (.ifCond .eq 19, 3) := by decide +kernel
theorem dX11_isSquare_12 : decode cX11_isSquare 12 = .ok (.iload_n 1, 1) := by decide +kernel
theorem dX11_isSquare_13 : decode cX11_isSquare 13 = .ok (.i2l, 1) := by decide +kernel
theorem dX11_isSquare_14 : decode cX11_isSquare 14 = .ok (.lconst 0, 1) := by decide +kernel
theorem dX11_isSquare_15 : decode cX11_isSquare 15 = .ok (.ldc2_w 115, 3) := by decide +kernel
theorem dX11_isSquare_18 : decode cX11_isSquare 18 = .ok (.invokestatic 111, 3) := by decide +kernel
theorem dX11_isSquare_21 : decode cX11_isSquare 21 = .ok (.ifCond .eq 7, 3) := by decide +kernel
theorem dX11_isSquare_24 : decode cX11_isSquare 24 = .ok (.iconst 1, 1) := by decide +kernel
theorem dX11_isSquare_25 : decode cX11_isSquare 25 = .ok (.goto 4, 3) := by decide +kernel
theorem dX11_isSquare_28 : decode cX11_isSquare 28 = .ok (.iconst 0, 1) := by decide +kernel
theorem dX11_isSquare_29 : decode cX11_isSquare 29 = .ok (.ireturn, 1) := by decide +kernel
theorem dX11_layNew_0 : decode cX11_layNew 0 = .ok (.iconst 0, 1) := by decide +kernel
theorem dX11_layNew_1 : decode cX11_layNew 1 = .ok (.istore_n 1, 1) := by decide +kernel
theorem dX11_layNew_2 : decode cX11_layNew 2 = .ok (.iload_n 1, 1) := by decide +kernel
theorem dX11_layNew_3 : decode cX11_layNew 3 = .ok (.bipush 48, 2) := by decide +kernel
theorem dX11_layNew_5 : decode cX11_layNew 5 = .ok (.if_icmp .ge 33, 3) := by decide +kernel
theorem dX11_layNew_8 : decode cX11_layNew 8 = .ok (.aload_n 0, 1) := by decide +kernel
theorem dX11_layNew_9 : decode cX11_layNew 9 = .ok (.getfield 16, 3) := by decide +kernel
theorem dX11_layNew_12 : decode cX11_layNew 12 = .ok (.iload_n 1, 1) := by decide +kernel
theorem dX11_layNew_13 : decode cX11_layNew 13 = .ok (.aload_n 0, 1) := by decide +kernel
theorem dX11_layNew_14 : decode cX11_layNew 14 = .ok (.getfield 7, 3) := by decide +kernel
theorem dX11_layNew_17 : decode cX11_layNew 17 = .ok (.iload_n 1, 1) := by decide +kernel
theorem dX11_layNew_18 : decode cX11_layNew 18 = .ok (.iaload, 1) := by decide +kernel
theorem dX11_layNew_19 : decode cX11_layNew 19 = .ok (.iastore, 1) := by decide +kernel
theorem dX11_layNew_20 : decode cX11_layNew 20 = .ok (.aload_n 0, 1) := by decide +kernel
theorem dX11_layNew_21 : decode cX11_layNew 21 = .ok (.getfield 19, 3) := by decide +kernel
theorem dX11_layNew_24 : decode cX11_layNew 24 = .ok (.iload_n 1, 1) := by decide +kernel
theorem dX11_layNew_25 : decode cX11_layNew 25 = .ok (.aload_n 0, 1) := by decide +kernel
theorem dX11_layNew_26 : decode cX11_layNew 26 = .ok (.getfield 13, 3) := by decide +kernel
theorem dX11_layNew_29 : decode cX11_layNew 29 = .ok (.iload_n 1, 1) := by decide +kernel
theorem dX11_layNew_30 : decode cX11_layNew 30 = .ok (.iaload, 1) := by decide +kernel
theorem dX11_layNew_31 : decode cX11_layNew 31 = .ok (.iastore, 1) := by decide +kernel
theorem dX11_layNew_32 : decode cX11_layNew 32 = .ok (.iinc 1 1, 3) := by decide +kernel
theorem dX11_layNew_35 : decode cX11_layNew 35 = .ok (.goto (-33), 3) := by decide +kernel
theorem dX11_layNew_38 : decode cX11_layNew 38 = .ok (.return_, 1) := by decide +kernel
theorem dX11_meet_0 : decode cX11_meet 0 = .ok (.iload_n 2, 1) := by decide +kernel
theorem dX11_meet_1 : decode cX11_meet 1 = .ok (.aload_n 0, 1) := by decide +kernel
theorem dX11_meet_2 : decode cX11_meet 2 = .ok (.getfield 16, 3) := by decide +kernel
theorem dX11_meet_5 : decode cX11_meet 5 = .ok (.iload_n 1, 1) := by decide +kernel
theorem dX11_meet_6 : decode cX11_meet 6 = .ok (.iaload, 1) := by decide +kernel
theorem dX11_meet_7 : decode cX11_meet 7 = .ok (.if_icmp .le 15, 3) := by decide +kernel
theorem dX11_meet_10 : decode cX11_meet 10 = .ok (.aload_n 0, 1) := by decide +kernel
theorem dX11_meet_11 : decode cX11_meet 11 = .ok (.getfield 16, 3) := by decide +kernel
theorem dX11_meet_14 : decode cX11_meet 14 = .ok (.iload_n 1, 1) := by decide +kernel
theorem dX11_meet_15 : decode cX11_meet 15 = .ok (.iload_n 2, 1) := by decide +kernel
theorem dX11_meet_16 : decode cX11_meet 16 = .ok (.iastore, 1) := by decide +kernel
theorem dX11_meet_17 : decode cX11_meet 17 = .ok (.aload_n 0, 1) := by decide +kernel
theorem dX11_meet_18 : decode cX11_meet 18 = .ok (.iconst 1, 1) := by decide +kernel
theorem dX11_meet_19 : decode cX11_meet 19 = .ok (.putfield 117, 3) := by decide +kernel
theorem dX11_meet_22 : decode cX11_meet 22 = .ok (.iload_n 3, 1) := by decide +kernel
theorem dX11_meet_23 : decode cX11_meet 23 = .ok (.aload_n 0, 1) := by decide +kernel
theorem dX11_meet_24 : decode cX11_meet 24 = .ok (.getfield 19, 3) := by decide +kernel
theorem dX11_meet_27 : decode cX11_meet 27 = .ok (.iload_n 1, 1) := by decide +kernel
theorem dX11_meet_28 : decode cX11_meet 28 = .ok (.iaload, 1) := by decide +kernel
theorem dX11_meet_29 : decode cX11_meet 29 = .ok (.if_icmp .ge 15, 3) := by decide +kernel
theorem dX11_meet_32 : decode cX11_meet 32 = .ok (.aload_n 0, 1) := by decide +kernel
theorem dX11_meet_33 : decode cX11_meet 33 = .ok (.getfield 19, 3) := by decide +kernel
theorem dX11_meet_36 : decode cX11_meet 36 = .ok (.iload_n 1, 1) := by decide +kernel
theorem dX11_meet_37 : decode cX11_meet 37 = .ok (.iload_n 3, 1) := by decide +kernel
theorem dX11_meet_38 : decode cX11_meet 38 = .ok (.iastore, 1) := by decide +kernel
theorem dX11_meet_39 : decode cX11_meet 39 = .ok (.aload_n 0, 1) := by decide +kernel
theorem dX11_meet_40 : decode cX11_meet 40 = .ok (.iconst 1, 1) := by decide +kernel
theorem dX11_meet_41 : decode cX11_meet 41 = .ok (.putfield 117, 3) := by decide +kernel
theorem dX11_meet_44 : decode cX11_meet 44 = .ok (.return_, 1) := by decide +kernel
set_option maxRecDepth 20000 in
theorem ggX11_meetNeighbour_X11_isSquare : GoodIn wsX11_meetNeighbour wsX11_isSquare := goodIn_r _ [6, 7, 8, 9, 10, 5, 11] (by decide +kernel) (by decide +kernel)
set_option maxRecDepth 20000 in
theorem gX11_meetNeighbour_X11_isSquare : GoodIn wsX11_meetNeighbour (va_wsS RX11 121 yX11_isSquare wsX11_isSquare) := goodIn_app (goodIn_r _ [3, 4, 5] (by decide +kernel) (by decide +kernel)) ggX11_meetNeighbour_X11_isSquare
set_option maxRecDepth 20000 in
theorem ggX11_meetNeighbour_X11_meet : GoodIn wsX11_meetNeighbour wsX11_meet := goodIn_r _ [15, 1, 16, 2, 17, 18, 19, 20, 21, 22, 23, 24, 25, 26, 27, 28, 29, 30, 31, 32, 33, 34, 35, 36, 37, 38, 39, 40, 41, 42, 43, 44, 45, 46, 47, 48, 49, 50, 51, 52, 53, 54, 55] (by decide +kernel) (by decide +kernel)
set_option maxRecDepth 20000 in
theorem gX11_meetNeighbour_X11_meet : GoodIn wsX11_meetNeighbour (wsV RX11 125 RX11 yX11_meet wsX11_meet) := goodIn_app (goodIn_r _ [12, 13, 14, 5] (by decide +kernel) (by decide +kernel)) ggX11_meetNeighbour_X11_meet
theorem dX11_meetNeighbour_0 : decode cX11_meetNeighbour 0 = .ok (.iload_n 2, 1) := by decide +kernel
theorem dX11_meetNeighbour_1 : decode cX11_meetNeighbour 1 = .ok (.iload_n 3, 1) := by decide +kernel
theorem dX11_meetNeighbour_2 : decode cX11_meetNeighbour 2 = .ok (.invokestatic 121, 3) := by decide +kernel
theorem dX11_meetNeighbour_5 : decode cX11_meetNeighbour 5 = .ok (.ifCond .eq 36, 3) := by decide +kernel
theorem dX11_meetNeighbour_8 : decode cX11_meetNeighbour 8 = .ok (.aload_n 0, 1) := by decide +kernel
theorem dX11_meetNeighbour_9 : decode cX11_meetNeighbour 9 = .ok (.iload_n 1, 1) := by decide +kernel
theorem dX11_meetNeighbour_10 : decode cX11_meetNeighbour 10 = .ok (.aload_n 0, 1) := by decide +kernel
theorem dX11_meetNeighbour_11 : decode cX11_meetNeighbour 11 = .ok (.getfield 16, 3) := by decide +kernel
theorem dX11_meetNeighbour_14 : decode cX11_meetNeighbour 14 = .ok (.bipush 8, 2) := by decide +kernel
theorem dX11_meetNeighbour_16 : decode cX11_meetNeighbour 16 = .ok (.iload_n 3, 1) := by decide +kernel
theorem dX11_meetNeighbour_17 : decode cX11_meetNeighbour 17 = .ok (.imul, 1) := by decide +kernel
theorem dX11_meetNeighbour_18 : decode cX11_meetNeighbour 18 = .ok (.iload_n 2, 1) := by decide +kernel
theorem dX11_meetNeighbour_19 : decode cX11_meetNeighbour 19 = .ok (.iadd, 1) := by decide +kernel
theorem dX11_meetNeighbour_20 : decode cX11_meetNeighbour 20 = .ok (.iaload, 1) := by decide +kernel
theorem dX11_meetNeighbour_21 : decode cX11_meetNeighbour 21 = .ok (.iload 4, 2) := by decide +kernel
theorem dX11_meetNeighbour_23 : decode cX11_meetNeighbour 23 = .ok (.isub, 1) := by decide +kernel
theorem dX11_meetNeighbour_24 : decode cX11_meetNeighbour 24 = .ok (.aload_n 0, 1) := by decide +kernel
theorem dX11_meetNeighbour_25 : decode cX11_meetNeighbour 25 = .ok (.getfield 19, 3) := by decide +kernel
theorem dX11_meetNeighbour_28 : decode cX11_meetNeighbour 28 = .ok (.bipush 8, 2) := by decide +kernel
theorem dX11_meetNeighbour_30 : decode cX11_meetNeighbour 30 = .ok (.iload_n 3, 1) := by decide +kernel
theorem dX11_meetNeighbour_31 : decode cX11_meetNeighbour 31 = .ok (.imul, 1) := by decide +kernel
theorem dX11_meetNeighbour_32 : decode cX11_meetNeighbour 32 = .ok (.iload_n 2, 1) := by decide +kernel
theorem dX11_meetNeighbour_33 : decode cX11_meetNeighbour 33 = .ok (.iadd, 1) := by decide +kernel
theorem dX11_meetNeighbour_34 : decode cX11_meetNeighbour 34 = .ok (.iaload, 1) := by decide +kernel
theorem dX11_meetNeighbour_35 : decode cX11_meetNeighbour 35 = .ok (.iload 4, 2) := by decide +kernel
theorem dX11_meetNeighbour_37 : decode cX11_meetNeighbour 37 = .ok (.iadd, 1) := by decide +kernel
theorem dX11_meetNeighbour_38 : decode cX11_meetNeighbour 38 = .ok (.invokevirtual 125, 3) := by decide +kernel
theorem dX11_meetNeighbour_41 : decode cX11_meetNeighbour 41 = .ok (.return_, 1) := by decide +kernel
set_option maxRecDepth 20000 in
theorem ggX11_narrowed_X11_meetNeighbour : GoodIn wsX11_narrowed wsX11_meetNeighbour := goodIn_r _ [11, 2, 3, 12, 13, 10, 14, 15, 16, 17, 18, 19, 20, 21, 22, 23, 1, 24, 25, 26, 27, 28, 29, 30, 31, 32, 33, 34, 35, 36, 37, 38, 39, 40, 41, 42, 43, 44, 45, 46, 47, 48, 49, 50, 51, 52, 53, 54, 55, 56, 57, 58, 59, 60, 61, 62] (by decide +kernel) (by decide +kernel)
set_option maxRecDepth 20000 in
theorem gX11_narrowed_X11_meetNeighbour : GoodIn wsX11_narrowed (wsV RX11 129 RX11 yX11_meetNeighbour wsX11_meetNeighbour) := goodIn_app (goodIn_r _ [7, 8, 9, 10] (by decide +kernel) (by decide +kernel)) ggX11_narrowed_X11_meetNeighbour
theorem dX11_narrowed_0 : decode cX11_narrowed 0 = .ok (.aload_n 0, 1) := by decide +kernel
theorem dX11_narrowed_1 : decode cX11_narrowed 1 = .ok (.iconst 1, 1) := by decide +kernel
theorem dX11_narrowed_2 : decode cX11_narrowed 2 = .ok (.putfield 117, 3) := by decide +kernel
theorem dX11_narrowed_5 : decode cX11_narrowed 5 = .ok (.aload_n 0, 1) := by decide +kernel
theorem dX11_narrowed_6 : decode cX11_narrowed 6 = .ok (.getfield 117, 3) := by decide +kernel
theorem dX11_narrowed_9 : decode cX11_narrowed 9 = .ok (.ifCond .eq 107, 3) := by decide +kernel
theorem dX11_narrowed_12 : decode cX11_narrowed 12 = .ok (.aload_n 0, 1) := by decide +kernel
theorem dX11_narrowed_13 : decode cX11_narrowed 13 = .ok (.iconst 0, 1) := by decide +kernel
theorem dX11_narrowed_14 : decode cX11_narrowed 14 = .ok (.putfield 117, 3) := by decide +kernel
theorem dX11_narrowed_17 : decode cX11_narrowed 17 = .ok (.iconst 0, 1) := by decide +kernel
theorem dX11_narrowed_18 : decode cX11_narrowed 18 = .ok (.istore_n 2, 1) := by decide +kernel
theorem dX11_narrowed_19 : decode cX11_narrowed 19 = .ok (.iload_n 2, 1) := by decide +kernel
theorem dX11_narrowed_20 : decode cX11_narrowed 20 = .ok (.bipush 48, 2) := by decide +kernel
theorem dX11_narrowed_22 : decode cX11_narrowed 22 = .ok (.if_icmp .ge 91, 3) := by decide +kernel
theorem dX11_narrowed_25 : decode cX11_narrowed 25 = .ok (.aload_n 0, 1) := by decide +kernel
theorem dX11_narrowed_26 : decode cX11_narrowed 26 = .ok (.getfield 16, 3) := by decide +kernel
theorem dX11_narrowed_29 : decode cX11_narrowed 29 = .ok (.iload_n 2, 1) := by decide +kernel
theorem dX11_narrowed_30 : decode cX11_narrowed 30 = .ok (.iaload, 1) := by decide +kernel
theorem dX11_narrowed_31 : decode cX11_narrowed 31 = .ok (.aload_n 0, 1) := by decide +kernel
theorem dX11_narrowed_32 : decode cX11_narrowed 32 = .ok (.getfield 19, 3) := by decide +kernel
theorem dX11_narrowed_35 : decode cX11_narrowed 35 = .ok (.iload_n 2, 1) := by decide +kernel
theorem dX11_narrowed_36 : decode cX11_narrowed 36 = .ok (.iaload, 1) := by decide +kernel
theorem dX11_narrowed_37 : decode cX11_narrowed 37 = .ok (.if_icmp .le 6, 3) := by decide +kernel
theorem dX11_narrowed_40 : decode cX11_narrowed 40 = .ok (.bipush (-3), 2) := by decide +kernel
theorem dX11_narrowed_42 : decode cX11_narrowed 42 = .ok (.ireturn, 1) := by decide +kernel
theorem dX11_narrowed_43 : decode cX11_narrowed 43 = .ok (.aload_n 0, 1) := by decide +kernel
theorem dX11_narrowed_44 : decode cX11_narrowed 44 = .ok (.iload_n 2, 1) := by decide +kernel
theorem dX11_narrowed_45 : decode cX11_narrowed 45 = .ok (.iload_n 2, 1) := by decide +kernel
theorem dX11_narrowed_46 : decode cX11_narrowed 46 = .ok (.bipush 8, 2) := by decide +kernel
theorem dX11_narrowed_48 : decode cX11_narrowed 48 = .ok (.irem, 1) := by decide +kernel
theorem dX11_narrowed_49 : decode cX11_narrowed 49 = .ok (.iconst 1, 1) := by decide +kernel
theorem dX11_narrowed_50 : decode cX11_narrowed 50 = .ok (.isub, 1) := by decide +kernel
theorem dX11_narrowed_51 : decode cX11_narrowed 51 = .ok (.iload_n 2, 1) := by decide +kernel
theorem dX11_narrowed_52 : decode cX11_narrowed 52 = .ok (.bipush 8, 2) := by decide +kernel
theorem dX11_narrowed_54 : decode cX11_narrowed 54 = .ok (.idiv, 1) := by decide +kernel
theorem dX11_narrowed_55 : decode cX11_narrowed 55 = .ok (.iload_n 1, 1) := by decide +kernel
theorem dX11_narrowed_56 : decode cX11_narrowed 56 = .ok (.invokevirtual 129, 3) := by decide +kernel
theorem dX11_narrowed_59 : decode cX11_narrowed 59 = .ok (.aload_n 0, 1) := by decide +kernel
theorem dX11_narrowed_60 : decode cX11_narrowed 60 = .ok (.iload_n 2, 1) := by decide +kernel
theorem dX11_narrowed_61 : decode cX11_narrowed 61 = .ok (.iload_n 2, 1) := by decide +kernel
theorem dX11_narrowed_62 : decode cX11_narrowed 62 = .ok (.bipush 8, 2) := by decide +kernel
theorem dX11_narrowed_64 : decode cX11_narrowed 64 = .ok (.irem, 1) := by decide +kernel
theorem dX11_narrowed_65 : decode cX11_narrowed 65 = .ok (.iconst 1, 1) := by decide +kernel
theorem dX11_narrowed_66 : decode cX11_narrowed 66 = .ok (.iadd, 1) := by decide +kernel
theorem dX11_narrowed_67 : decode cX11_narrowed 67 = .ok (.iload_n 2, 1) := by decide +kernel
theorem dX11_narrowed_68 : decode cX11_narrowed 68 = .ok (.bipush 8, 2) := by decide +kernel
theorem dX11_narrowed_70 : decode cX11_narrowed 70 = .ok (.idiv, 1) := by decide +kernel
theorem dX11_narrowed_71 : decode cX11_narrowed 71 = .ok (.iload_n 1, 1) := by decide +kernel
theorem dX11_narrowed_72 : decode cX11_narrowed 72 = .ok (.invokevirtual 129, 3) := by decide +kernel
theorem dX11_narrowed_75 : decode cX11_narrowed 75 = .ok (.aload_n 0, 1) := by decide +kernel
theorem dX11_narrowed_76 : decode cX11_narrowed 76 = .ok (.iload_n 2, 1) := by decide +kernel
theorem dX11_narrowed_77 : decode cX11_narrowed 77 = .ok (.iload_n 2, 1) := by decide +kernel
theorem dX11_narrowed_78 : decode cX11_narrowed 78 = .ok (.bipush 8, 2) := by decide +kernel
theorem dX11_narrowed_80 : decode cX11_narrowed 80 = .ok (.irem, 1) := by decide +kernel
theorem dX11_narrowed_81 : decode cX11_narrowed 81 = .ok (.iload_n 2, 1) := by decide +kernel
theorem dX11_narrowed_82 : decode cX11_narrowed 82 = .ok (.bipush 8, 2) := by decide +kernel
theorem dX11_narrowed_84 : decode cX11_narrowed 84 = .ok (.idiv, 1) := by decide +kernel
theorem dX11_narrowed_85 : decode cX11_narrowed 85 = .ok (.iconst 1, 1) := by decide +kernel
theorem dX11_narrowed_86 : decode cX11_narrowed 86 = .ok (.isub, 1) := by decide +kernel
theorem dX11_narrowed_87 : decode cX11_narrowed 87 = .ok (.iload_n 1, 1) := by decide +kernel
theorem dX11_narrowed_88 : decode cX11_narrowed 88 = .ok (.invokevirtual 129, 3) := by decide +kernel
theorem dX11_narrowed_91 : decode cX11_narrowed 91 = .ok (.aload_n 0, 1) := by decide +kernel
theorem dX11_narrowed_92 : decode cX11_narrowed 92 = .ok (.iload_n 2, 1) := by decide +kernel
theorem dX11_narrowed_93 : decode cX11_narrowed 93 = .ok (.iload_n 2, 1) := by decide +kernel
theorem dX11_narrowed_94 : decode cX11_narrowed 94 = .ok (.bipush 8, 2) := by decide +kernel
theorem dX11_narrowed_96 : decode cX11_narrowed 96 = .ok (.irem, 1) := by decide +kernel
theorem dX11_narrowed_97 : decode cX11_narrowed 97 = .ok (.iload_n 2, 1) := by decide +kernel
theorem dX11_narrowed_98 : decode cX11_narrowed 98 = .ok (.bipush 8, 2) := by decide +kernel
theorem dX11_narrowed_100 : decode cX11_narrowed 100 = .ok (.idiv, 1) := by decide +kernel
theorem dX11_narrowed_101 : decode cX11_narrowed 101 = .ok (.iconst 1, 1) := by decide +kernel
theorem dX11_narrowed_102 : decode cX11_narrowed 102 = .ok (.iadd, 1) := by decide +kernel
theorem dX11_narrowed_103 : decode cX11_narrowed 103 = .ok (.iload_n 1, 1) := by decide +kernel
theorem dX11_narrowed_104 : decode cX11_narrowed 104 = .ok (.invokevirtual 129, 3) := by decide +kernel
theorem dX11_narrowed_107 : decode cX11_narrowed 107 = .ok (.iinc 2 1, 3) := by decide +kernel
theorem dX11_narrowed_110 : decode cX11_narrowed 110 = .ok (.goto (-91), 3) := by decide +kernel
theorem dX11_narrowed_113 : decode cX11_narrowed 113 = .ok (.goto (-108), 3) := by decide +kernel
theorem dX11_narrowed_116 : decode cX11_narrowed 116 = .ok (.iconst 0, 1) := by decide +kernel
theorem dX11_narrowed_117 : decode cX11_narrowed 117 = .ok (.istore_n 2, 1) := by decide +kernel
theorem dX11_narrowed_118 : decode cX11_narrowed 118 = .ok (.iconst 0, 1) := by decide +kernel
theorem dX11_narrowed_119 : decode cX11_narrowed 119 = .ok (.istore_n 3, 1) := by decide +kernel
theorem dX11_narrowed_120 : decode cX11_narrowed 120 = .ok (.iload_n 3, 1) := by decide +kernel
theorem dX11_narrowed_121 : decode cX11_narrowed 121 = .ok (.bipush 48, 2) := by decide +kernel
theorem dX11_narrowed_123 : decode cX11_narrowed 123 = .ok (.if_icmp .ge 27, 3) := by decide +kernel
theorem dX11_narrowed_126 : decode cX11_narrowed 126 = .ok (.aload_n 0, 1) := by decide +kernel
theorem dX11_narrowed_127 : decode cX11_narrowed 127 = .ok (.getfield 16, 3) := by decide +kernel
theorem dX11_narrowed_130 : decode cX11_narrowed 130 = .ok (.iload_n 3, 1) := by decide +kernel
theorem dX11_narrowed_131 : decode cX11_narrowed 131 = .ok (.iaload, 1) := by decide +kernel
theorem dX11_narrowed_132 : decode cX11_narrowed 132 = .ok (.aload_n 0, 1) := by decide +kernel
theorem dX11_narrowed_133 : decode cX11_narrowed 133 = .ok (.getfield 19, 3) := by decide +kernel
theorem dX11_narrowed_136 : decode cX11_narrowed 136 = .ok (.iload_n 3, 1) := by decide +kernel
theorem dX11_narrowed_137 : decode cX11_narrowed 137 = .ok (.iaload, 1) := by decide +kernel
theorem dX11_narrowed_138 : decode cX11_narrowed 138 = .ok (.if_icmp .le 6, 3) := by decide +kernel
theorem dX11_narrowed_141 : decode cX11_narrowed 141 = .ok (.bipush (-3), 2) := by decide +kernel
theorem dX11_narrowed_143 : decode cX11_narrowed 143 = .ok (.ireturn, 1) := by decide +kernel
theorem dX11_narrowed_144 : decode cX11_narrowed 144 = .ok (.iinc 3 1, 3) := by decide +kernel
theorem dX11_narrowed_147 : decode cX11_narrowed 147 = .ok (.goto (-27), 3) := by decide +kernel
theorem dX11_narrowed_150 : decode cX11_narrowed 150 = .ok (.iconst 0, 1) := by decide +kernel
theorem dX11_narrowed_151 : decode cX11_narrowed 151 = .ok (.istore_n 3, 1) := by decide +kernel
theorem dX11_narrowed_152 : decode cX11_narrowed 152 = .ok (.iload_n 3, 1) := by decide +kernel
theorem dX11_narrowed_153 : decode cX11_narrowed 153 = .ok (.bipush 48, 2) := by decide +kernel
theorem dX11_narrowed_155 : decode cX11_narrowed 155 = .ok (.if_icmp .ge 71, 3) := by decide +kernel
theorem dX11_narrowed_158 : decode cX11_narrowed 158 = .ok (.iload_n 2, 1) := by decide +kernel
theorem dX11_narrowed_159 : decode cX11_narrowed 159 = .ok (.aload_n 0, 1) := by decide +kernel
theorem dX11_narrowed_160 : decode cX11_narrowed 160 = .ok (.getfield 16, 3) := by decide +kernel
theorem dX11_narrowed_163 : decode cX11_narrowed 163 = .ok (.iload_n 3, 1) := by decide +kernel
theorem dX11_narrowed_164 : decode cX11_narrowed 164 = .ok (.iaload, 1) := by decide +kernel
theorem dX11_narrowed_165 : decode cX11_narrowed 165 = .ok (.aload_n 0, 1) := by decide +kernel
theorem dX11_narrowed_166 : decode cX11_narrowed 166 = .ok (.getfield 7, 3) := by decide +kernel
theorem dX11_narrowed_169 : decode cX11_narrowed 169 = .ok (.iload_n 3, 1) := by decide +kernel
theorem dX11_narrowed_170 : decode cX11_narrowed 170 = .ok (.iaload, 1) := by decide +kernel
theorem dX11_narrowed_171 : decode cX11_narrowed 171 = .ok (.if_icmp .ne 18, 3) := by decide +kernel
theorem dX11_narrowed_174 : decode cX11_narrowed 174 = .ok (.aload_n 0, 1) := by decide +kernel
theorem dX11_narrowed_175 : decode cX11_narrowed 175 = .ok (.getfield 19, 3) := by decide +kernel
theorem dX11_narrowed_178 : decode cX11_narrowed 178 = .ok (.iload_n 3, 1) := by decide +kernel
theorem dX11_narrowed_179 : decode cX11_narrowed 179 = .ok (.iaload, 1) := by decide +kernel
theorem dX11_narrowed_180 : decode cX11_narrowed 180 = .ok (.aload_n 0, 1) := by decide +kernel
theorem dX11_narrowed_181 : decode cX11_narrowed 181 = .ok (.getfield 13, 3) := by decide +kernel
theorem dX11_narrowed_184 : decode cX11_narrowed 184 = .ok (.iload_n 3, 1) := by decide +kernel
theorem dX11_narrowed_185 : decode cX11_narrowed 185 = .ok (.iaload, 1) := by decide +kernel
theorem dX11_narrowed_186 : decode cX11_narrowed 186 = .ok (.if_icmp .eq 7, 3) := by decide +kernel
theorem dX11_narrowed_189 : decode cX11_narrowed 189 = .ok (.iconst 1, 1) := by decide +kernel
theorem dX11_narrowed_190 : decode cX11_narrowed 190 = .ok (.goto 4, 3) := by decide +kernel
theorem dX11_narrowed_193 : decode cX11_narrowed 193 = .ok (.iconst 0, 1) := by decide +kernel
theorem dX11_narrowed_194 : decode cX11_narrowed 194 = .ok (.iadd, 1) := by decide +kernel
theorem dX11_narrowed_195 : decode cX11_narrowed 195 = .ok (.istore_n 2, 1) := by decide +kernel
theorem dX11_narrowed_196 : decode cX11_narrowed 196 = .ok (.aload_n 0, 1) := by decide +kernel
theorem dX11_narrowed_197 : decode cX11_narrowed 197 = .ok (.getfield 7, 3) := by decide +kernel
theorem dX11_narrowed_200 : decode cX11_narrowed 200 = .ok (.iload_n 3, 1) := by decide +kernel
theorem dX11_narrowed_201 : decode cX11_narrowed 201 = .ok (.aload_n 0, 1) := by decide +kernel
theorem dX11_narrowed_202 : decode cX11_narrowed 202 = .ok (.getfield 16, 3) := by decide +kernel
theorem dX11_narrowed_205 : decode cX11_narrowed 205 = .ok (.iload_n 3, 1) := by decide +kernel
theorem dX11_narrowed_206 : decode cX11_narrowed 206 = .ok (.iaload, 1) := by decide +kernel
theorem dX11_narrowed_207 : decode cX11_narrowed 207 = .ok (.iastore, 1) := by decide +kernel
theorem dX11_narrowed_208 : decode cX11_narrowed 208 = .ok (.aload_n 0, 1) := by decide +kernel
theorem dX11_narrowed_209 : decode cX11_narrowed 209 = .ok (.getfield 13, 3) := by decide +kernel
theorem dX11_narrowed_212 : decode cX11_narrowed 212 = .ok (.iload_n 3, 1) := by decide +kernel
theorem dX11_narrowed_213 : decode cX11_narrowed 213 = .ok (.aload_n 0, 1) := by decide +kernel
theorem dX11_narrowed_214 : decode cX11_narrowed 214 = .ok (.getfield 19, 3) := by decide +kernel
theorem dX11_narrowed_217 : decode cX11_narrowed 217 = .ok (.iload_n 3, 1) := by decide +kernel
theorem dX11_narrowed_218 : decode cX11_narrowed 218 = .ok (.iaload, 1) := by decide +kernel
theorem dX11_narrowed_219 : decode cX11_narrowed 219 = .ok (.iastore, 1) := by decide +kernel
theorem dX11_narrowed_220 : decode cX11_narrowed 220 = .ok (.iinc 3 1, 3) := by decide +kernel
theorem dX11_narrowed_223 : decode cX11_narrowed 223 = .ok (.goto (-71), 3) := by decide +kernel
theorem dX11_narrowed_226 : decode cX11_narrowed 226 = .ok (.aload_n 0, 1) := by decide +kernel
theorem dX11_narrowed_227 : decode cX11_narrowed 227 = .ok (.iload_n 1, 1) := by decide +kernel
theorem dX11_narrowed_228 : decode cX11_narrowed 228 = .ok (.putfield 93, 3) := by decide +kernel
theorem dX11_narrowed_231 : decode cX11_narrowed 231 = .ok (.iload_n 2, 1) := by decide +kernel
theorem dX11_narrowed_232 : decode cX11_narrowed 232 = .ok (.ireturn, 1) := by decide +kernel
set_option maxRecDepth 20000 in
theorem ggX11_find_X11_isSquare : GoodIn wsX11_find wsX11_isSquare := goodIn_r _ [6, 7, 8, 9, 10, 5, 11] (by decide +kernel) (by decide +kernel)
set_option maxRecDepth 20000 in
theorem gX11_find_X11_isSquare : GoodIn wsX11_find (va_wsS RX11 121 yX11_isSquare wsX11_isSquare) := goodIn_app (goodIn_r _ [3, 4, 5] (by decide +kernel) (by decide +kernel)) ggX11_find_X11_isSquare
set_option maxRecDepth 20000 in
theorem ggX11_find_X11_in : GoodIn wsX11_find wsX11_in := goodIn_r _ [11] (by decide +kernel) (by decide +kernel)
set_option maxRecDepth 20000 in
theorem gX11_find_X11_in : GoodIn wsX11_find (va_wsS RX11 111 yX11_in wsX11_in) := goodIn_app (goodIn_r _ [9, 10, 5] (by decide +kernel) (by decide +kernel)) ggX11_find_X11_in
set_option maxRecDepth 20000 in
theorem ggX11_find_X11_layNew : GoodIn wsX11_find wsX11_layNew := goodIn_r _ [15, 16, 17, 18, 19, 33, 34, 35, 36, 37, 38, 39, 40, 41, 42, 43, 44, 45, 46, 47, 48, 49, 50, 51, 52, 53, 54, 55, 56, 57, 58, 59, 60, 61, 62, 63, 64, 65, 66, 67, 68, 69, 70, 71] (by decide +kernel) (by decide +kernel)
set_option maxRecDepth 20000 in
theorem gX11_find_X11_layNew : GoodIn wsX11_find (wsV RX11 135 RX11 yX11_layNew wsX11_layNew) := goodIn_app (goodIn_r _ [12, 13, 14, 5] (by decide +kernel) (by decide +kernel)) ggX11_find_X11_layNew
set_option maxRecDepth 20000 in
theorem ggX11_find_X11_meet : GoodIn wsX11_find wsX11_meet := goodIn_r _ [23, 16, 24, 18, 33, 34, 35, 36, 37, 38, 39, 40, 41, 42, 43, 44, 45, 46, 47, 48, 49, 50, 51, 52, 53, 54, 55, 56, 57, 58, 59, 60, 61, 62, 63, 64, 65, 66, 67, 68, 69, 70, 71] (by decide +kernel) (by decide +kernel)
set_option maxRecDepth 20000 in
theorem gX11_find_X11_meet : GoodIn wsX11_find (wsV RX11 125 RX11 yX11_meet wsX11_meet) := goodIn_app (goodIn_r _ [20, 21, 22, 5] (by decide +kernel) (by decide +kernel)) ggX11_find_X11_meet
set_option maxRecDepth 20000 in
theorem ggX11_find_X11_narrowed : GoodIn wsX11_find wsX11_narrowed := goodIn_r _ [28, 24, 16, 18, 17, 19, 2, 29, 30, 31, 5, 32, 3, 4, 6, 7, 8, 9, 10, 11, 20, 21, 22, 23, 33, 34, 35, 36, 37, 38, 39, 40, 41, 42, 43, 44, 45, 46, 47, 48, 49, 50, 51, 52, 53, 54, 55, 56, 57, 58, 59, 60, 61, 62, 63, 64, 65, 66, 67, 68, 69, 70, 71] (by decide +kernel) (by decide +kernel)
set_option maxRecDepth 20000 in
theorem gX11_find_X11_narrowed : GoodIn wsX11_find (wsV RX11 138 RX11 yX11_narrowed wsX11_narrowed) := goodIn_app (goodIn_r _ [25, 26, 27, 5] (by decide +kernel) (by decide +kernel)) ggX11_find_X11_narrowed
theorem dX11_find_0 : decode cX11_find 0 = .ok (.iload_n 1, 1) := by decide +kernel
theorem dX11_find_1 : decode cX11_find 1 = .ok (.iload_n 2, 1) := by decide +kernel
theorem dX11_find_2 : decode cX11_find 2 = .ok (.invokestatic 121, 3) := by decide +kernel
theorem dX11_find_5 : decode cX11_find 5 = .ok (.ifCond .ne 5, 3) := by decide +kernel
theorem dX11_find_8 : decode cX11_find 8 = .ok (.iconst (-1), 1) := by decide +kernel
theorem dX11_find_9 : decode cX11_find 9 = .ok (.ireturn, 1) := by decide +kernel
theorem dX11_find_10 : decode cX11_find 10 = .ok (.iload_n 3, 1) := by decide +kernel
theorem dX11_find_11 : decode cX11_find 11 = .ok (.i2l, 1) := by decide +kernel
theorem dX11_find_12 : decode cX11_find 12 = .ok (.lconst 0, 1) := by decide +kernel
theorem dX11_find_13 : decode cX11_find 13 = .ok (.ldc2_w 133, 3) := by decide +kernel
theorem dX11_find_16 : decode cX11_find 16 = .ok (.invokestatic 111, 3) := by decide +kernel
theorem dX11_find_19 : decode cX11_find 19 = .ok (.ifCond .eq 17, 3) := by decide +kernel
theorem dX11_find_22 : decode cX11_find 22 = .ok (.iload 4, 2) := by decide +kernel
theorem dX11_find_24 : decode cX11_find 24 = .ok (.i2l, 1) := by decide +kernel
theorem dX11_find_25 : decode cX11_find 25 = .ok (.iload_n 3, 1) := by decide +kernel
theorem dX11_find_26 : decode cX11_find 26 = .ok (.i2l, 1) := by decide +kernel
theorem dX11_find_27 : decode cX11_find 27 = .ok (.ldc2_w 133, 3) := by decide +kernel
theorem dX11_find_30 : decode cX11_find 30 = .ok (.invokestatic 111, 3) := by decide +kernel
theorem dX11_find_33 : decode cX11_find 33 = .ok (.ifCond .ne 6, 3) := by decide +kernel
theorem dX11_find_36 : decode cX11_find 36 = .ok (.bipush (-2), 2) := by decide +kernel
theorem dX11_find_38 : decode cX11_find 38 = .ok (.ireturn, 1) := by decide +kernel
theorem dX11_find_39 : decode cX11_find 39 = .ok (.aload_n 0, 1) := by decide +kernel
theorem dX11_find_40 : decode cX11_find 40 = .ok (.invokevirtual 135, 3) := by decide +kernel
theorem dX11_find_43 : decode cX11_find 43 = .ok (.aload_n 0, 1) := by decide +kernel
theorem dX11_find_44 : decode cX11_find 44 = .ok (.bipush 8, 2) := by decide +kernel
theorem dX11_find_46 : decode cX11_find 46 = .ok (.iload_n 2, 1) := by decide +kernel
theorem dX11_find_47 : decode cX11_find 47 = .ok (.imul, 1) := by decide +kernel
theorem dX11_find_48 : decode cX11_find 48 = .ok (.iload_n 1, 1) := by decide +kernel
theorem dX11_find_49 : decode cX11_find 49 = .ok (.iadd, 1) := by decide +kernel
theorem dX11_find_50 : decode cX11_find 50 = .ok (.iload_n 3, 1) := by decide +kernel
theorem dX11_find_51 : decode cX11_find 51 = .ok (.iload 4, 2) := by decide +kernel
theorem dX11_find_53 : decode cX11_find 53 = .ok (.invokevirtual 125, 3) := by decide +kernel
theorem dX11_find_56 : decode cX11_find 56 = .ok (.aload_n 0, 1) := by decide +kernel
theorem dX11_find_57 : decode cX11_find 57 = .ok (.aload_n 0, 1) := by decide +kernel
theorem dX11_find_58 : decode cX11_find 58 = .ok (.getfield 93, 3) := by decide +kernel
theorem dX11_find_61 : decode cX11_find 61 = .ok (.invokevirtual 138, 3) := by decide +kernel
theorem dX11_find_64 : decode cX11_find 64 = .ok (.ireturn, 1) := by decide +kernel
set_option maxRecDepth 20000 in
theorem ggX11_rise_X11_in : GoodIn wsX11_rise wsX11_in := goodIn_r _ [6] (by decide +kernel) (by decide +kernel)
set_option maxRecDepth 20000 in
theorem gX11_rise_X11_in : GoodIn wsX11_rise (va_wsS RX11 111 yX11_in wsX11_in) := goodIn_app (goodIn_r _ [3, 4, 5] (by decide +kernel) (by decide +kernel)) ggX11_rise_X11_in
set_option maxRecDepth 20000 in
theorem ggX11_rise_X11_layNew : GoodIn wsX11_rise wsX11_layNew := goodIn_r _ [10, 11, 12, 13, 14, 33, 34, 35, 36, 37, 38, 39, 40, 41, 42, 43, 44, 45, 46, 47, 48, 49, 50, 51, 52, 53, 54, 55, 56, 57, 58, 59, 60, 61, 62, 63, 64, 65, 66, 67, 68, 69, 70, 71] (by decide +kernel) (by decide +kernel)
set_option maxRecDepth 20000 in
theorem gX11_rise_X11_layNew : GoodIn wsX11_rise (wsV RX11 135 RX11 yX11_layNew wsX11_layNew) := goodIn_app (goodIn_r _ [7, 8, 9, 5] (by decide +kernel) (by decide +kernel)) ggX11_rise_X11_layNew
set_option maxRecDepth 20000 in
theorem ggX11_rise_X11_narrowed : GoodIn wsX11_rise wsX11_narrowed := goodIn_r _ [18, 19, 11, 13, 12, 14, 2, 20, 21, 22, 5, 23, 24, 25, 26, 27, 28, 3, 4, 6, 29, 30, 31, 32, 33, 34, 35, 36, 37, 38, 39, 40, 41, 42, 43, 44, 45, 46, 47, 48, 49, 50, 51, 52, 53, 54, 55, 56, 57, 58, 59, 60, 61, 62, 63, 64, 65, 66, 67, 68, 69, 70, 71] (by decide +kernel) (by decide +kernel)
set_option maxRecDepth 20000 in
theorem gX11_rise_X11_narrowed : GoodIn wsX11_rise (wsV RX11 138 RX11 yX11_narrowed wsX11_narrowed) := goodIn_app (goodIn_r _ [15, 16, 17, 5] (by decide +kernel) (by decide +kernel)) ggX11_rise_X11_narrowed
theorem dX11_rise_0 : decode cX11_rise 0 = .ok (.iload_n 1, 1) := by decide +kernel
theorem dX11_rise_1 : decode cX11_rise 1 = .ok (.i2l, 1) := by decide +kernel
theorem dX11_rise_2 : decode cX11_rise 2 = .ok (.lconst 0, 1) := by decide +kernel
theorem dX11_rise_3 : decode cX11_rise 3 = .ok (.ldc2_w 133, 3) := by decide +kernel
theorem dX11_rise_6 : decode cX11_rise 6 = .ok (.invokestatic 111, 3) := by decide +kernel
theorem dX11_rise_9 : decode cX11_rise 9 = .ok (.ifCond .ne 6, 3) := by decide +kernel
theorem dX11_rise_12 : decode cX11_rise 12 = .ok (.bipush (-2), 2) := by decide +kernel
theorem dX11_rise_14 : decode cX11_rise 14 = .ok (.ireturn, 1) := by decide +kernel
theorem dX11_rise_15 : decode cX11_rise 15 = .ok (.iload_n 1, 1) := by decide +kernel
theorem dX11_rise_16 : decode cX11_rise 16 = .ok (.aload_n 0, 1) := by decide +kernel
theorem dX11_rise_17 : decode cX11_rise 17 = .ok (.getfield 93, 3) := by decide +kernel
theorem dX11_rise_20 : decode cX11_rise 20 = .ok (.if_icmp .le 6, 3) := by decide +kernel
theorem dX11_rise_23 : decode cX11_rise 23 = .ok (.bipush (-3), 2) := by decide +kernel
theorem dX11_rise_25 : decode cX11_rise 25 = .ok (.ireturn, 1) := by decide +kernel
theorem dX11_rise_26 : decode cX11_rise 26 = .ok (.aload_n 0, 1) := by decide +kernel
theorem dX11_rise_27 : decode cX11_rise 27 = .ok (.invokevirtual 135, 3) := by decide +kernel
theorem dX11_rise_30 : decode cX11_rise 30 = .ok (.aload_n 0, 1) := by decide +kernel
theorem dX11_rise_31 : decode cX11_rise 31 = .ok (.iload_n 1, 1) := by decide +kernel
theorem dX11_rise_32 : decode cX11_rise 32 = .ok (.invokevirtual 138, 3) := by decide +kernel
theorem dX11_rise_35 : decode cX11_rise 35 = .ok (.ireturn, 1) := by decide +kernel
set_option maxRecDepth 20000 in
theorem ggX11_good_X11_isSquare : GoodIn wsX11_good wsX11_isSquare := goodIn_r _ [6, 7, 8, 9, 10, 5, 11] (by decide +kernel) (by decide +kernel)
set_option maxRecDepth 20000 in
theorem gX11_good_X11_isSquare : GoodIn wsX11_good (va_wsS RX11 121 yX11_isSquare wsX11_isSquare) := goodIn_app (goodIn_r _ [3, 4, 5] (by decide +kernel) (by decide +kernel)) ggX11_good_X11_isSquare
theorem dX11_good_0 : decode cX11_good 0 = .ok (.iload_n 1, 1) := by decide +kernel
theorem dX11_good_1 : decode cX11_good 1 = .ok (.iload_n 2, 1) := by decide +kernel
theorem dX11_good_2 : decode cX11_good 2 = .ok (.invokestatic 121, 3) := by decide +kernel
theorem dX11_good_5 : decode cX11_good 5 = .ok (.ifCond .ne 5, 3) := by decide +kernel
theorem dX11_good_8 : decode cX11_good 8 = .ok (.iconst (-1), 1) := by decide +kernel
theorem dX11_good_9 : decode cX11_good 9 = .ok (.ireturn, 1) := by decide +kernel
theorem dX11_good_10 : decode cX11_good 10 = .ok (.iload_n 3, 1) := by decide +kernel
theorem dX11_good_11 : decode cX11_good 11 = .ok (.ifCond .ne 17, 3) := by decide +kernel
theorem dX11_good_14 : decode cX11_good 14 = .ok (.aload_n 0, 1) := by decide +kernel
theorem dX11_good_15 : decode cX11_good 15 = .ok (.getfield 7, 3) := by decide +kernel
theorem dX11_good_18 : decode cX11_good 18 = .ok (.bipush 8, 2) := by decide +kernel
theorem dX11_good_20 : decode cX11_good 20 = .ok (.iload_n 2, 1) := by decide +kernel
theorem dX11_good_21 : decode cX11_good 21 = .ok (.imul, 1) := by decide +kernel
theorem dX11_good_22 : decode cX11_good 22 = .ok (.iload_n 1, 1) := by decide +kernel
theorem dX11_good_23 : decode cX11_good 23 = .ok (.iadd, 1) := by decide +kernel
theorem dX11_good_24 : decode cX11_good 24 = .ok (.iaload, 1) := by decide +kernel
theorem dX11_good_25 : decode cX11_good 25 = .ok (.goto 24, 3) := by decide +kernel
theorem dX11_good_28 : decode cX11_good 28 = .ok (.iload_n 3, 1) := by decide +kernel
theorem dX11_good_29 : decode cX11_good 29 = .ok (.iconst 1, 1) := by decide +kernel
theorem dX11_good_30 : decode cX11_good 30 = .ok (.if_icmp .ne 17, 3) := by decide +kernel
theorem dX11_good_33 : decode cX11_good 33 = .ok (.aload_n 0, 1) := by decide +kernel
theorem dX11_good_34 : decode cX11_good 34 = .ok (.getfield 13, 3) := by decide +kernel
theorem dX11_good_37 : decode cX11_good 37 = .ok (.bipush 8, 2) := by decide +kernel
theorem dX11_good_39 : decode cX11_good 39 = .ok (.iload_n 2, 1) := by decide +kernel
theorem dX11_good_40 : decode cX11_good 40 = .ok (.imul, 1) := by decide +kernel
theorem dX11_good_41 : decode cX11_good 41 = .ok (.iload_n 1, 1) := by decide +kernel
theorem dX11_good_42 : decode cX11_good 42 = .ok (.iadd, 1) := by decide +kernel
theorem dX11_good_43 : decode cX11_good 43 = .ok (.iaload, 1) := by decide +kernel
theorem dX11_good_44 : decode cX11_good 44 = .ok (.goto 5, 3) := by decide +kernel
theorem dX11_good_47 : decode cX11_good 47 = .ok (.bipush (-2), 2) := by decide +kernel
theorem dX11_good_49 : decode cX11_good 49 = .ok (.ireturn, 1) := by decide +kernel
set_option maxRecDepth 20000 in
theorem ggX11_noSheet_X11_in : GoodIn wsX11_noSheet wsX11_in := goodIn_r _ [5] (by decide +kernel) (by decide +kernel)
set_option maxRecDepth 20000 in
theorem gX11_noSheet_X11_in : GoodIn wsX11_noSheet (va_wsS RX11 111 yX11_in wsX11_in) := goodIn_app (goodIn_r _ [2, 3, 4] (by decide +kernel) (by decide +kernel)) ggX11_noSheet_X11_in
theorem dX11_noSheet_0 : decode cX11_noSheet 0 = .ok (.iload_n 0, 1) := by decide +kernel
theorem dX11_noSheet_1 : decode cX11_noSheet 1 = .ok (.i2l, 1) := by decide +kernel
theorem dX11_noSheet_2 : decode cX11_noSheet 2 = .ok (.lconst 0, 1) := by decide +kernel
theorem dX11_noSheet_3 : decode cX11_noSheet 3 = .ok (.ldc2_w 142, 3) := by decide +kernel
theorem dX11_noSheet_6 : decode cX11_noSheet 6 = .ok (.invokestatic 111, 3) := by decide +kernel
theorem dX11_noSheet_9 : decode cX11_noSheet 9 = .ok (.ifCond .ne 7, 3) := by decide +kernel
theorem dX11_noSheet_12 : decode cX11_noSheet 12 = .ok (.iconst 1, 1) := by decide +kernel
theorem dX11_noSheet_13 : decode cX11_noSheet 13 = .ok (.goto 4, 3) := by decide +kernel
theorem dX11_noSheet_16 : decode cX11_noSheet 16 = .ok (.iconst 0, 1) := by decide +kernel
theorem dX11_noSheet_17 : decode cX11_noSheet 17 = .ok (.ireturn, 1) := by decide +kernel
set_option maxRecDepth 20000 in
theorem ggX11_sheet_X11_noSheet : GoodIn wsX11_sheet wsX11_noSheet := goodIn_r _ [8, 9, 10, 11, 7, 12] (by decide +kernel) (by decide +kernel)
set_option maxRecDepth 20000 in
theorem gX11_sheet_X11_noSheet : GoodIn wsX11_sheet (va_wsS RX11 144 yX11_noSheet wsX11_noSheet) := goodIn_app (goodIn_r _ [5, 6, 7] (by decide +kernel) (by decide +kernel)) ggX11_sheet_X11_noSheet
set_option maxRecDepth 20000 in
theorem ggX11_sheet_X11_refused : GoodIn wsX11_sheet wsX11_refused := goodIn_r _ [16, 17, 22, 23, 24, 25, 26, 27, 28, 29, 30, 31, 32, 33, 34, 35, 36, 37, 38, 39, 40, 41, 42, 43, 44, 45, 46, 47, 48, 49, 50, 51, 52, 53, 54, 55, 56, 57, 58, 59, 60] (by decide +kernel) (by decide +kernel)
set_option maxRecDepth 20000 in
theorem gX11_sheet_X11_refused : GoodIn wsX11_sheet (wsV RX11 148 RX11 yX11_refused wsX11_refused) := goodIn_app (goodIn_r _ [13, 14, 15, 7] (by decide +kernel) (by decide +kernel)) ggX11_sheet_X11_refused
set_option maxRecDepth 20000 in
theorem ggX11_sheet_X11_in : GoodIn wsX11_sheet wsX11_in := goodIn_r _ [12] (by decide +kernel) (by decide +kernel)
set_option maxRecDepth 20000 in
theorem gX11_sheet_X11_in : GoodIn wsX11_sheet (va_wsS RX11 111 yX11_in wsX11_in) := goodIn_app (goodIn_r _ [10, 11, 7] (by decide +kernel) (by decide +kernel)) ggX11_sheet_X11_in
set_option maxRecDepth 20000 in
theorem ggX11_sheet_X11_failed : GoodIn wsX11_sheet wsX11_failed := goodIn_r _ [21, 17, 22, 23, 24, 25, 26, 27, 28, 29, 30, 31, 32, 33, 34, 35, 36, 37, 38, 39, 40, 41, 42, 43, 44, 45, 46, 47, 48, 49, 50, 51, 52, 53, 54, 55, 56, 57, 58, 59, 60] (by decide +kernel) (by decide +kernel)
set_option maxRecDepth 20000 in
theorem gX11_sheet_X11_failed : GoodIn wsX11_sheet (wsV RX11 153 RX11 yX11_failed wsX11_failed) := goodIn_app (goodIn_r _ [18, 19, 20, 7] (by decide +kernel) (by decide +kernel)) ggX11_sheet_X11_failed
theorem dX11_sheet_0 : decode cX11_sheet 0 = .ok (.iload_n 1, 1) := by decide +kernel
theorem dX11_sheet_1 : decode cX11_sheet 1 = .ok (.invokestatic 144, 3) := by decide +kernel
theorem dX11_sheet_4 : decode cX11_sheet 4 = .ok (.ifCond .eq 9, 3) := by decide +kernel
theorem dX11_sheet_7 : decode cX11_sheet 7 = .ok (.aload_n 0, 1) := by decide +kernel
theorem dX11_sheet_8 : decode cX11_sheet 8 = .ok (.iconst (-1), 1) := by decide +kernel
theorem dX11_sheet_9 : decode cX11_sheet 9 = .ok (.invokevirtual 148, 3) := by decide +kernel
theorem dX11_sheet_12 : decode cX11_sheet 12 = .ok (.ireturn, 1) := by decide +kernel
theorem dX11_sheet_13 : decode cX11_sheet 13 = .ok (.iload_n 2, 1) := by decide +kernel
theorem dX11_sheet_14 : decode cX11_sheet 14 = .ok (.i2l, 1) := by decide +kernel
theorem dX11_sheet_15 : decode cX11_sheet 15 = .ok (.lconst 0, 1) := by decide +kernel
theorem dX11_sheet_16 : decode cX11_sheet 16 = .ok (.ldc2_w 151, 3) := by decide +kernel
theorem dX11_sheet_19 : decode cX11_sheet 19 = .ok (.invokestatic 111, 3) := by decide +kernel
theorem dX11_sheet_22 : decode cX11_sheet 22 = .ok (.ifCond .eq 9, 3) := by decide +kernel
theorem dX11_sheet_25 : decode cX11_sheet 25 = .ok (.iload_n 3, 1) := by decide +kernel
theorem dX11_sheet_26 : decode cX11_sheet 26 = .ok (.bipush 48, 2) := by decide +kernel
theorem dX11_sheet_28 : decode cX11_sheet 28 = .ok (.if_icmp .le 10, 3) := by decide +kernel
theorem dX11_sheet_31 : decode cX11_sheet 31 = .ok (.aload_n 0, 1) := by decide +kernel
theorem dX11_sheet_32 : decode cX11_sheet 32 = .ok (.bipush (-2), 2) := by decide +kernel
theorem dX11_sheet_34 : decode cX11_sheet 34 = .ok (.invokevirtual 148, 3) := by decide +kernel
theorem dX11_sheet_37 : decode cX11_sheet 37 = .ok (.ireturn, 1) := by decide +kernel
theorem dX11_sheet_38 : decode cX11_sheet 38 = .ok (.iload_n 3, 1) := by decide +kernel
theorem dX11_sheet_39 : decode cX11_sheet 39 = .ok (.ifCond .ge 9, 3) := by decide +kernel
theorem dX11_sheet_42 : decode cX11_sheet 42 = .ok (.aload_n 0, 1) := by decide +kernel
theorem dX11_sheet_43 : decode cX11_sheet 43 = .ok (.iconst 4, 1) := by decide +kernel
theorem dX11_sheet_44 : decode cX11_sheet 44 = .ok (.invokevirtual 153, 3) := by decide +kernel
theorem dX11_sheet_47 : decode cX11_sheet 47 = .ok (.ireturn, 1) := by decide +kernel
theorem dX11_sheet_48 : decode cX11_sheet 48 = .ok (.aload_n 0, 1) := by decide +kernel
theorem dX11_sheet_49 : decode cX11_sheet 49 = .ok (.getfield 22, 3) := by decide +kernel
theorem dX11_sheet_52 : decode cX11_sheet 52 = .ok (.iload_n 1, 1) := by decide +kernel
theorem dX11_sheet_53 : decode cX11_sheet 53 = .ok (.iload_n 3, 1) := by decide +kernel
theorem dX11_sheet_54 : decode cX11_sheet 54 = .ok (.iastore, 1) := by decide +kernel
theorem dX11_sheet_55 : decode cX11_sheet 55 = .ok (.aload_n 0, 1) := by decide +kernel
theorem dX11_sheet_56 : decode cX11_sheet 56 = .ok (.getfield 25, 3) := by decide +kernel
theorem dX11_sheet_59 : decode cX11_sheet 59 = .ok (.iload_n 1, 1) := by decide +kernel
theorem dX11_sheet_60 : decode cX11_sheet 60 = .ok (.iload_n 2, 1) := by decide +kernel
theorem dX11_sheet_61 : decode cX11_sheet 61 = .ok (.iastore, 1) := by decide +kernel
theorem dX11_sheet_62 : decode cX11_sheet 62 = .ok (.iconst 0, 1) := by decide +kernel
theorem dX11_sheet_63 : decode cX11_sheet 63 = .ok (.istore 4, 2) := by decide +kernel
theorem dX11_sheet_65 : decode cX11_sheet 65 = .ok (.iload 4, 2) := by decide +kernel
theorem dX11_sheet_67 : decode cX11_sheet 67 = .ok (.iload_n 3, 1) := by decide +kernel
theorem dX11_sheet_68 : decode cX11_sheet 68 = .ok (.if_icmp .ge 22, 3) := by decide +kernel
theorem dX11_sheet_71 : decode cX11_sheet 71 = .ok (.aload_n 0, 1) := by decide +kernel
theorem dX11_sheet_72 : decode cX11_sheet 72 = .ok (.getfield 28, 3) := by decide +kernel
theorem dX11_sheet_75 : decode cX11_sheet 75 = .ok (.bipush 48, 2) := by decide +kernel
theorem dX11_sheet_77 : decode cX11_sheet 77 = .ok (.iload_n 1, 1) := by decide +kernel
theorem dX11_sheet_78 : decode cX11_sheet 78 = .ok (.imul, 1) := by decide +kernel
theorem dX11_sheet_79 : decode cX11_sheet 79 = .ok (.iload 4, 2) := by decide +kernel
theorem dX11_sheet_81 : decode cX11_sheet 81 = .ok (.iadd, 1) := by decide +kernel
theorem dX11_sheet_82 : decode cX11_sheet 82 = .ok (.iconst 0, 1) := by decide +kernel
theorem dX11_sheet_83 : decode cX11_sheet 83 = .ok (.iastore, 1) := by decide +kernel
theorem dX11_sheet_84 : decode cX11_sheet 84 = .ok (.iinc 4 1, 3) := by decide +kernel
theorem dX11_sheet_87 : decode cX11_sheet 87 = .ok (.goto (-22), 3) := by decide +kernel
theorem dX11_sheet_90 : decode cX11_sheet 90 = .ok (.aload_n 0, 1) := by decide +kernel
theorem dX11_sheet_91 : decode cX11_sheet 91 = .ok (.iconst 1, 1) := by decide +kernel
theorem dX11_sheet_92 : decode cX11_sheet 92 = .ok (.invokevirtual 148, 3) := by decide +kernel
theorem dX11_sheet_95 : decode cX11_sheet 95 = .ok (.ireturn, 1) := by decide +kernel
set_option maxRecDepth 20000 in
theorem ggX11_lose_X11_noSheet : GoodIn wsX11_lose wsX11_noSheet := goodIn_r _ [5, 6, 7, 8, 4, 9] (by decide +kernel) (by decide +kernel)
set_option maxRecDepth 20000 in
theorem gX11_lose_X11_noSheet : GoodIn wsX11_lose (va_wsS RX11 144 yX11_noSheet wsX11_noSheet) := goodIn_app (goodIn_r _ [2, 3, 4] (by decide +kernel) (by decide +kernel)) ggX11_lose_X11_noSheet
