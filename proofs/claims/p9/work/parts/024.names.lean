theorem dX11_lose_0 : decode cX11_lose 0 = .ok (.iload_n 1, 1) := by decide +kernel
theorem dX11_lose_1 : decode cX11_lose 1 = .ok (.invokestatic 144, 3) := by decide +kernel
theorem dX11_lose_4 : decode cX11_lose 4 = .ok (.ifCond .eq 5, 3) := by decide +kernel
theorem dX11_lose_7 : decode cX11_lose 7 = .ok (.iconst (-1), 1) := by decide +kernel
theorem dX11_lose_8 : decode cX11_lose 8 = .ok (.ireturn, 1) := by decide +kernel
theorem dX11_lose_9 : decode cX11_lose 9 = .ok (.aload_n 0, 1) := by decide +kernel
theorem dX11_lose_10 : decode cX11_lose 10 = .ok (.getfield 22, 3) := by decide +kernel
theorem dX11_lose_13 : decode cX11_lose 13 = .ok (.iload_n 1, 1) := by decide +kernel
theorem dX11_lose_14 : decode cX11_lose 14 = .ok (.iaload, 1) := by decide +kernel
theorem dX11_lose_15 : decode cX11_lose 15 = .ok (.ifCond .ge 7, 3) := by decide +kernel
theorem dX11_lose_18 : decode cX11_lose 18 = .ok (.iconst 0, 1) := by decide +kernel
theorem dX11_lose_19 : decode cX11_lose 19 = .ok (.goto 4, 3) := by decide +kernel
theorem dX11_lose_22 : decode cX11_lose 22 = .ok (.iconst 1, 1) := by decide +kernel
theorem dX11_lose_23 : decode cX11_lose 23 = .ok (.istore_n 2, 1) := by decide +kernel
theorem dX11_lose_24 : decode cX11_lose 24 = .ok (.aload_n 0, 1) := by decide +kernel
theorem dX11_lose_25 : decode cX11_lose 25 = .ok (.getfield 22, 3) := by decide +kernel
theorem dX11_lose_28 : decode cX11_lose 28 = .ok (.iload_n 1, 1) := by decide +kernel
theorem dX11_lose_29 : decode cX11_lose 29 = .ok (.iconst (-1), 1) := by decide +kernel
theorem dX11_lose_30 : decode cX11_lose 30 = .ok (.iastore, 1) := by decide +kernel
theorem dX11_lose_31 : decode cX11_lose 31 = .ok (.iload_n 2, 1) := by decide +kernel
theorem dX11_lose_32 : decode cX11_lose 32 = .ok (.ireturn, 1) := by decide +kernel
set_option maxRecDepth 20000 in
theorem ggX11_noCell_X11_in : GoodIn wsX11_noCell wsX11_in := goodIn_r _ [5] (by decide +kernel) (by decide +kernel)
set_option maxRecDepth 20000 in
theorem gX11_noCell_X11_in : GoodIn wsX11_noCell (va_wsS RX11 111 yX11_in wsX11_in) := goodIn_app (goodIn_r _ [2, 3, 4] (by decide +kernel) (by decide +kernel)) ggX11_noCell_X11_in
theorem dX11_noCell_0 : decode cX11_noCell 0 = .ok (.aload_n 0, 1) := by decide +kernel
theorem dX11_noCell_1 : decode cX11_noCell 1 = .ok (.getfield 22, 3) := by decide +kernel
theorem dX11_noCell_4 : decode cX11_noCell 4 = .ok (.iload_n 1, 1) := by decide +kernel
theorem dX11_noCell_5 : decode cX11_noCell 5 = .ok (.iaload, 1) := by decide +kernel
theorem dX11_noCell_6 : decode cX11_noCell 6 = .ok (.ifCond .ge 7, 3) := by decide +kernel
theorem dX11_noCell_9 : decode cX11_noCell 9 = .ok (.iconst 1, 1) := by decide +kernel
theorem dX11_noCell_10 : decode cX11_noCell 10 = .ok (.goto 26, 3) := by decide +kernel
theorem dX11_noCell_13 : decode cX11_noCell 13 = .ok (.iload_n 2, 1) := by decide +kernel
theorem dX11_noCell_14 : decode cX11_noCell 14 = .ok (.i2l, 1) := by decide +kernel
theorem dX11_noCell_15 : decode cX11_noCell 15 = .ok (.lconst 0, 1) := by decide +kernel
theorem dX11_noCell_16 : decode cX11_noCell 16 = .ok (.aload_n 0, 1) := by decide +kernel
theorem dX11_noCell_17 : decode cX11_noCell 17 = .ok (.getfield 22, 3) := by decide +kernel
theorem dX11_noCell_20 : decode cX11_noCell 20 = .ok (.iload_n 1, 1) := by decide +kernel
theorem dX11_noCell_21 : decode cX11_noCell 21 = .ok (.iaload, 1) := by decide +kernel
theorem dX11_noCell_22 : decode cX11_noCell 22 = .ok (.i2l, 1) := by decide +kernel
theorem dX11_noCell_23 : decode cX11_noCell 23 = .ok (.lconst 1, 1) := by decide +kernel
theorem dX11_noCell_24 : decode cX11_noCell 24 = .ok (.lsub, 1) := by decide +kernel
theorem dX11_noCell_25 : decode cX11_noCell 25 = .ok (.invokestatic 111, 3) := by decide +kernel
theorem dX11_noCell_28 : decode cX11_noCell 28 = .ok (.ifCond .eq 7, 3) := by decide +kernel
theorem dX11_noCell_31 : decode cX11_noCell 31 = .ok (.iconst 0, 1) := by decide +kernel
theorem dX11_noCell_32 : decode cX11_noCell 32 = .ok (.goto 4, 3) := by decide +kernel
theorem dX11_noCell_35 : decode cX11_noCell 35 = .ok (.iconst 3, 1) := by decide +kernel
theorem dX11_noCell_36 : decode cX11_noCell 36 = .ok (.ireturn, 1) := by decide +kernel
set_option maxRecDepth 20000 in
theorem ggX11_put_X11_noSheet : GoodIn wsX11_put wsX11_noSheet := goodIn_r _ [6, 7, 8, 9, 5, 10] (by decide +kernel) (by decide +kernel)
set_option maxRecDepth 20000 in
theorem gX11_put_X11_noSheet : GoodIn wsX11_put (va_wsS RX11 144 yX11_noSheet wsX11_noSheet) := goodIn_app (goodIn_r _ [3, 4, 5] (by decide +kernel) (by decide +kernel)) ggX11_put_X11_noSheet
set_option maxRecDepth 20000 in
theorem ggX11_put_X11_refused : GoodIn wsX11_put wsX11_refused := goodIn_r _ [14, 15, 25, 26, 27, 28, 29, 30, 31, 32, 33, 34, 35, 36, 37, 38, 39, 40, 41, 42, 43, 44, 45, 46, 47, 48, 49, 50, 51, 52, 53, 54, 55, 56, 57, 58, 59, 60, 61, 62, 63] (by decide +kernel) (by decide +kernel)
set_option maxRecDepth 20000 in
theorem gX11_put_X11_refused : GoodIn wsX11_put (wsV RX11 148 RX11 yX11_refused wsX11_refused) := goodIn_app (goodIn_r _ [11, 12, 13, 5] (by decide +kernel) (by decide +kernel)) ggX11_put_X11_refused
set_option maxRecDepth 20000 in
theorem ggX11_put_X11_noCell : GoodIn wsX11_put wsX11_noCell := goodIn_r _ [19, 20, 8, 9, 5, 10, 25, 26, 27, 28, 29, 30, 31, 32, 33, 34, 35, 36, 37, 38, 39, 40, 41, 42, 43, 44, 45, 46, 47, 48, 49, 50, 51, 52, 53, 54, 55, 56, 57, 58, 59, 60, 61, 62, 63] (by decide +kernel) (by decide +kernel)
set_option maxRecDepth 20000 in
theorem gX11_put_X11_noCell : GoodIn wsX11_put (wsV RX11 156 RX11 yX11_noCell wsX11_noCell) := goodIn_app (goodIn_r _ [16, 17, 18, 5] (by decide +kernel) (by decide +kernel)) ggX11_put_X11_noCell
set_option maxRecDepth 20000 in
theorem ggX11_put_X11_failed : GoodIn wsX11_put wsX11_failed := goodIn_r _ [24, 15, 25, 26, 27, 28, 29, 30, 31, 32, 33, 34, 35, 36, 37, 38, 39, 40, 41, 42, 43, 44, 45, 46, 47, 48, 49, 50, 51, 52, 53, 54, 55, 56, 57, 58, 59, 60, 61, 62, 63] (by decide +kernel) (by decide +kernel)
set_option maxRecDepth 20000 in
theorem gX11_put_X11_failed : GoodIn wsX11_put (wsV RX11 153 RX11 yX11_failed wsX11_failed) := goodIn_app (goodIn_r _ [21, 22, 23, 5] (by decide +kernel) (by decide +kernel)) ggX11_put_X11_failed
theorem dX11_put_0 : decode cX11_put 0 = .ok (.iload_n 1, 1) := by decide +kernel
theorem dX11_put_1 : decode cX11_put 1 = .ok (.invokestatic 144, 3) := by decide +kernel
theorem dX11_put_4 : decode cX11_put 4 = .ok (.ifCond .eq 9, 3) := by decide +kernel
theorem dX11_put_7 : decode cX11_put 7 = .ok (.aload_n 0, 1) := by decide +kernel
theorem dX11_put_8 : decode cX11_put 8 = .ok (.iconst (-1), 1) := by decide +kernel
theorem dX11_put_9 : decode cX11_put 9 = .ok (.invokevirtual 148, 3) := by decide +kernel
theorem dX11_put_12 : decode cX11_put 12 = .ok (.ireturn, 1) := by decide +kernel
theorem dX11_put_13 : decode cX11_put 13 = .ok (.aload_n 0, 1) := by decide +kernel
theorem dX11_put_14 : decode cX11_put 14 = .ok (.iload_n 1, 1) := by decide +kernel
theorem dX11_put_15 : decode cX11_put 15 = .ok (.iload_n 2, 1) := by decide +kernel
theorem dX11_put_16 : decode cX11_put 16 = .ok (.invokevirtual 156, 3) := by decide +kernel
theorem dX11_put_19 : decode cX11_put 19 = .ok (.ifCond .le 14, 3) := by decide +kernel
theorem dX11_put_22 : decode cX11_put 22 = .ok (.aload_n 0, 1) := by decide +kernel
theorem dX11_put_23 : decode cX11_put 23 = .ok (.aload_n 0, 1) := by decide +kernel
theorem dX11_put_24 : decode cX11_put 24 = .ok (.iload_n 1, 1) := by decide +kernel
theorem dX11_put_25 : decode cX11_put 25 = .ok (.iload_n 2, 1) := by decide +kernel
theorem dX11_put_26 : decode cX11_put 26 = .ok (.invokevirtual 156, 3) := by decide +kernel
theorem dX11_put_29 : decode cX11_put 29 = .ok (.invokevirtual 153, 3) := by decide +kernel
theorem dX11_put_32 : decode cX11_put 32 = .ok (.ireturn, 1) := by decide +kernel
theorem dX11_put_33 : decode cX11_put 33 = .ok (.aload_n 0, 1) := by decide +kernel
theorem dX11_put_34 : decode cX11_put 34 = .ok (.getfield 28, 3) := by decide +kernel
theorem dX11_put_37 : decode cX11_put 37 = .ok (.bipush 48, 2) := by decide +kernel
theorem dX11_put_39 : decode cX11_put 39 = .ok (.iload_n 1, 1) := by decide +kernel
theorem dX11_put_40 : decode cX11_put 40 = .ok (.imul, 1) := by decide +kernel
theorem dX11_put_41 : decode cX11_put 41 = .ok (.iload_n 2, 1) := by decide +kernel
theorem dX11_put_42 : decode cX11_put 42 = .ok (.iadd, 1) := by decide +kernel
theorem dX11_put_43 : decode cX11_put 43 = .ok (.aload_n 0, 1) := by decide +kernel
theorem dX11_put_44 : decode cX11_put 44 = .ok (.getfield 25, 3) := by decide +kernel
theorem dX11_put_47 : decode cX11_put 47 = .ok (.iload_n 1, 1) := by decide +kernel
theorem dX11_put_48 : decode cX11_put 48 = .ok (.iaload, 1) := by decide +kernel
theorem dX11_put_49 : decode cX11_put 49 = .ok (.ifCond .ne 8, 3) := by decide +kernel
theorem dX11_put_52 : decode cX11_put 52 = .ok (.iload_n 3, 1) := by decide +kernel
theorem dX11_put_53 : decode cX11_put 53 = .ok (.i2b, 1) := by decide +kernel
theorem dX11_put_54 : decode cX11_put 54 = .ok (.goto 19, 3) := by decide +kernel
theorem dX11_put_57 : decode cX11_put 57 = .ok (.aload_n 0, 1) := by decide +kernel
theorem dX11_put_58 : decode cX11_put 58 = .ok (.getfield 25, 3) := by decide +kernel
theorem dX11_put_61 : decode cX11_put 61 = .ok (.iload_n 1, 1) := by decide +kernel
theorem dX11_put_62 : decode cX11_put 62 = .ok (.iaload, 1) := by decide +kernel
theorem dX11_put_63 : decode cX11_put 63 = .ok (.iconst 1, 1) := by decide +kernel
theorem dX11_put_64 : decode cX11_put 64 = .ok (.if_icmp .ne 8, 3) := by decide +kernel
theorem dX11_put_67 : decode cX11_put 67 = .ok (.iload_n 3, 1) := by decide +kernel
theorem dX11_put_68 : decode cX11_put 68 = .ok (.i2s, 1) := by decide +kernel
theorem dX11_put_69 : decode cX11_put 69 = .ok (.goto 4, 3) := by decide +kernel
theorem dX11_put_72 : decode cX11_put 72 = .ok (.iload_n 3, 1) := by decide +kernel
theorem dX11_put_73 : decode cX11_put 73 = .ok (.iastore, 1) := by decide +kernel
theorem dX11_put_74 : decode cX11_put 74 = .ok (.aload_n 0, 1) := by decide +kernel
theorem dX11_put_75 : decode cX11_put 75 = .ok (.iconst 1, 1) := by decide +kernel
theorem dX11_put_76 : decode cX11_put 76 = .ok (.invokevirtual 148, 3) := by decide +kernel
theorem dX11_put_79 : decode cX11_put 79 = .ok (.ireturn, 1) := by decide +kernel
set_option maxRecDepth 20000 in
theorem ggX11_cell_X11_noSheet : GoodIn wsX11_cell wsX11_noSheet := goodIn_r _ [9, 10, 11, 12, 8, 13] (by decide +kernel) (by decide +kernel)
set_option maxRecDepth 20000 in
theorem gX11_cell_X11_noSheet : GoodIn wsX11_cell (va_wsS RX11 144 yX11_noSheet wsX11_noSheet) := goodIn_app (goodIn_r _ [6, 7, 8] (by decide +kernel) (by decide +kernel)) ggX11_cell_X11_noSheet
set_option maxRecDepth 20000 in
theorem ggX11_cell_X11_in : GoodIn wsX11_cell wsX11_in := goodIn_r _ [13] (by decide +kernel) (by decide +kernel)
set_option maxRecDepth 20000 in
theorem gX11_cell_X11_in : GoodIn wsX11_cell (va_wsS RX11 111 yX11_in wsX11_in) := goodIn_app (goodIn_r _ [11, 12, 8] (by decide +kernel) (by decide +kernel)) ggX11_cell_X11_in
set_option maxRecDepth 20000 in
theorem ggX11_cell_X11_lost : GoodIn wsX11_cell wsX11_lost := goodIn_r _ [16, 17] (by decide +kernel) (by decide +kernel)
set_option maxRecDepth 20000 in
theorem gX11_cell_X11_lost : GoodIn wsX11_cell (va_wsS RX11 105 yX11_lost wsX11_lost) := goodIn_app (goodIn_r _ [14, 15, 8] (by decide +kernel) (by decide +kernel)) ggX11_cell_X11_lost
set_option maxRecDepth 20000 in
theorem ggX11_cell_X11_failedLong : GoodIn wsX11_cell wsX11_failedLong := goodIn_r _ [21, 1, 14, 15, 8, 16, 17, 26, 27, 28, 29, 30, 31, 32, 33, 34, 35, 36, 37, 38, 39, 40, 41, 42, 43, 44, 45, 46, 47, 48, 49, 50, 51, 52, 53, 54, 55, 56, 57, 58, 59, 60, 61, 62, 63, 64] (by decide +kernel) (by decide +kernel)
set_option maxRecDepth 20000 in
theorem gX11_cell_X11_failedLong : GoodIn wsX11_cell (wsV RX11 160 RX11 yX11_failedLong wsX11_failedLong) := goodIn_app (goodIn_r _ [18, 19, 20, 8] (by decide +kernel) (by decide +kernel)) ggX11_cell_X11_failedLong
set_option maxRecDepth 20000 in
theorem ggX11_cell_X11_noCell : GoodIn wsX11_cell wsX11_noCell := goodIn_r _ [25, 3, 11, 12, 8, 13, 26, 27, 28, 29, 30, 31, 32, 33, 34, 35, 36, 37, 38, 39, 40, 41, 42, 43, 44, 45, 46, 47, 48, 49, 50, 51, 52, 53, 54, 55, 56, 57, 58, 59, 60, 61, 62, 63, 64] (by decide +kernel) (by decide +kernel)
set_option maxRecDepth 20000 in
theorem gX11_cell_X11_noCell : GoodIn wsX11_cell (wsV RX11 156 RX11 yX11_noCell wsX11_noCell) := goodIn_app (goodIn_r _ [22, 23, 24, 8] (by decide +kernel) (by decide +kernel)) ggX11_cell_X11_noCell
theorem dX11_cell_0 : decode cX11_cell 0 = .ok (.aload_n 0, 1) := by decide +kernel
theorem dX11_cell_1 : decode cX11_cell 1 = .ok (.iconst 0, 1) := by decide +kernel
theorem dX11_cell_2 : decode cX11_cell 2 = .ok (.putfield 102, 3) := by decide +kernel
theorem dX11_cell_5 : decode cX11_cell 5 = .ok (.iload_n 1, 1) := by decide +kernel
theorem dX11_cell_6 : decode cX11_cell 6 = .ok (.invokestatic 144, 3) := by decide +kernel
theorem dX11_cell_9 : decode cX11_cell 9 = .ok (.ifCond .ne 15, 3) := by decide +kernel
theorem dX11_cell_12 : decode cX11_cell 12 = .ok (.iload_n 3, 1) := by decide +kernel
theorem dX11_cell_13 : decode cX11_cell 13 = .ok (.i2l, 1) := by decide +kernel
theorem dX11_cell_14 : decode cX11_cell 14 = .ok (.lconst 0, 1) := by decide +kernel
theorem dX11_cell_15 : decode cX11_cell 15 = .ok (.ldc2_w 151, 3) := by decide +kernel
theorem dX11_cell_18 : decode cX11_cell 18 = .ok (.invokestatic 111, 3) := by decide +kernel
theorem dX11_cell_21 : decode cX11_cell 21 = .ok (.ifCond .ne 7, 3) := by decide +kernel
theorem dX11_cell_24 : decode cX11_cell 24 = .ok (.invokestatic 105, 3) := by decide +kernel
theorem dX11_cell_27 : decode cX11_cell 27 = .ok (.lreturn, 1) := by decide +kernel
theorem dX11_cell_28 : decode cX11_cell 28 = .ok (.aload_n 0, 1) := by decide +kernel
theorem dX11_cell_29 : decode cX11_cell 29 = .ok (.getfield 22, 3) := by decide +kernel
theorem dX11_cell_32 : decode cX11_cell 32 = .ok (.iload_n 1, 1) := by decide +kernel
theorem dX11_cell_33 : decode cX11_cell 33 = .ok (.iaload, 1) := by decide +kernel
theorem dX11_cell_34 : decode cX11_cell 34 = .ok (.ifCond .lt 19, 3) := by decide +kernel
theorem dX11_cell_37 : decode cX11_cell 37 = .ok (.aload_n 0, 1) := by decide +kernel
theorem dX11_cell_38 : decode cX11_cell 38 = .ok (.getfield 25, 3) := by decide +kernel
theorem dX11_cell_41 : decode cX11_cell 41 = .ok (.iload_n 1, 1) := by decide +kernel
theorem dX11_cell_42 : decode cX11_cell 42 = .ok (.iaload, 1) := by decide +kernel
theorem dX11_cell_43 : decode cX11_cell 43 = .ok (.iload_n 3, 1) := by decide +kernel
theorem dX11_cell_44 : decode cX11_cell 44 = .ok (.if_icmp .eq 9, 3) := by decide +kernel
theorem dX11_cell_47 : decode cX11_cell 47 = .ok (.aload_n 0, 1) := by decide +kernel
theorem dX11_cell_48 : decode cX11_cell 48 = .ok (.iconst 2, 1) := by decide +kernel
theorem dX11_cell_49 : decode cX11_cell 49 = .ok (.invokevirtual 160, 3) := by decide +kernel
theorem dX11_cell_52 : decode cX11_cell 52 = .ok (.lreturn, 1) := by decide +kernel
theorem dX11_cell_53 : decode cX11_cell 53 = .ok (.aload_n 0, 1) := by decide +kernel
theorem dX11_cell_54 : decode cX11_cell 54 = .ok (.iload_n 1, 1) := by decide +kernel
theorem dX11_cell_55 : decode cX11_cell 55 = .ok (.iload_n 2, 1) := by decide +kernel
theorem dX11_cell_56 : decode cX11_cell 56 = .ok (.invokevirtual 156, 3) := by decide +kernel
theorem dX11_cell_59 : decode cX11_cell 59 = .ok (.ifCond .le 16, 3) := by decide +kernel
theorem dX11_cell_62 : decode cX11_cell 62 = .ok (.aload_n 0, 1) := by decide +kernel
theorem dX11_cell_63 : decode cX11_cell 63 = .ok (.aload_n 0, 1) := by decide +kernel
theorem dX11_cell_64 : decode cX11_cell 64 = .ok (.iload_n 1, 1) := by decide +kernel
theorem dX11_cell_65 : decode cX11_cell 65 = .ok (.iload_n 2, 1) := by decide +kernel
theorem dX11_cell_66 : decode cX11_cell 66 = .ok (.invokevirtual 156, 3) := by decide +kernel
theorem dX11_cell_69 : decode cX11_cell 69 = .ok (.invokevirtual 160, 3) := by decide +kernel
theorem dX11_cell_72 : decode cX11_cell 72 = .ok (.goto 15, 3) := by decide +kernel
theorem dX11_cell_75 : decode cX11_cell 75 = .ok (.aload_n 0, 1) := by decide +kernel
theorem dX11_cell_76 : decode cX11_cell 76 = .ok (.getfield 28, 3) := by decide +kernel
theorem dX11_cell_79 : decode cX11_cell 79 = .ok (.bipush 48, 2) := by decide +kernel
theorem dX11_cell_81 : decode cX11_cell 81 = .ok (.iload_n 1, 1) := by decide +kernel
theorem dX11_cell_82 : decode cX11_cell 82 = .ok (.imul, 1) := by decide +kernel
theorem dX11_cell_83 : decode cX11_cell 83 = .ok (.iload_n 2, 1) := by decide +kernel
theorem dX11_cell_84 : decode cX11_cell 84 = .ok (.iadd, 1) := by decide +kernel
theorem dX11_cell_85 : decode cX11_cell 85 = .ok (.iaload, 1) := by decide +kernel
theorem dX11_cell_86 : decode cX11_cell 86 = .ok (.i2l, 1) := by decide +kernel
theorem dX11_cell_87 : decode cX11_cell 87 = .ok (.lreturn, 1) := by decide +kernel
theorem dX11_isBeyond_0 : decode cX11_isBeyond 0 = .ok (.iload_n 0, 1) := by decide +kernel
theorem dX11_isBeyond_1 : decode cX11_isBeyond 1 = .ok (.ifCond .lt 18, 3) := by decide +kernel
theorem dX11_isBeyond_4 : decode cX11_isBeyond 4 = .ok (.iload_n 1, 1) := by decide +kernel
theorem dX11_isBeyond_5 : decode cX11_isBeyond 5 = .ok (.ifCond .lt 14, 3) := by decide +kernel
theorem dX11_isBeyond_8 : decode cX11_isBeyond 8 = .ok (.iload_n 0, 1) := by decide +kernel
theorem dX11_isBeyond_9 : decode cX11_isBeyond 9 = .ok (.i2l, 1) := by decide +kernel
theorem dX11_isBeyond_10 : decode cX11_isBeyond 10 = .ok (.iload_n 1, 1) := by decide +kernel
theorem dX11_isBeyond_11 : decode cX11_isBeyond 11 = .ok (.i2l, 1) := by decide +kernel
theorem dX11_isBeyond_12 : decode cX11_isBeyond 12 = .ok (.ladd, 1) := by decide +kernel
theorem dX11_isBeyond_13 : decode cX11_isBeyond 13 = .ok (.iload_n 2, 1) := by decide +kernel
theorem dX11_isBeyond_14 : decode cX11_isBeyond 14 = .ok (.i2l, 1) := by decide +kernel
theorem dX11_isBeyond_15 : decode cX11_isBeyond 15 = .ok (.lcmp, 1) := by decide +kernel
theorem dX11_isBeyond_16 : decode cX11_isBeyond 16 = .ok (.ifCond .le 7, 3) := by decide +kernel
theorem dX11_isBeyond_19 : decode cX11_isBeyond 19 = .ok (.iconst 1, 1) := by decide +kernel
theorem dX11_isBeyond_20 : decode cX11_isBeyond 20 = .ok (.goto 4, 3) := by decide +kernel
theorem dX11_isBeyond_23 : decode cX11_isBeyond 23 = .ok (.iconst 0, 1) := by decide +kernel
theorem dX11_isBeyond_24 : decode cX11_isBeyond 24 = .ok (.ireturn, 1) := by decide +kernel
set_option maxRecDepth 20000 in
theorem ggX11_copy_X11_noSheet : GoodIn wsX11_copy wsX11_noSheet := goodIn_r _ [8, 9, 10, 11, 7, 12] (by decide +kernel) (by decide +kernel)
set_option maxRecDepth 20000 in
theorem gX11_copy_X11_noSheet : GoodIn wsX11_copy (va_wsS RX11 144 yX11_noSheet wsX11_noSheet) := goodIn_app (goodIn_r _ [5, 6, 7] (by decide +kernel) (by decide +kernel)) ggX11_copy_X11_noSheet
set_option maxRecDepth 20000 in
theorem ggX11_copy_X11_refused : GoodIn wsX11_copy wsX11_refused := goodIn_r _ [16, 17, 25, 26, 27, 28, 29, 30, 31, 32, 33, 34, 35, 36, 37, 38, 39, 40, 41, 42, 43, 44, 45, 46, 47, 48, 49, 50, 51, 52, 53, 54, 55, 56, 57, 58, 59, 60, 61, 62, 63] (by decide +kernel) (by decide +kernel)
set_option maxRecDepth 20000 in
theorem gX11_copy_X11_refused : GoodIn wsX11_copy (wsV RX11 148 RX11 yX11_refused wsX11_refused) := goodIn_app (goodIn_r _ [13, 14, 15, 7] (by decide +kernel) (by decide +kernel)) ggX11_copy_X11_refused
set_option maxRecDepth 20000 in
theorem ggX11_copy_X11_failed : GoodIn wsX11_copy wsX11_failed := goodIn_r _ [21, 17, 25, 26, 27, 28, 29, 30, 31, 32, 33, 34, 35, 36, 37, 38, 39, 40, 41, 42, 43, 44, 45, 46, 47, 48, 49, 50, 51, 52, 53, 54, 55, 56, 57, 58, 59, 60, 61, 62, 63] (by decide +kernel) (by decide +kernel)
set_option maxRecDepth 20000 in
theorem gX11_copy_X11_failed : GoodIn wsX11_copy (wsV RX11 153 RX11 yX11_failed wsX11_failed) := goodIn_app (goodIn_r _ [18, 19, 20, 7] (by decide +kernel) (by decide +kernel)) ggX11_copy_X11_failed
set_option maxRecDepth 20000 in
theorem ggX11_copy_X11_isBeyond : GoodIn wsX11_copy wsX11_isBeyond := goodIn_r _ [24] (by decide +kernel) (by decide +kernel)
set_option maxRecDepth 20000 in
theorem gX11_copy_X11_isBeyond : GoodIn wsX11_copy (va_wsS RX11 164 yX11_isBeyond wsX11_isBeyond) := goodIn_app (goodIn_r _ [22, 23, 7] (by decide +kernel) (by decide +kernel)) ggX11_copy_X11_isBeyond
theorem dX11_copy_0 : decode cX11_copy 0 = .ok (.iload_n 1, 1) := by decide +kernel
theorem dX11_copy_1 : decode cX11_copy 1 = .ok (.invokestatic 144, 3) := by decide +kernel
theorem dX11_copy_4 : decode cX11_copy 4 = .ok (.ifCond .ne 10, 3) := by decide +kernel
theorem dX11_copy_7 : decode cX11_copy 7 = .ok (.iload_n 3, 1) := by decide +kernel
theorem dX11_copy_8 : decode cX11_copy 8 = .ok (.invokestatic 144, 3) := by decide +kernel
theorem dX11_copy_11 : decode cX11_copy 11 = .ok (.ifCond .eq 9, 3) := by decide +kernel
theorem dX11_copy_14 : decode cX11_copy 14 = .ok (.aload_n 0, 1) := by decide +kernel
theorem dX11_copy_15 : decode cX11_copy 15 = .ok (.iconst (-1), 1) := by decide +kernel
theorem dX11_copy_16 : decode cX11_copy 16 = .ok (.invokevirtual 148, 3) := by decide +kernel
theorem dX11_copy_19 : decode cX11_copy 19 = .ok (.ireturn, 1) := by decide +kernel
theorem dX11_copy_20 : decode cX11_copy 20 = .ok (.aload_n 0, 1) := by decide +kernel
theorem dX11_copy_21 : decode cX11_copy 21 = .ok (.getfield 22, 3) := by decide +kernel
theorem dX11_copy_24 : decode cX11_copy 24 = .ok (.iload_n 1, 1) := by decide +kernel
theorem dX11_copy_25 : decode cX11_copy 25 = .ok (.iaload, 1) := by decide +kernel
theorem dX11_copy_26 : decode cX11_copy 26 = .ok (.ifCond .lt 12, 3) := by decide +kernel
theorem dX11_copy_29 : decode cX11_copy 29 = .ok (.aload_n 0, 1) := by decide +kernel
theorem dX11_copy_30 : decode cX11_copy 30 = .ok (.getfield 22, 3) := by decide +kernel
theorem dX11_copy_33 : decode cX11_copy 33 = .ok (.iload_n 3, 1) := by decide +kernel
theorem dX11_copy_34 : decode cX11_copy 34 = .ok (.iaload, 1) := by decide +kernel
theorem dX11_copy_35 : decode cX11_copy 35 = .ok (.ifCond .ge 9, 3) := by decide +kernel
theorem dX11_copy_38 : decode cX11_copy 38 = .ok (.aload_n 0, 1) := by decide +kernel
theorem dX11_copy_39 : decode cX11_copy 39 = .ok (.iconst 1, 1) := by decide +kernel
theorem dX11_copy_40 : decode cX11_copy 40 = .ok (.invokevirtual 153, 3) := by decide +kernel
theorem dX11_copy_43 : decode cX11_copy 43 = .ok (.ireturn, 1) := by decide +kernel
theorem dX11_copy_44 : decode cX11_copy 44 = .ok (.aload_n 0, 1) := by decide +kernel
theorem dX11_copy_45 : decode cX11_copy 45 = .ok (.getfield 25, 3) := by decide +kernel
theorem dX11_copy_48 : decode cX11_copy 48 = .ok (.iload_n 1, 1) := by decide +kernel
theorem dX11_copy_49 : decode cX11_copy 49 = .ok (.iaload, 1) := by decide +kernel
theorem dX11_copy_50 : decode cX11_copy 50 = .ok (.aload_n 0, 1) := by decide +kernel
theorem dX11_copy_51 : decode cX11_copy 51 = .ok (.getfield 25, 3) := by decide +kernel
theorem dX11_copy_54 : decode cX11_copy 54 = .ok (.iload_n 3, 1) := by decide +kernel
theorem dX11_copy_55 : decode cX11_copy 55 = .ok (.iaload, 1) := by decide +kernel
theorem dX11_copy_56 : decode cX11_copy 56 = .ok (.if_icmp .eq 9, 3) := by decide +kernel
theorem dX11_copy_59 : decode cX11_copy 59 = .ok (.aload_n 0, 1) := by decide +kernel
theorem dX11_copy_60 : decode cX11_copy 60 = .ok (.iconst 2, 1) := by decide +kernel
theorem dX11_copy_61 : decode cX11_copy 61 = .ok (.invokevirtual 153, 3) := by decide +kernel
theorem dX11_copy_64 : decode cX11_copy 64 = .ok (.ireturn, 1) := by decide +kernel
theorem dX11_copy_65 : decode cX11_copy 65 = .ok (.iload_n 2, 1) := by decide +kernel
theorem dX11_copy_66 : decode cX11_copy 66 = .ok (.iload 5, 2) := by decide +kernel
theorem dX11_copy_68 : decode cX11_copy 68 = .ok (.aload_n 0, 1) := by decide +kernel
theorem dX11_copy_69 : decode cX11_copy 69 = .ok (.getfield 22, 3) := by decide +kernel
theorem dX11_copy_72 : decode cX11_copy 72 = .ok (.iload_n 1, 1) := by decide +kernel
theorem dX11_copy_73 : decode cX11_copy 73 = .ok (.iaload, 1) := by decide +kernel
theorem dX11_copy_74 : decode cX11_copy 74 = .ok (.invokestatic 164, 3) := by decide +kernel
theorem dX11_copy_77 : decode cX11_copy 77 = .ok (.ifCond .ne 19, 3) := by decide +kernel
theorem dX11_copy_80 : decode cX11_copy 80 = .ok (.iload 4, 2) := by decide +kernel
theorem dX11_copy_82 : decode cX11_copy 82 = .ok (.iload 5, 2) := by decide +kernel
theorem dX11_copy_84 : decode cX11_copy 84 = .ok (.aload_n 0, 1) := by decide +kernel
theorem dX11_copy_85 : decode cX11_copy 85 = .ok (.getfield 22, 3) := by decide +kernel
theorem dX11_copy_88 : decode cX11_copy 88 = .ok (.iload_n 3, 1) := by decide +kernel
theorem dX11_copy_89 : decode cX11_copy 89 = .ok (.iaload, 1) := by decide +kernel
theorem dX11_copy_90 : decode cX11_copy 90 = .ok (.invokestatic 164, 3) := by decide +kernel
theorem dX11_copy_93 : decode cX11_copy 93 = .ok (.ifCond .eq 9, 3) := by decide +kernel
theorem dX11_copy_96 : decode cX11_copy 96 = .ok (.aload_n 0, 1) := by decide +kernel
theorem dX11_copy_97 : decode cX11_copy 97 = .ok (.iconst 3, 1) := by decide +kernel
theorem dX11_copy_98 : decode cX11_copy 98 = .ok (.invokevirtual 153, 3) := by decide +kernel
theorem dX11_copy_101 : decode cX11_copy 101 = .ok (.ireturn, 1) := by decide +kernel
theorem dX11_copy_102 : decode cX11_copy 102 = .ok (.iconst 0, 1) := by decide +kernel
theorem dX11_copy_103 : decode cX11_copy 103 = .ok (.istore 6, 2) := by decide +kernel
theorem dX11_copy_105 : decode cX11_copy 105 = .ok (.iload 6, 2) := by decide +kernel
theorem dX11_copy_107 : decode cX11_copy 107 = .ok (.iload 5, 2) := by decide +kernel
theorem dX11_copy_109 : decode cX11_copy 109 = .ok (.if_icmp .ge 30, 3) := by decide +kernel
theorem dX11_copy_112 : decode cX11_copy 112 = .ok (.aload_n 0, 1) := by decide +kernel
theorem dX11_copy_113 : decode cX11_copy 113 = .ok (.getfield 31, 3) := by decide +kernel
theorem dX11_copy_116 : decode cX11_copy 116 = .ok (.iload 6, 2) := by decide +kernel
theorem dX11_copy_118 : decode cX11_copy 118 = .ok (.aload_n 0, 1) := by decide +kernel
theorem dX11_copy_119 : decode cX11_copy 119 = .ok (.getfield 28, 3) := by decide +kernel
theorem dX11_copy_122 : decode cX11_copy 122 = .ok (.bipush 48, 2) := by decide +kernel
theorem dX11_copy_124 : decode cX11_copy 124 = .ok (.iload_n 1, 1) := by decide +kernel
theorem dX11_copy_125 : decode cX11_copy 125 = .ok (.imul, 1) := by decide +kernel
theorem dX11_copy_126 : decode cX11_copy 126 = .ok (.iload_n 2, 1) := by decide +kernel
theorem dX11_copy_127 : decode cX11_copy 127 = .ok (.iadd, 1) := by decide +kernel
theorem dX11_copy_128 : decode cX11_copy 128 = .ok (.iload 6, 2) := by decide +kernel
theorem dX11_copy_130 : decode cX11_copy 130 = .ok (.iadd, 1) := by decide +kernel
theorem dX11_copy_131 : decode cX11_copy 131 = .ok (.iaload, 1) := by decide +kernel
theorem dX11_copy_132 : decode cX11_copy 132 = .ok (.iastore, 1) := by decide +kernel
theorem dX11_copy_133 : decode cX11_copy 133 = .ok (.iinc 6 1, 3) := by decide +kernel
theorem dX11_copy_136 : decode cX11_copy 136 = .ok (.goto (-31), 3) := by decide +kernel
theorem dX11_copy_139 : decode cX11_copy 139 = .ok (.iconst 0, 1) := by decide +kernel
theorem dX11_copy_140 : decode cX11_copy 140 = .ok (.istore 6, 2) := by decide +kernel
theorem dX11_copy_142 : decode cX11_copy 142 = .ok (.iload 6, 2) := by decide +kernel
theorem dX11_copy_144 : decode cX11_copy 144 = .ok (.iload 5, 2) := by decide +kernel
theorem dX11_copy_146 : decode cX11_copy 146 = .ok (.if_icmp .ge 31, 3) := by decide +kernel
theorem dX11_copy_149 : decode cX11_copy 149 = .ok (.aload_n 0, 1) := by decide +kernel
theorem dX11_copy_150 : decode cX11_copy 150 = .ok (.getfield 28, 3) := by decide +kernel
theorem dX11_copy_153 : decode cX11_copy 153 = .ok (.bipush 48, 2) := by decide +kernel
theorem dX11_copy_155 : decode cX11_copy 155 = .ok (.iload_n 3, 1) := by decide +kernel
theorem dX11_copy_156 : decode cX11_copy 156 = .ok (.imul, 1) := by decide +kernel
theorem dX11_copy_157 : decode cX11_copy 157 = .ok (.iload 4, 2) := by decide +kernel
theorem dX11_copy_159 : decode cX11_copy 159 = .ok (.iadd, 1) := by decide +kernel
theorem dX11_copy_160 : decode cX11_copy 160 = .ok (.iload 6, 2) := by decide +kernel
theorem dX11_copy_162 : decode cX11_copy 162 = .ok (.iadd, 1) := by decide +kernel
theorem dX11_copy_163 : decode cX11_copy 163 = .ok (.aload_n 0, 1) := by decide +kernel
theorem dX11_copy_164 : decode cX11_copy 164 = .ok (.getfield 31, 3) := by decide +kernel
theorem dX11_copy_167 : decode cX11_copy 167 = .ok (.iload 6, 2) := by decide +kernel
theorem dX11_copy_169 : decode cX11_copy 169 = .ok (.iaload, 1) := by decide +kernel
theorem dX11_copy_170 : decode cX11_copy 170 = .ok (.iastore, 1) := by decide +kernel
theorem dX11_copy_171 : decode cX11_copy 171 = .ok (.iinc 6 1, 3) := by decide +kernel
theorem dX11_copy_174 : decode cX11_copy 174 = .ok (.goto (-32), 3) := by decide +kernel
theorem dX11_copy_177 : decode cX11_copy 177 = .ok (.aload_n 0, 1) := by decide +kernel
theorem dX11_copy_178 : decode cX11_copy 178 = .ok (.iload 5, 2) := by decide +kernel
theorem dX11_copy_180 : decode cX11_copy 180 = .ok (.invokevirtual 148, 3) := by decide +kernel
theorem dX11_copy_183 : decode cX11_copy 183 = .ok (.ireturn, 1) := by decide +kernel
set_option maxRecDepth 20000 in
theorem ggX11_chart_X11_noSheet : GoodIn wsX11_chart wsX11_noSheet := goodIn_r _ [10, 11, 12, 13, 9, 14] (by decide +kernel) (by decide +kernel)
set_option maxRecDepth 20000 in
theorem gX11_chart_X11_noSheet : GoodIn wsX11_chart (va_wsS RX11 144 yX11_noSheet wsX11_noSheet) := goodIn_app (goodIn_r _ [7, 8, 9] (by decide +kernel) (by decide +kernel)) ggX11_chart_X11_noSheet
set_option maxRecDepth 20000 in
theorem ggX11_chart_X11_in : GoodIn wsX11_chart wsX11_in := goodIn_r _ [14] (by decide +kernel) (by decide +kernel)
set_option maxRecDepth 20000 in
theorem gX11_chart_X11_in : GoodIn wsX11_chart (va_wsS RX11 111 yX11_in wsX11_in) := goodIn_app (goodIn_r _ [12, 13, 9] (by decide +kernel) (by decide +kernel)) ggX11_chart_X11_in
set_option maxRecDepth 20000 in
theorem ggX11_chart_X11_refused : GoodIn wsX11_chart wsX11_refused := goodIn_r _ [18, 19, 53, 54, 55, 56, 57, 58, 59, 60, 61, 62, 63, 64, 65, 66, 67, 68, 69, 70, 71, 72, 73, 74, 75, 76, 77, 78, 79, 80, 81, 82, 83, 84, 85, 86, 87, 88, 89, 90, 91] (by decide +kernel) (by decide +kernel)
set_option maxRecDepth 20000 in
theorem gX11_chart_X11_refused : GoodIn wsX11_chart (wsV RX11 148 RX11 yX11_refused wsX11_refused) := goodIn_app (goodIn_r _ [15, 16, 17, 9] (by decide +kernel) (by decide +kernel)) ggX11_chart_X11_refused
set_option maxRecDepth 20000 in
theorem ggX11_chart_X11_failed : GoodIn wsX11_chart wsX11_failed := goodIn_r _ [23, 19, 53, 54, 55, 56, 57, 58, 59, 60, 61, 62, 63, 64, 65, 66, 67, 68, 69, 70, 71, 72, 73, 74, 75, 76, 77, 78, 79, 80, 81, 82, 83, 84, 85, 86, 87, 88, 89, 90, 91] (by decide +kernel) (by decide +kernel)
set_option maxRecDepth 20000 in
theorem gX11_chart_X11_failed : GoodIn wsX11_chart (wsV RX11 153 RX11 yX11_failed wsX11_failed) := goodIn_app (goodIn_r _ [20, 21, 22, 9] (by decide +kernel) (by decide +kernel)) ggX11_chart_X11_failed
set_option maxRecDepth 20000 in
theorem ggX11_chart_X11_isBeyond : GoodIn wsX11_chart wsX11_isBeyond := goodIn_r _ [26] (by decide +kernel) (by decide +kernel)
set_option maxRecDepth 20000 in
theorem gX11_chart_X11_isBeyond : GoodIn wsX11_chart (va_wsS RX11 164 yX11_isBeyond wsX11_isBeyond) := goodIn_app (goodIn_r _ [24, 25, 9] (by decide +kernel) (by decide +kernel)) ggX11_chart_X11_isBeyond
set_option maxRecDepth 20000 in
theorem ggX11_chart_X11_layNew : GoodIn wsX11_chart wsX11_layNew := goodIn_r _ [30, 31, 32, 33, 34, 53, 54, 55, 56, 57, 58, 59, 60, 61, 62, 63, 64, 65, 66, 67, 68, 69, 70, 71, 72, 73, 74, 75, 76, 77, 78, 79, 80, 81, 82, 83, 84, 85, 86, 87, 88, 89, 90, 91] (by decide +kernel) (by decide +kernel)
set_option maxRecDepth 20000 in
theorem gX11_chart_X11_layNew : GoodIn wsX11_chart (wsV RX11 135 RX11 yX11_layNew wsX11_layNew) := goodIn_app (goodIn_r _ [27, 28, 29, 9] (by decide +kernel) (by decide +kernel)) ggX11_chart_X11_layNew
set_option maxRecDepth 20000 in
theorem ggX11_chart_X11_meet : GoodIn wsX11_chart wsX11_meet := goodIn_r _ [38, 31, 39, 33, 53, 54, 55, 56, 57, 58, 59, 60, 61, 62, 63, 64, 65, 66, 67, 68, 69, 70, 71, 72, 73, 74, 75, 76, 77, 78, 79, 80, 81, 82, 83, 84, 85, 86, 87, 88, 89, 90, 91] (by decide +kernel) (by decide +kernel)
set_option maxRecDepth 20000 in
theorem gX11_chart_X11_meet : GoodIn wsX11_chart (wsV RX11 125 RX11 yX11_meet wsX11_meet) := goodIn_app (goodIn_r _ [35, 36, 37, 9] (by decide +kernel) (by decide +kernel)) ggX11_chart_X11_meet
set_option maxRecDepth 20000 in
theorem ggX11_chart_X11_narrowed : GoodIn wsX11_chart wsX11_narrowed := goodIn_r _ [43, 39, 31, 33, 32, 34, 6, 44, 45, 46, 9, 47, 48, 49, 50, 51, 52, 12, 13, 14, 35, 36, 37, 38, 53, 54, 55, 56, 57, 58, 59, 60, 61, 62, 63, 64, 65, 66, 67, 68, 69, 70, 71, 72, 73, 74, 75, 76, 77, 78, 79, 80, 81, 82, 83, 84, 85, 86, 87, 88, 89, 90, 91] (by decide +kernel) (by decide +kernel)
set_option maxRecDepth 20000 in
theorem gX11_chart_X11_narrowed : GoodIn wsX11_chart (wsV RX11 138 RX11 yX11_narrowed wsX11_narrowed) := goodIn_app (goodIn_r _ [40, 41, 42, 9] (by decide +kernel) (by decide +kernel)) ggX11_chart_X11_narrowed
theorem dX11_chart_0 : decode cX11_chart 0 = .ok (.iload_n 1, 1) := by decide +kernel
theorem dX11_chart_1 : decode cX11_chart 1 = .ok (.invokestatic 144, 3) := by decide +kernel
theorem dX11_chart_4 : decode cX11_chart 4 = .ok (.ifCond .ne 16, 3) := by decide +kernel
theorem dX11_chart_7 : decode cX11_chart 7 = .ok (.iload 5, 2) := by decide +kernel
theorem dX11_chart_9 : decode cX11_chart 9 = .ok (.i2l, 1) := by decide +kernel
theorem dX11_chart_10 : decode cX11_chart 10 = .ok (.lconst 0, 1) := by decide +kernel
theorem dX11_chart_11 : decode cX11_chart 11 = .ok (.ldc2_w 168, 3) := by decide +kernel
theorem dX11_chart_14 : decode cX11_chart 14 = .ok (.invokestatic 111, 3) := by decide +kernel
theorem dX11_chart_17 : decode cX11_chart 17 = .ok (.ifCond .ne 9, 3) := by decide +kernel
theorem dX11_chart_20 : decode cX11_chart 20 = .ok (.aload_n 0, 1) := by decide +kernel
theorem dX11_chart_21 : decode cX11_chart 21 = .ok (.iconst (-1), 1) := by decide +kernel
theorem dX11_chart_22 : decode cX11_chart 22 = .ok (.invokevirtual 148, 3) := by decide +kernel
theorem dX11_chart_25 : decode cX11_chart 25 = .ok (.ireturn, 1) := by decide +kernel
theorem dX11_chart_26 : decode cX11_chart 26 = .ok (.iload_n 2, 1) := by decide +kernel
theorem dX11_chart_27 : decode cX11_chart 27 = .ok (.i2l, 1) := by decide +kernel
theorem dX11_chart_28 : decode cX11_chart 28 = .ok (.lconst 0, 1) := by decide +kernel
theorem dX11_chart_29 : decode cX11_chart 29 = .ok (.ldc2_w 151, 3) := by decide +kernel
theorem dX11_chart_32 : decode cX11_chart 32 = .ok (.invokestatic 111, 3) := by decide +kernel
theorem dX11_chart_35 : decode cX11_chart 35 = .ok (.ifCond .ne 10, 3) := by decide +kernel
theorem dX11_chart_38 : decode cX11_chart 38 = .ok (.aload_n 0, 1) := by decide +kernel
theorem dX11_chart_39 : decode cX11_chart 39 = .ok (.bipush (-2), 2) := by decide +kernel
theorem dX11_chart_41 : decode cX11_chart 41 = .ok (.invokevirtual 148, 3) := by decide +kernel
theorem dX11_chart_44 : decode cX11_chart 44 = .ok (.ireturn, 1) := by decide +kernel
theorem dX11_chart_45 : decode cX11_chart 45 = .ok (.aload_n 0, 1) := by decide +kernel
theorem dX11_chart_46 : decode cX11_chart 46 = .ok (.getfield 22, 3) := by decide +kernel
theorem dX11_chart_49 : decode cX11_chart 49 = .ok (.iload_n 1, 1) := by decide +kernel
theorem dX11_chart_50 : decode cX11_chart 50 = .ok (.iaload, 1) := by decide +kernel
theorem dX11_chart_51 : decode cX11_chart 51 = .ok (.ifCond .lt 19, 3) := by decide +kernel
theorem dX11_chart_54 : decode cX11_chart 54 = .ok (.aload_n 0, 1) := by decide +kernel
theorem dX11_chart_55 : decode cX11_chart 55 = .ok (.getfield 25, 3) := by decide +kernel
theorem dX11_chart_58 : decode cX11_chart 58 = .ok (.iload_n 1, 1) := by decide +kernel
theorem dX11_chart_59 : decode cX11_chart 59 = .ok (.iaload, 1) := by decide +kernel
theorem dX11_chart_60 : decode cX11_chart 60 = .ok (.iload_n 2, 1) := by decide +kernel
theorem dX11_chart_61 : decode cX11_chart 61 = .ok (.if_icmp .eq 9, 3) := by decide +kernel
theorem dX11_chart_64 : decode cX11_chart 64 = .ok (.aload_n 0, 1) := by decide +kernel
theorem dX11_chart_65 : decode cX11_chart 65 = .ok (.iconst 2, 1) := by decide +kernel
theorem dX11_chart_66 : decode cX11_chart 66 = .ok (.invokevirtual 153, 3) := by decide +kernel
theorem dX11_chart_69 : decode cX11_chart 69 = .ok (.ireturn, 1) := by decide +kernel
theorem dX11_chart_70 : decode cX11_chart 70 = .ok (.aload_n 0, 1) := by decide +kernel
theorem dX11_chart_71 : decode cX11_chart 71 = .ok (.getfield 22, 3) := by decide +kernel
theorem dX11_chart_74 : decode cX11_chart 74 = .ok (.iload_n 1, 1) := by decide +kernel
theorem dX11_chart_75 : decode cX11_chart 75 = .ok (.iaload, 1) := by decide +kernel
theorem dX11_chart_76 : decode cX11_chart 76 = .ok (.ifCond .ge 9, 3) := by decide +kernel
theorem dX11_chart_79 : decode cX11_chart 79 = .ok (.aload_n 0, 1) := by decide +kernel
theorem dX11_chart_80 : decode cX11_chart 80 = .ok (.iconst 1, 1) := by decide +kernel
theorem dX11_chart_81 : decode cX11_chart 81 = .ok (.invokevirtual 153, 3) := by decide +kernel
theorem dX11_chart_84 : decode cX11_chart 84 = .ok (.ireturn, 1) := by decide +kernel
theorem dX11_chart_85 : decode cX11_chart 85 = .ok (.iload 4, 2) := by decide +kernel
theorem dX11_chart_87 : decode cX11_chart 87 = .ok (.ifCond .ge 9, 3) := by decide +kernel
theorem dX11_chart_90 : decode cX11_chart 90 = .ok (.aload_n 0, 1) := by decide +kernel
theorem dX11_chart_91 : decode cX11_chart 91 = .ok (.iconst 4, 1) := by decide +kernel
theorem dX11_chart_92 : decode cX11_chart 92 = .ok (.invokevirtual 153, 3) := by decide +kernel
theorem dX11_chart_95 : decode cX11_chart 95 = .ok (.ireturn, 1) := by decide +kernel
theorem dX11_chart_96 : decode cX11_chart 96 = .ok (.iload_n 3, 1) := by decide +kernel
theorem dX11_chart_97 : decode cX11_chart 97 = .ok (.iload 4, 2) := by decide +kernel
theorem dX11_chart_99 : decode cX11_chart 99 = .ok (.aload_n 0, 1) := by decide +kernel
theorem dX11_chart_100 : decode cX11_chart 100 = .ok (.getfield 22, 3) := by decide +kernel
theorem dX11_chart_103 : decode cX11_chart 103 = .ok (.iload_n 1, 1) := by decide +kernel
theorem dX11_chart_104 : decode cX11_chart 104 = .ok (.iaload, 1) := by decide +kernel
theorem dX11_chart_105 : decode cX11_chart 105 = .ok (.invokestatic 164, 3) := by decide +kernel
theorem dX11_chart_108 : decode cX11_chart 108 = .ok (.ifCond .ne 15, 3) := by decide +kernel
theorem dX11_chart_111 : decode cX11_chart 111 = .ok (.iload 5, 2) := by decide +kernel
theorem dX11_chart_113 : decode cX11_chart 113 = .ok (.iload 4, 2) := by decide +kernel
theorem dX11_chart_115 : decode cX11_chart 115 = .ok (.bipush 48, 2) := by decide +kernel
theorem dX11_chart_117 : decode cX11_chart 117 = .ok (.invokestatic 164, 3) := by decide +kernel
theorem dX11_chart_120 : decode cX11_chart 120 = .ok (.ifCond .eq 9, 3) := by decide +kernel
theorem dX11_chart_123 : decode cX11_chart 123 = .ok (.aload_n 0, 1) := by decide +kernel
theorem dX11_chart_124 : decode cX11_chart 124 = .ok (.iconst 3, 1) := by decide +kernel
theorem dX11_chart_125 : decode cX11_chart 125 = .ok (.invokevirtual 153, 3) := by decide +kernel
theorem dX11_chart_128 : decode cX11_chart 128 = .ok (.ireturn, 1) := by decide +kernel
theorem dX11_chart_129 : decode cX11_chart 129 = .ok (.aload_n 0, 1) := by decide +kernel
theorem dX11_chart_130 : decode cX11_chart 130 = .ok (.invokevirtual 135, 3) := by decide +kernel
theorem dX11_chart_133 : decode cX11_chart 133 = .ok (.iconst 0, 1) := by decide +kernel
theorem dX11_chart_134 : decode cX11_chart 134 = .ok (.istore 6, 2) := by decide +kernel
theorem dX11_chart_136 : decode cX11_chart 136 = .ok (.iload 6, 2) := by decide +kernel
theorem dX11_chart_138 : decode cX11_chart 138 = .ok (.iload 4, 2) := by decide +kernel
theorem dX11_chart_140 : decode cX11_chart 140 = .ok (.if_icmp .ge 58, 3) := by decide +kernel
theorem dX11_chart_143 : decode cX11_chart 143 = .ok (.aload_n 0, 1) := by decide +kernel
theorem dX11_chart_144 : decode cX11_chart 144 = .ok (.getfield 28, 3) := by decide +kernel
theorem dX11_chart_147 : decode cX11_chart 147 = .ok (.bipush 48, 2) := by decide +kernel
theorem dX11_chart_149 : decode cX11_chart 149 = .ok (.iload_n 1, 1) := by decide +kernel
theorem dX11_chart_150 : decode cX11_chart 150 = .ok (.imul, 1) := by decide +kernel
theorem dX11_chart_151 : decode cX11_chart 151 = .ok (.iload_n 3, 1) := by decide +kernel
theorem dX11_chart_152 : decode cX11_chart 152 = .ok (.iadd, 1) := by decide +kernel
theorem dX11_chart_153 : decode cX11_chart 153 = .ok (.iload 6, 2) := by decide +kernel
theorem dX11_chart_155 : decode cX11_chart 155 = .ok (.iadd, 1) := by decide +kernel
theorem dX11_chart_156 : decode cX11_chart 156 = .ok (.iaload, 1) := by decide +kernel
theorem dX11_chart_157 : decode cX11_chart 157 = .ok (.istore 7, 2) := by decide +kernel
theorem dX11_chart_159 : decode cX11_chart 159 = .ok (.iload 7, 2) := by decide +kernel
theorem dX11_chart_161 : decode cX11_chart 161 = .ok (.sipush 1000, 3) := by decide +kernel
theorem dX11_chart_164 : decode cX11_chart 164 = .ok (.if_icmp .le 10, 3) := by decide +kernel
theorem dX11_chart_167 : decode cX11_chart 167 = .ok (.aload_n 0, 1) := by decide +kernel
theorem dX11_chart_168 : decode cX11_chart 168 = .ok (.bipush (-2), 2) := by decide +kernel
theorem dX11_chart_170 : decode cX11_chart 170 = .ok (.invokevirtual 148, 3) := by decide +kernel
theorem dX11_chart_173 : decode cX11_chart 173 = .ok (.ireturn, 1) := by decide +kernel
theorem dX11_chart_174 : decode cX11_chart 174 = .ok (.iload 7, 2) := by decide +kernel
theorem dX11_chart_176 : decode cX11_chart 176 = .ok (.ifCond .lt 16, 3) := by decide +kernel
theorem dX11_chart_179 : decode cX11_chart 179 = .ok (.aload_n 0, 1) := by decide +kernel
theorem dX11_chart_180 : decode cX11_chart 180 = .ok (.iload 5, 2) := by decide +kernel
theorem dX11_chart_182 : decode cX11_chart 182 = .ok (.iload 6, 2) := by decide +kernel
theorem dX11_chart_184 : decode cX11_chart 184 = .ok (.iadd, 1) := by decide +kernel
theorem dX11_chart_185 : decode cX11_chart 185 = .ok (.iload 7, 2) := by decide +kernel
theorem dX11_chart_187 : decode cX11_chart 187 = .ok (.iload 7, 2) := by decide +kernel
theorem dX11_chart_189 : decode cX11_chart 189 = .ok (.invokevirtual 125, 3) := by decide +kernel
theorem dX11_chart_192 : decode cX11_chart 192 = .ok (.iinc 6 1, 3) := by decide +kernel
theorem dX11_chart_195 : decode cX11_chart 195 = .ok (.goto (-59), 3) := by decide +kernel
theorem dX11_chart_198 : decode cX11_chart 198 = .ok (.aload_n 0, 1) := by decide +kernel
theorem dX11_chart_199 : decode cX11_chart 199 = .ok (.aload_n 0, 1) := by decide +kernel
theorem dX11_chart_200 : decode cX11_chart 200 = .ok (.aload_n 0, 1) := by decide +kernel
theorem dX11_chart_201 : decode cX11_chart 201 = .ok (.getfield 93, 3) := by decide +kernel
theorem dX11_chart_204 : decode cX11_chart 204 = .ok (.invokevirtual 138, 3) := by decide +kernel
theorem dX11_chart_207 : decode cX11_chart 207 = .ok (.invokevirtual 148, 3) := by decide +kernel
theorem dX11_chart_210 : decode cX11_chart 210 = .ok (.ireturn, 1) := by decide +kernel
set_option maxRecDepth 20000 in
theorem ggX11_noPitch_X11_in : GoodIn wsX11_noPitch wsX11_in := goodIn_r _ [5] (by decide +kernel) (by decide +kernel)
set_option maxRecDepth 20000 in
theorem gX11_noPitch_X11_in : GoodIn wsX11_noPitch (va_wsS RX11 111 yX11_in wsX11_in) := goodIn_app (goodIn_r _ [2, 3, 4] (by decide +kernel) (by decide +kernel)) ggX11_noPitch_X11_in
theorem dX11_noPitch_0 : decode cX11_noPitch 0 = .ok (.iload_n 1, 1) := by decide +kernel
theorem dX11_noPitch_1 : decode cX11_noPitch 1 = .ok (.i2l, 1) := by decide +kernel
theorem dX11_noPitch_2 : decode cX11_noPitch 2 = .ok (.lconst 0, 1) := by decide +kernel
theorem dX11_noPitch_3 : decode cX11_noPitch 3 = .ok (.aload_n 0, 1) := by decide +kernel
theorem dX11_noPitch_4 : decode cX11_noPitch 4 = .ok (.getfield 170, 3) := by decide +kernel
theorem dX11_noPitch_7 : decode cX11_noPitch 7 = .ok (.i2l, 1) := by decide +kernel
theorem dX11_noPitch_8 : decode cX11_noPitch 8 = .ok (.lconst 1, 1) := by decide +kernel
theorem dX11_noPitch_9 : decode cX11_noPitch 9 = .ok (.lsub, 1) := by decide +kernel
theorem dX11_noPitch_10 : decode cX11_noPitch 10 = .ok (.invokestatic 111, 3) := by decide +kernel
theorem dX11_noPitch_13 : decode cX11_noPitch 13 = .ok (.ifCond .ne 7, 3) := by decide +kernel
theorem dX11_noPitch_16 : decode cX11_noPitch 16 = .ok (.iconst 1, 1) := by decide +kernel
theorem dX11_noPitch_17 : decode cX11_noPitch 17 = .ok (.goto 4, 3) := by decide +kernel
theorem dX11_noPitch_20 : decode cX11_noPitch 20 = .ok (.iconst 0, 1) := by decide +kernel
theorem dX11_noPitch_21 : decode cX11_noPitch 21 = .ok (.ireturn, 1) := by decide +kernel
set_option maxRecDepth 20000 in
theorem ggX11_isOn_X11_in : GoodIn wsX11_isOn wsX11_in := goodIn_r _ [8] (by decide +kernel) (by decide +kernel)
set_option maxRecDepth 20000 in
theorem gX11_isOn_X11_in : GoodIn wsX11_isOn (va_wsS RX11 111 yX11_in wsX11_in) := goodIn_app (goodIn_r _ [5, 6, 7] (by decide +kernel) (by decide +kernel)) ggX11_isOn_X11_in
theorem dX11_isOn_0 : decode cX11_isOn 0 = .ok (.iload_n 2, 1) := by decide +kernel
theorem dX11_isOn_1 : decode cX11_isOn 1 = .ok (.bipush 8, 2) := by decide +kernel
theorem dX11_isOn_3 : decode cX11_isOn 3 = .ok (.irem, 1) := by decide +kernel
theorem dX11_isOn_4 : decode cX11_isOn 4 = .ok (.i2l, 1) := by decide +kernel
theorem dX11_isOn_5 : decode cX11_isOn 5 = .ok (.aload_n 0, 1) := by decide +kernel
theorem dX11_isOn_6 : decode cX11_isOn 6 = .ok (.getfield 34, 3) := by decide +kernel
theorem dX11_isOn_9 : decode cX11_isOn 9 = .ok (.iload_n 1, 1) := by decide +kernel
theorem dX11_isOn_10 : decode cX11_isOn 10 = .ok (.iaload, 1) := by decide +kernel
theorem dX11_isOn_11 : decode cX11_isOn 11 = .ok (.i2l, 1) := by decide +kernel
theorem dX11_isOn_12 : decode cX11_isOn 12 = .ok (.aload_n 0, 1) := by decide +kernel
theorem dX11_isOn_13 : decode cX11_isOn 13 = .ok (.getfield 40, 3) := by decide +kernel
theorem dX11_isOn_16 : decode cX11_isOn 16 = .ok (.iload_n 1, 1) := by decide +kernel
theorem dX11_isOn_17 : decode cX11_isOn 17 = .ok (.iaload, 1) := by decide +kernel
theorem dX11_isOn_18 : decode cX11_isOn 18 = .ok (.i2l, 1) := by decide +kernel
theorem dX11_isOn_19 : decode cX11_isOn 19 = .ok (.invokestatic 111, 3) := by decide +kernel
theorem dX11_isOn_22 : decode cX11_isOn 22 = .ok (.ifCond .eq 32, 3) := by decide +kernel
theorem dX11_isOn_25 : decode cX11_isOn 25 = .ok (.iload_n 2, 1) := by decide +kernel
theorem dX11_isOn_26 : decode cX11_isOn 26 = .ok (.bipush 8, 2) := by decide +kernel
theorem dX11_isOn_28 : decode cX11_isOn 28 = .ok (.idiv, 1) := by decide +kernel
theorem dX11_isOn_29 : decode cX11_isOn 29 = .ok (.i2l, 1) := by decide +kernel
theorem dX11_isOn_30 : decode cX11_isOn 30 = .ok (.aload_n 0, 1) := by decide +kernel
theorem dX11_isOn_31 : decode cX11_isOn 31 = .ok (.getfield 37, 3) := by decide +kernel
theorem dX11_isOn_34 : decode cX11_isOn 34 = .ok (.iload_n 1, 1) := by decide +kernel
theorem dX11_isOn_35 : decode cX11_isOn 35 = .ok (.iaload, 1) := by decide +kernel
theorem dX11_isOn_36 : decode cX11_isOn 36 = .ok (.i2l, 1) := by decide +kernel
theorem dX11_isOn_37 : decode cX11_isOn 37 = .ok (.aload_n 0, 1) := by decide +kernel
theorem dX11_isOn_38 : decode cX11_isOn 38 = .ok (.getfield 43, 3) := by decide +kernel
theorem dX11_isOn_41 : decode cX11_isOn 41 = .ok (.iload_n 1, 1) := by decide +kernel
theorem dX11_isOn_42 : decode cX11_isOn 42 = .ok (.iaload, 1) := by decide +kernel
theorem dX11_isOn_43 : decode cX11_isOn 43 = .ok (.i2l, 1) := by decide +kernel
theorem dX11_isOn_44 : decode cX11_isOn 44 = .ok (.invokestatic 111, 3) := by decide +kernel
theorem dX11_isOn_47 : decode cX11_isOn 47 = .ok (.ifCond .eq 7, 3) := by decide +kernel
theorem dX11_isOn_50 : decode cX11_isOn 50 = .ok (.iconst 1, 1) := by decide +kernel
theorem dX11_isOn_51 : decode cX11_isOn 51 = .ok (.goto 4, 3) := by decide +kernel
theorem dX11_isOn_54 : decode cX11_isOn 54 = .ok (.iconst 0, 1) := by decide +kernel
theorem dX11_isOn_55 : decode cX11_isOn 55 = .ok (.ireturn, 1) := by decide +kernel
set_option maxRecDepth 20000 in
theorem ggX11_pitch_X11_isSquare : GoodIn wsX11_pitch wsX11_isSquare := goodIn_r _ [11, 12, 13, 14, 15, 10, 16] (by decide +kernel) (by decide +kernel)
set_option maxRecDepth 20000 in
theorem gX11_pitch_X11_isSquare : GoodIn wsX11_pitch (va_wsS RX11 121 yX11_isSquare wsX11_isSquare) := goodIn_app (goodIn_r _ [8, 9, 10] (by decide +kernel) (by decide +kernel)) ggX11_pitch_X11_isSquare
set_option maxRecDepth 20000 in
theorem ggX11_pitch_X11_in : GoodIn wsX11_pitch wsX11_in := goodIn_r _ [16] (by decide +kernel) (by decide +kernel)
set_option maxRecDepth 20000 in
theorem gX11_pitch_X11_in : GoodIn wsX11_pitch (va_wsS RX11 111 yX11_in wsX11_in) := goodIn_app (goodIn_r _ [14, 15, 10] (by decide +kernel) (by decide +kernel)) ggX11_pitch_X11_in
theorem dX11_pitch_0 : decode cX11_pitch 0 = .ok (.iload_n 1, 1) := by decide +kernel
theorem dX11_pitch_1 : decode cX11_pitch 1 = .ok (.iload_n 2, 1) := by decide +kernel
theorem dX11_pitch_2 : decode cX11_pitch 2 = .ok (.invokestatic 121, 3) := by decide +kernel
theorem dX11_pitch_5 : decode cX11_pitch 5 = .ok (.ifCond .eq 12, 3) := by decide +kernel
theorem dX11_pitch_8 : decode cX11_pitch 8 = .ok (.iload_n 3, 1) := by decide +kernel
theorem dX11_pitch_9 : decode cX11_pitch 9 = .ok (.iload 4, 2) := by decide +kernel
theorem dX11_pitch_11 : decode cX11_pitch 11 = .ok (.invokestatic 121, 3) := by decide +kernel
theorem dX11_pitch_14 : decode cX11_pitch 14 = .ok (.ifCond .ne 5, 3) := by decide +kernel
theorem dX11_pitch_17 : decode cX11_pitch 17 = .ok (.iconst (-1), 1) := by decide +kernel
theorem dX11_pitch_18 : decode cX11_pitch 18 = .ok (.ireturn, 1) := by decide +kernel
theorem dX11_pitch_19 : decode cX11_pitch 19 = .ok (.iload_n 1, 1) := by decide +kernel
theorem dX11_pitch_20 : decode cX11_pitch 20 = .ok (.iload_n 3, 1) := by decide +kernel
theorem dX11_pitch_21 : decode cX11_pitch 21 = .ok (.if_icmp .gt 22, 3) := by decide +kernel
theorem dX11_pitch_24 : decode cX11_pitch 24 = .ok (.iload_n 2, 1) := by decide +kernel
theorem dX11_pitch_25 : decode cX11_pitch 25 = .ok (.iload 4, 2) := by decide +kernel
theorem dX11_pitch_27 : decode cX11_pitch 27 = .ok (.if_icmp .gt 16, 3) := by decide +kernel
theorem dX11_pitch_30 : decode cX11_pitch 30 = .ok (.iload 5, 2) := by decide +kernel
theorem dX11_pitch_32 : decode cX11_pitch 32 = .ok (.i2l, 1) := by decide +kernel
theorem dX11_pitch_33 : decode cX11_pitch 33 = .ok (.lconst 1, 1) := by decide +kernel
theorem dX11_pitch_34 : decode cX11_pitch 34 = .ok (.ldc2_w 173, 3) := by decide +kernel
theorem dX11_pitch_37 : decode cX11_pitch 37 = .ok (.invokestatic 111, 3) := by decide +kernel
theorem dX11_pitch_40 : decode cX11_pitch 40 = .ok (.ifCond .ne 6, 3) := by decide +kernel
theorem dX11_pitch_43 : decode cX11_pitch 43 = .ok (.bipush (-2), 2) := by decide +kernel
theorem dX11_pitch_45 : decode cX11_pitch 45 = .ok (.ireturn, 1) := by decide +kernel
theorem dX11_pitch_46 : decode cX11_pitch 46 = .ok (.iconst 0, 1) := by decide +kernel
theorem dX11_pitch_47 : decode cX11_pitch 47 = .ok (.istore 6, 2) := by decide +kernel
theorem dX11_pitch_49 : decode cX11_pitch 49 = .ok (.iload 6, 2) := by decide +kernel
theorem dX11_pitch_51 : decode cX11_pitch 51 = .ok (.aload_n 0, 1) := by decide +kernel
theorem dX11_pitch_52 : decode cX11_pitch 52 = .ok (.getfield 170, 3) := by decide +kernel
theorem dX11_pitch_55 : decode cX11_pitch 55 = .ok (.if_icmp .ge 57, 3) := by decide +kernel
theorem dX11_pitch_58 : decode cX11_pitch 58 = .ok (.iload_n 1, 1) := by decide +kernel
theorem dX11_pitch_59 : decode cX11_pitch 59 = .ok (.aload_n 0, 1) := by decide +kernel
theorem dX11_pitch_60 : decode cX11_pitch 60 = .ok (.getfield 40, 3) := by decide +kernel
theorem dX11_pitch_63 : decode cX11_pitch 63 = .ok (.iload 6, 2) := by decide +kernel
theorem dX11_pitch_65 : decode cX11_pitch 65 = .ok (.iaload, 1) := by decide +kernel
theorem dX11_pitch_66 : decode cX11_pitch 66 = .ok (.if_icmp .gt 40, 3) := by decide +kernel
theorem dX11_pitch_69 : decode cX11_pitch 69 = .ok (.iload_n 3, 1) := by decide +kernel
theorem dX11_pitch_70 : decode cX11_pitch 70 = .ok (.aload_n 0, 1) := by decide +kernel
theorem dX11_pitch_71 : decode cX11_pitch 71 = .ok (.getfield 34, 3) := by decide +kernel
theorem dX11_pitch_74 : decode cX11_pitch 74 = .ok (.iload 6, 2) := by decide +kernel
theorem dX11_pitch_76 : decode cX11_pitch 76 = .ok (.iaload, 1) := by decide +kernel
theorem dX11_pitch_77 : decode cX11_pitch 77 = .ok (.if_icmp .lt 29, 3) := by decide +kernel
theorem dX11_pitch_80 : decode cX11_pitch 80 = .ok (.iload_n 2, 1) := by decide +kernel
theorem dX11_pitch_81 : decode cX11_pitch 81 = .ok (.aload_n 0, 1) := by decide +kernel
theorem dX11_pitch_82 : decode cX11_pitch 82 = .ok (.getfield 43, 3) := by decide +kernel
theorem dX11_pitch_85 : decode cX11_pitch 85 = .ok (.iload 6, 2) := by decide +kernel
theorem dX11_pitch_87 : decode cX11_pitch 87 = .ok (.iaload, 1) := by decide +kernel
theorem dX11_pitch_88 : decode cX11_pitch 88 = .ok (.if_icmp .gt 18, 3) := by decide +kernel
theorem dX11_pitch_91 : decode cX11_pitch 91 = .ok (.iload 4, 2) := by decide +kernel
theorem dX11_pitch_93 : decode cX11_pitch 93 = .ok (.aload_n 0, 1) := by decide +kernel
theorem dX11_pitch_94 : decode cX11_pitch 94 = .ok (.getfield 37, 3) := by decide +kernel
theorem dX11_pitch_97 : decode cX11_pitch 97 = .ok (.iload 6, 2) := by decide +kernel
theorem dX11_pitch_99 : decode cX11_pitch 99 = .ok (.iaload, 1) := by decide +kernel
theorem dX11_pitch_100 : decode cX11_pitch 100 = .ok (.if_icmp .lt 6, 3) := by decide +kernel
theorem dX11_pitch_103 : decode cX11_pitch 103 = .ok (.bipush (-3), 2) := by decide +kernel
theorem dX11_pitch_105 : decode cX11_pitch 105 = .ok (.ireturn, 1) := by decide +kernel
theorem dX11_pitch_106 : decode cX11_pitch 106 = .ok (.iinc 6 1, 3) := by decide +kernel
theorem dX11_pitch_109 : decode cX11_pitch 109 = .ok (.goto (-60), 3) := by decide +kernel
theorem dX11_pitch_112 : decode cX11_pitch 112 = .ok (.aload_n 0, 1) := by decide +kernel
theorem dX11_pitch_113 : decode cX11_pitch 113 = .ok (.getfield 170, 3) := by decide +kernel
theorem dX11_pitch_116 : decode cX11_pitch 116 = .ok (.bipush 12, 2) := by decide +kernel
theorem dX11_pitch_118 : decode cX11_pitch 118 = .ok (.if_icmp .ne 6, 3) := by decide +kernel
theorem dX11_pitch_121 : decode cX11_pitch 121 = .ok (.bipush (-4), 2) := by decide +kernel
theorem dX11_pitch_123 : decode cX11_pitch 123 = .ok (.ireturn, 1) := by decide +kernel
theorem dX11_pitch_124 : decode cX11_pitch 124 = .ok (.aload_n 0, 1) := by decide +kernel
theorem dX11_pitch_125 : decode cX11_pitch 125 = .ok (.getfield 34, 3) := by decide +kernel
theorem dX11_pitch_128 : decode cX11_pitch 128 = .ok (.aload_n 0, 1) := by decide +kernel
theorem dX11_pitch_129 : decode cX11_pitch 129 = .ok (.getfield 170, 3) := by decide +kernel
theorem dX11_pitch_132 : decode cX11_pitch 132 = .ok (.iload_n 1, 1) := by decide +kernel
theorem dX11_pitch_133 : decode cX11_pitch 133 = .ok (.iastore, 1) := by decide +kernel
theorem dX11_pitch_134 : decode cX11_pitch 134 = .ok (.aload_n 0, 1) := by decide +kernel
theorem dX11_pitch_135 : decode cX11_pitch 135 = .ok (.getfield 37, 3) := by decide +kernel
theorem dX11_pitch_138 : decode cX11_pitch 138 = .ok (.aload_n 0, 1) := by decide +kernel
theorem dX11_pitch_139 : decode cX11_pitch 139 = .ok (.getfield 170, 3) := by decide +kernel
theorem dX11_pitch_142 : decode cX11_pitch 142 = .ok (.iload_n 2, 1) := by decide +kernel
theorem dX11_pitch_143 : decode cX11_pitch 143 = .ok (.iastore, 1) := by decide +kernel
theorem dX11_pitch_144 : decode cX11_pitch 144 = .ok (.aload_n 0, 1) := by decide +kernel
theorem dX11_pitch_145 : decode cX11_pitch 145 = .ok (.getfield 40, 3) := by decide +kernel
theorem dX11_pitch_148 : decode cX11_pitch 148 = .ok (.aload_n 0, 1) := by decide +kernel
theorem dX11_pitch_149 : decode cX11_pitch 149 = .ok (.getfield 170, 3) := by decide +kernel
theorem dX11_pitch_152 : decode cX11_pitch 152 = .ok (.iload_n 3, 1) := by decide +kernel
theorem dX11_pitch_153 : decode cX11_pitch 153 = .ok (.iastore, 1) := by decide +kernel
theorem dX11_pitch_154 : decode cX11_pitch 154 = .ok (.aload_n 0, 1) := by decide +kernel
theorem dX11_pitch_155 : decode cX11_pitch 155 = .ok (.getfield 43, 3) := by decide +kernel
theorem dX11_pitch_158 : decode cX11_pitch 158 = .ok (.aload_n 0, 1) := by decide +kernel
theorem dX11_pitch_159 : decode cX11_pitch 159 = .ok (.getfield 170, 3) := by decide +kernel
theorem dX11_pitch_162 : decode cX11_pitch 162 = .ok (.iload 4, 2) := by decide +kernel
theorem dX11_pitch_164 : decode cX11_pitch 164 = .ok (.iastore, 1) := by decide +kernel
theorem dX11_pitch_165 : decode cX11_pitch 165 = .ok (.aload_n 0, 1) := by decide +kernel
theorem dX11_pitch_166 : decode cX11_pitch 166 = .ok (.getfield 46, 3) := by decide +kernel
theorem dX11_pitch_169 : decode cX11_pitch 169 = .ok (.aload_n 0, 1) := by decide +kernel
theorem dX11_pitch_170 : decode cX11_pitch 170 = .ok (.getfield 170, 3) := by decide +kernel
theorem dX11_pitch_173 : decode cX11_pitch 173 = .ok (.iload 5, 2) := by decide +kernel
theorem dX11_pitch_175 : decode cX11_pitch 175 = .ok (.iastore, 1) := by decide +kernel
theorem dX11_pitch_176 : decode cX11_pitch 176 = .ok (.aload_n 0, 1) := by decide +kernel
theorem dX11_pitch_177 : decode cX11_pitch 177 = .ok (.dup, 1) := by decide +kernel
theorem dX11_pitch_178 : decode cX11_pitch 178 = .ok (.getfield 170, 3) := by decide +kernel
theorem dX11_pitch_181 : decode cX11_pitch 181 = .ok (.iconst 1, 1) := by decide +kernel
theorem dX11_pitch_182 : decode cX11_pitch 182 = .ok (.iadd, 1) := by decide +kernel
theorem dX11_pitch_183 : decode cX11_pitch 183 = .ok (.putfield 170, 3) := by decide +kernel
theorem dX11_pitch_186 : decode cX11_pitch 186 = .ok (.aload_n 0, 1) := by decide +kernel
theorem dX11_pitch_187 : decode cX11_pitch 187 = .ok (.getfield 170, 3) := by decide +kernel
theorem dX11_pitch_190 : decode cX11_pitch 190 = .ok (.iconst 1, 1) := by decide +kernel
theorem dX11_pitch_191 : decode cX11_pitch 191 = .ok (.isub, 1) := by decide +kernel
theorem dX11_pitch_192 : decode cX11_pitch 192 = .ok (.ireturn, 1) := by decide +kernel
set_option maxRecDepth 20000 in
theorem ggX11_foretoldOf_X11_isOn : GoodIn wsX11_foretoldOf wsX11_isOn := goodIn_r _ [8, 9, 10, 11, 12, 13, 14, 7, 15, 16, 17, 18, 19, 20, 21, 22, 23, 24, 25, 26, 27, 28, 29, 30, 31, 32, 33, 34, 35, 36, 37, 38, 39, 40, 41, 42, 43, 44, 45, 46, 47, 48, 49, 50, 51, 52, 53, 54] (by decide +kernel) (by decide +kernel)
set_option maxRecDepth 20000 in
theorem gX11_foretoldOf_X11_isOn : GoodIn wsX11_foretoldOf (wsV RX11 175 RX11 yX11_isOn wsX11_isOn) := goodIn_app (goodIn_r _ [4, 5, 6, 7] (by decide +kernel) (by decide +kernel)) ggX11_foretoldOf_X11_isOn
theorem dX11_foretoldOf_0 : decode cX11_foretoldOf 0 = .ok (.lconst 0, 1) := by decide +kernel
theorem dX11_foretoldOf_1 : decode cX11_foretoldOf 1 = .ok (.lstore_n 3, 1) := by decide +kernel
theorem dX11_foretoldOf_2 : decode cX11_foretoldOf 2 = .ok (.iconst 0, 1) := by decide +kernel
theorem dX11_foretoldOf_3 : decode cX11_foretoldOf 3 = .ok (.istore 5, 2) := by decide +kernel
theorem dX11_foretoldOf_5 : decode cX11_foretoldOf 5 = .ok (.iload 5, 2) := by decide +kernel
theorem dX11_foretoldOf_7 : decode cX11_foretoldOf 7 = .ok (.bipush 48, 2) := by decide +kernel
theorem dX11_foretoldOf_9 : decode cX11_foretoldOf 9 = .ok (.if_icmp .ge 49, 3) := by decide +kernel
theorem dX11_foretoldOf_12 : decode cX11_foretoldOf 12 = .ok (.lload_n 3, 1) := by decide +kernel
theorem dX11_foretoldOf_13 : decode cX11_foretoldOf 13 = .ok (.aload_n 0, 1) := by decide +kernel
theorem dX11_foretoldOf_14 : decode cX11_foretoldOf 14 = .ok (.iload_n 1, 1) := by decide +kernel
theorem dX11_foretoldOf_15 : decode cX11_foretoldOf 15 = .ok (.iload 5, 2) := by decide +kernel
theorem dX11_foretoldOf_17 : decode cX11_foretoldOf 17 = .ok (.invokevirtual 175, 3) := by decide +kernel
theorem dX11_foretoldOf_20 : decode cX11_foretoldOf 20 = .ok (.ifCond .ne 7, 3) := by decide +kernel
theorem dX11_foretoldOf_23 : decode cX11_foretoldOf 23 = .ok (.lconst 0, 1) := by decide +kernel
theorem dX11_foretoldOf_24 : decode cX11_foretoldOf 24 = .ok (.goto 26, 3) := by decide +kernel
theorem dX11_foretoldOf_27 : decode cX11_foretoldOf 27 = .ok (.iload_n 2, 1) := by decide +kernel
theorem dX11_foretoldOf_28 : decode cX11_foretoldOf 28 = .ok (.ifCond .ne 14, 3) := by decide +kernel
theorem dX11_foretoldOf_31 : decode cX11_foretoldOf 31 = .ok (.aload_n 0, 1) := by decide +kernel
theorem dX11_foretoldOf_32 : decode cX11_foretoldOf 32 = .ok (.getfield 7, 3) := by decide +kernel
theorem dX11_foretoldOf_35 : decode cX11_foretoldOf 35 = .ok (.iload 5, 2) := by decide +kernel
theorem dX11_foretoldOf_37 : decode cX11_foretoldOf 37 = .ok (.iaload, 1) := by decide +kernel
theorem dX11_foretoldOf_38 : decode cX11_foretoldOf 38 = .ok (.i2l, 1) := by decide +kernel
theorem dX11_foretoldOf_39 : decode cX11_foretoldOf 39 = .ok (.goto 11, 3) := by decide +kernel
theorem dX11_foretoldOf_42 : decode cX11_foretoldOf 42 = .ok (.aload_n 0, 1) := by decide +kernel
theorem dX11_foretoldOf_43 : decode cX11_foretoldOf 43 = .ok (.getfield 13, 3) := by decide +kernel
theorem dX11_foretoldOf_46 : decode cX11_foretoldOf 46 = .ok (.iload 5, 2) := by decide +kernel
theorem dX11_foretoldOf_48 : decode cX11_foretoldOf 48 = .ok (.iaload, 1) := by decide +kernel
theorem dX11_foretoldOf_49 : decode cX11_foretoldOf 49 = .ok (.i2l, 1) := by decide +kernel
theorem dX11_foretoldOf_50 : decode cX11_foretoldOf 50 = .ok (.ladd, 1) := by decide +kernel
theorem dX11_foretoldOf_51 : decode cX11_foretoldOf 51 = .ok (.lstore_n 3, 1) := by decide +kernel
theorem dX11_foretoldOf_52 : decode cX11_foretoldOf 52 = .ok (.iinc 5 1, 3) := by decide +kernel
theorem dX11_foretoldOf_55 : decode cX11_foretoldOf 55 = .ok (.goto (-50), 3) := by decide +kernel
theorem dX11_foretoldOf_58 : decode cX11_foretoldOf 58 = .ok (.lload_n 3, 1) := by decide +kernel
theorem dX11_foretoldOf_59 : decode cX11_foretoldOf 59 = .ok (.aload_n 0, 1) := by decide +kernel
theorem dX11_foretoldOf_60 : decode cX11_foretoldOf 60 = .ok (.getfield 46, 3) := by decide +kernel
theorem dX11_foretoldOf_63 : decode cX11_foretoldOf 63 = .ok (.iload_n 1, 1) := by decide +kernel
theorem dX11_foretoldOf_64 : decode cX11_foretoldOf 64 = .ok (.iaload, 1) := by decide +kernel
theorem dX11_foretoldOf_65 : decode cX11_foretoldOf 65 = .ok (.i2l, 1) := by decide +kernel
theorem dX11_foretoldOf_66 : decode cX11_foretoldOf 66 = .ok (.lmul, 1) := by decide +kernel
theorem dX11_foretoldOf_67 : decode cX11_foretoldOf 67 = .ok (.lreturn, 1) := by decide +kernel
set_option maxRecDepth 20000 in
theorem ggX11_foretold_X11_noPitch : GoodIn wsX11_foretold wsX11_noPitch := goodIn_r _ [5, 6, 7, 8, 4, 9, 29, 30, 31, 32, 33, 34, 35, 36, 37, 38, 39, 40, 41, 42, 43, 44, 45, 46, 47, 48, 49, 50, 51, 52, 53, 54, 55, 56, 57, 58, 59, 60, 61, 62, 63, 64, 65, 66, 67] (by decide +kernel) (by decide +kernel)
set_option maxRecDepth 20000 in
theorem gX11_foretold_X11_noPitch : GoodIn wsX11_foretold (wsV RX11 178 RX11 yX11_noPitch wsX11_noPitch) := goodIn_app (goodIn_r _ [1, 2, 3, 4] (by decide +kernel) (by decide +kernel)) ggX11_foretold_X11_noPitch
set_option maxRecDepth 20000 in
theorem ggX11_foretold_X11_in : GoodIn wsX11_foretold wsX11_in := goodIn_r _ [9] (by decide +kernel) (by decide +kernel)
set_option maxRecDepth 20000 in
theorem gX11_foretold_X11_in : GoodIn wsX11_foretold (va_wsS RX11 111 yX11_in wsX11_in) := goodIn_app (goodIn_r _ [7, 8, 4] (by decide +kernel) (by decide +kernel)) ggX11_foretold_X11_in
set_option maxRecDepth 20000 in
theorem ggX11_foretold_X11_lost : GoodIn wsX11_foretold wsX11_lost := goodIn_r _ [12, 13] (by decide +kernel) (by decide +kernel)
set_option maxRecDepth 20000 in
theorem gX11_foretold_X11_lost : GoodIn wsX11_foretold (va_wsS RX11 105 yX11_lost wsX11_lost) := goodIn_app (goodIn_r _ [10, 11, 4] (by decide +kernel) (by decide +kernel)) ggX11_foretold_X11_lost
set_option maxRecDepth 20000 in
theorem ggX11_foretold_X11_foretoldOf : GoodIn wsX11_foretold wsX11_foretoldOf := goodIn_r _ [17, 18, 19, 20, 21, 22, 23, 4, 24, 25, 26, 27, 28, 7, 8, 9, 29, 30, 31, 32, 33, 34, 35, 36, 37, 38, 39, 40, 41, 42, 43, 44, 45, 46, 47, 48, 49, 50, 51, 52, 53, 54, 55, 56, 57, 58, 59, 60, 61, 62, 63, 64, 65, 66, 67] (by decide +kernel) (by decide +kernel)
set_option maxRecDepth 20000 in
theorem gX11_foretold_X11_foretoldOf : GoodIn wsX11_foretold (wsV RX11 181 RX11 yX11_foretoldOf wsX11_foretoldOf) := goodIn_app (goodIn_r _ [14, 15, 16, 4] (by decide +kernel) (by decide +kernel)) ggX11_foretold_X11_foretoldOf
theorem dX11_foretold_0 : decode cX11_foretold 0 = .ok (.aload_n 0, 1) := by decide +kernel
theorem dX11_foretold_1 : decode cX11_foretold 1 = .ok (.iload_n 1, 1) := by decide +kernel
theorem dX11_foretold_2 : decode cX11_foretold 2 = .ok (.invokevirtual 178, 3) := by decide +kernel
theorem dX11_foretold_5 : decode cX11_foretold 5 = .ok (.ifCond .ne 13, 3) := by decide +kernel
theorem dX11_foretold_8 : decode cX11_foretold 8 = .ok (.iload_n 2, 1) := by decide +kernel
theorem dX11_foretold_9 : decode cX11_foretold 9 = .ok (.i2l, 1) := by decide +kernel
theorem dX11_foretold_10 : decode cX11_foretold 10 = .ok (.lconst 0, 1) := by decide +kernel
theorem dX11_foretold_11 : decode cX11_foretold 11 = .ok (.lconst 1, 1) := by decide +kernel
theorem dX11_foretold_12 : decode cX11_foretold 12 = .ok (.invokestatic 111, 3) := by decide +kernel
theorem dX11_foretold_15 : decode cX11_foretold 15 = .ok (.ifCond .ne 9, 3) := by decide +kernel
theorem dX11_foretold_18 : decode cX11_foretold 18 = .ok (.invokestatic 105, 3) := by decide +kernel
theorem dX11_foretold_21 : decode cX11_foretold 21 = .ok (.goto 9, 3) := by decide +kernel
theorem dX11_foretold_24 : decode cX11_foretold 24 = .ok (.aload_n 0, 1) := by decide +kernel
theorem dX11_foretold_25 : decode cX11_foretold 25 = .ok (.iload_n 1, 1) := by decide +kernel
theorem dX11_foretold_26 : decode cX11_foretold 26 = .ok (.iload_n 2, 1) := by decide +kernel
theorem dX11_foretold_27 : decode cX11_foretold 27 = .ok (.invokevirtual 181, 3) := by decide +kernel
theorem dX11_foretold_30 : decode cX11_foretold 30 = .ok (.lreturn, 1) := by decide +kernel
set_option maxRecDepth 20000 in
theorem ggX11_noGang_X11_in : GoodIn wsX11_noGang wsX11_in := goodIn_r _ [5] (by decide +kernel) (by decide +kernel)
set_option maxRecDepth 20000 in
theorem gX11_noGang_X11_in : GoodIn wsX11_noGang (va_wsS RX11 111 yX11_in wsX11_in) := goodIn_app (goodIn_r _ [2, 3, 4] (by decide +kernel) (by decide +kernel)) ggX11_noGang_X11_in
theorem dX11_noGang_0 : decode cX11_noGang 0 = .ok (.iload_n 1, 1) := by decide +kernel
theorem dX11_noGang_1 : decode cX11_noGang 1 = .ok (.i2l, 1) := by decide +kernel
theorem dX11_noGang_2 : decode cX11_noGang 2 = .ok (.lconst 0, 1) := by decide +kernel
theorem dX11_noGang_3 : decode cX11_noGang 3 = .ok (.aload_n 0, 1) := by decide +kernel
theorem dX11_noGang_4 : decode cX11_noGang 4 = .ok (.getfield 185, 3) := by decide +kernel
theorem dX11_noGang_7 : decode cX11_noGang 7 = .ok (.i2l, 1) := by decide +kernel
theorem dX11_noGang_8 : decode cX11_noGang 8 = .ok (.lconst 1, 1) := by decide +kernel
theorem dX11_noGang_9 : decode cX11_noGang 9 = .ok (.lsub, 1) := by decide +kernel
theorem dX11_noGang_10 : decode cX11_noGang 10 = .ok (.invokestatic 111, 3) := by decide +kernel
theorem dX11_noGang_13 : decode cX11_noGang 13 = .ok (.ifCond .ne 7, 3) := by decide +kernel
theorem dX11_noGang_16 : decode cX11_noGang 16 = .ok (.iconst 1, 1) := by decide +kernel
theorem dX11_noGang_17 : decode cX11_noGang 17 = .ok (.goto 4, 3) := by decide +kernel
theorem dX11_noGang_20 : decode cX11_noGang 20 = .ok (.iconst 0, 1) := by decide +kernel
theorem dX11_noGang_21 : decode cX11_noGang 21 = .ok (.ireturn, 1) := by decide +kernel
set_option maxRecDepth 20000 in
theorem ggX11_gang_X11_in : GoodIn wsX11_gang wsX11_in := goodIn_r _ [7] (by decide +kernel) (by decide +kernel)
set_option maxRecDepth 20000 in
theorem gX11_gang_X11_in : GoodIn wsX11_gang (va_wsS RX11 111 yX11_in wsX11_in) := goodIn_app (goodIn_r _ [4, 5, 6] (by decide +kernel) (by decide +kernel)) ggX11_gang_X11_in
theorem dX11_gang_0 : decode cX11_gang 0 = .ok (.iload_n 1, 1) := by decide +kernel
theorem dX11_gang_1 : decode cX11_gang 1 = .ok (.i2l, 1) := by decide +kernel
theorem dX11_gang_2 : decode cX11_gang 2 = .ok (.lconst 0, 1) := by decide +kernel
theorem dX11_gang_3 : decode cX11_gang 3 = .ok (.ldc2_w 151, 3) := by decide +kernel
theorem dX11_gang_6 : decode cX11_gang 6 = .ok (.invokestatic 111, 3) := by decide +kernel
theorem dX11_gang_9 : decode cX11_gang 9 = .ok (.ifCond .ne 6, 3) := by decide +kernel
theorem dX11_gang_12 : decode cX11_gang 12 = .ok (.bipush (-2), 2) := by decide +kernel
theorem dX11_gang_14 : decode cX11_gang 14 = .ok (.ireturn, 1) := by decide +kernel
theorem dX11_gang_15 : decode cX11_gang 15 = .ok (.aload_n 0, 1) := by decide +kernel
theorem dX11_gang_16 : decode cX11_gang 16 = .ok (.getfield 185, 3) := by decide +kernel
theorem dX11_gang_19 : decode cX11_gang 19 = .ok (.bipush 8, 2) := by decide +kernel
theorem dX11_gang_21 : decode cX11_gang 21 = .ok (.if_icmp .ne 6, 3) := by decide +kernel
theorem dX11_gang_24 : decode cX11_gang 24 = .ok (.bipush (-4), 2) := by decide +kernel
theorem dX11_gang_26 : decode cX11_gang 26 = .ok (.ireturn, 1) := by decide +kernel
theorem dX11_gang_27 : decode cX11_gang 27 = .ok (.aload_n 0, 1) := by decide +kernel
theorem dX11_gang_28 : decode cX11_gang 28 = .ok (.getfield 49, 3) := by decide +kernel
theorem dX11_gang_31 : decode cX11_gang 31 = .ok (.aload_n 0, 1) := by decide +kernel
theorem dX11_gang_32 : decode cX11_gang 32 = .ok (.getfield 185, 3) := by decide +kernel
theorem dX11_gang_35 : decode cX11_gang 35 = .ok (.iload_n 1, 1) := by decide +kernel
theorem dX11_gang_36 : decode cX11_gang 36 = .ok (.iastore, 1) := by decide +kernel
theorem dX11_gang_37 : decode cX11_gang 37 = .ok (.aload_n 0, 1) := by decide +kernel
theorem dX11_gang_38 : decode cX11_gang 38 = .ok (.dup, 1) := by decide +kernel
theorem dX11_gang_39 : decode cX11_gang 39 = .ok (.getfield 185, 3) := by decide +kernel
theorem dX11_gang_42 : decode cX11_gang 42 = .ok (.iconst 1, 1) := by decide +kernel
theorem dX11_gang_43 : decode cX11_gang 43 = .ok (.iadd, 1) := by decide +kernel
theorem dX11_gang_44 : decode cX11_gang 44 = .ok (.putfield 185, 3) := by decide +kernel
theorem dX11_gang_47 : decode cX11_gang 47 = .ok (.aload_n 0, 1) := by decide +kernel
theorem dX11_gang_48 : decode cX11_gang 48 = .ok (.getfield 185, 3) := by decide +kernel
theorem dX11_gang_51 : decode cX11_gang 51 = .ok (.iconst 1, 1) := by decide +kernel
theorem dX11_gang_52 : decode cX11_gang 52 = .ok (.isub, 1) := by decide +kernel
theorem dX11_gang_53 : decode cX11_gang 53 = .ok (.ireturn, 1) := by decide +kernel
theorem dX11_takeOf_0 : decode cX11_takeOf 0 = .ok (.iconst 0, 1) := by decide +kernel
theorem dX11_takeOf_1 : decode cX11_takeOf 1 = .ok (.istore_n 2, 1) := by decide +kernel
theorem dX11_takeOf_2 : decode cX11_takeOf 2 = .ok (.iload_n 2, 1) := by decide +kernel
theorem dX11_takeOf_3 : decode cX11_takeOf 3 = .ok (.aload_n 0, 1) := by decide +kernel
theorem dX11_takeOf_4 : decode cX11_takeOf 4 = .ok (.getfield 188, 3) := by decide +kernel
theorem dX11_takeOf_7 : decode cX11_takeOf 7 = .ok (.if_icmp .ge 30, 3) := by decide +kernel
theorem dX11_takeOf_10 : decode cX11_takeOf 10 = .ok (.aload_n 0, 1) := by decide +kernel
theorem dX11_takeOf_11 : decode cX11_takeOf 11 = .ok (.getfield 59, 3) := by decide +kernel
theorem dX11_takeOf_14 : decode cX11_takeOf 14 = .ok (.iload_n 2, 1) := by decide +kernel
theorem dX11_takeOf_15 : decode cX11_takeOf 15 = .ok (.iaload, 1) := by decide +kernel
theorem dX11_takeOf_16 : decode cX11_takeOf 16 = .ok (.iload_n 1, 1) := by decide +kernel
theorem dX11_takeOf_17 : decode cX11_takeOf 17 = .ok (.if_icmp .ne 14, 3) := by decide +kernel
theorem dX11_takeOf_20 : decode cX11_takeOf 20 = .ok (.aload_n 0, 1) := by decide +kernel
theorem dX11_takeOf_21 : decode cX11_takeOf 21 = .ok (.getfield 65, 3) := by decide +kernel
theorem dX11_takeOf_24 : decode cX11_takeOf 24 = .ok (.iload_n 2, 1) := by decide +kernel
theorem dX11_takeOf_25 : decode cX11_takeOf 25 = .ok (.baload, 1) := by decide +kernel
theorem dX11_takeOf_26 : decode cX11_takeOf 26 = .ok (.ifCond .ne 5, 3) := by decide +kernel
theorem dX11_takeOf_29 : decode cX11_takeOf 29 = .ok (.iload_n 2, 1) := by decide +kernel
theorem dX11_takeOf_30 : decode cX11_takeOf 30 = .ok (.ireturn, 1) := by decide +kernel
theorem dX11_takeOf_31 : decode cX11_takeOf 31 = .ok (.iinc 2 1, 3) := by decide +kernel
theorem dX11_takeOf_34 : decode cX11_takeOf 34 = .ok (.goto (-32), 3) := by decide +kernel
theorem dX11_takeOf_37 : decode cX11_takeOf 37 = .ok (.bipush (-9), 2) := by decide +kernel
theorem dX11_takeOf_39 : decode cX11_takeOf 39 = .ok (.ireturn, 1) := by decide +kernel
set_option maxRecDepth 20000 in
theorem ggX11_auction_X11_noPitch : GoodIn wsX11_auction wsX11_noPitch := goodIn_r _ [10, 11, 12, 13, 9, 14, 22, 23, 24, 25, 26, 27, 28, 29, 30, 31, 32, 33, 34, 35, 36, 37, 38, 39, 40, 41, 42, 43, 44, 45, 46, 47, 48, 49, 50, 51, 52, 53, 54, 55, 56, 57, 58, 59, 60] (by decide +kernel) (by decide +kernel)
set_option maxRecDepth 20000 in
theorem gX11_auction_X11_noPitch : GoodIn wsX11_auction (wsV RX11 178 RX11 yX11_noPitch wsX11_noPitch) := goodIn_app (goodIn_r _ [6, 7, 8, 9] (by decide +kernel) (by decide +kernel)) ggX11_auction_X11_noPitch
set_option maxRecDepth 20000 in
theorem ggX11_auction_X11_in : GoodIn wsX11_auction wsX11_in := goodIn_r _ [14] (by decide +kernel) (by decide +kernel)
set_option maxRecDepth 20000 in
theorem gX11_auction_X11_in : GoodIn wsX11_auction (va_wsS RX11 111 yX11_in wsX11_in) := goodIn_app (goodIn_r _ [12, 13, 9] (by decide +kernel) (by decide +kernel)) ggX11_auction_X11_in
set_option maxRecDepth 20000 in
theorem ggX11_auction_X11_takeOf : GoodIn wsX11_auction wsX11_takeOf := goodIn_r _ [18, 19, 20, 21, 22, 23, 24, 25, 26, 27, 28, 29, 30, 31, 32, 33, 34, 35, 36, 37, 38, 39, 40, 41, 42, 43, 44, 45, 46, 47, 48, 49, 50, 51, 52, 53, 54, 55, 56, 57, 58, 59, 60] (by decide +kernel) (by decide +kernel)
set_option maxRecDepth 20000 in
theorem gX11_auction_X11_takeOf : GoodIn wsX11_auction (wsV RX11 193 RX11 yX11_takeOf wsX11_takeOf) := goodIn_app (goodIn_r _ [15, 16, 17, 9] (by decide +kernel) (by decide +kernel)) ggX11_auction_X11_takeOf
theorem dX11_auction_0 : decode cX11_auction 0 = .ok (.aload_n 0, 1) := by decide +kernel
theorem dX11_auction_1 : decode cX11_auction 1 = .ok (.iload_n 1, 1) := by decide +kernel
theorem dX11_auction_2 : decode cX11_auction 2 = .ok (.invokevirtual 178, 3) := by decide +kernel
theorem dX11_auction_5 : decode cX11_auction 5 = .ok (.ifCond .eq 5, 3) := by decide +kernel
theorem dX11_auction_8 : decode cX11_auction 8 = .ok (.iconst (-1), 1) := by decide +kernel
theorem dX11_auction_9 : decode cX11_auction 9 = .ok (.ireturn, 1) := by decide +kernel
theorem dX11_auction_10 : decode cX11_auction 10 = .ok (.iload_n 2, 1) := by decide +kernel
theorem dX11_auction_11 : decode cX11_auction 11 = .ok (.i2l, 1) := by decide +kernel
theorem dX11_auction_12 : decode cX11_auction 12 = .ok (.lconst 1, 1) := by decide +kernel
theorem dX11_auction_13 : decode cX11_auction 13 = .ok (.ldc2_w 191, 3) := by decide +kernel
theorem dX11_auction_16 : decode cX11_auction 16 = .ok (.invokestatic 111, 3) := by decide +kernel
theorem dX11_auction_19 : decode cX11_auction 19 = .ok (.ifCond .ne 6, 3) := by decide +kernel
theorem dX11_auction_22 : decode cX11_auction 22 = .ok (.bipush (-2), 2) := by decide +kernel
theorem dX11_auction_24 : decode cX11_auction 24 = .ok (.ireturn, 1) := by decide +kernel
theorem dX11_auction_25 : decode cX11_auction 25 = .ok (.aload_n 0, 1) := by decide +kernel
theorem dX11_auction_26 : decode cX11_auction 26 = .ok (.iload_n 1, 1) := by decide +kernel
theorem dX11_auction_27 : decode cX11_auction 27 = .ok (.invokevirtual 193, 3) := by decide +kernel
theorem dX11_auction_30 : decode cX11_auction 30 = .ok (.ifCond .ge 10, 3) := by decide +kernel
theorem dX11_auction_33 : decode cX11_auction 33 = .ok (.aload_n 0, 1) := by decide +kernel
theorem dX11_auction_34 : decode cX11_auction 34 = .ok (.getfield 97, 3) := by decide +kernel
theorem dX11_auction_37 : decode cX11_auction 37 = .ok (.ifCond .lt 6, 3) := by decide +kernel
theorem dX11_auction_40 : decode cX11_auction 40 = .ok (.bipush (-3), 2) := by decide +kernel
theorem dX11_auction_42 : decode cX11_auction 42 = .ok (.ireturn, 1) := by decide +kernel
theorem dX11_auction_43 : decode cX11_auction 43 = .ok (.aload_n 0, 1) := by decide +kernel
theorem dX11_auction_44 : decode cX11_auction 44 = .ok (.iload_n 1, 1) := by decide +kernel
theorem dX11_auction_45 : decode cX11_auction 45 = .ok (.putfield 97, 3) := by decide +kernel
theorem dX11_auction_48 : decode cX11_auction 48 = .ok (.aload_n 0, 1) := by decide +kernel
theorem dX11_auction_49 : decode cX11_auction 49 = .ok (.iload_n 2, 1) := by decide +kernel
theorem dX11_auction_50 : decode cX11_auction 50 = .ok (.putfield 196, 3) := by decide +kernel
theorem dX11_auction_53 : decode cX11_auction 53 = .ok (.aload_n 0, 1) := by decide +kernel
theorem dX11_auction_54 : decode cX11_auction 54 = .ok (.iconst 0, 1) := by decide +kernel
theorem dX11_auction_55 : decode cX11_auction 55 = .ok (.putfield 199, 3) := by decide +kernel
theorem dX11_auction_58 : decode cX11_auction 58 = .ok (.aload_n 0, 1) := by decide +kernel
theorem dX11_auction_59 : decode cX11_auction 59 = .ok (.iconst (-1), 1) := by decide +kernel
theorem dX11_auction_60 : decode cX11_auction 60 = .ok (.putfield 202, 3) := by decide +kernel
theorem dX11_auction_63 : decode cX11_auction 63 = .ok (.iconst 1, 1) := by decide +kernel
theorem dX11_auction_64 : decode cX11_auction 64 = .ok (.ireturn, 1) := by decide +kernel
theorem dX11_letTo_0 : decode cX11_letTo 0 = .ok (.iconst 0, 1) := by decide +kernel
theorem dX11_letTo_1 : decode cX11_letTo 1 = .ok (.istore_n 2, 1) := by decide +kernel
theorem dX11_letTo_2 : decode cX11_letTo 2 = .ok (.iconst 0, 1) := by decide +kernel
theorem dX11_letTo_3 : decode cX11_letTo 3 = .ok (.istore_n 3, 1) := by decide +kernel
theorem dX11_letTo_4 : decode cX11_letTo 4 = .ok (.iload_n 3, 1) := by decide +kernel
theorem dX11_letTo_5 : decode cX11_letTo 5 = .ok (.aload_n 0, 1) := by decide +kernel
theorem dX11_letTo_6 : decode cX11_letTo 6 = .ok (.getfield 188, 3) := by decide +kernel
theorem dX11_letTo_9 : decode cX11_letTo 9 = .ok (.if_icmp .ge 36, 3) := by decide +kernel
theorem dX11_letTo_12 : decode cX11_letTo 12 = .ok (.iload_n 2, 1) := by decide +kernel
theorem dX11_letTo_13 : decode cX11_letTo 13 = .ok (.aload_n 0, 1) := by decide +kernel
theorem dX11_letTo_14 : decode cX11_letTo 14 = .ok (.getfield 56, 3) := by decide +kernel
theorem dX11_letTo_17 : decode cX11_letTo 17 = .ok (.iload_n 3, 1) := by decide +kernel
theorem dX11_letTo_18 : decode cX11_letTo 18 = .ok (.iaload, 1) := by decide +kernel
theorem dX11_letTo_19 : decode cX11_letTo 19 = .ok (.iload_n 1, 1) := by decide +kernel
theorem dX11_letTo_20 : decode cX11_letTo 20 = .ok (.if_icmp .ne 16, 3) := by decide +kernel
theorem dX11_letTo_23 : decode cX11_letTo 23 = .ok (.aload_n 0, 1) := by decide +kernel
theorem dX11_letTo_24 : decode cX11_letTo 24 = .ok (.getfield 65, 3) := by decide +kernel
theorem dX11_letTo_27 : decode cX11_letTo 27 = .ok (.iload_n 3, 1) := by decide +kernel
theorem dX11_letTo_28 : decode cX11_letTo 28 = .ok (.baload, 1) := by decide +kernel
theorem dX11_letTo_29 : decode cX11_letTo 29 = .ok (.ifCond .ne 7, 3) := by decide +kernel
theorem dX11_letTo_32 : decode cX11_letTo 32 = .ok (.iconst 1, 1) := by decide +kernel
theorem dX11_letTo_33 : decode cX11_letTo 33 = .ok (.goto 4, 3) := by decide +kernel
theorem dX11_letTo_36 : decode cX11_letTo 36 = .ok (.iconst 0, 1) := by decide +kernel
theorem dX11_letTo_37 : decode cX11_letTo 37 = .ok (.iadd, 1) := by decide +kernel
theorem dX11_letTo_38 : decode cX11_letTo 38 = .ok (.istore_n 2, 1) := by decide +kernel
theorem dX11_letTo_39 : decode cX11_letTo 39 = .ok (.iinc 3 1, 3) := by decide +kernel
theorem dX11_letTo_42 : decode cX11_letTo 42 = .ok (.goto (-38), 3) := by decide +kernel
theorem dX11_letTo_45 : decode cX11_letTo 45 = .ok (.iload_n 2, 1) := by decide +kernel
theorem dX11_letTo_46 : decode cX11_letTo 46 = .ok (.ireturn, 1) := by decide +kernel
set_option maxRecDepth 20000 in
theorem ggX11_bid_X11_noGang : GoodIn wsX11_bid wsX11_noGang := goodIn_r _ [9, 10, 11, 12, 8, 13, 21, 22, 23, 24, 25, 26, 27, 28, 29, 30, 31, 32, 33, 34, 35, 36, 37, 38, 39, 40, 41, 42, 43, 44, 45, 46, 47, 48, 49, 50, 51, 52, 53, 54, 55, 56, 57, 58, 59] (by decide +kernel) (by decide +kernel)
set_option maxRecDepth 20000 in
theorem gX11_bid_X11_noGang : GoodIn wsX11_bid (wsV RX11 205 RX11 yX11_noGang wsX11_noGang) := goodIn_app (goodIn_r _ [5, 6, 7, 8] (by decide +kernel) (by decide +kernel)) ggX11_bid_X11_noGang
set_option maxRecDepth 20000 in
theorem ggX11_bid_X11_in : GoodIn wsX11_bid wsX11_in := goodIn_r _ [13] (by decide +kernel) (by decide +kernel)
set_option maxRecDepth 20000 in
theorem gX11_bid_X11_in : GoodIn wsX11_bid (va_wsS RX11 111 yX11_in wsX11_in) := goodIn_app (goodIn_r _ [11, 12, 8] (by decide +kernel) (by decide +kernel)) ggX11_bid_X11_in
set_option maxRecDepth 20000 in
theorem ggX11_bid_X11_letTo : GoodIn wsX11_bid wsX11_letTo := goodIn_r _ [17, 18, 19, 20, 21, 22, 23, 24, 25, 26, 27, 28, 29, 30, 31, 32, 33, 34, 35, 36, 37, 38, 39, 40, 41, 42, 43, 44, 45, 46, 47, 48, 49, 50, 51, 52, 53, 54, 55, 56, 57, 58, 59] (by decide +kernel) (by decide +kernel)
set_option maxRecDepth 20000 in
theorem gX11_bid_X11_letTo : GoodIn wsX11_bid (wsV RX11 208 RX11 yX11_letTo wsX11_letTo) := goodIn_app (goodIn_r _ [14, 15, 16, 8] (by decide +kernel) (by decide +kernel)) ggX11_bid_X11_letTo
theorem dX11_bid_0 : decode cX11_bid 0 = .ok (.aload_n 0, 1) := by decide +kernel
theorem dX11_bid_1 : decode cX11_bid 1 = .ok (.iload_n 1, 1) := by decide +kernel
theorem dX11_bid_2 : decode cX11_bid 2 = .ok (.invokevirtual 205, 3) := by decide +kernel
theorem dX11_bid_5 : decode cX11_bid 5 = .ok (.ifCond .eq 5, 3) := by decide +kernel
theorem dX11_bid_8 : decode cX11_bid 8 = .ok (.iconst (-1), 1) := by decide +kernel
theorem dX11_bid_9 : decode cX11_bid 9 = .ok (.ireturn, 1) := by decide +kernel
theorem dX11_bid_10 : decode cX11_bid 10 = .ok (.aload_n 0, 1) := by decide +kernel
theorem dX11_bid_11 : decode cX11_bid 11 = .ok (.getfield 97, 3) := by decide +kernel
theorem dX11_bid_14 : decode cX11_bid 14 = .ok (.ifCond .ge 6, 3) := by decide +kernel
theorem dX11_bid_17 : decode cX11_bid 17 = .ok (.bipush (-3), 2) := by decide +kernel
theorem dX11_bid_19 : decode cX11_bid 19 = .ok (.ireturn, 1) := by decide +kernel
theorem dX11_bid_20 : decode cX11_bid 20 = .ok (.iload_n 2, 1) := by decide +kernel
theorem dX11_bid_21 : decode cX11_bid 21 = .ok (.i2l, 1) := by decide +kernel
theorem dX11_bid_22 : decode cX11_bid 22 = .ok (.lconst 1, 1) := by decide +kernel
theorem dX11_bid_23 : decode cX11_bid 23 = .ok (.aload_n 0, 1) := by decide +kernel
theorem dX11_bid_24 : decode cX11_bid 24 = .ok (.getfield 199, 3) := by decide +kernel
theorem dX11_bid_27 : decode cX11_bid 27 = .ok (.ifCond .ne 11, 3) := by decide +kernel
theorem dX11_bid_30 : decode cX11_bid 30 = .ok (.aload_n 0, 1) := by decide +kernel
theorem dX11_bid_31 : decode cX11_bid 31 = .ok (.getfield 196, 3) := by decide +kernel
theorem dX11_bid_34 : decode cX11_bid 34 = .ok (.i2l, 1) := by decide +kernel
theorem dX11_bid_35 : decode cX11_bid 35 = .ok (.goto 10, 3) := by decide +kernel
theorem dX11_bid_38 : decode cX11_bid 38 = .ok (.aload_n 0, 1) := by decide +kernel
theorem dX11_bid_39 : decode cX11_bid 39 = .ok (.getfield 196, 3) := by decide +kernel
theorem dX11_bid_42 : decode cX11_bid 42 = .ok (.i2l, 1) := by decide +kernel
theorem dX11_bid_43 : decode cX11_bid 43 = .ok (.lconst 1, 1) := by decide +kernel
theorem dX11_bid_44 : decode cX11_bid 44 = .ok (.lsub, 1) := by decide +kernel
theorem dX11_bid_45 : decode cX11_bid 45 = .ok (.invokestatic 111, 3) := by decide +kernel
theorem dX11_bid_48 : decode cX11_bid 48 = .ok (.ifCond .ne 6, 3) := by decide +kernel
theorem dX11_bid_51 : decode cX11_bid 51 = .ok (.bipush (-2), 2) := by decide +kernel
theorem dX11_bid_53 : decode cX11_bid 53 = .ok (.ireturn, 1) := by decide +kernel
theorem dX11_bid_54 : decode cX11_bid 54 = .ok (.aload_n 0, 1) := by decide +kernel
theorem dX11_bid_55 : decode cX11_bid 55 = .ok (.getfield 202, 3) := by decide +kernel
theorem dX11_bid_58 : decode cX11_bid 58 = .ok (.iload_n 1, 1) := by decide +kernel
theorem dX11_bid_59 : decode cX11_bid 59 = .ok (.if_icmp .eq 12, 3) := by decide +kernel
theorem dX11_bid_62 : decode cX11_bid 62 = .ok (.aload_n 0, 1) := by decide +kernel
theorem dX11_bid_63 : decode cX11_bid 63 = .ok (.iload_n 1, 1) := by decide +kernel
theorem dX11_bid_64 : decode cX11_bid 64 = .ok (.invokevirtual 208, 3) := by decide +kernel
theorem dX11_bid_67 : decode cX11_bid 67 = .ok (.iconst 3, 1) := by decide +kernel
theorem dX11_bid_68 : decode cX11_bid 68 = .ok (.if_icmp .lt 6, 3) := by decide +kernel
theorem dX11_bid_71 : decode cX11_bid 71 = .ok (.bipush (-3), 2) := by decide +kernel
theorem dX11_bid_73 : decode cX11_bid 73 = .ok (.ireturn, 1) := by decide +kernel
theorem dX11_bid_74 : decode cX11_bid 74 = .ok (.aload_n 0, 1) := by decide +kernel
theorem dX11_bid_75 : decode cX11_bid 75 = .ok (.getfield 199, 3) := by decide +kernel
theorem dX11_bid_78 : decode cX11_bid 78 = .ok (.bipush 20, 2) := by decide +kernel
theorem dX11_bid_80 : decode cX11_bid 80 = .ok (.if_icmp .ne 6, 3) := by decide +kernel
theorem dX11_bid_83 : decode cX11_bid 83 = .ok (.bipush (-4), 2) := by decide +kernel
theorem dX11_bid_85 : decode cX11_bid 85 = .ok (.ireturn, 1) := by decide +kernel
theorem dX11_bid_86 : decode cX11_bid 86 = .ok (.aload_n 0, 1) := by decide +kernel
theorem dX11_bid_87 : decode cX11_bid 87 = .ok (.iload_n 1, 1) := by decide +kernel
theorem dX11_bid_88 : decode cX11_bid 88 = .ok (.putfield 202, 3) := by decide +kernel
theorem dX11_bid_91 : decode cX11_bid 91 = .ok (.aload_n 0, 1) := by decide +kernel
theorem dX11_bid_92 : decode cX11_bid 92 = .ok (.iload_n 2, 1) := by decide +kernel
theorem dX11_bid_93 : decode cX11_bid 93 = .ok (.putfield 196, 3) := by decide +kernel
theorem dX11_bid_96 : decode cX11_bid 96 = .ok (.aload_n 0, 1) := by decide +kernel
theorem dX11_bid_97 : decode cX11_bid 97 = .ok (.dup, 1) := by decide +kernel
theorem dX11_bid_98 : decode cX11_bid 98 = .ok (.getfield 199, 3) := by decide +kernel
theorem dX11_bid_101 : decode cX11_bid 101 = .ok (.iconst 1, 1) := by decide +kernel
theorem dX11_bid_102 : decode cX11_bid 102 = .ok (.iadd, 1) := by decide +kernel
theorem dX11_bid_103 : decode cX11_bid 103 = .ok (.putfield 199, 3) := by decide +kernel
theorem dX11_bid_106 : decode cX11_bid 106 = .ok (.aload_n 0, 1) := by decide +kernel
theorem dX11_bid_107 : decode cX11_bid 107 = .ok (.getfield 199, 3) := by decide +kernel
theorem dX11_bid_110 : decode cX11_bid 110 = .ok (.ireturn, 1) := by decide +kernel
set_option maxRecDepth 20000 in
theorem ggX11_strike_X11_foretoldOf : GoodIn wsX11_strike wsX11_foretoldOf := goodIn_r _ [15, 16, 17, 18, 19, 20, 21, 14, 22, 23, 24, 25, 26, 27, 28, 29, 30, 31, 32, 33, 34, 35, 36, 37, 38, 39, 40, 41, 42, 43, 44, 45, 46, 47, 48, 49, 50, 51, 52, 53, 54, 55, 56, 57, 58, 59, 60, 61, 62, 63, 64, 65, 66, 67, 68] (by decide +kernel) (by decide +kernel)
set_option maxRecDepth 20000 in
theorem gX11_strike_X11_foretoldOf : GoodIn wsX11_strike (wsV RX11 181 RX11 yX11_foretoldOf wsX11_foretoldOf) := goodIn_app (goodIn_r _ [11, 12, 13, 14] (by decide +kernel) (by decide +kernel)) ggX11_strike_X11_foretoldOf
theorem dX11_strike_0 : decode cX11_strike 0 = .ok (.aload_n 0, 1) := by decide +kernel
theorem dX11_strike_1 : decode cX11_strike 1 = .ok (.getfield 97, 3) := by decide +kernel
theorem dX11_strike_4 : decode cX11_strike 4 = .ok (.ifCond .ge 6, 3) := by decide +kernel
theorem dX11_strike_7 : decode cX11_strike 7 = .ok (.bipush (-3), 2) := by decide +kernel
theorem dX11_strike_9 : decode cX11_strike 9 = .ok (.ireturn, 1) := by decide +kernel
theorem dX11_strike_10 : decode cX11_strike 10 = .ok (.aload_n 0, 1) := by decide +kernel
theorem dX11_strike_11 : decode cX11_strike 11 = .ok (.getfield 199, 3) := by decide +kernel
theorem dX11_strike_14 : decode cX11_strike 14 = .ok (.ifCond .ne 12, 3) := by decide +kernel
theorem dX11_strike_17 : decode cX11_strike 17 = .ok (.aload_n 0, 1) := by decide +kernel
theorem dX11_strike_18 : decode cX11_strike 18 = .ok (.bipush (-9), 2) := by decide +kernel
theorem dX11_strike_20 : decode cX11_strike 20 = .ok (.putfield 97, 3) := by decide +kernel
theorem dX11_strike_23 : decode cX11_strike 23 = .ok (.bipush (-9), 2) := by decide +kernel
theorem dX11_strike_25 : decode cX11_strike 25 = .ok (.ireturn, 1) := by decide +kernel
theorem dX11_strike_26 : decode cX11_strike 26 = .ok (.aload_n 0, 1) := by decide +kernel
theorem dX11_strike_27 : decode cX11_strike 27 = .ok (.getfield 188, 3) := by decide +kernel
theorem dX11_strike_30 : decode cX11_strike 30 = .ok (.bipush 40, 2) := by decide +kernel
theorem dX11_strike_32 : decode cX11_strike 32 = .ok (.if_icmp .ne 6, 3) := by decide +kernel
theorem dX11_strike_35 : decode cX11_strike 35 = .ok (.bipush (-4), 2) := by decide +kernel
theorem dX11_strike_37 : decode cX11_strike 37 = .ok (.ireturn, 1) := by decide +kernel
theorem dX11_strike_38 : decode cX11_strike 38 = .ok (.aload_n 0, 1) := by decide +kernel
theorem dX11_strike_39 : decode cX11_strike 39 = .ok (.getfield 56, 3) := by decide +kernel
theorem dX11_strike_42 : decode cX11_strike 42 = .ok (.aload_n 0, 1) := by decide +kernel
theorem dX11_strike_43 : decode cX11_strike 43 = .ok (.getfield 188, 3) := by decide +kernel
theorem dX11_strike_46 : decode cX11_strike 46 = .ok (.aload_n 0, 1) := by decide +kernel
theorem dX11_strike_47 : decode cX11_strike 47 = .ok (.getfield 202, 3) := by decide +kernel
theorem dX11_strike_50 : decode cX11_strike 50 = .ok (.iastore, 1) := by decide +kernel
theorem dX11_strike_51 : decode cX11_strike 51 = .ok (.aload_n 0, 1) := by decide +kernel
theorem dX11_strike_52 : decode cX11_strike 52 = .ok (.getfield 59, 3) := by decide +kernel
theorem dX11_strike_55 : decode cX11_strike 55 = .ok (.aload_n 0, 1) := by decide +kernel
theorem dX11_strike_56 : decode cX11_strike 56 = .ok (.getfield 188, 3) := by decide +kernel
theorem dX11_strike_59 : decode cX11_strike 59 = .ok (.aload_n 0, 1) := by decide +kernel
theorem dX11_strike_60 : decode cX11_strike 60 = .ok (.getfield 97, 3) := by decide +kernel
theorem dX11_strike_63 : decode cX11_strike 63 = .ok (.iastore, 1) := by decide +kernel
theorem dX11_strike_64 : decode cX11_strike 64 = .ok (.aload_n 0, 1) := by decide +kernel
theorem dX11_strike_65 : decode cX11_strike 65 = .ok (.getfield 62, 3) := by decide +kernel
theorem dX11_strike_68 : decode cX11_strike 68 = .ok (.aload_n 0, 1) := by decide +kernel
theorem dX11_strike_69 : decode cX11_strike 69 = .ok (.getfield 188, 3) := by decide +kernel
theorem dX11_strike_72 : decode cX11_strike 72 = .ok (.aload_n 0, 1) := by decide +kernel
theorem dX11_strike_73 : decode cX11_strike 73 = .ok (.getfield 196, 3) := by decide +kernel
theorem dX11_strike_76 : decode cX11_strike 76 = .ok (.iastore, 1) := by decide +kernel
theorem dX11_strike_77 : decode cX11_strike 77 = .ok (.aload_n 0, 1) := by decide +kernel
theorem dX11_strike_78 : decode cX11_strike 78 = .ok (.getfield 69, 3) := by decide +kernel
theorem dX11_strike_81 : decode cX11_strike 81 = .ok (.aload_n 0, 1) := by decide +kernel
theorem dX11_strike_82 : decode cX11_strike 82 = .ok (.getfield 188, 3) := by decide +kernel
theorem dX11_strike_85 : decode cX11_strike 85 = .ok (.aload_n 0, 1) := by decide +kernel
theorem dX11_strike_86 : decode cX11_strike 86 = .ok (.aload_n 0, 1) := by decide +kernel
theorem dX11_strike_87 : decode cX11_strike 87 = .ok (.getfield 97, 3) := by decide +kernel
theorem dX11_strike_90 : decode cX11_strike 90 = .ok (.iconst 0, 1) := by decide +kernel
theorem dX11_strike_91 : decode cX11_strike 91 = .ok (.invokevirtual 181, 3) := by decide +kernel
theorem dX11_strike_94 : decode cX11_strike 94 = .ok (.lastore, 1) := by decide +kernel
theorem dX11_strike_95 : decode cX11_strike 95 = .ok (.aload_n 0, 1) := by decide +kernel
theorem dX11_strike_96 : decode cX11_strike 96 = .ok (.getfield 72, 3) := by decide +kernel
theorem dX11_strike_99 : decode cX11_strike 99 = .ok (.aload_n 0, 1) := by decide +kernel
theorem dX11_strike_100 : decode cX11_strike 100 = .ok (.getfield 188, 3) := by decide +kernel
theorem dX11_strike_103 : decode cX11_strike 103 = .ok (.aload_n 0, 1) := by decide +kernel
theorem dX11_strike_104 : decode cX11_strike 104 = .ok (.aload_n 0, 1) := by decide +kernel
theorem dX11_strike_105 : decode cX11_strike 105 = .ok (.getfield 97, 3) := by decide +kernel
theorem dX11_strike_108 : decode cX11_strike 108 = .ok (.iconst 1, 1) := by decide +kernel
theorem dX11_strike_109 : decode cX11_strike 109 = .ok (.invokevirtual 181, 3) := by decide +kernel
theorem dX11_strike_112 : decode cX11_strike 112 = .ok (.lastore, 1) := by decide +kernel
theorem dX11_strike_113 : decode cX11_strike 113 = .ok (.aload_n 0, 1) := by decide +kernel
theorem dX11_strike_114 : decode cX11_strike 114 = .ok (.dup, 1) := by decide +kernel
theorem dX11_strike_115 : decode cX11_strike 115 = .ok (.getfield 188, 3) := by decide +kernel
theorem dX11_strike_118 : decode cX11_strike 118 = .ok (.iconst 1, 1) := by decide +kernel
theorem dX11_strike_119 : decode cX11_strike 119 = .ok (.iadd, 1) := by decide +kernel
theorem dX11_strike_120 : decode cX11_strike 120 = .ok (.putfield 188, 3) := by decide +kernel
theorem dX11_strike_123 : decode cX11_strike 123 = .ok (.aload_n 0, 1) := by decide +kernel
theorem dX11_strike_124 : decode cX11_strike 124 = .ok (.bipush (-9), 2) := by decide +kernel
theorem dX11_strike_126 : decode cX11_strike 126 = .ok (.putfield 97, 3) := by decide +kernel
theorem dX11_strike_129 : decode cX11_strike 129 = .ok (.aload_n 0, 1) := by decide +kernel
theorem dX11_strike_130 : decode cX11_strike 130 = .ok (.getfield 188, 3) := by decide +kernel
theorem dX11_strike_133 : decode cX11_strike 133 = .ok (.iconst 1, 1) := by decide +kernel
theorem dX11_strike_134 : decode cX11_strike 134 = .ok (.isub, 1) := by decide +kernel
theorem dX11_strike_135 : decode cX11_strike 135 = .ok (.ireturn, 1) := by decide +kernel
theorem dX11_takesOn_0 : decode cX11_takesOn 0 = .ok (.iconst 0, 1) := by decide +kernel
theorem dX11_takesOn_1 : decode cX11_takesOn 1 = .ok (.istore_n 2, 1) := by decide +kernel
theorem dX11_takesOn_2 : decode cX11_takesOn 2 = .ok (.iconst 0, 1) := by decide +kernel
theorem dX11_takesOn_3 : decode cX11_takesOn 3 = .ok (.istore_n 3, 1) := by decide +kernel
theorem dX11_takesOn_4 : decode cX11_takesOn 4 = .ok (.iload_n 3, 1) := by decide +kernel
theorem dX11_takesOn_5 : decode cX11_takesOn 5 = .ok (.aload_n 0, 1) := by decide +kernel
theorem dX11_takesOn_6 : decode cX11_takesOn 6 = .ok (.getfield 188, 3) := by decide +kernel
theorem dX11_takesOn_9 : decode cX11_takesOn 9 = .ok (.if_icmp .ge 27, 3) := by decide +kernel
theorem dX11_takesOn_12 : decode cX11_takesOn 12 = .ok (.iload_n 2, 1) := by decide +kernel
theorem dX11_takesOn_13 : decode cX11_takesOn 13 = .ok (.aload_n 0, 1) := by decide +kernel
theorem dX11_takesOn_14 : decode cX11_takesOn 14 = .ok (.getfield 59, 3) := by decide +kernel
theorem dX11_takesOn_17 : decode cX11_takesOn 17 = .ok (.iload_n 3, 1) := by decide +kernel
theorem dX11_takesOn_18 : decode cX11_takesOn 18 = .ok (.iaload, 1) := by decide +kernel
theorem dX11_takesOn_19 : decode cX11_takesOn 19 = .ok (.iload_n 1, 1) := by decide +kernel
theorem dX11_takesOn_20 : decode cX11_takesOn 20 = .ok (.if_icmp .ne 7, 3) := by decide +kernel
theorem dX11_takesOn_23 : decode cX11_takesOn 23 = .ok (.iconst 1, 1) := by decide +kernel
theorem dX11_takesOn_24 : decode cX11_takesOn 24 = .ok (.goto 4, 3) := by decide +kernel
theorem dX11_takesOn_27 : decode cX11_takesOn 27 = .ok (.iconst 0, 1) := by decide +kernel
theorem dX11_takesOn_28 : decode cX11_takesOn 28 = .ok (.iadd, 1) := by decide +kernel
theorem dX11_takesOn_29 : decode cX11_takesOn 29 = .ok (.istore_n 2, 1) := by decide +kernel
theorem dX11_takesOn_30 : decode cX11_takesOn 30 = .ok (.iinc 3 1, 3) := by decide +kernel
theorem dX11_takesOn_33 : decode cX11_takesOn 33 = .ok (.goto (-29), 3) := by decide +kernel
theorem dX11_takesOn_36 : decode cX11_takesOn 36 = .ok (.iload_n 2, 1) := by decide +kernel
theorem dX11_takesOn_37 : decode cX11_takesOn 37 = .ok (.ireturn, 1) := by decide +kernel
set_option maxRecDepth 20000 in
theorem ggX11_about_X11_noPitch : GoodIn wsX11_about wsX11_noPitch := goodIn_r _ [10, 11, 12, 13, 9, 14, 26, 27, 28, 29, 30, 31, 32, 33, 34, 35, 36, 37, 38, 39, 40, 41, 42, 43, 44, 45, 46, 47, 48, 49, 50, 51, 52, 53, 54, 55, 56, 57, 58, 59, 60, 61, 62, 63, 64] (by decide +kernel) (by decide +kernel)
set_option maxRecDepth 20000 in
theorem gX11_about_X11_noPitch : GoodIn wsX11_about (wsV RX11 178 RX11 yX11_noPitch wsX11_noPitch) := goodIn_app (goodIn_r _ [6, 7, 8, 9] (by decide +kernel) (by decide +kernel)) ggX11_about_X11_noPitch
set_option maxRecDepth 20000 in
theorem ggX11_about_X11_takeOf : GoodIn wsX11_about wsX11_takeOf := goodIn_r _ [18, 19, 20, 21, 26, 27, 28, 29, 30, 31, 32, 33, 34, 35, 36, 37, 38, 39, 40, 41, 42, 43, 44, 45, 46, 47, 48, 49, 50, 51, 52, 53, 54, 55, 56, 57, 58, 59, 60, 61, 62, 63, 64] (by decide +kernel) (by decide +kernel)
set_option maxRecDepth 20000 in
theorem gX11_about_X11_takeOf : GoodIn wsX11_about (wsV RX11 193 RX11 yX11_takeOf wsX11_takeOf) := goodIn_app (goodIn_r _ [15, 16, 17, 9] (by decide +kernel) (by decide +kernel)) ggX11_about_X11_takeOf
set_option maxRecDepth 20000 in
theorem ggX11_about_X11_takesOn : GoodIn wsX11_about wsX11_takesOn := goodIn_r _ [25, 19, 20, 26, 27, 28, 29, 30, 31, 32, 33, 34, 35, 36, 37, 38, 39, 40, 41, 42, 43, 44, 45, 46, 47, 48, 49, 50, 51, 52, 53, 54, 55, 56, 57, 58, 59, 60, 61, 62, 63, 64] (by decide +kernel) (by decide +kernel)
set_option maxRecDepth 20000 in
theorem gX11_about_X11_takesOn : GoodIn wsX11_about (wsV RX11 211 RX11 yX11_takesOn wsX11_takesOn) := goodIn_app (goodIn_r _ [22, 23, 24, 9] (by decide +kernel) (by decide +kernel)) ggX11_about_X11_takesOn
theorem dX11_about_0 : decode cX11_about 0 = .ok (.aload_n 0, 1) := by decide +kernel
theorem dX11_about_1 : decode cX11_about 1 = .ok (.iload_n 1, 1) := by decide +kernel
theorem dX11_about_2 : decode cX11_about 2 = .ok (.invokevirtual 178, 3) := by decide +kernel
theorem dX11_about_5 : decode cX11_about 5 = .ok (.ifCond .eq 5, 3) := by decide +kernel
theorem dX11_about_8 : decode cX11_about 8 = .ok (.iconst (-1), 1) := by decide +kernel
theorem dX11_about_9 : decode cX11_about 9 = .ok (.ireturn, 1) := by decide +kernel
theorem dX11_about_10 : decode cX11_about 10 = .ok (.iload_n 2, 1) := by decide +kernel
theorem dX11_about_11 : decode cX11_about 11 = .ok (.tableswitch 88 0 6 #[41, 48, 55, 62, 69, 76, 82], 41) := by decide +kernel
theorem dX11_about_52 : decode cX11_about 52 = .ok (.aload_n 0, 1) := by decide +kernel
theorem dX11_about_53 : decode cX11_about 53 = .ok (.getfield 34, 3) := by decide +kernel
theorem dX11_about_56 : decode cX11_about 56 = .ok (.iload_n 1, 1) := by decide +kernel
theorem dX11_about_57 : decode cX11_about 57 = .ok (.iaload, 1) := by decide +kernel
theorem dX11_about_58 : decode cX11_about 58 = .ok (.ireturn, 1) := by decide +kernel
theorem dX11_about_59 : decode cX11_about 59 = .ok (.aload_n 0, 1) := by decide +kernel
theorem dX11_about_60 : decode cX11_about 60 = .ok (.getfield 37, 3) := by decide +kernel
theorem dX11_about_63 : decode cX11_about 63 = .ok (.iload_n 1, 1) := by decide +kernel
theorem dX11_about_64 : decode cX11_about 64 = .ok (.iaload, 1) := by decide +kernel
theorem dX11_about_65 : decode cX11_about 65 = .ok (.ireturn, 1) := by decide +kernel
theorem dX11_about_66 : decode cX11_about 66 = .ok (.aload_n 0, 1) := by decide +kernel
theorem dX11_about_67 : decode cX11_about 67 = .ok (.getfield 40, 3) := by decide +kernel
theorem dX11_about_70 : decode cX11_about 70 = .ok (.iload_n 1, 1) := by decide +kernel
theorem dX11_about_71 : decode cX11_about 71 = .ok (.iaload, 1) := by decide +kernel
theorem dX11_about_72 : decode cX11_about 72 = .ok (.ireturn, 1) := by decide +kernel
theorem dX11_about_73 : decode cX11_about 73 = .ok (.aload_n 0, 1) := by decide +kernel
theorem dX11_about_74 : decode cX11_about 74 = .ok (.getfield 43, 3) := by decide +kernel
theorem dX11_about_77 : decode cX11_about 77 = .ok (.iload_n 1, 1) := by decide +kernel
theorem dX11_about_78 : decode cX11_about 78 = .ok (.iaload, 1) := by decide +kernel
theorem dX11_about_79 : decode cX11_about 79 = .ok (.ireturn, 1) := by decide +kernel
theorem dX11_about_80 : decode cX11_about 80 = .ok (.aload_n 0, 1) := by decide +kernel
theorem dX11_about_81 : decode cX11_about 81 = .ok (.getfield 46, 3) := by decide +kernel
theorem dX11_about_84 : decode cX11_about 84 = .ok (.iload_n 1, 1) := by decide +kernel
theorem dX11_about_85 : decode cX11_about 85 = .ok (.iaload, 1) := by decide +kernel
theorem dX11_about_86 : decode cX11_about 86 = .ok (.ireturn, 1) := by decide +kernel
theorem dX11_about_87 : decode cX11_about 87 = .ok (.aload_n 0, 1) := by decide +kernel
theorem dX11_about_88 : decode cX11_about 88 = .ok (.iload_n 1, 1) := by decide +kernel
theorem dX11_about_89 : decode cX11_about 89 = .ok (.invokevirtual 193, 3) := by decide +kernel
theorem dX11_about_92 : decode cX11_about 92 = .ok (.ireturn, 1) := by decide +kernel
theorem dX11_about_93 : decode cX11_about 93 = .ok (.aload_n 0, 1) := by decide +kernel
theorem dX11_about_94 : decode cX11_about 94 = .ok (.iload_n 1, 1) := by decide +kernel
theorem dX11_about_95 : decode cX11_about 95 = .ok (.invokevirtual 211, 3) := by decide +kernel
theorem dX11_about_98 : decode cX11_about 98 = .ok (.ireturn, 1) := by decide +kernel
theorem dX11_about_99 : decode cX11_about 99 = .ok (.bipush (-2), 2) := by decide +kernel
theorem dX11_about_101 : decode cX11_about 101 = .ok (.ireturn, 1) := by decide +kernel
set_option maxRecDepth 20000 in
theorem ggX11_noTake_X11_in : GoodIn wsX11_noTake wsX11_in := goodIn_r _ [5] (by decide +kernel) (by decide +kernel)
