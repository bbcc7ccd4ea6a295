set_option maxRecDepth 20000 in
theorem gX11_noTake_X11_in : GoodIn wsX11_noTake (va_wsS RX11 111 yX11_in wsX11_in) := goodIn_app (goodIn_r _ [2, 3, 4] (by decide +kernel) (by decide +kernel)) ggX11_noTake_X11_in
theorem dX11_noTake_0 : decode cX11_noTake 0 = .ok (.iload_n 1, 1) := by decide +kernel
theorem dX11_noTake_1 : decode cX11_noTake 1 = .ok (.i2l, 1) := by decide +kernel
theorem dX11_noTake_2 : decode cX11_noTake 2 = .ok (.lconst 0, 1) := by decide +kernel
theorem dX11_noTake_3 : decode cX11_noTake 3 = .ok (.aload_n 0, 1) := by decide +kernel
theorem dX11_noTake_4 : decode cX11_noTake 4 = .ok (.getfield 188, 3) := by decide +kernel
theorem dX11_noTake_7 : decode cX11_noTake 7 = .ok (.i2l, 1) := by decide +kernel
theorem dX11_noTake_8 : decode cX11_noTake 8 = .ok (.lconst 1, 1) := by decide +kernel
theorem dX11_noTake_9 : decode cX11_noTake 9 = .ok (.lsub, 1) := by decide +kernel
theorem dX11_noTake_10 : decode cX11_noTake 10 = .ok (.invokestatic 111, 3) := by decide +kernel
theorem dX11_noTake_13 : decode cX11_noTake 13 = .ok (.ifCond .ne 7, 3) := by decide +kernel
theorem dX11_noTake_16 : decode cX11_noTake 16 = .ok (.iconst 1, 1) := by decide +kernel
theorem dX11_noTake_17 : decode cX11_noTake 17 = .ok (.goto 4, 3) := by decide +kernel
theorem dX11_noTake_20 : decode cX11_noTake 20 = .ok (.iconst 0, 1) := by decide +kernel
theorem dX11_noTake_21 : decode cX11_noTake 21 = .ok (.ireturn, 1) := by decide +kernel
set_option maxRecDepth 20000 in
theorem ggX11_parcel_X11_noTake : GoodIn wsX11_parcel wsX11_noTake := goodIn_r _ [11, 12, 13, 14, 10, 15, 16, 17, 18, 19, 20, 21, 22, 23, 24, 25, 26, 27, 28, 29, 30, 31, 32, 33, 34, 35, 36, 37, 38, 39, 40, 41, 42, 43, 44, 45, 46, 47, 48, 49, 50, 51, 52, 53, 54] (by decide +kernel) (by decide +kernel)
set_option maxRecDepth 20000 in
theorem gX11_parcel_X11_noTake : GoodIn wsX11_parcel (wsV RX11 214 RX11 yX11_noTake wsX11_noTake) := goodIn_app (goodIn_r _ [7, 8, 9, 10] (by decide +kernel) (by decide +kernel)) ggX11_parcel_X11_noTake
set_option maxRecDepth 20000 in
theorem ggX11_parcel_X11_in : GoodIn wsX11_parcel wsX11_in := goodIn_r _ [15] (by decide +kernel) (by decide +kernel)
set_option maxRecDepth 20000 in
theorem gX11_parcel_X11_in : GoodIn wsX11_parcel (va_wsS RX11 111 yX11_in wsX11_in) := goodIn_app (goodIn_r _ [13, 14, 10] (by decide +kernel) (by decide +kernel)) ggX11_parcel_X11_in
theorem dX11_parcel_0 : decode cX11_parcel 0 = .ok (.aload_n 0, 1) := by decide +kernel
theorem dX11_parcel_1 : decode cX11_parcel 1 = .ok (.iload_n 1, 1) := by decide +kernel
theorem dX11_parcel_2 : decode cX11_parcel 2 = .ok (.invokevirtual 214, 3) := by decide +kernel
theorem dX11_parcel_5 : decode cX11_parcel 5 = .ok (.ifCond .eq 5, 3) := by decide +kernel
theorem dX11_parcel_8 : decode cX11_parcel 8 = .ok (.iconst (-1), 1) := by decide +kernel
theorem dX11_parcel_9 : decode cX11_parcel 9 = .ok (.ireturn, 1) := by decide +kernel
theorem dX11_parcel_10 : decode cX11_parcel 10 = .ok (.iload_n 2, 1) := by decide +kernel
theorem dX11_parcel_11 : decode cX11_parcel 11 = .ok (.i2l, 1) := by decide +kernel
theorem dX11_parcel_12 : decode cX11_parcel 12 = .ok (.lconst 1, 1) := by decide +kernel
theorem dX11_parcel_13 : decode cX11_parcel 13 = .ok (.ldc2_w 133, 3) := by decide +kernel
theorem dX11_parcel_16 : decode cX11_parcel 16 = .ok (.invokestatic 111, 3) := by decide +kernel
theorem dX11_parcel_19 : decode cX11_parcel 19 = .ok (.ifCond .eq 15, 3) := by decide +kernel
theorem dX11_parcel_22 : decode cX11_parcel 22 = .ok (.iload_n 3, 1) := by decide +kernel
theorem dX11_parcel_23 : decode cX11_parcel 23 = .ok (.i2l, 1) := by decide +kernel
theorem dX11_parcel_24 : decode cX11_parcel 24 = .ok (.lconst 0, 1) := by decide +kernel
theorem dX11_parcel_25 : decode cX11_parcel 25 = .ok (.ldc2_w 133, 3) := by decide +kernel
theorem dX11_parcel_28 : decode cX11_parcel 28 = .ok (.invokestatic 111, 3) := by decide +kernel
theorem dX11_parcel_31 : decode cX11_parcel 31 = .ok (.ifCond .ne 6, 3) := by decide +kernel
theorem dX11_parcel_34 : decode cX11_parcel 34 = .ok (.bipush (-2), 2) := by decide +kernel
theorem dX11_parcel_36 : decode cX11_parcel 36 = .ok (.ireturn, 1) := by decide +kernel
theorem dX11_parcel_37 : decode cX11_parcel 37 = .ok (.aload_n 0, 1) := by decide +kernel
theorem dX11_parcel_38 : decode cX11_parcel 38 = .ok (.getfield 65, 3) := by decide +kernel
theorem dX11_parcel_41 : decode cX11_parcel 41 = .ok (.iload_n 1, 1) := by decide +kernel
theorem dX11_parcel_42 : decode cX11_parcel 42 = .ok (.baload, 1) := by decide +kernel
theorem dX11_parcel_43 : decode cX11_parcel 43 = .ok (.ifCond .eq 6, 3) := by decide +kernel
theorem dX11_parcel_46 : decode cX11_parcel 46 = .ok (.bipush (-3), 2) := by decide +kernel
theorem dX11_parcel_48 : decode cX11_parcel 48 = .ok (.ireturn, 1) := by decide +kernel
theorem dX11_parcel_49 : decode cX11_parcel 49 = .ok (.aload_n 0, 1) := by decide +kernel
theorem dX11_parcel_50 : decode cX11_parcel 50 = .ok (.getfield 217, 3) := by decide +kernel
theorem dX11_parcel_53 : decode cX11_parcel 53 = .ok (.bipush 80, 2) := by decide +kernel
theorem dX11_parcel_55 : decode cX11_parcel 55 = .ok (.if_icmp .ne 6, 3) := by decide +kernel
theorem dX11_parcel_58 : decode cX11_parcel 58 = .ok (.bipush (-4), 2) := by decide +kernel
theorem dX11_parcel_60 : decode cX11_parcel 60 = .ok (.ireturn, 1) := by decide +kernel
theorem dX11_parcel_61 : decode cX11_parcel 61 = .ok (.aload_n 0, 1) := by decide +kernel
theorem dX11_parcel_62 : decode cX11_parcel 62 = .ok (.getfield 84, 3) := by decide +kernel
theorem dX11_parcel_65 : decode cX11_parcel 65 = .ok (.aload_n 0, 1) := by decide +kernel
theorem dX11_parcel_66 : decode cX11_parcel 66 = .ok (.getfield 217, 3) := by decide +kernel
theorem dX11_parcel_69 : decode cX11_parcel 69 = .ok (.iload_n 1, 1) := by decide +kernel
theorem dX11_parcel_70 : decode cX11_parcel 70 = .ok (.iastore, 1) := by decide +kernel
theorem dX11_parcel_71 : decode cX11_parcel 71 = .ok (.aload_n 0, 1) := by decide +kernel
theorem dX11_parcel_72 : decode cX11_parcel 72 = .ok (.getfield 87, 3) := by decide +kernel
theorem dX11_parcel_75 : decode cX11_parcel 75 = .ok (.aload_n 0, 1) := by decide +kernel
theorem dX11_parcel_76 : decode cX11_parcel 76 = .ok (.getfield 217, 3) := by decide +kernel
theorem dX11_parcel_79 : decode cX11_parcel 79 = .ok (.iload_n 2, 1) := by decide +kernel
theorem dX11_parcel_80 : decode cX11_parcel 80 = .ok (.iastore, 1) := by decide +kernel
theorem dX11_parcel_81 : decode cX11_parcel 81 = .ok (.aload_n 0, 1) := by decide +kernel
theorem dX11_parcel_82 : decode cX11_parcel 82 = .ok (.getfield 90, 3) := by decide +kernel
theorem dX11_parcel_85 : decode cX11_parcel 85 = .ok (.aload_n 0, 1) := by decide +kernel
theorem dX11_parcel_86 : decode cX11_parcel 86 = .ok (.getfield 217, 3) := by decide +kernel
theorem dX11_parcel_89 : decode cX11_parcel 89 = .ok (.iload_n 3, 1) := by decide +kernel
theorem dX11_parcel_90 : decode cX11_parcel 90 = .ok (.iastore, 1) := by decide +kernel
theorem dX11_parcel_91 : decode cX11_parcel 91 = .ok (.aload_n 0, 1) := by decide +kernel
theorem dX11_parcel_92 : decode cX11_parcel 92 = .ok (.dup, 1) := by decide +kernel
theorem dX11_parcel_93 : decode cX11_parcel 93 = .ok (.getfield 217, 3) := by decide +kernel
theorem dX11_parcel_96 : decode cX11_parcel 96 = .ok (.iconst 1, 1) := by decide +kernel
theorem dX11_parcel_97 : decode cX11_parcel 97 = .ok (.iadd, 1) := by decide +kernel
theorem dX11_parcel_98 : decode cX11_parcel 98 = .ok (.putfield 217, 3) := by decide +kernel
theorem dX11_parcel_101 : decode cX11_parcel 101 = .ok (.aload_n 0, 1) := by decide +kernel
theorem dX11_parcel_102 : decode cX11_parcel 102 = .ok (.getfield 217, 3) := by decide +kernel
theorem dX11_parcel_105 : decode cX11_parcel 105 = .ok (.iconst 1, 1) := by decide +kernel
theorem dX11_parcel_106 : decode cX11_parcel 106 = .ok (.isub, 1) := by decide +kernel
theorem dX11_parcel_107 : decode cX11_parcel 107 = .ok (.ireturn, 1) := by decide +kernel
set_option maxRecDepth 20000 in
theorem ggX11_spend_X11_noTake : GoodIn wsX11_spend wsX11_noTake := goodIn_r _ [9, 10, 11, 12, 8, 13, 18, 19, 20, 21, 22, 23, 24, 25, 26, 27, 28, 29, 30, 31, 32, 33, 34, 35, 36, 37, 38, 39, 40, 41, 42, 43, 44, 45, 46, 47, 48, 49, 50, 51, 52, 53, 54, 55, 56] (by decide +kernel) (by decide +kernel)
set_option maxRecDepth 20000 in
theorem gX11_spend_X11_noTake : GoodIn wsX11_spend (wsV RX11 214 RX11 yX11_noTake wsX11_noTake) := goodIn_app (goodIn_r _ [5, 6, 7, 8] (by decide +kernel) (by decide +kernel)) ggX11_spend_X11_noTake
set_option maxRecDepth 20000 in
theorem ggX11_spend_X11_in : GoodIn wsX11_spend wsX11_in := goodIn_r _ [13] (by decide +kernel) (by decide +kernel)
set_option maxRecDepth 20000 in
theorem gX11_spend_X11_in : GoodIn wsX11_spend (va_wsS RX11 111 yX11_in wsX11_in) := goodIn_app (goodIn_r _ [11, 12, 8] (by decide +kernel) (by decide +kernel)) ggX11_spend_X11_in
set_option maxRecDepth 20000 in
theorem ggX11_spend_X11_lost : GoodIn wsX11_spend wsX11_lost := goodIn_r _ [16, 17] (by decide +kernel) (by decide +kernel)
set_option maxRecDepth 20000 in
theorem gX11_spend_X11_lost : GoodIn wsX11_spend (va_wsS RX11 105 yX11_lost wsX11_lost) := goodIn_app (goodIn_r _ [14, 15, 8] (by decide +kernel) (by decide +kernel)) ggX11_spend_X11_lost
theorem dX11_spend_0 : decode cX11_spend 0 = .ok (.aload_n 0, 1) := by decide +kernel
theorem dX11_spend_1 : decode cX11_spend 1 = .ok (.iload_n 1, 1) := by decide +kernel
theorem dX11_spend_2 : decode cX11_spend 2 = .ok (.invokevirtual 214, 3) := by decide +kernel
theorem dX11_spend_5 : decode cX11_spend 5 = .ok (.ifCond .ne 34, 3) := by decide +kernel
theorem dX11_spend_8 : decode cX11_spend 8 = .ok (.iload_n 2, 1) := by decide +kernel
theorem dX11_spend_9 : decode cX11_spend 9 = .ok (.i2l, 1) := by decide +kernel
theorem dX11_spend_10 : decode cX11_spend 10 = .ok (.lconst 0, 1) := by decide +kernel
theorem dX11_spend_11 : decode cX11_spend 11 = .ok (.lconst 1, 1) := by decide +kernel
theorem dX11_spend_12 : decode cX11_spend 12 = .ok (.invokestatic 111, 3) := by decide +kernel
theorem dX11_spend_15 : decode cX11_spend 15 = .ok (.ifCond .eq 24, 3) := by decide +kernel
theorem dX11_spend_18 : decode cX11_spend 18 = .ok (.iload_n 3, 1) := by decide +kernel
theorem dX11_spend_19 : decode cX11_spend 19 = .ok (.i2l, 1) := by decide +kernel
theorem dX11_spend_20 : decode cX11_spend 20 = .ok (.lconst 0, 1) := by decide +kernel
theorem dX11_spend_21 : decode cX11_spend 21 = .ok (.ldc2_w 220, 3) := by decide +kernel
theorem dX11_spend_24 : decode cX11_spend 24 = .ok (.invokestatic 111, 3) := by decide +kernel
theorem dX11_spend_27 : decode cX11_spend 27 = .ok (.ifCond .eq 12, 3) := by decide +kernel
theorem dX11_spend_30 : decode cX11_spend 30 = .ok (.aload_n 0, 1) := by decide +kernel
theorem dX11_spend_31 : decode cX11_spend 31 = .ok (.getfield 65, 3) := by decide +kernel
theorem dX11_spend_34 : decode cX11_spend 34 = .ok (.iload_n 1, 1) := by decide +kernel
theorem dX11_spend_35 : decode cX11_spend 35 = .ok (.baload, 1) := by decide +kernel
theorem dX11_spend_36 : decode cX11_spend 36 = .ok (.ifCond .eq 7, 3) := by decide +kernel
theorem dX11_spend_39 : decode cX11_spend 39 = .ok (.invokestatic 105, 3) := by decide +kernel
theorem dX11_spend_42 : decode cX11_spend 42 = .ok (.lreturn, 1) := by decide +kernel
theorem dX11_spend_43 : decode cX11_spend 43 = .ok (.aload_n 0, 1) := by decide +kernel
theorem dX11_spend_44 : decode cX11_spend 44 = .ok (.getfield 75, 3) := by decide +kernel
theorem dX11_spend_47 : decode cX11_spend 47 = .ok (.iload_n 1, 1) := by decide +kernel
theorem dX11_spend_48 : decode cX11_spend 48 = .ok (.dup2, 1) := by decide +kernel
theorem dX11_spend_49 : decode cX11_spend 49 = .ok (.laload, 1) := by decide +kernel
theorem dX11_spend_50 : decode cX11_spend 50 = .ok (.iload_n 2, 1) := by decide +kernel
theorem dX11_spend_51 : decode cX11_spend 51 = .ok (.ifCond .ne 8, 3) := by decide +kernel
theorem dX11_spend_54 : decode cX11_spend 54 = .ok (.iload_n 3, 1) := by decide +kernel
theorem dX11_spend_55 : decode cX11_spend 55 = .ok (.i2l, 1) := by decide +kernel
theorem dX11_spend_56 : decode cX11_spend 56 = .ok (.goto 4, 3) := by decide +kernel
theorem dX11_spend_59 : decode cX11_spend 59 = .ok (.lconst 0, 1) := by decide +kernel
theorem dX11_spend_60 : decode cX11_spend 60 = .ok (.ladd, 1) := by decide +kernel
theorem dX11_spend_61 : decode cX11_spend 61 = .ok (.lastore, 1) := by decide +kernel
theorem dX11_spend_62 : decode cX11_spend 62 = .ok (.aload_n 0, 1) := by decide +kernel
theorem dX11_spend_63 : decode cX11_spend 63 = .ok (.getfield 78, 3) := by decide +kernel
theorem dX11_spend_66 : decode cX11_spend 66 = .ok (.iload_n 1, 1) := by decide +kernel
theorem dX11_spend_67 : decode cX11_spend 67 = .ok (.dup2, 1) := by decide +kernel
theorem dX11_spend_68 : decode cX11_spend 68 = .ok (.laload, 1) := by decide +kernel
theorem dX11_spend_69 : decode cX11_spend 69 = .ok (.iload_n 2, 1) := by decide +kernel
theorem dX11_spend_70 : decode cX11_spend 70 = .ok (.iconst 1, 1) := by decide +kernel
theorem dX11_spend_71 : decode cX11_spend 71 = .ok (.if_icmp .ne 8, 3) := by decide +kernel
theorem dX11_spend_74 : decode cX11_spend 74 = .ok (.iload_n 3, 1) := by decide +kernel
theorem dX11_spend_75 : decode cX11_spend 75 = .ok (.i2l, 1) := by decide +kernel
theorem dX11_spend_76 : decode cX11_spend 76 = .ok (.goto 4, 3) := by decide +kernel
theorem dX11_spend_79 : decode cX11_spend 79 = .ok (.lconst 0, 1) := by decide +kernel
theorem dX11_spend_80 : decode cX11_spend 80 = .ok (.ladd, 1) := by decide +kernel
theorem dX11_spend_81 : decode cX11_spend 81 = .ok (.lastore, 1) := by decide +kernel
theorem dX11_spend_82 : decode cX11_spend 82 = .ok (.iload_n 2, 1) := by decide +kernel
theorem dX11_spend_83 : decode cX11_spend 83 = .ok (.ifCond .ne 12, 3) := by decide +kernel
theorem dX11_spend_86 : decode cX11_spend 86 = .ok (.aload_n 0, 1) := by decide +kernel
theorem dX11_spend_87 : decode cX11_spend 87 = .ok (.getfield 75, 3) := by decide +kernel
theorem dX11_spend_90 : decode cX11_spend 90 = .ok (.iload_n 1, 1) := by decide +kernel
theorem dX11_spend_91 : decode cX11_spend 91 = .ok (.laload, 1) := by decide +kernel
theorem dX11_spend_92 : decode cX11_spend 92 = .ok (.goto 9, 3) := by decide +kernel
theorem dX11_spend_95 : decode cX11_spend 95 = .ok (.aload_n 0, 1) := by decide +kernel
theorem dX11_spend_96 : decode cX11_spend 96 = .ok (.getfield 78, 3) := by decide +kernel
theorem dX11_spend_99 : decode cX11_spend 99 = .ok (.iload_n 1, 1) := by decide +kernel
theorem dX11_spend_100 : decode cX11_spend 100 = .ok (.laload, 1) := by decide +kernel
theorem dX11_spend_101 : decode cX11_spend 101 = .ok (.lreturn, 1) := by decide +kernel
theorem dX11_worthOf_0 : decode cX11_worthOf 0 = .ok (.lconst 0, 1) := by decide +kernel
theorem dX11_worthOf_1 : decode cX11_worthOf 1 = .ok (.lstore_n 2, 1) := by decide +kernel
theorem dX11_worthOf_2 : decode cX11_worthOf 2 = .ok (.iconst 0, 1) := by decide +kernel
theorem dX11_worthOf_3 : decode cX11_worthOf 3 = .ok (.istore 4, 2) := by decide +kernel
theorem dX11_worthOf_5 : decode cX11_worthOf 5 = .ok (.iload 4, 2) := by decide +kernel
theorem dX11_worthOf_7 : decode cX11_worthOf 7 = .ok (.aload_n 0, 1) := by decide +kernel
theorem dX11_worthOf_8 : decode cX11_worthOf 8 = .ok (.getfield 217, 3) := by decide +kernel
theorem dX11_worthOf_11 : decode cX11_worthOf 11 = .ok (.if_icmp .ge 44, 3) := by decide +kernel
theorem dX11_worthOf_14 : decode cX11_worthOf 14 = .ok (.lload_n 2, 1) := by decide +kernel
theorem dX11_worthOf_15 : decode cX11_worthOf 15 = .ok (.aload_n 0, 1) := by decide +kernel
theorem dX11_worthOf_16 : decode cX11_worthOf 16 = .ok (.getfield 84, 3) := by decide +kernel
theorem dX11_worthOf_19 : decode cX11_worthOf 19 = .ok (.iload 4, 2) := by decide +kernel
theorem dX11_worthOf_21 : decode cX11_worthOf 21 = .ok (.iaload, 1) := by decide +kernel
theorem dX11_worthOf_22 : decode cX11_worthOf 22 = .ok (.iload_n 1, 1) := by decide +kernel
theorem dX11_worthOf_23 : decode cX11_worthOf 23 = .ok (.if_icmp .ne 23, 3) := by decide +kernel
theorem dX11_worthOf_26 : decode cX11_worthOf 26 = .ok (.aload_n 0, 1) := by decide +kernel
theorem dX11_worthOf_27 : decode cX11_worthOf 27 = .ok (.getfield 87, 3) := by decide +kernel
theorem dX11_worthOf_30 : decode cX11_worthOf 30 = .ok (.iload 4, 2) := by decide +kernel
theorem dX11_worthOf_32 : decode cX11_worthOf 32 = .ok (.iaload, 1) := by decide +kernel
theorem dX11_worthOf_33 : decode cX11_worthOf 33 = .ok (.i2l, 1) := by decide +kernel
theorem dX11_worthOf_34 : decode cX11_worthOf 34 = .ok (.aload_n 0, 1) := by decide +kernel
theorem dX11_worthOf_35 : decode cX11_worthOf 35 = .ok (.getfield 90, 3) := by decide +kernel
theorem dX11_worthOf_38 : decode cX11_worthOf 38 = .ok (.iload 4, 2) := by decide +kernel
theorem dX11_worthOf_40 : decode cX11_worthOf 40 = .ok (.iaload, 1) := by decide +kernel
theorem dX11_worthOf_41 : decode cX11_worthOf 41 = .ok (.i2l, 1) := by decide +kernel
theorem dX11_worthOf_42 : decode cX11_worthOf 42 = .ok (.lmul, 1) := by decide +kernel
theorem dX11_worthOf_43 : decode cX11_worthOf 43 = .ok (.goto 4, 3) := by decide +kernel
theorem dX11_worthOf_46 : decode cX11_worthOf 46 = .ok (.lconst 0, 1) := by decide +kernel
theorem dX11_worthOf_47 : decode cX11_worthOf 47 = .ok (.ladd, 1) := by decide +kernel
theorem dX11_worthOf_48 : decode cX11_worthOf 48 = .ok (.lstore_n 2, 1) := by decide +kernel
theorem dX11_worthOf_49 : decode cX11_worthOf 49 = .ok (.iinc 4 1, 3) := by decide +kernel
theorem dX11_worthOf_52 : decode cX11_worthOf 52 = .ok (.goto (-47), 3) := by decide +kernel
theorem dX11_worthOf_55 : decode cX11_worthOf 55 = .ok (.lload_n 2, 1) := by decide +kernel
theorem dX11_worthOf_56 : decode cX11_worthOf 56 = .ok (.lreturn, 1) := by decide +kernel
set_option maxRecDepth 20000 in
theorem ggX11_settle_X11_noTake : GoodIn wsX11_settle wsX11_noTake := goodIn_r _ [15, 16, 17, 18, 14, 19, 32, 33, 34, 35, 36, 37, 38, 39, 40, 41, 42, 43, 44, 45, 46, 47, 48, 49, 50, 51, 52, 53, 54, 55, 56, 57, 58, 59, 60, 61, 62, 63, 64, 65, 66, 67, 68, 69, 70] (by decide +kernel) (by decide +kernel)
set_option maxRecDepth 20000 in
theorem gX11_settle_X11_noTake : GoodIn wsX11_settle (wsV RX11 214 RX11 yX11_noTake wsX11_noTake) := goodIn_app (goodIn_r _ [11, 12, 13, 14] (by decide +kernel) (by decide +kernel)) ggX11_settle_X11_noTake
set_option maxRecDepth 20000 in
theorem ggX11_settle_X11_lost : GoodIn wsX11_settle wsX11_lost := goodIn_r _ [22, 23] (by decide +kernel) (by decide +kernel)
set_option maxRecDepth 20000 in
theorem gX11_settle_X11_lost : GoodIn wsX11_settle (va_wsS RX11 105 yX11_lost wsX11_lost) := goodIn_app (goodIn_r _ [20, 21, 14] (by decide +kernel) (by decide +kernel)) ggX11_settle_X11_lost
set_option maxRecDepth 20000 in
theorem ggX11_settle_X11_worthOf : GoodIn wsX11_settle wsX11_worthOf := goodIn_r _ [27, 28, 29, 30, 31, 32, 33, 34, 35, 36, 37, 38, 39, 40, 41, 42, 43, 44, 45, 46, 47, 48, 49, 50, 51, 52, 53, 54, 55, 56, 57, 58, 59, 60, 61, 62, 63, 64, 65, 66, 67, 68, 69, 70] (by decide +kernel) (by decide +kernel)
set_option maxRecDepth 20000 in
theorem gX11_settle_X11_worthOf : GoodIn wsX11_settle (wsV RX11 222 RX11 yX11_worthOf wsX11_worthOf) := goodIn_app (goodIn_r _ [24, 25, 26, 14] (by decide +kernel) (by decide +kernel)) ggX11_settle_X11_worthOf
theorem dX11_settle_0 : decode cX11_settle 0 = .ok (.aload_n 0, 1) := by decide +kernel
theorem dX11_settle_1 : decode cX11_settle 1 = .ok (.iload_n 1, 1) := by decide +kernel
theorem dX11_settle_2 : decode cX11_settle 2 = .ok (.invokevirtual 214, 3) := by decide +kernel
theorem dX11_settle_5 : decode cX11_settle 5 = .ok (.ifCond .ne 12, 3) := by decide +kernel
theorem dX11_settle_8 : decode cX11_settle 8 = .ok (.aload_n 0, 1) := by decide +kernel
theorem dX11_settle_9 : decode cX11_settle 9 = .ok (.getfield 65, 3) := by decide +kernel
theorem dX11_settle_12 : decode cX11_settle 12 = .ok (.iload_n 1, 1) := by decide +kernel
theorem dX11_settle_13 : decode cX11_settle 13 = .ok (.baload, 1) := by decide +kernel
theorem dX11_settle_14 : decode cX11_settle 14 = .ok (.ifCond .eq 7, 3) := by decide +kernel
theorem dX11_settle_17 : decode cX11_settle 17 = .ok (.invokestatic 105, 3) := by decide +kernel
theorem dX11_settle_20 : decode cX11_settle 20 = .ok (.lreturn, 1) := by decide +kernel
theorem dX11_settle_21 : decode cX11_settle 21 = .ok (.aload_n 0, 1) := by decide +kernel
theorem dX11_settle_22 : decode cX11_settle 22 = .ok (.getfield 56, 3) := by decide +kernel
theorem dX11_settle_25 : decode cX11_settle 25 = .ok (.iload_n 1, 1) := by decide +kernel
theorem dX11_settle_26 : decode cX11_settle 26 = .ok (.iaload, 1) := by decide +kernel
theorem dX11_settle_27 : decode cX11_settle 27 = .ok (.istore_n 2, 1) := by decide +kernel
theorem dX11_settle_28 : decode cX11_settle 28 = .ok (.aload_n 0, 1) := by decide +kernel
theorem dX11_settle_29 : decode cX11_settle 29 = .ok (.getfield 49, 3) := by decide +kernel
theorem dX11_settle_32 : decode cX11_settle 32 = .ok (.iload_n 2, 1) := by decide +kernel
theorem dX11_settle_33 : decode cX11_settle 33 = .ok (.iaload, 1) := by decide +kernel
theorem dX11_settle_34 : decode cX11_settle 34 = .ok (.iconst 2, 1) := by decide +kernel
theorem dX11_settle_35 : decode cX11_settle 35 = .ok (.if_icmp .ne 16, 3) := by decide +kernel
theorem dX11_settle_38 : decode cX11_settle 38 = .ok (.aload_n 0, 1) := by decide +kernel
theorem dX11_settle_39 : decode cX11_settle 39 = .ok (.getfield 52, 3) := by decide +kernel
theorem dX11_settle_42 : decode cX11_settle 42 = .ok (.iload_n 2, 1) := by decide +kernel
theorem dX11_settle_43 : decode cX11_settle 43 = .ok (.laload, 1) := by decide +kernel
theorem dX11_settle_44 : decode cX11_settle 44 = .ok (.ldc2_w 151, 3) := by decide +kernel
theorem dX11_settle_47 : decode cX11_settle 47 = .ok (.ldiv, 1) := by decide +kernel
theorem dX11_settle_48 : decode cX11_settle 48 = .ok (.goto 9, 3) := by decide +kernel
theorem dX11_settle_51 : decode cX11_settle 51 = .ok (.aload_n 0, 1) := by decide +kernel
theorem dX11_settle_52 : decode cX11_settle 52 = .ok (.getfield 52, 3) := by decide +kernel
theorem dX11_settle_55 : decode cX11_settle 55 = .ok (.iload_n 2, 1) := by decide +kernel
theorem dX11_settle_56 : decode cX11_settle 56 = .ok (.laload, 1) := by decide +kernel
theorem dX11_settle_57 : decode cX11_settle 57 = .ok (.lstore_n 3, 1) := by decide +kernel
theorem dX11_settle_58 : decode cX11_settle 58 = .ok (.aload_n 0, 1) := by decide +kernel
theorem dX11_settle_59 : decode cX11_settle 59 = .ok (.getfield 62, 3) := by decide +kernel
theorem dX11_settle_62 : decode cX11_settle 62 = .ok (.iload_n 1, 1) := by decide +kernel
theorem dX11_settle_63 : decode cX11_settle 63 = .ok (.iaload, 1) := by decide +kernel
theorem dX11_settle_64 : decode cX11_settle 64 = .ok (.i2l, 1) := by decide +kernel
theorem dX11_settle_65 : decode cX11_settle 65 = .ok (.aload_n 0, 1) := by decide +kernel
theorem dX11_settle_66 : decode cX11_settle 66 = .ok (.iload_n 1, 1) := by decide +kernel
theorem dX11_settle_67 : decode cX11_settle 67 = .ok (.invokevirtual 222, 3) := by decide +kernel
theorem dX11_settle_70 : decode cX11_settle 70 = .ok (.lmul, 1) := by decide +kernel
theorem dX11_settle_71 : decode cX11_settle 71 = .ok (.ldc2_w 191, 3) := by decide +kernel
theorem dX11_settle_74 : decode cX11_settle 74 = .ok (.ldiv, 1) := by decide +kernel
theorem dX11_settle_75 : decode cX11_settle 75 = .ok (.aload_n 0, 1) := by decide +kernel
theorem dX11_settle_76 : decode cX11_settle 76 = .ok (.getfield 49, 3) := by decide +kernel
theorem dX11_settle_79 : decode cX11_settle 79 = .ok (.iload_n 2, 1) := by decide +kernel
theorem dX11_settle_80 : decode cX11_settle 80 = .ok (.iaload, 1) := by decide +kernel
theorem dX11_settle_81 : decode cX11_settle 81 = .ok (.ifCond .le 16, 3) := by decide +kernel
theorem dX11_settle_84 : decode cX11_settle 84 = .ok (.aload_n 0, 1) := by decide +kernel
theorem dX11_settle_85 : decode cX11_settle 85 = .ok (.getfield 75, 3) := by decide +kernel
theorem dX11_settle_88 : decode cX11_settle 88 = .ok (.iload_n 1, 1) := by decide +kernel
theorem dX11_settle_89 : decode cX11_settle 89 = .ok (.laload, 1) := by decide +kernel
theorem dX11_settle_90 : decode cX11_settle 90 = .ok (.ldc2_w 151, 3) := by decide +kernel
theorem dX11_settle_93 : decode cX11_settle 93 = .ok (.ldiv, 1) := by decide +kernel
theorem dX11_settle_94 : decode cX11_settle 94 = .ok (.goto 9, 3) := by decide +kernel
theorem dX11_settle_97 : decode cX11_settle 97 = .ok (.aload_n 0, 1) := by decide +kernel
theorem dX11_settle_98 : decode cX11_settle 98 = .ok (.getfield 75, 3) := by decide +kernel
theorem dX11_settle_101 : decode cX11_settle 101 = .ok (.iload_n 1, 1) := by decide +kernel
theorem dX11_settle_102 : decode cX11_settle 102 = .ok (.laload, 1) := by decide +kernel
theorem dX11_settle_103 : decode cX11_settle 103 = .ok (.lsub, 1) := by decide +kernel
theorem dX11_settle_104 : decode cX11_settle 104 = .ok (.aload_n 0, 1) := by decide +kernel
theorem dX11_settle_105 : decode cX11_settle 105 = .ok (.getfield 78, 3) := by decide +kernel
theorem dX11_settle_108 : decode cX11_settle 108 = .ok (.iload_n 1, 1) := by decide +kernel
theorem dX11_settle_109 : decode cX11_settle 109 = .ok (.laload, 1) := by decide +kernel
theorem dX11_settle_110 : decode cX11_settle 110 = .ok (.lsub, 1) := by decide +kernel
theorem dX11_settle_111 : decode cX11_settle 111 = .ok (.lload_n 3, 1) := by decide +kernel
theorem dX11_settle_112 : decode cX11_settle 112 = .ok (.lsub, 1) := by decide +kernel
theorem dX11_settle_113 : decode cX11_settle 113 = .ok (.lstore 5, 2) := by decide +kernel
theorem dX11_settle_115 : decode cX11_settle 115 = .ok (.aload_n 0, 1) := by decide +kernel
theorem dX11_settle_116 : decode cX11_settle 116 = .ok (.getfield 52, 3) := by decide +kernel
theorem dX11_settle_119 : decode cX11_settle 119 = .ok (.iload_n 2, 1) := by decide +kernel
theorem dX11_settle_120 : decode cX11_settle 120 = .ok (.dup2, 1) := by decide +kernel
theorem dX11_settle_121 : decode cX11_settle 121 = .ok (.laload, 1) := by decide +kernel
theorem dX11_settle_122 : decode cX11_settle 122 = .ok (.lload_n 3, 1) := by decide +kernel
theorem dX11_settle_123 : decode cX11_settle 123 = .ok (.lsub, 1) := by decide +kernel
theorem dX11_settle_124 : decode cX11_settle 124 = .ok (.lastore, 1) := by decide +kernel
theorem dX11_settle_125 : decode cX11_settle 125 = .ok (.aload_n 0, 1) := by decide +kernel
theorem dX11_settle_126 : decode cX11_settle 126 = .ok (.getfield 52, 3) := by decide +kernel
theorem dX11_settle_129 : decode cX11_settle 129 = .ok (.iload_n 2, 1) := by decide +kernel
theorem dX11_settle_130 : decode cX11_settle 130 = .ok (.dup2, 1) := by decide +kernel
theorem dX11_settle_131 : decode cX11_settle 131 = .ok (.laload, 1) := by decide +kernel
theorem dX11_settle_132 : decode cX11_settle 132 = .ok (.lload 5, 2) := by decide +kernel
theorem dX11_settle_134 : decode cX11_settle 134 = .ok (.lconst 0, 1) := by decide +kernel
theorem dX11_settle_135 : decode cX11_settle 135 = .ok (.lcmp, 1) := by decide +kernel
theorem dX11_settle_136 : decode cX11_settle 136 = .ok (.ifCond .ge 9, 3) := by decide +kernel
theorem dX11_settle_139 : decode cX11_settle 139 = .ok (.lload 5, 2) := by decide +kernel
theorem dX11_settle_141 : decode cX11_settle 141 = .ok (.lneg, 1) := by decide +kernel
theorem dX11_settle_142 : decode cX11_settle 142 = .ok (.goto 4, 3) := by decide +kernel
theorem dX11_settle_145 : decode cX11_settle 145 = .ok (.lconst 0, 1) := by decide +kernel
theorem dX11_settle_146 : decode cX11_settle 146 = .ok (.ladd, 1) := by decide +kernel
theorem dX11_settle_147 : decode cX11_settle 147 = .ok (.lastore, 1) := by decide +kernel
theorem dX11_settle_148 : decode cX11_settle 148 = .ok (.aload_n 0, 1) := by decide +kernel
theorem dX11_settle_149 : decode cX11_settle 149 = .ok (.getfield 81, 3) := by decide +kernel
theorem dX11_settle_152 : decode cX11_settle 152 = .ok (.iload_n 1, 1) := by decide +kernel
theorem dX11_settle_153 : decode cX11_settle 153 = .ok (.lload 5, 2) := by decide +kernel
theorem dX11_settle_155 : decode cX11_settle 155 = .ok (.lconst 0, 1) := by decide +kernel
theorem dX11_settle_156 : decode cX11_settle 156 = .ok (.lcmp, 1) := by decide +kernel
theorem dX11_settle_157 : decode cX11_settle 157 = .ok (.ifCond .ge 7, 3) := by decide +kernel
theorem dX11_settle_160 : decode cX11_settle 160 = .ok (.lconst 0, 1) := by decide +kernel
theorem dX11_settle_161 : decode cX11_settle 161 = .ok (.goto 5, 3) := by decide +kernel
theorem dX11_settle_164 : decode cX11_settle 164 = .ok (.lload 5, 2) := by decide +kernel
theorem dX11_settle_166 : decode cX11_settle 166 = .ok (.lastore, 1) := by decide +kernel
theorem dX11_settle_167 : decode cX11_settle 167 = .ok (.aload_n 0, 1) := by decide +kernel
theorem dX11_settle_168 : decode cX11_settle 168 = .ok (.getfield 65, 3) := by decide +kernel
theorem dX11_settle_171 : decode cX11_settle 171 = .ok (.iload_n 1, 1) := by decide +kernel
theorem dX11_settle_172 : decode cX11_settle 172 = .ok (.iconst 1, 1) := by decide +kernel
theorem dX11_settle_173 : decode cX11_settle 173 = .ok (.bastore, 1) := by decide +kernel
theorem dX11_settle_174 : decode cX11_settle 174 = .ok (.aload_n 0, 1) := by decide +kernel
theorem dX11_settle_175 : decode cX11_settle 175 = .ok (.getfield 81, 3) := by decide +kernel
theorem dX11_settle_178 : decode cX11_settle 178 = .ok (.iload_n 1, 1) := by decide +kernel
theorem dX11_settle_179 : decode cX11_settle 179 = .ok (.laload, 1) := by decide +kernel
theorem dX11_settle_180 : decode cX11_settle 180 = .ok (.lreturn, 1) := by decide +kernel
theorem dX11_parcelsOf_0 : decode cX11_parcelsOf 0 = .ok (.iconst 0, 1) := by decide +kernel
theorem dX11_parcelsOf_1 : decode cX11_parcelsOf 1 = .ok (.istore_n 2, 1) := by decide +kernel
theorem dX11_parcelsOf_2 : decode cX11_parcelsOf 2 = .ok (.iconst 0, 1) := by decide +kernel
theorem dX11_parcelsOf_3 : decode cX11_parcelsOf 3 = .ok (.istore_n 3, 1) := by decide +kernel
theorem dX11_parcelsOf_4 : decode cX11_parcelsOf 4 = .ok (.iload_n 3, 1) := by decide +kernel
theorem dX11_parcelsOf_5 : decode cX11_parcelsOf 5 = .ok (.aload_n 0, 1) := by decide +kernel
theorem dX11_parcelsOf_6 : decode cX11_parcelsOf 6 = .ok (.getfield 217, 3) := by decide +kernel
theorem dX11_parcelsOf_9 : decode cX11_parcelsOf 9 = .ok (.if_icmp .ge 27, 3) := by decide +kernel
theorem dX11_parcelsOf_12 : decode cX11_parcelsOf 12 = .ok (.iload_n 2, 1) := by decide +kernel
theorem dX11_parcelsOf_13 : decode cX11_parcelsOf 13 = .ok (.aload_n 0, 1) := by decide +kernel
theorem dX11_parcelsOf_14 : decode cX11_parcelsOf 14 = .ok (.getfield 84, 3) := by decide +kernel
theorem dX11_parcelsOf_17 : decode cX11_parcelsOf 17 = .ok (.iload_n 3, 1) := by decide +kernel
theorem dX11_parcelsOf_18 : decode cX11_parcelsOf 18 = .ok (.iaload, 1) := by decide +kernel
theorem dX11_parcelsOf_19 : decode cX11_parcelsOf 19 = .ok (.iload_n 1, 1) := by decide +kernel
theorem dX11_parcelsOf_20 : decode cX11_parcelsOf 20 = .ok (.if_icmp .ne 7, 3) := by decide +kernel
theorem dX11_parcelsOf_23 : decode cX11_parcelsOf 23 = .ok (.iconst 1, 1) := by decide +kernel
theorem dX11_parcelsOf_24 : decode cX11_parcelsOf 24 = .ok (.goto 4, 3) := by decide +kernel
theorem dX11_parcelsOf_27 : decode cX11_parcelsOf 27 = .ok (.iconst 0, 1) := by decide +kernel
theorem dX11_parcelsOf_28 : decode cX11_parcelsOf 28 = .ok (.iadd, 1) := by decide +kernel
theorem dX11_parcelsOf_29 : decode cX11_parcelsOf 29 = .ok (.istore_n 2, 1) := by decide +kernel
theorem dX11_parcelsOf_30 : decode cX11_parcelsOf 30 = .ok (.iinc 3 1, 3) := by decide +kernel
theorem dX11_parcelsOf_33 : decode cX11_parcelsOf 33 = .ok (.goto (-29), 3) := by decide +kernel
theorem dX11_parcelsOf_36 : decode cX11_parcelsOf 36 = .ok (.iload_n 2, 1) := by decide +kernel
theorem dX11_parcelsOf_37 : decode cX11_parcelsOf 37 = .ok (.ireturn, 1) := by decide +kernel
set_option maxRecDepth 20000 in
theorem ggX11_taken_X11_noTake : GoodIn wsX11_taken wsX11_noTake := goodIn_r _ [9, 10, 11, 12, 8, 13, 20, 21, 22, 23, 24, 25, 26, 27, 28, 29, 30, 31, 32, 33, 34, 35, 36, 37, 38, 39, 40, 41, 42, 43, 44, 45, 46, 47, 48, 49, 50, 51, 52, 53, 54, 55, 56, 57, 58] (by decide +kernel) (by decide +kernel)
set_option maxRecDepth 20000 in
theorem gX11_taken_X11_noTake : GoodIn wsX11_taken (wsV RX11 214 RX11 yX11_noTake wsX11_noTake) := goodIn_app (goodIn_r _ [5, 6, 7, 8] (by decide +kernel) (by decide +kernel)) ggX11_taken_X11_noTake
set_option maxRecDepth 20000 in
theorem ggX11_taken_X11_parcelsOf : GoodIn wsX11_taken wsX11_parcelsOf := goodIn_r _ [17, 18, 19, 20, 21, 22, 23, 24, 25, 26, 27, 28, 29, 30, 31, 32, 33, 34, 35, 36, 37, 38, 39, 40, 41, 42, 43, 44, 45, 46, 47, 48, 49, 50, 51, 52, 53, 54, 55, 56, 57, 58] (by decide +kernel) (by decide +kernel)
set_option maxRecDepth 20000 in
theorem gX11_taken_X11_parcelsOf : GoodIn wsX11_taken (wsV RX11 225 RX11 yX11_parcelsOf wsX11_parcelsOf) := goodIn_app (goodIn_r _ [14, 15, 16, 8] (by decide +kernel) (by decide +kernel)) ggX11_taken_X11_parcelsOf
theorem dX11_taken_0 : decode cX11_taken 0 = .ok (.aload_n 0, 1) := by decide +kernel
theorem dX11_taken_1 : decode cX11_taken 1 = .ok (.iload_n 1, 1) := by decide +kernel
theorem dX11_taken_2 : decode cX11_taken 2 = .ok (.invokevirtual 214, 3) := by decide +kernel
theorem dX11_taken_5 : decode cX11_taken 5 = .ok (.ifCond .eq 5, 3) := by decide +kernel
theorem dX11_taken_8 : decode cX11_taken 8 = .ok (.iconst (-1), 1) := by decide +kernel
theorem dX11_taken_9 : decode cX11_taken 9 = .ok (.ireturn, 1) := by decide +kernel
theorem dX11_taken_10 : decode cX11_taken 10 = .ok (.iload_n 2, 1) := by decide +kernel
theorem dX11_taken_11 : decode cX11_taken 11 = .ok (.tableswitch 75 0 4 #[33, 40, 47, 54, 69], 33) := by decide +kernel
theorem dX11_taken_44 : decode cX11_taken 44 = .ok (.aload_n 0, 1) := by decide +kernel
theorem dX11_taken_45 : decode cX11_taken 45 = .ok (.getfield 56, 3) := by decide +kernel
theorem dX11_taken_48 : decode cX11_taken 48 = .ok (.iload_n 1, 1) := by decide +kernel
theorem dX11_taken_49 : decode cX11_taken 49 = .ok (.iaload, 1) := by decide +kernel
theorem dX11_taken_50 : decode cX11_taken 50 = .ok (.ireturn, 1) := by decide +kernel
theorem dX11_taken_51 : decode cX11_taken 51 = .ok (.aload_n 0, 1) := by decide +kernel
theorem dX11_taken_52 : decode cX11_taken 52 = .ok (.getfield 59, 3) := by decide +kernel
theorem dX11_taken_55 : decode cX11_taken 55 = .ok (.iload_n 1, 1) := by decide +kernel
theorem dX11_taken_56 : decode cX11_taken 56 = .ok (.iaload, 1) := by decide +kernel
theorem dX11_taken_57 : decode cX11_taken 57 = .ok (.ireturn, 1) := by decide +kernel
theorem dX11_taken_58 : decode cX11_taken 58 = .ok (.aload_n 0, 1) := by decide +kernel
theorem dX11_taken_59 : decode cX11_taken 59 = .ok (.getfield 62, 3) := by decide +kernel
theorem dX11_taken_62 : decode cX11_taken 62 = .ok (.iload_n 1, 1) := by decide +kernel
theorem dX11_taken_63 : decode cX11_taken 63 = .ok (.iaload, 1) := by decide +kernel
theorem dX11_taken_64 : decode cX11_taken 64 = .ok (.ireturn, 1) := by decide +kernel
theorem dX11_taken_65 : decode cX11_taken 65 = .ok (.aload_n 0, 1) := by decide +kernel
theorem dX11_taken_66 : decode cX11_taken 66 = .ok (.getfield 65, 3) := by decide +kernel
theorem dX11_taken_69 : decode cX11_taken 69 = .ok (.iload_n 1, 1) := by decide +kernel
theorem dX11_taken_70 : decode cX11_taken 70 = .ok (.baload, 1) := by decide +kernel
theorem dX11_taken_71 : decode cX11_taken 71 = .ok (.ifCond .eq 7, 3) := by decide +kernel
theorem dX11_taken_74 : decode cX11_taken 74 = .ok (.iconst 1, 1) := by decide +kernel
theorem dX11_taken_75 : decode cX11_taken 75 = .ok (.goto 4, 3) := by decide +kernel
theorem dX11_taken_78 : decode cX11_taken 78 = .ok (.iconst 0, 1) := by decide +kernel
theorem dX11_taken_79 : decode cX11_taken 79 = .ok (.ireturn, 1) := by decide +kernel
theorem dX11_taken_80 : decode cX11_taken 80 = .ok (.aload_n 0, 1) := by decide +kernel
theorem dX11_taken_81 : decode cX11_taken 81 = .ok (.iload_n 1, 1) := by decide +kernel
theorem dX11_taken_82 : decode cX11_taken 82 = .ok (.invokevirtual 225, 3) := by decide +kernel
theorem dX11_taken_85 : decode cX11_taken 85 = .ok (.ireturn, 1) := by decide +kernel
theorem dX11_taken_86 : decode cX11_taken 86 = .ok (.bipush (-2), 2) := by decide +kernel
theorem dX11_taken_88 : decode cX11_taken 88 = .ok (.ireturn, 1) := by decide +kernel
set_option maxRecDepth 20000 in
theorem ggX11_money_X11_noTake : GoodIn wsX11_money wsX11_noTake := goodIn_r _ [10, 11, 12, 13, 9, 14, 27, 28, 29, 30, 31, 32, 33, 34, 35, 36, 37, 38, 39, 40, 41, 42, 43, 44, 45, 46, 47, 48, 49, 50, 51, 52, 53, 54, 55, 56, 57, 58, 59, 60, 61, 62, 63, 64, 65] (by decide +kernel) (by decide +kernel)
set_option maxRecDepth 20000 in
theorem gX11_money_X11_noTake : GoodIn wsX11_money (wsV RX11 214 RX11 yX11_noTake wsX11_noTake) := goodIn_app (goodIn_r _ [6, 7, 8, 9] (by decide +kernel) (by decide +kernel)) ggX11_money_X11_noTake
set_option maxRecDepth 20000 in
theorem ggX11_money_X11_lost : GoodIn wsX11_money wsX11_lost := goodIn_r _ [17, 18] (by decide +kernel) (by decide +kernel)
set_option maxRecDepth 20000 in
theorem gX11_money_X11_lost : GoodIn wsX11_money (va_wsS RX11 105 yX11_lost wsX11_lost) := goodIn_app (goodIn_r _ [15, 16, 9] (by decide +kernel) (by decide +kernel)) ggX11_money_X11_lost
set_option maxRecDepth 20000 in
theorem ggX11_money_X11_worthOf : GoodIn wsX11_money wsX11_worthOf := goodIn_r _ [22, 23, 24, 25, 26, 27, 28, 29, 30, 31, 32, 33, 34, 35, 36, 37, 38, 39, 40, 41, 42, 43, 44, 45, 46, 47, 48, 49, 50, 51, 52, 53, 54, 55, 56, 57, 58, 59, 60, 61, 62, 63, 64, 65] (by decide +kernel) (by decide +kernel)
set_option maxRecDepth 20000 in
theorem gX11_money_X11_worthOf : GoodIn wsX11_money (wsV RX11 222 RX11 yX11_worthOf wsX11_worthOf) := goodIn_app (goodIn_r _ [19, 20, 21, 9] (by decide +kernel) (by decide +kernel)) ggX11_money_X11_worthOf
theorem dX11_money_0 : decode cX11_money 0 = .ok (.aload_n 0, 1) := by decide +kernel
theorem dX11_money_1 : decode cX11_money 1 = .ok (.iload_n 1, 1) := by decide +kernel
theorem dX11_money_2 : decode cX11_money 2 = .ok (.invokevirtual 214, 3) := by decide +kernel
theorem dX11_money_5 : decode cX11_money 5 = .ok (.ifCond .eq 7, 3) := by decide +kernel
theorem dX11_money_8 : decode cX11_money 8 = .ok (.invokestatic 105, 3) := by decide +kernel
theorem dX11_money_11 : decode cX11_money 11 = .ok (.lreturn, 1) := by decide +kernel
theorem dX11_money_12 : decode cX11_money 12 = .ok (.iload_n 2, 1) := by decide +kernel
theorem dX11_money_13 : decode cX11_money 13 = .ok (.tableswitch 80 0 5 #[39, 45, 52, 59, 66, 73], 39) := by decide +kernel
theorem dX11_money_52 : decode cX11_money 52 = .ok (.aload_n 0, 1) := by decide +kernel
theorem dX11_money_53 : decode cX11_money 53 = .ok (.iload_n 1, 1) := by decide +kernel
theorem dX11_money_54 : decode cX11_money 54 = .ok (.invokevirtual 222, 3) := by decide +kernel
theorem dX11_money_57 : decode cX11_money 57 = .ok (.lreturn, 1) := by decide +kernel
theorem dX11_money_58 : decode cX11_money 58 = .ok (.aload_n 0, 1) := by decide +kernel
theorem dX11_money_59 : decode cX11_money 59 = .ok (.getfield 75, 3) := by decide +kernel
theorem dX11_money_62 : decode cX11_money 62 = .ok (.iload_n 1, 1) := by decide +kernel
theorem dX11_money_63 : decode cX11_money 63 = .ok (.laload, 1) := by decide +kernel
theorem dX11_money_64 : decode cX11_money 64 = .ok (.lreturn, 1) := by decide +kernel
theorem dX11_money_65 : decode cX11_money 65 = .ok (.aload_n 0, 1) := by decide +kernel
theorem dX11_money_66 : decode cX11_money 66 = .ok (.getfield 78, 3) := by decide +kernel
theorem dX11_money_69 : decode cX11_money 69 = .ok (.iload_n 1, 1) := by decide +kernel
theorem dX11_money_70 : decode cX11_money 70 = .ok (.laload, 1) := by decide +kernel
theorem dX11_money_71 : decode cX11_money 71 = .ok (.lreturn, 1) := by decide +kernel
theorem dX11_money_72 : decode cX11_money 72 = .ok (.aload_n 0, 1) := by decide +kernel
theorem dX11_money_73 : decode cX11_money 73 = .ok (.getfield 81, 3) := by decide +kernel
theorem dX11_money_76 : decode cX11_money 76 = .ok (.iload_n 1, 1) := by decide +kernel
theorem dX11_money_77 : decode cX11_money 77 = .ok (.laload, 1) := by decide +kernel
theorem dX11_money_78 : decode cX11_money 78 = .ok (.lreturn, 1) := by decide +kernel
theorem dX11_money_79 : decode cX11_money 79 = .ok (.aload_n 0, 1) := by decide +kernel
theorem dX11_money_80 : decode cX11_money 80 = .ok (.getfield 69, 3) := by decide +kernel
theorem dX11_money_83 : decode cX11_money 83 = .ok (.iload_n 1, 1) := by decide +kernel
theorem dX11_money_84 : decode cX11_money 84 = .ok (.laload, 1) := by decide +kernel
theorem dX11_money_85 : decode cX11_money 85 = .ok (.lreturn, 1) := by decide +kernel
theorem dX11_money_86 : decode cX11_money 86 = .ok (.aload_n 0, 1) := by decide +kernel
theorem dX11_money_87 : decode cX11_money 87 = .ok (.getfield 72, 3) := by decide +kernel
theorem dX11_money_90 : decode cX11_money 90 = .ok (.iload_n 1, 1) := by decide +kernel
theorem dX11_money_91 : decode cX11_money 91 = .ok (.laload, 1) := by decide +kernel
theorem dX11_money_92 : decode cX11_money 92 = .ok (.lreturn, 1) := by decide +kernel
theorem dX11_money_93 : decode cX11_money 93 = .ok (.invokestatic 105, 3) := by decide +kernel
theorem dX11_money_96 : decode cX11_money 96 = .ok (.lreturn, 1) := by decide +kernel
set_option maxRecDepth 20000 in
theorem ggX11_debt_X11_noGang : GoodIn wsX11_debt wsX11_noGang := goodIn_r _ [6, 7, 8, 9, 5, 10, 15, 16, 17, 18, 19, 20, 21, 22, 23, 24, 25, 26, 27, 28, 29, 30, 31, 32, 33, 34, 35, 36, 37, 38, 39, 40, 41, 42, 43, 44, 45, 46, 47, 48, 49, 50, 51, 52, 53] (by decide +kernel) (by decide +kernel)
set_option maxRecDepth 20000 in
theorem gX11_debt_X11_noGang : GoodIn wsX11_debt (wsV RX11 205 RX11 yX11_noGang wsX11_noGang) := goodIn_app (goodIn_r _ [2, 3, 4, 5] (by decide +kernel) (by decide +kernel)) ggX11_debt_X11_noGang
set_option maxRecDepth 20000 in
theorem ggX11_debt_X11_lost : GoodIn wsX11_debt wsX11_lost := goodIn_r _ [13, 14] (by decide +kernel) (by decide +kernel)
set_option maxRecDepth 20000 in
theorem gX11_debt_X11_lost : GoodIn wsX11_debt (va_wsS RX11 105 yX11_lost wsX11_lost) := goodIn_app (goodIn_r _ [11, 12, 5] (by decide +kernel) (by decide +kernel)) ggX11_debt_X11_lost
theorem dX11_debt_0 : decode cX11_debt 0 = .ok (.aload_n 0, 1) := by decide +kernel
theorem dX11_debt_1 : decode cX11_debt 1 = .ok (.iload_n 1, 1) := by decide +kernel
theorem dX11_debt_2 : decode cX11_debt 2 = .ok (.invokevirtual 205, 3) := by decide +kernel
theorem dX11_debt_5 : decode cX11_debt 5 = .ok (.ifCond .eq 9, 3) := by decide +kernel
theorem dX11_debt_8 : decode cX11_debt 8 = .ok (.invokestatic 105, 3) := by decide +kernel
theorem dX11_debt_11 : decode cX11_debt 11 = .ok (.goto 9, 3) := by decide +kernel
theorem dX11_debt_14 : decode cX11_debt 14 = .ok (.aload_n 0, 1) := by decide +kernel
theorem dX11_debt_15 : decode cX11_debt 15 = .ok (.getfield 52, 3) := by decide +kernel
theorem dX11_debt_18 : decode cX11_debt 18 = .ok (.iload_n 1, 1) := by decide +kernel
theorem dX11_debt_19 : decode cX11_debt 19 = .ok (.laload, 1) := by decide +kernel
theorem dX11_debt_20 : decode cX11_debt 20 = .ok (.lreturn, 1) := by decide +kernel
set_option maxRecDepth 20000 in
theorem ggX11_isSuspect_X11_isOn : GoodIn wsX11_isSuspect wsX11_isOn := goodIn_r _ [9, 10, 11, 12, 13, 14, 15, 8, 16, 17, 18, 19, 20, 21, 22, 23, 24, 25, 26, 27, 28, 29, 30, 31, 32, 33, 34, 35, 36, 37, 38, 39, 40, 41, 42, 43, 44, 45, 46, 47, 48, 49, 50, 51, 52, 53, 54, 55] (by decide +kernel) (by decide +kernel)
set_option maxRecDepth 20000 in
theorem gX11_isSuspect_X11_isOn : GoodIn wsX11_isSuspect (wsV RX11 175 RX11 yX11_isOn wsX11_isOn) := goodIn_app (goodIn_r _ [5, 6, 7, 8] (by decide +kernel) (by decide +kernel)) ggX11_isSuspect_X11_isOn
theorem dX11_isSuspect_0 : decode cX11_isSuspect 0 = .ok (.aload_n 0, 1) := by decide +kernel
theorem dX11_isSuspect_1 : decode cX11_isSuspect 1 = .ok (.getfield 59, 3) := by decide +kernel
theorem dX11_isSuspect_4 : decode cX11_isSuspect 4 = .ok (.aload_n 0, 1) := by decide +kernel
theorem dX11_isSuspect_5 : decode cX11_isSuspect 5 = .ok (.getfield 84, 3) := by decide +kernel
theorem dX11_isSuspect_8 : decode cX11_isSuspect 8 = .ok (.iload_n 1, 1) := by decide +kernel
theorem dX11_isSuspect_9 : decode cX11_isSuspect 9 = .ok (.iaload, 1) := by decide +kernel
theorem dX11_isSuspect_10 : decode cX11_isSuspect 10 = .ok (.iaload, 1) := by decide +kernel
theorem dX11_isSuspect_11 : decode cX11_isSuspect 11 = .ok (.istore_n 2, 1) := by decide +kernel
theorem dX11_isSuspect_12 : decode cX11_isSuspect 12 = .ok (.iconst 0, 1) := by decide +kernel
theorem dX11_isSuspect_13 : decode cX11_isSuspect 13 = .ok (.istore_n 3, 1) := by decide +kernel
theorem dX11_isSuspect_14 : decode cX11_isSuspect 14 = .ok (.iconst 0, 1) := by decide +kernel
theorem dX11_isSuspect_15 : decode cX11_isSuspect 15 = .ok (.istore 4, 2) := by decide +kernel
theorem dX11_isSuspect_17 : decode cX11_isSuspect 17 = .ok (.iload 4, 2) := by decide +kernel
theorem dX11_isSuspect_19 : decode cX11_isSuspect 19 = .ok (.bipush 48, 2) := by decide +kernel
theorem dX11_isSuspect_21 : decode cX11_isSuspect 21 = .ok (.if_icmp .ge 42, 3) := by decide +kernel
theorem dX11_isSuspect_24 : decode cX11_isSuspect 24 = .ok (.aload_n 0, 1) := by decide +kernel
theorem dX11_isSuspect_25 : decode cX11_isSuspect 25 = .ok (.iload_n 2, 1) := by decide +kernel
theorem dX11_isSuspect_26 : decode cX11_isSuspect 26 = .ok (.iload 4, 2) := by decide +kernel
theorem dX11_isSuspect_28 : decode cX11_isSuspect 28 = .ok (.invokevirtual 175, 3) := by decide +kernel
theorem dX11_isSuspect_31 : decode cX11_isSuspect 31 = .ok (.ifCond .eq 24, 3) := by decide +kernel
theorem dX11_isSuspect_34 : decode cX11_isSuspect 34 = .ok (.aload_n 0, 1) := by decide +kernel
theorem dX11_isSuspect_35 : decode cX11_isSuspect 35 = .ok (.getfield 13, 3) := by decide +kernel
theorem dX11_isSuspect_38 : decode cX11_isSuspect 38 = .ok (.iload 4, 2) := by decide +kernel
theorem dX11_isSuspect_40 : decode cX11_isSuspect 40 = .ok (.iaload, 1) := by decide +kernel
theorem dX11_isSuspect_41 : decode cX11_isSuspect 41 = .ok (.iload_n 3, 1) := by decide +kernel
theorem dX11_isSuspect_42 : decode cX11_isSuspect 42 = .ok (.if_icmp .le 13, 3) := by decide +kernel
theorem dX11_isSuspect_45 : decode cX11_isSuspect 45 = .ok (.aload_n 0, 1) := by decide +kernel
theorem dX11_isSuspect_46 : decode cX11_isSuspect 46 = .ok (.getfield 13, 3) := by decide +kernel
theorem dX11_isSuspect_49 : decode cX11_isSuspect 49 = .ok (.iload 4, 2) := by decide +kernel
theorem dX11_isSuspect_51 : decode cX11_isSuspect 51 = .ok (.iaload, 1) := by decide +kernel
theorem dX11_isSuspect_52 : decode cX11_isSuspect 52 = .ok (.goto 4, 3) := by decide +kernel
theorem dX11_isSuspect_55 : decode cX11_isSuspect 55 = .ok (.iload_n 3, 1) := by decide +kernel
theorem dX11_isSuspect_56 : decode cX11_isSuspect 56 = .ok (.istore_n 3, 1) := by decide +kernel
theorem dX11_isSuspect_57 : decode cX11_isSuspect 57 = .ok (.iinc 4 1, 3) := by decide +kernel
theorem dX11_isSuspect_60 : decode cX11_isSuspect 60 = .ok (.goto (-43), 3) := by decide +kernel
theorem dX11_isSuspect_63 : decode cX11_isSuspect 63 = .ok (.aload_n 0, 1) := by decide +kernel
theorem dX11_isSuspect_64 : decode cX11_isSuspect 64 = .ok (.getfield 90, 3) := by decide +kernel
theorem dX11_isSuspect_67 : decode cX11_isSuspect 67 = .ok (.iload_n 1, 1) := by decide +kernel
theorem dX11_isSuspect_68 : decode cX11_isSuspect 68 = .ok (.iaload, 1) := by decide +kernel
theorem dX11_isSuspect_69 : decode cX11_isSuspect 69 = .ok (.iload_n 3, 1) := by decide +kernel
theorem dX11_isSuspect_70 : decode cX11_isSuspect 70 = .ok (.if_icmp .le 7, 3) := by decide +kernel
theorem dX11_isSuspect_73 : decode cX11_isSuspect 73 = .ok (.iconst 1, 1) := by decide +kernel
theorem dX11_isSuspect_74 : decode cX11_isSuspect 74 = .ok (.goto 4, 3) := by decide +kernel
theorem dX11_isSuspect_77 : decode cX11_isSuspect 77 = .ok (.iconst 0, 1) := by decide +kernel
theorem dX11_isSuspect_78 : decode cX11_isSuspect 78 = .ok (.ireturn, 1) := by decide +kernel
set_option maxRecDepth 20000 in
theorem ggX11_suspects_X11_isSuspect : GoodIn wsX11_suspects wsX11_isSuspect := goodIn_r _ [6, 7, 8, 9, 10, 11, 12, 13, 5, 14, 15, 16, 17, 18, 19, 20, 21, 22, 23, 24, 25, 26, 27, 28, 29, 30, 31, 32, 33, 34, 35, 36, 37, 38, 39, 40, 41, 42, 43, 44, 45, 46, 47, 48, 49, 50, 51, 52, 53, 54, 55, 56, 57, 58, 59, 60] (by decide +kernel) (by decide +kernel)
set_option maxRecDepth 20000 in
theorem gX11_suspects_X11_isSuspect : GoodIn wsX11_suspects (wsV RX11 228 RX11 yX11_isSuspect wsX11_isSuspect) := goodIn_app (goodIn_r _ [2, 3, 4, 5] (by decide +kernel) (by decide +kernel)) ggX11_suspects_X11_isSuspect
theorem dX11_suspects_0 : decode cX11_suspects 0 = .ok (.iconst 0, 1) := by decide +kernel
theorem dX11_suspects_1 : decode cX11_suspects 1 = .ok (.istore_n 1, 1) := by decide +kernel
theorem dX11_suspects_2 : decode cX11_suspects 2 = .ok (.iconst 0, 1) := by decide +kernel
theorem dX11_suspects_3 : decode cX11_suspects 3 = .ok (.istore_n 2, 1) := by decide +kernel
theorem dX11_suspects_4 : decode cX11_suspects 4 = .ok (.iload_n 2, 1) := by decide +kernel
theorem dX11_suspects_5 : decode cX11_suspects 5 = .ok (.aload_n 0, 1) := by decide +kernel
theorem dX11_suspects_6 : decode cX11_suspects 6 = .ok (.getfield 217, 3) := by decide +kernel
theorem dX11_suspects_9 : decode cX11_suspects 9 = .ok (.if_icmp .ge 25, 3) := by decide +kernel
theorem dX11_suspects_12 : decode cX11_suspects 12 = .ok (.iload_n 1, 1) := by decide +kernel
theorem dX11_suspects_13 : decode cX11_suspects 13 = .ok (.aload_n 0, 1) := by decide +kernel
theorem dX11_suspects_14 : decode cX11_suspects 14 = .ok (.iload_n 2, 1) := by decide +kernel
theorem dX11_suspects_15 : decode cX11_suspects 15 = .ok (.invokevirtual 228, 3) := by decide +kernel
theorem dX11_suspects_18 : decode cX11_suspects 18 = .ok (.ifCond .eq 7, 3) := by decide +kernel
theorem dX11_suspects_21 : decode cX11_suspects 21 = .ok (.iconst 1, 1) := by decide +kernel
theorem dX11_suspects_22 : decode cX11_suspects 22 = .ok (.goto 4, 3) := by decide +kernel
theorem dX11_suspects_25 : decode cX11_suspects 25 = .ok (.iconst 0, 1) := by decide +kernel
theorem dX11_suspects_26 : decode cX11_suspects 26 = .ok (.iadd, 1) := by decide +kernel
theorem dX11_suspects_27 : decode cX11_suspects 27 = .ok (.istore_n 1, 1) := by decide +kernel
theorem dX11_suspects_28 : decode cX11_suspects 28 = .ok (.iinc 2 1, 3) := by decide +kernel
theorem dX11_suspects_31 : decode cX11_suspects 31 = .ok (.goto (-27), 3) := by decide +kernel
theorem dX11_suspects_34 : decode cX11_suspects 34 = .ok (.iload_n 1, 1) := by decide +kernel
theorem dX11_suspects_35 : decode cX11_suspects 35 = .ok (.ireturn, 1) := by decide +kernel
set_option maxRecDepth 20000 in
theorem ggX11_suspect_X11_isSuspect : GoodIn wsX11_suspect wsX11_isSuspect := goodIn_r _ [6, 7, 8, 9, 10, 11, 12, 13, 5, 14, 15, 16, 17, 18, 19, 20, 21, 22, 23, 24, 25, 26, 27, 28, 29, 30, 31, 32, 33, 34, 35, 36, 37, 38, 39, 40, 41, 42, 43, 44, 45, 46, 47, 48, 49, 50, 51, 52, 53, 54, 55, 56, 57, 58, 59, 60] (by decide +kernel) (by decide +kernel)
set_option maxRecDepth 20000 in
theorem gX11_suspect_X11_isSuspect : GoodIn wsX11_suspect (wsV RX11 228 RX11 yX11_isSuspect wsX11_isSuspect) := goodIn_app (goodIn_r _ [2, 3, 4, 5] (by decide +kernel) (by decide +kernel)) ggX11_suspect_X11_isSuspect
theorem dX11_suspect_0 : decode cX11_suspect 0 = .ok (.iconst 0, 1) := by decide +kernel
theorem dX11_suspect_1 : decode cX11_suspect 1 = .ok (.istore_n 2, 1) := by decide +kernel
theorem dX11_suspect_2 : decode cX11_suspect 2 = .ok (.iconst 0, 1) := by decide +kernel
theorem dX11_suspect_3 : decode cX11_suspect 3 = .ok (.istore_n 3, 1) := by decide +kernel
theorem dX11_suspect_4 : decode cX11_suspect 4 = .ok (.iload_n 3, 1) := by decide +kernel
theorem dX11_suspect_5 : decode cX11_suspect 5 = .ok (.aload_n 0, 1) := by decide +kernel
theorem dX11_suspect_6 : decode cX11_suspect 6 = .ok (.getfield 217, 3) := by decide +kernel
theorem dX11_suspect_9 : decode cX11_suspect 9 = .ok (.if_icmp .ge 27, 3) := by decide +kernel
theorem dX11_suspect_12 : decode cX11_suspect 12 = .ok (.aload_n 0, 1) := by decide +kernel
theorem dX11_suspect_13 : decode cX11_suspect 13 = .ok (.iload_n 3, 1) := by decide +kernel
theorem dX11_suspect_14 : decode cX11_suspect 14 = .ok (.invokevirtual 228, 3) := by decide +kernel
theorem dX11_suspect_17 : decode cX11_suspect 17 = .ok (.ifCond .eq 13, 3) := by decide +kernel
theorem dX11_suspect_20 : decode cX11_suspect 20 = .ok (.iload_n 2, 1) := by decide +kernel
theorem dX11_suspect_21 : decode cX11_suspect 21 = .ok (.iload_n 1, 1) := by decide +kernel
theorem dX11_suspect_22 : decode cX11_suspect 22 = .ok (.if_icmp .ne 5, 3) := by decide +kernel
theorem dX11_suspect_25 : decode cX11_suspect 25 = .ok (.iload_n 3, 1) := by decide +kernel
theorem dX11_suspect_26 : decode cX11_suspect 26 = .ok (.ireturn, 1) := by decide +kernel
theorem dX11_suspect_27 : decode cX11_suspect 27 = .ok (.iinc 2 1, 3) := by decide +kernel
theorem dX11_suspect_30 : decode cX11_suspect 30 = .ok (.iinc 3 1, 3) := by decide +kernel
theorem dX11_suspect_33 : decode cX11_suspect 33 = .ok (.goto (-29), 3) := by decide +kernel
theorem dX11_suspect_36 : decode cX11_suspect 36 = .ok (.iconst (-1), 1) := by decide +kernel
theorem dX11_suspect_37 : decode cX11_suspect 37 = .ok (.ireturn, 1) := by decide +kernel
theorem dX11_common_0 : decode cX11_common 0 = .ok (.lload_n 0, 1) := by decide +kernel
theorem dX11_common_1 : decode cX11_common 1 = .ok (.lstore 4, 2) := by decide +kernel
theorem dX11_common_3 : decode cX11_common 3 = .ok (.lload_n 2, 1) := by decide +kernel
theorem dX11_common_4 : decode cX11_common 4 = .ok (.lstore 6, 2) := by decide +kernel
theorem dX11_common_6 : decode cX11_common 6 = .ok (.lload 6, 2) := by decide +kernel
theorem dX11_common_8 : decode cX11_common 8 = .ok (.lconst 0, 1) := by decide +kernel
theorem dX11_common_9 : decode cX11_common 9 = .ok (.lcmp, 1) := by decide +kernel
theorem dX11_common_10 : decode cX11_common 10 = .ok (.ifCond .eq 21, 3) := by decide +kernel
theorem dX11_common_13 : decode cX11_common 13 = .ok (.lload 4, 2) := by decide +kernel
theorem dX11_common_15 : decode cX11_common 15 = .ok (.lload 6, 2) := by decide +kernel
theorem dX11_common_17 : decode cX11_common 17 = .ok (.lrem, 1) := by decide +kernel
theorem dX11_common_18 : decode cX11_common 18 = .ok (.lstore 8, 2) := by decide +kernel
theorem dX11_common_20 : decode cX11_common 20 = .ok (.lload 6, 2) := by decide +kernel
theorem dX11_common_22 : decode cX11_common 22 = .ok (.lstore 4, 2) := by decide +kernel
theorem dX11_common_24 : decode cX11_common 24 = .ok (.lload 8, 2) := by decide +kernel
theorem dX11_common_26 : decode cX11_common 26 = .ok (.lstore 6, 2) := by decide +kernel
theorem dX11_common_28 : decode cX11_common 28 = .ok (.goto (-22), 3) := by decide +kernel
theorem dX11_common_31 : decode cX11_common 31 = .ok (.lload 4, 2) := by decide +kernel
theorem dX11_common_33 : decode cX11_common 33 = .ok (.lreturn, 1) := by decide +kernel
set_option maxRecDepth 20000 in
theorem ggX11_skill_X11_noGang : GoodIn wsX11_skill wsX11_noGang := goodIn_r _ [11, 12, 13, 14, 10, 15, 31, 32, 33, 34, 35, 36, 37, 38, 39, 40, 41, 42, 43, 44, 45, 46, 47, 48, 49, 50, 51, 52, 53, 54, 55, 56, 57, 58, 59, 60, 61, 62, 63, 64, 65, 66, 67, 68, 69] (by decide +kernel) (by decide +kernel)
set_option maxRecDepth 20000 in
theorem gX11_skill_X11_noGang : GoodIn wsX11_skill (wsV RX11 205 RX11 yX11_noGang wsX11_noGang) := goodIn_app (goodIn_r _ [7, 8, 9, 10] (by decide +kernel) (by decide +kernel)) ggX11_skill_X11_noGang
set_option maxRecDepth 20000 in
theorem ggX11_skill_X11_in : GoodIn wsX11_skill wsX11_in := goodIn_r _ [15] (by decide +kernel) (by decide +kernel)
set_option maxRecDepth 20000 in
theorem gX11_skill_X11_in : GoodIn wsX11_skill (va_wsS RX11 111 yX11_in wsX11_in) := goodIn_app (goodIn_r _ [13, 14, 10] (by decide +kernel) (by decide +kernel)) ggX11_skill_X11_in
set_option maxRecDepth 20000 in
theorem ggX11_skill_X11_lost : GoodIn wsX11_skill wsX11_lost := goodIn_r _ [18, 19] (by decide +kernel) (by decide +kernel)
set_option maxRecDepth 20000 in
theorem gX11_skill_X11_lost : GoodIn wsX11_skill (va_wsS RX11 105 yX11_lost wsX11_lost) := goodIn_app (goodIn_r _ [16, 17, 10] (by decide +kernel) (by decide +kernel)) ggX11_skill_X11_lost
set_option maxRecDepth 20000 in
theorem ggX11_skill_X11_worthOf : GoodIn wsX11_skill wsX11_worthOf := goodIn_r _ [23, 24, 25, 26, 27, 31, 32, 33, 34, 35, 36, 37, 38, 39, 40, 41, 42, 43, 44, 45, 46, 47, 48, 49, 50, 51, 52, 53, 54, 55, 56, 57, 58, 59, 60, 61, 62, 63, 64, 65, 66, 67, 68, 69] (by decide +kernel) (by decide +kernel)
set_option maxRecDepth 20000 in
theorem gX11_skill_X11_worthOf : GoodIn wsX11_skill (wsV RX11 222 RX11 yX11_worthOf wsX11_worthOf) := goodIn_app (goodIn_r _ [20, 21, 22, 10] (by decide +kernel) (by decide +kernel)) ggX11_skill_X11_worthOf
set_option maxRecDepth 20000 in
theorem ggX11_skill_X11_common : GoodIn wsX11_skill wsX11_common := goodIn_r _ [30] (by decide +kernel) (by decide +kernel)
set_option maxRecDepth 20000 in
theorem gX11_skill_X11_common : GoodIn wsX11_skill (va_wsS RX11 231 yX11_common wsX11_common) := goodIn_app (goodIn_r _ [28, 29, 10] (by decide +kernel) (by decide +kernel)) ggX11_skill_X11_common
theorem dX11_skill_0 : decode cX11_skill 0 = .ok (.aload_n 0, 1) := by decide +kernel
theorem dX11_skill_1 : decode cX11_skill 1 = .ok (.iload_n 1, 1) := by decide +kernel
theorem dX11_skill_2 : decode cX11_skill 2 = .ok (.invokevirtual 205, 3) := by decide +kernel
theorem dX11_skill_5 : decode cX11_skill 5 = .ok (.ifCond .ne 13, 3) := by decide +kernel
theorem dX11_skill_8 : decode cX11_skill 8 = .ok (.iload_n 2, 1) := by decide +kernel
theorem dX11_skill_9 : decode cX11_skill 9 = .ok (.i2l, 1) := by decide +kernel
theorem dX11_skill_10 : decode cX11_skill 10 = .ok (.lconst 0, 1) := by decide +kernel
theorem dX11_skill_11 : decode cX11_skill 11 = .ok (.lconst 1, 1) := by decide +kernel
theorem dX11_skill_12 : decode cX11_skill 12 = .ok (.invokestatic 111, 3) := by decide +kernel
theorem dX11_skill_15 : decode cX11_skill 15 = .ok (.ifCond .ne 7, 3) := by decide +kernel
theorem dX11_skill_18 : decode cX11_skill 18 = .ok (.invokestatic 105, 3) := by decide +kernel
theorem dX11_skill_21 : decode cX11_skill 21 = .ok (.lreturn, 1) := by decide +kernel
theorem dX11_skill_22 : decode cX11_skill 22 = .ok (.lconst 0, 1) := by decide +kernel
theorem dX11_skill_23 : decode cX11_skill 23 = .ok (.lstore_n 3, 1) := by decide +kernel
theorem dX11_skill_24 : decode cX11_skill 24 = .ok (.lconst 0, 1) := by decide +kernel
theorem dX11_skill_25 : decode cX11_skill 25 = .ok (.lstore 5, 2) := by decide +kernel
theorem dX11_skill_27 : decode cX11_skill 27 = .ok (.iconst 0, 1) := by decide +kernel
theorem dX11_skill_28 : decode cX11_skill 28 = .ok (.istore 7, 2) := by decide +kernel
theorem dX11_skill_30 : decode cX11_skill 30 = .ok (.iload 7, 2) := by decide +kernel
theorem dX11_skill_32 : decode cX11_skill 32 = .ok (.aload_n 0, 1) := by decide +kernel
theorem dX11_skill_33 : decode cX11_skill 33 = .ok (.getfield 188, 3) := by decide +kernel
theorem dX11_skill_36 : decode cX11_skill 36 = .ok (.if_icmp .ge 80, 3) := by decide +kernel
theorem dX11_skill_39 : decode cX11_skill 39 = .ok (.aload_n 0, 1) := by decide +kernel
theorem dX11_skill_40 : decode cX11_skill 40 = .ok (.getfield 69, 3) := by decide +kernel
theorem dX11_skill_43 : decode cX11_skill 43 = .ok (.iload 7, 2) := by decide +kernel
theorem dX11_skill_45 : decode cX11_skill 45 = .ok (.laload, 1) := by decide +kernel
theorem dX11_skill_46 : decode cX11_skill 46 = .ok (.aload_n 0, 1) := by decide +kernel
theorem dX11_skill_47 : decode cX11_skill 47 = .ok (.getfield 72, 3) := by decide +kernel
theorem dX11_skill_50 : decode cX11_skill 50 = .ok (.iload 7, 2) := by decide +kernel
theorem dX11_skill_52 : decode cX11_skill 52 = .ok (.laload, 1) := by decide +kernel
theorem dX11_skill_53 : decode cX11_skill 53 = .ok (.ladd, 1) := by decide +kernel
theorem dX11_skill_54 : decode cX11_skill 54 = .ok (.lstore 8, 2) := by decide +kernel
theorem dX11_skill_56 : decode cX11_skill 56 = .ok (.aload_n 0, 1) := by decide +kernel
theorem dX11_skill_57 : decode cX11_skill 57 = .ok (.getfield 56, 3) := by decide +kernel
theorem dX11_skill_60 : decode cX11_skill 60 = .ok (.iload 7, 2) := by decide +kernel
theorem dX11_skill_62 : decode cX11_skill 62 = .ok (.iaload, 1) := by decide +kernel
theorem dX11_skill_63 : decode cX11_skill 63 = .ok (.iload_n 1, 1) := by decide +kernel
theorem dX11_skill_64 : decode cX11_skill 64 = .ok (.if_icmp .ne 46, 3) := by decide +kernel
theorem dX11_skill_67 : decode cX11_skill 67 = .ok (.aload_n 0, 1) := by decide +kernel
theorem dX11_skill_68 : decode cX11_skill 68 = .ok (.getfield 65, 3) := by decide +kernel
theorem dX11_skill_71 : decode cX11_skill 71 = .ok (.iload 7, 2) := by decide +kernel
theorem dX11_skill_73 : decode cX11_skill 73 = .ok (.baload, 1) := by decide +kernel
theorem dX11_skill_74 : decode cX11_skill 74 = .ok (.ifCond .eq 36, 3) := by decide +kernel
theorem dX11_skill_77 : decode cX11_skill 77 = .ok (.lload 8, 2) := by decide +kernel
theorem dX11_skill_79 : decode cX11_skill 79 = .ok (.lconst 0, 1) := by decide +kernel
theorem dX11_skill_80 : decode cX11_skill 80 = .ok (.lcmp, 1) := by decide +kernel
theorem dX11_skill_81 : decode cX11_skill 81 = .ok (.ifCond .le 29, 3) := by decide +kernel
theorem dX11_skill_84 : decode cX11_skill 84 = .ok (.lload_n 3, 1) := by decide +kernel
theorem dX11_skill_85 : decode cX11_skill 85 = .ok (.lload 8, 2) := by decide +kernel
theorem dX11_skill_87 : decode cX11_skill 87 = .ok (.ldc2_w 151, 3) := by decide +kernel
theorem dX11_skill_90 : decode cX11_skill 90 = .ok (.lmul, 1) := by decide +kernel
theorem dX11_skill_91 : decode cX11_skill 91 = .ok (.aload_n 0, 1) := by decide +kernel
theorem dX11_skill_92 : decode cX11_skill 92 = .ok (.iload 7, 2) := by decide +kernel
theorem dX11_skill_94 : decode cX11_skill 94 = .ok (.invokevirtual 222, 3) := by decide +kernel
theorem dX11_skill_97 : decode cX11_skill 97 = .ok (.lmul, 1) := by decide +kernel
theorem dX11_skill_98 : decode cX11_skill 98 = .ok (.ladd, 1) := by decide +kernel
theorem dX11_skill_99 : decode cX11_skill 99 = .ok (.lstore_n 3, 1) := by decide +kernel
theorem dX11_skill_100 : decode cX11_skill 100 = .ok (.lload 5, 2) := by decide +kernel
theorem dX11_skill_102 : decode cX11_skill 102 = .ok (.lload 8, 2) := by decide +kernel
theorem dX11_skill_104 : decode cX11_skill 104 = .ok (.lload 8, 2) := by decide +kernel
theorem dX11_skill_106 : decode cX11_skill 106 = .ok (.lmul, 1) := by decide +kernel
theorem dX11_skill_107 : decode cX11_skill 107 = .ok (.ladd, 1) := by decide +kernel
theorem dX11_skill_108 : decode cX11_skill 108 = .ok (.lstore 5, 2) := by decide +kernel
theorem dX11_skill_110 : decode cX11_skill 110 = .ok (.iinc 7 1, 3) := by decide +kernel
theorem dX11_skill_113 : decode cX11_skill 113 = .ok (.goto (-83), 3) := by decide +kernel
theorem dX11_skill_116 : decode cX11_skill 116 = .ok (.lload_n 3, 1) := by decide +kernel
theorem dX11_skill_117 : decode cX11_skill 117 = .ok (.lconst 0, 1) := by decide +kernel
theorem dX11_skill_118 : decode cX11_skill 118 = .ok (.lcmp, 1) := by decide +kernel
theorem dX11_skill_119 : decode cX11_skill 119 = .ok (.ifCond .ne 6, 3) := by decide +kernel
theorem dX11_skill_122 : decode cX11_skill 122 = .ok (.iload_n 2, 1) := by decide +kernel
theorem dX11_skill_123 : decode cX11_skill 123 = .ok (.i2l, 1) := by decide +kernel
theorem dX11_skill_124 : decode cX11_skill 124 = .ok (.lreturn, 1) := by decide +kernel
theorem dX11_skill_125 : decode cX11_skill 125 = .ok (.lload_n 3, 1) := by decide +kernel
theorem dX11_skill_126 : decode cX11_skill 126 = .ok (.lload 5, 2) := by decide +kernel
theorem dX11_skill_128 : decode cX11_skill 128 = .ok (.invokestatic 231, 3) := by decide +kernel
theorem dX11_skill_131 : decode cX11_skill 131 = .ok (.lstore 7, 2) := by decide +kernel
theorem dX11_skill_133 : decode cX11_skill 133 = .ok (.iload_n 2, 1) := by decide +kernel
theorem dX11_skill_134 : decode cX11_skill 134 = .ok (.ifCond .ne 10, 3) := by decide +kernel
theorem dX11_skill_137 : decode cX11_skill 137 = .ok (.lload_n 3, 1) := by decide +kernel
theorem dX11_skill_138 : decode cX11_skill 138 = .ok (.lload 7, 2) := by decide +kernel
theorem dX11_skill_140 : decode cX11_skill 140 = .ok (.ldiv, 1) := by decide +kernel
theorem dX11_skill_141 : decode cX11_skill 141 = .ok (.goto 8, 3) := by decide +kernel
theorem dX11_skill_144 : decode cX11_skill 144 = .ok (.lload 5, 2) := by decide +kernel
theorem dX11_skill_146 : decode cX11_skill 146 = .ok (.lload 7, 2) := by decide +kernel
theorem dX11_skill_148 : decode cX11_skill 148 = .ok (.ldiv, 1) := by decide +kernel
theorem dX11_skill_149 : decode cX11_skill 149 = .ok (.lreturn, 1) := by decide +kernel
theorem dX11_traced_0 : decode cX11_traced 0 = .ok (.aload_n 0, 1) := by decide +kernel
theorem dX11_traced_1 : decode cX11_traced 1 = .ok (.bipush 31, 2) := by decide +kernel
theorem dX11_traced_3 : decode cX11_traced 3 = .ok (.aload_n 0, 1) := by decide +kernel
theorem dX11_traced_4 : decode cX11_traced 4 = .ok (.getfield 235, 3) := by decide +kernel
theorem dX11_traced_7 : decode cX11_traced 7 = .ok (.imul, 1) := by decide +kernel
theorem dX11_traced_8 : decode cX11_traced 8 = .ok (.iload_n 1, 1) := by decide +kernel
theorem dX11_traced_9 : decode cX11_traced 9 = .ok (.iadd, 1) := by decide +kernel
theorem dX11_traced_10 : decode cX11_traced 10 = .ok (.putfield 235, 3) := by decide +kernel
theorem dX11_traced_13 : decode cX11_traced 13 = .ok (.return_, 1) := by decide +kernel
theorem dX11_takesBy_0 : decode cX11_takesBy 0 = .ok (.iconst 0, 1) := by decide +kernel
theorem dX11_takesBy_1 : decode cX11_takesBy 1 = .ok (.istore_n 2, 1) := by decide +kernel
theorem dX11_takesBy_2 : decode cX11_takesBy 2 = .ok (.iconst 0, 1) := by decide +kernel
theorem dX11_takesBy_3 : decode cX11_takesBy 3 = .ok (.istore_n 3, 1) := by decide +kernel
theorem dX11_takesBy_4 : decode cX11_takesBy 4 = .ok (.iload_n 3, 1) := by decide +kernel
theorem dX11_takesBy_5 : decode cX11_takesBy 5 = .ok (.aload_n 0, 1) := by decide +kernel
theorem dX11_takesBy_6 : decode cX11_takesBy 6 = .ok (.getfield 188, 3) := by decide +kernel
theorem dX11_takesBy_9 : decode cX11_takesBy 9 = .ok (.if_icmp .ge 27, 3) := by decide +kernel
theorem dX11_takesBy_12 : decode cX11_takesBy 12 = .ok (.iload_n 2, 1) := by decide +kernel
theorem dX11_takesBy_13 : decode cX11_takesBy 13 = .ok (.aload_n 0, 1) := by decide +kernel
theorem dX11_takesBy_14 : decode cX11_takesBy 14 = .ok (.getfield 56, 3) := by decide +kernel
theorem dX11_takesBy_17 : decode cX11_takesBy 17 = .ok (.iload_n 3, 1) := by decide +kernel
theorem dX11_takesBy_18 : decode cX11_takesBy 18 = .ok (.iaload, 1) := by decide +kernel
theorem dX11_takesBy_19 : decode cX11_takesBy 19 = .ok (.iload_n 1, 1) := by decide +kernel
theorem dX11_takesBy_20 : decode cX11_takesBy 20 = .ok (.if_icmp .ne 7, 3) := by decide +kernel
theorem dX11_takesBy_23 : decode cX11_takesBy 23 = .ok (.iconst 1, 1) := by decide +kernel
theorem dX11_takesBy_24 : decode cX11_takesBy 24 = .ok (.goto 4, 3) := by decide +kernel
theorem dX11_takesBy_27 : decode cX11_takesBy 27 = .ok (.iconst 0, 1) := by decide +kernel
theorem dX11_takesBy_28 : decode cX11_takesBy 28 = .ok (.iadd, 1) := by decide +kernel
theorem dX11_takesBy_29 : decode cX11_takesBy 29 = .ok (.istore_n 2, 1) := by decide +kernel
theorem dX11_takesBy_30 : decode cX11_takesBy 30 = .ok (.iinc 3 1, 3) := by decide +kernel
theorem dX11_takesBy_33 : decode cX11_takesBy 33 = .ok (.goto (-29), 3) := by decide +kernel
theorem dX11_takesBy_36 : decode cX11_takesBy 36 = .ok (.iload_n 2, 1) := by decide +kernel
theorem dX11_takesBy_37 : decode cX11_takesBy 37 = .ok (.ireturn, 1) := by decide +kernel
set_option maxRecDepth 20000 in
theorem ggX11_tell_X11_noGang : GoodIn wsX11_tell wsX11_noGang := goodIn_r _ [6, 7, 8, 9, 5, 10, 22, 23, 24, 25, 26, 27, 28, 29, 30, 31, 32, 33, 34, 35, 36, 37, 38, 39, 40, 41, 42, 43, 44, 45, 46, 47, 48, 49, 50, 51, 52, 53, 54, 55, 56, 57, 58, 59, 60] (by decide +kernel) (by decide +kernel)
set_option maxRecDepth 20000 in
theorem gX11_tell_X11_noGang : GoodIn wsX11_tell (wsV RX11 205 RX11 yX11_noGang wsX11_noGang) := goodIn_app (goodIn_r _ [2, 3, 4, 5] (by decide +kernel) (by decide +kernel)) ggX11_tell_X11_noGang
set_option maxRecDepth 20000 in
theorem ggX11_tell_X11_traced : GoodIn wsX11_tell wsX11_traced := goodIn_r _ [14, 15, 22, 23, 24, 25, 26, 27, 28, 29, 30, 31, 32, 33, 34, 35, 36, 37, 38, 39, 40, 41, 42, 43, 44, 45, 46, 47, 48, 49, 50, 51, 52, 53, 54, 55, 56, 57, 58, 59, 60] (by decide +kernel) (by decide +kernel)
set_option maxRecDepth 20000 in
theorem gX11_tell_X11_traced : GoodIn wsX11_tell (wsV RX11 238 RX11 yX11_traced wsX11_traced) := goodIn_app (goodIn_r _ [11, 12, 13, 5] (by decide +kernel) (by decide +kernel)) ggX11_tell_X11_traced
set_option maxRecDepth 20000 in
theorem ggX11_tell_X11_takesBy : GoodIn wsX11_tell wsX11_takesBy := goodIn_r _ [19, 20, 21, 22, 23, 24, 25, 26, 27, 28, 29, 30, 31, 32, 33, 34, 35, 36, 37, 38, 39, 40, 41, 42, 43, 44, 45, 46, 47, 48, 49, 50, 51, 52, 53, 54, 55, 56, 57, 58, 59, 60] (by decide +kernel) (by decide +kernel)
set_option maxRecDepth 20000 in
theorem gX11_tell_X11_takesBy : GoodIn wsX11_tell (wsV RX11 242 RX11 yX11_takesBy wsX11_takesBy) := goodIn_app (goodIn_r _ [16, 17, 18, 5] (by decide +kernel) (by decide +kernel)) ggX11_tell_X11_takesBy
theorem dX11_tell_0 : decode cX11_tell 0 = .ok (.aload_n 0, 1) := by decide +kernel
theorem dX11_tell_1 : decode cX11_tell 1 = .ok (.iload_n 1, 1) := by decide +kernel
theorem dX11_tell_2 : decode cX11_tell 2 = .ok (.invokevirtual 205, 3) := by decide +kernel
theorem dX11_tell_5 : decode cX11_tell 5 = .ok (.ifCond .eq 5, 3) := by decide +kernel
theorem dX11_tell_8 : decode cX11_tell 8 = .ok (.iconst (-1), 1) := by decide +kernel
theorem dX11_tell_9 : decode cX11_tell 9 = .ok (.ireturn, 1) := by decide +kernel
theorem dX11_tell_10 : decode cX11_tell 10 = .ok (.aload_n 0, 1) := by decide +kernel
theorem dX11_tell_11 : decode cX11_tell 11 = .ok (.getfield 49, 3) := by decide +kernel
theorem dX11_tell_14 : decode cX11_tell 14 = .ok (.iload_n 1, 1) := by decide +kernel
theorem dX11_tell_15 : decode cX11_tell 15 = .ok (.iaload, 1) := by decide +kernel
theorem dX11_tell_16 : decode cX11_tell 16 = .ok (.ifCond .le 22, 3) := by decide +kernel
theorem dX11_tell_19 : decode cX11_tell 19 = .ok (.aload_n 0, 1) := by decide +kernel
theorem dX11_tell_20 : decode cX11_tell 20 = .ok (.aload_n 0, 1) := by decide +kernel
theorem dX11_tell_21 : decode cX11_tell 21 = .ok (.getfield 49, 3) := by decide +kernel
theorem dX11_tell_24 : decode cX11_tell 24 = .ok (.iload_n 1, 1) := by decide +kernel
theorem dX11_tell_25 : decode cX11_tell 25 = .ok (.iaload, 1) := by decide +kernel
theorem dX11_tell_26 : decode cX11_tell 26 = .ok (.iconst 1, 1) := by decide +kernel
theorem dX11_tell_27 : decode cX11_tell 27 = .ok (.if_icmp .ne 7, 3) := by decide +kernel
theorem dX11_tell_30 : decode cX11_tell 30 = .ok (.iconst 2, 1) := by decide +kernel
theorem dX11_tell_31 : decode cX11_tell 31 = .ok (.goto 4, 3) := by decide +kernel
theorem dX11_tell_34 : decode cX11_tell 34 = .ok (.iconst 3, 1) := by decide +kernel
theorem dX11_tell_35 : decode cX11_tell 35 = .ok (.invokevirtual 238, 3) := by decide +kernel
theorem dX11_tell_38 : decode cX11_tell 38 = .ok (.aload_n 0, 1) := by decide +kernel
theorem dX11_tell_39 : decode cX11_tell 39 = .ok (.iconst 1, 1) := by decide +kernel
theorem dX11_tell_40 : decode cX11_tell 40 = .ok (.invokevirtual 238, 3) := by decide +kernel
theorem dX11_tell_43 : decode cX11_tell 43 = .ok (.aload_n 0, 1) := by decide +kernel
theorem dX11_tell_44 : decode cX11_tell 44 = .ok (.getfield 49, 3) := by decide +kernel
theorem dX11_tell_47 : decode cX11_tell 47 = .ok (.iload_n 1, 1) := by decide +kernel
theorem dX11_tell_48 : decode cX11_tell 48 = .ok (.iaload, 1) := by decide +kernel
theorem dX11_tell_49 : decode cX11_tell 49 = .ok (.ifCond .ne 11, 3) := by decide +kernel
theorem dX11_tell_52 : decode cX11_tell 52 = .ok (.aload_n 0, 1) := by decide +kernel
theorem dX11_tell_53 : decode cX11_tell 53 = .ok (.iload_n 1, 1) := by decide +kernel
theorem dX11_tell_54 : decode cX11_tell 54 = .ok (.invokevirtual 242, 3) := by decide +kernel
theorem dX11_tell_57 : decode cX11_tell 57 = .ok (.goto 31, 3) := by decide +kernel
theorem dX11_tell_60 : decode cX11_tell 60 = .ok (.aload_n 0, 1) := by decide +kernel
theorem dX11_tell_61 : decode cX11_tell 61 = .ok (.getfield 49, 3) := by decide +kernel
theorem dX11_tell_64 : decode cX11_tell 64 = .ok (.iload_n 1, 1) := by decide +kernel
theorem dX11_tell_65 : decode cX11_tell 65 = .ok (.iaload, 1) := by decide +kernel
theorem dX11_tell_66 : decode cX11_tell 66 = .ok (.iconst 1, 1) := by decide +kernel
theorem dX11_tell_67 : decode cX11_tell 67 = .ok (.if_icmp .ne 14, 3) := by decide +kernel
theorem dX11_tell_70 : decode cX11_tell 70 = .ok (.bipush 10, 2) := by decide +kernel
theorem dX11_tell_72 : decode cX11_tell 72 = .ok (.aload_n 0, 1) := by decide +kernel
theorem dX11_tell_73 : decode cX11_tell 73 = .ok (.iload_n 1, 1) := by decide +kernel
theorem dX11_tell_74 : decode cX11_tell 74 = .ok (.invokevirtual 242, 3) := by decide +kernel
theorem dX11_tell_77 : decode cX11_tell 77 = .ok (.iadd, 1) := by decide +kernel
theorem dX11_tell_78 : decode cX11_tell 78 = .ok (.goto 10, 3) := by decide +kernel
theorem dX11_tell_81 : decode cX11_tell 81 = .ok (.iconst 3, 1) := by decide +kernel
theorem dX11_tell_82 : decode cX11_tell 82 = .ok (.aload_n 0, 1) := by decide +kernel
theorem dX11_tell_83 : decode cX11_tell 83 = .ok (.iload_n 1, 1) := by decide +kernel
theorem dX11_tell_84 : decode cX11_tell 84 = .ok (.invokevirtual 242, 3) := by decide +kernel
theorem dX11_tell_87 : decode cX11_tell 87 = .ok (.imul, 1) := by decide +kernel
theorem dX11_tell_88 : decode cX11_tell 88 = .ok (.ireturn, 1) := by decide +kernel
set_option maxRecDepth 20000 in
theorem ggX11_greet_X11_noGang : GoodIn wsX11_greet wsX11_noGang := goodIn_r _ [6, 7, 8, 9, 5, 10, 16, 17, 18, 19, 20, 21, 22, 23, 24, 25, 26, 27, 28, 29, 30, 31, 32, 33, 34, 35, 36, 37, 38, 39, 40, 41, 42, 43, 44, 45, 46, 47, 48, 49, 50, 51, 52, 53, 54] (by decide +kernel) (by decide +kernel)
set_option maxRecDepth 20000 in
theorem gX11_greet_X11_noGang : GoodIn wsX11_greet (wsV RX11 205 RX11 yX11_noGang wsX11_noGang) := goodIn_app (goodIn_r _ [2, 3, 4, 5] (by decide +kernel) (by decide +kernel)) ggX11_greet_X11_noGang
set_option maxRecDepth 20000 in
theorem ggX11_greet_X11_traced : GoodIn wsX11_greet wsX11_traced := goodIn_r _ [14, 15, 16, 17, 18, 19, 20, 21, 22, 23, 24, 25, 26, 27, 28, 29, 30, 31, 32, 33, 34, 35, 36, 37, 38, 39, 40, 41, 42, 43, 44, 45, 46, 47, 48, 49, 50, 51, 52, 53, 54] (by decide +kernel) (by decide +kernel)
set_option maxRecDepth 20000 in
theorem gX11_greet_X11_traced : GoodIn wsX11_greet (wsV RX11 238 RX11 yX11_traced wsX11_traced) := goodIn_app (goodIn_r _ [11, 12, 13, 5] (by decide +kernel) (by decide +kernel)) ggX11_greet_X11_traced
theorem dX11_greet_0 : decode cX11_greet 0 = .ok (.aload_n 0, 1) := by decide +kernel
theorem dX11_greet_1 : decode cX11_greet 1 = .ok (.iload_n 1, 1) := by decide +kernel
theorem dX11_greet_2 : decode cX11_greet 2 = .ok (.invokevirtual 205, 3) := by decide +kernel
theorem dX11_greet_5 : decode cX11_greet 5 = .ok (.ifCond .eq 5, 3) := by decide +kernel
theorem dX11_greet_8 : decode cX11_greet 8 = .ok (.iconst (-1), 1) := by decide +kernel
theorem dX11_greet_9 : decode cX11_greet 9 = .ok (.ireturn, 1) := by decide +kernel
theorem dX11_greet_10 : decode cX11_greet 10 = .ok (.aload_n 0, 1) := by decide +kernel
theorem dX11_greet_11 : decode cX11_greet 11 = .ok (.getfield 49, 3) := by decide +kernel
theorem dX11_greet_14 : decode cX11_greet 14 = .ok (.iload_n 1, 1) := by decide +kernel
theorem dX11_greet_15 : decode cX11_greet 15 = .ok (.iaload, 1) := by decide +kernel
theorem dX11_greet_16 : decode cX11_greet 16 = .ok (.ifCond .ne 13, 3) := by decide +kernel
theorem dX11_greet_19 : decode cX11_greet 19 = .ok (.aload_n 0, 1) := by decide +kernel
theorem dX11_greet_20 : decode cX11_greet 20 = .ok (.iconst 4, 1) := by decide +kernel
theorem dX11_greet_21 : decode cX11_greet 21 = .ok (.invokevirtual 238, 3) := by decide +kernel
theorem dX11_greet_24 : decode cX11_greet 24 = .ok (.bipush 10, 2) := by decide +kernel
theorem dX11_greet_26 : decode cX11_greet 26 = .ok (.iload_n 1, 1) := by decide +kernel
theorem dX11_greet_27 : decode cX11_greet 27 = .ok (.imul, 1) := by decide +kernel
theorem dX11_greet_28 : decode cX11_greet 28 = .ok (.ireturn, 1) := by decide +kernel
theorem dX11_greet_29 : decode cX11_greet 29 = .ok (.aload_n 0, 1) := by decide +kernel
theorem dX11_greet_30 : decode cX11_greet 30 = .ok (.getfield 49, 3) := by decide +kernel
theorem dX11_greet_33 : decode cX11_greet 33 = .ok (.iload_n 1, 1) := by decide +kernel
theorem dX11_greet_34 : decode cX11_greet 34 = .ok (.iaload, 1) := by decide +kernel
theorem dX11_greet_35 : decode cX11_greet 35 = .ok (.iconst 2, 1) := by decide +kernel
theorem dX11_greet_36 : decode cX11_greet 36 = .ok (.if_icmp .ne 9, 3) := by decide +kernel
theorem dX11_greet_39 : decode cX11_greet 39 = .ok (.aload_n 0, 1) := by decide +kernel
theorem dX11_greet_40 : decode cX11_greet 40 = .ok (.bipush 6, 2) := by decide +kernel
theorem dX11_greet_42 : decode cX11_greet 42 = .ok (.invokevirtual 238, 3) := by decide +kernel
theorem dX11_greet_45 : decode cX11_greet 45 = .ok (.aload_n 0, 1) := by decide +kernel
theorem dX11_greet_46 : decode cX11_greet 46 = .ok (.iconst 5, 1) := by decide +kernel
theorem dX11_greet_47 : decode cX11_greet 47 = .ok (.invokevirtual 238, 3) := by decide +kernel
theorem dX11_greet_50 : decode cX11_greet 50 = .ok (.aload_n 0, 1) := by decide +kernel
theorem dX11_greet_51 : decode cX11_greet 51 = .ok (.getfield 49, 3) := by decide +kernel
theorem dX11_greet_54 : decode cX11_greet 54 = .ok (.iload_n 1, 1) := by decide +kernel
theorem dX11_greet_55 : decode cX11_greet 55 = .ok (.iaload, 1) := by decide +kernel
theorem dX11_greet_56 : decode cX11_greet 56 = .ok (.iconst 2, 1) := by decide +kernel
theorem dX11_greet_57 : decode cX11_greet 57 = .ok (.if_icmp .ne 8, 3) := by decide +kernel
theorem dX11_greet_60 : decode cX11_greet 60 = .ok (.bipush 7, 2) := by decide +kernel
theorem dX11_greet_62 : decode cX11_greet 62 = .ok (.goto 5, 3) := by decide +kernel
theorem dX11_greet_65 : decode cX11_greet 65 = .ok (.bipush 6, 2) := by decide +kernel
theorem dX11_greet_67 : decode cX11_greet 67 = .ok (.ireturn, 1) := by decide +kernel
set_option maxRecDepth 20000 in
theorem ggX11_as_X11_noGang : GoodIn wsX11_as wsX11_noGang := goodIn_r _ [7, 8, 9, 10, 6, 11, 21, 22, 23, 24, 25, 26, 27, 28, 29, 30, 31, 32, 33, 34, 35, 36, 37, 38, 39, 40, 41, 42, 43, 44, 45, 46, 47, 48, 49, 50, 51, 52, 53, 54, 55, 56, 57, 58, 59] (by decide +kernel) (by decide +kernel)
set_option maxRecDepth 20000 in
theorem gX11_as_X11_noGang : GoodIn wsX11_as (wsV RX11 205 RX11 yX11_noGang wsX11_noGang) := goodIn_app (goodIn_r _ [3, 4, 5, 6] (by decide +kernel) (by decide +kernel)) ggX11_as_X11_noGang
set_option maxRecDepth 20000 in
theorem ggX11_as_X11_refused : GoodIn wsX11_as wsX11_refused := goodIn_r _ [15, 16, 21, 22, 23, 24, 25, 26, 27, 28, 29, 30, 31, 32, 33, 34, 35, 36, 37, 38, 39, 40, 41, 42, 43, 44, 45, 46, 47, 48, 49, 50, 51, 52, 53, 54, 55, 56, 57, 58, 59] (by decide +kernel) (by decide +kernel)
set_option maxRecDepth 20000 in
theorem gX11_as_X11_refused : GoodIn wsX11_as (wsV RX11 148 RX11 yX11_refused wsX11_refused) := goodIn_app (goodIn_r _ [12, 13, 14, 6] (by decide +kernel) (by decide +kernel)) ggX11_as_X11_refused
set_option maxRecDepth 20000 in
theorem ggX11_as_X11_in : GoodIn wsX11_as wsX11_in := goodIn_r _ [11] (by decide +kernel) (by decide +kernel)
set_option maxRecDepth 20000 in
theorem gX11_as_X11_in : GoodIn wsX11_as (va_wsS RX11 111 yX11_in wsX11_in) := goodIn_app (goodIn_r _ [9, 10, 6] (by decide +kernel) (by decide +kernel)) ggX11_as_X11_in
set_option maxRecDepth 20000 in
theorem ggX11_as_X11_failed : GoodIn wsX11_as wsX11_failed := goodIn_r _ [20, 16, 21, 22, 23, 24, 25, 26, 27, 28, 29, 30, 31, 32, 33, 34, 35, 36, 37, 38, 39, 40, 41, 42, 43, 44, 45, 46, 47, 48, 49, 50, 51, 52, 53, 54, 55, 56, 57, 58, 59] (by decide +kernel) (by decide +kernel)
set_option maxRecDepth 20000 in
theorem gX11_as_X11_failed : GoodIn wsX11_as (wsV RX11 153 RX11 yX11_failed wsX11_failed) := goodIn_app (goodIn_r _ [17, 18, 19, 6] (by decide +kernel) (by decide +kernel)) ggX11_as_X11_failed
theorem dX11_as_0 : decode cX11_as 0 = .ok (.aload_n 0, 1) := by decide +kernel
theorem dX11_as_1 : decode cX11_as 1 = .ok (.iload_n 1, 1) := by decide +kernel
theorem dX11_as_2 : decode cX11_as 2 = .ok (.invokevirtual 205, 3) := by decide +kernel
theorem dX11_as_5 : decode cX11_as 5 = .ok (.ifCond .eq 9, 3) := by decide +kernel
theorem dX11_as_8 : decode cX11_as 8 = .ok (.aload_n 0, 1) := by decide +kernel
theorem dX11_as_9 : decode cX11_as 9 = .ok (.iconst (-1), 1) := by decide +kernel
theorem dX11_as_10 : decode cX11_as 10 = .ok (.invokevirtual 148, 3) := by decide +kernel
theorem dX11_as_13 : decode cX11_as 13 = .ok (.ireturn, 1) := by decide +kernel
theorem dX11_as_14 : decode cX11_as 14 = .ok (.iload_n 2, 1) := by decide +kernel
theorem dX11_as_15 : decode cX11_as 15 = .ok (.i2l, 1) := by decide +kernel
theorem dX11_as_16 : decode cX11_as 16 = .ok (.lconst 0, 1) := by decide +kernel
theorem dX11_as_17 : decode cX11_as 17 = .ok (.ldc2_w 151, 3) := by decide +kernel
theorem dX11_as_20 : decode cX11_as 20 = .ok (.invokestatic 111, 3) := by decide +kernel
theorem dX11_as_23 : decode cX11_as 23 = .ok (.ifCond .ne 10, 3) := by decide +kernel
theorem dX11_as_26 : decode cX11_as 26 = .ok (.aload_n 0, 1) := by decide +kernel
theorem dX11_as_27 : decode cX11_as 27 = .ok (.bipush (-2), 2) := by decide +kernel
theorem dX11_as_29 : decode cX11_as 29 = .ok (.invokevirtual 148, 3) := by decide +kernel
theorem dX11_as_32 : decode cX11_as 32 = .ok (.ireturn, 1) := by decide +kernel
theorem dX11_as_33 : decode cX11_as 33 = .ok (.aload_n 0, 1) := by decide +kernel
theorem dX11_as_34 : decode cX11_as 34 = .ok (.getfield 49, 3) := by decide +kernel
theorem dX11_as_37 : decode cX11_as 37 = .ok (.iload_n 1, 1) := by decide +kernel
theorem dX11_as_38 : decode cX11_as 38 = .ok (.iaload, 1) := by decide +kernel
theorem dX11_as_39 : decode cX11_as 39 = .ok (.iload_n 2, 1) := by decide +kernel
theorem dX11_as_40 : decode cX11_as 40 = .ok (.if_icmp .lt 11, 3) := by decide +kernel
theorem dX11_as_43 : decode cX11_as 43 = .ok (.aload_n 0, 1) := by decide +kernel
theorem dX11_as_44 : decode cX11_as 44 = .ok (.iconst 1, 1) := by decide +kernel
theorem dX11_as_45 : decode cX11_as 45 = .ok (.invokevirtual 148, 3) := by decide +kernel
theorem dX11_as_48 : decode cX11_as 48 = .ok (.goto 8, 3) := by decide +kernel
theorem dX11_as_51 : decode cX11_as 51 = .ok (.aload_n 0, 1) := by decide +kernel
theorem dX11_as_52 : decode cX11_as 52 = .ok (.iconst 2, 1) := by decide +kernel
theorem dX11_as_53 : decode cX11_as 53 = .ok (.invokevirtual 153, 3) := by decide +kernel
theorem dX11_as_56 : decode cX11_as 56 = .ok (.ireturn, 1) := by decide +kernel
theorem dX11_trace_0 : decode cX11_trace 0 = .ok (.aload_n 0, 1) := by decide +kernel
theorem dX11_trace_1 : decode cX11_trace 1 = .ok (.getfield 235, 3) := by decide +kernel
theorem dX11_trace_4 : decode cX11_trace 4 = .ok (.ireturn, 1) := by decide +kernel
theorem dX11_fault_0 : decode cX11_fault 0 = .ok (.aload_n 0, 1) := by decide +kernel
theorem dX11_fault_1 : decode cX11_fault 1 = .ok (.getfield 102, 3) := by decide +kernel
theorem dX11_fault_4 : decode cX11_fault 4 = .ok (.ireturn, 1) := by decide +kernel
theorem dX11_told_0 : decode cX11_told 0 = .ok (.iload_n 1, 1) := by decide +kernel
theorem dX11_told_1 : decode cX11_told 1 = .ok (.tableswitch 111 0 7 #[47, 52, 57, 62, 67, 72, 89, 94], 47) := by decide +kernel
theorem dX11_told_48 : decode cX11_told 48 = .ok (.aload_n 0, 1) := by decide +kernel
theorem dX11_told_49 : decode cX11_told 49 = .ok (.getfield 170, 3) := by decide +kernel
theorem dX11_told_52 : decode cX11_told 52 = .ok (.ireturn, 1) := by decide +kernel
theorem dX11_told_53 : decode cX11_told 53 = .ok (.aload_n 0, 1) := by decide +kernel
theorem dX11_told_54 : decode cX11_told 54 = .ok (.getfield 185, 3) := by decide +kernel
theorem dX11_told_57 : decode cX11_told 57 = .ok (.ireturn, 1) := by decide +kernel
theorem dX11_told_58 : decode cX11_told 58 = .ok (.aload_n 0, 1) := by decide +kernel
theorem dX11_told_59 : decode cX11_told 59 = .ok (.getfield 188, 3) := by decide +kernel
theorem dX11_told_62 : decode cX11_told 62 = .ok (.ireturn, 1) := by decide +kernel
theorem dX11_told_63 : decode cX11_told 63 = .ok (.aload_n 0, 1) := by decide +kernel
theorem dX11_told_64 : decode cX11_told 64 = .ok (.getfield 217, 3) := by decide +kernel
theorem dX11_told_67 : decode cX11_told 67 = .ok (.ireturn, 1) := by decide +kernel
theorem dX11_told_68 : decode cX11_told 68 = .ok (.aload_n 0, 1) := by decide +kernel
theorem dX11_told_69 : decode cX11_told 69 = .ok (.getfield 93, 3) := by decide +kernel
theorem dX11_told_72 : decode cX11_told 72 = .ok (.ireturn, 1) := by decide +kernel
theorem dX11_told_73 : decode cX11_told 73 = .ok (.aload_n 0, 1) := by decide +kernel
theorem dX11_told_74 : decode cX11_told 74 = .ok (.getfield 97, 3) := by decide +kernel
theorem dX11_told_77 : decode cX11_told 77 = .ok (.ifCond .ge 8, 3) := by decide +kernel
theorem dX11_told_80 : decode cX11_told 80 = .ok (.bipush (-9), 2) := by decide +kernel
theorem dX11_told_82 : decode cX11_told 82 = .ok (.goto 7, 3) := by decide +kernel
theorem dX11_told_85 : decode cX11_told 85 = .ok (.aload_n 0, 1) := by decide +kernel
theorem dX11_told_86 : decode cX11_told 86 = .ok (.getfield 199, 3) := by decide +kernel
theorem dX11_told_89 : decode cX11_told 89 = .ok (.ireturn, 1) := by decide +kernel
theorem dX11_told_90 : decode cX11_told 90 = .ok (.aload_n 0, 1) := by decide +kernel
theorem dX11_told_91 : decode cX11_told 91 = .ok (.getfield 97, 3) := by decide +kernel
theorem dX11_told_94 : decode cX11_told 94 = .ok (.ireturn, 1) := by decide +kernel
theorem dX11_told_95 : decode cX11_told 95 = .ok (.aload_n 0, 1) := by decide +kernel
theorem dX11_told_96 : decode cX11_told 96 = .ok (.getfield 97, 3) := by decide +kernel
theorem dX11_told_99 : decode cX11_told 99 = .ok (.ifCond .ge 8, 3) := by decide +kernel
theorem dX11_told_102 : decode cX11_told 102 = .ok (.bipush (-9), 2) := by decide +kernel
theorem dX11_told_104 : decode cX11_told 104 = .ok (.goto 7, 3) := by decide +kernel
theorem dX11_told_107 : decode cX11_told 107 = .ok (.aload_n 0, 1) := by decide +kernel
theorem dX11_told_108 : decode cX11_told 108 = .ok (.getfield 196, 3) := by decide +kernel
theorem dX11_told_111 : decode cX11_told 111 = .ok (.ireturn, 1) := by decide +kernel
theorem dX11_told_112 : decode cX11_told 112 = .ok (.bipush (-2), 2) := by decide +kernel
theorem dX11_told_114 : decode cX11_told 114 = .ok (.ireturn, 1) := by decide +kernel
theorem dJ9_max_7cf53_0 : decode cJ9_max_7cf53 0 = .ok (.iload_n 0, 1) := by decide +kernel
theorem dJ9_max_7cf53_1 : decode cJ9_max_7cf53 1 = .ok (.iload_n 1, 1) := by decide +kernel
theorem dJ9_max_7cf53_2 : decode cJ9_max_7cf53 2 = .ok (.if_icmp .lt 7, 3) := by decide +kernel
theorem dJ9_max_7cf53_5 : decode cJ9_max_7cf53 5 = .ok (.iload_n 0, 1) := by decide +kernel
theorem dJ9_max_7cf53_6 : decode cJ9_max_7cf53 6 = .ok (.goto 4, 3) := by decide +kernel
theorem dJ9_max_7cf53_9 : decode cJ9_max_7cf53 9 = .ok (.iload_n 1, 1) := by decide +kernel
theorem dJ9_max_7cf53_10 : decode cJ9_max_7cf53 10 = .ok (.ireturn, 1) := by decide +kernel
theorem dJ9_max_f86c9_0 : decode cJ9_max_f86c9 0 = .ok (.lload_n 0, 1) := by decide +kernel
theorem dJ9_max_f86c9_1 : decode cJ9_max_f86c9 1 = .ok (.lload_n 2, 1) := by decide +kernel
theorem dJ9_max_f86c9_2 : decode cJ9_max_f86c9 2 = .ok (.lcmp, 1) := by decide +kernel
theorem dJ9_max_f86c9_3 : decode cJ9_max_f86c9 3 = .ok (.ifCond .lt 7, 3) := by decide +kernel
theorem dJ9_max_f86c9_6 : decode cJ9_max_f86c9 6 = .ok (.lload_n 0, 1) := by decide +kernel
theorem dJ9_max_f86c9_7 : decode cJ9_max_f86c9 7 = .ok (.goto 4, 3) := by decide +kernel
theorem dJ9_max_f86c9_10 : decode cJ9_max_f86c9 10 = .ok (.lload_n 2, 1) := by decide +kernel
theorem dJ9_max_f86c9_11 : decode cJ9_max_f86c9 11 = .ok (.lreturn, 1) := by decide +kernel
theorem dJ9_min_7cf53_0 : decode cJ9_min_7cf53 0 = .ok (.iload_n 0, 1) := by decide +kernel
theorem dJ9_min_7cf53_1 : decode cJ9_min_7cf53 1 = .ok (.iload_n 1, 1) := by decide +kernel
theorem dJ9_min_7cf53_2 : decode cJ9_min_7cf53 2 = .ok (.if_icmp .gt 7, 3) := by decide +kernel
theorem dJ9_min_7cf53_5 : decode cJ9_min_7cf53 5 = .ok (.iload_n 0, 1) := by decide +kernel
theorem dJ9_min_7cf53_6 : decode cJ9_min_7cf53 6 = .ok (.goto 4, 3) := by decide +kernel
theorem dJ9_min_7cf53_9 : decode cJ9_min_7cf53 9 = .ok (.iload_n 1, 1) := by decide +kernel
theorem dJ9_min_7cf53_10 : decode cJ9_min_7cf53 10 = .ok (.ireturn, 1) := by decide +kernel
theorem dJ7_fill_53178_0 : decode cJ7_fill_53178 0 = .ok (.iconst 0, 1) := by decide +kernel
theorem dJ7_fill_53178_1 : decode cJ7_fill_53178 1 = .ok (.istore_n 2, 1) := by decide +kernel
theorem dJ7_fill_53178_2 : decode cJ7_fill_53178 2 = .ok (.aload_n 0, 1) := by decide +kernel
theorem dJ7_fill_53178_3 : decode cJ7_fill_53178 3 = .ok (.arraylength, 1) := by decide +kernel
theorem dJ7_fill_53178_4 : decode cJ7_fill_53178 4 = .ok (.istore_n 3, 1) := by decide +kernel
theorem dJ7_fill_53178_5 : decode cJ7_fill_53178 5 = .ok (.iload_n 2, 1) := by decide +kernel
theorem dJ7_fill_53178_6 : decode cJ7_fill_53178 6 = .ok (.iload_n 3, 1) := by decide +kernel
theorem dJ7_fill_53178_7 : decode cJ7_fill_53178 7 = .ok (.if_icmp .ge 13, 3) := by decide +kernel
theorem dJ7_fill_53178_10 : decode cJ7_fill_53178 10 = .ok (.aload_n 0, 1) := by decide +kernel
theorem dJ7_fill_53178_11 : decode cJ7_fill_53178 11 = .ok (.iload_n 2, 1) := by decide +kernel
theorem dJ7_fill_53178_12 : decode cJ7_fill_53178 12 = .ok (.iload_n 1, 1) := by decide +kernel
theorem dJ7_fill_53178_13 : decode cJ7_fill_53178 13 = .ok (.iastore, 1) := by decide +kernel
theorem dJ7_fill_53178_14 : decode cJ7_fill_53178 14 = .ok (.iinc 2 1, 3) := by decide +kernel
theorem dJ7_fill_53178_17 : decode cJ7_fill_53178 17 = .ok (.goto (-12), 3) := by decide +kernel
theorem dJ7_fill_53178_20 : decode cJ7_fill_53178 20 = .ok (.return_, 1) := by decide +kernel
set_option maxRecDepth 20000 in
theorem ggL_law_X10_init : GoodIn wsL_law wsX10_init := goodIn_r _ [8, 9, 10, 11, 12, 13, 14, 15, 16, 17, 18, 19, 20, 21, 22, 23, 24, 25, 26, 27, 28, 29, 30, 31, 32, 33, 34, 35, 36, 37, 38, 39, 40, 41, 42, 43, 44, 45, 46, 47, 48, 49, 50, 51, 52, 53, 54, 848, 849, 850, 851, 852, 796, 797, 798, 799, 800, 801, 802, 803, 804, 805, 806, 807, 808, 853, 854, 855, 856] (by decide +kernel) (by decide +kernel)
set_option maxRecDepth 20000 in
theorem gL_law_X10_init : GoodIn wsL_law (wsX10_init) := ggL_law_X10_init
set_option maxRecDepth 20000 in
theorem ggL_law_X11_init : GoodIn wsL_law wsX11_init := goodIn_r _ [57, 58, 10, 11, 37, 59, 60, 61, 62, 63, 64, 65, 66, 67, 68, 69, 70, 71, 72, 73, 74, 75, 76, 77, 78, 79, 80, 81, 82, 83, 84, 85, 86, 87, 88, 89, 809, 810, 811, 812, 813, 814, 815, 816, 817, 818, 819, 820, 821, 822, 823, 824, 825, 826, 827, 828, 829, 830, 831, 832, 833, 834, 835, 836, 837, 838, 839, 840, 841, 842, 843, 844, 845, 846, 847] (by decide +kernel) (by decide +kernel)
set_option maxRecDepth 20000 in
theorem gL_law_X11_init : GoodIn wsL_law (wsX11_init) := ggL_law_X11_init
set_option maxRecDepth 20000 in
theorem ggL_law_X10_find : GoodIn wsL_law wsX10_find := goodIn_r _ [93, 15, 94, 95, 96, 14, 97, 98, 2, 99, 100, 101, 102, 103, 104, 38, 40, 105, 106, 107, 108, 39, 41, 109, 110, 111, 112, 113, 114, 115, 116, 117, 118, 119, 120, 121, 122, 123, 124, 125, 126, 42, 127, 128, 129, 130, 131, 132, 133, 134, 135, 796, 797, 798, 799, 800, 801, 802, 803, 804, 805, 806, 807, 808, 848, 849, 850, 851, 852] (by decide +kernel) (by decide +kernel)
set_option maxRecDepth 20000 in
theorem gL_law_X10_find : GoodIn wsL_law (wsV RL 13 RX10 yX10_find wsX10_find) := goodIn_app (goodIn_r _ [90, 91, 92, 2] (by decide +kernel) (by decide +kernel)) ggL_law_X10_find
set_option maxRecDepth 20000 in
theorem ggL_law_X11_find : GoodIn wsL_law wsX11_find := goodIn_r _ [139, 140, 88, 141, 142, 5, 143, 144, 145, 146, 147, 148, 149, 150, 151, 152, 61, 59, 62, 60, 153, 154, 155, 156, 157, 158, 159, 160, 161, 162, 163, 164, 165, 809, 810, 811, 812, 813, 814, 815, 816, 817, 818, 819, 820, 821, 822, 823, 824, 825, 826, 827, 828, 829, 830, 831, 832, 833, 834, 835, 836, 837, 838, 839, 840, 841, 842, 843, 844, 845, 846, 847] (by decide +kernel) (by decide +kernel)
set_option maxRecDepth 20000 in
theorem gL_law_X11_find : GoodIn wsL_law (wsV RL 17 RX11 yX11_find wsX11_find) := goodIn_app (goodIn_r _ [136, 137, 138, 5] (by decide +kernel) (by decide +kernel)) ggL_law_X11_find
set_option maxRecDepth 20000 in
theorem ggL_law_X10_rise : GoodIn wsL_law wsX10_rise := goodIn_r _ [169, 15, 94, 100, 98, 2, 99, 101, 102, 103, 14, 104, 38, 40, 105, 106, 107, 108, 39, 41, 123, 124, 125, 126, 42, 127, 128, 129, 130, 131, 132, 133, 134, 135, 113, 114, 115, 116, 117, 118, 119, 120, 121, 122, 796, 797, 798, 799, 800, 801, 802, 803, 804, 805, 806, 807, 808, 848, 849, 850, 851, 852] (by decide +kernel) (by decide +kernel)
set_option maxRecDepth 20000 in
theorem gL_law_X10_rise : GoodIn wsL_law (wsV RL 18 RX10 yX10_rise wsX10_rise) := goodIn_app (goodIn_r _ [166, 167, 168, 2] (by decide +kernel) (by decide +kernel)) ggL_law_X10_rise
set_option maxRecDepth 20000 in
theorem ggL_law_X11_rise : GoodIn wsL_law wsX11_rise := goodIn_r _ [173, 140, 88, 146, 147, 5, 148, 149, 150, 151, 152, 61, 59, 62, 60, 158, 159, 160, 161, 157, 162, 163, 164, 165, 141, 142, 143, 144, 145, 153, 154, 155, 156, 809, 810, 811, 812, 813, 814, 815, 816, 817, 818, 819, 820, 821, 822, 823, 824, 825, 826, 827, 828, 829, 830, 831, 832, 833, 834, 835, 836, 837, 838, 839, 840, 841, 842, 843, 844, 845, 846, 847] (by decide +kernel) (by decide +kernel)
set_option maxRecDepth 20000 in
theorem gL_law_X11_rise : GoodIn wsL_law (wsV RL 22 RX11 yX11_rise wsX11_rise) := goodIn_app (goodIn_r _ [170, 171, 172, 5] (by decide +kernel) (by decide +kernel)) ggL_law_X11_rise
set_option maxRecDepth 20000 in
theorem ggL_law_X10_good : GoodIn wsL_law wsX10_good := goodIn_r _ [177, 15, 178, 179, 95, 96, 14, 97, 98, 2, 99, 100, 109, 110, 111, 796, 797, 798, 799, 800, 801, 802, 803, 804, 805, 806, 807, 808, 848, 849, 850, 851, 852] (by decide +kernel) (by decide +kernel)
set_option maxRecDepth 20000 in
theorem gL_law_X10_good : GoodIn wsL_law (wsV RL 23 RX10 yX10_good wsX10_good) := goodIn_app (goodIn_r _ [174, 175, 176, 2] (by decide +kernel) (by decide +kernel)) ggL_law_X10_good
set_option maxRecDepth 20000 in
theorem ggL_law_X11_good : GoodIn wsL_law wsX11_good := goodIn_r _ [183, 59, 60, 141, 142, 5, 143, 144, 145, 146, 147, 148, 809, 810, 811, 812, 813, 814, 815, 816, 817, 818, 819, 820, 821, 822, 823, 824, 825, 826, 827, 828, 829, 830, 831, 832, 833, 834, 835, 836, 837, 838, 839, 840, 841, 842, 843, 844, 845, 846, 847] (by decide +kernel) (by decide +kernel)
set_option maxRecDepth 20000 in
theorem gL_law_X11_good : GoodIn wsL_law (wsV RL 27 RX11 yX11_good wsX11_good) := goodIn_app (goodIn_r _ [180, 181, 182, 5] (by decide +kernel) (by decide +kernel)) ggL_law_X11_good
set_option maxRecDepth 20000 in
theorem ggL_law_X10_chart : GoodIn wsL_law wsX10_chart := goodIn_r _ [187, 32, 15, 188, 94, 189, 190, 191, 2, 192, 27, 100, 98, 99, 193, 194, 26, 195, 196, 197, 198, 199, 200, 201, 202, 51, 203, 204, 205, 206, 207, 208, 209, 210, 211, 212, 213, 214, 215, 216, 217, 218, 219, 50, 101, 102, 103, 14, 104, 38, 40, 105, 106, 107, 108, 39, 41, 112, 113, 114, 115, 116, 117, 118, 119, 120, 121, 122, 123, 124, 125, 126, 42, 127, 128, 129, 130, 131, 132, 133, 134, 135, 796, 797, 798, 799, 800, 801, 802, 803, 804, 805, 806, 807, 808, 853, 854, 855, 848, 849, 850, 851, 852] (by decide +kernel) (by decide +kernel)
set_option maxRecDepth 20000 in
theorem gL_law_X10_chart : GoodIn wsL_law (wsV RL 28 RX10 yX10_chart wsX10_chart) := goodIn_app (goodIn_r _ [184, 185, 186, 2] (by decide +kernel) (by decide +kernel)) ggL_law_X10_chart
set_option maxRecDepth 20000 in
theorem ggL_law_X11_chart : GoodIn wsL_law wsX11_chart := goodIn_r _ [223, 224, 225, 63, 64, 65, 88, 226, 227, 5, 228, 229, 146, 147, 148, 230, 231, 232, 233, 234, 235, 236, 237, 238, 239, 240, 241, 149, 150, 151, 152, 61, 59, 62, 60, 153, 154, 155, 156, 157, 158, 159, 160, 161, 162, 163, 164, 165, 141, 142, 143, 144, 145, 809, 810, 811, 812, 813, 814, 815, 816, 817, 818, 819, 820, 821, 822, 823, 824, 825, 826, 827, 828, 829, 830, 831, 832, 833, 834, 835, 836, 837, 838, 839, 840, 841, 842, 843, 844, 845, 846, 847] (by decide +kernel) (by decide +kernel)
set_option maxRecDepth 20000 in
theorem gL_law_X11_chart : GoodIn wsL_law (wsV RL 32 RX11 yX11_chart wsX11_chart) := goodIn_app (goodIn_r _ [220, 221, 222, 5] (by decide +kernel) (by decide +kernel)) ggL_law_X11_chart
set_option maxRecDepth 20000 in
theorem ggL_law_X10_pitch : GoodIn wsL_law wsX10_pitch := goodIn_r _ [245, 246, 17, 16, 247, 248, 95, 96, 14, 97, 98, 2, 99, 100, 249, 250, 251, 252, 253, 254, 255, 256, 257, 258, 259, 260, 261, 262, 263, 264, 10, 11, 265, 266, 796, 797, 798, 799, 800, 801, 802, 803, 804, 805, 806, 807, 808, 857, 858, 859, 860, 861, 862, 863, 864] (by decide +kernel) (by decide +kernel)
set_option maxRecDepth 20000 in
theorem gL_law_X10_pitch : GoodIn wsL_law (wsV RL 33 RX10 yX10_pitch wsX10_pitch) := goodIn_app (goodIn_r _ [242, 243, 244, 2] (by decide +kernel) (by decide +kernel)) ggL_law_X10_pitch
set_option maxRecDepth 20000 in
theorem ggL_law_X11_pitch : GoodIn wsL_law wsX11_pitch := goodIn_r _ [270, 271, 272, 69, 67, 70, 68, 71, 141, 142, 5, 143, 144, 145, 146, 147, 148, 809, 810, 811, 812, 813, 814, 815, 816, 817, 818, 819, 820, 821, 822, 823, 824, 825, 826, 827, 828, 829, 830, 831, 832, 833, 834, 835, 836, 837, 838, 839, 840, 841, 842, 843, 844, 845, 846, 847] (by decide +kernel) (by decide +kernel)
set_option maxRecDepth 20000 in
theorem gL_law_X11_pitch : GoodIn wsL_law (wsV RL 36 RX11 yX11_pitch wsX11_pitch) := goodIn_app (goodIn_r _ [267, 268, 269, 5] (by decide +kernel) (by decide +kernel)) ggL_law_X11_pitch
set_option maxRecDepth 20000 in
theorem ggL_law_X10_foretold : GoodIn wsL_law wsX10_foretold := goodIn_r _ [276, 277, 15, 178, 179, 278, 279, 280, 2, 281, 246, 17, 100, 98, 99, 282, 283, 284, 248, 285, 259, 260, 257, 258, 266, 286, 110, 14, 111, 796, 797, 798, 799, 800, 801, 802, 803, 804, 805, 806, 807, 808, 848, 849, 850, 851, 852, 857, 858, 859, 860, 861, 862, 863, 864] (by decide +kernel) (by decide +kernel)
set_option maxRecDepth 20000 in
theorem gL_law_X10_foretold : GoodIn wsL_law (wsV RL 37 RX10 yX10_foretold wsX10_foretold) := goodIn_app (goodIn_r _ [273, 274, 275, 2] (by decide +kernel) (by decide +kernel)) ggL_law_X10_foretold
set_option maxRecDepth 20000 in
theorem ggL_law_X11_foretold : GoodIn wsL_law wsX11_foretold := goodIn_r _ [290, 291, 292, 293, 5, 294, 272, 146, 147, 148, 295, 296, 297, 298, 299, 300, 301, 302, 59, 60, 71, 303, 304, 305, 306, 67, 69, 68, 70, 809, 810, 811, 812, 813, 814, 815, 816, 817, 818, 819, 820, 821, 822, 823, 824, 825, 826, 827, 828, 829, 830, 831, 832, 833, 834, 835, 836, 837, 838, 839, 840, 841, 842, 843, 844, 845, 846, 847] (by decide +kernel) (by decide +kernel)
set_option maxRecDepth 20000 in
theorem gL_law_X11_foretold : GoodIn wsL_law (wsV RL 41 RX11 yX11_foretold wsX11_foretold) := goodIn_app (goodIn_r _ [287, 288, 289, 5] (by decide +kernel) (by decide +kernel)) ggL_law_X11_foretold
set_option maxRecDepth 20000 in
theorem ggL_law_X10_gang : GoodIn wsL_law wsX10_gang := goodIn_r _ [310, 311, 19, 100, 98, 2, 99, 312, 313, 314, 315, 316, 317, 318, 319, 320, 18, 321, 322, 323, 324, 325, 326, 327, 328, 329, 330, 331, 332, 10, 11, 333, 334, 335, 796, 797, 798, 799, 800, 801, 802, 803, 804, 805, 806, 807, 808, 865, 866, 867, 868, 869, 870, 871, 872, 873, 874, 875, 876] (by decide +kernel) (by decide +kernel)
set_option maxRecDepth 20000 in
theorem gL_law_X10_gang : GoodIn wsL_law (wsV RL 42 RX10 yX10_gang wsX10_gang) := goodIn_app (goodIn_r _ [307, 308, 309, 2] (by decide +kernel) (by decide +kernel)) ggL_law_X10_gang
set_option maxRecDepth 20000 in
theorem ggL_law_X11_gang : GoodIn wsL_law wsX11_gang := goodIn_r _ [339, 225, 340, 72, 146, 147, 5, 148, 809, 810, 811, 812, 813, 814, 815, 816, 817, 818, 819, 820, 821, 822, 823, 824, 825, 826, 827, 828, 829, 830, 831, 832, 833, 834, 835, 836, 837, 838, 839, 840, 841, 842, 843, 844, 845, 846, 847] (by decide +kernel) (by decide +kernel)
set_option maxRecDepth 20000 in
theorem gL_law_X11_gang : GoodIn wsL_law (wsV RL 45 RX11 yX11_gang wsX11_gang) := goodIn_app (goodIn_r _ [336, 337, 338, 5] (by decide +kernel) (by decide +kernel)) ggL_law_X11_gang
set_option maxRecDepth 20000 in
theorem ggL_law_X10_auction : GoodIn wsL_law wsX10_auction := goodIn_r _ [344, 345, 346, 347, 348, 349, 278, 279, 280, 2, 281, 246, 17, 100, 98, 99, 350, 351, 352, 353, 10, 11, 354, 355, 857, 858, 859, 860, 861, 862, 863, 864, 796, 797, 798, 799, 800, 801, 802, 803, 804, 805, 806, 807, 808, 877, 878, 879, 880] (by decide +kernel) (by decide +kernel)
set_option maxRecDepth 20000 in
theorem gL_law_X10_auction : GoodIn wsL_law (wsV RL 46 RX10 yX10_auction wsX10_auction) := goodIn_app (goodIn_r _ [341, 342, 343, 2] (by decide +kernel) (by decide +kernel)) ggL_law_X10_auction
set_option maxRecDepth 20000 in
theorem ggL_law_X11_auction : GoodIn wsL_law wsX11_auction := goodIn_r _ [359, 360, 89, 361, 362, 363, 291, 292, 293, 5, 294, 272, 146, 147, 148, 364, 365, 366, 367, 368, 76, 79, 809, 810, 811, 812, 813, 814, 815, 816, 817, 818, 819, 820, 821, 822, 823, 824, 825, 826, 827, 828, 829, 830, 831, 832, 833, 834, 835, 836, 837, 838, 839, 840, 841, 842, 843, 844, 845, 846, 847] (by decide +kernel) (by decide +kernel)
set_option maxRecDepth 20000 in
theorem gL_law_X11_auction : GoodIn wsL_law (wsV RL 50 RX11 yX11_auction wsX11_auction) := goodIn_app (goodIn_r _ [356, 357, 358, 5] (by decide +kernel) (by decide +kernel)) ggL_law_X11_auction
set_option maxRecDepth 20000 in
theorem ggL_law_X10_bid : GoodIn wsL_law wsX10_bid := goodIn_r _ [372, 346, 373, 374, 375, 376, 377, 378, 379, 2, 380, 311, 19, 100, 98, 99, 381, 382, 383, 349, 384, 385, 355, 796, 797, 798, 799, 800, 801, 802, 803, 804, 805, 806, 807, 808, 877, 878, 879, 880, 869, 870, 871, 872, 873, 874, 875, 876, 865, 866, 867, 868] (by decide +kernel) (by decide +kernel)
set_option maxRecDepth 20000 in
theorem gL_law_X10_bid : GoodIn wsL_law (wsV RL 51 RX10 yX10_bid wsX10_bid) := goodIn_app (goodIn_r _ [369, 370, 371, 2] (by decide +kernel) (by decide +kernel)) ggL_law_X10_bid
set_option maxRecDepth 20000 in
theorem ggL_law_X11_bid : GoodIn wsL_law wsX11_bid := goodIn_r _ [389, 89, 362, 361, 363, 390, 391, 392, 5, 393, 340, 146, 147, 148, 394, 395, 396, 397, 368, 75, 79, 809, 810, 811, 812, 813, 814, 815, 816, 817, 818, 819, 820, 821, 822, 823, 824, 825, 826, 827, 828, 829, 830, 831, 832, 833, 834, 835, 836, 837, 838, 839, 840, 841, 842, 843, 844, 845, 846, 847] (by decide +kernel) (by decide +kernel)
set_option maxRecDepth 20000 in
theorem gL_law_X11_bid : GoodIn wsL_law (wsV RL 54 RX11 yX11_bid wsX11_bid) := goodIn_app (goodIn_r _ [386, 387, 388, 5] (by decide +kernel) (by decide +kernel)) ggL_law_X11_bid
set_option maxRecDepth 20000 in
theorem ggL_law_X10_strike : GoodIn wsL_law wsX10_strike := goodIn_r _ [401, 346, 402, 373, 403, 20, 404, 405, 376, 15, 178, 406, 179, 407, 21, 408, 409, 410, 411, 10, 11, 412, 413, 414, 415, 282, 283, 284, 248, 285, 259, 260, 257, 258, 266, 286, 110, 14, 111, 416, 417, 418, 419, 420, 421, 422, 423, 796, 797, 798, 799, 800, 801, 802, 803, 804, 805, 806, 807, 808, 877, 878, 879, 880, 881, 882, 883, 884, 885, 886, 887, 888, 889, 890, 891, 892, 848, 849, 850, 851, 852, 857, 858, 859, 860, 861, 862, 863, 864, 869, 870, 871, 872, 873, 874, 875, 876, 865, 866, 867, 868] (by decide +kernel) (by decide +kernel)
set_option maxRecDepth 20000 in
theorem gL_law_X10_strike : GoodIn wsL_law (wsV RL 55 RX10 yX10_strike wsX10_strike) := goodIn_app (goodIn_r _ [398, 399, 400, 2] (by decide +kernel) (by decide +kernel)) ggL_law_X10_strike
set_option maxRecDepth 20000 in
theorem ggL_law_X11_strike : GoodIn wsL_law wsX11_strike := goodIn_r _ [427, 89, 362, 368, 75, 363, 76, 77, 361, 80, 81, 299, 300, 301, 5, 302, 59, 60, 71, 303, 304, 305, 306, 67, 69, 68, 70, 146, 147, 148, 809, 810, 811, 812, 813, 814, 815, 816, 817, 818, 819, 820, 821, 822, 823, 824, 825, 826, 827, 828, 829, 830, 831, 832, 833, 834, 835, 836, 837, 838, 839, 840, 841, 842, 843, 844, 845, 846, 847] (by decide +kernel) (by decide +kernel)
set_option maxRecDepth 20000 in
theorem gL_law_X11_strike : GoodIn wsL_law (wsV RL 59 RX11 yX11_strike wsX11_strike) := goodIn_app (goodIn_r _ [424, 425, 426, 5] (by decide +kernel) (by decide +kernel)) ggL_law_X11_strike
set_option maxRecDepth 20000 in
theorem ggL_law_X10_about : GoodIn wsL_law wsX10_about := goodIn_r _ [431, 432, 433, 434, 435, 436, 345, 437, 438, 278, 279, 280, 2, 281, 246, 17, 100, 98, 99, 857, 858, 859, 860, 861, 862, 863, 864, 881, 882, 883, 884, 885, 886, 887, 888, 889, 890, 891, 892, 796, 797, 798, 799, 800, 801, 802, 803, 804, 805, 806, 807, 808] (by decide +kernel) (by decide +kernel)
set_option maxRecDepth 20000 in
theorem gL_law_X10_about : GoodIn wsL_law (wsV RL 60 RX10 yX10_about wsX10_about) := goodIn_app (goodIn_r _ [428, 429, 430, 2] (by decide +kernel) (by decide +kernel)) ggL_law_X10_about
set_option maxRecDepth 20000 in
theorem ggL_law_X11_about : GoodIn wsL_law wsX11_about := goodIn_r _ [442, 67, 68, 69, 70, 71, 291, 292, 293, 5, 294, 272, 146, 147, 148, 364, 365, 366, 367, 368, 76, 79, 443, 444, 445, 446, 809, 810, 811, 812, 813, 814, 815, 816, 817, 818, 819, 820, 821, 822, 823, 824, 825, 826, 827, 828, 829, 830, 831, 832, 833, 834, 835, 836, 837, 838, 839, 840, 841, 842, 843, 844, 845, 846, 847] (by decide +kernel) (by decide +kernel)
set_option maxRecDepth 20000 in
theorem gL_law_X11_about : GoodIn wsL_law (wsV RL 63 RX11 yX11_about wsX11_about) := goodIn_app (goodIn_r _ [439, 440, 441, 5] (by decide +kernel) (by decide +kernel)) ggL_law_X11_about
set_option maxRecDepth 20000 in
theorem ggL_law_X10_parcel : GoodIn wsL_law wsX10_parcel := goodIn_r _ [450, 451, 452, 23, 22, 453, 454, 455, 456, 457, 458, 459, 460, 2, 461, 403, 21, 100, 98, 99, 462, 463, 464, 465, 10, 11, 466, 467, 881, 882, 883, 884, 885, 886, 887, 888, 889, 890, 891, 892, 796, 797, 798, 799, 800, 801, 802, 803, 804, 805, 806, 807, 808, 893, 894] (by decide +kernel) (by decide +kernel)
set_option maxRecDepth 20000 in
theorem gL_law_X10_parcel : GoodIn wsL_law (wsV RL 64 RX10 yX10_parcel wsX10_parcel) := goodIn_app (goodIn_r _ [447, 448, 449, 2] (by decide +kernel) (by decide +kernel)) ggL_law_X10_parcel
set_option maxRecDepth 20000 in
theorem ggL_law_X11_parcel : GoodIn wsL_law wsX11_parcel := goodIn_r _ [471, 140, 79, 472, 85, 86, 87, 473, 474, 475, 5, 476, 368, 146, 147, 148, 809, 810, 811, 812, 813, 814, 815, 816, 817, 818, 819, 820, 821, 822, 823, 824, 825, 826, 827, 828, 829, 830, 831, 832, 833, 834, 835, 836, 837, 838, 839, 840, 841, 842, 843, 844, 845, 846, 847] (by decide +kernel) (by decide +kernel)
set_option maxRecDepth 20000 in
theorem gL_law_X11_parcel : GoodIn wsL_law (wsV RL 67 RX11 yX11_parcel wsX11_parcel) := goodIn_app (goodIn_r _ [468, 469, 470, 5] (by decide +kernel) (by decide +kernel)) ggL_law_X11_parcel
set_option maxRecDepth 20000 in
theorem ggL_law_X10_spend : GoodIn wsL_law wsX10_spend := goodIn_r _ [480, 481, 277, 451, 482, 483, 458, 459, 460, 2, 461, 403, 21, 100, 98, 99, 881, 882, 883, 884, 885, 886, 887, 888, 889, 890, 891, 892, 796, 797, 798, 799, 800, 801, 802, 803, 804, 805, 806, 807, 808] (by decide +kernel) (by decide +kernel)
set_option maxRecDepth 20000 in
theorem gL_law_X10_spend : GoodIn wsL_law (wsV RL 68 RX10 yX10_spend wsX10_spend) := goodIn_app (goodIn_r _ [477, 478, 479, 2] (by decide +kernel) (by decide +kernel)) ggL_law_X10_spend
set_option maxRecDepth 20000 in
theorem ggL_law_X11_spend : GoodIn wsL_law wsX11_spend := goodIn_r _ [487, 488, 79, 82, 83, 473, 474, 475, 5, 476, 368, 146, 147, 148, 295, 296, 297, 298, 809, 810, 811, 812, 813, 814, 815, 816, 817, 818, 819, 820, 821, 822, 823, 824, 825, 826, 827, 828, 829, 830, 831, 832, 833, 834, 835, 836, 837, 838, 839, 840, 841, 842, 843, 844, 845, 846, 847] (by decide +kernel) (by decide +kernel)
set_option maxRecDepth 20000 in
theorem gL_law_X11_spend : GoodIn wsL_law (wsV RL 72 RX11 yX11_spend wsX11_spend) := goodIn_app (goodIn_r _ [484, 485, 486, 5] (by decide +kernel) (by decide +kernel)) ggL_law_X11_spend
set_option maxRecDepth 20000 in
theorem ggL_law_X10_settle : GoodIn wsL_law wsX10_settle := goodIn_r _ [492, 451, 277, 493, 458, 459, 460, 2, 461, 403, 21, 100, 98, 99, 494, 495, 496, 405, 497, 413, 415, 498, 499, 500, 501, 502, 503, 118, 504, 505, 506, 507, 423, 414, 420, 508, 509, 510, 511, 322, 512, 513, 514, 515, 516, 517, 518, 317, 519, 520, 521, 522, 523, 524, 525, 526, 527, 320, 528, 529, 530, 531, 532, 533, 534, 881, 882, 883, 884, 885, 886, 887, 888, 889, 890, 891, 892, 796, 797, 798, 799, 800, 801, 802, 803, 804, 805, 806, 807, 808, 869, 870, 871, 872, 873, 874, 875, 876, 865, 866, 867, 868, 857, 858, 859, 860, 861, 862, 863, 864] (by decide +kernel) (by decide +kernel)
set_option maxRecDepth 20000 in
theorem gL_law_X10_settle : GoodIn wsL_law (wsV RL 73 RX10 yX10_settle wsX10_settle) := goodIn_app (goodIn_r _ [489, 490, 491, 2] (by decide +kernel) (by decide +kernel)) ggL_law_X10_settle
set_option maxRecDepth 20000 in
theorem ggL_law_X11_settle : GoodIn wsL_law wsX11_settle := goodIn_r _ [538, 79, 75, 72, 74, 225, 77, 360, 82, 83, 84, 473, 474, 475, 5, 476, 368, 146, 147, 148, 295, 296, 297, 298, 539, 540, 541, 542, 472, 85, 86, 87, 809, 810, 811, 812, 813, 814, 815, 816, 817, 818, 819, 820, 821, 822, 823, 824, 825, 826, 827, 828, 829, 830, 831, 832, 833, 834, 835, 836, 837, 838, 839, 840, 841, 842, 843, 844, 845, 846, 847] (by decide +kernel) (by decide +kernel)
set_option maxRecDepth 20000 in
theorem gL_law_X11_settle : GoodIn wsL_law (wsV RL 77 RX11 yX11_settle wsX11_settle) := goodIn_app (goodIn_r _ [535, 536, 537, 5] (by decide +kernel) (by decide +kernel)) ggL_law_X11_settle
set_option maxRecDepth 20000 in
theorem ggL_law_X10_taken : GoodIn wsL_law wsX10_taken := goodIn_r _ [546, 547, 548, 455, 549, 550, 451, 456, 458, 459, 460, 2, 461, 403, 21, 100, 98, 99, 881, 882, 883, 884, 885, 886, 887, 888, 889, 890, 891, 892, 869, 870, 871, 872, 873, 874, 875, 876, 865, 866, 867, 868, 857, 858, 859, 860, 861, 862, 863, 864, 796, 797, 798, 799, 800, 801, 802, 803, 804, 805, 806, 807, 808] (by decide +kernel) (by decide +kernel)
set_option maxRecDepth 20000 in
theorem gL_law_X10_taken : GoodIn wsL_law (wsV RL 78 RX10 yX10_taken wsX10_taken) := goodIn_app (goodIn_r _ [543, 544, 545, 2] (by decide +kernel) (by decide +kernel)) ggL_law_X10_taken
set_option maxRecDepth 20000 in
theorem ggL_law_X11_taken : GoodIn wsL_law wsX11_taken := goodIn_r _ [554, 75, 76, 77, 79, 473, 474, 475, 5, 476, 368, 146, 147, 148, 555, 556, 557, 558, 472, 85, 809, 810, 811, 812, 813, 814, 815, 816, 817, 818, 819, 820, 821, 822, 823, 824, 825, 826, 827, 828, 829, 830, 831, 832, 833, 834, 835, 836, 837, 838, 839, 840, 841, 842, 843, 844, 845, 846, 847] (by decide +kernel) (by decide +kernel)
set_option maxRecDepth 20000 in
theorem gL_law_X11_taken : GoodIn wsL_law (wsV RL 81 RX11 yX11_taken wsX11_taken) := goodIn_app (goodIn_r _ [551, 552, 553, 5] (by decide +kernel) (by decide +kernel)) ggL_law_X11_taken
set_option maxRecDepth 20000 in
theorem ggL_law_X10_money : GoodIn wsL_law wsX10_money := goodIn_r _ [562, 277, 457, 482, 483, 493, 406, 407, 458, 459, 460, 2, 461, 403, 21, 100, 98, 99, 881, 882, 883, 884, 885, 886, 887, 888, 889, 890, 891, 892, 796, 797, 798, 799, 800, 801, 802, 803, 804, 805, 806, 807, 808] (by decide +kernel) (by decide +kernel)
set_option maxRecDepth 20000 in
theorem gL_law_X10_money : GoodIn wsL_law (wsV RL 82 RX10 yX10_money wsX10_money) := goodIn_app (goodIn_r _ [559, 560, 561, 2] (by decide +kernel) (by decide +kernel)) ggL_law_X10_money
set_option maxRecDepth 20000 in
theorem ggL_law_X11_money : GoodIn wsL_law wsX11_money := goodIn_r _ [566, 82, 83, 84, 80, 81, 473, 474, 475, 5, 476, 368, 146, 147, 148, 295, 296, 297, 298, 539, 540, 541, 542, 472, 85, 86, 87, 809, 810, 811, 812, 813, 814, 815, 816, 817, 818, 819, 820, 821, 822, 823, 824, 825, 826, 827, 828, 829, 830, 831, 832, 833, 834, 835, 836, 837, 838, 839, 840, 841, 842, 843, 844, 845, 846, 847] (by decide +kernel) (by decide +kernel)
set_option maxRecDepth 20000 in
theorem gL_law_X11_money : GoodIn wsL_law (wsV RL 85 RX11 yX11_money wsX11_money) := goodIn_app (goodIn_r _ [563, 564, 565, 5] (by decide +kernel) (by decide +kernel)) ggL_law_X11_money
set_option maxRecDepth 20000 in
theorem ggL_law_X10_debt : GoodIn wsL_law wsX10_debt := goodIn_r _ [570, 277, 571, 377, 378, 379, 2, 380, 311, 19, 100, 98, 99, 869, 870, 871, 872, 873, 874, 875, 876, 865, 866, 867, 868, 796, 797, 798, 799, 800, 801, 802, 803, 804, 805, 806, 807, 808] (by decide +kernel) (by decide +kernel)
set_option maxRecDepth 20000 in
theorem gL_law_X10_debt : GoodIn wsL_law (wsV RL 86 RX10 yX10_debt wsX10_debt) := goodIn_app (goodIn_r _ [567, 568, 569, 2] (by decide +kernel) (by decide +kernel)) ggL_law_X10_debt
